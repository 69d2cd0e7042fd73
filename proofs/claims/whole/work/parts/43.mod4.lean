theorem hq_ne {q : Nat} (hq : shp q = (11, 128)) : q ≠ 179 ∧ q ≠ 181 ∧ q ≠ 182 ∧ q ≠ 183 ∧ q ≠ 191 := ⟨fun z => by subst z; revert hq; decide, fun z => by subst z; revert hq; decide, fun z => by subst z; revert hq; decide, fun z => by subst z; revert hq; decide, fun z => by subst z; revert hq; decide⟩
theorem hq_q {q : Nat} (hq : shp q = (11, 128)) : q ≠ 181 ∧ q ≠ 182 ∧ q ≠ 183 := ⟨(hq_ne hq).2.1, (hq_ne hq).2.2.1, (hq_ne hq).2.2.2.1⟩
theorem wfY_of {S T : Nat → Nat → Int32} (h2 : T 179 2 = S 179 2) (h : ∀ k, (k = 181 ∨ k = 182 ∨ k = 183) → T k = S k) (hY : wfY S) : wfY T := by
  unfold wfY wfN
  rw [h2, h 181 (Or.inl rfl), h 182 (Or.inr (Or.inl rfl)), h 183 (Or.inr (Or.inr rfl))]
  exact hY
theorem wfY_q {S T : Nat → Nat → Int32} {q : Nat} (hq : shp q = (11, 128)) (h : ∀ k j, k ≠ q → T k j = S k j) (hY : wfY S) : wfY T :=
  wfY_of (h _ _ (hq_ne hq).1.symm) (fun k hk => funext (fun j => h k j (by obtain ⟨_, h1, h2, h3, _⟩ := hq_ne hq; omega))) hY
theorem wfR_row {S T : Nat → Nat → Int32} {q : Nat} (h : T q = S q) (hR : wfR S q) : wfR T q := by unfold wfR; rw [h]; exact hR
theorem wfR_of {S T : Nat → Nat → Int32} {q : Nat} (h20 : ¬ T q 20 < 0 ∧ ¬ 8 < T q 20) (hk : keP T q) (h : ∀ a, 26 ≤ a → a < 58 → T q a = S q a) (hR : wfR S q) : wfR T q := by
  refine ⟨h20, hk, fun a ha => ?_⟩
  rw [h (26 + a) (by omega) (by omega), h (42 + a) (by omega) (by omega)]
  exact hR.2.2 a ha
theorem kcM_fr {S : Nat → Nat → Int32} {q : Nat} {v : Int32} {k j : Nat} (hk : keP S q) (h : k ≠ q ∨ j < 122 ∨ 126 ≤ j) : kcM S q v k j = S k j := by
  have h3 := tn_le (M := 3) (k := 3) rfl (by decide) hk.1 hk.2
  have u : ∀ (T : Nat → Nat → Int32) (a : Nat) (w : Int32), 122 ≤ a → a < 126 → up2 T q a w k j = T k j := fun T a w h1 h2 => up2_ne (h.imp id (fun z => by omega))
  unfold kcM
  split
  · rfl
  split
  · rw [u _ _ _ (by decide) (by decide), u _ _ _ (by decide) (by decide), u _ _ _ (by decide) (by decide), u _ _ _ (by decide) (by decide), u _ _ _ (by decide) (by decide)]
  next c =>
    have : tn (S q 122) ≠ 3 := fun z => c (by rw [nI_self hk.1, show (S q 122).toNatClampNeg = 3 from z]; rfl)
    rw [u _ _ _ (by decide) (by decide), u _ _ _ (by omega) (by omega)]
theorem kcM_ke {S : Nat → Nat → Int32} {q : Nat} {v : Int32} (hk : keP S q) : keP (kcM S q v) q := by
  have h3 := tn_le (M := 3) (k := 3) rfl (by decide) hk.1 hk.2
  unfold kcM
  split
  · exact hk
  split
  · rw [keP, up2_same]; decide
  next c =>
    rw [keP, up2_same]
    have e := nI_self hk.1
    have hc : tn (S q 122) ≠ 3 := fun z => c (by rw [e, show (S q 122).toNatClampNeg = 3 from z]; rfl)
    rcases (show tn (S q 122) = 0 ∨ tn (S q 122) = 1 ∨ tn (S q 122) = 2 by omega) with z | z | z <;> rw [e, show (S q 122).toNatClampNeg = _ from z] <;> decide
theorem bsS_20 {S : Nat → Nat → Int32} {q : Nat} (hY : wfY S) (hR : wfR S q) : ¬ bsS S q q 20 < 0 ∧ ¬ 8 < bsS S q q 20 := by
  unfold bsS
  split
  · rw [up2_ne (Or.inr (by decide))]; exact hR.1
  split
  · exact hR.1
  next cI c =>
    clear cI
    have hh : hasY S (S q 21) := Decidable.byContradiction (fun z => c (Or.inl z))
    have hw := hY.2 _ (hY16 hY.1 hh).1
    rw [up2_ne (Or.inr (by decide))]
    generalize S q 21 = t at *
    have hx : ¬ S 181 (tn t) = 7 → tn (S 182 (tn t)) < 4 := fun z => tn_lt (M := 4) (k := 4) rfl (by decide) (hw.1 z).1 (hw.1 z).2
    have hy : (S 181 (tn t) = 3 ∨ S 181 (tn t) = 4) → tn (S 183 (tn t)) < 8 := fun z => tn_lt (M := 8) (k := 8) rfl (by decide) (hw.2.2 z).1 (hw.2.2 z).2
    have u : ∀ (T : Nat → Nat → Int32) (a : Nat) (v : Int32), a ≠ 20 → up2 T q a v q 20 = T q 20 := fun T a v ha => up2_ne (Or.inr (Ne.symm ha))
    unfold ypS
    by_cases d : S 181 (tn t) = 0
    · rw [if_pos d]; rw [u _ _ _ (by have := hx (by rw [d]; decide); omega)]; exact hR.1
    rw [if_neg d]
    clear d
    by_cases d : S 181 (tn t) = 1
    · rw [if_pos d]; rw [u _ _ _ (by have := hx (by rw [d]; decide); omega)]; exact hR.1
    rw [if_neg d]
    clear d
    by_cases d : S 181 (tn t) = 2
    · rw [if_pos d]; rw [u _ _ _ (by have := hx (by rw [d]; decide); omega)]; exact hR.1
    rw [if_neg d]
    clear d
    by_cases d : S 181 (tn t) = 3
    · rw [if_pos d]; rw [u _ _ _ (by have := hx (by rw [d]; decide); omega)]; exact hR.1
    rw [if_neg d]
    clear d
    by_cases d : S 181 (tn t) = 4
    · rw [if_pos d]; rw [u _ _ _ (by have := hy (Or.inr d); omega)]; exact hR.1
    rw [if_neg d]
    clear d
    by_cases d : S 181 (tn t) = 5
    · rw [if_pos d]; exact hR.1
    rw [if_neg d]
    clear d
    by_cases d : S 181 (tn t) = 6
    · rw [if_pos d]; exact hR.1
    rw [if_neg d]
    clear d
    by_cases d : S 181 (tn t) = 7
    · rw [if_pos d]; rw [up2_same]; exact dep_inc hR.1.1 (Int32.lt_of_le_of_ne (Int32.not_lt.mp hR.1.2) (fun z => c (Or.inr (Or.inl ⟨d, z⟩))))
    rw [if_neg d]
    clear d
    by_cases d : S 181 (tn t) = 8
    · rw [if_pos d]; rw [up2_same]; exact dep_dec (Int32.lt_of_le_of_ne (Int32.not_lt.mp hR.1.1) (fun z => c (Or.inr (Or.inr ⟨d, z.symm⟩)))) hR.1.2
    rw [if_neg d]
    clear d
    by_cases d : S 181 (tn t) = 9
    · rw [if_pos d]; rw [u _ _ _ (by have := hx (by rw [d]; decide); omega)]; exact hR.1
    rw [if_neg d]
    clear d
    by_cases d : S 181 (tn t) = 10
    · rw [if_pos d]; rw [u _ _ _ (by decide), u _ _ _ (by decide)]; exact hR.1
    rw [if_neg d]
    clear d
    rw [u _ _ _ (by decide)]; exact hR.1
theorem bsS_wfR {S : Nat → Nat → Int32} {q : Nat} (hY : wfY S) (hR : wfR S q) : wfR (bsS S q) q :=
  wfR_of (bsS_20 hY hR) (by rw [keP, bsS_hi hY hR (Or.inr (by decide))]; exact hR.2.1) (fun a h1 _ => bsS_hi hY hR (Or.inr (by omega))) hR
theorem spT_ke {S : Nat → Nat → Int32} {q : Nat} {p : Int32} (hk : keP S q) : keP (spT S q p) q := by
  unfold spT
  split
  · exact kcM_ke (by rw [keP, up2_ne (Or.inr (by decide))]; exact hk)
  · exact hk
theorem spT_fr {S : Nat → Nat → Int32} {q : Nat} {p : Int32} {k j : Nat} (hk : keP S q) (h : k ≠ q ∨ j < 122) : spT S q p k j = S k j := by
  unfold spT
  split
  · rw [kcM_fr (by rw [keP, up2_ne (Or.inr (by decide))]; exact hk) (h.imp id Or.inl), up2_ne (h.imp id (fun z => by omega))]
  · rfl
theorem spU_fr {S : Nat → Nat → Int32} {q k j : Nat} (h : k ≠ q ∨ j < 126) : spU S q k j = S k j := by
  unfold spU
  rw [up2_ne (h.imp id (fun z => by omega)), up2_ne (h.imp id (fun z => by omega))]
theorem bsS_ke {S : Nat → Nat → Int32} {q : Nat} (hY : wfY S) (hR : wfR S q) : keP (bsS S q) q := by rw [keP, bsS_hi hY hR (Or.inr (by decide))]; exact hR.2.1
theorem spS_fr {S : Nat → Nat → Int32} {q k j : Nat} (hY : wfY S) (hR : wfR S q) (h : k ≠ q ∨ (25 ≤ j ∧ j < 122)) : spS S q k j = S k j := by
  unfold spS
  split
  · rw [spU_fr (h.imp id (fun z => by omega)), spT_fr (bsS_ke hY hR) (h.imp id (fun z => by omega)), bsS_hi hY hR (h.imp id (fun z => by omega))]
  · exact bsS_hi hY hR (h.imp id (fun z => by omega))
theorem spS_wfR {S : Nat → Nat → Int32} {q : Nat} (hY : wfY S) (hR : wfR S q) : wfR (spS S q) q := by
  refine wfR_of ?_ ?_ (fun a h1 h2 => spS_fr hY hR (Or.inr (by omega))) hR
  · unfold spS
    split
    · rw [spU_fr (Or.inr (by decide)), spT_fr (bsS_ke hY hR) (Or.inr (by decide))]; exact bsS_20 hY hR
    · exact bsS_20 hY hR
  · unfold spS
    split
    · rw [keP, spU_fr (Or.inr (by decide))]; exact spT_ke (bsS_ke hY hR)
    · exact bsS_ke hY hR
theorem spS_wfY {S : Nat → Nat → Int32} {q : Nat} (hq : shp q = (11, 128)) (hY : wfY S) (hR : wfR S q) : wfY (spS S q) := wfY_q hq (fun _ _ h => spS_fr hY hR (Or.inl h)) hY
theorem bsS_wfY {S : Nat → Nat → Int32} {q : Nat} (hq : shp q = (11, 128)) (hY : wfY S) (hR : wfR S q) : wfY (bsS S q) := wfY_q hq (fun _ _ h => bsS_hi hY hR (Or.inl h)) hY
theorem isq_fr {S : Nat → Nat → Int32} {q k j : Nat} (hN : wfN S) (h : k ≠ q ∨ j < 90 ∨ 122 ≤ j) : isqS S q k j = S k j := by
  unfold isqS
  split
  next c =>
    have := (hY16 hN c.1).2
    split <;> exact up2_ne (h.imp id (fun z => by omega))
  · rfl
theorem rsS_fr {S : Nat → Nat → Int32} {q k j : Nat} (hN : wfN S) (h : k ≠ q ∨ j < 90 ∨ 122 ≤ j) : rsS S q k j = S k j := by
  unfold rsS
  split
  · rfl
  split
  · rfl
  · exact isq_fr hN h
theorem rsS_wfR {S : Nat → Nat → Int32} {q : Nat} (hN : wfN S) (hR : wfR S q) : wfR (rsS S q) q :=
  wfR_of (by rw [rsS_fr hN (Or.inr (Or.inl (by decide)))]; exact hR.1) (by rw [keP, rsS_fr hN (Or.inr (Or.inr (by decide)))]; exact hR.2.1) (fun a _ h2 => rsS_fr hN (Or.inr (Or.inl (by omega)))) hR
theorem rsS_wfY {S : Nat → Nat → Int32} {q : Nat} (hq : shp q = (11, 128)) (hY : wfY S) : wfY (rsS S q) := wfY_q hq (fun _ _ h => rsS_fr hY.1 (Or.inl h)) hY
/-- the cells of the row, laid by before a step -/
def ccK (S : Nat → Nat → Int32) (q k : Nat) : Nat → Nat → Int32 := va_up S 191 (fun j => if j < k then S q (4 + j) else S 191 j)
theorem ccK_0 (S : Nat → Nat → Int32) (q : Nat) : ccK S q 0 = S := by
  funext k j
  unfold ccK va_up
  by_cases hk : k = 191
  · subst hk; simp
  · simp [hk]
theorem ccK_s (S : Nat → Nat → Int32) {q : Nat} (hne : q ≠ 191) (p : Nat) : up2 (ccK S q p) 191 p (ccK S q p q (4 + p)) = ccK S q (p + 1) := by
  have e : ccK S q p q (4 + p) = S q (4 + p) := by unfold ccK va_up; rw [if_neg hne]
  rw [e]
  funext k j
  rw [up2_at]
  unfold ccK va_up
  by_cases hk : k = 191
  · subst hk
    simp only [true_and, if_pos]
    by_cases h1 : j = p
    · subst h1; rw [if_pos rfl, if_pos (by omega)]
    · rw [if_neg h1]
      by_cases h2 : j < p
      · rw [if_pos h2, if_pos (by omega)]
      · rw [if_neg h2, if_neg (by omega)]
  · simp [hk]
theorem ccK_ne {S : Nat → Nat → Int32} {q n k : Nat} (h : k ≠ 191) : ccK S q n k = S k := by unfold ccK va_up; rw [if_neg h]
theorem ccK_wfY {S : Nat → Nat → Int32} {q n : Nat} (h : wfY S) : wfY (ccK S q n) := wfY_of (by rw [ccK_ne (by decide)]) (fun k hk => ccK_ne (by omega)) h
theorem ccK_wfR {S : Nat → Nat → Int32} {q n : Nat} (hq : shp q = (11, 128)) (h : wfR S q) : wfR (ccK S q n) q := wfR_row (ccK_ne (hq_ne hq).2.2.2.2) h
def poL (q : Nat) (k d : Int32) : Nat → Nat → (Nat → Nat → Int32) → Int32 × (Nat → Nat → Int32)
  | 0, _, S => (5, S)
  | m + 1, t, S => if bsP (ccK S q 8) q then (if rsR (spS (ccK S q 8) q) q k d (nI t) = -9 then poL q k d m (t + 1) (rsS (spS (ccK S q 8) q) q) else (rsR (spS (ccK S q 8) q) q k d (nI t), rsS (spS (ccK S q 8) q) q)) else (4, spS (ccK S q 8) q)
def poF (S : Nat → Nat → Int32) (q : Nat) (k : Int32) : Int32 × (Nat → Nat → Int32) := if S q 22 = 1 then (3, S) else poL q k (S q 20) 99 1 S
set_option maxRecDepth 100000 in
set_option maxHeartbeats 4000000 in
theorem l_X10_planOnC (G : GT) (S : Nat → Nat → Int32) (L : Nat → Int64) (q : Nat) (hq : shp q = (11, 128)) (k d t : Int32) (rr : Option Value) (T : Nat → Nat → Int32) (hc : sv_V G R_X10_planOn RX10 "planOn" cX10_planOn 6 (some .int) (sPo G R_X10_planOn rr T L) 0 0 197 (CF G (ccK S q 8) L) 54 [(5, .int (nI 8)), (4, .int t), (3, .int d), (0, .ref (gB G + 179)), (1, .ref (gB G + q)), (2, .int k)] []) : ∀ (m j : Nat), 8 - j = m → j ≤ 8 → sv_V G R_X10_planOn RX10 "planOn" cX10_planOn 6 (some .int) (sPo G R_X10_planOn rr T L) 0 0 197 (CF G (ccK S q j) L) 28 [(5, .int (nI j)), (4, .int t), (3, .int d), (0, .ref (gB G + 179)), (1, .ref (gB G + q)), (2, .int k)] [] := by
  intro m
  induction m using Nat.strongRecOn
  rename_i m ih
  intro j hm hj
  refine sv_iload 0 dX10_planOn_28 rfl ?_
  refine sv_bipush (v := 8) dX10_planOn_30 (by decide) ?_
  refine sv_icmp_ge (tgt := 54) dX10_planOn_32 (by decide) (fun c32 => ?_) (fun c32 => ?_)
  · -- jump
    obtain rfl : j = 8 := by have := (nI_leI (a := 8) (b := j) (by omega) (by omega)).mp c32; omega
    exact hc
  · -- fall
    have h7 : j < 8 := Nat.lt_of_not_le (fun z => c32 (nI_le (a := 8) z (by omega)))
    refine sv_aload_n 3 dX10_planOn_35 rfl ?_
    refine sg_10_19 sh_179 fl_RX10_44 dX10_planOn_36 ?_
    refine sv_iload 0 dX10_planOn_39 rfl ?_
    refine sv_aload_n 4 dX10_planOn_41 rfl ?_
    refine sv_iconst (v := 4) dX10_planOn_42 (by decide) ?_
    refine sv_iload 0 dX10_planOn_43 rfl ?_
    refine sv_iadd dX10_planOn_45 ?_
    refine sx_ild hq (4 + j) (nI_add 4 j) (by omega) dX10_planOn_46 ?_
    refine sx_ist sh_191 j rfl (by omega) dX10_planOn_47 ?_
    refine sv_eqS (ccK_s S (hq_ne hq).2.2.2.2 j) ?_
    refine sv_iinc 0 (ls' := [(5, _), (4, _), (3, _), (0, _), (1, _), (2, _)]) dX10_planOn_48 rfl (nI_1 _) (by decide) rfl ?_
    refine sv_goto (tgt := 28) dX10_planOn_51 (by decide) ?_
    exact ih (8 - (j + 1)) (by omega) (j + 1) rfl (by omega)
set_option maxRecDepth 100000 in
set_option maxHeartbeats 4000000 in
theorem l_X10_planOn (G : GT) (L : Nat → Int64) (q : Nat) (hq : shp q = (11, 128)) (k d : Int32) : ∀ (m : Nat) (S : Nat → Nat → Int32) (t : Nat), 99 - t = m → t ≤ 99 → wfY S → wfR S q → sv_V G R_X10_planOn RX10 "planOn" cX10_planOn 6 (some .int) (sPo G R_X10_planOn (some (.int (poL q k d (m + 1) t S).1)) (poL q k d (m + 1) t S).2 L) 0 0 197 (CF G (ccK S q 8) L) 54 [(5, .int (nI 8)), (4, .int (nI t)), (3, .int d), (0, .ref (gB G + 179)), (1, .ref (gB G + q)), (2, .int k)] [] := by
  intro m
  induction m using Nat.strongRecOn
  rename_i m ih
  intro S t hm ht hY hR
  have hY1 : wfY (ccK S q 8) := ccK_wfY hY
  have hR1 : wfR (ccK S q 8) q := ccK_wfR hq hR
  have hY2 := spS_wfY hq hY1 hR1
  have hR2 := spS_wfR hY1 hR1
  rw [poL]
  refine sv_aload_n 3 dX10_planOn_54 rfl ?_
  refine sv_aload_n 4 dX10_planOn_55 rfl ?_
  refine cVi1 (e_X10_step G _ _ hY1 _ hq (hq_q hq) hR1) ⟨rfl, rfl⟩ (sv_w5 ml_RX10_179 im_X10_step sl_X10_step in_RX10 cd_X10_step) nm_X10_step ⟨Nat.le_of_ble_eq_true rfl, Nat.le_of_ble_eq_true rfl⟩ rfl (CF_10 sh_179) (shp_lt sh_179 (by simp)) (Nat.le_of_ble_eq_true rfl) ⟨Nat.le_of_ble_eq_true rfl, Nat.le_of_ble_eq_true rfl⟩ dX10_planOn_56 ?_
  refine sv_ifne_b (tgt := 64) dX10_planOn_59 (by decide) (fun c59 => ?_) (fun c59 => ?_)
  · -- jump
    refine sv_aload_n 3 dX10_planOn_64 rfl ?_
    refine sv_aload_n 4 dX10_planOn_65 rfl ?_
    refine sv_iload_n 5 dX10_planOn_66 rfl ?_
    refine sv_iload_n 2 dX10_planOn_67 rfl ?_
    refine sv_iload 1 dX10_planOn_68 rfl ?_
    refine cVi4 (e_X10_reason G _ _ hY2.1 _ hq hR2 _ _ _) ⟨rfl, rfl⟩ (sv_w5 ml_RX10_182 im_X10_reason sl_X10_reason in_RX10 cd_X10_reason) nm_X10_reason ⟨Nat.le_of_ble_eq_true rfl, Nat.le_of_ble_eq_true rfl⟩ rfl (CF_10 sh_179) (shp_lt sh_179 (by simp)) (Nat.le_of_ble_eq_true rfl) ⟨Nat.le_of_ble_eq_true rfl, Nat.le_of_ble_eq_true rfl⟩ dX10_planOn_70 ?_
    refine sv_istore (ls' := [(5, _), (4, _), (3, _), (0, _), (1, _), (2, _)]) dX10_planOn_73 (by decide) rfl ?_
    refine sv_iload 0 dX10_planOn_75 rfl ?_
    refine sv_bipush (v := (-9)) dX10_planOn_77 (by decide) ?_
    refine sv_icmp_eq (tgt := 85) dX10_planOn_79 (by decide) (fun c79 => ?_) (fun c79 => ?_)
    · -- jump
      refine sv_iinc 1 (ls' := [(4, _), (5, _), (3, _), (0, _), (1, _), (2, _)]) dX10_planOn_85 rfl (nI_1 _) (by decide) rfl ?_
      refine sv_goto (tgt := 18) dX10_planOn_88 (by decide) ?_
      refine sv_iload 0 dX10_planOn_18 rfl ?_
      refine sv_bipush (v := 100) dX10_planOn_20 (by decide) ?_
      refine sv_icmp_ge (tgt := 91) dX10_planOn_22 (by decide) (fun c22 => ?_) (fun c22 => ?_)
      · -- jump
        obtain rfl : m = 0 := by have := (nI_leI (a := 100) (b := t + 1) (by omega) (by omega)).mp c22; omega
        rw [if_pos c59, if_pos c79]
        refine sv_iconst (v := 5) dX10_planOn_91 (by decide) ?_
        exact se_iret rfl ⟨rfl, rfl⟩ dX10_planOn_92 rfl (by rfl)
      · -- fall
        refine sv_iconst (v := 0) dX10_planOn_25 (by decide) ?_
        refine sv_istore (ls' := [(5, _), (4, _), (3, _), (0, _), (1, _), (2, _)]) dX10_planOn_26 (by decide) rfl ?_
        have h7 : t + 1 < 100 := Nat.lt_of_not_le (fun z => c22 (nI_le (a := 100) z (by omega)))
        obtain ⟨m2, rfl⟩ : ∃ j, m = j + 1 := ⟨m - 1, by omega⟩
        rw [if_pos c59, if_pos c79]
        have h := l_X10_planOnC G _ L q hq k d _ _ _ (ih m2 (by omega) (rsS (spS (ccK S q 8) q) q) (t + 1) (by omega) (by omega) (rsS_wfY hq hY2) (rsS_wfR hY2.1 hR2)) 8 0 rfl (by omega)
        rw [ccK_0] at h
        exact h
    · -- fall
      refine sv_iload 0 dX10_planOn_82 rfl ?_
      exact se_iret rfl ⟨rfl, rfl⟩ dX10_planOn_84 (by rw [if_pos c59, if_neg c79]) (by rw [if_pos c59, if_neg c79])
  · -- fall
    refine sv_iconst (v := 4) dX10_planOn_62 (by decide) ?_
    exact se_iret rfl ⟨rfl, rfl⟩ dX10_planOn_63 (by rw [if_neg c59]) (by rw [if_neg c59])
set_option maxRecDepth 100000 in
set_option maxHeartbeats 4000000 in
theorem e_X10_planOn (G : GT) (S : Nat → Nat → Int32) (L : Nat → Int64) (hY : wfY S) (q : Nat) (hq : shp q = (11, 128)) (hR : wfR S q) (k : Int32) : sE G yX10_planOn R_X10_planOn cX10_planOn 6 (some .int) [.ref (gB G + 179), .ref (gB G + q), .int k] S L (some (.int (poF S q k).1)) (poF S q k).2 L := by
  refine sE.of (by decide) (Nat.le_of_ble_eq_true rfl) ?_
  show sv_V G R_X10_planOn RX10 "planOn" cX10_planOn 6 (some .int) (sPo G R_X10_planOn (some (.int (poF S q k).1)) (poF S q k).2 L) 0 0 197 (CF G S L) 0 [(0, .ref (gB G + 179)), (1, .ref (gB G + q)), (2, .int k)] []
  refine sv_aload_n 1 dX10_planOn_0 rfl ?_
  refine sv_bipush (v := 22) dX10_planOn_1 (by decide) ?_
  refine sx_ild hq 22 (by decide) (by decide) dX10_planOn_3 ?_
  refine sv_iconst (v := 1) dX10_planOn_4 (by decide) ?_
  refine sv_icmp_ne (tgt := 10) dX10_planOn_5 (by decide) (fun c5 => ?_) (fun c5 => ?_)
  · -- jump
    refine sv_aload_n 1 dX10_planOn_10 rfl ?_
    refine sv_bipush (v := 20) dX10_planOn_11 (by decide) ?_
    refine sx_ild hq 20 (by decide) (by decide) dX10_planOn_13 ?_
    refine sv_istore_n (ls' := [(3, _), (0, _), (1, _), (2, _)]) dX10_planOn_14 (by decide) rfl ?_
    refine sv_iconst (v := 1) dX10_planOn_15 (by decide) ?_
    refine sv_istore (ls' := [(4, _), (3, _), (0, _), (1, _), (2, _)]) dX10_planOn_16 (by decide) rfl ?_
    refine sv_iload 0 dX10_planOn_18 rfl ?_
    refine sv_bipush (v := 100) dX10_planOn_20 (by decide) ?_
    refine sv_icmp_ge (tgt := 91) dX10_planOn_22 (by decide) (fun c22 => ?_) (fun c22 => ?_)
    · -- jump
      exact absurd c22 (by decide)
    · -- fall
      refine sv_iconst (v := 0) dX10_planOn_25 (by decide) ?_
      refine sv_istore (ls' := [(5, _), (4, _), (3, _), (0, _), (1, _), (2, _)]) dX10_planOn_26 (by decide) rfl ?_
      rw [poF, if_neg c5]
      have h := l_X10_planOnC G _ L q hq k (S q 20) _ _ _ (l_X10_planOn G L q hq k (S q 20) 98 S 1 rfl (by omega) hY hR) 8 0 rfl (by omega)
      rw [ccK_0] at h
      exact h
  · -- fall
    refine sv_iconst (v := 3) dX10_planOn_8 (by decide) ?_
    exact se_iret rfl ⟨rfl, rfl⟩ dX10_planOn_9 (by rw [poF, if_pos c5]) (by rw [poF, if_pos c5])
def foE (S : Nat → Nat → Int32) : Int32 := if S 185 22 = 1 then 3 else 5
def foA (S : Nat → Nat → Int32) : Nat → Nat → Int32 := up2 (bsS S 185) 179 18 (bsS S 185 179 18 + 1)
def foL : Nat → (Nat → Nat → Int32) → Int32 × (Nat → Nat → Int32)
  | 0, S => (foE S, S)
  | m + 1, S => if S 185 22 = 0 then (if bsP S 185 then foL m (foA S) else (4, bsS S 185)) else (foE S, S)
def foF (S : Nat → Nat → Int32) : Int32 × (Nat → Nat → Int32) := foL 300 (up2 S 179 18 0)
theorem foA_wfY {S : Nat → Nat → Int32} (hY : wfY S) (hR : wfR S 185) : wfY (foA S) :=
  wfY_of (show up2 _ 179 18 _ 179 2 = _ from up2_ne (Or.inr (by decide))) (fun k hk => up2_row (by omega)) (bsS_wfY sh_185 hY hR)
theorem foA_wfR {S : Nat → Nat → Int32} (hY : wfY S) (hR : wfR S 185) : wfR (foA S) 185 := wfR_row (show up2 _ 179 18 _ 185 = _ from up2_row (by decide)) (bsS_wfR hY hR)
set_option maxRecDepth 100000 in
set_option maxHeartbeats 4000000 in
theorem l_X10_freeOn (G : GT) (L : Nat → Int64) : ∀ (m : Nat) (S : Nat → Nat → Int32) (j : Nat), 300 - j = m → j ≤ 300 → S 179 18 = nI j → wfY S → wfR S 185 → sv_V G R_X10_freeOn RX10 "freeOn" cX10_freeOn 1 (some .int) (sPo G R_X10_freeOn (some (.int (foL m S).1)) (foL m S).2 L) 0 0 197 (CF G S L) 5 [(0, .ref (gB G + 179))] [] := by
  intro m
  induction m using Nat.strongRecOn
  rename_i m ih
  intro S j hm hj hs hY hR
  refine sv_aload_n 0 dX10_freeOn_5 rfl ?_
  refine sg_10_7 sh_179 fl_RX10_25 dX10_freeOn_6 ?_
  refine sv_bipush (v := 22) dX10_freeOn_9 (by decide) ?_
  refine sx_ild sh_185 22 (by decide) (by decide) dX10_freeOn_11 ?_
  refine sv_if_ne (tgt := 51) dX10_freeOn_12 (by decide) (fun c12 => ?_) (fun c12 => ?_)
  · -- jump
    have hf : foL m S = (foE S, S) := by
      cases m with
      | zero => rfl
      | succ m2 => rw [foL, if_neg c12]
    refine sv_aload_n 0 dX10_freeOn_51 rfl ?_
    refine sg_10_7 sh_179 fl_RX10_25 dX10_freeOn_52 ?_
    refine sv_bipush (v := 22) dX10_freeOn_55 (by decide) ?_
    refine sx_ild sh_185 22 (by decide) (by decide) dX10_freeOn_57 ?_
    refine sv_iconst (v := 1) dX10_freeOn_58 (by decide) ?_
    refine sv_icmp_ne (tgt := 66) dX10_freeOn_59 (by decide) (fun c59 => ?_) (fun c59 => ?_)
    · -- jump
      refine sv_iconst (v := 5) dX10_freeOn_66 (by decide) ?_
      exact se_iret rfl ⟨rfl, rfl⟩ dX10_freeOn_67 (by rw [hf]; dsimp only; rw [foE, if_neg c59]) (by rw [hf])
    · -- fall
      refine sv_iconst (v := 3) dX10_freeOn_62 (by decide) ?_
      refine sv_goto (tgt := 67) dX10_freeOn_63 (by decide) ?_
      exact se_iret rfl ⟨rfl, rfl⟩ dX10_freeOn_67 (by rw [hf]; dsimp only; rw [foE, if_pos c59]) (by rw [hf])
  · -- fall
    refine sv_aload_n 0 dX10_freeOn_15 rfl ?_
    refine sg_10_18 sh_179 fl_RX10_186 dX10_freeOn_16 ?_
    refine sv_sipush (v := 300) dX10_freeOn_19 (by decide) ?_
    refine sv_icmp_ge (tgt := 51) dX10_freeOn_22 (by decide) (fun c22 => ?_) (fun c22 => ?_)
    · -- jump
      obtain rfl : m = 0 := by have := (nI_leI (a := 300) (b := j) (by omega) (by omega)).mp (by rw [← hs]; exact c22); omega
      have hf : foL 0 S = (foE S, S) := rfl
      refine sv_aload_n 0 dX10_freeOn_51 rfl ?_
      refine sg_10_7 sh_179 fl_RX10_25 dX10_freeOn_52 ?_
      refine sv_bipush (v := 22) dX10_freeOn_55 (by decide) ?_
      refine sx_ild sh_185 22 (by decide) (by decide) dX10_freeOn_57 ?_
      refine sv_iconst (v := 1) dX10_freeOn_58 (by decide) ?_
      refine sv_icmp_ne (tgt := 66) dX10_freeOn_59 (by decide) (fun c59 => ?_) (fun c59 => ?_)
      · -- jump
        refine sv_iconst (v := 5) dX10_freeOn_66 (by decide) ?_
        exact se_iret rfl ⟨rfl, rfl⟩ dX10_freeOn_67 (by rw [hf]; dsimp only; rw [foE, if_neg c59]) (by rw [hf])
      · -- fall
        refine sv_iconst (v := 3) dX10_freeOn_62 (by decide) ?_
        refine sv_goto (tgt := 67) dX10_freeOn_63 (by decide) ?_
        exact se_iret rfl ⟨rfl, rfl⟩ dX10_freeOn_67 (by rw [hf]; dsimp only; rw [foE, if_pos c59]) (by rw [hf])
    · -- fall
      have h7 : j < 300 := Nat.lt_of_not_le (fun z => c22 (by rw [hs]; exact nI_le (a := 300) z (by omega)))
      obtain ⟨m2, rfl⟩ : ∃ k, m = k + 1 := ⟨m - 1, by omega⟩
      rw [foL, if_pos c12]
      refine sv_aload_n 0 dX10_freeOn_25 rfl ?_
      refine sv_aload_n 0 dX10_freeOn_26 rfl ?_
      refine sg_10_7 sh_179 fl_RX10_25 dX10_freeOn_27 ?_
      refine cVi1 (e_X10_bareStep G _ _ hY _ sh_185 (by decide) hR) ⟨rfl, rfl⟩ (sv_w5 ml_RX10_152 im_X10_bareStep sl_X10_bareStep in_RX10 cd_X10_bareStep) nm_X10_bareStep ⟨Nat.le_of_ble_eq_true rfl, Nat.le_of_ble_eq_true rfl⟩ rfl (CF_10 sh_179) (shp_lt sh_179 (by simp)) (Nat.le_of_ble_eq_true rfl) ⟨Nat.le_of_ble_eq_true rfl, Nat.le_of_ble_eq_true rfl⟩ dX10_freeOn_30 ?_
      refine sv_ifne_b (tgt := 38) dX10_freeOn_33 (by decide) (fun c33 => ?_) (fun c33 => ?_)
      · -- jump
        refine sv_aload_n 0 dX10_freeOn_38 rfl ?_
        refine sv_dup dX10_freeOn_39 rfl ?_
        refine sg_10_18 sh_179 fl_RX10_186 dX10_freeOn_40 ?_
        refine sv_iconst (v := 1) dX10_freeOn_43 (by decide) ?_
        refine sv_iadd dX10_freeOn_44 ?_
        refine sp_10_18 sh_179 fl_RX10_186 dX10_freeOn_45 ?_
        refine sv_goto (tgt := 5) dX10_freeOn_48 (by decide) ?_
        rw [if_pos c33]
        exact ih m2 (by omega) (foA S) (j + 1) (by omega) (by omega) (by unfold foA; rw [up2_same, bsS_hi hY hR (Or.inl (by decide)), hs, nI_1]) (foA_wfY hY hR) (foA_wfR hY hR)
      · -- fall
        refine sv_iconst (v := 4) dX10_freeOn_36 (by decide) ?_
        exact se_iret rfl ⟨rfl, rfl⟩ dX10_freeOn_37 (by rw [if_neg c33]) (by rw [if_neg c33])
set_option maxRecDepth 100000 in
set_option maxHeartbeats 4000000 in
theorem e_X10_freeOn (G : GT) (S : Nat → Nat → Int32) (L : Nat → Int64) (hY : wfY S) (hR : wfR S 185) : sE G yX10_freeOn R_X10_freeOn cX10_freeOn 1 (some .int) [.ref (gB G + 179)] S L (some (.int (foF S).1)) (foF S).2 L := by
  refine sE.of (by decide) (Nat.le_of_ble_eq_true rfl) ?_
  show sv_V G R_X10_freeOn RX10 "freeOn" cX10_freeOn 1 (some .int) (sPo G R_X10_freeOn (some (.int (foF S).1)) (foF S).2 L) 0 0 197 (CF G S L) 0 [(0, .ref (gB G + 179))] []
  refine sv_aload_n 0 dX10_freeOn_0 rfl ?_
  refine sv_iconst (v := 0) dX10_freeOn_1 (by decide) ?_
  refine sp_10_18 sh_179 fl_RX10_186 dX10_freeOn_2 ?_
  exact l_X10_freeOn G L 300 (up2 S 179 18 0) 0 rfl (by omega) (up2_same _ _ _ _) (wfY_of (up2_ne (Or.inr (by decide))) (fun k hk => up2_row (by omega)) hY) (wfR_row (up2_row (by decide)) hR)
def coL (S : Nat → Nat → Int32) : Nat → Nat → Int32 → Int32
  | 0, _, x => x
  | m + 1, p, x => coL S m (p + 1) (x ||| (if 0 < S 184 (26 + p) then (1 : Int32) <<< (nI p &&& 31) else 0))
def coF (S : Nat → Nat → Int32) : Int32 := coL S (tn (S 179 2)) 0 0
def ulL (S : Nat → Nat → Int32) : Nat → Nat → Int32 → Int32
  | 0, _, x => x
  | m + 1, p, x => ulL S m (p + 1) (x + (if laF S p = nI p then 1 else 0))
def ulF (S : Nat → Nat → Int32) : Int32 := ulL S (tn (S 179 2)) 0 0
set_option maxRecDepth 100000 in
set_option maxHeartbeats 4000000 in
theorem l_X10_counted (G : GT) (S : Nat → Nat → Int32) (L : Nat → Int64) (N : Nat) (hN : S 179 2 = nI N) (h16 : N ≤ 16) : ∀ (m p : Nat) (x : Int32), N - p = m → p ≤ N → sv_V G R_X10_counted RX10 "counted" cX10_counted 3 (some .int) (sPo G R_X10_counted (some (.int (coL S m p x))) S L) 0 0 197 (CF G S L) 4 [(2, .int (nI p)), (1, .int x), (0, .ref (gB G + 179))] [] := by
  intro m
  induction m using Nat.strongRecOn
  rename_i m ih
  intro p x hm hp
  refine sv_iload_n 0 dX10_counted_4 rfl ?_
  refine sv_aload_n 2 dX10_counted_5 rfl ?_
  refine sg_10_2 sh_179 fl_RX10_70 dX10_counted_6 ?_
  refine sv_topE hN ?_
  refine sv_icmp_ge (tgt := 40) dX10_counted_9 (by decide) (fun c9 => ?_) (fun c9 => ?_)
  · -- jump
    obtain rfl : m = 0 := by have := (nI_leI (by omega) (by omega)).mp c9; omega
    refine sv_iload_n 1 dX10_counted_40 rfl ?_
    exact se_iret rfl ⟨rfl, rfl⟩ dX10_counted_41 rfl rfl
  · -- fall
    have h7 : p < N := Nat.lt_of_not_le (fun z => c9 (nI_le z (by omega)))
    obtain ⟨m2, rfl⟩ : ∃ k, m = k + 1 := ⟨m - 1, by omega⟩
    rw [coL]
    refine sv_iload_n 1 dX10_counted_12 rfl ?_
    refine sv_aload_n 2 dX10_counted_13 rfl ?_
    refine sg_10_6 sh_179 fl_RX10_22 dX10_counted_14 ?_
    refine sv_bipush (v := 26) dX10_counted_17 (by decide) ?_
    refine sv_iload_n 0 dX10_counted_19 rfl ?_
    refine sv_iadd dX10_counted_20 ?_
    refine sx_ild sh_184 (26 + p) (nI_add 26 p) (by omega) dX10_counted_21 ?_
    refine sv_if_le (tgt := 31) dX10_counted_22 (by decide) (fun c22 => ?_) (fun c22 => ?_)
    · -- jump
      refine sv_iconst (v := 0) dX10_counted_31 (by decide) ?_
      refine sv_ior dX10_counted_32 ?_
      refine sv_istore_n (ls' := [(1, _), (2, _), (0, _)]) dX10_counted_33 (by decide) rfl ?_
      refine sv_iinc 1 (ls' := [(2, _), (1, _), (0, _)]) dX10_counted_34 rfl (nI_1 _) (by decide) rfl ?_
      refine sv_goto (tgt := 4) dX10_counted_37 (by decide) ?_
      rw [if_neg (Int32.not_lt.mpr c22)]
      exact ih m2 (by omega) (p + 1) _ (by omega) (by omega)
    · -- fall
      refine sv_iconst (v := 1) dX10_counted_25 (by decide) ?_
      refine sv_iload_n 0 dX10_counted_26 rfl ?_
      refine sv_ishl dX10_counted_27 ?_
      refine sv_goto (tgt := 32) dX10_counted_28 (by decide) ?_
      refine sv_ior dX10_counted_32 ?_
      refine sv_istore_n (ls' := [(1, _), (2, _), (0, _)]) dX10_counted_33 (by decide) rfl ?_
      refine sv_iinc 1 (ls' := [(2, _), (1, _), (0, _)]) dX10_counted_34 rfl (nI_1 _) (by decide) rfl ?_
      refine sv_goto (tgt := 4) dX10_counted_37 (by decide) ?_
      rw [if_pos (Int32.not_le.mp c22)]
      exact ih m2 (by omega) (p + 1) _ (by omega) (by omega)
set_option maxRecDepth 100000 in
set_option maxHeartbeats 4000000 in
theorem e_X10_counted (G : GT) (S : Nat → Nat → Int32) (L : Nat → Int64) (hN : wfN S) : sE G yX10_counted R_X10_counted cX10_counted 3 (some .int) [.ref (gB G + 179)] S L (some (.int (coF S))) S L := by
  refine sE.of (by decide) (Nat.le_of_ble_eq_true rfl) ?_
  show sv_V G R_X10_counted RX10 "counted" cX10_counted 3 (some .int) (sPo G R_X10_counted (some (.int (coF S))) S L) 0 0 197 (CF G S L) 0 [(0, .ref (gB G + 179))] []
  refine sv_iconst (v := 0) dX10_counted_0 (by decide) ?_
  refine sv_istore_n (ls' := [(1, _), (0, _)]) dX10_counted_1 (by decide) rfl ?_
  refine sv_iconst (v := 0) dX10_counted_2 (by decide) ?_
  refine sv_istore_n (ls' := [(2, _), (1, _), (0, _)]) dX10_counted_3 (by decide) rfl ?_
  exact l_X10_counted G S L (tn (S 179 2)) (nI_self hN.1) (tn_16 hN.1 hN.2) _ 0 0 (by omega) (by omega)
set_option maxRecDepth 100000 in
set_option maxHeartbeats 4000000 in
theorem l_X10_unlike (G : GT) (S : Nat → Nat → Int32) (L : Nat → Int64) (N : Nat) (hN : S 179 2 = nI N) (h16 : N ≤ 16) : ∀ (m p : Nat) (x : Int32), N - p = m → p ≤ N → sv_V G R_X10_unlike RX10 "unlike" cX10_unlike 3 (some .int) (sPo G R_X10_unlike (some (.int (ulL S m p x))) S L) 0 0 197 (CF G S L) 4 [(2, .int (nI p)), (1, .int x), (0, .ref (gB G + 179))] [] := by
  intro m
  induction m using Nat.strongRecOn
  rename_i m ih
  intro p x hm hp
  refine sv_iload_n 0 dX10_unlike_4 rfl ?_
  refine sv_aload_n 2 dX10_unlike_5 rfl ?_
  refine sg_10_2 sh_179 fl_RX10_70 dX10_unlike_6 ?_
  refine sv_topE hN ?_
  refine sv_icmp_ge (tgt := 35) dX10_unlike_9 (by decide) (fun c9 => ?_) (fun c9 => ?_)
  · -- jump
    obtain rfl : m = 0 := by have := (nI_leI (by omega) (by omega)).mp c9; omega
    refine sv_iload_n 1 dX10_unlike_35 rfl ?_
    exact se_iret rfl ⟨rfl, rfl⟩ dX10_unlike_36 rfl rfl
  · -- fall
    have h7 : p < N := Nat.lt_of_not_le (fun z => c9 (nI_le z (by omega)))
    obtain ⟨m2, rfl⟩ : ∃ k, m = k + 1 := ⟨m - 1, by omega⟩
    rw [ulL]
    refine sv_iload_n 1 dX10_unlike_12 rfl ?_
    refine sv_aload_n 2 dX10_unlike_13 rfl ?_
    refine sv_iload_n 0 dX10_unlike_14 rfl ?_
    refine cVi1 (e_X10_leastAlike G _ _ p (by omega)) ⟨rfl, rfl⟩ (sv_w5 ml_RX10_149 im_X10_leastAlike sl_X10_leastAlike in_RX10 cd_X10_leastAlike) nm_X10_leastAlike ⟨Nat.le_of_ble_eq_true rfl, Nat.le_of_ble_eq_true rfl⟩ rfl (CF_10 sh_179) (shp_lt sh_179 (by simp)) (Nat.le_of_ble_eq_true rfl) ⟨Nat.le_of_ble_eq_true rfl, Nat.le_of_ble_eq_true rfl⟩ dX10_unlike_15 ?_
    refine sv_iload_n 0 dX10_unlike_18 rfl ?_
    refine sv_icmp_ne (tgt := 26) dX10_unlike_19 (by decide) (fun c19 => ?_) (fun c19 => ?_)
    · -- jump
      refine sv_iconst (v := 0) dX10_unlike_26 (by decide) ?_
      refine sv_iadd dX10_unlike_27 ?_
      refine sv_istore_n (ls' := [(1, _), (2, _), (0, _)]) dX10_unlike_28 (by decide) rfl ?_
      refine sv_iinc 1 (ls' := [(2, _), (1, _), (0, _)]) dX10_unlike_29 rfl (nI_1 _) (by decide) rfl ?_
      refine sv_goto (tgt := 4) dX10_unlike_32 (by decide) ?_
      rw [if_neg c19]
      exact ih m2 (by omega) (p + 1) _ (by omega) (by omega)
    · -- fall
      refine sv_iconst (v := 1) dX10_unlike_22 (by decide) ?_
      refine sv_goto (tgt := 27) dX10_unlike_23 (by decide) ?_
      refine sv_iadd dX10_unlike_27 ?_
      refine sv_istore_n (ls' := [(1, _), (2, _), (0, _)]) dX10_unlike_28 (by decide) rfl ?_
      refine sv_iinc 1 (ls' := [(2, _), (1, _), (0, _)]) dX10_unlike_29 rfl (nI_1 _) (by decide) rfl ?_
      refine sv_goto (tgt := 4) dX10_unlike_32 (by decide) ?_
      rw [if_pos c19]
      exact ih m2 (by omega) (p + 1) _ (by omega) (by omega)
set_option maxRecDepth 100000 in
set_option maxHeartbeats 4000000 in
theorem e_X10_unlike (G : GT) (S : Nat → Nat → Int32) (L : Nat → Int64) (hN : wfN S) : sE G yX10_unlike R_X10_unlike cX10_unlike 3 (some .int) [.ref (gB G + 179)] S L (some (.int (ulF S))) S L := by
  refine sE.of (by decide) (Nat.le_of_ble_eq_true rfl) ?_
  show sv_V G R_X10_unlike RX10 "unlike" cX10_unlike 3 (some .int) (sPo G R_X10_unlike (some (.int (ulF S))) S L) 0 0 197 (CF G S L) 0 [(0, .ref (gB G + 179))] []
  refine sv_iconst (v := 0) dX10_unlike_0 (by decide) ?_
  refine sv_istore_n (ls' := [(1, _), (0, _)]) dX10_unlike_1 (by decide) rfl ?_
  refine sv_iconst (v := 0) dX10_unlike_2 (by decide) ?_
  refine sv_istore_n (ls' := [(2, _), (1, _), (0, _)]) dX10_unlike_3 (by decide) rfl ?_
  exact l_X10_unlike G S L (tn (S 179 2)) (nI_self hN.1) (tn_16 hN.1 hN.2) _ 0 0 (by omega) (by omega)
