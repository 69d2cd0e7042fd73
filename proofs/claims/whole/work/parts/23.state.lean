set_option maxRecDepth 100000 in
set_option maxHeartbeats 4000000 in
theorem sw_X6_isDone_1 {G : GT} {R : Room} {own nm : String} {nL : Nat} {rt : Option FieldType} {Post : Option Value → Nat → Nat → Nat → (Nat → va_E) → Prop} {cells slots n : Nat} {f : Nat → va_E} {ls : List (Nat × Value)} {st : List Value} {x : Int32} (d : decode cX6_isDone 1 = .ok (.tableswitch 63 0 2 #[27, 29, 46], 27)) (k0 : x = 0 → sv_V G R own nm cX6_isDone nL rt Post cells slots n f 28 ls st) (k1 : x = 1 → sv_V G R own nm cX6_isDone nL rt Post cells slots n f 30 ls st) (k2 : x = 2 → sv_V G R own nm cX6_isDone nL rt Post cells slots n f 47 ls st) (kd : ¬ x = 0 ∧ ¬ x = 1 ∧ ¬ x = 2 → sv_V G R own nm cX6_isDone nL rt Post cells slots n f 64 ls st) : sv_V G R own nm cX6_isDone nL rt Post cells slots n f 1 ls (.int x :: st) := by
  by_cases h0 : x = 0
  · subst h0; exact sv_tableIn (tgt := 28) (off := 27) d (by decide) (by decide) (by decide) (by decide) (k0 rfl)
  by_cases h1 : x = 1
  · subst h1; exact sv_tableIn (tgt := 30) (off := 29) d (by decide) (by decide) (by decide) (by decide) (k1 rfl)
  by_cases h2 : x = 2
  · subst h2; exact sv_tableIn (tgt := 47) (off := 46) d (by decide) (by decide) (by decide) (by decide) (k2 rfl)
  refine sv_tableOut (tgt := 64) d ?_ (by decide) (kd ⟨h0, h1, h2⟩)
  have q0 := sw_ne h0 (by decide : (0 : Int32).toInt = 0)
  have q1 := sw_ne h1 (by decide : (1 : Int32).toInt = 1)
  have q2 := sw_ne h2 (by decide : (2 : Int32).toInt = 2)
  omega
theorem up2_twice (S : Nat → Nat → Int32) (k j : Nat) (v w : Int32) : up2 (up2 S k j v) k j w = up2 S k j w := by
  funext a b
  simp only [up2_at]
  by_cases h : a = k ∧ b = j
  · rw [if_pos h, if_pos h]
  · rw [if_neg h, if_neg h, if_neg h]
/-- the cell that the instruction of a place writes -/
def svF (S : Nat → Nat → Int32) (r : Nat) (p : Int32) : Int32 := if (¬ p < 0 ∧ ¬ S r 4 ≤ p) ∧ S (r + 1) (tn p) = 115 then S (r + 3) (tn p) else -9
set_option maxRecDepth 100000 in
set_option maxHeartbeats 4000000 in
theorem e_X4_savedCell (G : GT) (S : Nat → Nat → Int32) (L : Nat → Int64) (r : Nat) (hr : isProg r) (hP : wfP S r) (p : Int32) : sE G yX4_savedCell R_X4_savedCell cX4_savedCell 2 (some .int) [.ref (gB G + r), .int p] S L (some (.int (svF S r p))) S L := by
  refine sE.of (by decide) (Nat.le_of_ble_eq_true rfl) ?_
  show sv_V G R_X4_savedCell RX4 "savedCell" cX4_savedCell 2 (some .int) (sPo G R_X4_savedCell (some (.int (svF S r p))) S L) 0 0 197 (CF G S L) 0 [(0, .ref (gB G + r)), (1, .int p)] []
  refine sv_aload_n 0 dX4_savedCell_0 rfl ?_
  refine sv_iload_n 1 dX4_savedCell_1 rfl ?_
  refine cVi1 (e_X4_has G _ _ _ hr _) ⟨rfl, rfl⟩ (sv_w5 ml_RX4_32 im_X4_has sl_X4_has in_RX4 cd_X4_has) nm_X4_has ⟨Nat.le_of_ble_eq_true rfl, Nat.le_of_ble_eq_true rfl⟩ rfl (CF_4 hr.1) (shp_lt hr.1 (by simp)) (Nat.le_of_ble_eq_true rfl) ⟨Nat.le_of_ble_eq_true rfl, Nat.le_of_ble_eq_true rfl⟩ dX4_savedCell_2 ?_
  refine sv_ifeq_b (tgt := 28) dX4_savedCell_5 (by decide) (fun c5 => ?_) (fun c5 => ?_)
  · -- jump
    refine sv_bipush (v := (-9)) dX4_savedCell_28 (by decide) ?_
    exact se_iret rfl ⟨rfl, rfl⟩ dX4_savedCell_30 (by rw [svF, if_neg (fun h => c5 h.1)]) rfl
  · -- fall
    have hp : tn p < 16 := by have h1 := hasI c5.1 c5.2 hP.1; have h2 := tn_16 hP.1 hP.2.1; omega
    refine sv_aload_n 0 dX4_savedCell_8 rfl ?_
    refine sg_4_0 hr.1 fl_RX4_9 dX4_savedCell_9 ?_
    refine sv_iload_n 1 dX4_savedCell_12 rfl ?_
    refine sx_ild hr.2.1 _ (nI_self c5.1) hp dX4_savedCell_13 ?_
    refine sv_bipush (v := 115) dX4_savedCell_14 (by decide) ?_
    refine sv_icmp_ne (tgt := 28) dX4_savedCell_16 (by decide) (fun c16 => ?_) (fun c16 => ?_)
    · -- jump
      refine sv_bipush (v := (-9)) dX4_savedCell_28 (by decide) ?_
      exact se_iret rfl ⟨rfl, rfl⟩ dX4_savedCell_30 (by rw [svF, if_neg (fun h => c16 h.2)]) rfl
    · -- fall
      refine sv_aload_n 0 dX4_savedCell_19 rfl ?_
      refine sg_4_2 hr.1 fl_RX4_18 dX4_savedCell_20 ?_
      refine sv_iload_n 1 dX4_savedCell_23 rfl ?_
      refine sx_ild hr.2.2.2.1 _ (nI_self c5.1) hp dX4_savedCell_24 ?_
      refine sv_goto (tgt := 30) dX4_savedCell_25 (by decide) ?_
      exact se_iret rfl ⟨rfl, rfl⟩ dX4_savedCell_30 (by rw [svF, if_pos ⟨c5, c16⟩]) rfl
theorem e_X4_modelOfN (G : GT) (S : Nat → Nat → Int32) (L : Nat → Int64) (q : Nat) (hq : isProg q) (x : Int32) (a : Nat) (hx : x = nI a) (ha : a < 16) : sE G yX4_modelOf R_X4_modelOf cX4_modelOf 3 (some .int) [.ref (gB G + q), .int x] S L (some (.int (modelF S q a 0))) S L := by subst hx; exact e_X4_modelOf G S L q hq a ha
/-- an instruction comes behind the others of the program q, which has a of them -/
noncomputable def paS (S : Nat → Nat → Int32) (q a : Nat) (k x y : Int32) : Nat → Nat → Int32 :=
  let T := up2 (up2 (up2 S (q + 1) a k) (q + 2) a x) (q + 3) a y
  up2 (up2 T (q + 4) a (modelF T q a 0)) q 4 (nI (a + 1))
set_option maxRecDepth 100000 in
set_option maxHeartbeats 4000000 in
theorem e_X4_add (G : GT) (S : Nat → Nat → Int32) (L : Nat → Int64) (q : Nat) (hq : isProg q) (a : Nat) (h16 : a < 16) (ha : S q 4 = nI a) (k x y : Int32) : sE G yX4_add R_X4_add cX4_add 4 none [.ref (gB G + q), .int k, .int x, .int y] S L none (paS S q a k x y) L := by
  refine sE.of (by decide) (Nat.le_of_ble_eq_true rfl) ?_
  show sv_V G R_X4_add RX4 "add" cX4_add 4 none (sPo G R_X4_add none (paS S q a k x y) L) 0 0 197 (CF G S L) 0 [(0, .ref (gB G + q)), (1, .int k), (2, .int x), (3, .int y)] []
  refine sv_aload_n 0 dX4_add_0 rfl ?_
  refine sg_4_4 hq.1 fl_RX4_24 dX4_add_1 ?_
  refine sv_bipush (v := 16) dX4_add_4 (by decide) ?_
  refine sv_icmp_lt (tgt := 10) dX4_add_6 (by decide) (fun c6 => ?_) (fun c6 => ?_)
  · -- jump
    refine sv_aload_n 0 dX4_add_10 rfl ?_
    refine sg_4_0 hq.1 fl_RX4_9 dX4_add_11 ?_
    refine sv_aload_n 0 dX4_add_14 rfl ?_
    refine sg_4_4 hq.1 fl_RX4_24 dX4_add_15 ?_
    refine sv_iload_n 1 dX4_add_18 rfl ?_
    refine sx_ist hq.2.1 a (by first | exact ha | rfl) h16 dX4_add_19 ?_
    refine sv_aload_n 0 dX4_add_20 rfl ?_
    refine sg_4_1 hq.1 fl_RX4_15 dX4_add_21 ?_
    refine sv_aload_n 0 dX4_add_24 rfl ?_
    refine sg_4_4 hq.1 fl_RX4_24 dX4_add_25 ?_
    refine sv_topE (v' := nI a) (by simp only [up2_at, show ¬ q = q + 1 by omega, show ¬ q = q + 2 by omega, show ¬ q = q + 3 by omega, show ¬ q = q + 4 by omega, false_and, ↓reduceIte]; exact ha) ?_
    refine sv_iload_n 2 dX4_add_28 rfl ?_
    refine sx_ist hq.2.2.1 a (by first | exact ha | rfl) h16 dX4_add_29 ?_
    refine sv_aload_n 0 dX4_add_30 rfl ?_
    refine sg_4_2 hq.1 fl_RX4_18 dX4_add_31 ?_
    refine sv_aload_n 0 dX4_add_34 rfl ?_
    refine sg_4_4 hq.1 fl_RX4_24 dX4_add_35 ?_
    refine sv_topE (v' := nI a) (by simp only [up2_at, show ¬ q = q + 1 by omega, show ¬ q = q + 2 by omega, show ¬ q = q + 3 by omega, show ¬ q = q + 4 by omega, false_and, ↓reduceIte]; exact ha) ?_
    refine sv_iload_n 3 dX4_add_38 rfl ?_
    refine sx_ist hq.2.2.2.1 a (by first | exact ha | rfl) h16 dX4_add_39 ?_
    refine sv_aload_n 0 dX4_add_40 rfl ?_
    refine sg_4_3 hq.1 fl_RX4_21 dX4_add_41 ?_
    refine sv_aload_n 0 dX4_add_44 rfl ?_
    refine sg_4_4 hq.1 fl_RX4_24 dX4_add_45 ?_
    refine sv_topE (v' := nI a) (by simp only [up2_at, show ¬ q = q + 1 by omega, show ¬ q = q + 2 by omega, show ¬ q = q + 3 by omega, show ¬ q = q + 4 by omega, false_and, ↓reduceIte]; exact ha) ?_
    refine sv_aload_n 0 dX4_add_48 rfl ?_
    refine sv_aload_n 0 dX4_add_49 rfl ?_
    refine sg_4_4 hq.1 fl_RX4_24 dX4_add_50 ?_
    refine sv_topE (v' := nI a) (by simp only [up2_at, show ¬ q = q + 1 by omega, show ¬ q = q + 2 by omega, show ¬ q = q + 3 by omega, show ¬ q = q + 4 by omega, false_and, ↓reduceIte]; exact ha) ?_
    refine cVi1 (e_X4_modelOfN G _ _ _ hq _ a rfl h16) ⟨rfl, rfl⟩ (sv_w5 ml_RX4_28 im_X4_modelOf sl_X4_modelOf in_RX4 cd_X4_modelOf) nm_X4_modelOf ⟨Nat.le_of_ble_eq_true rfl, Nat.le_of_ble_eq_true rfl⟩ rfl (CF_4 hq.1) (shp_lt hq.1 (by simp)) (Nat.le_of_ble_eq_true rfl) ⟨Nat.le_of_ble_eq_true rfl, Nat.le_of_ble_eq_true rfl⟩ dX4_add_53 ?_
    refine sx_ist hq.2.2.2.2 a (by first | exact ha | rfl) h16 dX4_add_56 ?_
    refine sv_aload_n 0 dX4_add_57 rfl ?_
    refine sv_dup dX4_add_58 rfl ?_
    refine sg_4_4 hq.1 fl_RX4_24 dX4_add_59 ?_
    refine sv_topE (v' := nI a) (by simp only [up2_at, show ¬ q = q + 1 by omega, show ¬ q = q + 2 by omega, show ¬ q = q + 3 by omega, show ¬ q = q + 4 by omega, false_and, ↓reduceIte]; exact ha) ?_
    refine sv_iconst (v := 1) dX4_add_62 (by decide) ?_
    refine sv_iadd dX4_add_63 ?_
    refine sv_topE (v' := nI (a + 1)) (nI_1 a) ?_
    refine sp_4_4 hq.1 fl_RX4_24 dX4_add_64 ?_
    exact se_vret rfl ⟨rfl, rfl⟩ dX4_add_67 (by unfold paS; exact sEq.rf _)
  · -- fall
    exact absurd (by rw [ha]; exact nI_lt (b := 16) h16 (by decide)) c6
def diffL (S : Nat → Nat → Int32) (q : Nat) : Nat → Nat → Int32 → Int32
  | 0, _, acc => acc
  | m + 1, p, acc => diffL S q m (p + 1) (if S (q + 4) p = nI p then acc + 1 else acc)
set_option maxRecDepth 100000 in
set_option maxHeartbeats 4000000 in
theorem l_X4_different (G : GT) (S : Nat → Nat → Int32) (L : Nat → Int64) (q : Nat) (hq : isProg q) (a : Nat) (h16 : a ≤ 16) (ha : S q 4 = nI a) : ∀ (m p : Nat) (acc : Int32), a - p = m → p ≤ a → sv_V G R_X4_different RX4 "different" cX4_different 3 (some .int) (sPo G R_X4_different (some (.int (diffL S q m p acc))) S L) 0 0 197 (CF G S L) 4 [(2, .int (nI p)), (1, .int acc), (0, .ref (gB G + q))] [] := by
  intro m
  induction m using Nat.strongRecOn
  rename_i m ih
  intro p acc hm hp
  refine sv_iload_n 0 dX4_different_4 rfl ?_
  refine sv_aload_n 2 dX4_different_5 rfl ?_
  refine sg_4_4 hq.1 fl_RX4_24 dX4_different_6 ?_
  refine sv_topE ha ?_
  refine sv_icmp_ge (tgt := 31) dX4_different_9 (by decide) (fun c9 => ?_) (fun c9 => ?_)
  · -- jump
    obtain rfl : m = 0 := by have := (nI_leI (by omega) (by omega)).mp c9; omega
    refine sv_iload_n 1 dX4_different_31 rfl ?_
    exact se_iret rfl ⟨rfl, rfl⟩ dX4_different_32 rfl rfl
  · -- fall
    have h9 : p < a := Nat.lt_of_not_le (fun z => c9 (nI_le z (by omega)))
    obtain ⟨m2, rfl⟩ : ∃ k, m = k + 1 := ⟨m - 1, by omega⟩
    rw [diffL]
    refine sv_aload_n 2 dX4_different_12 rfl ?_
    refine sg_4_3 hq.1 fl_RX4_21 dX4_different_13 ?_
    refine sv_iload_n 0 dX4_different_16 rfl ?_
    refine sx_ild hq.2.2.2.2 p rfl (by omega) dX4_different_17 ?_
    refine sv_iload_n 0 dX4_different_18 rfl ?_
    refine sv_icmp_ne (tgt := 25) dX4_different_19 (by decide) (fun c19 => ?_) (fun c19 => ?_)
    · -- jump
      refine sv_iinc 0 (ls' := [(2, _), (1, _), (0, _)]) dX4_different_25 rfl (nI_1 _) (by decide) rfl ?_
      refine sv_goto (tgt := 4) dX4_different_28 (by decide) ?_
      first | rw [if_pos c19] | rw [if_neg c19]
      first | exact ih m2 (by omega) (p + 1) _ (by omega) (by omega) | (refine sv_locals [0, 1, 2] rfl ?_; exact ih m2 (by omega) (p + 1) _ (by omega) (by omega))
    · -- fall
      refine sv_iinc 1 (ls' := [(1, _), (2, _), (0, _)]) dX4_different_22 rfl rfl (by decide) rfl ?_
      refine sv_iinc 1 (ls' := [(2, _), (1, _), (0, _)]) dX4_different_25 rfl (nI_1 _) (by decide) rfl ?_
      refine sv_goto (tgt := 4) dX4_different_28 (by decide) ?_
      first | rw [if_pos c19] | rw [if_neg c19]
      first | exact ih m2 (by omega) (p + 1) _ (by omega) (by omega) | (refine sv_locals [0, 1, 2] rfl ?_; exact ih m2 (by omega) (p + 1) _ (by omega) (by omega))
set_option maxRecDepth 100000 in
set_option maxHeartbeats 4000000 in
theorem e_X4_different (G : GT) (S : Nat → Nat → Int32) (L : Nat → Int64) (q : Nat) (hq : isProg q) (a : Nat) (h16 : a ≤ 16) (ha : S q 4 = nI a) : sE G yX4_different R_X4_different cX4_different 3 (some .int) [.ref (gB G + q)] S L (some (.int (diffL S q a 0 0))) S L := by
  refine sE.of (by decide) (Nat.le_of_ble_eq_true rfl) ?_
  show sv_V G R_X4_different RX4 "different" cX4_different 3 (some .int) (sPo G R_X4_different (some (.int (diffL S q a 0 0))) S L) 0 0 197 (CF G S L) 0 [(0, .ref (gB G + q))] []
  refine sv_iconst (v := 0) dX4_different_0 (by decide) ?_
  refine sv_istore_n (ls' := [(1, _), (0, _)]) dX4_different_1 (by decide) rfl ?_
  refine sv_iconst (v := 0) dX4_different_2 (by decide) ?_
  refine sv_istore_n (ls' := [(2, _), (1, _), (0, _)]) dX4_different_3 (by decide) rfl ?_
  exact l_X4_different G S L q hq a h16 ha a 0 0 (by omega) (by omega)
def scS (S : Nat → Nat → Int32) (mq : Nat) (v : Int32) (k : Nat) : Nat → Nat → Int32 := va_up S (mq + 1) (fun j => if j < k then (v >>> (4 * nI j &&& 31)) &&& 15 else S (mq + 1) j)
theorem scS_0 (S : Nat → Nat → Int32) (mq : Nat) (v : Int32) : scS S mq v 0 = S := by
  funext k j
  unfold scS va_up
  by_cases hk : k = mq + 1
  · subst hk; simp
  · simp [hk]
theorem scS_s (S : Nat → Nat → Int32) (mq : Nat) (v : Int32) (p : Nat) : up2 (scS S mq v p) (mq + 1) p ((v >>> (4 * nI p &&& 31)) &&& 15) = scS S mq v (p + 1) := by
  funext k j
  rw [up2_at]
  unfold scS va_up
  by_cases hk : k = mq + 1
  · subst hk
    simp only [true_and, if_pos]
    by_cases h1 : j = p
    · subst h1; rw [if_pos rfl, if_pos (by omega)]
    · rw [if_neg h1]
      by_cases h2 : j < p
      · rw [if_pos h2, if_pos (by omega)]
      · rw [if_neg h2, if_neg (by omega)]
  · simp [hk]
set_option maxRecDepth 100000 in
set_option maxHeartbeats 4000000 in
theorem l_X3_scatter (G : GT) (S : Nat → Nat → Int32) (L : Nat → Int64) (mq : Nat) (hm : isMach mq) (v : Int32) : ∀ (m p : Nat), 4 - p = m → p ≤ 4 → sv_V G R_X3_scatter RX3 "scatter" cX3_scatter 3 none (sPo G R_X3_scatter none (scS S mq v 4) L) 0 0 197 (CF G (scS S mq v p) L) 2 [(2, .int (nI p)), (0, .ref (gB G + mq)), (1, .int v)] [] := by
  intro m
  induction m using Nat.strongRecOn
  rename_i m ih
  intro p hmm hp
  refine sv_iload_n 0 dX3_scatter_2 rfl ?_
  refine sv_iconst (v := 4) dX3_scatter_3 (by decide) ?_
  refine sv_icmp_ge (tgt := 27) dX3_scatter_4 (by decide) (fun c4 => ?_) (fun c4 => ?_)
  · -- jump
    obtain rfl : p = 4 := by have := (nI_leI (a := 4) (b := p) (by omega) (by omega)).mp c4; omega
    exact se_vret rfl ⟨rfl, rfl⟩ dX3_scatter_27 (sEq.rf _)
  · -- fall
    have h4 : p < 4 := Nat.lt_of_not_le (fun z => c4 (nI_le (a := 4) z (by omega)))
    refine sv_aload_n 1 dX3_scatter_7 rfl ?_
    refine sg_3_0 hm.1 fl_RX3_9 dX3_scatter_8 ?_
    refine sv_iload_n 0 dX3_scatter_11 rfl ?_
    refine sv_iload_n 2 dX3_scatter_12 rfl ?_
    refine sv_iconst (v := 4) dX3_scatter_13 (by decide) ?_
    refine sv_iload_n 0 dX3_scatter_14 rfl ?_
    refine sv_imul dX3_scatter_15 ?_
    refine sv_ishr dX3_scatter_16 ?_
    refine sv_bipush (v := 15) dX3_scatter_17 (by decide) ?_
    refine sv_iand dX3_scatter_19 ?_
    refine sx_ist hm.2.1 p rfl (by omega) dX3_scatter_20 ?_
    refine sv_eqS (scS_s S mq v p) ?_
    refine sv_iinc 0 (ls' := [(2, _), (0, _), (1, _)]) dX3_scatter_21 rfl (nI_1 _) (by decide) rfl ?_
    refine sv_goto (tgt := 2) dX3_scatter_24 (by decide) ?_
    exact ih (4 - (p + 1)) (by omega) (p + 1) rfl (by omega)
set_option maxRecDepth 100000 in
set_option maxHeartbeats 4000000 in
theorem e_X3_scatter (G : GT) (S : Nat → Nat → Int32) (L : Nat → Int64) (mq : Nat) (hm : isMach mq) (v : Int32) : sE G yX3_scatter R_X3_scatter cX3_scatter 3 none [.ref (gB G + mq), .int v] S L none (scS S mq v 4) L := by
  refine sE.of (by decide) (Nat.le_of_ble_eq_true rfl) ?_
  show sv_V G R_X3_scatter RX3 "scatter" cX3_scatter 3 none (sPo G R_X3_scatter none (scS S mq v 4) L) 0 0 197 (CF G S L) 0 [(0, .ref (gB G + mq)), (1, .int v)] []
  refine sv_iconst (v := 0) dX3_scatter_0 (by decide) ?_
  refine sv_istore_n (ls' := [(2, _), (0, _), (1, _)]) dX3_scatter_1 (by decide) rfl ?_
  have h := l_X3_scatter G S L mq hm v _ 0 rfl (by omega)
  rw [scS_0] at h
  exact h
theorem relS {k j : Nat} (h : shp k = (6, 0)) (hj : rel (shp k) j) : j = 3 ∨ j = 4 ∨ j = 5 ∨ j = 6 := by rw [h] at hj; exact hj
/-- a state as at the beginning -/
def sbeg (S : Nat → Nat → Int32) (s : Nat) : Nat → Nat → Int32 := fun k => if k = s then (fun _ => 0) else if k = s + 1 then (fun _ => 0) else if k = s + 2 then (fun _ => 0) else if k = s + 3 then (fun _ => 0) else if k = s + 6 then disRow else S k
set_option maxRecDepth 100000 in
set_option maxHeartbeats 4000000 in
theorem e_X6_begin (G : GT) (S : Nat → Nat → Int32) (L : Nat → Int64) (s : Nat) (hs : isState s) : sE G yX6_begin R_X6_begin cX6_begin 1 none [.ref (gB G + s)] S L none (sbeg S s) L := by
  refine sE.of (by decide) (Nat.le_of_ble_eq_true rfl) ?_
  show sv_V G R_X6_begin RX6 "begin" cX6_begin 1 none (sPo G R_X6_begin none (sbeg S s) L) 0 0 197 (CF G S L) 0 [(0, .ref (gB G + s))] []
  refine sv_aload_n 0 dX6_begin_0 rfl ?_
  refine sg_6_0 hs.1 fl_RX6_12 dX6_begin_1 ?_
  refine cVv0 (e_X3_begin G _ _ _ hs.2.1) ⟨rfl, rfl⟩ (sv_w5 ml_RX6_29 im_X3_begin sl_X3_begin in_RX3 cd_X3_begin) nm_X3_begin ⟨Nat.le_of_ble_eq_true rfl, Nat.le_of_ble_eq_true rfl⟩ rfl (CF_3 hs.2.1.1) (shp_lt hs.2.1.1 (by simp)) (Nat.le_of_ble_eq_true rfl) ⟨Nat.le_of_ble_eq_true rfl, Nat.le_of_ble_eq_true rfl⟩ dX6_begin_4 ?_
  refine sv_aload_n 0 dX6_begin_7 rfl ?_
  refine sg_6_1 hs.1 fl_RX6_21 dX6_begin_8 ?_
  refine cVv0 (e_X0_begin G _ _ _ hs.2.2.1) ⟨rfl, rfl⟩ (sv_w5 ml_RX6_32 im_X0_begin sl_X0_begin in_RX0 cd_X0_begin) nm_X0_begin ⟨Nat.le_of_ble_eq_true rfl, Nat.le_of_ble_eq_true rfl⟩ rfl (CF_0 hs.2.2.1.1) (shp_lt hs.2.2.1.1 (by simp)) (Nat.le_of_ble_eq_true rfl) ⟨Nat.le_of_ble_eq_true rfl, Nat.le_of_ble_eq_true rfl⟩ dX6_begin_11 ?_
  refine sv_aload_n 0 dX6_begin_14 rfl ?_
  refine sv_iconst (v := 0) dX6_begin_15 (by decide) ?_
  refine sp_6_3 hs.1 fl_RX6_33 dX6_begin_16 ?_
  refine sv_aload_n 0 dX6_begin_19 rfl ?_
  refine sv_iconst (v := 0) dX6_begin_20 (by decide) ?_
  refine sp_6_4 hs.1 fl_RX6_37 dX6_begin_21 ?_
  refine sv_aload_n 0 dX6_begin_24 rfl ?_
  refine sv_iconst (v := 0) dX6_begin_25 (by decide) ?_
  refine sp_6_5 hs.1 fl_RX6_40 dX6_begin_26 ?_
  refine sv_aload_n 0 dX6_begin_29 rfl ?_
  refine sv_iconst (v := 0) dX6_begin_30 (by decide) ?_
  refine sp_6_6 hs.1 fl_RX6_43 dX6_begin_31 ?_
  exact se_vret rfl ⟨rfl, rfl⟩ dX6_begin_34 (by
      intro k _ j hj
      unfold sbeg
      by_cases h0 : k = s
      · subst h0
        rcases relS hs.1 hj with rfl | rfl | rfl | rfl <;> simp [up2_at]
      · by_cases h1 : k = s + 1
        · subst h1
          rcases relM hs.2.1.1 hj with rfl | rfl | rfl | rfl | rfl <;> simp [up2_at, mbeg, va_up]
        · by_cases h2 : k = s + 2
          · subst h2; simp [up2_at, mbeg, va_up]
          · by_cases h3 : k = s + 3
            · subst h3; simp [up2_at, mbeg, va_up]
            · by_cases h6 : k = s + 6
              · subst h6; simp [up2_at, mbeg, va_up]
              · simp [up2_at, mbeg, va_up, h0, h1, h2, h3, h6])
theorem cp_state {S : Nat → Nat → Int32} {s o : Nat} (hs : isState s) (hd : o + 8 ≤ s ∨ s + 8 ≤ o) : sEq (up2 (up2 (up2 (up2 (va_up (va_up (cpR S (s + 1) (o + 1) 4) (s + 5 + 1) (S (o + 5 + 1))) (s + 7) (S (o + 7))) s 3 (S o 3)) s 4 (S o 4)) s 5 (S o 5)) s 6 (S o 6)) (cpR S s o 8) := by
  intro k _ j hj
  by_cases h0 : k = s
  · subst h0
    have e : cpR S k o 8 k = S o := by unfold cpR; rw [if_pos (by omega), Nat.sub_self, Nat.add_zero]
    rw [e]
    rcases relS hs.1 hj with rfl | rfl | rfl | rfl <;> simp [up2_at]
  · simp only [up2_at, h0, false_and, ↓reduceIte, va_up]
    unfold cpR
    by_cases h7 : k = s + 7
    · subst h7; rw [if_pos rfl, if_pos (by omega), show s + 7 - s = 7 by omega]
    · rw [if_neg h7]
      by_cases h6 : k = s + 5 + 1
      · subst h6; rw [if_pos rfl, if_pos (by omega), show s + 5 + 1 - s = 6 by omega]
      · rw [if_neg h6]
        by_cases h1 : s + 1 ≤ k ∧ k < s + 1 + 4
        · rw [if_pos h1, if_pos (by omega), show o + 1 + (k - (s + 1)) = o + (k - s) by omega]
        · rw [if_neg h1]
          by_cases h5 : k = s + 5
          · subst h5
            rw [hs.2.2.1.1] at hj
            exact absurd hj (by simp [rel])
          · rw [if_neg (by omega)]
set_option maxRecDepth 100000 in
set_option maxHeartbeats 4000000 in
theorem e_X6_takeFrom (G : GT) (S : Nat → Nat → Int32) (L : Nat → Int64) (s : Nat) (hs : isState s) (o : Nat) (ho : isState o) (hd : o + 8 ≤ s ∨ s + 8 ≤ o) (hz : S (o + 1) 5 = 0 ∨ S (o + 1) 5 = 1) : sE G yX6_takeFrom R_X6_takeFrom cX6_takeFrom 2 none [.ref (gB G + s), .ref (gB G + o)] S L none (cpR S s o 8) L := by
  refine sE.of (by decide) (Nat.le_of_ble_eq_true rfl) ?_
  show sv_V G R_X6_takeFrom RX6 "takeFrom" cX6_takeFrom 2 none (sPo G R_X6_takeFrom none (cpR S s o 8) L) 0 0 197 (CF G S L) 0 [(0, .ref (gB G + s)), (1, .ref (gB G + o))] []
  refine sv_aload_n 0 dX6_takeFrom_0 rfl ?_
  refine sg_6_0 hs.1 fl_RX6_12 dX6_takeFrom_1 ?_
  refine sv_aload_n 1 dX6_takeFrom_4 rfl ?_
  refine sg_6_0 ho.1 fl_RX6_12 dX6_takeFrom_5 ?_
  refine cVv1 (e_X3_takeFrom G _ _ _ hs.2.1 _ ho.2.1 (by omega) hz) ⟨rfl, rfl⟩ (sv_w5 ml_RX6_46 im_X3_takeFrom sl_X3_takeFrom in_RX3 cd_X3_takeFrom) nm_X3_takeFrom ⟨Nat.le_of_ble_eq_true rfl, Nat.le_of_ble_eq_true rfl⟩ rfl (CF_3 hs.2.1.1) (shp_lt hs.2.1.1 (by simp)) (Nat.le_of_ble_eq_true rfl) ⟨Nat.le_of_ble_eq_true rfl, Nat.le_of_ble_eq_true rfl⟩ dX6_takeFrom_8 ?_
  refine sv_aload_n 0 dX6_takeFrom_11 rfl ?_
  refine sg_6_1 hs.1 fl_RX6_21 dX6_takeFrom_12 ?_
  refine sv_aload_n 1 dX6_takeFrom_15 rfl ?_
  refine sg_6_1 ho.1 fl_RX6_21 dX6_takeFrom_16 ?_
  refine cVv1 (e_X0_takeFrom G _ _ _ hs.2.2.1 _ ho.2.2.1) ⟨rfl, rfl⟩ (sv_w5 ml_RX6_50 im_X0_takeFrom sl_X0_takeFrom in_RX0 cd_X0_takeFrom) nm_X0_takeFrom ⟨Nat.le_of_ble_eq_true rfl, Nat.le_of_ble_eq_true rfl⟩ rfl (CF_0 hs.2.2.1.1) (shp_lt hs.2.2.1.1 (by simp)) (Nat.le_of_ble_eq_true rfl) ⟨Nat.le_of_ble_eq_true rfl, Nat.le_of_ble_eq_true rfl⟩ dX6_takeFrom_19 ?_
  rw [show cpR S (s + 1) (o + 1) 4 (o + 5 + 1) = S (o + 5 + 1) from by unfold cpR; rw [if_neg (by omega)]]
  refine sv_aload_n 1 dX6_takeFrom_22 rfl ?_
  refine sg_6_2 ho.1 fl_RX6_25 dX6_takeFrom_23 ?_
  refine sv_iconst (v := 0) dX6_takeFrom_26 (by decide) ?_
  refine sv_aload_n 0 dX6_takeFrom_27 rfl ?_
  refine sg_6_2 hs.1 fl_RX6_25 dX6_takeFrom_28 ?_
  refine sv_iconst (v := 0) dX6_takeFrom_31 (by decide) ?_
  refine sv_iconst (v := 3) dX6_takeFrom_32 (by decide) ?_
  refine sx_copy ml_RX6_53 ho.2.2.2 hs.2.2.2 (by decide) (by decide) (Nat.le_of_ble_eq_true rfl) dX6_takeFrom_33 ?_
  rw [show va_up (cpR S (s + 1) (o + 1) 4) (s + 5 + 1) (S (o + 5 + 1)) (o + 7) = S (o + 7) from by unfold va_up cpR; rw [if_neg (by omega), if_neg (by omega)]]
  refine sv_aload_n 0 dX6_takeFrom_36 rfl ?_
  refine sv_aload_n 1 dX6_takeFrom_37 rfl ?_
  refine sg_6_3 ho.1 fl_RX6_33 dX6_takeFrom_38 ?_
  refine sv_topE (v' := S o 3) (by simp only [up2_at, va_up, show ¬ o = s by omega, show ¬ o = s + 7 by omega, show ¬ o = s + 5 + 1 by omega, false_and, ↓reduceIte]; first | done | (unfold cpR; rw [if_neg (by omega)])) ?_
  refine sp_6_3 hs.1 fl_RX6_33 dX6_takeFrom_41 ?_
  refine sv_aload_n 0 dX6_takeFrom_44 rfl ?_
  refine sv_aload_n 1 dX6_takeFrom_45 rfl ?_
  refine sg_6_4 ho.1 fl_RX6_37 dX6_takeFrom_46 ?_
  refine sv_topE (v' := S o 4) (by simp only [up2_at, va_up, show ¬ o = s by omega, show ¬ o = s + 7 by omega, show ¬ o = s + 5 + 1 by omega, false_and, ↓reduceIte]; first | done | (unfold cpR; rw [if_neg (by omega)])) ?_
  refine sp_6_4 hs.1 fl_RX6_37 dX6_takeFrom_49 ?_
  refine sv_aload_n 0 dX6_takeFrom_52 rfl ?_
  refine sv_aload_n 1 dX6_takeFrom_53 rfl ?_
  refine sg_6_5 ho.1 fl_RX6_40 dX6_takeFrom_54 ?_
  refine sv_topE (v' := S o 5) (by simp only [up2_at, va_up, show ¬ o = s by omega, show ¬ o = s + 7 by omega, show ¬ o = s + 5 + 1 by omega, false_and, ↓reduceIte]; first | done | (unfold cpR; rw [if_neg (by omega)])) ?_
  refine sp_6_5 hs.1 fl_RX6_40 dX6_takeFrom_57 ?_
  refine sv_aload_n 0 dX6_takeFrom_60 rfl ?_
  refine sv_aload_n 1 dX6_takeFrom_61 rfl ?_
  refine sg_6_6 ho.1 fl_RX6_43 dX6_takeFrom_62 ?_
  refine sv_topE (v' := S o 6) (by simp only [up2_at, va_up, show ¬ o = s by omega, show ¬ o = s + 7 by omega, show ¬ o = s + 5 + 1 by omega, false_and, ↓reduceIte]; first | done | (unfold cpR; rw [if_neg (by omega)])) ?_
  refine sp_6_6 hs.1 fl_RX6_43 dX6_takeFrom_65 ?_
  exact se_vret rfl ⟨rfl, rfl⟩ dX6_takeFrom_68 (cp_state hs hd)
abbrev isWP (S : Nat → Nat → Int32) (s : Nat) (x : Int32) : Prop := (¬ x < 0 ∧ ¬ 8 ≤ x) ∧ (S s 4 >>> (x &&& 31)) &&& 1 = 1
abbrev allowP (S : Nat → Nat → Int32) (s : Nat) (plan : Int32) : Prop := ¬ plan = 2 ∨ 0 < S (s + 1) 3
abbrev doneP (S : Nat → Nat → Int32) (s : Nat) (plan d0 : Int32) : Prop := plan = 0 ∨ (plan = 1 ∧ S (s + 1) 3 ≤ d0) ∨ (plan = 2 ∧ S (s + 1) 3 < d0)
set_option maxRecDepth 100000 in
set_option maxHeartbeats 4000000 in
theorem e_X6_isWatched (G : GT) (S : Nat → Nat → Int32) (L : Nat → Int64) (s : Nat) (hs : isState s) (x : Int32) : sE G yX6_isWatched R_X6_isWatched cX6_isWatched 2 (some .boolean) [.ref (gB G + s), .int x] S L (some (.int (if (isWP S s x) then 1 else 0))) S L := by
  refine sE.of (by decide) (Nat.le_of_ble_eq_true rfl) ?_
  show sv_V G R_X6_isWatched RX6 "isWatched" cX6_isWatched 2 (some .boolean) (sPo G R_X6_isWatched (some (.int (if (isWP S s x) then 1 else 0))) S L) 0 0 197 (CF G S L) 0 [(0, .ref (gB G + s)), (1, .int x)] []
  refine sv_iload_n 1 dX6_isWatched_0 rfl ?_
  refine cNi1 (e_X9_isCell G _ _ _) ⟨rfl, rfl⟩ ml_RX6_59 (sv_w3 st_X9_isCell in_RX9 cd_X9_isCell) nm_X9_isCell ⟨Nat.le_of_ble_eq_true rfl, Nat.le_of_ble_eq_true rfl⟩ (Nat.le_of_ble_eq_true rfl) ⟨Nat.le_of_ble_eq_true rfl, Nat.le_of_ble_eq_true rfl⟩ dX6_isWatched_1 ?_
  refine sv_ifeq_b (tgt := 23) dX6_isWatched_4 (by decide) (fun c4 => ?_) (fun c4 => ?_)
  · -- jump
    refine sv_iconst (v := 0) dX6_isWatched_23 (by decide) ?_
    exact se_zret rfl ⟨rfl, rfl⟩ dX6_isWatched_24 (by rfl) (by rw [if_neg (fun h => c4 h.1)]) rfl
  · -- fall
    refine sv_aload_n 0 dX6_isWatched_7 rfl ?_
    refine sg_6_4 hs.1 fl_RX6_37 dX6_isWatched_8 ?_
    refine sv_iload_n 1 dX6_isWatched_11 rfl ?_
    refine sv_ishr dX6_isWatched_12 ?_
    refine sv_iconst (v := 1) dX6_isWatched_13 (by decide) ?_
    refine sv_iand dX6_isWatched_14 ?_
    refine sv_iconst (v := 1) dX6_isWatched_15 (by decide) ?_
    refine sv_icmp_ne (tgt := 23) dX6_isWatched_16 (by decide) (fun c16 => ?_) (fun c16 => ?_)
    · -- jump
      refine sv_iconst (v := 0) dX6_isWatched_23 (by decide) ?_
      exact se_zret rfl ⟨rfl, rfl⟩ dX6_isWatched_24 (by rfl) (by rw [if_neg (fun h => c16 h.2)]) rfl
    · -- fall
      refine sv_iconst (v := 1) dX6_isWatched_19 (by decide) ?_
      refine sv_goto (tgt := 24) dX6_isWatched_20 (by decide) ?_
      exact se_zret rfl ⟨rfl, rfl⟩ dX6_isWatched_24 (by rfl) (by rw [if_pos ⟨c4, c16⟩]) rfl
set_option maxRecDepth 100000 in
set_option maxHeartbeats 4000000 in
theorem e_X6_turnWatch (G : GT) (S : Nat → Nat → Int32) (L : Nat → Int64) (s : Nat) (hs : isState s) (x : Int32) : sE G yX6_turnWatch R_X6_turnWatch cX6_turnWatch 2 (some .boolean) [.ref (gB G + s), .int x] S L (some (.int 1)) (up2 S s 4 (S s 4 ^^^ ((1 : Int32) <<< (x &&& 31)))) L := by
  refine sE.of (by decide) (Nat.le_of_ble_eq_true rfl) ?_
  show sv_V G R_X6_turnWatch RX6 "turnWatch" cX6_turnWatch 2 (some .boolean) (sPo G R_X6_turnWatch (some (.int 1)) (up2 S s 4 (S s 4 ^^^ ((1 : Int32) <<< (x &&& 31)))) L) 0 0 197 (CF G S L) 0 [(0, .ref (gB G + s)), (1, .int x)] []
  refine sv_aload_n 0 dX6_turnWatch_0 rfl ?_
  refine sv_dup dX6_turnWatch_1 rfl ?_
  refine sg_6_4 hs.1 fl_RX6_37 dX6_turnWatch_2 ?_
  refine sv_iconst (v := 1) dX6_turnWatch_5 (by decide) ?_
  refine sv_iload_n 1 dX6_turnWatch_6 rfl ?_
  refine sv_ishl dX6_turnWatch_7 ?_
  refine sv_ixor dX6_turnWatch_8 ?_
  refine sp_6_4 hs.1 fl_RX6_37 dX6_turnWatch_9 ?_
  refine sv_iconst (v := 1) dX6_turnWatch_12 (by decide) ?_
  exact se_zret rfl ⟨rfl, rfl⟩ dX6_turnWatch_13 (by rfl) rfl rfl
set_option maxRecDepth 100000 in
set_option maxHeartbeats 4000000 in
theorem e_X6_allows (G : GT) (S : Nat → Nat → Int32) (L : Nat → Int64) (s : Nat) (hs : isState s) (plan : Int32) : sE G yX6_allows R_X6_allows cX6_allows 2 (some .boolean) [.ref (gB G + s), .int plan] S L (some (.int (if (allowP S s plan) then 1 else 0))) S L := by
  refine sE.of (by decide) (Nat.le_of_ble_eq_true rfl) ?_
  show sv_V G R_X6_allows RX6 "allows" cX6_allows 2 (some .boolean) (sPo G R_X6_allows (some (.int (if (allowP S s plan) then 1 else 0))) S L) 0 0 197 (CF G S L) 0 [(0, .ref (gB G + s)), (1, .int plan)] []
  refine sv_iload_n 1 dX6_allows_0 rfl ?_
  refine sv_iconst (v := 2) dX6_allows_1 (by decide) ?_
  refine sv_icmp_ne (tgt := 15) dX6_allows_2 (by decide) (fun c2 => ?_) (fun c2 => ?_)
  · -- jump
    refine sv_iconst (v := 1) dX6_allows_15 (by decide) ?_
    refine sv_goto (tgt := 20) dX6_allows_16 (by decide) ?_
    exact se_zret rfl ⟨rfl, rfl⟩ dX6_allows_20 (by rfl) (by rw [if_pos (Or.inl c2)]) rfl
  · -- fall
    refine sv_aload_n 0 dX6_allows_5 rfl ?_
    refine sg_6_0 hs.1 fl_RX6_12 dX6_allows_6 ?_
    refine sg_3_3 hs.2.1.1 fl_RX6_63 dX6_allows_9 ?_
    refine sv_if_le (tgt := 19) dX6_allows_12 (by decide) (fun c12 => ?_) (fun c12 => ?_)
    · -- jump
      refine sv_iconst (v := 0) dX6_allows_19 (by decide) ?_
      exact se_zret rfl ⟨rfl, rfl⟩ dX6_allows_20 (by rfl) (by rw [if_neg (fun h => h.elim (fun z => z c2) (fun z => absurd z (Int32.not_lt.mpr c12)))]) rfl
    · -- fall
      refine sv_iconst (v := 1) dX6_allows_15 (by decide) ?_
      refine sv_goto (tgt := 20) dX6_allows_16 (by decide) ?_
      exact se_zret rfl ⟨rfl, rfl⟩ dX6_allows_20 (by rfl) (by rw [if_pos (Or.inr (Int32.not_le.mp c12))]) rfl
set_option maxRecDepth 100000 in
set_option maxHeartbeats 4000000 in
theorem e_X6_isDone (G : GT) (S : Nat → Nat → Int32) (L : Nat → Int64) (s : Nat) (hs : isState s) (plan d0 : Int32) : sE G yX6_isDone R_X6_isDone cX6_isDone 3 (some .boolean) [.ref (gB G + s), .int plan, .int d0] S L (some (.int (if (doneP S s plan d0) then 1 else 0))) S L := by
  refine sE.of (by decide) (Nat.le_of_ble_eq_true rfl) ?_
  show sv_V G R_X6_isDone RX6 "isDone" cX6_isDone 3 (some .boolean) (sPo G R_X6_isDone (some (.int (if (doneP S s plan d0) then 1 else 0))) S L) 0 0 197 (CF G S L) 0 [(0, .ref (gB G + s)), (1, .int plan), (2, .int d0)] []
  refine sv_iload_n 1 dX6_isDone_0 rfl ?_
  refine sw_X6_isDone_1 dX6_isDone_1 (fun c1 => ?_) (fun c1 => ?_) (fun c1 => ?_) (fun c1 => ?_)
  · -- case 0
    refine sv_iconst (v := 1) dX6_isDone_28 (by decide) ?_
    exact se_zret rfl ⟨rfl, rfl⟩ dX6_isDone_29 (by rfl) (by rw [if_pos (Or.inl c1)]) rfl
  · -- case 1
    refine sv_aload_n 0 dX6_isDone_30 rfl ?_
    refine sg_6_0 hs.1 fl_RX6_12 dX6_isDone_31 ?_
    refine sg_3_3 hs.2.1.1 fl_RX6_63 dX6_isDone_34 ?_
    refine sv_iload_n 2 dX6_isDone_37 rfl ?_
    refine sv_icmp_gt (tgt := 45) dX6_isDone_38 (by decide) (fun c38 => ?_) (fun c38 => ?_)
    · -- jump
      refine sv_iconst (v := 0) dX6_isDone_45 (by decide) ?_
      exact se_zret rfl ⟨rfl, rfl⟩ dX6_isDone_46 (by rfl) (by rw [if_neg (by subst c1; simp [doneP, Int32.not_le.mpr c38])]) rfl
    · -- fall
      refine sv_iconst (v := 1) dX6_isDone_41 (by decide) ?_
      refine sv_goto (tgt := 46) dX6_isDone_42 (by decide) ?_
      exact se_zret rfl ⟨rfl, rfl⟩ dX6_isDone_46 (by rfl) (by rw [if_pos (Or.inr (Or.inl ⟨c1, Int32.not_lt.mp c38⟩))]) rfl
  · -- case 2
    refine sv_aload_n 0 dX6_isDone_47 rfl ?_
    refine sg_6_0 hs.1 fl_RX6_12 dX6_isDone_48 ?_
    refine sg_3_3 hs.2.1.1 fl_RX6_63 dX6_isDone_51 ?_
    refine sv_iload_n 2 dX6_isDone_54 rfl ?_
    refine sv_icmp_ge (tgt := 62) dX6_isDone_55 (by decide) (fun c55 => ?_) (fun c55 => ?_)
    · -- jump
      refine sv_iconst (v := 0) dX6_isDone_62 (by decide) ?_
      exact se_zret rfl ⟨rfl, rfl⟩ dX6_isDone_63 (by rfl) (by rw [if_neg (by subst c1; simp [doneP, Int32.not_lt.mpr c55])]) rfl
    · -- fall
      refine sv_iconst (v := 1) dX6_isDone_58 (by decide) ?_
      refine sv_goto (tgt := 63) dX6_isDone_59 (by decide) ?_
      exact se_zret rfl ⟨rfl, rfl⟩ dX6_isDone_63 (by rfl) (by rw [if_pos (Or.inr (Or.inr ⟨c1, Int32.not_le.mp c55⟩))]) rfl
  · -- case None
    refine sv_iconst (v := 0) dX6_isDone_64 (by decide) ?_
    exact se_zret rfl ⟨rfl, rfl⟩ dX6_isDone_65 (by rfl) (by rw [if_neg (by simp [doneP, c1.1, c1.2.1, c1.2.2])]) rfl
