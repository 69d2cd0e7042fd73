def kcM (S : Nat → Nat → Int32) (q : Nat) (v : Int32) : Nat → Nat → Int32 := if amP (fun j => S q (123 + j)) (tn (S q 122)) v then S else
  if S q 122 = 3 then up2 (up2 (up2 (up2 (up2 S q 123 (S q 124)) q 124 (S q 125)) q 122 2) q 125 v) q 122 3 else up2 (up2 S q (123 + tn (S q 122)) v) q 122 (S q 122 + 1)
set_option maxRecDepth 100000 in
set_option maxHeartbeats 4000000 in
theorem l_X10_keepCopy (G : GT) (S : Nat → Nat → Int32) (L : Nat → Int64) (q : Nat) (hq : shp q = (11, 128)) (v a : Int32) (c : Nat) (hc : c ≤ 3) (hk : S q 122 = nI c) : ∀ (m p : Nat), c - p = m → p ≤ c → (∀ j, j < p → ¬ S q (123 + j) = v) → sv_V G R_X10_keepCopy RX10 "keepCopy" cX10_keepCopy 5 none (sPo G R_X10_keepCopy none (kcM S q v) L) 0 0 197 (CF G S L) 9 [(4, .int (nI p)), (3, .int v), (0, .ref (gB G + 179)), (1, .ref (gB G + q)), (2, .int a)] [] := by
  have hcc : tn (S q 122) = c := by rw [hk, tn_nI (by omega)]
  intro m
  induction m using Nat.strongRecOn
  rename_i m ih
  intro p hm hp hno
  refine sv_iload 0 dX10_keepCopy_9 rfl ?_
  refine sv_aload_n 3 dX10_keepCopy_11 rfl ?_
  refine sv_bipush (v := 122) dX10_keepCopy_12 (by decide) ?_
  refine sx_ild hq 122 (by decide) (by decide) dX10_keepCopy_14 ?_
  refine sv_topE hk ?_
  refine sv_icmp_ge (tgt := 36) dX10_keepCopy_15 (by decide) (fun c15 => ?_) (fun c15 => ?_)
  · -- jump
    obtain rfl : p = c := by have := (nI_leI (by omega) (by omega)).mp c15; omega
    have hna : ¬ amP (fun j => S q (123 + j)) (tn (S q 122)) v := by rw [hcc]; exact amP_not hno
    refine sv_aload_n 3 dX10_keepCopy_36 rfl ?_
    refine sv_bipush (v := 122) dX10_keepCopy_37 (by decide) ?_
    refine sx_ild hq 122 (by decide) (by decide) dX10_keepCopy_39 ?_
    refine sv_iconst (v := 3) dX10_keepCopy_40 (by decide) ?_
    refine sv_icmp_ne (tgt := 68) dX10_keepCopy_41 (by decide) (fun c41 => ?_) (fun c41 => ?_)
    · -- jump
      refine sv_aload_n 3 dX10_keepCopy_68 rfl ?_
      refine sv_bipush (v := 123) dX10_keepCopy_69 (by decide) ?_
      refine sv_aload_n 3 dX10_keepCopy_71 rfl ?_
      refine sv_bipush (v := 122) dX10_keepCopy_72 (by decide) ?_
      refine sx_ild hq 122 (by decide) (by decide) dX10_keepCopy_74 ?_
      have hp3 : p < 3 := Nat.lt_of_le_of_ne hc (fun h => c41 (by rw [hk, h]; decide))
      refine sv_iadd dX10_keepCopy_75 ?_
      refine sv_iload_n 1 dX10_keepCopy_76 rfl ?_
      refine sx_ist hq (123 + p) (by rw [hk]; exact nI_add 123 p) (by omega) dX10_keepCopy_77 ?_
      refine sv_aload_n 3 dX10_keepCopy_78 rfl ?_
      refine sv_bipush (v := 122) dX10_keepCopy_79 (by decide) ?_
      refine sv_dup2_11 dX10_keepCopy_81 rfl rfl ?_
      refine sx_ild hq 122 (by decide) (by decide) dX10_keepCopy_82 ?_
      refine sv_topE (v' := S q 122) (up2_ne (Or.inr (by omega))) ?_
      refine sv_iconst (v := 1) dX10_keepCopy_83 (by decide) ?_
      refine sv_iadd dX10_keepCopy_84 ?_
      refine sx_ist hq 122 (by decide) (by decide) dX10_keepCopy_85 ?_
      exact se_vret rfl ⟨rfl, rfl⟩ dX10_keepCopy_86 (by rw [kcM, if_neg hna, if_neg c41, hcc] <;> exact sEq.rf _)
    · -- fall
      refine sv_aload_n 3 dX10_keepCopy_44 rfl ?_
      refine sv_bipush (v := 123) dX10_keepCopy_45 (by decide) ?_
      refine sv_aload_n 3 dX10_keepCopy_47 rfl ?_
      refine sv_bipush (v := 124) dX10_keepCopy_48 (by decide) ?_
      refine sx_ild hq 124 (by decide) (by decide) dX10_keepCopy_50 ?_
      refine sx_ist hq 123 (by decide) (by decide) dX10_keepCopy_51 ?_
      refine sv_aload_n 3 dX10_keepCopy_52 rfl ?_
      refine sv_bipush (v := 124) dX10_keepCopy_53 (by decide) ?_
      refine sv_aload_n 3 dX10_keepCopy_55 rfl ?_
      refine sv_bipush (v := 125) dX10_keepCopy_56 (by decide) ?_
      refine sx_ild hq 125 (by decide) (by decide) dX10_keepCopy_58 ?_
      refine sv_topE (v' := S q 125) (by simp [up2_at]) ?_
      refine sx_ist hq 124 (by decide) (by decide) dX10_keepCopy_59 ?_
      refine sv_aload_n 3 dX10_keepCopy_60 rfl ?_
      refine sv_bipush (v := 122) dX10_keepCopy_61 (by decide) ?_
      refine sv_dup2_11 dX10_keepCopy_63 rfl rfl ?_
      refine sx_ild hq 122 (by decide) (by decide) dX10_keepCopy_64 ?_
      refine sv_topE (v' := 3) (by simp [up2_at, c41]) ?_
      refine sv_iconst (v := 1) dX10_keepCopy_65 (by decide) ?_
      refine sv_isub dX10_keepCopy_66 ?_
      refine sx_ist hq 122 (by decide) (by decide) dX10_keepCopy_67 ?_
      refine sv_aload_n 3 dX10_keepCopy_68 rfl ?_
      refine sv_bipush (v := 123) dX10_keepCopy_69 (by decide) ?_
      refine sv_aload_n 3 dX10_keepCopy_71 rfl ?_
      refine sv_bipush (v := 122) dX10_keepCopy_72 (by decide) ?_
      refine sx_ild hq 122 (by decide) (by decide) dX10_keepCopy_74 ?_
      refine sv_topE (v' := 2) (by rw [up2_same]; decide) ?_
      refine sv_iadd dX10_keepCopy_75 ?_
      refine sv_iload_n 1 dX10_keepCopy_76 rfl ?_
      refine sx_ist hq 125 (by decide) (by decide) dX10_keepCopy_77 ?_
      refine sv_aload_n 3 dX10_keepCopy_78 rfl ?_
      refine sv_bipush (v := 122) dX10_keepCopy_79 (by decide) ?_
      refine sv_dup2_11 dX10_keepCopy_81 rfl rfl ?_
      refine sx_ild hq 122 (by decide) (by decide) dX10_keepCopy_82 ?_
      refine sv_topE (v' := 2) (by rw [up2_ne (Or.inr (by decide)), up2_same]; decide) ?_
      refine sv_iconst (v := 1) dX10_keepCopy_83 (by decide) ?_
      refine sv_iadd dX10_keepCopy_84 ?_
      refine sx_ist hq 122 (by decide) (by decide) dX10_keepCopy_85 ?_
      exact se_vret rfl ⟨rfl, rfl⟩ dX10_keepCopy_86 (by rw [kcM, if_neg hna, if_pos c41] <;> exact sEq.rf _)
  · -- fall
    have h7 : p < c := Nat.lt_of_not_le (fun z => c15 (nI_le z (by omega)))
    refine sv_aload_n 3 dX10_keepCopy_18 rfl ?_
    refine sv_bipush (v := 123) dX10_keepCopy_19 (by decide) ?_
    refine sv_iload 0 dX10_keepCopy_21 rfl ?_
    refine sv_iadd dX10_keepCopy_23 ?_
    refine sx_ild hq (123 + p) (nI_add 123 p) (by omega) dX10_keepCopy_24 ?_
    refine sv_iload_n 1 dX10_keepCopy_25 rfl ?_
    refine sv_icmp_ne (tgt := 30) dX10_keepCopy_26 (by decide) (fun c26 => ?_) (fun c26 => ?_)
    · -- jump
      refine sv_iinc 0 (ls' := [(4, _), (3, _), (0, _), (1, _), (2, _)]) dX10_keepCopy_30 rfl (nI_1 _) (by decide) rfl ?_
      refine sv_goto (tgt := 9) dX10_keepCopy_33 (by decide) ?_
      exact ih (c - (p + 1)) (by omega) (p + 1) rfl (by omega) (fun j hj => (show j < p ∨ j = p by omega).elim (hno j) (fun h => by rw [h]; exact c26))
    · -- fall
      exact se_vret rfl ⟨rfl, rfl⟩ dX10_keepCopy_29 (by rw [kcM, if_pos (by rw [hcc]; exact amP_of hc h7 c26)] <;> exact sEq.rf _)
abbrev keP (S : Nat → Nat → Int32) (q : Nat) : Prop := ¬ S q 122 < 0 ∧ ¬ 3 < S q 122
/-- what the bare step leaves of the row -/
theorem ypS_hi {S : Nat → Nat → Int32} {q p : Nat} {t : Int32} (hw : wfJ (S 181 p) (S 182 p) (S 183 p)) (h8 : tn (S q 20) ≤ 8) {k j : Nat} (h : k ≠ q ∨ 25 ≤ j) : ypS S q p t k j = S k j := by
  have hx : ¬ S 181 p = 7 → tn (S 182 p) < 4 := fun z => tn_lt (M := 4) (k := 4) rfl (by decide) (hw.1 z).1 (hw.1 z).2
  have hy : (S 181 p = 3 ∨ S 181 p = 4) → tn (S 183 p) < 8 := fun z => tn_lt (M := 8) (k := 8) rfl (by decide) (hw.2.2 z).1 (hw.2.2 z).2
  have u : ∀ (T : Nat → Nat → Int32) (a : Nat) (v : Int32), a < 25 → up2 T q a v k j = T k j := fun T a v ha => up2_ne (h.imp id (fun z => by omega))
  unfold ypS
  by_cases c : S 181 p = 0
  · rw [if_pos c]; exact u _ _ _ (by have := hx (by rw [c]; decide); omega)
  rw [if_neg c]
  clear c
  by_cases c : S 181 p = 1
  · rw [if_pos c]; exact u _ _ _ (by have := hx (by rw [c]; decide); omega)
  rw [if_neg c]
  clear c
  by_cases c : S 181 p = 2
  · rw [if_pos c]; exact u _ _ _ (by have := hx (by rw [c]; decide); omega)
  rw [if_neg c]
  clear c
  by_cases c : S 181 p = 3
  · rw [if_pos c]; exact u _ _ _ (by have := hx (by rw [c]; decide); omega)
  rw [if_neg c]
  clear c
  by_cases c : S 181 p = 4
  · rw [if_pos c]; exact u _ _ _ (by have := hy (Or.inr c); omega)
  rw [if_neg c]
  clear c
  by_cases c : S 181 p = 5
  · rw [if_pos c]
  rw [if_neg c]
  clear c
  by_cases c : S 181 p = 6
  · rw [if_pos c]
  rw [if_neg c]
  clear c
  by_cases c : S 181 p = 7
  · rw [if_pos c]; rw [u _ _ _ (by decide), u _ _ _ (by omega)]
  rw [if_neg c]
  clear c
  by_cases c : S 181 p = 8
  · rw [if_pos c]; exact u _ _ _ (by decide)
  rw [if_neg c]
  clear c
  by_cases c : S 181 p = 9
  · rw [if_pos c]; exact u _ _ _ (by have := hx (by rw [c]; decide); omega)
  rw [if_neg c]
  clear c
  by_cases c : S 181 p = 10
  · rw [if_pos c]; rw [u _ _ _ (by decide), u _ _ _ (by decide)]
  rw [if_neg c]
  clear c
  exact u _ _ _ (by decide)
theorem bsS_hi {S : Nat → Nat → Int32} {q : Nat} (hY : wfY S) (hR : wfR S q) {k j : Nat} (h : k ≠ q ∨ 25 ≤ j) : bsS S q k j = S k j := by
  unfold bsS
  split
  · exact up2_ne (h.imp id (fun z => by omega))
  split
  · rfl
  next c =>
    have hh : hasY S (S q 21) := Decidable.byContradiction (fun z => c (Or.inl z))
    rw [up2_ne (h.imp id (fun z => by omega))]
    exact ypS_hi (hY.2 _ (hY16 hY.1 hh).1) (tn_le (M := 8) (k := 8) rfl (by decide) hR.1.1 hR.1.2) h
theorem bsP_has {S : Nat → Nat → Int32} {q : Nat} (h : bsP S q) : hasY S (S q 21) := h.elim (fun z => z.2) (fun z => Decidable.byContradiction (fun w => z (Or.inl w)))
def spT (S : Nat → Nat → Int32) (q : Nat) (p : Int32) : Nat → Nat → Int32 := if 0 < S q (26 + tn p) then kcM (up2 S q 126 (S q 126 + 3)) q (laF (up2 S q 126 (S q 126 + 3)) (tn p)) else S
def spU (T : Nat → Nat → Int32) (q : Nat) : Nat → Nat → Int32 := up2 (up2 T q 126 (T q 126 + if 2 < onL (T q 25) 16 0 0 then 10 else 1)) q 127 (up2 T q 126 (T q 126 + if 2 < onL (T q 25) 16 0 0 then 10 else 1) q 127 + 1)
def spS (S : Nat → Nat → Int32) (q : Nat) : Nat → Nat → Int32 := if bsP S q then spU (spT (bsS S q) q (S q 21)) q else bsS S q
theorem e_laN (G : GT) (S : Nat → Nat → Int32) (L : Nat → Int64) (a : Int32) (ha : ¬ a < 0 ∧ tn a < 16) : sE G yX10_leastAlike R_X10_leastAlike cX10_leastAlike 4 (some .int) [.ref (gB G + 179), .int a] S L (some (.int (laF S (tn a)))) S L := by
  have h := e_X10_leastAlike G S L (tn a) ha.2
  rw [← nI_self ha.1] at h
  exact h
set_option maxRecDepth 100000 in
set_option maxHeartbeats 4000000 in
theorem e_X10_keepCopy (G : GT) (S : Nat → Nat → Int32) (L : Nat → Int64) (q : Nat) (hq : shp q = (11, 128)) (hk : keP S q) (a : Int32) (ha : ¬ a < 0 ∧ tn a < 16) : sE G yX10_keepCopy R_X10_keepCopy cX10_keepCopy 5 none [.ref (gB G + 179), .ref (gB G + q), .int a] S L none (kcM S q (laF S (tn a))) L := by
  refine sE.of (by decide) (Nat.le_of_ble_eq_true rfl) ?_
  show sv_V G R_X10_keepCopy RX10 "keepCopy" cX10_keepCopy 5 none (sPo G R_X10_keepCopy none (kcM S q (laF S (tn a))) L) 0 0 197 (CF G S L) 0 [(0, .ref (gB G + 179)), (1, .ref (gB G + q)), (2, .int a)] []
  refine sv_aload_n 0 dX10_keepCopy_0 rfl ?_
  refine sv_iload_n 2 dX10_keepCopy_1 rfl ?_
  refine cVi1 (e_laN G _ _ a ha) ⟨rfl, rfl⟩ (sv_w5 ml_RX10_149 im_X10_leastAlike sl_X10_leastAlike in_RX10 cd_X10_leastAlike) nm_X10_leastAlike ⟨Nat.le_of_ble_eq_true rfl, Nat.le_of_ble_eq_true rfl⟩ rfl (CF_10 sh_179) (shp_lt sh_179 (by simp)) (Nat.le_of_ble_eq_true rfl) ⟨Nat.le_of_ble_eq_true rfl, Nat.le_of_ble_eq_true rfl⟩ dX10_keepCopy_2 ?_
  refine sv_istore_n (ls' := [(3, _), (0, _), (1, _), (2, _)]) dX10_keepCopy_5 (by decide) rfl ?_
  refine sv_iconst (v := 0) dX10_keepCopy_6 (by decide) ?_
  refine sv_istore (ls' := [(4, _), (3, _), (0, _), (1, _), (2, _)]) dX10_keepCopy_7 (by decide) rfl ?_
  exact l_X10_keepCopy G S L q hq _ a (tn (S q 122)) (tn_le (M := 3) rfl (by decide) hk.1 hk.2) (nI_self hk.1) _ 0 rfl (by omega) (fun j hj => absurd hj (by omega))
abbrev apV (h v f : Int32) : Prop := (h = 0 ∧ v < f) ∨ (¬ h = 0 ∧ h = 1 ∧ v = f) ∨ (¬ h = 0 ∧ ¬ h = 1 ∧ f < v)
abbrev aplP (S : Nat → Nat → Int32) (q : Nat) (p : Int32) : Prop := hasY S p ∧ ¬ S q (26 + tn p) = 0 ∧ (S q (42 + tn p) = -9 ∨ apV (S q (58 + tn p)) (S q (tn (S q (42 + tn p)))) (S q (74 + tn p)))
set_option maxRecDepth 100000 in
set_option maxHeartbeats 4000000 in
theorem e_X10_applies (G : GT) (S : Nat → Nat → Int32) (L : Nat → Int64) (hN : wfN S) (q : Nat) (hq : shp q = (11, 128)) (hR : wfR S q) (a : Int32) : sE G yX10_applies R_X10_applies cX10_applies 7 (some .boolean) [.ref (gB G + 179), .ref (gB G + q), .int a] S L (some (.int (if (aplP S q a) then 1 else 0))) S L := by
  refine sE.of (by decide) (Nat.le_of_ble_eq_true rfl) ?_
  show sv_V G R_X10_applies RX10 "applies" cX10_applies 7 (some .boolean) (sPo G R_X10_applies (some (.int (if (aplP S q a) then 1 else 0))) S L) 0 0 197 (CF G S L) 0 [(0, .ref (gB G + 179)), (1, .ref (gB G + q)), (2, .int a)] []
  refine sv_aload_n 0 dX10_applies_0 rfl ?_
  refine sv_iload_n 2 dX10_applies_1 rfl ?_
  refine cVi1 (e_X10_isPlace G _ _ hN _) ⟨rfl, rfl⟩ (sv_w5 ml_RX10_135 im_X10_isPlace sl_X10_isPlace in_RX10 cd_X10_isPlace) nm_X10_isPlace ⟨Nat.le_of_ble_eq_true rfl, Nat.le_of_ble_eq_true rfl⟩ rfl (CF_10 sh_179) (shp_lt sh_179 (by simp)) (Nat.le_of_ble_eq_true rfl) ⟨Nat.le_of_ble_eq_true rfl, Nat.le_of_ble_eq_true rfl⟩ dX10_applies_2 ?_
  refine sv_ifeq_b (tgt := 17) dX10_applies_5 (by decide) (fun c5 => ?_) (fun c5 => ?_)
  · -- jump
    refine sv_iconst (v := 0) dX10_applies_17 (by decide) ?_
    exact se_zret rfl ⟨rfl, rfl⟩ dX10_applies_18 (by rfl) (by rw [if_neg (show ¬ aplP S q a from fun h => c5 h.1)]) rfl
  · -- fall
    refine sv_aload_n 1 dX10_applies_8 rfl ?_
    refine sv_bipush (v := 26) dX10_applies_9 (by decide) ?_
    refine sv_iload_n 2 dX10_applies_11 rfl ?_
    refine sv_iadd dX10_applies_12 ?_
    refine sx_ild hq (26 + tn a) (ad_tn 26 c5.1) (by have := (hY16 hN c5).2; omega) dX10_applies_13 ?_
    refine sv_if_ne (tgt := 19) dX10_applies_14 (by decide) (fun c14 => ?_) (fun c14 => ?_)
    · -- jump
      refine sv_aload_n 1 dX10_applies_19 rfl ?_
      refine sv_bipush (v := 42) dX10_applies_20 (by decide) ?_
      refine sv_iload_n 2 dX10_applies_22 rfl ?_
      refine sv_iadd dX10_applies_23 ?_
      refine sx_ild hq (42 + tn a) (ad_tn 42 c5.1) (by have := (hY16 hN c5).2; omega) dX10_applies_24 ?_
      refine sv_istore_n (ls' := [(3, _), (0, _), (1, _), (2, _)]) dX10_applies_25 (by decide) rfl ?_
      refine sv_iload_n 0 dX10_applies_26 rfl ?_
      refine sv_bipush (v := (-9)) dX10_applies_27 (by decide) ?_
      refine sv_icmp_ne (tgt := 34) dX10_applies_29 (by decide) (fun c29 => ?_) (fun c29 => ?_)
      · -- jump
        have hreg := (hR.2.2 _ (hY16 hN c5).2 c14).resolve_left c29
        refine sv_aload_n 2 dX10_applies_34 rfl ?_
        refine sv_iload_n 0 dX10_applies_35 rfl ?_
        refine sx_ild hq (tn (S q (42 + tn a))) (nI_self hreg.1) (by have := tn_lt (M := 4) (k := 4) rfl (by decide) hreg.1 hreg.2; omega) dX10_applies_36 ?_
        refine sv_istore (ls' := [(4, _), (3, _), (0, _), (1, _), (2, _)]) dX10_applies_37 (by decide) rfl ?_
        refine sv_aload_n 3 dX10_applies_39 rfl ?_
        refine sv_bipush (v := 74) dX10_applies_40 (by decide) ?_
        refine sv_iload_n 4 dX10_applies_42 rfl ?_
        refine sv_iadd dX10_applies_43 ?_
        refine sx_ild hq (74 + tn a) (ad_tn 74 c5.1) (by have := (hY16 hN c5).2; omega) dX10_applies_44 ?_
        refine sv_istore (ls' := [(5, _), (4, _), (3, _), (0, _), (1, _), (2, _)]) dX10_applies_45 (by decide) rfl ?_
        refine sv_aload_n 4 dX10_applies_47 rfl ?_
        refine sv_bipush (v := 58) dX10_applies_48 (by decide) ?_
        refine sv_iload_n 5 dX10_applies_50 rfl ?_
        refine sv_iadd dX10_applies_51 ?_
        refine sx_ild hq (58 + tn a) (ad_tn 58 c5.1) (by have := (hY16 hN c5).2; omega) dX10_applies_52 ?_
        refine sv_istore (ls' := [(6, _), (5, _), (4, _), (3, _), (0, _), (1, _), (2, _)]) dX10_applies_53 (by decide) rfl ?_
        refine sv_iload 0 dX10_applies_55 rfl ?_
        refine sv_if_ne (tgt := 75) dX10_applies_57 (by decide) (fun c57 => ?_) (fun c57 => ?_)
        · -- jump
          refine sv_iload 0 dX10_applies_75 rfl ?_
          refine sv_iconst (v := 1) dX10_applies_77 (by decide) ?_
          refine sv_icmp_ne (tgt := 96) dX10_applies_78 (by decide) (fun c78 => ?_) (fun c78 => ?_)
          · -- jump
            refine sv_iload 2 dX10_applies_96 rfl ?_
            refine sv_iload 1 dX10_applies_98 rfl ?_
            refine sv_icmp_le (tgt := 107) dX10_applies_100 (by decide) (fun c100 => ?_) (fun c100 => ?_)
            · -- jump
              refine sv_iconst (v := 0) dX10_applies_107 (by decide) ?_
              exact se_zret rfl ⟨rfl, rfl⟩ dX10_applies_108 (by rfl) (by rw [if_neg (show ¬ aplP S q a from fun h => h.2.2.elim c29 (fun h => h.elim (fun z => c57 z.1) (fun h => h.elim (fun z => c78 z.2.1) (fun z => (Int32.not_lt.mpr c100) z.2.2))))]) rfl
            · -- fall
              refine sv_iconst (v := 1) dX10_applies_103 (by decide) ?_
              refine sv_goto (tgt := 108) dX10_applies_104 (by decide) ?_
              exact se_zret rfl ⟨rfl, rfl⟩ dX10_applies_108 (by rfl) (by rw [if_pos (show aplP S q a from ⟨c5, c14, Or.inr (Or.inr (Or.inr ⟨c57, c78, (Int32.not_le.mp c100)⟩))⟩)]) rfl
          · -- fall
            refine sv_iload 2 dX10_applies_81 rfl ?_
            refine sv_iload 1 dX10_applies_83 rfl ?_
            refine sv_icmp_ne (tgt := 92) dX10_applies_85 (by decide) (fun c85 => ?_) (fun c85 => ?_)
            · -- jump
              refine sv_iconst (v := 0) dX10_applies_92 (by decide) ?_
              refine sv_goto (tgt := 108) dX10_applies_93 (by decide) ?_
              exact se_zret rfl ⟨rfl, rfl⟩ dX10_applies_108 (by rfl) (by rw [if_neg (show ¬ aplP S q a from fun h => h.2.2.elim c29 (fun h => h.elim (fun z => c57 z.1) (fun h => h.elim (fun z => c85 z.2.2) (fun z => z.2.1 c78))))]) rfl
            · -- fall
              refine sv_iconst (v := 1) dX10_applies_88 (by decide) ?_
              refine sv_goto (tgt := 108) dX10_applies_89 (by decide) ?_
              exact se_zret rfl ⟨rfl, rfl⟩ dX10_applies_108 (by rfl) (by rw [if_pos (show aplP S q a from ⟨c5, c14, Or.inr (Or.inr (Or.inl ⟨c57, c78, (c85)⟩))⟩)]) rfl
        · -- fall
          refine sv_iload 2 dX10_applies_60 rfl ?_
          refine sv_iload 1 dX10_applies_62 rfl ?_
          refine sv_icmp_ge (tgt := 71) dX10_applies_64 (by decide) (fun c64 => ?_) (fun c64 => ?_)
          · -- jump
            refine sv_iconst (v := 0) dX10_applies_71 (by decide) ?_
            refine sv_goto (tgt := 108) dX10_applies_72 (by decide) ?_
            exact se_zret rfl ⟨rfl, rfl⟩ dX10_applies_108 (by rfl) (by rw [if_neg (show ¬ aplP S q a from fun h => h.2.2.elim c29 (fun h => h.elim (fun z => (Int32.not_lt.mpr c64) z.2) (fun h => h.elim (fun z => z.1 c57) (fun z => z.1 c57))))]) rfl
          · -- fall
            refine sv_iconst (v := 1) dX10_applies_67 (by decide) ?_
            refine sv_goto (tgt := 108) dX10_applies_68 (by decide) ?_
            exact se_zret rfl ⟨rfl, rfl⟩ dX10_applies_108 (by rfl) (by rw [if_pos (show aplP S q a from ⟨c5, c14, Or.inr (Or.inl ⟨c57, (Int32.not_le.mp c64)⟩)⟩)]) rfl
      · -- fall
        refine sv_iconst (v := 1) dX10_applies_32 (by decide) ?_
        exact se_zret rfl ⟨rfl, rfl⟩ dX10_applies_33 (by rfl) (by rw [if_pos (show aplP S q a from ⟨c5, c14, Or.inl c29⟩)]) rfl
    · -- fall
      refine sv_iconst (v := 0) dX10_applies_17 (by decide) ?_
      exact se_zret rfl ⟨rfl, rfl⟩ dX10_applies_18 (by rfl) (by rw [if_neg (show ¬ aplP S q a from fun h => h.2.1 c14)]) rfl
abbrev icP (S : Nat → Nat → Int32) (q k : Nat) : Prop := (S q 25 >>> (nI k &&& 31)) &&& 1 = 1 ∧ ¬ S q (4 + k) = S 191 k
def icB (S : Nat → Nat → Int32) (q : Nat) : Nat → Bool
  | 0 => false
  | k + 1 => icB S q k || decide (icP S q k)
set_option maxRecDepth 100000 in
set_option maxHeartbeats 4000000 in
theorem l_X10_isChanged (G : GT) (S : Nat → Nat → Int32) (L : Nat → Int64) (q : Nat) (hq : shp q = (11, 128)) : ∀ (m k : Nat), 8 - k = m → k ≤ 8 → sv_V G R_X10_isChanged RX10 "isChanged" cX10_isChanged 4 (some .boolean) (sPo G R_X10_isChanged (some (.int (if (icB S q 8 = true) then 1 else 0))) S L) 0 0 197 (CF G S L) 4 [(3, .int (nI k)), (2, .int (if icB S q k = true then 1 else 0)), (0, .ref (gB G + 179)), (1, .ref (gB G + q))] [] := by
  intro m
  induction m using Nat.strongRecOn
  rename_i m ih
  intro k hm hk
  refine sv_iload_n 0 dX10_isChanged_4 rfl ?_
  refine sv_bipush (v := 8) dX10_isChanged_5 (by decide) ?_
  refine sv_icmp_ge (tgt := 51) dX10_isChanged_7 (by decide) (fun c7 => ?_) (fun c7 => ?_)
  · -- jump
    obtain rfl : k = 8 := by have := (nI_leI (a := 8) (b := k) (by omega) (by omega)).mp c7; omega
    refine sv_iload_n 1 dX10_isChanged_51 rfl ?_
    exact se_zret rfl ⟨rfl, rfl⟩ dX10_isChanged_52 (by first | rfl | (split <;> rfl)) rfl rfl
  · -- fall
    have h7 : k < 8 := Nat.lt_of_not_le (fun z => c7 (nI_le (a := 8) z (by omega)))
    refine sv_iload_n 1 dX10_isChanged_10 rfl ?_
    refine sv_ifne_b (tgt := 39) dX10_isChanged_11 (by decide) (fun c11 => ?_) (fun c11 => ?_)
    · -- jump
      refine sv_iconst (v := 1) dX10_isChanged_39 (by decide) ?_
      refine sv_goto (tgt := 44) dX10_isChanged_40 (by decide) ?_
      refine sv_istore_n (ls' := [(2, _), (3, _), (0, _), (1, _)]) dX10_isChanged_44 (by decide) rfl ?_
      refine sv_iinc 1 (ls' := [(3, _), (2, _), (0, _), (1, _)]) dX10_isChanged_45 rfl (nI_1 _) (by decide) rfl ?_
      refine sv_goto (tgt := 4) dX10_isChanged_48 (by decide) ?_
      have e : icB S q (k + 1) = true := by rw [icB, c11]; rfl
      have h := ih (8 - (k + 1)) (by omega) (k + 1) rfl (by omega)
      rw [if_pos e] at h
      exact h
    · -- fall
      refine sv_aload_n 3 dX10_isChanged_14 rfl ?_
      refine sv_bipush (v := 25) dX10_isChanged_15 (by decide) ?_
      refine sx_ild hq 25 (by decide) (by decide) dX10_isChanged_17 ?_
      refine sv_iload_n 0 dX10_isChanged_18 rfl ?_
      refine cSi2 (e_X10_has G _ _ _ _) ⟨rfl, rfl⟩ (sv_w4 ml_RX10_163 st_X10_has in_RX10 cd_X10_has) nm_X10_has ⟨Nat.le_of_ble_eq_true rfl, Nat.le_of_ble_eq_true rfl⟩ (Nat.le_of_ble_eq_true rfl) ⟨Nat.le_of_ble_eq_true rfl, Nat.le_of_ble_eq_true rfl⟩ dX10_isChanged_19 ?_
      refine sv_ifeq_b (tgt := 43) dX10_isChanged_22 (by decide) (fun c22 => ?_) (fun c22 => ?_)
      · -- jump
        refine sv_iconst (v := 0) dX10_isChanged_43 (by decide) ?_
        refine sv_istore_n (ls' := [(2, _), (3, _), (0, _), (1, _)]) dX10_isChanged_44 (by decide) rfl ?_
        refine sv_iinc 1 (ls' := [(3, _), (2, _), (0, _), (1, _)]) dX10_isChanged_45 rfl (nI_1 _) (by decide) rfl ?_
        refine sv_goto (tgt := 4) dX10_isChanged_48 (by decide) ?_
        have e : ¬ icB S q (k + 1) = true := by rw [icB, Bool.or_eq_true, decide_eq_true_eq]; exact fun h => h.elim c11 (fun z => c22 z.1)
        have h := ih (8 - (k + 1)) (by omega) (k + 1) rfl (by omega)
        rw [if_neg e] at h
        exact h
      · -- fall
        refine sv_aload_n 3 dX10_isChanged_25 rfl ?_
        refine sv_iconst (v := 4) dX10_isChanged_26 (by decide) ?_
        refine sv_iload_n 0 dX10_isChanged_27 rfl ?_
        refine sv_iadd dX10_isChanged_28 ?_
        refine sx_ild hq (4 + k) (nI_add 4 k) (by omega) dX10_isChanged_29 ?_
        refine sv_aload_n 2 dX10_isChanged_30 rfl ?_
        refine sg_10_19 sh_179 fl_RX10_44 dX10_isChanged_31 ?_
        refine sv_iload_n 0 dX10_isChanged_34 rfl ?_
        refine sx_ild sh_191 k rfl (by omega) dX10_isChanged_35 ?_
        refine sv_icmp_eq (tgt := 43) dX10_isChanged_36 (by decide) (fun c36 => ?_) (fun c36 => ?_)
        · -- jump
          refine sv_iconst (v := 0) dX10_isChanged_43 (by decide) ?_
          refine sv_istore_n (ls' := [(2, _), (3, _), (0, _), (1, _)]) dX10_isChanged_44 (by decide) rfl ?_
          refine sv_iinc 1 (ls' := [(3, _), (2, _), (0, _), (1, _)]) dX10_isChanged_45 rfl (nI_1 _) (by decide) rfl ?_
          refine sv_goto (tgt := 4) dX10_isChanged_48 (by decide) ?_
          have e : ¬ icB S q (k + 1) = true := by rw [icB, Bool.or_eq_true, decide_eq_true_eq]; exact fun h => h.elim c11 (fun z => z.2 c36)
          have h := ih (8 - (k + 1)) (by omega) (k + 1) rfl (by omega)
          rw [if_neg e] at h
          exact h
        · -- fall
          refine sv_iconst (v := 1) dX10_isChanged_39 (by decide) ?_
          refine sv_goto (tgt := 44) dX10_isChanged_40 (by decide) ?_
          refine sv_istore_n (ls' := [(2, _), (3, _), (0, _), (1, _)]) dX10_isChanged_44 (by decide) rfl ?_
          refine sv_iinc 1 (ls' := [(3, _), (2, _), (0, _), (1, _)]) dX10_isChanged_45 rfl (nI_1 _) (by decide) rfl ?_
          refine sv_goto (tgt := 4) dX10_isChanged_48 (by decide) ?_
          have e : icB S q (k + 1) = true := by rw [icB, Bool.or_eq_true, decide_eq_true_eq]; exact Or.inr ⟨c22, c36⟩
          have h := ih (8 - (k + 1)) (by omega) (k + 1) rfl (by omega)
          rw [if_pos e] at h
          exact h
set_option maxRecDepth 100000 in
set_option maxHeartbeats 4000000 in
theorem e_X10_isChanged (G : GT) (S : Nat → Nat → Int32) (L : Nat → Int64) (q : Nat) (hq : shp q = (11, 128)) : sE G yX10_isChanged R_X10_isChanged cX10_isChanged 4 (some .boolean) [.ref (gB G + 179), .ref (gB G + q)] S L (some (.int (if (icB S q 8 = true) then 1 else 0))) S L := by
  refine sE.of (by decide) (Nat.le_of_ble_eq_true rfl) ?_
  show sv_V G R_X10_isChanged RX10 "isChanged" cX10_isChanged 4 (some .boolean) (sPo G R_X10_isChanged (some (.int (if (icB S q 8 = true) then 1 else 0))) S L) 0 0 197 (CF G S L) 0 [(0, .ref (gB G + 179)), (1, .ref (gB G + q))] []
  refine sv_iconst (v := 0) dX10_isChanged_0 (by decide) ?_
  refine sv_istore_n (ls' := [(2, _), (0, _), (1, _)]) dX10_isChanged_1 (by decide) rfl ?_
  refine sv_iconst (v := 0) dX10_isChanged_2 (by decide) ?_
  refine sv_istore_n (ls' := [(3, _), (2, _), (0, _), (1, _)]) dX10_isChanged_3 (by decide) rfl ?_
  have h := l_X10_isChanged G S L q hq _ 0 rfl (by omega)
  rw [if_neg (show ¬ icB S q 0 = true from by simp [icB])] at h
  exact h
abbrev isqP (S : Nat → Nat → Int32) (q : Nat) : Prop := aplP S q (S q 21) ∧ ¬ 0 < S q (90 + tn (S q 21))
def isqS (S : Nat → Nat → Int32) (q : Nat) : Nat → Nat → Int32 := if aplP S q (S q 21) then (if 0 < S q (90 + tn (S q 21)) then up2 S q (90 + tn (S q 21)) (S q (90 + tn (S q 21)) - 1) else up2 S q (106 + tn (S q 21)) (S q (106 + tn (S q 21)) + 1)) else S
set_option maxRecDepth 100000 in
set_option maxHeartbeats 4000000 in
theorem e_X10_isStopped (G : GT) (S : Nat → Nat → Int32) (L : Nat → Int64) (hN : wfN S) (q : Nat) (hq : shp q = (11, 128)) (hR : wfR S q) : sE G yX10_isStopped R_X10_isStopped cX10_isStopped 3 (some .boolean) [.ref (gB G + 179), .ref (gB G + q)] S L (some (.int (if (isqP S q) then 1 else 0))) (isqS S q) L := by
  refine sE.of (by decide) (Nat.le_of_ble_eq_true rfl) ?_
  show sv_V G R_X10_isStopped RX10 "isStopped" cX10_isStopped 3 (some .boolean) (sPo G R_X10_isStopped (some (.int (if (isqP S q) then 1 else 0))) (isqS S q) L) 0 0 197 (CF G S L) 0 [(0, .ref (gB G + 179)), (1, .ref (gB G + q))] []
  refine sv_aload_n 1 dX10_isStopped_0 rfl ?_
  refine sv_bipush (v := 21) dX10_isStopped_1 (by decide) ?_
  refine sx_ild hq 21 (by decide) (by decide) dX10_isStopped_3 ?_
  refine sv_istore_n (ls' := [(2, _), (0, _), (1, _)]) dX10_isStopped_4 (by decide) rfl ?_
  refine sv_aload_n 1 dX10_isStopped_5 rfl ?_
  refine sv_aload_n 2 dX10_isStopped_6 rfl ?_
  refine sv_iload_n 0 dX10_isStopped_7 rfl ?_
  refine cVi2 (e_X10_applies G _ _ hN _ hq hR _) ⟨rfl, rfl⟩ (sv_w5 ml_RX10_166 im_X10_applies sl_X10_applies in_RX10 cd_X10_applies) nm_X10_applies ⟨Nat.le_of_ble_eq_true rfl, Nat.le_of_ble_eq_true rfl⟩ rfl (CF_10 sh_179) (shp_lt sh_179 (by simp)) (Nat.le_of_ble_eq_true rfl) ⟨Nat.le_of_ble_eq_true rfl, Nat.le_of_ble_eq_true rfl⟩ dX10_isStopped_8 ?_
  refine sv_ifne_b (tgt := 16) dX10_isStopped_11 (by decide) (fun c11 => ?_) (fun c11 => ?_)
  · -- jump
    refine sv_aload_n 2 dX10_isStopped_16 rfl ?_
    refine sv_bipush (v := 90) dX10_isStopped_17 (by decide) ?_
    refine sv_iload_n 0 dX10_isStopped_19 rfl ?_
    refine sv_iadd dX10_isStopped_20 ?_
    refine sx_ild hq (90 + tn (S q 21)) (ad_tn 90 c11.1.1) (by have := (hY16 hN c11.1).2; omega) dX10_isStopped_21 ?_
    refine sv_if_le (tgt := 37) dX10_isStopped_22 (by decide) (fun c22 => ?_) (fun c22 => ?_)
    · -- jump
      refine sv_aload_n 2 dX10_isStopped_37 rfl ?_
      refine sv_bipush (v := 106) dX10_isStopped_38 (by decide) ?_
      refine sv_iload_n 0 dX10_isStopped_40 rfl ?_
      refine sv_iadd dX10_isStopped_41 ?_
      refine sv_dup2_11 dX10_isStopped_42 rfl rfl ?_
      refine sx_ild hq (106 + tn (S q 21)) (ad_tn 106 c11.1.1) (by have := (hY16 hN c11.1).2; omega) dX10_isStopped_43 ?_
      refine sv_iconst (v := 1) dX10_isStopped_44 (by decide) ?_
      refine sv_iadd dX10_isStopped_45 ?_
      refine sx_ist hq (106 + tn (S q 21)) (ad_tn 106 c11.1.1) (by have := (hY16 hN c11.1).2; omega) dX10_isStopped_46 ?_
      refine sv_iconst (v := 1) dX10_isStopped_47 (by decide) ?_
      exact se_zret rfl ⟨rfl, rfl⟩ dX10_isStopped_48 (by rfl) (by rw [if_pos (show isqP S q from ⟨c11, Int32.not_lt.mpr c22⟩)]) (by rw [isqS, if_pos c11, if_neg (Int32.not_lt.mpr c22)] <;> exact sEq.rf _)
    · -- fall
      refine sv_aload_n 2 dX10_isStopped_25 rfl ?_
      refine sv_bipush (v := 90) dX10_isStopped_26 (by decide) ?_
      refine sv_iload_n 0 dX10_isStopped_28 rfl ?_
      refine sv_iadd dX10_isStopped_29 ?_
      refine sv_dup2_11 dX10_isStopped_30 rfl rfl ?_
      refine sx_ild hq (90 + tn (S q 21)) (ad_tn 90 c11.1.1) (by have := (hY16 hN c11.1).2; omega) dX10_isStopped_31 ?_
      refine sv_iconst (v := 1) dX10_isStopped_32 (by decide) ?_
      refine sv_isub dX10_isStopped_33 ?_
      refine sx_ist hq (90 + tn (S q 21)) (ad_tn 90 c11.1.1) (by have := (hY16 hN c11.1).2; omega) dX10_isStopped_34 ?_
      refine sv_iconst (v := 0) dX10_isStopped_35 (by decide) ?_
      exact se_zret rfl ⟨rfl, rfl⟩ dX10_isStopped_36 (by rfl) (by rw [if_neg (show ¬ isqP S q from fun h => h.2 (Int32.not_le.mp c22))]) (by rw [isqS, if_pos c11, if_pos (Int32.not_le.mp c22)] <;> exact sEq.rf _)
  · -- fall
    refine sv_iconst (v := 0) dX10_isStopped_14 (by decide) ?_
    exact se_zret rfl ⟨rfl, rfl⟩ dX10_isStopped_15 (by rfl) (by rw [if_neg (show ¬ isqP S q from fun h => c11 h.1)]) (by rw [isqS, if_neg c11] <;> exact sEq.rf _)
abbrev thP (k d0 d : Int32) : Prop := k = 0 ∨ (k = 1 ∧ d ≤ d0) ∨ (k = 2 ∧ d < d0)
set_option maxRecDepth 100000 in
set_option maxHeartbeats 4000000 in
theorem e_X10_isThrough (G : GT) (S : Nat → Nat → Int32) (L : Nat → Int64) (a b c : Int32) : sE G yX10_isThrough R_X10_isThrough cX10_isThrough 3 (some .boolean) [.int a, .int b, .int c] S L (some (.int (if (thP a b c) then 1 else 0))) S L := by
  refine sE.of (by decide) (Nat.le_of_ble_eq_true rfl) ?_
  show sv_V G R_X10_isThrough RX10 "isThrough" cX10_isThrough 3 (some .boolean) (sPo G R_X10_isThrough (some (.int (if (thP a b c) then 1 else 0))) S L) 0 0 197 (CF G S L) 0 [(0, .int a), (1, .int b), (2, .int c)] []
  refine sv_iload_n 0 dX10_isThrough_0 rfl ?_
  refine sv_if_eq (tgt := 24) dX10_isThrough_1 (by decide) (fun c1 => ?_) (fun c1 => ?_)
  · -- jump
    refine sv_iconst (v := 1) dX10_isThrough_24 (by decide) ?_
    refine sv_goto (tgt := 29) dX10_isThrough_25 (by decide) ?_
    exact se_zret rfl ⟨rfl, rfl⟩ dX10_isThrough_29 (by rfl) (by rw [if_pos (show thP a b c from Or.inl c1)]) rfl
  · -- fall
    refine sv_iload_n 0 dX10_isThrough_4 rfl ?_
    refine sv_iconst (v := 1) dX10_isThrough_5 (by decide) ?_
    refine sv_icmp_ne (tgt := 14) dX10_isThrough_6 (by decide) (fun c6 => ?_) (fun c6 => ?_)
    · -- jump
      refine sv_iload_n 0 dX10_isThrough_14 rfl ?_
      refine sv_iconst (v := 2) dX10_isThrough_15 (by decide) ?_
      refine sv_icmp_ne (tgt := 28) dX10_isThrough_16 (by decide) (fun c16 => ?_) (fun c16 => ?_)
      · -- jump
        refine sv_iconst (v := 0) dX10_isThrough_28 (by decide) ?_
        exact se_zret rfl ⟨rfl, rfl⟩ dX10_isThrough_29 (by rfl) (by rw [if_neg (show ¬ thP a b c from fun h => h.elim c1 (fun h => h.elim (fun z => c6 z.1) (fun z => c16 z.1)))]) rfl
      · -- fall
        refine sv_iload_n 2 dX10_isThrough_19 rfl ?_
        refine sv_iload_n 1 dX10_isThrough_20 rfl ?_
        refine sv_icmp_ge (tgt := 28) dX10_isThrough_21 (by decide) (fun c21 => ?_) (fun c21 => ?_)
        · -- jump
          refine sv_iconst (v := 0) dX10_isThrough_28 (by decide) ?_
          exact se_zret rfl ⟨rfl, rfl⟩ dX10_isThrough_29 (by rfl) (by rw [if_neg (show ¬ thP a b c from fun h => h.elim c1 (fun h => h.elim (fun z => c6 z.1) (fun z => (Int32.not_lt.mpr c21) z.2)))]) rfl
        · -- fall
          refine sv_iconst (v := 1) dX10_isThrough_24 (by decide) ?_
          refine sv_goto (tgt := 29) dX10_isThrough_25 (by decide) ?_
          exact se_zret rfl ⟨rfl, rfl⟩ dX10_isThrough_29 (by rfl) (by rw [if_pos (show thP a b c from Or.inr (Or.inr ⟨c16, Int32.not_le.mp c21⟩))]) rfl
    · -- fall
      refine sv_iload_n 2 dX10_isThrough_9 rfl ?_
      refine sv_iload_n 1 dX10_isThrough_10 rfl ?_
      refine sv_icmp_le (tgt := 24) dX10_isThrough_11 (by decide) (fun c11 => ?_) (fun c11 => ?_)
      · -- jump
        refine sv_iconst (v := 1) dX10_isThrough_24 (by decide) ?_
        refine sv_goto (tgt := 29) dX10_isThrough_25 (by decide) ?_
        exact se_zret rfl ⟨rfl, rfl⟩ dX10_isThrough_29 (by rfl) (by rw [if_pos (show thP a b c from Or.inr (Or.inl ⟨c6, c11⟩))]) rfl
      · -- fall
        refine sv_iload_n 0 dX10_isThrough_14 rfl ?_
        refine sv_iconst (v := 2) dX10_isThrough_15 (by decide) ?_
        refine sv_icmp_ne (tgt := 28) dX10_isThrough_16 (by decide) (fun c16 => ?_) (fun c16 => ?_)
        · -- jump
          refine sv_iconst (v := 0) dX10_isThrough_28 (by decide) ?_
          exact se_zret rfl ⟨rfl, rfl⟩ dX10_isThrough_29 (by rfl) (by rw [if_neg (show ¬ thP a b c from fun h => h.elim c1 (fun h => h.elim (fun z => c11 z.2) (fun z => c16 z.1)))]) rfl
        · -- fall
          refine sv_iload_n 2 dX10_isThrough_19 rfl ?_
          refine sv_iload_n 1 dX10_isThrough_20 rfl ?_
          refine sv_icmp_ge (tgt := 28) dX10_isThrough_21 (by decide) (fun c21 => ?_) (fun c21 => ?_)
          · -- jump
            refine sv_iconst (v := 0) dX10_isThrough_28 (by decide) ?_
            exact se_zret rfl ⟨rfl, rfl⟩ dX10_isThrough_29 (by rfl) (by rw [if_neg (show ¬ thP a b c from fun h => h.elim c1 (fun h => h.elim (fun z => c11 z.2) (fun z => (Int32.not_lt.mpr c21) z.2)))]) rfl
          · -- fall
            refine sv_iconst (v := 1) dX10_isThrough_24 (by decide) ?_
            refine sv_goto (tgt := 29) dX10_isThrough_25 (by decide) ?_
            exact se_zret rfl ⟨rfl, rfl⟩ dX10_isThrough_29 (by rfl) (by rw [if_pos (show thP a b c from Or.inr (Or.inr ⟨c16, Int32.not_le.mp c21⟩))]) rfl
def rsR (S : Nat → Nat → Int32) (q : Nat) (k d0 t : Int32) : Int32 := if S q 22 = 1 then 3 else if icB S q 8 = true then 2 else if isqP S q then 1 else if thP k d0 (S q 20) then 0 else if t = 99 then 5 else -9
def rsS (S : Nat → Nat → Int32) (q : Nat) : Nat → Nat → Int32 := if S q 22 = 1 then S else if icB S q 8 = true then S else isqS S q
theorem isq_lo {S : Nat → Nat → Int32} {q k j : Nat} (h : k ≠ q ∨ j < 90) : isqS S q k j = S k j := by
  unfold isqS
  split
  · split <;> exact up2_ne (h.imp id (fun z => by omega))
  · rfl
set_option maxRecDepth 100000 in
set_option maxHeartbeats 4000000 in
theorem e_X10_reason (G : GT) (S : Nat → Nat → Int32) (L : Nat → Int64) (hN : wfN S) (q : Nat) (hq : shp q = (11, 128)) (hR : wfR S q) (k d t : Int32) : sE G yX10_reason R_X10_reason cX10_reason 5 (some .int) [.ref (gB G + 179), .ref (gB G + q), .int k, .int d, .int t] S L (some (.int (rsR S q k d t))) (rsS S q) L := by
  refine sE.of (by decide) (Nat.le_of_ble_eq_true rfl) ?_
  show sv_V G R_X10_reason RX10 "reason" cX10_reason 5 (some .int) (sPo G R_X10_reason (some (.int (rsR S q k d t))) (rsS S q) L) 0 0 197 (CF G S L) 0 [(0, .ref (gB G + 179)), (1, .ref (gB G + q)), (2, .int k), (3, .int d), (4, .int t)] []
  refine sv_aload_n 1 dX10_reason_0 rfl ?_
  refine sv_bipush (v := 22) dX10_reason_1 (by decide) ?_
  refine sx_ild hq 22 (by decide) (by decide) dX10_reason_3 ?_
  refine sv_iconst (v := 1) dX10_reason_4 (by decide) ?_
  refine sv_icmp_ne (tgt := 10) dX10_reason_5 (by decide) (fun c5 => ?_) (fun c5 => ?_)
  · -- jump
    refine sv_aload_n 0 dX10_reason_10 rfl ?_
    refine sv_aload_n 1 dX10_reason_11 rfl ?_
    refine cVi1 (e_X10_isChanged G _ _ _ hq) ⟨rfl, rfl⟩ (sv_w5 ml_RX10_169 im_X10_isChanged sl_X10_isChanged in_RX10 cd_X10_isChanged) nm_X10_isChanged ⟨Nat.le_of_ble_eq_true rfl, Nat.le_of_ble_eq_true rfl⟩ rfl (CF_10 sh_179) (shp_lt sh_179 (by simp)) (Nat.le_of_ble_eq_true rfl) ⟨Nat.le_of_ble_eq_true rfl, Nat.le_of_ble_eq_true rfl⟩ dX10_reason_12 ?_
    refine sv_ifeq_b (tgt := 20) dX10_reason_15 (by decide) (fun c15 => ?_) (fun c15 => ?_)
    · -- jump
      refine sv_aload_n 0 dX10_reason_20 rfl ?_
      refine sv_aload_n 1 dX10_reason_21 rfl ?_
      refine cVi1 (e_X10_isStopped G _ _ hN _ hq hR) ⟨rfl, rfl⟩ (sv_w5 ml_RX10_172 im_X10_isStopped sl_X10_isStopped in_RX10 cd_X10_isStopped) nm_X10_isStopped ⟨Nat.le_of_ble_eq_true rfl, Nat.le_of_ble_eq_true rfl⟩ rfl (CF_10 sh_179) (shp_lt sh_179 (by simp)) (Nat.le_of_ble_eq_true rfl) ⟨Nat.le_of_ble_eq_true rfl, Nat.le_of_ble_eq_true rfl⟩ dX10_reason_22 ?_
      refine sv_ifeq_b (tgt := 30) dX10_reason_25 (by decide) (fun c25 => ?_) (fun c25 => ?_)
      · -- jump
        refine sv_iload_n 2 dX10_reason_30 rfl ?_
        refine sv_iload_n 3 dX10_reason_31 rfl ?_
        refine sv_aload_n 1 dX10_reason_32 rfl ?_
        refine sv_bipush (v := 20) dX10_reason_33 (by decide) ?_
        refine sx_ild hq 20 (by decide) (by decide) dX10_reason_35 ?_
        refine sv_topE (v' := S q 20) (isq_lo (Or.inr (by decide))) ?_
        refine cSi3 (e_X10_isThrough G _ _ _ _ _) ⟨rfl, rfl⟩ (sv_w4 ml_RX10_175 st_X10_isThrough in_RX10 cd_X10_isThrough) nm_X10_isThrough ⟨Nat.le_of_ble_eq_true rfl, Nat.le_of_ble_eq_true rfl⟩ (Nat.le_of_ble_eq_true rfl) ⟨Nat.le_of_ble_eq_true rfl, Nat.le_of_ble_eq_true rfl⟩ dX10_reason_36 ?_
        refine sv_ifeq_b (tgt := 44) dX10_reason_39 (by decide) (fun c39 => ?_) (fun c39 => ?_)
        · -- jump
          refine sv_iload 4 dX10_reason_44 rfl ?_
          refine sv_bipush (v := 99) dX10_reason_46 (by decide) ?_
          refine sv_icmp_ne (tgt := 55) dX10_reason_48 (by decide) (fun c48 => ?_) (fun c48 => ?_)
          · -- jump
            refine sv_bipush (v := (-9)) dX10_reason_55 (by decide) ?_
            exact se_iret rfl ⟨rfl, rfl⟩ dX10_reason_57 (by rw [rsR, if_neg c5, if_neg c15, if_neg c25, if_neg c39, if_neg c48]) (by rw [rsS, if_neg c5, if_neg c15] <;> exact sEq.rf _)
          · -- fall
            refine sv_iconst (v := 5) dX10_reason_51 (by decide) ?_
            refine sv_goto (tgt := 57) dX10_reason_52 (by decide) ?_
            exact se_iret rfl ⟨rfl, rfl⟩ dX10_reason_57 (by rw [rsR, if_neg c5, if_neg c15, if_neg c25, if_neg c39, if_pos c48]) (by rw [rsS, if_neg c5, if_neg c15] <;> exact sEq.rf _)
        · -- fall
          refine sv_iconst (v := 0) dX10_reason_42 (by decide) ?_
          exact se_iret rfl ⟨rfl, rfl⟩ dX10_reason_43 (by rw [rsR, if_neg c5, if_neg c15, if_neg c25, if_pos c39]) (by rw [rsS, if_neg c5, if_neg c15] <;> exact sEq.rf _)
      · -- fall
        refine sv_iconst (v := 1) dX10_reason_28 (by decide) ?_
        exact se_iret rfl ⟨rfl, rfl⟩ dX10_reason_29 (by rw [rsR, if_neg c5, if_neg c15, if_pos c25]) (by rw [rsS, if_neg c5, if_neg c15] <;> exact sEq.rf _)
    · -- fall
      refine sv_iconst (v := 2) dX10_reason_18 (by decide) ?_
      exact se_iret rfl ⟨rfl, rfl⟩ dX10_reason_19 (by rw [rsR, if_neg c5, if_pos c15]) (by rw [rsS, if_neg c5, if_pos c15] <;> exact sEq.rf _)
  · -- fall
    refine sv_iconst (v := 3) dX10_reason_8 (by decide) ?_
    exact se_iret rfl ⟨rfl, rfl⟩ dX10_reason_9 (by rw [rsR, if_pos c5]) (by rw [rsS, if_pos c5] <;> exact sEq.rf _)
set_option maxRecDepth 100000 in
set_option maxHeartbeats 4000000 in
theorem e_X10_step (G : GT) (S : Nat → Nat → Int32) (L : Nat → Int64) (hY : wfY S) (q : Nat) (hq : shp q = (11, 128)) (hqq : q ≠ 181 ∧ q ≠ 182 ∧ q ≠ 183) (hR : wfR S q) : sE G yX10_step R_X10_step cX10_step 3 (some .boolean) [.ref (gB G + 179), .ref (gB G + q)] S L (some (.int (if (bsP S q) then 1 else 0))) (spS S q) L := by
  refine sE.of (by decide) (Nat.le_of_ble_eq_true rfl) ?_
  show sv_V G R_X10_step RX10 "step" cX10_step 3 (some .boolean) (sPo G R_X10_step (some (.int (if (bsP S q) then 1 else 0))) (spS S q) L) 0 0 197 (CF G S L) 0 [(0, .ref (gB G + 179)), (1, .ref (gB G + q))] []
  refine sv_aload_n 1 dX10_step_0 rfl ?_
  refine sv_bipush (v := 21) dX10_step_1 (by decide) ?_
  refine sx_ild hq 21 (by decide) (by decide) dX10_step_3 ?_
  refine sv_istore_n (ls' := [(2, _), (0, _), (1, _)]) dX10_step_4 (by decide) rfl ?_
  refine sv_aload_n 1 dX10_step_5 rfl ?_
  refine sv_aload_n 2 dX10_step_6 rfl ?_
  refine cVi1 (e_X10_bareStep G _ _ hY _ hq hqq hR) ⟨rfl, rfl⟩ (sv_w5 ml_RX10_152 im_X10_bareStep sl_X10_bareStep in_RX10 cd_X10_bareStep) nm_X10_bareStep ⟨Nat.le_of_ble_eq_true rfl, Nat.le_of_ble_eq_true rfl⟩ rfl (CF_10 sh_179) (shp_lt sh_179 (by simp)) (Nat.le_of_ble_eq_true rfl) ⟨Nat.le_of_ble_eq_true rfl, Nat.le_of_ble_eq_true rfl⟩ dX10_step_7 ?_
  refine sv_ifne_b (tgt := 15) dX10_step_10 (by decide) (fun c10 => ?_) (fun c10 => ?_)
  · -- jump
    refine sv_aload_n 2 dX10_step_15 rfl ?_
    refine sv_bipush (v := 26) dX10_step_16 (by decide) ?_
    refine sv_iload_n 0 dX10_step_18 rfl ?_
    refine sv_iadd dX10_step_19 ?_
    refine sx_ild hq (26 + tn (S q 21)) (ad_tn 26 (bsP_has c10).1) (by have := (hY16 hY.1 (bsP_has c10)).2; omega) dX10_step_20 ?_
    refine sv_if_le (tgt := 38) dX10_step_21 (by decide) (fun c21 => ?_) (fun c21 => ?_)
    · -- jump
      refine sv_aload_n 2 dX10_step_38 rfl ?_
      refine sv_bipush (v := 126) dX10_step_39 (by decide) ?_
      refine sv_dup2_11 dX10_step_41 rfl rfl ?_
      refine sx_ild hq 126 (by decide) (by decide) dX10_step_42 ?_
      refine sv_aload_n 2 dX10_step_43 rfl ?_
      refine sv_bipush (v := 25) dX10_step_44 (by decide) ?_
      refine sx_ild hq 25 (by decide) (by decide) dX10_step_46 ?_
      refine cSi1 (e_X10_ones G _ _ _) ⟨rfl, rfl⟩ (sv_w4 ml_RX10_160 st_X10_ones in_RX10 cd_X10_ones) nm_X10_ones ⟨Nat.le_of_ble_eq_true rfl, Nat.le_of_ble_eq_true rfl⟩ (Nat.le_of_ble_eq_true rfl) ⟨Nat.le_of_ble_eq_true rfl, Nat.le_of_ble_eq_true rfl⟩ dX10_step_47 ?_
      refine sv_iconst (v := 2) dX10_step_50 (by decide) ?_
      refine sv_icmp_le (tgt := 59) dX10_step_51 (by decide) (fun c51 => ?_) (fun c51 => ?_)
      · -- jump
        refine sv_iconst (v := 1) dX10_step_59 (by decide) ?_
        refine sv_iadd dX10_step_60 ?_
        refine sx_ist hq 126 (by decide) (by decide) dX10_step_61 ?_
        refine sv_aload_n 2 dX10_step_62 rfl ?_
        refine sv_bipush (v := 127) dX10_step_63 (by decide) ?_
        refine sv_dup2_11 dX10_step_65 rfl rfl ?_
        refine sx_ild hq 127 (by decide) (by decide) dX10_step_66 ?_
        refine sv_iconst (v := 1) dX10_step_67 (by decide) ?_
        refine sv_iadd dX10_step_68 ?_
        refine sx_ist hq 127 (by decide) (by decide) dX10_step_69 ?_
        refine sv_iconst (v := 1) dX10_step_70 (by decide) ?_
        exact se_zret rfl ⟨rfl, rfl⟩ dX10_step_71 (by rfl) (by rw [if_pos c10]) (by rw [spS, if_pos c10, spT, if_neg (Int32.not_lt.mpr c21), spU, if_neg (Int32.not_lt.mpr c51)] <;> exact sEq.rf _)
      · -- fall
        refine sv_bipush (v := 10) dX10_step_54 (by decide) ?_
        refine sv_goto (tgt := 60) dX10_step_56 (by decide) ?_
        refine sv_iadd dX10_step_60 ?_
        refine sx_ist hq 126 (by decide) (by decide) dX10_step_61 ?_
        refine sv_aload_n 2 dX10_step_62 rfl ?_
        refine sv_bipush (v := 127) dX10_step_63 (by decide) ?_
        refine sv_dup2_11 dX10_step_65 rfl rfl ?_
        refine sx_ild hq 127 (by decide) (by decide) dX10_step_66 ?_
        refine sv_iconst (v := 1) dX10_step_67 (by decide) ?_
        refine sv_iadd dX10_step_68 ?_
        refine sx_ist hq 127 (by decide) (by decide) dX10_step_69 ?_
        refine sv_iconst (v := 1) dX10_step_70 (by decide) ?_
        exact se_zret rfl ⟨rfl, rfl⟩ dX10_step_71 (by rfl) (by rw [if_pos c10]) (by rw [spS, if_pos c10, spT, if_neg (Int32.not_lt.mpr c21), spU, if_pos (Int32.not_le.mp c51)] <;> exact sEq.rf _)
    · -- fall
      refine sv_aload_n 2 dX10_step_24 rfl ?_
      refine sv_bipush (v := 126) dX10_step_25 (by decide) ?_
      refine sv_dup2_11 dX10_step_27 rfl rfl ?_
      refine sx_ild hq 126 (by decide) (by decide) dX10_step_28 ?_
      refine sv_iconst (v := 3) dX10_step_29 (by decide) ?_
      refine sv_iadd dX10_step_30 ?_
      refine sx_ist hq 126 (by decide) (by decide) dX10_step_31 ?_
      refine sv_aload_n 1 dX10_step_32 rfl ?_
      refine sv_aload_n 2 dX10_step_33 rfl ?_
      refine sv_iload_n 0 dX10_step_34 rfl ?_
      refine cVv2 (e_X10_keepCopy G _ _ _ hq (by rw [keP, up2_ne (Or.inr (by decide)), bsS_hi hY hR (Or.inr (by decide))]; exact hR.2.1) _ ⟨(bsP_has c10).1, (hY16 hY.1 (bsP_has c10)).2⟩) ⟨rfl, rfl⟩ (sv_w5 ml_RX10_156 im_X10_keepCopy sl_X10_keepCopy in_RX10 cd_X10_keepCopy) nm_X10_keepCopy ⟨Nat.le_of_ble_eq_true rfl, Nat.le_of_ble_eq_true rfl⟩ rfl (CF_10 sh_179) (shp_lt sh_179 (by simp)) (Nat.le_of_ble_eq_true rfl) ⟨Nat.le_of_ble_eq_true rfl, Nat.le_of_ble_eq_true rfl⟩ dX10_step_35 ?_
      refine sv_aload_n 2 dX10_step_38 rfl ?_
      refine sv_bipush (v := 126) dX10_step_39 (by decide) ?_
      refine sv_dup2_11 dX10_step_41 rfl rfl ?_
      refine sx_ild hq 126 (by decide) (by decide) dX10_step_42 ?_
      refine sv_aload_n 2 dX10_step_43 rfl ?_
      refine sv_bipush (v := 25) dX10_step_44 (by decide) ?_
      refine sx_ild hq 25 (by decide) (by decide) dX10_step_46 ?_
      refine cSi1 (e_X10_ones G _ _ _) ⟨rfl, rfl⟩ (sv_w4 ml_RX10_160 st_X10_ones in_RX10 cd_X10_ones) nm_X10_ones ⟨Nat.le_of_ble_eq_true rfl, Nat.le_of_ble_eq_true rfl⟩ (Nat.le_of_ble_eq_true rfl) ⟨Nat.le_of_ble_eq_true rfl, Nat.le_of_ble_eq_true rfl⟩ dX10_step_47 ?_
      refine sv_iconst (v := 2) dX10_step_50 (by decide) ?_
      refine sv_icmp_le (tgt := 59) dX10_step_51 (by decide) (fun c51 => ?_) (fun c51 => ?_)
      · -- jump
        refine sv_iconst (v := 1) dX10_step_59 (by decide) ?_
        refine sv_iadd dX10_step_60 ?_
        refine sx_ist hq 126 (by decide) (by decide) dX10_step_61 ?_
        refine sv_aload_n 2 dX10_step_62 rfl ?_
        refine sv_bipush (v := 127) dX10_step_63 (by decide) ?_
        refine sv_dup2_11 dX10_step_65 rfl rfl ?_
        refine sx_ild hq 127 (by decide) (by decide) dX10_step_66 ?_
        refine sv_iconst (v := 1) dX10_step_67 (by decide) ?_
        refine sv_iadd dX10_step_68 ?_
        refine sx_ist hq 127 (by decide) (by decide) dX10_step_69 ?_
        refine sv_iconst (v := 1) dX10_step_70 (by decide) ?_
        exact se_zret rfl ⟨rfl, rfl⟩ dX10_step_71 (by rfl) (by rw [if_pos c10]) (by rw [spS, if_pos c10, spT, if_pos (Int32.not_le.mp c21), spU, if_neg (Int32.not_lt.mpr c51)] <;> exact sEq.rf _)
      · -- fall
        refine sv_bipush (v := 10) dX10_step_54 (by decide) ?_
        refine sv_goto (tgt := 60) dX10_step_56 (by decide) ?_
        refine sv_iadd dX10_step_60 ?_
        refine sx_ist hq 126 (by decide) (by decide) dX10_step_61 ?_
        refine sv_aload_n 2 dX10_step_62 rfl ?_
        refine sv_bipush (v := 127) dX10_step_63 (by decide) ?_
        refine sv_dup2_11 dX10_step_65 rfl rfl ?_
        refine sx_ild hq 127 (by decide) (by decide) dX10_step_66 ?_
        refine sv_iconst (v := 1) dX10_step_67 (by decide) ?_
        refine sv_iadd dX10_step_68 ?_
        refine sx_ist hq 127 (by decide) (by decide) dX10_step_69 ?_
        refine sv_iconst (v := 1) dX10_step_70 (by decide) ?_
        exact se_zret rfl ⟨rfl, rfl⟩ dX10_step_71 (by rfl) (by rw [if_pos c10]) (by rw [spS, if_pos c10, spT, if_pos (Int32.not_le.mp c21), spU, if_pos (Int32.not_le.mp c51)] <;> exact sEq.rf _)
  · -- fall
    refine sv_iconst (v := 0) dX10_step_13 (by decide) ?_
    exact se_zret rfl ⟨rfl, rfl⟩ dX10_step_14 (by rfl) (by rw [if_neg c10]) (by rw [spS, if_neg c10] <;> exact sEq.rf _)
