/-- v is among the first c of the row g -/
abbrev amP (g : Nat → Int32) (c : Nat) (v : Int32) : Prop := (0 < c ∧ g 0 = v) ∨ (1 < c ∧ g 1 = v) ∨ (2 < c ∧ g 2 = v)
theorem amP_of {g : Nat → Int32} {c p : Nat} {v : Int32} (hc : c ≤ 3) (hp : p < c) (h : g p = v) : amP g c v := by
  rcases (show p = 0 ∨ p = 1 ∨ p = 2 by omega) with rfl | rfl | rfl
  · exact Or.inl ⟨hp, h⟩
  · exact Or.inr (Or.inl ⟨hp, h⟩)
  · exact Or.inr (Or.inr ⟨hp, h⟩)
theorem amP_not {g : Nat → Int32} {c : Nat} {v : Int32} (h : ∀ j, j < c → ¬ g j = v) : ¬ amP g c v := by
  rintro (⟨h1, h2⟩ | ⟨h1, h2⟩ | ⟨h1, h2⟩)
  · exact h 0 h1 h2
  · exact h 1 h1 h2
  · exact h 2 h1 h2
/-- a copy is kept -/
def kcS (S : Nat → Nat → Int32) (s : Nat) (v : Int32) : Nat → Nat → Int32 := if amP (S (s + 7)) (tn (S s 3)) v then S else
  if S s 3 = 3 then up2 (up2 (up2 S (s + 7) 0 (S (s + 7) 1)) (s + 7) 1 (S (s + 7) 2)) (s + 7) 2 v else up2 (up2 S (s + 7) (tn (S s 3)) v) s 3 (S s 3 + 1)
theorem kc_shift {S : Nat → Nat → Int32} {s : Nat} {v : Int32} (h3 : S s 3 = 3) (hs : isState s) : sEq (up2 (up2 (up2 (va_up S (s + 7) (va_cpy (S (s + 7)) (S (s + 7)) 1 0 2)) s 3 2) (s + 7) 2 v) s 3 (2 + 1)) (up2 (up2 (up2 S (s + 7) 0 (S (s + 7) 1)) (s + 7) 1 (S (s + 7) 2)) (s + 7) 2 v) := by
  intro k _ j hj
  by_cases h7 : k = s + 7
  · subst h7
    have := relI hs.2.2.2 hj
    rcases (show j = 0 ∨ j = 1 ∨ j = 2 by omega) with rfl | rfl | rfl <;> simp [up2_at, va_up, va_cpy]
  · by_cases h0 : k = s
    · subst h0
      by_cases hj3 : j = 3
      · subst hj3; simp [up2_at, h3]
      · simp [up2_at, va_up, hj3]
    · simp [up2_at, va_up, h0, h7]
/-- the number of copies is in its range -/
def wfK (S : Nat → Nat → Int32) (s : Nat) : Prop := ¬ S s 3 < 0 ∧ ¬ 3 < S s 3
set_option maxRecDepth 100000 in
set_option maxHeartbeats 4000000 in
theorem l_X6_keepCopy (G : GT) (S : Nat → Nat → Int32) (L : Nat → Int64) (s : Nat) (hs : isState s) (v : Int32) (c : Nat) (hc : c ≤ 3) (hk : S s 3 = nI c) : ∀ (m p : Nat), c - p = m → p ≤ c → (∀ j, j < p → ¬ S (s + 7) j = v) → sv_V G R_X6_keepCopy RX6 "keepCopy" cX6_keepCopy 3 none (sPo G R_X6_keepCopy none (kcS S s v) L) 0 0 197 (CF G S L) 2 [(2, .int (nI p)), (0, .ref (gB G + s)), (1, .int v)] [] := by
  have hcc : tn (S s 3) = c := by rw [hk, tn_nI (by omega)]
  intro m
  induction m using Nat.strongRecOn
  rename_i m ih
  intro p hm hp hno
  refine sv_iload_n 0 dX6_keepCopy_2 rfl ?_
  refine sv_aload_n 1 dX6_keepCopy_3 rfl ?_
  refine sg_6_3 hs.1 fl_RX6_33 dX6_keepCopy_4 ?_
  refine sv_topE hk ?_
  refine sv_icmp_ge (tgt := 27) dX6_keepCopy_7 (by decide) (fun c7 => ?_) (fun c7 => ?_)
  · -- jump
    obtain rfl : p = c := by have := (nI_leI (by omega) (by omega)).mp c7; omega
    have hna : ¬ amP (S (s + 7)) (tn (S s 3)) v := by rw [hcc]; exact amP_not hno
    refine sv_aload_n 1 dX6_keepCopy_27 rfl ?_
    refine sg_6_3 hs.1 fl_RX6_33 dX6_keepCopy_28 ?_
    refine sv_iconst (v := 3) dX6_keepCopy_31 (by decide) ?_
    refine sv_icmp_ne (tgt := 59) dX6_keepCopy_32 (by decide) (fun c32 => ?_) (fun c32 => ?_)
    · -- jump
      refine sv_aload_n 1 dX6_keepCopy_59 rfl ?_
      refine sg_6_2 hs.1 fl_RX6_25 dX6_keepCopy_60 ?_
      refine sv_aload_n 1 dX6_keepCopy_63 rfl ?_
      refine sg_6_3 hs.1 fl_RX6_33 dX6_keepCopy_64 ?_
      have hp3 : p < 3 := Nat.lt_of_le_of_ne hc (fun h => c32 (by rw [hk, h]; decide))
      refine sv_iload_n 2 dX6_keepCopy_67 rfl ?_
      refine sx_ist hs.2.2.2 p hk hp3 dX6_keepCopy_68 ?_
      refine sv_aload_n 1 dX6_keepCopy_69 rfl ?_
      refine sv_dup dX6_keepCopy_70 rfl ?_
      refine sg_6_3 hs.1 fl_RX6_33 dX6_keepCopy_71 ?_
      refine sv_topE (v' := S s 3) (by simp [up2_at]) ?_
      refine sv_iconst (v := 1) dX6_keepCopy_74 (by decide) ?_
      refine sv_iadd dX6_keepCopy_75 ?_
      refine sp_6_3 hs.1 fl_RX6_33 dX6_keepCopy_76 ?_
      exact se_vret rfl ⟨rfl, rfl⟩ dX6_keepCopy_79 (by rw [kcS, if_neg hna, if_neg c32, hcc]; exact sEq.rf _)
    · -- fall
      refine sv_aload_n 1 dX6_keepCopy_35 rfl ?_
      refine sg_6_2 hs.1 fl_RX6_25 dX6_keepCopy_36 ?_
      refine sv_iconst (v := 1) dX6_keepCopy_39 (by decide) ?_
      refine sv_aload_n 1 dX6_keepCopy_40 rfl ?_
      refine sg_6_2 hs.1 fl_RX6_25 dX6_keepCopy_41 ?_
      refine sv_iconst (v := 0) dX6_keepCopy_44 (by decide) ?_
      refine sv_iconst (v := 2) dX6_keepCopy_45 (by decide) ?_
      refine sa_copy ml_RX6_53 hs.2.2.2 hs.2.2.2 (by decide) (by decide) (by decide) (by decide) (by decide) (by decide) (Nat.le_of_ble_eq_true rfl) dX6_keepCopy_46 ?_
      refine sv_aload_n 1 dX6_keepCopy_49 rfl ?_
      refine sv_dup dX6_keepCopy_50 rfl ?_
      refine sg_6_3 hs.1 fl_RX6_33 dX6_keepCopy_51 ?_
      refine sv_iconst (v := 1) dX6_keepCopy_54 (by decide) ?_
      refine sv_isub dX6_keepCopy_55 ?_
      refine sv_topE (v' := 2) (by simp only [va_up, show ¬ s = s + 7 by omega, ↓reduceIte]; rw [c32]; decide) ?_
      refine sp_6_3 hs.1 fl_RX6_33 dX6_keepCopy_56 ?_
      refine sv_aload_n 1 dX6_keepCopy_59 rfl ?_
      refine sg_6_2 hs.1 fl_RX6_25 dX6_keepCopy_60 ?_
      refine sv_aload_n 1 dX6_keepCopy_63 rfl ?_
      refine sg_6_3 hs.1 fl_RX6_33 dX6_keepCopy_64 ?_
      refine sv_topE (v' := 2) (by simp [up2_at]) ?_
      refine sv_iload_n 2 dX6_keepCopy_67 rfl ?_
      refine sx_ist hs.2.2.2 2 (by decide) (by decide) dX6_keepCopy_68 ?_
      refine sv_aload_n 1 dX6_keepCopy_69 rfl ?_
      refine sv_dup dX6_keepCopy_70 rfl ?_
      refine sg_6_3 hs.1 fl_RX6_33 dX6_keepCopy_71 ?_
      refine sv_topE (v' := 2) (by simp [up2_at]) ?_
      refine sv_iconst (v := 1) dX6_keepCopy_74 (by decide) ?_
      refine sv_iadd dX6_keepCopy_75 ?_
      refine sp_6_3 hs.1 fl_RX6_33 dX6_keepCopy_76 ?_
      exact se_vret rfl ⟨rfl, rfl⟩ dX6_keepCopy_79 (by rw [kcS, if_neg hna, if_pos c32]; exact kc_shift c32 hs)
  · -- fall
    have h7 : p < c := Nat.lt_of_not_le (fun z => c7 (nI_le z (by omega)))
    refine sv_aload_n 1 dX6_keepCopy_10 rfl ?_
    refine sg_6_2 hs.1 fl_RX6_25 dX6_keepCopy_11 ?_
    refine sv_iload_n 0 dX6_keepCopy_14 rfl ?_
    refine sx_ild hs.2.2.2 p rfl (by omega) dX6_keepCopy_15 ?_
    refine sv_iload_n 2 dX6_keepCopy_16 rfl ?_
    refine sv_icmp_ne (tgt := 21) dX6_keepCopy_17 (by decide) (fun c17 => ?_) (fun c17 => ?_)
    · -- jump
      refine sv_iinc 0 (ls' := [(2, _), (0, _), (1, _)]) dX6_keepCopy_21 rfl (nI_1 _) (by decide) rfl ?_
      refine sv_goto (tgt := 2) dX6_keepCopy_24 (by decide) ?_
      exact ih (c - (p + 1)) (by omega) (p + 1) rfl (by omega) (fun j hj => (show j < p ∨ j = p by omega).elim (hno j) (fun h => by rw [h]; exact c17))
    · -- fall
      exact se_vret rfl ⟨rfl, rfl⟩ dX6_keepCopy_20 (by rw [kcS, if_pos (by rw [hcc]; exact amP_of hc h7 c17)]; exact sEq.rf _)
theorem wfK_nI {S : Nat → Nat → Int32} {s : Nat} (h : wfK S s) : ∃ c, c ≤ 3 ∧ S s 3 = nI c := ⟨tn (S s 3), tn_le (M := 3) rfl (by decide) h.1 h.2, nI_self h.1⟩
set_option maxRecDepth 100000 in
set_option maxHeartbeats 4000000 in
theorem e_X6_keepCopy (G : GT) (S : Nat → Nat → Int32) (L : Nat → Int64) (s : Nat) (hs : isState s) (hk : wfK S s) (v : Int32) : sE G yX6_keepCopy R_X6_keepCopy cX6_keepCopy 3 none [.ref (gB G + s), .int v] S L none (kcS S s v) L := by
  refine sE.of (by decide) (Nat.le_of_ble_eq_true rfl) ?_
  show sv_V G R_X6_keepCopy RX6 "keepCopy" cX6_keepCopy 3 none (sPo G R_X6_keepCopy none (kcS S s v) L) 0 0 197 (CF G S L) 0 [(0, .ref (gB G + s)), (1, .int v)] []
  obtain ⟨c, hc, hk⟩ := wfK_nI hk
  refine sv_iconst (v := 0) dX6_keepCopy_0 (by decide) ?_
  refine sv_istore_n (ls' := [(2, _), (0, _), (1, _)]) dX6_keepCopy_1 (by decide) rfl ?_
  exact l_X6_keepCopy G S L s hs v c hc hk _ 0 rfl (by omega) (fun j hj => absurd hj (by omega))
/-- a step made at a place is counted -/
def chS (S : Nat → Nat → Int32) (s r : Nat) (p : Int32) : Nat → Nat → Int32 :=
  if armP S (s + 5) p then kcS (up2 (up2 S s 6 (S s 6 + 1)) s 5 (S s 5 + (if 2 < bcF (S s 4) then 10 else 1) + 3)) s (S (r + 4) (tn p)) else up2 (up2 S s 6 (S s 6 + 1)) s 5 (S s 5 + (if 2 < bcF (S s 4) then 10 else 1))
set_option maxRecDepth 100000 in
set_option maxHeartbeats 4000000 in
theorem e_X6_charge (G : GT) (S : Nat → Nat → Int32) (L : Nat → Int64) (s : Nat) (hs : isState s) (hk : wfK S s) (p : Int32) (r : Nat) (hr : isProg r) (hd : r + 5 ≤ s ∨ s + 8 ≤ r) : sE G yX6_charge R_X6_charge cX6_charge 3 none [.ref (gB G + s), .int p, .ref (gB G + r)] S L none (chS S s r p) L := by
  refine sE.of (by decide) (Nat.le_of_ble_eq_true rfl) ?_
  show sv_V G R_X6_charge RX6 "charge" cX6_charge 3 none (sPo G R_X6_charge none (chS S s r p) L) 0 0 197 (CF G S L) 0 [(0, .ref (gB G + s)), (1, .int p), (2, .ref (gB G + r))] []
  refine sv_aload_n 0 dX6_charge_0 rfl ?_
  refine sv_dup dX6_charge_1 rfl ?_
  refine sg_6_6 hs.1 fl_RX6_43 dX6_charge_2 ?_
  refine sv_iconst (v := 1) dX6_charge_5 (by decide) ?_
  refine sv_iadd dX6_charge_6 ?_
  refine sp_6_6 hs.1 fl_RX6_43 dX6_charge_7 ?_
  refine sv_aload_n 0 dX6_charge_10 rfl ?_
  refine sv_dup dX6_charge_11 rfl ?_
  refine sg_6_5 hs.1 fl_RX6_40 dX6_charge_12 ?_
  refine sv_topE (v' := S s 5) (by simp [up2_at]) ?_
  refine sv_aload_n 0 dX6_charge_15 rfl ?_
  refine sg_6_4 hs.1 fl_RX6_37 dX6_charge_16 ?_
  refine sv_topE (v' := S s 4) (by simp [up2_at]) ?_
  refine cSi1 (e_J6_bitCount_0f7a4 G _ _ _) ⟨rfl, rfl⟩ (sv_w4 ml_RX6_108 st_J6_bitCount_0f7a4 in_RJ6 cd_J6_bitCount_0f7a4) nm_J6_bitCount_0f7a4 ⟨Nat.le_of_ble_eq_true rfl, Nat.le_of_ble_eq_true rfl⟩ (Nat.le_of_ble_eq_true rfl) ⟨Nat.le_of_ble_eq_true rfl, Nat.le_of_ble_eq_true rfl⟩ dX6_charge_19 ?_
  refine sv_iconst (v := 2) dX6_charge_22 (by decide) ?_
  refine sv_icmp_le (tgt := 31) dX6_charge_23 (by decide) (fun c23 => ?_) (fun c23 => ?_)
  · -- jump
    refine sv_iconst (v := 1) dX6_charge_31 (by decide) ?_
    refine sv_iadd dX6_charge_32 ?_
    refine sp_6_5 hs.1 fl_RX6_40 dX6_charge_33 ?_
    refine sv_aload_n 0 dX6_charge_36 rfl ?_
    refine sg_6_1 hs.1 fl_RX6_21 dX6_charge_37 ?_
    refine sv_iload_n 1 dX6_charge_40 rfl ?_
    refine cVi1 (e_X0_isArmed G _ _ _ hs.2.2.1 _) ⟨rfl, rfl⟩ (sv_w5 ml_RX6_113 im_X0_isArmed sl_X0_isArmed in_RX0 cd_X0_isArmed) nm_X0_isArmed ⟨Nat.le_of_ble_eq_true rfl, Nat.le_of_ble_eq_true rfl⟩ rfl (CF_0 hs.2.2.1.1) (shp_lt hs.2.2.1.1 (by simp)) (Nat.le_of_ble_eq_true rfl) ⟨Nat.le_of_ble_eq_true rfl, Nat.le_of_ble_eq_true rfl⟩ dX6_charge_41 ?_
    refine sv_ifeq_b (tgt := 67) dX6_charge_44 (by decide) (fun c44 => ?_) (fun c44 => ?_)
    · -- jump
      exact se_vret rfl ⟨rfl, rfl⟩ dX6_charge_67 (by rw [chS, if_neg (fun h => c44 (by simpa [armP, up2_at, show ¬ s + 5 + 1 = s by omega] using h)), if_neg (Int32.not_lt.mpr c23)]; exact sEq.rf _)
    · -- fall
      have ha : armP S (s + 5) p := by have := c44; simpa [armP, up2_at, show ¬ s + 5 + 1 = s by omega] using this
      refine sv_aload_n 0 dX6_charge_47 rfl ?_
      refine sv_dup dX6_charge_48 rfl ?_
      refine sg_6_5 hs.1 fl_RX6_40 dX6_charge_49 ?_
      refine sv_topE (v' := S s 5 + 1) (by simp [up2_at]) ?_
      refine sv_iconst (v := 3) dX6_charge_52 (by decide) ?_
      refine sv_iadd dX6_charge_53 ?_
      refine sp_6_5 hs.1 fl_RX6_40 dX6_charge_54 ?_
      rw [up2_twice]
      refine sv_aload_n 0 dX6_charge_57 rfl ?_
      refine sv_aload_n 2 dX6_charge_58 rfl ?_
      refine sg_4_3 hr.1 fl_RX6_116 dX6_charge_59 ?_
      refine sv_iload_n 1 dX6_charge_62 rfl ?_
      refine sx_ild hr.2.2.2.2 _ (nI_self ha.1) (tn_lt (M := 16) (k := 16) rfl (by decide) ha.1 ha.2.1) dX6_charge_63 ?_
      refine sv_topE (v' := S (r + 4) (tn p)) (by simp [up2_at, show ¬ r + 4 = s by omega]) ?_
      refine cVv1 (e_X6_keepCopy G _ _ _ hs (by simpa [wfK, up2_at] using hk) _) ⟨rfl, rfl⟩ (sv_w5 ml_RX6_119 im_X6_keepCopy sl_X6_keepCopy in_RX6 cd_X6_keepCopy) nm_X6_keepCopy ⟨Nat.le_of_ble_eq_true rfl, Nat.le_of_ble_eq_true rfl⟩ rfl (CF_6 hs.1) (shp_lt hs.1 (by simp)) (Nat.le_of_ble_eq_true rfl) ⟨Nat.le_of_ble_eq_true rfl, Nat.le_of_ble_eq_true rfl⟩ dX6_charge_64 ?_
      exact se_vret rfl ⟨rfl, rfl⟩ dX6_charge_67 (by rw [chS, if_pos ha, if_neg (Int32.not_lt.mpr c23)]; exact sEq.rf _)
  · -- fall
    refine sv_bipush (v := 10) dX6_charge_26 (by decide) ?_
    refine sv_goto (tgt := 32) dX6_charge_28 (by decide) ?_
    refine sv_iadd dX6_charge_32 ?_
    refine sp_6_5 hs.1 fl_RX6_40 dX6_charge_33 ?_
    refine sv_aload_n 0 dX6_charge_36 rfl ?_
    refine sg_6_1 hs.1 fl_RX6_21 dX6_charge_37 ?_
    refine sv_iload_n 1 dX6_charge_40 rfl ?_
    refine cVi1 (e_X0_isArmed G _ _ _ hs.2.2.1 _) ⟨rfl, rfl⟩ (sv_w5 ml_RX6_113 im_X0_isArmed sl_X0_isArmed in_RX0 cd_X0_isArmed) nm_X0_isArmed ⟨Nat.le_of_ble_eq_true rfl, Nat.le_of_ble_eq_true rfl⟩ rfl (CF_0 hs.2.2.1.1) (shp_lt hs.2.2.1.1 (by simp)) (Nat.le_of_ble_eq_true rfl) ⟨Nat.le_of_ble_eq_true rfl, Nat.le_of_ble_eq_true rfl⟩ dX6_charge_41 ?_
    refine sv_ifeq_b (tgt := 67) dX6_charge_44 (by decide) (fun c44 => ?_) (fun c44 => ?_)
    · -- jump
      exact se_vret rfl ⟨rfl, rfl⟩ dX6_charge_67 (by rw [chS, if_neg (fun h => c44 (by simpa [armP, up2_at, show ¬ s + 5 + 1 = s by omega] using h)), if_pos (Int32.not_le.mp c23)]; exact sEq.rf _)
    · -- fall
      have ha : armP S (s + 5) p := by have := c44; simpa [armP, up2_at, show ¬ s + 5 + 1 = s by omega] using this
      refine sv_aload_n 0 dX6_charge_47 rfl ?_
      refine sv_dup dX6_charge_48 rfl ?_
      refine sg_6_5 hs.1 fl_RX6_40 dX6_charge_49 ?_
      refine sv_topE (v' := S s 5 + 10) (by simp [up2_at]) ?_
      refine sv_iconst (v := 3) dX6_charge_52 (by decide) ?_
      refine sv_iadd dX6_charge_53 ?_
      refine sp_6_5 hs.1 fl_RX6_40 dX6_charge_54 ?_
      rw [up2_twice]
      refine sv_aload_n 0 dX6_charge_57 rfl ?_
      refine sv_aload_n 2 dX6_charge_58 rfl ?_
      refine sg_4_3 hr.1 fl_RX6_116 dX6_charge_59 ?_
      refine sv_iload_n 1 dX6_charge_62 rfl ?_
      refine sx_ild hr.2.2.2.2 _ (nI_self ha.1) (tn_lt (M := 16) (k := 16) rfl (by decide) ha.1 ha.2.1) dX6_charge_63 ?_
      refine sv_topE (v' := S (r + 4) (tn p)) (by simp [up2_at, show ¬ r + 4 = s by omega]) ?_
      refine cVv1 (e_X6_keepCopy G _ _ _ hs (by simpa [wfK, up2_at] using hk) _) ⟨rfl, rfl⟩ (sv_w5 ml_RX6_119 im_X6_keepCopy sl_X6_keepCopy in_RX6 cd_X6_keepCopy) nm_X6_keepCopy ⟨Nat.le_of_ble_eq_true rfl, Nat.le_of_ble_eq_true rfl⟩ rfl (CF_6 hs.1) (shp_lt hs.1 (by simp)) (Nat.le_of_ble_eq_true rfl) ⟨Nat.le_of_ble_eq_true rfl, Nat.le_of_ble_eq_true rfl⟩ dX6_charge_64 ?_
      exact se_vret rfl ⟨rfl, rfl⟩ dX6_charge_67 (by rw [chS, if_pos ha, if_pos (Int32.not_le.mp c23)]; exact sEq.rf _)
