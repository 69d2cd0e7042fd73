/-- p is a place with an instruction in a program of sz of them -/
def hasP (sz p : Int32) : Prop := ¬ p < 0 ∧ ¬ sz ≤ p
theorem hasP_dec (sz p : Int32) : hasP sz p ↔ (¬ p < 0 ∧ ¬ sz ≤ p) := Iff.rfl
abbrev bI (P : Prop) [Decidable P] : Int32 := if P then 1 else 0
set_option maxRecDepth 100000 in
set_option maxHeartbeats 4000000 in
theorem e_X4_has (G : GT) (S : Nat → Nat → Int32) (L : Nat → Int64) (q : Nat) (hq : isProg q) (p : Int32) : sE G yX4_has R_X4_has cX4_has 2 (some .boolean) [.ref (gB G + q), .int p] S L (some (.int (if (¬ p < 0 ∧ ¬ S q 4 ≤ p) then 1 else 0))) S L := by
  refine sE.of (by decide) (Nat.le_of_ble_eq_true rfl) ?_
  show sv_V G R_X4_has RX4 "has" cX4_has 2 (some .boolean) (sPo G R_X4_has (some (.int (if (¬ p < 0 ∧ ¬ S q 4 ≤ p) then 1 else 0))) S L) 0 0 197 (CF G S L) 0 [(0, .ref (gB G + q)), (1, .int p)] []
  refine sv_iload_n 1 dX4_has_0 rfl ?_
  refine sv_if_lt (tgt := 16) dX4_has_1 (by decide) (fun c1 => ?_) (fun c1 => ?_)
  · -- jump
    refine sv_iconst (v := 0) dX4_has_16 (by decide) ?_
    exact se_zret rfl ⟨rfl, rfl⟩ dX4_has_17 (by rfl) (by simp [c1]) rfl
  · -- fall
    refine sv_iload_n 1 dX4_has_4 rfl ?_
    refine sv_aload_n 0 dX4_has_5 rfl ?_
    refine sg_4_4 hq.1 fl_RX4_24 dX4_has_6 ?_
    refine sv_icmp_ge (tgt := 16) dX4_has_9 (by decide) (fun c9 => ?_) (fun c9 => ?_)
    · -- jump
      refine sv_iconst (v := 0) dX4_has_16 (by decide) ?_
      exact se_zret rfl ⟨rfl, rfl⟩ dX4_has_17 (by rfl) (by simp [c1, c9]) rfl
    · -- fall
      refine sv_iconst (v := 1) dX4_has_12 (by decide) ?_
      refine sv_goto (tgt := 17) dX4_has_13 (by decide) ?_
      exact se_zret rfl ⟨rfl, rfl⟩ dX4_has_17 (by rfl) (by simp [c1, c9]) rfl
def eqI (S : Nat → Nat → Int32) (q p a : Nat) : Prop := S (q + 1) p = S (q + 1) a ∧ S (q + 2) p = S (q + 2) a ∧ S (q + 3) p = S (q + 3) a
noncomputable def modelF (S : Nat → Nat → Int32) (q a p : Nat) : Int32 := by
  classical exact if h : p < a then (if eqI S q p a then nI p else modelF S q a (p + 1)) else nI a
termination_by a - p
set_option maxRecDepth 100000 in
set_option maxHeartbeats 4000000 in
theorem l_X4_modelOf (G : GT) (S : Nat → Nat → Int32) (L : Nat → Int64) (q : Nat) (hq : isProg q) (a : Nat) (ha : a < 16) : ∀ (m p : Nat), a - p = m → p ≤ a → sv_V G R_X4_modelOf RX4 "modelOf" cX4_modelOf 3 (some .int) (sPo G R_X4_modelOf (some (.int (modelF S q a p))) S L) 0 0 197 (CF G S L) 2 [(2, .int (nI p)), (0, .ref (gB G + q)), (1, .int (nI a))] [] := by
  intro m
  induction m using Nat.strongRecOn
  rename_i m ih
  intro p hm hp
  refine sv_iload_n 0 dX4_modelOf_2 rfl ?_
  refine sv_iload_n 2 dX4_modelOf_3 rfl ?_
  refine sv_icmp_ge (tgt := 60) dX4_modelOf_4 (by decide) (fun c4 => ?_) (fun c4 => ?_)
  · -- jump
    have h4 : a ≤ p := (nI_leI (by omega) (by omega)).mp c4
    refine sv_iload_n 2 dX4_modelOf_60 rfl ?_
    exact se_iret rfl ⟨rfl, rfl⟩ dX4_modelOf_61 (by rw [modelF, dif_neg (by omega)]) rfl
  · -- fall
    have h4 : p < a := Nat.lt_of_not_le (fun z => c4 (nI_le z (by omega)))
    refine sv_aload_n 1 dX4_modelOf_7 rfl ?_
    refine sg_4_0 hq.1 fl_RX4_9 dX4_modelOf_8 ?_
    refine sv_iload_n 0 dX4_modelOf_11 rfl ?_
    refine sx_ild hq.2.1 p rfl (by omega) dX4_modelOf_12 ?_
    refine sv_aload_n 1 dX4_modelOf_13 rfl ?_
    refine sg_4_0 hq.1 fl_RX4_9 dX4_modelOf_14 ?_
    refine sv_iload_n 2 dX4_modelOf_17 rfl ?_
    refine sx_ild hq.2.1 a rfl (by omega) dX4_modelOf_18 ?_
    refine sv_icmp_ne (tgt := 54) dX4_modelOf_19 (by decide) (fun c19 => ?_) (fun c19 => ?_)
    · -- jump
      have hne : ¬ eqI S q p a := by unfold eqI; simp [c19]
      rw [modelF, dif_pos h4, if_neg hne]
      refine sv_iinc 0 (ls' := [(2, _), (0, _), (1, _)]) dX4_modelOf_54 rfl (nI_1 _) (by decide) rfl ?_
      refine sv_goto (tgt := 2) dX4_modelOf_57 (by decide) ?_
      exact ih (a - (p + 1)) (by omega) (p + 1) rfl (by omega)
    · -- fall
      refine sv_aload_n 1 dX4_modelOf_22 rfl ?_
      refine sg_4_1 hq.1 fl_RX4_15 dX4_modelOf_23 ?_
      refine sv_iload_n 0 dX4_modelOf_26 rfl ?_
      refine sx_ild hq.2.2.1 p rfl (by omega) dX4_modelOf_27 ?_
      refine sv_aload_n 1 dX4_modelOf_28 rfl ?_
      refine sg_4_1 hq.1 fl_RX4_15 dX4_modelOf_29 ?_
      refine sv_iload_n 2 dX4_modelOf_32 rfl ?_
      refine sx_ild hq.2.2.1 a rfl (by omega) dX4_modelOf_33 ?_
      refine sv_icmp_ne (tgt := 54) dX4_modelOf_34 (by decide) (fun c34 => ?_) (fun c34 => ?_)
      · -- jump
        have hne : ¬ eqI S q p a := by unfold eqI; simp [c19, c34]
        rw [modelF, dif_pos h4, if_neg hne]
        refine sv_iinc 0 (ls' := [(2, _), (0, _), (1, _)]) dX4_modelOf_54 rfl (nI_1 _) (by decide) rfl ?_
        refine sv_goto (tgt := 2) dX4_modelOf_57 (by decide) ?_
        exact ih (a - (p + 1)) (by omega) (p + 1) rfl (by omega)
      · -- fall
        refine sv_aload_n 1 dX4_modelOf_37 rfl ?_
        refine sg_4_2 hq.1 fl_RX4_18 dX4_modelOf_38 ?_
        refine sv_iload_n 0 dX4_modelOf_41 rfl ?_
        refine sx_ild hq.2.2.2.1 p rfl (by omega) dX4_modelOf_42 ?_
        refine sv_aload_n 1 dX4_modelOf_43 rfl ?_
        refine sg_4_2 hq.1 fl_RX4_18 dX4_modelOf_44 ?_
        refine sv_iload_n 2 dX4_modelOf_47 rfl ?_
        refine sx_ild hq.2.2.2.1 a rfl (by omega) dX4_modelOf_48 ?_
        refine sv_icmp_ne (tgt := 54) dX4_modelOf_49 (by decide) (fun c49 => ?_) (fun c49 => ?_)
        · -- jump
          have hne : ¬ eqI S q p a := by unfold eqI; simp [c19, c34, c49]
          rw [modelF, dif_pos h4, if_neg hne]
          refine sv_iinc 0 (ls' := [(2, _), (0, _), (1, _)]) dX4_modelOf_54 rfl (nI_1 _) (by decide) rfl ?_
          refine sv_goto (tgt := 2) dX4_modelOf_57 (by decide) ?_
          exact ih (a - (p + 1)) (by omega) (p + 1) rfl (by omega)
        · -- fall
          refine sv_iload_n 0 dX4_modelOf_52 rfl ?_
          exact se_iret rfl ⟨rfl, rfl⟩ dX4_modelOf_53 (by rw [modelF, dif_pos h4, if_pos ⟨c19, c34, c49⟩]) rfl
set_option maxRecDepth 100000 in
set_option maxHeartbeats 4000000 in
theorem e_X4_modelOf (G : GT) (S : Nat → Nat → Int32) (L : Nat → Int64) (q : Nat) (hq : isProg q) (a : Nat) (ha : a < 16) : sE G yX4_modelOf R_X4_modelOf cX4_modelOf 3 (some .int) [.ref (gB G + q), .int (nI a)] S L (some (.int (modelF S q a 0))) S L := by
  refine sE.of (by decide) (Nat.le_of_ble_eq_true rfl) ?_
  show sv_V G R_X4_modelOf RX4 "modelOf" cX4_modelOf 3 (some .int) (sPo G R_X4_modelOf (some (.int (modelF S q a 0))) S L) 0 0 197 (CF G S L) 0 [(0, .ref (gB G + q)), (1, .int (nI a))] []
  refine sv_iconst (v := 0) dX4_modelOf_0 (by decide) ?_
  refine sv_istore_n (ls' := [(2, _), (0, _), (1, _)]) dX4_modelOf_1 (by decide) rfl ?_
  exact l_X4_modelOf G S L q hq a ha _ 0 rfl (Nat.zero_le _)
