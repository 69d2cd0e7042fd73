def ixL (S : Nat → Nat → Int32) (v : Int32) : Nat → Nat → Int32
  | 0, _ => -9
  | m + 1, p => if S 158 p = v then nI p else ixL S v m (p + 1)
set_option maxRecDepth 100000 in
set_option maxHeartbeats 4000000 in
theorem l_X7_indexOf (G : GT) (S : Nat → Nat → Int32) (L : Nat → Int64) (v : Int32) (c : Nat) (hc : c ≤ 6) (h7 : S 153 7 = nI c) : ∀ (m p : Nat), c - p = m → p ≤ c → sv_V G R_X7_indexOf RX7 "indexOf" cX7_indexOf 3 (some .int) (sPo G R_X7_indexOf (some (.int (ixL S v m p))) S L) 0 0 197 (CF G S L) 2 [(2, .int (nI p)), (0, .ref (gB G + 153)), (1, .int v)] [] := by
  intro m
  induction m using Nat.strongRecOn
  rename_i m ih
  intro p hm hp
  refine sv_iload_n 0 dX7_indexOf_2 rfl ?_
  refine sv_aload_n 1 dX7_indexOf_3 rfl ?_
  refine sg_7_7 sh_153 fl_RX7_48 dX7_indexOf_4 ?_
  refine sv_topE h7 ?_
  refine sv_icmp_ge (tgt := 28) dX7_indexOf_7 (by decide) (fun c7 => ?_) (fun c7 => ?_)
  · -- jump
    obtain rfl : m = 0 := by have := (nI_leI (by omega) (by omega)).mp c7; omega
    refine sv_bipush (v := (-9)) dX7_indexOf_28 (by decide) ?_
    exact se_iret rfl ⟨rfl, rfl⟩ dX7_indexOf_30 rfl rfl
  · -- fall
    have hlt : p < c := Nat.lt_of_not_le (fun z => c7 (nI_le z (by omega)))
    obtain ⟨m2, rfl⟩ : ∃ j, m = j + 1 := ⟨m - 1, by omega⟩
    rw [ixL]
    refine sv_aload_n 1 dX7_indexOf_10 rfl ?_
    refine sg_7_1 sh_153 fl_RX7_18 dX7_indexOf_11 ?_
    refine sv_iload_n 0 dX7_indexOf_14 rfl ?_
    refine sx_ild sh_158 p rfl (by omega) dX7_indexOf_15 ?_
    refine sv_iload_n 2 dX7_indexOf_16 rfl ?_
    refine sv_icmp_ne (tgt := 22) dX7_indexOf_17 (by decide) (fun c17 => ?_) (fun c17 => ?_)
    · -- jump
      refine sv_iinc 0 (ls' := [(2, _), (0, _), (1, _)]) dX7_indexOf_22 rfl (nI_1 _) (by decide) rfl ?_
      refine sv_goto (tgt := 2) dX7_indexOf_25 (by decide) ?_
      rw [if_neg c17]
      exact ih m2 (by omega) (p + 1) (by omega) (by omega)
    · -- fall
      refine sv_iload_n 0 dX7_indexOf_20 rfl ?_
      exact se_iret rfl ⟨rfl, rfl⟩ dX7_indexOf_21 (by rw [if_pos c17]) rfl
set_option maxRecDepth 100000 in
set_option maxHeartbeats 4000000 in
theorem e_X7_indexOf (G : GT) (S : Nat → Nat → Int32) (L : Nat → Int64) (v : Int32) (c : Nat) (hc : c ≤ 6) (h7 : S 153 7 = nI c) : sE G yX7_indexOf R_X7_indexOf cX7_indexOf 3 (some .int) [.ref (gB G + 153), .int v] S L (some (.int (ixL S v c 0))) S L := by
  refine sE.of (by decide) (Nat.le_of_ble_eq_true rfl) ?_
  show sv_V G R_X7_indexOf RX7 "indexOf" cX7_indexOf 3 (some .int) (sPo G R_X7_indexOf (some (.int (ixL S v c 0))) S L) 0 0 197 (CF G S L) 0 [(0, .ref (gB G + 153)), (1, .int v)] []
  refine sv_iconst (v := 0) dX7_indexOf_0 (by decide) ?_
  refine sv_istore_n (ls' := [(2, _), (0, _), (1, _)]) dX7_indexOf_1 (by decide) rfl ?_
  exact l_X7_indexOf G S L v c hc h7 _ 0 (by omega) (by omega)
/-- the armed place p is listed as the c-th -/
def lsA (S : Nat → Nat → Int32) (p c : Nat) : Nat → Nat → Int32 := up2 (up2 (up2 S 158 c (nI p)) 159 c (S 19 (6 * p + 4))) 153 7 (nI (c + 1))
def lsL : Nat → Nat → Nat → (Nat → Nat → Int32) → Nat → Nat → Int32
  | 0, _, _, S => S
  | m + 1, p, c, S => if c < 6 then (if 0 < S 19 (6 * p) then lsL m (p + 1) (c + 1) (lsA S p c) else lsL m (p + 1) c S) else S
set_option maxRecDepth 100000 in
set_option maxHeartbeats 4000000 in
theorem l_X7_list (G : GT) (L : Nat → Int64) : ∀ (m : Nat) (S : Nat → Nat → Int32) (p c : Nat), 16 - p = m → p ≤ 16 → c ≤ 6 → S 153 7 = nI c → sv_V G R_X7_list RX7 "list" cX7_list 3 none (sPo G R_X7_list none (lsL m p c S) L) 0 0 197 (CF G S L) 7 [(2, .int (nI p)), (0, .ref (gB G + 153)), (1, .ref (gB G + 18))] [] := by
  intro m
  induction m using Nat.strongRecOn
  rename_i m ih
  intro S p c hm hp hc h7
  refine sv_iload_n 0 dX7_list_7 rfl ?_
  refine sv_bipush (v := 16) dX7_list_8 (by decide) ?_
  refine sv_icmp_ge (tgt := 71) dX7_list_10 (by decide) (fun c10 => ?_) (fun c10 => ?_)
  · -- jump
    obtain rfl : m = 0 := by have := (nI_leI (a := 16) (b := p) (by omega) (by omega)).mp c10; omega
    exact se_vret rfl ⟨rfl, rfl⟩ dX7_list_71 (sEq.rf _)
  · -- fall
    have hlt : p < 16 := Nat.lt_of_not_le (fun z => c10 (nI_le (a := 16) z (by omega)))
    obtain ⟨m2, rfl⟩ : ∃ j, m = j + 1 := ⟨m - 1, by omega⟩
    rw [lsL]
    refine sv_aload_n 1 dX7_list_13 rfl ?_
    refine sg_7_7 sh_153 fl_RX7_48 dX7_list_14 ?_
    refine sv_topE h7 ?_
    refine sv_bipush (v := 6) dX7_list_17 (by decide) ?_
    refine sv_icmp_ge (tgt := 71) dX7_list_19 (by decide) (fun c19 => ?_) (fun c19 => ?_)
    · -- jump
      have hc6 : ¬ c < 6 := Nat.not_lt.mpr ((nI_leI (a := 6) (b := c) (by omega) (by omega)).mp c19)
      exact se_vret rfl ⟨rfl, rfl⟩ dX7_list_71 (by rw [if_neg hc6]; exact sEq.rf _)
    · -- fall
      have hc6 : c < 6 := Nat.lt_of_not_le (fun z => c19 (nI_le (a := 6) z (by omega)))
      refine sv_aload_n 2 dX7_list_22 rfl ?_
      refine sv_iload_n 0 dX7_list_23 rfl ?_
      refine cVi1 (e_X0_isArmedN G _ _ _ isBrk_18 _ hlt) ⟨rfl, rfl⟩ (sv_w5 ml_RX7_56 im_X0_isArmed sl_X0_isArmed in_RX0 cd_X0_isArmed) nm_X0_isArmed ⟨Nat.le_of_ble_eq_true rfl, Nat.le_of_ble_eq_true rfl⟩ rfl (CF_0 isBrk_18.1) (shp_lt isBrk_18.1 (by simp)) (Nat.le_of_ble_eq_true rfl) ⟨Nat.le_of_ble_eq_true rfl, Nat.le_of_ble_eq_true rfl⟩ dX7_list_24 ?_
      refine sv_ifeq_b (tgt := 65) dX7_list_27 (by decide) (fun c27 => ?_) (fun c27 => ?_)
      · -- jump
        refine sv_iinc 0 (ls' := [(2, _), (0, _), (1, _)]) dX7_list_65 rfl (nI_1 _) (by decide) rfl ?_
        refine sv_goto (tgt := 7) dX7_list_68 (by decide) ?_
        rw [if_pos hc6, if_neg c27]
        exact ih m2 (by omega) S (p + 1) c (by omega) (by omega) hc h7
      · -- fall
        refine sv_aload_n 1 dX7_list_30 rfl ?_
        refine sg_7_1 sh_153 fl_RX7_18 dX7_list_31 ?_
        refine sv_aload_n 1 dX7_list_34 rfl ?_
        refine sg_7_7 sh_153 fl_RX7_48 dX7_list_35 ?_
        refine sv_iload_n 0 dX7_list_38 rfl ?_
        refine sx_ist sh_158 c h7 hc6 dX7_list_39 ?_
        refine sv_aload_n 1 dX7_list_40 rfl ?_
        refine sg_7_2 sh_153 fl_RX7_22 dX7_list_41 ?_
        refine sv_aload_n 1 dX7_list_44 rfl ?_
        refine sg_7_7 sh_153 fl_RX7_48 dX7_list_45 ?_
        refine sv_aload_n 2 dX7_list_48 rfl ?_
        refine sv_iload_n 0 dX7_list_49 rfl ?_
        refine sv_iconst (v := 4) dX7_list_50 (by decide) ?_
        refine cVi2 (e_X0_property G _ _ _ isBrk_18 p 4 hlt (by decide)) ⟨rfl, rfl⟩ (sv_w5 ml_RX7_62 im_X0_property sl_X0_property in_RX0 cd_X0_property) nm_X0_property ⟨Nat.le_of_ble_eq_true rfl, Nat.le_of_ble_eq_true rfl⟩ rfl (CF_0 isBrk_18.1) (shp_lt isBrk_18.1 (by simp)) (Nat.le_of_ble_eq_true rfl) ⟨Nat.le_of_ble_eq_true rfl, Nat.le_of_ble_eq_true rfl⟩ dX7_list_51 ?_
        refine sv_topE (v' := S 19 (6 * p + 4)) (by rw [up2_row (by omega)]) ?_
        refine sx_ist sh_159 c (by rw [up2_row (by omega)]; exact h7) hc6 dX7_list_54 ?_
        refine sv_aload_n 1 dX7_list_55 rfl ?_
        refine sv_dup dX7_list_56 rfl ?_
        refine sg_7_7 sh_153 fl_RX7_48 dX7_list_57 ?_
        refine sv_topE (v' := nI c) (by rw [up2_row (by omega), up2_row (by omega)]; exact h7) ?_
        refine sv_iconst (v := 1) dX7_list_60 (by decide) ?_
        refine sv_iadd dX7_list_61 ?_
        refine sv_topE (nI_1 c) ?_
        refine sp_7_7 sh_153 fl_RX7_48 dX7_list_62 ?_
        refine sv_iinc 0 (ls' := [(2, _), (0, _), (1, _)]) dX7_list_65 rfl (nI_1 _) (by decide) rfl ?_
        refine sv_goto (tgt := 7) dX7_list_68 (by decide) ?_
        rw [if_pos hc6, if_pos c27]
        exact ih m2 (by omega) (lsA S p c) (p + 1) (c + 1) (by omega) (by omega) (by omega) (up2_same _ _ _ _)
set_option maxRecDepth 100000 in
set_option maxHeartbeats 4000000 in
theorem e_X7_list (G : GT) (S : Nat → Nat → Int32) (L : Nat → Int64)  : sE G yX7_list R_X7_list cX7_list 3 none [.ref (gB G + 153), .ref (gB G + 18)] S L none (lsL 16 0 0 (up2 S 153 7 0)) L := by
  refine sE.of (by decide) (Nat.le_of_ble_eq_true rfl) ?_
  show sv_V G R_X7_list RX7 "list" cX7_list 3 none (sPo G R_X7_list none (lsL 16 0 0 (up2 S 153 7 0)) L) 0 0 197 (CF G S L) 0 [(0, .ref (gB G + 153)), (1, .ref (gB G + 18))] []
  refine sv_aload_n 0 dX7_list_0 rfl ?_
  refine sv_iconst (v := 0) dX7_list_1 (by decide) ?_
  refine sp_7_7 sh_153 fl_RX7_48 dX7_list_2 ?_
  refine sv_iconst (v := 0) dX7_list_5 (by decide) ?_
  refine sv_istore_n (ls' := [(2, _), (0, _), (1, _)]) dX7_list_6 (by decide) rfl ?_
  exact l_X7_list G L 16 (up2 S 153 7 0) 0 0 (by omega) (by omega) (by omega) (up2_same _ _ _ _)
def fwV (T : Nat → Nat → Int32) (c : Nat) : Int32 := if (T 154 5 = 0 ∧ appP T 18 154) then ixL T (T 154 4) c 0 else -9
def fwA (T : Nat → Nat → Int32) (c k : Nat) : Nat → Nat → Int32 := up2 (up2 T 161 k (fwV T c)) 153 6 (nI (k + 1))
def fwL (c : Nat) : Nat → Nat → (Nat → Nat → Int32) → Nat → Nat → Int32
  | 0, _, S => S
  | m + 1, k, S => if S 154 5 = 0 then (if stP S 154 3 then fwL c m (k + 1) (fwA (stS S 154 3) c k) else S) else S
def wfW (S : Nat → Nat → Int32) (c : Nat) : Prop := wfM S 154 ∧ wfP S 3 ∧ S 153 7 = nI c
theorem wfW_st {S : Nat → Nat → Int32} {c : Nat} (h : wfW S c) (hp : stP S 154 3) : wfW (stS S 154 3) c := ⟨stS_wfM h.1 hp, wfP_row h.2.1 (stS_row (by omega)) (stS_row (by omega)) (stS_row (by omega)) (stS_row (by omega)), by rw [stS_row (by omega)]; exact h.2.2⟩
theorem wfW_A {T : Nat → Nat → Int32} {c k : Nat} (h : wfW T c) : wfW (fwA T c k) c := by
  refine ⟨?_, wfP_row h.2.1 ?_ ?_ ?_ ?_, ?_⟩
  · have := h.1
    unfold wfM at this ⊢
    unfold fwA
    rw [up2_row (by omega), up2_row (by omega)]
    exact this
  all_goals first | (unfold fwA; rw [up2_row (by omega), up2_row (by omega)]; done) | (unfold fwA; rw [up2_ne (Or.inr (by decide)), up2_row (by omega)]; exact h.2.2)
set_option maxRecDepth 100000 in
set_option maxHeartbeats 4000000 in
theorem l_X7_follow (G : GT) (L : Nat → Int64) (c : Nat) (hc : c ≤ 6) : ∀ (m : Nat) (S : Nat → Nat → Int32) (k : Nat), 1980 - k = m → k ≤ 1980 → wfW S c → sv_V G R_X7_follow RX7 "follow" cX7_follow 5 none (sPo G R_X7_follow none (fwL c m k S) L) 0 0 197 (CF G S L) 18 [(3, .int (nI k)), (0, .ref (gB G + 153)), (1, .ref (gB G + 13)), (2, .ref (gB G + 3))] [] := by
  intro m
  induction m using Nat.strongRecOn
  rename_i m ih
  intro S k hm hk hw
  refine sv_iload_n 0 dX7_follow_18 rfl ?_
  refine sv_sipush (v := 1980) dX7_follow_19 (by decide) ?_
  refine sv_icmp_ge (tgt := 118) dX7_follow_22 (by decide) (fun c22 => ?_) (fun c22 => ?_)
  · -- jump
    obtain rfl : m = 0 := by have := (nI_leI (a := 1980) (b := k) (by omega) (by omega)).mp c22; omega
    exact se_vret rfl ⟨rfl, rfl⟩ dX7_follow_118 (sEq.rf _)
  · -- fall
    have hlt : k < 1980 := Nat.lt_of_not_le (fun z => c22 (nI_le (a := 1980) z (by omega)))
    obtain ⟨m2, rfl⟩ : ∃ j, m = j + 1 := ⟨m - 1, by omega⟩
    rw [fwL]
    refine sv_aload_n 1 dX7_follow_25 rfl ?_
    refine sg_7_0 sh_153 fl_RX7_12 dX7_follow_26 ?_
    refine sg_3_5 isMach_154.1 fl_RX7_74 dX7_follow_29 ?_
    refine sv_if_ne (tgt := 118) dX7_follow_32 (by decide) (fun c32 => ?_) (fun c32 => ?_)
    · -- jump
      exact se_vret rfl ⟨rfl, rfl⟩ dX7_follow_118 (by rw [if_neg c32]; exact sEq.rf _)
    · -- fall
      refine sv_aload_n 1 dX7_follow_35 rfl ?_
      refine sg_7_0 sh_153 fl_RX7_12 dX7_follow_36 ?_
      refine sv_aload_n 3 dX7_follow_39 rfl ?_
      refine cVi1 (e_X3_step G _ _ _ isMach_154 _ isProg_3 hw.2.1 hw.1) ⟨rfl, rfl⟩ (sv_w5 ml_RX7_78 im_X3_step sl_X3_step in_RX3 cd_X3_step) nm_X3_step ⟨Nat.le_of_ble_eq_true rfl, Nat.le_of_ble_eq_true rfl⟩ rfl (CF_3 isMach_154.1) (shp_lt isMach_154.1 (by simp)) (Nat.le_of_ble_eq_true rfl) ⟨Nat.le_of_ble_eq_true rfl, Nat.le_of_ble_eq_true rfl⟩ dX7_follow_40 ?_
      refine sv_ifne_b (tgt := 47) dX7_follow_43 (by decide) (fun c43 => ?_) (fun c43 => ?_)
      · -- jump
        refine sv_eqS (if_pos c43) ?_
        refine sv_aload_n 1 dX7_follow_47 rfl ?_
        refine sg_7_0 sh_153 fl_RX7_12 dX7_follow_48 ?_
        refine sg_3_5 isMach_154.1 fl_RX7_74 dX7_follow_51 ?_
        refine sv_if_ne (tgt := 75) dX7_follow_54 (by decide) (fun c54 => ?_) (fun c54 => ?_)
        · -- jump
          refine sv_iconst (v := 0) dX7_follow_75 (by decide) ?_
          refine sv_istore (ls' := [(4, _), (3, _), (0, _), (1, _), (2, _)]) dX7_follow_76 (by decide) rfl ?_
          refine sv_aload_n 2 dX7_follow_78 rfl ?_
          refine sg_7_4 sh_153 fl_RX7_28 dX7_follow_79 ?_
          refine sv_iload_n 1 dX7_follow_82 rfl ?_
          refine sv_iload 0 dX7_follow_83 rfl ?_
          refine sv_if_eq (tgt := 102) dX7_follow_85 (by decide) (fun _ => ?_) (fun z => absurd z (by decide))
          refine sv_bipush (v := (-9)) dX7_follow_102 (by decide) ?_
          refine sx_ist sh_161 k rfl (by omega) dX7_follow_104 ?_
          refine sv_aload_n 2 dX7_follow_105 rfl ?_
          refine sv_iload_n 1 dX7_follow_106 rfl ?_
          refine sv_iconst (v := 1) dX7_follow_107 (by decide) ?_
          refine sv_iadd dX7_follow_108 ?_
          refine sv_topE (nI_1 k) ?_
          refine sp_7_6 sh_153 fl_RX7_71 dX7_follow_109 ?_
          refine sv_iinc 1 (ls' := [(3, _), (4, _), (0, _), (1, _), (2, _)]) dX7_follow_112 rfl (nI_1 _) (by decide) rfl ?_
          refine sv_goto (tgt := 18) dX7_follow_115 (by decide) ?_
          rw [if_pos c32, if_pos c43]
          refine sv_locals [0, 2, 3, 4] rfl ?_
          refine sv_eqS (S' := fwA (stS S 154 3) c k) (by rw [fwA, fwV, if_neg (fun h => c54 h.1)]) ?_
          exact ih m2 (by omega) _ (k + 1) (by omega) (by omega) (wfW_A (wfW_st hw c43))
        · -- fall
          refine sv_aload_n 2 dX7_follow_57 rfl ?_
          refine sg_6_1 isState_13.1 fl_RX7_34 dX7_follow_58 ?_
          refine sv_aload_n 1 dX7_follow_61 rfl ?_
          refine sg_7_0 sh_153 fl_RX7_12 dX7_follow_62 ?_
          refine cVi1 (e_X0_apply G _ _ _ isState_13.2.2.1 _ isMach_154) ⟨rfl, rfl⟩ (sv_w5 ml_RX7_82 im_X0_apply sl_X0_apply in_RX0 cd_X0_apply) nm_X0_apply ⟨Nat.le_of_ble_eq_true rfl, Nat.le_of_ble_eq_true rfl⟩ rfl (CF_0 isState_13.2.2.1.1) (shp_lt isState_13.2.2.1.1 (by simp)) (Nat.le_of_ble_eq_true rfl) ⟨Nat.le_of_ble_eq_true rfl, Nat.le_of_ble_eq_true rfl⟩ dX7_follow_65 ?_
          refine sv_ifeq_b (tgt := 75) dX7_follow_68 (by decide) (fun c68 => ?_) (fun c68 => ?_)
          · -- jump
            refine sv_iconst (v := 0) dX7_follow_75 (by decide) ?_
            refine sv_istore (ls' := [(4, _), (3, _), (0, _), (1, _), (2, _)]) dX7_follow_76 (by decide) rfl ?_
            refine sv_aload_n 2 dX7_follow_78 rfl ?_
            refine sg_7_4 sh_153 fl_RX7_28 dX7_follow_79 ?_
            refine sv_iload_n 1 dX7_follow_82 rfl ?_
            refine sv_iload 0 dX7_follow_83 rfl ?_
            refine sv_if_eq (tgt := 102) dX7_follow_85 (by decide) (fun _ => ?_) (fun z => absurd z (by decide))
            refine sv_bipush (v := (-9)) dX7_follow_102 (by decide) ?_
            refine sx_ist sh_161 k rfl (by omega) dX7_follow_104 ?_
            refine sv_aload_n 2 dX7_follow_105 rfl ?_
            refine sv_iload_n 1 dX7_follow_106 rfl ?_
            refine sv_iconst (v := 1) dX7_follow_107 (by decide) ?_
            refine sv_iadd dX7_follow_108 ?_
            refine sv_topE (nI_1 k) ?_
            refine sp_7_6 sh_153 fl_RX7_71 dX7_follow_109 ?_
            refine sv_iinc 1 (ls' := [(3, _), (4, _), (0, _), (1, _), (2, _)]) dX7_follow_112 rfl (nI_1 _) (by decide) rfl ?_
            refine sv_goto (tgt := 18) dX7_follow_115 (by decide) ?_
            rw [if_pos c32, if_pos c43]
            refine sv_locals [0, 2, 3, 4] rfl ?_
            refine sv_eqS (S' := fwA (stS S 154 3) c k) (by rw [fwA, fwV, if_neg (fun h => c68 h.2)]) ?_
            exact ih m2 (by omega) _ (k + 1) (by omega) (by omega) (wfW_A (wfW_st hw c43))
          · -- fall
            refine sv_iconst (v := 1) dX7_follow_71 (by decide) ?_
            refine sv_goto (tgt := 76) dX7_follow_72 (by decide) ?_
            refine sv_istore (ls' := [(4, _), (3, _), (0, _), (1, _), (2, _)]) dX7_follow_76 (by decide) rfl ?_
            refine sv_aload_n 2 dX7_follow_78 rfl ?_
            refine sg_7_4 sh_153 fl_RX7_28 dX7_follow_79 ?_
            refine sv_iload_n 1 dX7_follow_82 rfl ?_
            refine sv_iload 0 dX7_follow_83 rfl ?_
            refine sv_if_eq (tgt := 102) dX7_follow_85 (by decide) (fun z => absurd z (by decide)) (fun _ => ?_)
            refine sv_aload_n 2 dX7_follow_88 rfl ?_
            refine sv_aload_n 2 dX7_follow_89 rfl ?_
            refine sg_7_0 sh_153 fl_RX7_12 dX7_follow_90 ?_
            refine sg_3_4 isMach_154.1 fl_RX7_86 dX7_follow_93 ?_
            refine cVi1 (e_X7_indexOf G _ _ _ c hc (wfW_st hw c43).2.2) ⟨rfl, rfl⟩ (sv_w5 ml_RX7_89 im_X7_indexOf sl_X7_indexOf in_RX7 cd_X7_indexOf) nm_X7_indexOf ⟨Nat.le_of_ble_eq_true rfl, Nat.le_of_ble_eq_true rfl⟩ rfl (CF_7 sh_153) (shp_lt sh_153 (by simp)) (Nat.le_of_ble_eq_true rfl) ⟨Nat.le_of_ble_eq_true rfl, Nat.le_of_ble_eq_true rfl⟩ dX7_follow_96 ?_
            refine sv_goto (tgt := 104) dX7_follow_99 (by decide) ?_
            refine sx_ist sh_161 k rfl (by omega) dX7_follow_104 ?_
            refine sv_aload_n 2 dX7_follow_105 rfl ?_
            refine sv_iload_n 1 dX7_follow_106 rfl ?_
            refine sv_iconst (v := 1) dX7_follow_107 (by decide) ?_
            refine sv_iadd dX7_follow_108 ?_
            refine sv_topE (nI_1 k) ?_
            refine sp_7_6 sh_153 fl_RX7_71 dX7_follow_109 ?_
            refine sv_iinc 1 (ls' := [(3, _), (4, _), (0, _), (1, _), (2, _)]) dX7_follow_112 rfl (nI_1 _) (by decide) rfl ?_
            refine sv_goto (tgt := 18) dX7_follow_115 (by decide) ?_
            rw [if_pos c32, if_pos c43]
            refine sv_locals [0, 2, 3, 4] rfl ?_
            refine sv_eqS (S' := fwA (stS S 154 3) c k) (by rw [fwA, fwV, if_pos ⟨c54, c68⟩]) ?_
            exact ih m2 (by omega) _ (k + 1) (by omega) (by omega) (wfW_A (wfW_st hw c43))
      · -- fall
        refine sv_eqS (if_neg c43) ?_
        exact se_vret rfl ⟨rfl, rfl⟩ dX7_follow_46 (by rw [if_pos c32, if_neg c43]; exact sEq.rf _)
def fwF (S : Nat → Nat → Int32) (c : Nat) : Nat → Nat → Int32 := fwL c 1980 0 (up2 (cpR S 154 14 4) 153 6 0)
theorem wfM_cp {S : Nat → Nat → Int32} {a o n : Nat} (h : wfM S o) (hn : 0 < n) : wfM (cpR S a o n) a := by
  unfold wfM at h ⊢
  have e : cpR S a o n a = S o := by unfold cpR; rw [if_pos (by omega), Nat.sub_self, Nat.add_zero]
  rw [e]
  exact h
theorem wfW_0 {S : Nat → Nat → Int32} {c : Nat} (hm : wfM S 14) (hp : wfP S 3) (h7 : S 153 7 = nI c) : wfW (up2 (cpR S 154 14 4) 153 6 0) c := by
  refine ⟨?_, wfP_row hp ?_ ?_ ?_ ?_, ?_⟩
  · have := wfM_cp (a := 154) (n := 4) hm (by decide)
    unfold wfM at this ⊢
    rw [up2_row (by omega)]
    exact this
  all_goals first | (rw [up2_row (by omega), cpR_row (by omega)]; done) | (rw [up2_ne (Or.inr (by decide)), cpR_row (by omega)]; exact h7)
set_option maxRecDepth 100000 in
set_option maxHeartbeats 4000000 in
theorem e_X7_follow (G : GT) (S : Nat → Nat → Int32) (L : Nat → Int64) (c : Nat) (hc : c ≤ 6) (hm : wfM S 14) (hp : wfP S 3) (h7 : S 153 7 = nI c) : sE G yX7_follow R_X7_follow cX7_follow 5 none [.ref (gB G + 153), .ref (gB G + 13), .ref (gB G + 3)] S L none (fwF S c) L := by
  refine sE.of (by decide) (Nat.le_of_ble_eq_true rfl) ?_
  show sv_V G R_X7_follow RX7 "follow" cX7_follow 5 none (sPo G R_X7_follow none (fwF S c) L) 0 0 197 (CF G S L) 0 [(0, .ref (gB G + 153)), (1, .ref (gB G + 13)), (2, .ref (gB G + 3))] []
  refine sv_aload_n 0 dX7_follow_0 rfl ?_
  refine sg_7_0 sh_153 fl_RX7_12 dX7_follow_1 ?_
  refine sv_aload_n 1 dX7_follow_4 rfl ?_
  refine sg_6_0 isState_13.1 fl_RX7_66 dX7_follow_5 ?_
  refine cVv1 (e_X3_takeFrom G _ _ _ isMach_154 _ isState_13.2.1 (by decide) hm.2.2) ⟨rfl, rfl⟩ (sv_w5 ml_RX7_67 im_X3_takeFrom sl_X3_takeFrom in_RX3 cd_X3_takeFrom) nm_X3_takeFrom ⟨Nat.le_of_ble_eq_true rfl, Nat.le_of_ble_eq_true rfl⟩ rfl (CF_3 isMach_154.1) (shp_lt isMach_154.1 (by simp)) (Nat.le_of_ble_eq_true rfl) ⟨Nat.le_of_ble_eq_true rfl, Nat.le_of_ble_eq_true rfl⟩ dX7_follow_8 ?_
  refine sv_aload_n 0 dX7_follow_11 rfl ?_
  refine sv_iconst (v := 0) dX7_follow_12 (by decide) ?_
  refine sp_7_6 sh_153 fl_RX7_71 dX7_follow_13 ?_
  refine sv_iconst (v := 0) dX7_follow_16 (by decide) ?_
  refine sv_istore_n (ls' := [(3, _), (0, _), (1, _), (2, _)]) dX7_follow_17 (by decide) rfl ?_
  exact l_X7_follow G L c hc 1980 _ 0 rfl (by omega) (wfW_0 hm hp h7)
