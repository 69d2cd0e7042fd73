set_option maxRecDepth 100000 in
set_option maxHeartbeats 4000000 in
theorem e_X2_clear (G : GT) (S : Nat → Nat → Int32) (L : Nat → Int64)  : sE G yX2_clear R_X2_clear cX2_clear 1 none [.ref (gB G + 29)] S L none (up2 S 29 2 0) L := by
  refine sE.of (by decide) (Nat.le_of_ble_eq_true rfl) ?_
  show sv_V G R_X2_clear RX2 "clear" cX2_clear 1 none (sPo G R_X2_clear none (up2 S 29 2 0) L) 0 0 197 (CF G S L) 0 [(0, .ref (gB G + 29))] []
  refine sv_aload_n 0 dX2_clear_0 rfl ?_
  refine sv_iconst (v := 0) dX2_clear_1 (by decide) ?_
  refine sp_2_2 sh_29 fl_RX2_18 dX2_clear_2 ?_
  exact se_vret rfl ⟨rfl, rfl⟩ dX2_clear_5 (sEq.rf _)
theorem rem_nI {a d : Nat} {x y : Int32} (hx : x = nI a) (hy : y = nI d) (ha : a < 2147483648) (h0 : 0 < d) (hd : d < 2147483648) : x - x / y * y = nI (a % d) := by
  subst hx; subst hy; exact pk_rem ha h0 hd
theorem cpR_row {S : Nat → Nat → Int32} {a o n k : Nat} (h : k < a ∨ a + n ≤ k) : cpR S a o n k = S k := by unfold cpR; rw [if_neg (by omega)]
/-- the state now is remembered: the ring's next place is x, h are held -/
def rmS (S : Nat → Nat → Int32) (x h : Nat) : Nat → Nat → Int32 := up2 (up2 (cpR S (30 + 1 + 8 * x) 13 8) 29 1 (nI ((x + 1) % 14))) 29 2 (nI (if h < 14 then h + 1 else 14))
def tbS (S : Nat → Nat → Int32) (x h : Nat) : Nat → Nat → Int32 := up2 (cpR (up2 S 29 1 (nI ((x + 13) % 14))) 13 (30 + 1 + 8 * ((x + 13) % 14)) 8) 29 2 (nI (h - 1))
set_option maxRecDepth 100000 in
set_option maxHeartbeats 4000000 in
theorem e_X2_remember (G : GT) (S : Nat → Nat → Int32) (L : Nat → Int64) (x h : Nat) (hx : x < 14) (hh : h ≤ 14) (h1 : S 29 1 = nI x) (h2 : S 29 2 = nI h) (hz : S 14 5 = 0 ∨ S 14 5 = 1) : sE G yX2_remember R_X2_remember cX2_remember 2 none [.ref (gB G + 29), .ref (gB G + 13)] S L none (rmS S x h) L := by
  refine sE.of (by decide) (Nat.le_of_ble_eq_true rfl) ?_
  show sv_V G R_X2_remember RX2 "remember" cX2_remember 2 none (sPo G R_X2_remember none (rmS S x h) L) 0 0 197 (CF G S L) 0 [(0, .ref (gB G + 29)), (1, .ref (gB G + 13))] []
  refine sv_aload_n 0 dX2_remember_0 rfl ?_
  refine sg_2_0 sh_29 fl_RX2_11 dX2_remember_1 ?_
  refine sv_aload_n 0 dX2_remember_4 rfl ?_
  refine sg_2_1 sh_29 fl_RX2_22 dX2_remember_5 ?_
  refine sx_ring sh_30 x h1 hx dX2_remember_8 ?_
  refine sv_aload_n 1 dX2_remember_9 rfl ?_
  refine cVv1 (e_X6_takeFrom G _ _ _ (isState_ring x hx) _ isState_13 (by omega) hz) ⟨rfl, rfl⟩ (sv_w5 ml_RX2_25 im_X6_takeFrom sl_X6_takeFrom in_RX6 cd_X6_takeFrom) nm_X6_takeFrom ⟨Nat.le_of_ble_eq_true rfl, Nat.le_of_ble_eq_true rfl⟩ rfl (CF_6 (isState_ring x hx).1) (shp_lt (isState_ring x hx).1 (by simp)) (Nat.le_of_ble_eq_true rfl) ⟨Nat.le_of_ble_eq_true rfl, Nat.le_of_ble_eq_true rfl⟩ dX2_remember_10 ?_
  refine sv_aload_n 0 dX2_remember_13 rfl ?_
  refine sv_aload_n 0 dX2_remember_14 rfl ?_
  refine sg_2_1 sh_29 fl_RX2_22 dX2_remember_15 ?_
  refine sv_topE (v' := nI x) (by rw [cpR_row (by omega)]; exact h1) ?_
  refine sv_iconst (v := 1) dX2_remember_18 (by decide) ?_
  refine sv_iadd dX2_remember_19 ?_
  refine sv_bipush (v := 14) dX2_remember_20 (by decide) ?_
  refine sv_irem dX2_remember_22 (by decide) ?_
  refine sv_topE (v' := nI ((x + 1) % 14)) (rem_nI (nI_1 x) (by rfl) (by omega) (by decide) (by decide)) ?_
  refine sp_2_1 sh_29 fl_RX2_22 dX2_remember_23 ?_
  refine sv_aload_n 0 dX2_remember_26 rfl ?_
  refine sv_aload_n 0 dX2_remember_27 rfl ?_
  refine sg_2_2 sh_29 fl_RX2_18 dX2_remember_28 ?_
  refine sv_topE (v' := nI h) (by rw [up2_ne (Or.inr (by decide)), cpR_row (by omega)]; exact h2) ?_
  refine sv_iconst (v := 1) dX2_remember_31 (by decide) ?_
  refine sv_iadd dX2_remember_32 ?_
  refine sv_topE (nI_1 h) ?_
  refine sv_bipush (v := 14) dX2_remember_33 (by decide) ?_
  refine sx_min ml_RX2_29 (by decide) (Nat.le_of_ble_eq_true rfl) ⟨Nat.le_of_ble_eq_true rfl, Nat.le_of_ble_eq_true rfl⟩ dX2_remember_35 ?_
  refine sv_topE (v' := nI (if h < 14 then h + 1 else 14)) (by
    by_cases q : h < 14
    · rw [if_pos q, if_neg (nI_nlt (b := 14) (a := h + 1) |> fun _ => show ¬ (14 : Int32) < nI (h + 1) from nI_nlt (a := 14) (b := h + 1) (by omega) (by decide))]
    · rw [if_neg q, if_pos (show (14 : Int32) < nI (h + 1) from nI_lt (a := 14) (by omega) (by omega))]; rfl) ?_
  refine sp_2_2 sh_29 fl_RX2_18 dX2_remember_38 ?_
  exact se_vret rfl ⟨rfl, rfl⟩ dX2_remember_41 (sEq.rf _)
set_option maxRecDepth 100000 in
set_option maxHeartbeats 4000000 in
theorem e_X2_takeBack (G : GT) (S : Nat → Nat → Int32) (L : Nat → Int64) (x h : Nat) (hx : x < 14) (h0 : 0 < h) (hh : h ≤ 14) (h1 : S 29 1 = nI x) (h2 : S 29 2 = nI h) (hz : ∀ i, i < 14 → (S (30 + 1 + 8 * i + 1) 5 = 0 ∨ S (30 + 1 + 8 * i + 1) 5 = 1)) : sE G yX2_takeBack R_X2_takeBack cX2_takeBack 2 none [.ref (gB G + 29), .ref (gB G + 13)] S L none (tbS S x h) L := by
  refine sE.of (by decide) (Nat.le_of_ble_eq_true rfl) ?_
  show sv_V G R_X2_takeBack RX2 "takeBack" cX2_takeBack 2 none (sPo G R_X2_takeBack none (tbS S x h) L) 0 0 197 (CF G S L) 0 [(0, .ref (gB G + 29)), (1, .ref (gB G + 13))] []
  refine sv_aload_n 0 dX2_takeBack_0 rfl ?_
  refine sv_aload_n 0 dX2_takeBack_1 rfl ?_
  refine sg_2_1 sh_29 fl_RX2_22 dX2_takeBack_2 ?_
  refine sv_bipush (v := 14) dX2_takeBack_5 (by decide) ?_
  refine sv_iadd dX2_takeBack_7 ?_
  refine sv_iconst (v := 1) dX2_takeBack_8 (by decide) ?_
  refine sv_isub dX2_takeBack_9 ?_
  refine sv_bipush (v := 14) dX2_takeBack_10 (by decide) ?_
  refine sv_irem dX2_takeBack_12 (by decide) ?_
  refine sv_topE (v' := nI ((x + 13) % 14)) (rem_nI (by rw [h1, show (14 : Int32) = nI 14 from rfl, nI_add]; exact nI_pred (x + 13)) (by rfl) (by omega) (by decide) (by decide)) ?_
  refine sp_2_1 sh_29 fl_RX2_22 dX2_takeBack_13 ?_
  refine sv_aload_n 1 dX2_takeBack_16 rfl ?_
  refine sv_aload_n 0 dX2_takeBack_17 rfl ?_
  refine sg_2_0 sh_29 fl_RX2_11 dX2_takeBack_18 ?_
  refine sv_aload_n 0 dX2_takeBack_21 rfl ?_
  refine sg_2_1 sh_29 fl_RX2_22 dX2_takeBack_22 ?_
  refine sx_ring sh_30 ((x + 13) % 14) (by rw [up2_same]) (Nat.mod_lt _ (by decide)) dX2_takeBack_25 ?_
  refine cVv1 (e_X6_takeFrom G _ _ _ isState_13 _ (isState_ring ((x + 13) % 14) (Nat.mod_lt _ (by decide))) (by omega) (by rw [up2_row (by omega)]; exact hz _ (Nat.mod_lt _ (by decide)))) ⟨rfl, rfl⟩ (sv_w5 ml_RX2_25 im_X6_takeFrom sl_X6_takeFrom in_RX6 cd_X6_takeFrom) nm_X6_takeFrom ⟨Nat.le_of_ble_eq_true rfl, Nat.le_of_ble_eq_true rfl⟩ rfl (CF_6 isState_13.1) (shp_lt isState_13.1 (by simp)) (Nat.le_of_ble_eq_true rfl) ⟨Nat.le_of_ble_eq_true rfl, Nat.le_of_ble_eq_true rfl⟩ dX2_takeBack_26 ?_
  refine sv_aload_n 0 dX2_takeBack_29 rfl ?_
  refine sv_dup dX2_takeBack_30 rfl ?_
  refine sg_2_2 sh_29 fl_RX2_18 dX2_takeBack_31 ?_
  refine sv_topE (v' := nI h) (by rw [cpR_row (by omega), up2_ne (Or.inr (by decide))]; exact h2) ?_
  refine sv_iconst (v := 1) dX2_takeBack_34 (by decide) ?_
  refine sv_isub dX2_takeBack_35 ?_
  refine sv_topE (v' := nI (h - 1)) (by rw [show h = h - 1 + 1 by omega]; exact nI_pred (h - 1)) ?_
  refine sp_2_2 sh_29 fl_RX2_18 dX2_takeBack_36 ?_
  exact se_vret rfl ⟨rfl, rfl⟩ dX2_takeBack_39 (sEq.rf _)
set_option maxRecDepth 100000 in
set_option maxHeartbeats 4000000 in
theorem e_X1_prepare (G : GT) (S : Nat → Nat → Int32) (L : Nat → Int64) (hz : S 14 5 = 0 ∨ S 14 5 = 1) : sE G yX1_prepare R_X1_prepare cX1_prepare 2 none [.ref (gB G + 148), .ref (gB G + 14)] S L none (cpR S 149 14 4) L := by
  refine sE.of (by decide) (Nat.le_of_ble_eq_true rfl) ?_
  show sv_V G R_X1_prepare RX1 "prepare" cX1_prepare 2 none (sPo G R_X1_prepare none (cpR S 149 14 4) L) 0 0 197 (CF G S L) 0 [(0, .ref (gB G + 148)), (1, .ref (gB G + 14))] []
  refine sv_aload_n 0 dX1_prepare_0 rfl ?_
  refine sg_1_0 sh_148 fl_RX1_12 dX1_prepare_1 ?_
  refine sv_aload_n 1 dX1_prepare_4 rfl ?_
  refine cVv1 (e_X3_takeFrom G _ _ _ isMach_149 _ isMach_14 (by decide) hz) ⟨rfl, rfl⟩ (sv_w5 ml_RX1_18 im_X3_takeFrom sl_X3_takeFrom in_RX3 cd_X3_takeFrom) nm_X3_takeFrom ⟨Nat.le_of_ble_eq_true rfl, Nat.le_of_ble_eq_true rfl⟩ rfl (CF_3 isMach_149.1) (shp_lt isMach_149.1 (by simp)) (Nat.le_of_ble_eq_true rfl) ⟨Nat.le_of_ble_eq_true rfl, Nat.le_of_ble_eq_true rfl⟩ dX1_prepare_5 ?_
  exact se_vret rfl ⟨rfl, rfl⟩ dX1_prepare_8 (sEq.rf _)
def goA (S : Nat → Nat → Int32) : Nat → Nat → Int32 := up2 (up2 S 148 1 (S 148 1 + 1)) 148 2 (if S 149 5 = 0 then -1 else 3)
def goE (S : Nat → Nat → Int32) : Nat → Nat → Int32 := up2 S 148 2 (if S 148 2 = -1 then 5 else S 148 2)
abbrev idP (S : Nat → Nat → Int32) (idle : Int32) : Prop := S 149 4 = idle ∧ (¬ idle < 0 ∧ ¬ S 3 4 ≤ idle)
def goL (idle : Int32) : Nat → (Nat → Nat → Int32) → Nat → Nat → Int32
  | 0, S => goE S
  | m + 1, S => if S 148 2 = -1 then (if idP S idle then goL idle m (goA (up2 S 149 4 (S 149 4 + 1))) else if stP S 149 3 then goL idle m (goA (stS S 149 3)) else up2 S 148 2 4) else goE S
/-- a free run of the machine that was prepared, in which the instruction at idle does nothing -/
def goF (S : Nat → Nat → Int32) (idle : Int32) : Nat → Nat → Int32 := goL idle 300 (up2 (up2 S 148 1 0) 148 2 (if S 149 5 = 0 then -1 else 3))
def wfG (S : Nat → Nat → Int32) : Prop := wfM S 149 ∧ wfP S 3
theorem wfG_st {S : Nat → Nat → Int32} (h : wfG S) (hp : stP S 149 3) : wfG (stS S 149 3) := ⟨stS_wfM h.1 hp, wfP_row h.2 (stS_row (by omega)) (stS_row (by omega)) (stS_row (by omega)) (stS_row (by omega))⟩
theorem wfG_148 {S : Nat → Nat → Int32} {j : Nat} {v : Int32} (h : wfG S) : wfG (up2 S 148 j v) := by
  refine ⟨?_, wfP_row h.2 (up2_row (by omega)) (up2_row (by omega)) (up2_row (by omega)) (up2_row (by omega))⟩
  have := h.1
  unfold wfM at this ⊢
  rw [up2_row (by omega)]
  exact this
theorem wfG_pc {S : Nat → Nat → Int32} {v : Int32} (h : wfG S) : wfG (up2 S 149 4 v) := by
  refine ⟨?_, wfP_row h.2 (up2_row (by omega)) (up2_row (by omega)) (up2_row (by omega)) (up2_row (by omega))⟩
  have := h.1
  unfold wfM at this ⊢
  simpa [up2_at] using this
theorem wfG_A {S : Nat → Nat → Int32} (h : wfG S) : wfG (goA S) := wfG_148 (wfG_148 h)
set_option maxRecDepth 100000 in
set_option maxHeartbeats 4000000 in
theorem l_X1_go (G : GT) (L : Nat → Int64) (idle : Int32) : ∀ (m : Nat) (S : Nat → Nat → Int32) (k : Nat), 300 - k = m → k ≤ 300 → wfG S → sv_V G R_X1_go RX1 "go" cX1_go 4 none (sPo G R_X1_go none (goL idle m S) L) 0 0 197 (CF G S L) 26 [(3, .int (nI k)), (0, .ref (gB G + 148)), (1, .ref (gB G + 3)), (2, .int idle)] [] := by
  intro m
  induction m using Nat.strongRecOn
  rename_i m ih
  intro S k hm hk hw
  refine sv_iload_n 0 dX1_go_26 rfl ?_
  refine sv_sipush (v := 300) dX1_go_27 (by decide) ?_
  refine sv_icmp_ge (tgt := 128) dX1_go_30 (by decide) (fun c30 => ?_) (fun c30 => ?_)
  · -- jump
    obtain rfl : m = 0 := by have := (nI_leI (a := 300) (b := k) (by omega) (by omega)).mp c30; omega
    rw [goL]
    refine sv_aload_n 1 dX1_go_128 rfl ?_
    refine sv_aload_n 1 dX1_go_129 rfl ?_
    refine sg_1_2 sh_148 fl_RX1_30 dX1_go_130 ?_
    refine sv_iconst (v := (-1)) dX1_go_133 (by decide) ?_
    refine sv_icmp_ne (tgt := 141) dX1_go_134 (by decide) (fun c134 => ?_) (fun c134 => ?_)
    · -- jump
      refine sv_aload_n 1 dX1_go_141 rfl ?_
      refine sg_1_2 sh_148 fl_RX1_30 dX1_go_142 ?_
      refine sp_1_2 sh_148 fl_RX1_30 dX1_go_145 ?_
      exact se_vret rfl ⟨rfl, rfl⟩ dX1_go_148 (by rw [goE, if_neg c134]; exact sEq.rf _)
    · -- fall
      refine sv_iconst (v := 5) dX1_go_137 (by decide) ?_
      refine sv_goto (tgt := 145) dX1_go_138 (by decide) ?_
      refine sp_1_2 sh_148 fl_RX1_30 dX1_go_145 ?_
      exact se_vret rfl ⟨rfl, rfl⟩ dX1_go_148 (by rw [goE, if_pos c134]; exact sEq.rf _)
  · -- fall
    have h30 : k < 300 := Nat.lt_of_not_le (fun z => c30 (nI_le (a := 300) z (by omega)))
    obtain ⟨m2, rfl⟩ : ∃ j, m = j + 1 := ⟨m - 1, by omega⟩
    rw [goL]
    refine sv_aload_n 1 dX1_go_33 rfl ?_
    refine sg_1_2 sh_148 fl_RX1_30 dX1_go_34 ?_
    refine sv_iconst (v := (-1)) dX1_go_37 (by decide) ?_
    refine sv_icmp_ne (tgt := 128) dX1_go_38 (by decide) (fun c38 => ?_) (fun c38 => ?_)
    · -- jump
      rw [if_neg c38]
      refine sv_aload_n 1 dX1_go_128 rfl ?_
      refine sv_aload_n 1 dX1_go_129 rfl ?_
      refine sg_1_2 sh_148 fl_RX1_30 dX1_go_130 ?_
      refine sv_iconst (v := (-1)) dX1_go_133 (by decide) ?_
      refine sv_icmp_ne (tgt := 141) dX1_go_134 (by decide) (fun c134 => ?_) (fun c134 => ?_)
      · -- jump
        refine sv_aload_n 1 dX1_go_141 rfl ?_
        refine sg_1_2 sh_148 fl_RX1_30 dX1_go_142 ?_
        refine sp_1_2 sh_148 fl_RX1_30 dX1_go_145 ?_
        exact se_vret rfl ⟨rfl, rfl⟩ dX1_go_148 (by rw [goE, if_neg c134]; exact sEq.rf _)
      · -- fall
        refine sv_iconst (v := 5) dX1_go_137 (by decide) ?_
        refine sv_goto (tgt := 145) dX1_go_138 (by decide) ?_
        refine sp_1_2 sh_148 fl_RX1_30 dX1_go_145 ?_
        exact se_vret rfl ⟨rfl, rfl⟩ dX1_go_148 (by rw [goE, if_pos c134]; exact sEq.rf _)
    · -- fall
      refine sv_aload_n 1 dX1_go_41 rfl ?_
      refine sg_1_0 sh_148 fl_RX1_12 dX1_go_42 ?_
      refine sg_3_4 isMach_149.1 fl_RX1_33 dX1_go_45 ?_
      refine sv_iload_n 3 dX1_go_48 rfl ?_
      refine sv_icmp_ne (tgt := 76) dX1_go_49 (by decide) (fun c49 => ?_) (fun c49 => ?_)
      · -- jump
        refine sv_aload_n 1 dX1_go_76 rfl ?_
        refine sg_1_0 sh_148 fl_RX1_12 dX1_go_77 ?_
        refine sv_aload_n 2 dX1_go_80 rfl ?_
        refine cVi1 (e_X3_step G _ _ _ isMach_149 _ isProg_3 hw.2 hw.1) ⟨rfl, rfl⟩ (sv_w5 ml_RX1_42 im_X3_step sl_X3_step in_RX3 cd_X3_step) nm_X3_step ⟨Nat.le_of_ble_eq_true rfl, Nat.le_of_ble_eq_true rfl⟩ rfl (CF_3 isMach_149.1) (shp_lt isMach_149.1 (by simp)) (Nat.le_of_ble_eq_true rfl) ⟨Nat.le_of_ble_eq_true rfl, Nat.le_of_ble_eq_true rfl⟩ dX1_go_81 ?_
        refine sv_ifne_b (tgt := 93) dX1_go_84 (by decide) (fun c84 => ?_) (fun c84 => ?_)
        · -- jump
          refine sv_eqS (if_pos c84) ?_
          refine sv_aload_n 1 dX1_go_93 rfl ?_
          refine sv_dup dX1_go_94 rfl ?_
          refine sg_1_1 sh_148 fl_RX1_22 dX1_go_95 ?_
          refine sv_iconst (v := 1) dX1_go_98 (by decide) ?_
          refine sv_iadd dX1_go_99 ?_
          refine sp_1_1 sh_148 fl_RX1_22 dX1_go_100 ?_
          refine sv_aload_n 1 dX1_go_103 rfl ?_
          refine sv_aload_n 1 dX1_go_104 rfl ?_
          refine sg_1_0 sh_148 fl_RX1_12 dX1_go_105 ?_
          refine sg_3_5 isMach_149.1 fl_RX1_26 dX1_go_108 ?_
          refine sv_if_eq (tgt := 118) dX1_go_111 (by decide) (fun c111 => ?_) (fun c111 => ?_)
          · -- jump
            refine sv_iconst (v := (-1)) dX1_go_118 (by decide) ?_
            refine sp_1_2 sh_148 fl_RX1_30 dX1_go_119 ?_
            refine sv_iinc 0 (ls' := [(3, _), (0, _), (1, _), (2, _)]) dX1_go_122 rfl (nI_1 _) (by decide) rfl ?_
            refine sv_goto (tgt := 26) dX1_go_125 (by decide) ?_
            rw [if_pos c38, if_neg (fun h => c49 h.1), if_pos c84]
            refine sv_eqS (S' := goA (stS S 149 3)) (by rw [goA, if_pos (by simpa [up2_at] using c111)]) ?_
            exact ih m2 (by omega) _ (k + 1) (by omega) (by omega) (wfG_A (wfG_st hw c84))
          · -- fall
            refine sv_iconst (v := 3) dX1_go_114 (by decide) ?_
            refine sv_goto (tgt := 119) dX1_go_115 (by decide) ?_
            refine sp_1_2 sh_148 fl_RX1_30 dX1_go_119 ?_
            refine sv_iinc 0 (ls' := [(3, _), (0, _), (1, _), (2, _)]) dX1_go_122 rfl (nI_1 _) (by decide) rfl ?_
            refine sv_goto (tgt := 26) dX1_go_125 (by decide) ?_
            rw [if_pos c38, if_neg (fun h => c49 h.1), if_pos c84]
            refine sv_eqS (S' := goA (stS S 149 3)) (by rw [goA, if_neg (by simpa [up2_at] using c111)]) ?_
            exact ih m2 (by omega) _ (k + 1) (by omega) (by omega) (wfG_A (wfG_st hw c84))
        · -- fall
          refine sv_eqS (if_neg c84) ?_
          refine sv_aload_n 1 dX1_go_87 rfl ?_
          refine sv_iconst (v := 4) dX1_go_88 (by decide) ?_
          refine sp_1_2 sh_148 fl_RX1_30 dX1_go_89 ?_
          exact se_vret rfl ⟨rfl, rfl⟩ dX1_go_92 (by rw [if_pos c38, if_neg (fun h => c49 h.1), if_neg c84]; exact sEq.rf _)
      · -- fall
        refine sv_aload_n 2 dX1_go_52 rfl ?_
        refine sv_iload_n 3 dX1_go_53 rfl ?_
        refine cVi1 (e_X4_has G _ _ _ isProg_3 _) ⟨rfl, rfl⟩ (sv_w5 ml_RX1_36 im_X4_has sl_X4_has in_RX4 cd_X4_has) nm_X4_has ⟨Nat.le_of_ble_eq_true rfl, Nat.le_of_ble_eq_true rfl⟩ rfl (CF_4 isProg_3.1) (shp_lt isProg_3.1 (by simp)) (Nat.le_of_ble_eq_true rfl) ⟨Nat.le_of_ble_eq_true rfl, Nat.le_of_ble_eq_true rfl⟩ dX1_go_54 ?_
        refine sv_ifeq_b (tgt := 76) dX1_go_57 (by decide) (fun c57 => ?_) (fun c57 => ?_)
        · -- jump
          refine sv_aload_n 1 dX1_go_76 rfl ?_
          refine sg_1_0 sh_148 fl_RX1_12 dX1_go_77 ?_
          refine sv_aload_n 2 dX1_go_80 rfl ?_
          refine cVi1 (e_X3_step G _ _ _ isMach_149 _ isProg_3 hw.2 hw.1) ⟨rfl, rfl⟩ (sv_w5 ml_RX1_42 im_X3_step sl_X3_step in_RX3 cd_X3_step) nm_X3_step ⟨Nat.le_of_ble_eq_true rfl, Nat.le_of_ble_eq_true rfl⟩ rfl (CF_3 isMach_149.1) (shp_lt isMach_149.1 (by simp)) (Nat.le_of_ble_eq_true rfl) ⟨Nat.le_of_ble_eq_true rfl, Nat.le_of_ble_eq_true rfl⟩ dX1_go_81 ?_
          refine sv_ifne_b (tgt := 93) dX1_go_84 (by decide) (fun c84 => ?_) (fun c84 => ?_)
          · -- jump
            refine sv_eqS (if_pos c84) ?_
            refine sv_aload_n 1 dX1_go_93 rfl ?_
            refine sv_dup dX1_go_94 rfl ?_
            refine sg_1_1 sh_148 fl_RX1_22 dX1_go_95 ?_
            refine sv_iconst (v := 1) dX1_go_98 (by decide) ?_
            refine sv_iadd dX1_go_99 ?_
            refine sp_1_1 sh_148 fl_RX1_22 dX1_go_100 ?_
            refine sv_aload_n 1 dX1_go_103 rfl ?_
            refine sv_aload_n 1 dX1_go_104 rfl ?_
            refine sg_1_0 sh_148 fl_RX1_12 dX1_go_105 ?_
            refine sg_3_5 isMach_149.1 fl_RX1_26 dX1_go_108 ?_
            refine sv_if_eq (tgt := 118) dX1_go_111 (by decide) (fun c111 => ?_) (fun c111 => ?_)
            · -- jump
              refine sv_iconst (v := (-1)) dX1_go_118 (by decide) ?_
              refine sp_1_2 sh_148 fl_RX1_30 dX1_go_119 ?_
              refine sv_iinc 0 (ls' := [(3, _), (0, _), (1, _), (2, _)]) dX1_go_122 rfl (nI_1 _) (by decide) rfl ?_
              refine sv_goto (tgt := 26) dX1_go_125 (by decide) ?_
              rw [if_pos c38, if_neg (fun h => c57 h.2), if_pos c84]
              refine sv_eqS (S' := goA (stS S 149 3)) (by rw [goA, if_pos (by simpa [up2_at] using c111)]) ?_
              exact ih m2 (by omega) _ (k + 1) (by omega) (by omega) (wfG_A (wfG_st hw c84))
            · -- fall
              refine sv_iconst (v := 3) dX1_go_114 (by decide) ?_
              refine sv_goto (tgt := 119) dX1_go_115 (by decide) ?_
              refine sp_1_2 sh_148 fl_RX1_30 dX1_go_119 ?_
              refine sv_iinc 0 (ls' := [(3, _), (0, _), (1, _), (2, _)]) dX1_go_122 rfl (nI_1 _) (by decide) rfl ?_
              refine sv_goto (tgt := 26) dX1_go_125 (by decide) ?_
              rw [if_pos c38, if_neg (fun h => c57 h.2), if_pos c84]
              refine sv_eqS (S' := goA (stS S 149 3)) (by rw [goA, if_neg (by simpa [up2_at] using c111)]) ?_
              exact ih m2 (by omega) _ (k + 1) (by omega) (by omega) (wfG_A (wfG_st hw c84))
          · -- fall
            refine sv_eqS (if_neg c84) ?_
            refine sv_aload_n 1 dX1_go_87 rfl ?_
            refine sv_iconst (v := 4) dX1_go_88 (by decide) ?_
            refine sp_1_2 sh_148 fl_RX1_30 dX1_go_89 ?_
            exact se_vret rfl ⟨rfl, rfl⟩ dX1_go_92 (by rw [if_pos c38, if_neg (fun h => c57 h.2), if_neg c84]; exact sEq.rf _)
        · -- fall
          refine sv_aload_n 1 dX1_go_60 rfl ?_
          refine sg_1_0 sh_148 fl_RX1_12 dX1_go_61 ?_
          refine sv_dup dX1_go_64 rfl ?_
          refine sg_3_4 isMach_149.1 fl_RX1_33 dX1_go_65 ?_
          refine sv_iconst (v := 1) dX1_go_68 (by decide) ?_
          refine sv_iadd dX1_go_69 ?_
          refine sp_3_4 isMach_149.1 fl_RX1_33 dX1_go_70 ?_
          refine sv_goto (tgt := 93) dX1_go_73 (by decide) ?_
          refine sv_aload_n 1 dX1_go_93 rfl ?_
          refine sv_dup dX1_go_94 rfl ?_
          refine sg_1_1 sh_148 fl_RX1_22 dX1_go_95 ?_
          refine sv_iconst (v := 1) dX1_go_98 (by decide) ?_
          refine sv_iadd dX1_go_99 ?_
          refine sp_1_1 sh_148 fl_RX1_22 dX1_go_100 ?_
          refine sv_aload_n 1 dX1_go_103 rfl ?_
          refine sv_aload_n 1 dX1_go_104 rfl ?_
          refine sg_1_0 sh_148 fl_RX1_12 dX1_go_105 ?_
          refine sg_3_5 isMach_149.1 fl_RX1_26 dX1_go_108 ?_
          refine sv_if_eq (tgt := 118) dX1_go_111 (by decide) (fun c111 => ?_) (fun c111 => ?_)
          · -- jump
            refine sv_iconst (v := (-1)) dX1_go_118 (by decide) ?_
            refine sp_1_2 sh_148 fl_RX1_30 dX1_go_119 ?_
            refine sv_iinc 0 (ls' := [(3, _), (0, _), (1, _), (2, _)]) dX1_go_122 rfl (nI_1 _) (by decide) rfl ?_
            refine sv_goto (tgt := 26) dX1_go_125 (by decide) ?_
            rw [if_pos c38, if_pos ⟨c49, c57⟩]
            refine sv_eqS (S' := goA (up2 S 149 4 (S 149 4 + 1))) (by rw [goA, if_pos (by simpa [up2_at] using c111)]) ?_
            exact ih m2 (by omega) _ (k + 1) (by omega) (by omega) (wfG_A (wfG_pc hw))
          · -- fall
            refine sv_iconst (v := 3) dX1_go_114 (by decide) ?_
            refine sv_goto (tgt := 119) dX1_go_115 (by decide) ?_
            refine sp_1_2 sh_148 fl_RX1_30 dX1_go_119 ?_
            refine sv_iinc 0 (ls' := [(3, _), (0, _), (1, _), (2, _)]) dX1_go_122 rfl (nI_1 _) (by decide) rfl ?_
            refine sv_goto (tgt := 26) dX1_go_125 (by decide) ?_
            rw [if_pos c38, if_pos ⟨c49, c57⟩]
            refine sv_eqS (S' := goA (up2 S 149 4 (S 149 4 + 1))) (by rw [goA, if_neg (by simpa [up2_at] using c111)]) ?_
            exact ih m2 (by omega) _ (k + 1) (by omega) (by omega) (wfG_A (wfG_pc hw))
set_option maxRecDepth 100000 in
set_option maxHeartbeats 4000000 in
theorem e_X1_go (G : GT) (S : Nat → Nat → Int32) (L : Nat → Int64) (idle : Int32) (hw : wfG S) : sE G yX1_go R_X1_go cX1_go 4 none [.ref (gB G + 148), .ref (gB G + 3), .int idle] S L none (goF S idle) L := by
  refine sE.of (by decide) (Nat.le_of_ble_eq_true rfl) ?_
  show sv_V G R_X1_go RX1 "go" cX1_go 4 none (sPo G R_X1_go none (goF S idle) L) 0 0 197 (CF G S L) 0 [(0, .ref (gB G + 148)), (1, .ref (gB G + 3)), (2, .int idle)] []
  refine sv_aload_n 0 dX1_go_0 rfl ?_
  refine sv_iconst (v := 0) dX1_go_1 (by decide) ?_
  refine sp_1_1 sh_148 fl_RX1_22 dX1_go_2 ?_
  refine sv_aload_n 0 dX1_go_5 rfl ?_
  refine sv_aload_n 0 dX1_go_6 rfl ?_
  refine sg_1_0 sh_148 fl_RX1_12 dX1_go_7 ?_
  refine sg_3_5 isMach_149.1 fl_RX1_26 dX1_go_10 ?_
  refine sv_if_eq (tgt := 20) dX1_go_13 (by decide) (fun c13 => ?_) (fun c13 => ?_)
  · -- jump
    refine sv_iconst (v := (-1)) dX1_go_20 (by decide) ?_
    refine sp_1_2 sh_148 fl_RX1_30 dX1_go_21 ?_
    refine sv_iconst (v := 0) dX1_go_24 (by decide) ?_
    refine sv_istore_n (ls' := [(3, _), (0, _), (1, _), (2, _)]) dX1_go_25 (by decide) rfl ?_
    refine sv_eqS (S' := up2 (up2 S 148 1 0) 148 2 (if S 149 5 = 0 then -1 else 3)) (by rw [if_pos (by simpa [up2_at] using c13)]) ?_
    exact l_X1_go G L idle _ _ 0 rfl (by omega) (wfG_148 (wfG_148 hw))
  · -- fall
    refine sv_iconst (v := 3) dX1_go_16 (by decide) ?_
    refine sv_goto (tgt := 21) dX1_go_17 (by decide) ?_
    refine sp_1_2 sh_148 fl_RX1_30 dX1_go_21 ?_
    refine sv_iconst (v := 0) dX1_go_24 (by decide) ?_
    refine sv_istore_n (ls' := [(3, _), (0, _), (1, _), (2, _)]) dX1_go_25 (by decide) rfl ?_
    refine sv_eqS (S' := up2 (up2 S 148 1 0) 148 2 (if S 149 5 = 0 then -1 else 3)) (by rw [if_neg (by simpa [up2_at] using c13)]) ?_
    exact l_X1_go G L idle _ _ 0 rfl (by omega) (wfG_148 (wfG_148 hw))
def atL (S : Nat → Nat → Int32) (puts : Int32) : Nat → Nat → Int32
  | 0, _ => 1
  | m + 1, p => if (if puts = S 146 p then (1 : Int32) else 0) = S 147 p then atL S puts m (p + 1) else 0
theorem nar01 {b : Int32} (h : b = 0 ∨ b = 1) : vp_nar .boolean b = b := by rcases h with rfl | rfl <;> rfl
theorem atL_01 (S : Nat → Nat → Int32) (puts : Int32) : ∀ m p, atL S puts m p = 0 ∨ atL S puts m p = 1
  | 0, _ => Or.inr rfl
  | m + 1, p => by
    rw [atL]
    by_cases h : (if puts = S 146 p then (1 : Int32) else 0) = S 147 p
    · rw [if_pos h]; exact atL_01 S puts m (p + 1)
    · rw [if_neg h]; exact Or.inl rfl
theorem nar_of {b : Int32} (h : b = 0 ∨ b = 1) : narrow .boolean (.int b) = .int b := by rcases h with rfl | rfl <;> rfl
set_option maxRecDepth 100000 in
set_option maxHeartbeats 4000000 in
theorem e_X5_add (G : GT) (S : Nat → Nat → Int32) (L : Nat → Int64) (c : Nat) (hc : c < 6) (h2 : S 145 2 = nI c) (v b : Int32) (hb : b = 0 ∨ b = 1) : sE G yX5_add R_X5_add cX5_add 3 none [.ref (gB G + 145), .int v, .int b] S L none (up2 (up2 (up2 S 146 c v) 147 c b) 145 2 (nI (c + 1))) L := by
  refine sE.of (by decide) (Nat.le_of_ble_eq_true rfl) ?_
  show sv_V G R_X5_add RX5 "add" cX5_add 3 none (sPo G R_X5_add none (up2 (up2 (up2 S 146 c v) 147 c b) 145 2 (nI (c + 1))) L) 0 0 197 (CF G S L) 0 [(0, .ref (gB G + 145)), (1, .int v), (2, .int b)] []
  refine sv_aload_n 0 dX5_add_0 rfl ?_
  refine sg_5_2 sh_145 fl_RX5_19 dX5_add_1 ?_
  refine sv_bipush (v := 6) dX5_add_4 (by decide) ?_
  refine sv_icmp_lt (tgt := 10) dX5_add_6 (by decide) (fun c6 => ?_) (fun c6 => ?_)
  · -- jump
    refine sv_aload_n 0 dX5_add_10 rfl ?_
    refine sg_5_0 sh_145 fl_RX5_9 dX5_add_11 ?_
    refine sv_aload_n 0 dX5_add_14 rfl ?_
    refine sg_5_2 sh_145 fl_RX5_19 dX5_add_15 ?_
    refine sv_iload_n 1 dX5_add_18 rfl ?_
    refine sx_ist sh_146 c h2 hc dX5_add_19 ?_
    refine sv_aload_n 0 dX5_add_20 rfl ?_
    refine sg_5_1 sh_145 fl_RX5_15 dX5_add_21 ?_
    refine sv_aload_n 0 dX5_add_24 rfl ?_
    refine sg_5_2 sh_145 fl_RX5_19 dX5_add_25 ?_
    refine sv_iload_n 2 dX5_add_28 rfl ?_
    refine sx_zst sh_147 c (by rw [up2_row (by omega)]; exact h2) hc dX5_add_29 ?_
    rw [nar01 hb]
    refine sv_aload_n 0 dX5_add_30 rfl ?_
    refine sv_dup dX5_add_31 rfl ?_
    refine sg_5_2 sh_145 fl_RX5_19 dX5_add_32 ?_
    refine sv_topE (v' := nI c) (by rw [up2_row (by omega), up2_row (by omega)]; exact h2) ?_
    refine sv_iconst (v := 1) dX5_add_35 (by decide) ?_
    refine sv_iadd dX5_add_36 ?_
    refine sv_topE (nI_1 c) ?_
    refine sp_5_2 sh_145 fl_RX5_19 dX5_add_37 ?_
    exact se_vret rfl ⟨rfl, rfl⟩ dX5_add_40 (sEq.rf _)
  · -- fall
    exact absurd (by rw [h2]; exact nI_lt (b := 6) hc (by decide)) c6
set_option maxRecDepth 100000 in
set_option maxHeartbeats 4000000 in
theorem l_X5_areTrue (G : GT) (S : Nat → Nat → Int32) (L : Nat → Int64) (puts : Int32) (c : Nat) (hc : c ≤ 6) (h2 : S 145 2 = nI c) : ∀ (m p : Nat), c - p = m → p ≤ c → sv_V G R_X5_areTrue RX5 "areTrue" cX5_areTrue 3 (some .boolean) (sPo G R_X5_areTrue (some (.int (atL S puts m p))) S L) 0 0 197 (CF G S L) 2 [(2, .int (nI p)), (0, .ref (gB G + 145)), (1, .int puts)] [] := by
  intro m
  induction m using Nat.strongRecOn
  rename_i m ih
  intro p hm hp
  refine sv_iload_n 0 dX5_areTrue_2 rfl ?_
  refine sv_aload_n 1 dX5_areTrue_3 rfl ?_
  refine sg_5_2 sh_145 fl_RX5_19 dX5_areTrue_4 ?_
  refine sv_topE h2 ?_
  refine sv_icmp_ge (tgt := 42) dX5_areTrue_7 (by decide) (fun c7 => ?_) (fun c7 => ?_)
  · -- jump
    obtain rfl : m = 0 := by have := (nI_leI (by omega) (by omega)).mp c7; omega
    refine sv_iconst (v := 1) dX5_areTrue_42 (by decide) ?_
    exact se_zret rfl ⟨rfl, rfl⟩ dX5_areTrue_43 (by rfl) rfl rfl
  · -- fall
    have h7 : p < c := Nat.lt_of_not_le (fun z => c7 (nI_le z (by omega)))
    obtain ⟨m2, rfl⟩ : ∃ j, m = j + 1 := ⟨m - 1, by omega⟩
    rw [atL]
    refine sv_iload_n 2 dX5_areTrue_10 rfl ?_
    refine sv_aload_n 1 dX5_areTrue_11 rfl ?_
    refine sg_5_0 sh_145 fl_RX5_9 dX5_areTrue_12 ?_
    refine sv_iload_n 0 dX5_areTrue_15 rfl ?_
    refine sx_ild sh_146 p rfl (by omega) dX5_areTrue_16 ?_
    refine sv_icmp_ne (tgt := 24) dX5_areTrue_17 (by decide) (fun c17 => ?_) (fun c17 => ?_)
    · -- jump
      refine sv_iconst (v := 0) dX5_areTrue_24 (by decide) ?_
      refine sv_aload_n 1 dX5_areTrue_25 rfl ?_
      refine sg_5_1 sh_145 fl_RX5_15 dX5_areTrue_26 ?_
      refine sv_iload_n 0 dX5_areTrue_29 rfl ?_
      refine sx_zld sh_147 p rfl (by omega) dX5_areTrue_30 ?_
      refine sv_icmp_eq (tgt := 36) dX5_areTrue_31 (by decide) (fun c31 => ?_) (fun c31 => ?_)
      · -- jump
        refine sv_iinc 0 (ls' := [(2, _), (0, _), (1, _)]) dX5_areTrue_36 rfl (nI_1 _) (by decide) rfl ?_
        refine sv_goto (tgt := 2) dX5_areTrue_39 (by decide) ?_
        rw [if_neg c17, if_pos c31]
        exact ih m2 (by omega) (p + 1) (by omega) (by omega)
      · -- fall
        refine sv_iconst (v := 0) dX5_areTrue_34 (by decide) ?_
        exact se_zret rfl ⟨rfl, rfl⟩ dX5_areTrue_35 (by rfl) (by rw [if_neg c17, if_neg c31]) rfl
    · -- fall
      refine sv_iconst (v := 1) dX5_areTrue_20 (by decide) ?_
      refine sv_goto (tgt := 25) dX5_areTrue_21 (by decide) ?_
      refine sv_aload_n 1 dX5_areTrue_25 rfl ?_
      refine sg_5_1 sh_145 fl_RX5_15 dX5_areTrue_26 ?_
      refine sv_iload_n 0 dX5_areTrue_29 rfl ?_
      refine sx_zld sh_147 p rfl (by omega) dX5_areTrue_30 ?_
      refine sv_icmp_eq (tgt := 36) dX5_areTrue_31 (by decide) (fun c31 => ?_) (fun c31 => ?_)
      · -- jump
        refine sv_iinc 0 (ls' := [(2, _), (0, _), (1, _)]) dX5_areTrue_36 rfl (nI_1 _) (by decide) rfl ?_
        refine sv_goto (tgt := 2) dX5_areTrue_39 (by decide) ?_
        rw [if_pos c17, if_pos c31]
        exact ih m2 (by omega) (p + 1) (by omega) (by omega)
      · -- fall
        refine sv_iconst (v := 0) dX5_areTrue_34 (by decide) ?_
        exact se_zret rfl ⟨rfl, rfl⟩ dX5_areTrue_35 (by rfl) (by rw [if_pos c17, if_neg c31]) rfl
set_option maxRecDepth 100000 in
set_option maxHeartbeats 4000000 in
theorem e_X5_areTrue (G : GT) (S : Nat → Nat → Int32) (L : Nat → Int64) (puts : Int32) (c : Nat) (hc : c ≤ 6) (h2 : S 145 2 = nI c) : sE G yX5_areTrue R_X5_areTrue cX5_areTrue 3 (some .boolean) [.ref (gB G + 145), .int puts] S L (some (.int (atL S puts c 0))) S L := by
  refine sE.of (by decide) (Nat.le_of_ble_eq_true rfl) ?_
  show sv_V G R_X5_areTrue RX5 "areTrue" cX5_areTrue 3 (some .boolean) (sPo G R_X5_areTrue (some (.int (atL S puts c 0))) S L) 0 0 197 (CF G S L) 0 [(0, .ref (gB G + 145)), (1, .int puts)] []
  refine sv_iconst (v := 0) dX5_areTrue_0 (by decide) ?_
  refine sv_istore_n (ls' := [(2, _), (0, _), (1, _)]) dX5_areTrue_1 (by decide) rfl ?_
  exact l_X5_areTrue G S L puts c hc h2 _ 0 (by omega) (by omega)
