theorem sv_toplE {G : GT} {R : Room} {own nm : String} {cc : ByteArray} {nL : Nat} {rt : Option FieldType} {Post : Option Value → Nat → Nat → Nat → (Nat → va_E) → Prop} {cells slots n : Nat} {f : Nat → va_E} {pc : Nat} {ls : List (Nat × Value)} {st : List Value} {v v' : Int64} (h : v = v') (k : sv_V G R own nm cc nL rt Post cells slots n f pc ls (.long v' :: st)) : sv_V G R own nm cc nL rt Post cells slots n f pc ls (.long v :: st) := h ▸ k
theorem goA_row {S : Nat → Nat → Int32} {k : Nat} (h : k ≠ 148) : goA S k = S k := by unfold goA; rw [up2_row h, up2_row h]
theorem goL_row (idle : Int32) : ∀ (m : Nat) (S : Nat → Nat → Int32) (k : Nat), (k < 148 ∨ 153 ≤ k) → goL idle m S k = S k
  | 0, S, k, h => by rw [goL]; unfold goE; rw [up2_row (by omega)]
  | m + 1, S, k, h => by
    rw [goL]
    by_cases h1 : S 148 2 = -1
    · rw [if_pos h1]
      by_cases h2 : idP S idle
      · rw [if_pos h2, goL_row idle m _ k h, goA_row (by omega), up2_row (by omega)]
      · rw [if_neg h2]
        by_cases h3 : stP S 149 3
        · rw [if_pos h3, goL_row idle m _ k h, goA_row (by omega), stS_row (by omega)]
        · rw [if_neg h3, up2_row (by omega)]
    · rw [if_neg h1]; unfold goE; rw [up2_row (by omega)]
theorem goF_row {S : Nat → Nat → Int32} {idle : Int32} {k : Nat} (h : k < 148 ∨ 153 ≤ k) : goF S idle k = S k := by
  unfold goF; rw [goL_row _ _ _ _ h, up2_row (by omega), up2_row (by omega)]
theorem fg_row {S : Nat → Nat → Int32} {idle : Int32} {k : Nat} (h : k < 148 ∨ 153 ≤ k) : goF (cpR S 149 14 4) idle k = S k := by rw [goF_row h, cpR_row (by omega)]
def whL (c : Nat) : Nat → Nat → Int32 → (Nat → Nat → Int32) → Int32 × (Nat → Nat → Int32)
  | 0, _, a, S => (a, S)
  | m + 1, p, a, S => whL c m (p + 1) (if atL (goF (cpR S 149 14 4) (nI p)) (goF (cpR S 149 14 4) (nI p) 149 6) c 0 = 0 then a else a ||| ((1 : Int32) <<< (nI p &&& 31))) (goF (cpR S 149 14 4) (nI p))
def xwhich (S : Nat → Nat → Int32) : Int32 × (Nat → Nat → Int32) := whL (tn (S 145 2)) (tn (S 3 4)) 0 0 S
def wfQ (S : Nat → Nat → Int32) (c z : Nat) : Prop := wfM S 14 ∧ wfP S 3 ∧ S 145 2 = nI c ∧ S 3 4 = nI z
theorem wfQ_s {S : Nat → Nat → Int32} {c z : Nat} {idle : Int32} (h : wfQ S c z) : wfQ (goF (cpR S 149 14 4) idle) c z := by
  obtain ⟨h1, h2, h3, h4⟩ := h
  refine ⟨?_, wfP_row h2 (fg_row (by omega)) (fg_row (by omega)) (fg_row (by omega)) (fg_row (by omega)), by rw [fg_row (by omega)]; exact h3, by rw [fg_row (by omega)]; exact h4⟩
  unfold wfM at h1 ⊢
  rw [fg_row (by omega)]
  exact h1
set_option maxRecDepth 100000 in
set_option maxHeartbeats 4000000 in
theorem l_X9_which (G : GT) (L : Nat → Int64) (c z : Nat) (hc : c ≤ 6) (hz : z ≤ 16) : ∀ (m : Nat) (S : Nat → Nat → Int32) (p : Nat) (a : Int32), z - p = m → p ≤ z → wfQ S c z → sv_V G R_X9_which RX9 "which" cX9_which 3 (some .int) (sPo G R_X9_which (some (.int (whL c m p a S).1)) (whL c m p a S).2 L) 0 0 197 (CF G S L) 4 [(2, .int (nI p)), (1, .int a), (0, .ref (gB G + 0))] [] := by
  intro m
  induction m using Nat.strongRecOn
  rename_i m ih
  intro S p a hm hp hw
  refine sv_iload_n 0 dX9_which_4 rfl ?_
  refine sv_aload_n 2 dX9_which_5 rfl ?_
  refine sg_9_1 sh_0 fl_RX9_19 dX9_which_6 ?_
  refine sg_4_4 isProg_3.1 fl_RX9_93 dX9_which_9 ?_
  refine sv_topE hw.2.2.2 ?_
  refine sv_icmp_ge (tgt := 73) dX9_which_12 (by decide) (fun c12 => ?_) (fun c12 => ?_)
  · -- jump
    obtain rfl : m = 0 := by have := (nI_leI (by omega) (by omega)).mp c12; omega
    refine sv_iload_n 1 dX9_which_73 rfl ?_
    exact se_iret rfl ⟨rfl, rfl⟩ dX9_which_74 rfl rfl
  · -- fall
    have hlt : p < z := Nat.lt_of_not_le (fun q => c12 (nI_le q (by omega)))
    obtain ⟨m2, rfl⟩ : ∃ j, m = j + 1 := ⟨m - 1, by omega⟩
    rw [whL]
    refine sv_aload_n 2 dX9_which_15 rfl ?_
    refine sg_9_9 sh_0 fl_RX9_61 dX9_which_16 ?_
    refine sv_aload_n 2 dX9_which_19 rfl ?_
    refine sg_9_3 sh_0 fl_RX9_29 dX9_which_20 ?_
    refine sg_6_0 isState_13.1 fl_RX9_96 dX9_which_23 ?_
    refine cVv1 (e_X1_prepare G _ _ hw.1.2.2) ⟨rfl, rfl⟩ (sv_w5 ml_RX9_232 im_X1_prepare sl_X1_prepare in_RX1 cd_X1_prepare) nm_X1_prepare ⟨Nat.le_of_ble_eq_true rfl, Nat.le_of_ble_eq_true rfl⟩ rfl (CF_1 sh_148) (shp_lt sh_148 (by simp)) (Nat.le_of_ble_eq_true rfl) ⟨Nat.le_of_ble_eq_true rfl, Nat.le_of_ble_eq_true rfl⟩ dX9_which_26 ?_
    refine sv_aload_n 2 dX9_which_29 rfl ?_
    refine sg_9_9 sh_0 fl_RX9_61 dX9_which_30 ?_
    refine sv_aload_n 2 dX9_which_33 rfl ?_
    refine sg_9_1 sh_0 fl_RX9_19 dX9_which_34 ?_
    refine sv_iload_n 0 dX9_which_37 rfl ?_
    refine cVv2 (e_X1_go G _ _ _ (wfG_cp hw.1 hw.2.1)) ⟨rfl, rfl⟩ (sv_w5 ml_RX9_236 im_X1_go sl_X1_go in_RX1 cd_X1_go) nm_X1_go ⟨Nat.le_of_ble_eq_true rfl, Nat.le_of_ble_eq_true rfl⟩ rfl (CF_1 sh_148) (shp_lt sh_148 (by simp)) (Nat.le_of_ble_eq_true rfl) ⟨Nat.le_of_ble_eq_true rfl, Nat.le_of_ble_eq_true rfl⟩ dX9_which_38 ?_
    refine sv_aload_n 2 dX9_which_41 rfl ?_
    refine sg_9_8 sh_0 fl_RX9_54 dX9_which_42 ?_
    refine sv_aload_n 2 dX9_which_45 rfl ?_
    refine sg_9_9 sh_0 fl_RX9_61 dX9_which_46 ?_
    refine sg_1_0 sh_148 fl_RX9_246 dX9_which_49 ?_
    refine sg_3_6 isMach_149.1 fl_RX9_112 dX9_which_52 ?_
    refine cVi1 (e_X5_areTrue G _ _ _ c hc (wfQ_s hw).2.2.1) ⟨rfl, rfl⟩ (sv_w5 ml_RX9_273 im_X5_areTrue sl_X5_areTrue in_RX5 cd_X5_areTrue) nm_X5_areTrue ⟨Nat.le_of_ble_eq_true rfl, Nat.le_of_ble_eq_true rfl⟩ rfl (CF_5 sh_145) (shp_lt sh_145 (by simp)) (Nat.le_of_ble_eq_true rfl) ⟨Nat.le_of_ble_eq_true rfl, Nat.le_of_ble_eq_true rfl⟩ dX9_which_55 ?_
    refine sv_if_eq (tgt := 67) dX9_which_58 (by decide) (fun c58 => ?_) (fun c58 => ?_)
    · -- jump
      refine sv_iinc 0 (ls' := [(2, _), (1, _), (0, _)]) dX9_which_67 rfl (nI_1 _) (by decide) rfl ?_
      refine sv_goto (tgt := 4) dX9_which_70 (by decide) ?_
      rw [if_pos c58]
      exact ih m2 (by omega) _ (p + 1) _ (by omega) (by omega) (wfQ_s hw)
    · -- fall
      refine sv_iload_n 1 dX9_which_61 rfl ?_
      refine sv_iconst (v := 1) dX9_which_62 (by decide) ?_
      refine sv_iload_n 0 dX9_which_63 rfl ?_
      refine sv_ishl dX9_which_64 ?_
      refine sv_ior dX9_which_65 ?_
      refine sv_istore_n (ls' := [(1, _), (2, _), (0, _)]) dX9_which_66 (by decide) rfl ?_
      refine sv_iinc 1 (ls' := [(2, _), (1, _), (0, _)]) dX9_which_67 rfl (nI_1 _) (by decide) rfl ?_
      refine sv_goto (tgt := 4) dX9_which_70 (by decide) ?_
      rw [if_neg c58]
      exact ih m2 (by omega) _ (p + 1) _ (by omega) (by omega) (wfQ_s hw)
set_option maxRecDepth 100000 in
set_option maxHeartbeats 4000000 in
theorem e_X9_which (G : GT) (S : Nat → Nat → Int32) (L : Nat → Int64) (hW : WX S) : sE G yX9_which R_X9_which cX9_which 3 (some .int) [.ref (gB G + 0)] S L (some (.int (xwhich S).1)) (xwhich S).2 L := by
  refine sE.of (by decide) (Nat.le_of_ble_eq_true rfl) ?_
  show sv_V G R_X9_which RX9 "which" cX9_which 3 (some .int) (sPo G R_X9_which (some (.int (xwhich S).1)) (xwhich S).2 L) 0 0 197 (CF G S L) 0 [(0, .ref (gB G + 0))] []
  refine sv_iconst (v := 0) dX9_which_0 (by decide) ?_
  refine sv_istore_n (ls' := [(1, _), (0, _)]) dX9_which_1 (by decide) rfl ?_
  refine sv_iconst (v := 0) dX9_which_2 (by decide) ?_
  refine sv_istore_n (ls' := [(2, _), (1, _), (0, _)]) dX9_which_3 (by decide) rfl ?_
  exact l_X9_which G L (tn (S 145 2)) (tn (S 3 4)) (tn_le (M := 6) (k := 6) rfl (by decide) hW.2.2.2.2.2.2.2.1 hW.2.2.2.2.2.2.2.2) (tn_16 hW.2.1.1 hW.2.1.2.1) _ S 0 0 (Nat.sub_zero _) (Nat.zero_le _) ⟨hW.2.2.1.1, hW.2.1, nI_self hW.2.2.2.2.2.2.2.1, nI_self hW.2.1.1⟩
theorem msL_E {c len : Nat} : ∀ (m k : Nat) (S : Nat → Nat → Int32), wfE S c len → wfE (msL len m k S) c len
  | 0, _, _, h => h
  | m + 1, k, S, h => msL_E m (k + 1) _ (wfE_s h)
theorem meS_ct (S : Nat → Nat → Int32) : meS S 153 7 = nI (ctF S) := (msL_E _ 0 _ (fwG_ok S).2).1
def xshare (S : Nat → Nat → Int32) (p up : Int32) : Int32 × (Nat → Nat → Int32) := if hasX S p then (if armP S 18 p ∧ bcF (armSetF S 18) ≤ 6 then (ptF (wgF (meS S) (ctF S) p) (fcL (ctF S - 1) 2 1) up, meS S) else (-3, S)) else (-1, S)
def xchance (S : Nat → Nat → Int32) (v x up : Int32) : Int32 × (Nat → Nat → Int32) := if v < 0 ∨ 20 < v ∨ x < 0 ∨ ¬ x ≤ 10 then (-2, S) else if bcF (armSetF S 18) ≤ 6 then (ptF (wlL (meS S) v x (2 ^ ctF S) 0 0).toInt32 (pwL (10 : Int32).toInt64 (ctF S) 1).toInt32 up, meS S) else (-3, S)
theorem tn_ct (S : Nat → Nat → Int32) : tn (meS S 153 7) = ctF S := by
  rw [meS_ct, tn_nI (by have := (ctF_ok S).1; omega)]
set_option maxRecDepth 100000 in
set_option maxHeartbeats 4000000 in
theorem e_X9_share (G : GT) (S : Nat → Nat → Int32) (L : Nat → Int64) (hW : WX S) (p up : Int32) : sE G yX9_share R_X9_share cX9_share 4 (some .int) [.ref (gB G + 0), .int p, .int up] S L (some (.int (xshare S p up).1)) (xshare S p up).2 L := by
  refine sE.of (by decide) (Nat.le_of_ble_eq_true rfl) ?_
  show sv_V G R_X9_share RX9 "share" cX9_share 4 (some .int) (sPo G R_X9_share (some (.int (xshare S p up).1)) (xshare S p up).2 L) 0 0 197 (CF G S L) 0 [(0, .ref (gB G + 0)), (1, .int p), (2, .int up)] []
  refine sv_aload_n 0 dX9_share_0 rfl ?_
  refine sg_9_1 sh_0 fl_RX9_19 dX9_share_1 ?_
  refine sv_iload_n 1 dX9_share_4 rfl ?_
  refine cVi1 (e_X4_has G _ _ _ isProg_3 _) ⟨rfl, rfl⟩ (sv_w5 ml_RX9_165 im_X4_has sl_X4_has in_RX4 cd_X4_has) nm_X4_has ⟨Nat.le_of_ble_eq_true rfl, Nat.le_of_ble_eq_true rfl⟩ rfl (CF_4 isProg_3.1) (shp_lt isProg_3.1 (by simp)) (Nat.le_of_ble_eq_true rfl) ⟨Nat.le_of_ble_eq_true rfl, Nat.le_of_ble_eq_true rfl⟩ dX9_share_5 ?_
  refine sv_ifne_b (tgt := 13) dX9_share_8 (by decide) (fun c8 => ?_) (fun c8 => ?_)
  · -- jump
    refine sv_aload_n 0 dX9_share_13 rfl ?_
    refine sg_9_3 sh_0 fl_RX9_29 dX9_share_14 ?_
    refine sg_6_1 isState_13.1 fl_RX9_118 dX9_share_17 ?_
    refine sv_iload_n 1 dX9_share_20 rfl ?_
    refine cVi1 (e_X0_isArmed G _ _ _ isState_13.2.2.1 _) ⟨rfl, rfl⟩ (sv_w5 ml_RX9_201 im_X0_isArmed sl_X0_isArmed in_RX0 cd_X0_isArmed) nm_X0_isArmed ⟨Nat.le_of_ble_eq_true rfl, Nat.le_of_ble_eq_true rfl⟩ rfl (CF_0 isState_13.2.2.1.1) (shp_lt isState_13.2.2.1.1 (by simp)) (Nat.le_of_ble_eq_true rfl) ⟨Nat.le_of_ble_eq_true rfl, Nat.le_of_ble_eq_true rfl⟩ dX9_share_21 ?_
    refine sv_ifeq_b (tgt := 42) dX9_share_24 (by decide) (fun c24 => ?_) (fun c24 => ?_)
    · -- jump
      refine sv_bipush (v := (-3)) dX9_share_42 (by decide) ?_
      exact se_iret rfl ⟨rfl, rfl⟩ dX9_share_44 (by rw [xshare, if_pos c8, if_neg (fun h => c24 h.1)]) (by rw [xshare, if_pos c8, if_neg (fun h => c24 h.1)])
    · -- fall
      refine sv_aload_n 0 dX9_share_27 rfl ?_
      refine sg_9_3 sh_0 fl_RX9_29 dX9_share_28 ?_
      refine sg_6_1 isState_13.1 fl_RX9_118 dX9_share_31 ?_
      refine cVi0 (e_X0_armedCount G _ _ _ isState_13.2.2.1) ⟨rfl, rfl⟩ (sv_w5 ml_RX9_276 im_X0_armedCount sl_X0_armedCount in_RX0 cd_X0_armedCount) nm_X0_armedCount ⟨Nat.le_of_ble_eq_true rfl, Nat.le_of_ble_eq_true rfl⟩ rfl (CF_0 isState_13.2.2.1.1) (shp_lt isState_13.2.2.1.1 (by simp)) (Nat.le_of_ble_eq_true rfl) ⟨Nat.le_of_ble_eq_true rfl, Nat.le_of_ble_eq_true rfl⟩ dX9_share_34 ?_
      refine sv_bipush (v := 6) dX9_share_37 (by decide) ?_
      refine sv_icmp_le (tgt := 45) dX9_share_39 (by decide) (fun c39 => ?_) (fun c39 => ?_)
      · -- jump
        refine sv_aload_n 0 dX9_share_45 rfl ?_
        refine sg_9_10 sh_0 fl_RX9_68 dX9_share_46 ?_
        refine sv_aload_n 0 dX9_share_49 rfl ?_
        refine sg_9_3 sh_0 fl_RX9_29 dX9_share_50 ?_
        refine sv_aload_n 0 dX9_share_53 rfl ?_
        refine sg_9_1 sh_0 fl_RX9_19 dX9_share_54 ?_
        refine cVv2 (e_X7_measure G _ _ hW.2.2.1.1 hW.2.1) ⟨rfl, rfl⟩ (sv_w5 ml_RX9_279 im_X7_measure sl_X7_measure in_RX7 cd_X7_measure) nm_X7_measure ⟨Nat.le_of_ble_eq_true rfl, Nat.le_of_ble_eq_true rfl⟩ rfl (CF_7 sh_153) (shp_lt sh_153 (by simp)) (Nat.le_of_ble_eq_true rfl) ⟨Nat.le_of_ble_eq_true rfl, Nat.le_of_ble_eq_true rfl⟩ dX9_share_57 ?_
        refine sv_aload_n 0 dX9_share_60 rfl ?_
        refine sg_9_10 sh_0 fl_RX9_68 dX9_share_61 ?_
        refine sg_7_7 sh_153 fl_RX9_283 dX9_share_64 ?_
        refine cSi1 (e_X9_factorial G _ _ _ (by rw [tn_ct]; have := (ctF_ok S).1; omega)) ⟨rfl, rfl⟩ (sv_w4 ml_RX9_284 st_X9_factorial in_RX9 cd_X9_factorial) nm_X9_factorial ⟨Nat.le_of_ble_eq_true rfl, Nat.le_of_ble_eq_true rfl⟩ (Nat.le_of_ble_eq_true rfl) ⟨Nat.le_of_ble_eq_true rfl, Nat.le_of_ble_eq_true rfl⟩ dX9_share_67 ?_
        rw [tn_ct]
        refine sv_istore_n (ls' := [(3, _), (0, _), (1, _), (2, _)]) dX9_share_70 (by decide) rfl ?_
        refine sv_aload_n 1 dX9_share_71 rfl ?_
        refine sg_9_10 sh_0 fl_RX9_68 dX9_share_72 ?_
        refine sv_iload_n 2 dX9_share_75 rfl ?_
        refine cVi1 (e_X7_weightedGain G _ _ (ctF S) (ctF_ok S).1 (meS_ct S) _) ⟨rfl, rfl⟩ (sv_w5 ml_RX9_287 im_X7_weightedGain sl_X7_weightedGain in_RX7 cd_X7_weightedGain) nm_X7_weightedGain ⟨Nat.le_of_ble_eq_true rfl, Nat.le_of_ble_eq_true rfl⟩ rfl (CF_7 sh_153) (shp_lt sh_153 (by simp)) (Nat.le_of_ble_eq_true rfl) ⟨Nat.le_of_ble_eq_true rfl, Nat.le_of_ble_eq_true rfl⟩ dX9_share_76 ?_
        refine sv_iload_n 0 dX9_share_79 rfl ?_
        refine sv_iload_n 3 dX9_share_80 rfl ?_
        refine cSi3 (e_X9_partOf G _ _ _ _ _) ⟨rfl, rfl⟩ (sv_w4 ml_RX9_290 st_X9_partOf in_RX9 cd_X9_partOf) nm_X9_partOf ⟨Nat.le_of_ble_eq_true rfl, Nat.le_of_ble_eq_true rfl⟩ (Nat.le_of_ble_eq_true rfl) ⟨Nat.le_of_ble_eq_true rfl, Nat.le_of_ble_eq_true rfl⟩ dX9_share_81 ?_
        exact se_iret rfl ⟨rfl, rfl⟩ dX9_share_84 (by rw [xshare, if_pos c8, if_pos ⟨c24, c39⟩]) (by rw [xshare, if_pos c8, if_pos ⟨c24, c39⟩])
      · -- fall
        refine sv_bipush (v := (-3)) dX9_share_42 (by decide) ?_
        exact se_iret rfl ⟨rfl, rfl⟩ dX9_share_44 (by rw [xshare, if_pos c8, if_neg (fun h => c39 h.2)]) (by rw [xshare, if_pos c8, if_neg (fun h => c39 h.2)])
  · -- fall
    refine sv_iconst (v := (-1)) dX9_share_11 (by decide) ?_
    exact se_iret rfl ⟨rfl, rfl⟩ dX9_share_12 (by rw [xshare, if_neg c8]) (by rw [xshare, if_neg c8])
set_option maxRecDepth 100000 in
set_option maxHeartbeats 4000000 in
theorem e_X9_chance (G : GT) (S : Nat → Nat → Int32) (L : Nat → Int64) (hW : WX S) (v x up : Int32) : sE G yX9_chance R_X9_chance cX9_chance 5 (some .int) [.ref (gB G + 0), .int v, .int x, .int up] S L (some (.int (xchance S v x up).1)) (xchance S v x up).2 L := by
  refine sE.of (by decide) (Nat.le_of_ble_eq_true rfl) ?_
  show sv_V G R_X9_chance RX9 "chance" cX9_chance 5 (some .int) (sPo G R_X9_chance (some (.int (xchance S v x up).1)) (xchance S v x up).2 L) 0 0 197 (CF G S L) 0 [(0, .ref (gB G + 0)), (1, .int v), (2, .int x), (3, .int up)] []
  refine sv_iload_n 1 dX9_chance_0 rfl ?_
  refine sv_if_lt (tgt := 20) dX9_chance_1 (by decide) (fun c1 => ?_) (fun c1 => ?_)
  · -- jump
    refine sv_bipush (v := (-2)) dX9_chance_20 (by decide) ?_
    exact se_iret rfl ⟨rfl, rfl⟩ dX9_chance_22 (by rw [xchance, if_pos (Or.inl c1)]) (by rw [xchance, if_pos (Or.inl c1)])
  · -- fall
    refine sv_iload_n 1 dX9_chance_4 rfl ?_
    refine sv_bipush (v := 20) dX9_chance_5 (by decide) ?_
    refine sv_icmp_gt (tgt := 20) dX9_chance_7 (by decide) (fun c7 => ?_) (fun c7 => ?_)
    · -- jump
      refine sv_bipush (v := (-2)) dX9_chance_20 (by decide) ?_
      exact se_iret rfl ⟨rfl, rfl⟩ dX9_chance_22 (by rw [xchance, if_pos (Or.inr (Or.inl c7))]) (by rw [xchance, if_pos (Or.inr (Or.inl c7))])
    · -- fall
      refine sv_iload_n 2 dX9_chance_10 rfl ?_
      refine sv_if_lt (tgt := 20) dX9_chance_11 (by decide) (fun c11 => ?_) (fun c11 => ?_)
      · -- jump
        refine sv_bipush (v := (-2)) dX9_chance_20 (by decide) ?_
        exact se_iret rfl ⟨rfl, rfl⟩ dX9_chance_22 (by rw [xchance, if_pos (Or.inr (Or.inr (Or.inl c11)))]) (by rw [xchance, if_pos (Or.inr (Or.inr (Or.inl c11)))])
      · -- fall
        refine sv_iload_n 2 dX9_chance_14 rfl ?_
        refine sv_bipush (v := 10) dX9_chance_15 (by decide) ?_
        refine sv_icmp_le (tgt := 23) dX9_chance_17 (by decide) (fun c17 => ?_) (fun c17 => ?_)
        · -- jump
          refine sv_aload_n 0 dX9_chance_23 rfl ?_
          refine sg_9_3 sh_0 fl_RX9_29 dX9_chance_24 ?_
          refine sg_6_1 isState_13.1 fl_RX9_118 dX9_chance_27 ?_
          refine cVi0 (e_X0_armedCount G _ _ _ isState_13.2.2.1) ⟨rfl, rfl⟩ (sv_w5 ml_RX9_276 im_X0_armedCount sl_X0_armedCount in_RX0 cd_X0_armedCount) nm_X0_armedCount ⟨Nat.le_of_ble_eq_true rfl, Nat.le_of_ble_eq_true rfl⟩ rfl (CF_0 isState_13.2.2.1.1) (shp_lt isState_13.2.2.1.1 (by simp)) (Nat.le_of_ble_eq_true rfl) ⟨Nat.le_of_ble_eq_true rfl, Nat.le_of_ble_eq_true rfl⟩ dX9_chance_30 ?_
          refine sv_bipush (v := 6) dX9_chance_33 (by decide) ?_
          refine sv_icmp_le (tgt := 41) dX9_chance_35 (by decide) (fun c35 => ?_) (fun c35 => ?_)
          · -- jump
            refine sv_aload_n 0 dX9_chance_41 rfl ?_
            refine sg_9_10 sh_0 fl_RX9_68 dX9_chance_42 ?_
            refine sv_aload_n 0 dX9_chance_45 rfl ?_
            refine sg_9_3 sh_0 fl_RX9_29 dX9_chance_46 ?_
            refine sv_aload_n 0 dX9_chance_49 rfl ?_
            refine sg_9_1 sh_0 fl_RX9_19 dX9_chance_50 ?_
            refine cVv2 (e_X7_measure G _ _ hW.2.2.1.1 hW.2.1) ⟨rfl, rfl⟩ (sv_w5 ml_RX9_279 im_X7_measure sl_X7_measure in_RX7 cd_X7_measure) nm_X7_measure ⟨Nat.le_of_ble_eq_true rfl, Nat.le_of_ble_eq_true rfl⟩ rfl (CF_7 sh_153) (shp_lt sh_153 (by simp)) (Nat.le_of_ble_eq_true rfl) ⟨Nat.le_of_ble_eq_true rfl, Nat.le_of_ble_eq_true rfl⟩ dX9_chance_53 ?_
            refine sv_bipush (v := 10) dX9_chance_56 (by decide) ?_
            refine sv_aload_n 0 dX9_chance_58 rfl ?_
            refine sg_9_10 sh_0 fl_RX9_68 dX9_chance_59 ?_
            refine sg_7_7 sh_153 fl_RX9_283 dX9_chance_62 ?_
            refine cSi2 (e_X9_power G _ _ _ _ (by rw [tn_ct]; have := (ctF_ok S).1; omega)) ⟨rfl, rfl⟩ (sv_w4 ml_RX9_247 st_X9_power in_RX9 cd_X9_power) nm_X9_power ⟨Nat.le_of_ble_eq_true rfl, Nat.le_of_ble_eq_true rfl⟩ (Nat.le_of_ble_eq_true rfl) ⟨Nat.le_of_ble_eq_true rfl, Nat.le_of_ble_eq_true rfl⟩ dX9_chance_65 ?_
            rw [tn_ct]
            refine sv_l2i dX9_chance_68 rfl ?_
            refine sv_istore (ls' := [(4, _), (0, _), (1, _), (2, _), (3, _)]) dX9_chance_69 (by decide) rfl ?_
            refine sv_aload_n 1 dX9_chance_71 rfl ?_
            refine sg_9_10 sh_0 fl_RX9_68 dX9_chance_72 ?_
            refine sv_iload_n 2 dX9_chance_75 rfl ?_
            refine sv_iload_n 3 dX9_chance_76 rfl ?_
            refine cVi2 (e_X7_weightOfAtLeast G _ _ (ctF S) (ctF_ok S).1 (meS_ct S) _ _) ⟨rfl, rfl⟩ (sv_w5 ml_RX9_294 im_X7_weightOfAtLeast sl_X7_weightOfAtLeast in_RX7 cd_X7_weightOfAtLeast) nm_X7_weightOfAtLeast ⟨Nat.le_of_ble_eq_true rfl, Nat.le_of_ble_eq_true rfl⟩ rfl (CF_7 sh_153) (shp_lt sh_153 (by simp)) (Nat.le_of_ble_eq_true rfl) ⟨Nat.le_of_ble_eq_true rfl, Nat.le_of_ble_eq_true rfl⟩ dX9_chance_77 ?_
            refine sv_iload 0 dX9_chance_80 rfl ?_
            refine sv_iload_n 4 dX9_chance_82 rfl ?_
            refine cSi3 (e_X9_partOf G _ _ _ _ _) ⟨rfl, rfl⟩ (sv_w4 ml_RX9_290 st_X9_partOf in_RX9 cd_X9_partOf) nm_X9_partOf ⟨Nat.le_of_ble_eq_true rfl, Nat.le_of_ble_eq_true rfl⟩ (Nat.le_of_ble_eq_true rfl) ⟨Nat.le_of_ble_eq_true rfl, Nat.le_of_ble_eq_true rfl⟩ dX9_chance_83 ?_
            exact se_iret rfl ⟨rfl, rfl⟩ dX9_chance_86 (by rw [xchance, if_neg (fun h => h.elim c1 (fun h => h.elim c7 (fun h => h.elim c11 (fun z => z c17)))), if_pos c35]) (by rw [xchance, if_neg (fun h => h.elim c1 (fun h => h.elim c7 (fun h => h.elim c11 (fun z => z c17)))), if_pos c35])
          · -- fall
            refine sv_bipush (v := (-3)) dX9_chance_38 (by decide) ?_
            exact se_iret rfl ⟨rfl, rfl⟩ dX9_chance_40 (by rw [xchance, if_neg (fun h => h.elim c1 (fun h => h.elim c7 (fun h => h.elim c11 (fun z => z c17)))), if_neg c35]) (by rw [xchance, if_neg (fun h => h.elim c1 (fun h => h.elim c7 (fun h => h.elim c11 (fun z => z c17)))), if_neg c35])
        · -- fall
          refine sv_bipush (v := (-2)) dX9_chance_20 (by decide) ?_
          exact se_iret rfl ⟨rfl, rfl⟩ dX9_chance_22 (by rw [xchance, if_pos (Or.inr (Or.inr (Or.inr c17)))]) (by rw [xchance, if_pos (Or.inr (Or.inr (Or.inr c17)))])
set_option maxRecDepth 100000 in
set_option maxHeartbeats 4000000 in
theorem e_X9_seed (G : GT) (S : Nat → Nat → Int32) (L : Nat → Int64) (v : Int64) : sE G yX9_seed R_X9_seed cX9_seed 5 (some .long) [.ref (gB G + 0), .long v] S L (some (.long (L 0))) S (va_up L 0 v) := by
  refine sE.of (by decide) (Nat.le_of_ble_eq_true rfl) ?_
  show sv_V G R_X9_seed RX9 "seed" cX9_seed 5 (some .long) (sPo G R_X9_seed (some (.long (L 0))) S (va_up L 0 v)) 0 0 197 (CF G S L) 0 [(0, .ref (gB G + 0)), (1, .long v)] []
  refine sv_aload_n 0 dX9_seed_0 rfl ?_
  refine sg_9_11 sh_0 fl_RX9_297 dX9_seed_1 ?_
  refine sv_lstore_n (ls' := [(3, _), (0, _), (1, _)]) dX9_seed_4 (by decide) rfl ?_
  refine sv_aload_n 1 dX9_seed_5 rfl ?_
  refine sv_lload_n 2 dX9_seed_6 rfl ?_
  refine sp_9_11 sh_0 fl_RX9_297 dX9_seed_7 ?_
  refine sv_lload_n 0 dX9_seed_10 rfl ?_
  exact se_lret rfl ⟨rfl, rfl⟩ dX9_seed_11 rfl rfl rfl
def sdF (x : Int64) : Int64 := x * 6364136223846793005 + 1442695040888963407
def drT (S : Nat → Nat → Int32) (sd : Int64) : Nat → Nat → Int32 := goF (scS (cpR S 149 14 4) 149 (sd.toUInt64 >>> ((33 : Int32).toInt64.toUInt64 &&& Int64.toUInt64 63)).toInt64.toInt32 4) (-9)
def drL : Nat → Int32 → (Nat → Nat → Int32) → (Nat → Int64) → Int32 × (Nat → Nat → Int32) × (Nat → Int64)
  | 0, a, S, L => (a, S, L)
  | m + 1, a, S, L => drL m (a + drT S (sdF (L 0)) 148 1) (drT S (sdF (L 0))) (va_up L 0 (sdF (L 0)))
def xdrawn (S : Nat → Nat → Int32) (L : Nat → Int64) (m : Int32) : Int32 × (Nat → Nat → Int32) × (Nat → Int64) := if m < 1 ∨ ¬ m ≤ 10 then (-2, S, L) else drL (tn m) 0 S L
theorem sc_row {S : Nat → Nat → Int32} {mq k j : Nat} {v : Int32} (h : k ≠ mq + 1) : scS S mq v j k = S k := by unfold scS; rw [row_up h]
theorem wfG_sc {S : Nat → Nat → Int32} {v : Int32} {j : Nat} (h : wfG S) : wfG (scS S 149 v j) := by
  refine ⟨?_, wfP_row h.2 (sc_row (by omega)) (sc_row (by omega)) (sc_row (by omega)) (sc_row (by omega))⟩
  have := h.1
  unfold wfM at this ⊢
  rw [sc_row (by omega)]
  exact this
theorem drT_row {S : Nat → Nat → Int32} {sd : Int64} {k : Nat} (h : k < 148 ∨ 153 ≤ k) : drT S sd k = S k := by unfold drT; rw [goF_row h, sc_row (by omega), cpR_row (by omega)]
theorem wfD_s {S : Nat → Nat → Int32} {sd : Int64} (h : wfM S 14 ∧ wfP S 3) : wfM (drT S sd) 14 ∧ wfP (drT S sd) 3 := by
  refine ⟨?_, wfP_row h.2 (drT_row (by omega)) (drT_row (by omega)) (drT_row (by omega)) (drT_row (by omega))⟩
  have := h.1
  unfold wfM at this ⊢
  rw [drT_row (by omega)]
  exact this
set_option maxRecDepth 100000 in
set_option maxHeartbeats 4000000 in
theorem l_X9_drawn (G : GT) (z : Nat) (hz : z ≤ 10) : ∀ (m : Nat) (S : Nat → Nat → Int32) (L : Nat → Int64) (p : Nat) (a : Int32), z - p = m → p ≤ z → wfM S 14 ∧ wfP S 3 → sv_V G R_X9_drawn RX9 "drawn" cX9_drawn 4 (some .int) (sPo G R_X9_drawn (some (.int (drL m a S L).1)) (drL m a S L).2.1 (drL m a S L).2.2) 0 0 197 (CF G S L) 18 [(3, .int (nI p)), (2, .int a), (0, .ref (gB G + 0)), (1, .int (nI z))] [] := by
  intro m
  induction m using Nat.strongRecOn
  rename_i m ih
  intro S L p a hm hp hw
  refine sv_iload_n 0 dX9_drawn_18 rfl ?_
  refine sv_iload_n 3 dX9_drawn_19 rfl ?_
  refine sv_icmp_ge (tgt := 100) dX9_drawn_20 (by decide) (fun c20 => ?_) (fun c20 => ?_)
  · -- jump
    obtain rfl : m = 0 := by have := (nI_leI (by omega) (by omega)).mp c20; omega
    refine sv_iload_n 1 dX9_drawn_100 rfl ?_
    exact se_iret rfl ⟨rfl, rfl⟩ dX9_drawn_101 rfl rfl
  · -- fall
    have hlt : p < z := Nat.lt_of_not_le (fun q => c20 (nI_le q (by omega)))
    obtain ⟨m2, rfl⟩ : ∃ j, m = j + 1 := ⟨m - 1, by omega⟩
    rw [drL]
    refine sv_aload_n 2 dX9_drawn_23 rfl ?_
    refine sv_aload_n 2 dX9_drawn_24 rfl ?_
    refine sg_9_11 sh_0 fl_RX9_297 dX9_drawn_25 ?_
    refine sv_ldc2 ck_RX9_301 dX9_drawn_28 ?_
    refine sv_lmul dX9_drawn_31 ?_
    refine sv_ldc2 ck_RX9_303 dX9_drawn_32 ?_
    refine sv_ladd dX9_drawn_35 ?_
    refine sv_toplE (v' := sdF (L 0)) rfl ?_
    refine sp_9_11 sh_0 fl_RX9_297 dX9_drawn_36 ?_
    refine sv_aload_n 2 dX9_drawn_39 rfl ?_
    refine sg_9_9 sh_0 fl_RX9_61 dX9_drawn_40 ?_
    refine sv_aload_n 2 dX9_drawn_43 rfl ?_
    refine sg_9_3 sh_0 fl_RX9_29 dX9_drawn_44 ?_
    refine sg_6_0 isState_13.1 fl_RX9_96 dX9_drawn_47 ?_
    refine cVv1 (e_X1_prepare G _ _ hw.1.2.2) ⟨rfl, rfl⟩ (sv_w5 ml_RX9_232 im_X1_prepare sl_X1_prepare in_RX1 cd_X1_prepare) nm_X1_prepare ⟨Nat.le_of_ble_eq_true rfl, Nat.le_of_ble_eq_true rfl⟩ rfl (CF_1 sh_148) (shp_lt sh_148 (by simp)) (Nat.le_of_ble_eq_true rfl) ⟨Nat.le_of_ble_eq_true rfl, Nat.le_of_ble_eq_true rfl⟩ dX9_drawn_50 ?_
    refine sv_aload_n 2 dX9_drawn_53 rfl ?_
    refine sg_9_9 sh_0 fl_RX9_61 dX9_drawn_54 ?_
    refine sg_1_0 sh_148 fl_RX9_246 dX9_drawn_57 ?_
    refine sv_aload_n 2 dX9_drawn_60 rfl ?_
    refine sg_9_11 sh_0 fl_RX9_297 dX9_drawn_61 ?_
    refine sv_toplE (v' := sdF (L 0)) (by simp [va_up]) ?_
    refine sv_bipush (v := 33) dX9_drawn_64 (by decide) ?_
    refine sv_lushr dX9_drawn_66 rfl ?_
    refine sv_l2i dX9_drawn_67 rfl ?_
    refine cVv1 (e_X3_scatter G _ _ _ isMach_149 _) ⟨rfl, rfl⟩ (sv_w5 ml_RX9_305 im_X3_scatter sl_X3_scatter in_RX3 cd_X3_scatter) nm_X3_scatter ⟨Nat.le_of_ble_eq_true rfl, Nat.le_of_ble_eq_true rfl⟩ rfl (CF_3 isMach_149.1) (shp_lt isMach_149.1 (by simp)) (Nat.le_of_ble_eq_true rfl) ⟨Nat.le_of_ble_eq_true rfl, Nat.le_of_ble_eq_true rfl⟩ dX9_drawn_68 ?_
    refine sv_aload_n 2 dX9_drawn_71 rfl ?_
    refine sg_9_9 sh_0 fl_RX9_61 dX9_drawn_72 ?_
    refine sv_aload_n 2 dX9_drawn_75 rfl ?_
    refine sg_9_1 sh_0 fl_RX9_19 dX9_drawn_76 ?_
    refine sv_bipush (v := (-9)) dX9_drawn_79 (by decide) ?_
    refine cVv2 (e_X1_go G _ _ _ (wfG_sc (wfG_cp hw.1 hw.2))) ⟨rfl, rfl⟩ (sv_w5 ml_RX9_236 im_X1_go sl_X1_go in_RX1 cd_X1_go) nm_X1_go ⟨Nat.le_of_ble_eq_true rfl, Nat.le_of_ble_eq_true rfl⟩ rfl (CF_1 sh_148) (shp_lt sh_148 (by simp)) (Nat.le_of_ble_eq_true rfl) ⟨Nat.le_of_ble_eq_true rfl, Nat.le_of_ble_eq_true rfl⟩ dX9_drawn_81 ?_
    refine sv_iload_n 1 dX9_drawn_84 rfl ?_
    refine sv_aload_n 2 dX9_drawn_85 rfl ?_
    refine sg_9_9 sh_0 fl_RX9_61 dX9_drawn_86 ?_
    refine sg_1_1 sh_148 fl_RX9_243 dX9_drawn_89 ?_
    refine sv_iadd dX9_drawn_92 ?_
    refine sv_istore_n (ls' := [(2, _), (3, _), (0, _), (1, _)]) dX9_drawn_93 (by decide) rfl ?_
    refine sv_iinc 1 (ls' := [(3, _), (2, _), (0, _), (1, _)]) dX9_drawn_94 rfl (nI_1 _) (by decide) rfl ?_
    refine sv_goto (tgt := 18) dX9_drawn_97 (by decide) ?_
    exact ih m2 (by omega) _ _ (p + 1) _ (by omega) (by omega) (wfD_s hw)
set_option maxRecDepth 100000 in
set_option maxHeartbeats 4000000 in
theorem e_X9_drawn (G : GT) (S : Nat → Nat → Int32) (L : Nat → Int64) (hW : WX S) (m : Int32) : sE G yX9_drawn R_X9_drawn cX9_drawn 4 (some .int) [.ref (gB G + 0), .int m] S L (some (.int (xdrawn S L m).1)) (xdrawn S L m).2.1 (xdrawn S L m).2.2 := by
  refine sE.of (by decide) (Nat.le_of_ble_eq_true rfl) ?_
  show sv_V G R_X9_drawn RX9 "drawn" cX9_drawn 4 (some .int) (sPo G R_X9_drawn (some (.int (xdrawn S L m).1)) (xdrawn S L m).2.1 (xdrawn S L m).2.2) 0 0 197 (CF G S L) 0 [(0, .ref (gB G + 0)), (1, .int m)] []
  refine sv_iload_n 1 dX9_drawn_0 rfl ?_
  refine sv_iconst (v := 1) dX9_drawn_1 (by decide) ?_
  refine sv_icmp_lt (tgt := 11) dX9_drawn_2 (by decide) (fun c2 => ?_) (fun c2 => ?_)
  · -- jump
    refine sv_bipush (v := (-2)) dX9_drawn_11 (by decide) ?_
    exact sv_iret rfl dX9_drawn_13 ⟨rfl, rfl, by rw [xdrawn, if_pos (by first | exact Or.inl c2 | exact Or.inr c8)], rfl, fun _ _ => by rw [xdrawn, if_pos (by first | exact Or.inl c2 | exact Or.inr c8)]; exact ceq_refl _⟩
  · -- fall
    refine sv_iload_n 1 dX9_drawn_5 rfl ?_
    refine sv_bipush (v := 10) dX9_drawn_6 (by decide) ?_
    refine sv_icmp_le (tgt := 14) dX9_drawn_8 (by decide) (fun c8 => ?_) (fun c8 => ?_)
    · -- jump
      have hm0 : ¬ m < 0 := fun h => c2 (Int32.lt_trans h (by decide))
      have hm10 : tn m ≤ 10 := tn_le (M := 10) (k := 10) rfl (by decide) hm0 (Int32.not_lt.mpr c8)
      refine sv_iconst (v := 0) dX9_drawn_14 (by decide) ?_
      refine sv_istore_n (ls' := [(2, _), (0, _), (1, _)]) dX9_drawn_15 (by decide) rfl ?_
      refine sv_iconst (v := 0) dX9_drawn_16 (by decide) ?_
      refine sv_istore_n (ls' := [(3, _), (2, _), (0, _), (1, _)]) dX9_drawn_17 (by decide) rfl ?_
      rw [xdrawn, if_neg (fun h => h.elim c2 (fun z => z c8))]
      have h := l_X9_drawn G (tn m) hm10 _ S L 0 0 (Nat.sub_zero _) (Nat.zero_le _) ⟨hW.2.2.1.1, hW.2.1⟩
      rw [show nI (tn m) = m from (nI_self hm0).symm] at h
      exact h
    · -- fall
      refine sv_bipush (v := (-2)) dX9_drawn_11 (by decide) ?_
      exact sv_iret rfl dX9_drawn_13 ⟨rfl, rfl, by rw [xdrawn, if_pos (by first | exact Or.inl c2 | exact Or.inr c8)], rfl, fun _ _ => by rw [xdrawn, if_pos (by first | exact Or.inl c2 | exact Or.inr c8)]; exact ceq_refl _⟩
def xkeep (S : Nat → Nat → Int32) (q : Int32) : Int32 × (Nat → Nat → Int32) := if (¬ q < 0 ∧ ¬ 2 ≤ q) then (S 13 6, up2 (cpR S (143 + 20 + 8 * tn q) 13 8) 144 (tn q) 1) else (-1, S)
def xagain (S : Nat → Nat → Int32) (q : Int32) : Int32 × (Nat → Nat → Int32) := if (¬ q < 0 ∧ ¬ 2 ≤ q) then (if S 144 (tn q) = 0 then (-3, S) else (S (143 + 20 + 8 * tn q) 6, up2 (cpR S 13 (143 + 20 + 8 * tn q) 8) 29 2 0)) else (-1, S)
set_option maxRecDepth 100000 in
set_option maxHeartbeats 4000000 in
theorem e_X9_keep (G : GT) (S : Nat → Nat → Int32) (L : Nat → Int64) (hW : WX S) (q : Int32) : sE G yX9_keep R_X9_keep cX9_keep 2 (some .int) [.ref (gB G + 0), .int q] S L (some (.int (xkeep S q).1)) (xkeep S q).2 L := by
  refine sE.of (by decide) (Nat.le_of_ble_eq_true rfl) ?_
  show sv_V G R_X9_keep RX9 "keep" cX9_keep 2 (some .int) (sPo G R_X9_keep (some (.int (xkeep S q).1)) (xkeep S q).2 L) 0 0 197 (CF G S L) 0 [(0, .ref (gB G + 0)), (1, .int q)] []
  refine sv_iload_n 1 dX9_keep_0 rfl ?_
  refine cSi1 (e_X9_isSlot G _ _ _) ⟨rfl, rfl⟩ (sv_w4 ml_RX9_308 st_X9_isSlot in_RX9 cd_X9_isSlot) nm_X9_isSlot ⟨Nat.le_of_ble_eq_true rfl, Nat.le_of_ble_eq_true rfl⟩ (Nat.le_of_ble_eq_true rfl) ⟨Nat.le_of_ble_eq_true rfl, Nat.le_of_ble_eq_true rfl⟩ dX9_keep_1 ?_
  refine sv_ifne_b (tgt := 9) dX9_keep_4 (by decide) (fun c4 => ?_) (fun c4 => ?_)
  · -- jump
    refine sv_aload_n 0 dX9_keep_9 rfl ?_
    refine sg_9_6 sh_0 fl_RX9_43 dX9_keep_10 ?_
    refine sv_iload_n 1 dX9_keep_13 rfl ?_
    refine sx_slot sh_143 _ (nI_self c4.1) (tn_lt (M := 2) (k := 2) rfl (by decide) c4.1 c4.2) dX9_keep_14 ?_
    refine sv_aload_n 0 dX9_keep_15 rfl ?_
    refine sg_9_3 sh_0 fl_RX9_29 dX9_keep_16 ?_
    refine cVv1 (e_X6_takeFrom G _ _ _ (isState_slot _ (tn_lt (M := 2) (k := 2) rfl (by decide) c4.1 c4.2)) _ isState_13 (by have := (tn_lt (M := 2) (k := 2) rfl (by decide) c4.1 c4.2); omega) hW.2.2.1.1.2.2) ⟨rfl, rfl⟩ (sv_w5 ml_RX9_251 im_X6_takeFrom sl_X6_takeFrom in_RX6 cd_X6_takeFrom) nm_X6_takeFrom ⟨Nat.le_of_ble_eq_true rfl, Nat.le_of_ble_eq_true rfl⟩ rfl (CF_6 (isState_slot _ (tn_lt (M := 2) (k := 2) rfl (by decide) c4.1 c4.2)).1) (shp_lt (isState_slot _ (tn_lt (M := 2) (k := 2) rfl (by decide) c4.1 c4.2)).1 (by simp)) (Nat.le_of_ble_eq_true rfl) ⟨Nat.le_of_ble_eq_true rfl, Nat.le_of_ble_eq_true rfl⟩ dX9_keep_19 ?_
    refine sv_aload_n 0 dX9_keep_22 rfl ?_
    refine sg_9_7 sh_0 fl_RX9_47 dX9_keep_23 ?_
    refine sv_iload_n 1 dX9_keep_26 rfl ?_
    refine sv_iconst (v := 1) dX9_keep_27 (by decide) ?_
    refine sx_zst sh_144 _ (nI_self c4.1) (tn_lt (M := 2) (k := 2) rfl (by decide) c4.1 c4.2) dX9_keep_28 ?_
    rw [show vp_nar .boolean 1 = 1 from rfl]
    refine sv_aload_n 0 dX9_keep_29 rfl ?_
    refine sg_9_3 sh_0 fl_RX9_29 dX9_keep_30 ?_
    refine sg_6_6 isState_13.1 fl_RX9_137 dX9_keep_33 ?_
    refine sv_topE (v' := S 13 6) (by rw [up2_row (by omega), cpR_row (by have := (tn_lt (M := 2) (k := 2) rfl (by decide) c4.1 c4.2); omega)]) ?_
    exact se_iret rfl ⟨rfl, rfl⟩ dX9_keep_36 (by rw [xkeep, if_pos c4]) (by rw [xkeep, if_pos c4])
  · -- fall
    refine sv_iconst (v := (-1)) dX9_keep_7 (by decide) ?_
    exact se_iret rfl ⟨rfl, rfl⟩ dX9_keep_8 (by rw [xkeep, if_neg c4]) (by rw [xkeep, if_neg c4])
set_option maxRecDepth 100000 in
set_option maxHeartbeats 4000000 in
theorem e_X9_again (G : GT) (S : Nat → Nat → Int32) (L : Nat → Int64) (hW : WX S) (q : Int32) : sE G yX9_again R_X9_again cX9_again 2 (some .int) [.ref (gB G + 0), .int q] S L (some (.int (xagain S q).1)) (xagain S q).2 L := by
  refine sE.of (by decide) (Nat.le_of_ble_eq_true rfl) ?_
  show sv_V G R_X9_again RX9 "again" cX9_again 2 (some .int) (sPo G R_X9_again (some (.int (xagain S q).1)) (xagain S q).2 L) 0 0 197 (CF G S L) 0 [(0, .ref (gB G + 0)), (1, .int q)] []
  refine sv_iload_n 1 dX9_again_0 rfl ?_
  refine cSi1 (e_X9_isSlot G _ _ _) ⟨rfl, rfl⟩ (sv_w4 ml_RX9_308 st_X9_isSlot in_RX9 cd_X9_isSlot) nm_X9_isSlot ⟨Nat.le_of_ble_eq_true rfl, Nat.le_of_ble_eq_true rfl⟩ (Nat.le_of_ble_eq_true rfl) ⟨Nat.le_of_ble_eq_true rfl, Nat.le_of_ble_eq_true rfl⟩ dX9_again_1 ?_
  refine sv_ifne_b (tgt := 9) dX9_again_4 (by decide) (fun c4 => ?_) (fun c4 => ?_)
  · -- jump
    refine sv_aload_n 0 dX9_again_9 rfl ?_
    refine sg_9_7 sh_0 fl_RX9_47 dX9_again_10 ?_
    refine sv_iload_n 1 dX9_again_13 rfl ?_
    refine sx_zld sh_144 _ (nI_self c4.1) (tn_lt (M := 2) (k := 2) rfl (by decide) c4.1 c4.2) dX9_again_14 ?_
    refine sv_if_ne (tgt := 21) dX9_again_15 (by decide) (fun c15 => ?_) (fun c15 => ?_)
    · -- jump
      refine sv_aload_n 0 dX9_again_21 rfl ?_
      refine sg_9_3 sh_0 fl_RX9_29 dX9_again_22 ?_
      refine sv_aload_n 0 dX9_again_25 rfl ?_
      refine sg_9_6 sh_0 fl_RX9_43 dX9_again_26 ?_
      refine sv_iload_n 1 dX9_again_29 rfl ?_
      refine sx_slot sh_143 _ (nI_self c4.1) (tn_lt (M := 2) (k := 2) rfl (by decide) c4.1 c4.2) dX9_again_30 ?_
      refine cVv1 (e_X6_takeFrom G _ _ _ isState_13 _ (isState_slot _ (tn_lt (M := 2) (k := 2) rfl (by decide) c4.1 c4.2)) (by have := (tn_lt (M := 2) (k := 2) rfl (by decide) c4.1 c4.2); omega) (hW.2.2.2.2.2.2.1 _ (tn_lt (M := 2) (k := 2) rfl (by decide) c4.1 c4.2)).1.2.2) ⟨rfl, rfl⟩ (sv_w5 ml_RX9_251 im_X6_takeFrom sl_X6_takeFrom in_RX6 cd_X6_takeFrom) nm_X6_takeFrom ⟨Nat.le_of_ble_eq_true rfl, Nat.le_of_ble_eq_true rfl⟩ rfl (CF_6 isState_13.1) (shp_lt isState_13.1 (by simp)) (Nat.le_of_ble_eq_true rfl) ⟨Nat.le_of_ble_eq_true rfl, Nat.le_of_ble_eq_true rfl⟩ dX9_again_31 ?_
      refine sv_aload_n 0 dX9_again_34 rfl ?_
      refine sg_9_5 sh_0 fl_RX9_39 dX9_again_35 ?_
      refine cVv0 (e_X2_clear G _ _) ⟨rfl, rfl⟩ (sv_w5 ml_RX9_87 im_X2_clear sl_X2_clear in_RX2 cd_X2_clear) nm_X2_clear ⟨Nat.le_of_ble_eq_true rfl, Nat.le_of_ble_eq_true rfl⟩ rfl (CF_2 sh_29) (shp_lt sh_29 (by simp)) (Nat.le_of_ble_eq_true rfl) ⟨Nat.le_of_ble_eq_true rfl, Nat.le_of_ble_eq_true rfl⟩ dX9_again_38 ?_
      refine sv_aload_n 0 dX9_again_41 rfl ?_
      refine sg_9_3 sh_0 fl_RX9_29 dX9_again_42 ?_
      refine sg_6_6 isState_13.1 fl_RX9_137 dX9_again_45 ?_
      refine sv_topE (v' := S (143 + 20 + 8 * tn q) 6) (by rw [up2_row (by omega)]; rfl) ?_
      exact se_iret rfl ⟨rfl, rfl⟩ dX9_again_48 (by rw [xagain, if_pos c4, if_neg c15]) (by rw [xagain, if_pos c4, if_neg c15])
    · -- fall
      refine sv_bipush (v := (-3)) dX9_again_18 (by decide) ?_
      exact se_iret rfl ⟨rfl, rfl⟩ dX9_again_20 (by rw [xagain, if_pos c4, if_pos c15]) (by rw [xagain, if_pos c4, if_pos c15])
  · -- fall
    refine sv_iconst (v := (-1)) dX9_again_7 (by decide) ?_
    exact se_iret rfl ⟨rfl, rfl⟩ dX9_again_8 (by rw [xagain, if_neg c4]) (by rw [xagain, if_neg c4])
def esS (S : Nat → Nat → Int32) (k : Nat) : Nat → Nat → Int32 := va_up S 144 (fun j => if j < k then 0 else S 144 j)
theorem esS_0 (S : Nat → Nat → Int32) : esS S 0 = S := by
  funext k j
  unfold esS va_up
  by_cases hk : k = 144
  · subst hk; simp
  · simp [hk]
theorem esS_s (S : Nat → Nat → Int32) (p : Nat) : up2 (esS S p) 144 p (vp_nar .boolean 0) = esS S (p + 1) := by
  rw [show vp_nar .boolean 0 = 0 from rfl]
  funext k j
  rw [up2_at]
  unfold esS va_up
  by_cases hk : k = 144
  · subst hk
    simp only [true_and, if_pos]
    by_cases h1 : j = p
    · rw [if_pos h1, if_pos (by omega)]
    · rw [if_neg h1]
      by_cases h2 : j < p
      · rw [if_pos h2, if_pos (by omega)]
      · rw [if_neg h2, if_neg (by omega)]
  · simp [hk]
set_option maxRecDepth 100000 in
set_option maxHeartbeats 4000000 in
theorem l_X9_emptySlots (G : GT) (S : Nat → Nat → Int32) (L : Nat → Int64)  : ∀ (m p : Nat), 2 - p = m → p ≤ 2 → sv_V G R_X9_emptySlots RX9 "emptySlots" cX9_emptySlots 2 none (sPo G R_X9_emptySlots none (esS S 2) L) 0 0 197 (CF G (esS S p) L) 2 [(1, .int (nI p)), (0, .ref (gB G + 0))] [] := by
  intro m
  induction m using Nat.strongRecOn
  rename_i m ih
  intro p hm hp
  refine sv_iload_n 0 dX9_emptySlots_2 rfl ?_
  refine sv_iconst (v := 2) dX9_emptySlots_3 (by decide) ?_
  refine sv_icmp_ge (tgt := 20) dX9_emptySlots_4 (by decide) (fun c4 => ?_) (fun c4 => ?_)
  · -- jump
    obtain rfl : p = 2 := by have := (nI_leI (a := 2) (b := p) (by omega) (by omega)).mp c4; omega
    exact se_vret rfl ⟨rfl, rfl⟩ dX9_emptySlots_20 (sEq.rf _)
  · -- fall
    have h4 : p < 2 := Nat.lt_of_not_le (fun z => c4 (nI_le (a := 2) z (by omega)))
    refine sv_aload_n 1 dX9_emptySlots_7 rfl ?_
    refine sg_9_7 sh_0 fl_RX9_47 dX9_emptySlots_8 ?_
    refine sv_iload_n 0 dX9_emptySlots_11 rfl ?_
    refine sv_iconst (v := 0) dX9_emptySlots_12 (by decide) ?_
    refine sx_zst sh_144 p rfl (by omega) dX9_emptySlots_13 ?_
    refine sv_eqS (esS_s S p) ?_
    refine sv_iinc 0 (ls' := [(1, _), (0, _)]) dX9_emptySlots_14 rfl (nI_1 _) (by decide) rfl ?_
    refine sv_goto (tgt := 2) dX9_emptySlots_17 (by decide) ?_
    exact ih (2 - (p + 1)) (by omega) (p + 1) rfl (by omega)
set_option maxRecDepth 100000 in
set_option maxHeartbeats 4000000 in
theorem e_X9_emptySlots (G : GT) (S : Nat → Nat → Int32) (L : Nat → Int64)  : sE G yX9_emptySlots R_X9_emptySlots cX9_emptySlots 2 none [.ref (gB G + 0)] S L none (esS S 2) L := by
  refine sE.of (by decide) (Nat.le_of_ble_eq_true rfl) ?_
  show sv_V G R_X9_emptySlots RX9 "emptySlots" cX9_emptySlots 2 none (sPo G R_X9_emptySlots none (esS S 2) L) 0 0 197 (CF G S L) 0 [(0, .ref (gB G + 0))] []
  refine sv_iconst (v := 0) dX9_emptySlots_0 (by decide) ?_
  refine sv_istore_n (ls' := [(1, _), (0, _)]) dX9_emptySlots_1 (by decide) rfl ?_
  have h := l_X9_emptySlots G S L _ 0 rfl (by omega)
  rw [esS_0] at h
  exact h
