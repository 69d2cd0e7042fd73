def slF (G : GT) (p : Nat) : Nat → Option Nat := fun i => if i < p then some (gB G + (163 + 8 * i)) else none
abbrev slE (G : GT) (p : Nat) : va_E := .inl (G.2.2.1.2.2, 2, .inr (.inr (.inr (.inr (slF G p)))))
theorem sl_s (G : GT) (p : Nat) : va_up (slF G p) p (some (gB G + (163 + 8 * p))) = slF G (p + 1) := by
  funext i
  unfold va_up slF
  by_cases z : i = p
  · rw [if_pos z, if_pos (by omega), z]
  · rw [if_neg z]
    by_cases y : i < p
    · rw [if_pos y, if_pos (by omega)]
    · rw [if_neg y, if_neg (by omega)]
def xq (G : GT) (fs : List Value) (p : Nat) : Nat → va_E := fun j => if j = 0 then .inr (9, fs) else if j = 143 then slE G p else CF G S0 L0 j
theorem xq_put {G : GT} {fs fs' : List Value} {p : Nat} (j : Nat) : va_up (xq G fs p) 0 (.inr (9, fs')) j = xq G fs' p j := by
  unfold va_up xq
  by_cases z : j = 0
  · rw [if_pos z, if_pos z]
  · rw [if_neg z, if_neg z, if_neg z]
theorem xq_app {G : GT} {fs : List Value} {p n len : Nat} {e : va_E} {ds : List va_E} (hds : ∀ i, i < len → iq ((ds[i]?).getD dE) (CF G S0 L0 (n + i))) (h1 : n + len ≤ 143 ∨ 143 < n) (hn : 0 < n) (j : Nat) (hj : j < n + len) : iq (hp (va_up (xq G fs p) n e) n ds j) (xq G fs p j) := by
  unfold hp
  by_cases z : j < n
  · rw [if_pos z, vaup_ne (by omega)]; exact iq_rf _
  · rw [if_neg z]
    obtain ⟨i, rfl⟩ : ∃ i, j = n + i := ⟨j - n, by omega⟩
    rw [show n + i - n = i by omega]
    have e : xq G fs p (n + i) = CF G S0 L0 (n + i) := by unfold xq; rw [if_neg (by omega), if_neg (by omega)]
    rw [e]
    exact hds i (by omega)
abbrev R_X9_init : Room := { frames := 5, cells := 178, slots := 4815, locals := 104 }
def xP (G : GT) : Option Value → Nat → (Nat → va_E) → Prop := fun r n' f' => r = none ∧ n' = 179 ∧ ∀ j, j < 179 → iq (f' j) (CF G S0 L0 j)
set_option maxRecDepth 100000 in
set_option maxHeartbeats 4000000 in
theorem i_X9L (G : GT) : ∀ (m p : Nat), 2 - p = m → p ≤ 2 → sv_V G R_X9_init RX9 "<init>" cX9_init 2 none (fun r c s n' f' => c = R_X9_init.cells ∧ s = R_X9_init.slots ∧ xP G r n' f') (162 + 8 * p) (4545 + 135 * p) (163 + 8 * p) (xq G [.ref (gB G + 1), .ref (gB G + 3), .ref (gB G + 8), .ref (gB G + 13), .ref (gB G + 21), .ref (gB G + 29), .ref (gB G + 143), .ref (gB G + 144), .ref (gB G + 145), .ref (gB G + 148), .ref (gB G + 153), .long 0] p) 120 [(1, .int (nI p)), (0, .ref (gB G + 0))] [] := by
  intro m
  induction m using Nat.strongRecOn
  rename_i m ih
  intro p hm hple
  refine sv_iload_n 0 dX9_init_120 rfl ?_
  refine sv_iconst (v := 2) dX9_init_121 (by decide) ?_
  refine sv_icmp_ge (tgt := 144) dX9_init_122 (by decide) (fun c5 => ?_) (fun c5 => ?_)
  · obtain rfl : p = 2 := by have := (nI_leI (a := 2) (b := p) (by omega) (by omega)).mp c5; omega
    refine sv_vret rfl dX9_init_144 ⟨rfl, rfl, rfl, rfl, fun j hj => ?_⟩
    unfold xq
    by_cases z : j = 0
    · rw [if_pos z, z]; exact iq_eq (CF_z (c := shp 0) rfl (by decide +kernel) (by omega))
    · rw [if_neg z]
      by_cases y : j = 143
      · rw [if_pos y, y]
        have e : CF G S0 L0 143 = .inl (G.2.2.1.2.2, 2, .inr (.inr (.inr (.inr (fun i => some (gB G + (143 + 20 + 8 * i))))))) := CF_14 (q := 143) (by decide +kernel)
        rw [e]
        exact iq_ref (fun i hi => by unfold slF; rw [if_pos hi])
      · rw [if_neg y]; exact iq_rf _
  · have h5 : p < 2 := Nat.lt_of_not_le (fun z => c5 (nI_le (a := 2) z (by omega)))
    have g0 : xq G [.ref (gB G + 1), .ref (gB G + 3), .ref (gB G + 8), .ref (gB G + 13), .ref (gB G + 21), .ref (gB G + 29), .ref (gB G + 143), .ref (gB G + 144), .ref (gB G + 145), .ref (gB G + 148), .ref (gB G + 153), .long 0] p 0 = .inr (9, [.ref (gB G + 1), .ref (gB G + 3), .ref (gB G + 8), .ref (gB G + 13), .ref (gB G + 21), .ref (gB G + 29), .ref (gB G + 143), .ref (gB G + 144), .ref (gB G + 145), .ref (gB G + 148), .ref (gB G + 153), .long 0]) := rfl
    have g143 : xq G [.ref (gB G + 1), .ref (gB G + 3), .ref (gB G + 8), .ref (gB G + 13), .ref (gB G + 21), .ref (gB G + 29), .ref (gB G + 143), .ref (gB G + 144), .ref (gB G + 145), .ref (gB G + 148), .ref (gB G + 153), .long 0] p 143 = slE G p := rfl
    refine sv_aload_n 1 dX9_init_125 rfl ?_
    refine sv_get (ci := 9) (k := 0) rfl uw_X9 6 (by decide) fl_RX9_43 (by omega) g0 rfl dX9_init_126 ?_
    refine sv_iload_n 0 dX9_init_129 rfl ?_
    refine sv_new (ci := 6) (fs := [.null, .null, .null, .int 0, .int 0, .int 0, .int 0]) rfl uw_X6 tyX6 tyX6_ok cl_RX9_26 ib_RX6 in_RX6 (fun j hj => by rcases (show j = 0 ∨ j = 1 ∨ j = 2 ∨ j = 3 ∨ j = 4 ∨ j = 5 ∨ j = 6 by omega) with rfl | rfl | rfl | rfl | rfl | rfl | rfl <;> rfl) (by show 162 + 8 * p + 1 ≤ 178; omega) (by show 4545 + 135 * p + 7 ≤ 4815; omega) dX9_init_130 ?_
    refine sv_dup dX9_init_133 rfl ?_
    refine sv_callIN (As := []) (rest := [.ref (gB G + (163 + 8 * p)), .int (nI p), .ref (gB G + 143)]) (i_X6 G (163 + 8 * p) _ (vaup_at _ _ _)) ml_RX9_28 (w3 im_X6_init in_RX6 cd_X6_init) rfl nm_X6_init ⟨Nat.le_of_ble_eq_true rfl, Nat.le_of_ble_eq_true rfl⟩ rfl (Nat.le_of_ble_eq_true rfl) dX9_init_134 ⟨by show 162 + 8 * p + 1 + 7 ≤ 178; omega, by show 4545 + 135 * p + 7 + 128 ≤ 4815; omega⟩ ?_
    intro r n' f' hh
    obtain ⟨rfl, rfl, hf'⟩ := hh
    have e8 : (dsX6 G (163 + 8 * p)).length = 8 := rfl
    rw [e8] at hf' ⊢
    refine sv_iq (g := xq G [.ref (gB G + 1), .ref (gB G + 3), .ref (gB G + 8), .ref (gB G + 13), .ref (gB G + 21), .ref (gB G + 29), .ref (gB G + 143), .ref (gB G + 144), .ref (gB G + 145), .ref (gB G + 148), .ref (gB G + 153), .long 0] p) (fun j hj => by rw [hf' j hj]; exact xq_app (st_CF (st_slot p h5) (by omega)) (by omega) (by omega) j hj) ?_
    have g1 : xq G [.ref (gB G + 1), .ref (gB G + 3), .ref (gB G + 8), .ref (gB G + 13), .ref (gB G + 21), .ref (gB G + 29), .ref (gB G + 143), .ref (gB G + 144), .ref (gB G + 145), .ref (gB G + 148), .ref (gB G + 153), .long 0] p (163 + 8 * p) = CF G S0 L0 (163 + 8 * p) := by unfold xq; rw [if_neg (by omega), if_neg (by omega)]
    refine sv_aast (k := 143) (k2 := 163 + 8 * p) (by omega) g143 (by omega) (g1.trans (CF_6 (st_slot p h5).1)) (vp_in_nI h5 (by decide)) dX9_init_137 ?_
    rw [nI_clamp (by omega)]
    refine sv_heap (g := xq G [.ref (gB G + 1), .ref (gB G + 3), .ref (gB G + 8), .ref (gB G + 13), .ref (gB G + 21), .ref (gB G + 29), .ref (gB G + 143), .ref (gB G + 144), .ref (gB G + 145), .ref (gB G + 148), .ref (gB G + 153), .long 0] (p + 1)) (fun j hj => ?_) ?_
    · unfold va_up xq
      by_cases z : j = 143
      · rw [if_pos z, z, if_neg (by decide), if_pos rfl]; unfold slE; rw [← sl_s]; rfl
      · rw [if_neg z]
        by_cases y : j = 0
        · rw [if_pos y, if_pos y]
        · rw [if_neg y, if_neg y, if_neg z, if_neg z]
    refine sv_iinc 0 (ls' := [(1, _), (0, _)]) dX9_init_138 rfl (nI_1 _) (by decide) rfl ?_
    refine sv_goto (tgt := 120) dX9_init_141 (by decide) ?_
    have := ih (2 - (p + 1)) (by omega) (p + 1) rfl (by omega)
    rw [show 163 + 8 * (p + 1) = 163 + 8 * p + 8 by omega, show 162 + 8 * (p + 1) = 162 + 8 * p + 1 + 7 by omega, show 4545 + 135 * (p + 1) = 4545 + 135 * p + 7 + 128 by omega] at this
    exact this
set_option maxRecDepth 100000 in
set_option maxHeartbeats 4000000 in
theorem i_X9 (G : GT) (g : Nat → va_E) (hg : g 0 = .inr (9, [.null, .null, .null, .null, .null, .null, .null, .null, .null, .null, .null, .long 0])) : sv_Ct G yX9_init R_X9_init cX9_init 2 none [.ref (gB G + 0)] 1 g (xP G) := by
  refine sv_Ct.of (by decide) (Nat.le_of_ble_eq_true rfl) ?_
  show sv_V G R_X9_init RX9 "<init>" cX9_init 2 none _ 0 0 1 g 0 [(0, .ref (gB G + 0))] []
  refine sv_heap (g := xq G [.null, .null, .null, .null, .null, .null, .null, .null, .null, .null, .null, .long 0] 0) (fun j hj => by rw [show j = 0 by omega, hg]; rfl) ?_
  refine sv_aload_n 0 dX9_init_0 rfl ?_
  refine sv_objInit ml_RX9_1 im_objInit cd_objInit (Nat.le_of_ble_eq_true rfl) (Nat.le_of_ble_eq_true rfl) dX9_init_1 ?_
  refine sv_aload_n 0 dX9_init_4 rfl ?_
  refine sv_new (ci := 8) (n := 1) (fs := [.null, .int 0]) rfl uw_X8 tyX8 tyX8_ok cl_RX9_7 ib_RX8 in_RX8 (fun j hj => by rcases (show j = 0 ∨ j = 1 by omega) with rfl | rfl <;> rfl) (Nat.le_of_ble_eq_true rfl) (Nat.le_of_ble_eq_true rfl) dX9_init_5 ?_
  refine sv_dup dX9_init_8 rfl ?_
  refine sv_callIN (As := []) (rest := [.ref (gB G + 1), .ref (gB G + 0)]) (i_X8 G 1 _ (vaup_at _ _ _)) ml_RX9_9 (w3 im_X8_init in_RX8 cd_X8_init) rfl nm_X8_init ⟨Nat.le_of_ble_eq_true rfl, Nat.le_of_ble_eq_true rfl⟩ rfl (Nat.le_of_ble_eq_true rfl) dX9_init_9 ⟨Nat.le_of_ble_eq_true rfl, Nat.le_of_ble_eq_true rfl⟩ ?_
  intro r n' f' hh
  obtain ⟨rfl, rfl, hf'⟩ := hh
  have e8 : (dsX8 G 1).length = 2 := rfl
  rw [e8] at hf' ⊢
  refine sv_iq (g := xq G [.null, .null, .null, .null, .null, .null, .null, .null, .null, .null, .null, .long 0] 0) (fun j hj => by rw [hf' j hj]; exact xq_app ce_1 (by omega) (by omega) j hj) ?_
  clear hf' e8
  refine sv_putF (ci := 9) (k := 0) rfl uw_X9 tyX9 tyX9_ok nmX9 0 (by decide) fl_RX9_10 rfl rfl rfl rfl rfl (Nat.le_of_ble_eq_true rfl) (show xq G [.null, .null, .null, .null, .null, .null, .null, .null, .null, .null, .null, .long 0] 0 0 = .inr (9, [.null, .null, .null, .null, .null, .null, .null, .null, .null, .null, .null, .long 0]) from rfl) (Nat.le_of_ble_eq_true rfl) dX9_init_12 ?_
  refine sv_heap (g := xq G [.ref (gB G + 1), .null, .null, .null, .null, .null, .null, .null, .null, .null, .null, .long 0] 0) (fun j _ => xq_put j) ?_
  refine sv_aload_n 0 dX9_init_15 rfl ?_
  refine sv_new (ci := 4) (n := 3) (fs := [.null, .null, .null, .null, .int 0]) rfl uw_X4 tyX4 tyX4_ok cl_RX9_16 ib_RX4 in_RX4 (fun j hj => by rcases (show j = 0 ∨ j = 1 ∨ j = 2 ∨ j = 3 ∨ j = 4 by omega) with rfl | rfl | rfl | rfl | rfl <;> rfl) (Nat.le_of_ble_eq_true rfl) (Nat.le_of_ble_eq_true rfl) dX9_init_16 ?_
  refine sv_dup dX9_init_19 rfl ?_
  refine sv_callIN (As := []) (rest := [.ref (gB G + 3), .ref (gB G + 0)]) (i_X4 G 3 _ (vaup_at _ _ _)) ml_RX9_18 (w3 im_X4_init in_RX4 cd_X4_init) rfl nm_X4_init ⟨Nat.le_of_ble_eq_true rfl, Nat.le_of_ble_eq_true rfl⟩ rfl (Nat.le_of_ble_eq_true rfl) dX9_init_20 ⟨Nat.le_of_ble_eq_true rfl, Nat.le_of_ble_eq_true rfl⟩ ?_
  intro r n' f' hh
  obtain ⟨rfl, rfl, hf'⟩ := hh
  have e8 : (dsX4 G 3).length = 5 := rfl
  rw [e8] at hf' ⊢
  refine sv_iq (g := xq G [.ref (gB G + 1), .null, .null, .null, .null, .null, .null, .null, .null, .null, .null, .long 0] 0) (fun j hj => by rw [hf' j hj]; exact xq_app ce_3 (by omega) (by omega) j hj) ?_
  clear hf' e8
  refine sv_putF (ci := 9) (k := 0) rfl uw_X9 tyX9 tyX9_ok nmX9 1 (by decide) fl_RX9_19 rfl rfl rfl rfl rfl (Nat.le_of_ble_eq_true rfl) (show xq G [.ref (gB G + 1), .null, .null, .null, .null, .null, .null, .null, .null, .null, .null, .long 0] 0 0 = .inr (9, [.ref (gB G + 1), .null, .null, .null, .null, .null, .null, .null, .null, .null, .null, .long 0]) from rfl) (Nat.le_of_ble_eq_true rfl) dX9_init_23 ?_
  refine sv_heap (g := xq G [.ref (gB G + 1), .ref (gB G + 3), .null, .null, .null, .null, .null, .null, .null, .null, .null, .long 0] 0) (fun j _ => xq_put j) ?_
  refine sv_aload_n 0 dX9_init_26 rfl ?_
  refine sv_new (ci := 4) (n := 8) (fs := [.null, .null, .null, .null, .int 0]) rfl uw_X4 tyX4 tyX4_ok cl_RX9_16 ib_RX4 in_RX4 (fun j hj => by rcases (show j = 0 ∨ j = 1 ∨ j = 2 ∨ j = 3 ∨ j = 4 by omega) with rfl | rfl | rfl | rfl | rfl <;> rfl) (Nat.le_of_ble_eq_true rfl) (Nat.le_of_ble_eq_true rfl) dX9_init_27 ?_
  refine sv_dup dX9_init_30 rfl ?_
  refine sv_callIN (As := []) (rest := [.ref (gB G + 8), .ref (gB G + 0)]) (i_X4 G 8 _ (vaup_at _ _ _)) ml_RX9_18 (w3 im_X4_init in_RX4 cd_X4_init) rfl nm_X4_init ⟨Nat.le_of_ble_eq_true rfl, Nat.le_of_ble_eq_true rfl⟩ rfl (Nat.le_of_ble_eq_true rfl) dX9_init_31 ⟨Nat.le_of_ble_eq_true rfl, Nat.le_of_ble_eq_true rfl⟩ ?_
  intro r n' f' hh
  obtain ⟨rfl, rfl, hf'⟩ := hh
  have e8 : (dsX4 G 8).length = 5 := rfl
  rw [e8] at hf' ⊢
  refine sv_iq (g := xq G [.ref (gB G + 1), .ref (gB G + 3), .null, .null, .null, .null, .null, .null, .null, .null, .null, .long 0] 0) (fun j hj => by rw [hf' j hj]; exact xq_app ce_8 (by omega) (by omega) j hj) ?_
  clear hf' e8
  refine sv_putF (ci := 9) (k := 0) rfl uw_X9 tyX9 tyX9_ok nmX9 2 (by decide) fl_RX9_23 rfl rfl rfl rfl rfl (Nat.le_of_ble_eq_true rfl) (show xq G [.ref (gB G + 1), .ref (gB G + 3), .null, .null, .null, .null, .null, .null, .null, .null, .null, .long 0] 0 0 = .inr (9, [.ref (gB G + 1), .ref (gB G + 3), .null, .null, .null, .null, .null, .null, .null, .null, .null, .long 0]) from rfl) (Nat.le_of_ble_eq_true rfl) dX9_init_34 ?_
  refine sv_heap (g := xq G [.ref (gB G + 1), .ref (gB G + 3), .ref (gB G + 8), .null, .null, .null, .null, .null, .null, .null, .null, .long 0] 0) (fun j _ => xq_put j) ?_
  refine sv_aload_n 0 dX9_init_37 rfl ?_
  refine sv_new (ci := 6) (n := 13) (fs := [.null, .null, .null, .int 0, .int 0, .int 0, .int 0]) rfl uw_X6 tyX6 tyX6_ok cl_RX9_26 ib_RX6 in_RX6 (fun j hj => by rcases (show j = 0 ∨ j = 1 ∨ j = 2 ∨ j = 3 ∨ j = 4 ∨ j = 5 ∨ j = 6 by omega) with rfl | rfl | rfl | rfl | rfl | rfl | rfl <;> rfl) (Nat.le_of_ble_eq_true rfl) (Nat.le_of_ble_eq_true rfl) dX9_init_38 ?_
  refine sv_dup dX9_init_41 rfl ?_
  refine sv_callIN (As := []) (rest := [.ref (gB G + 13), .ref (gB G + 0)]) (i_X6 G 13 _ (vaup_at _ _ _)) ml_RX9_28 (w3 im_X6_init in_RX6 cd_X6_init) rfl nm_X6_init ⟨Nat.le_of_ble_eq_true rfl, Nat.le_of_ble_eq_true rfl⟩ rfl (Nat.le_of_ble_eq_true rfl) dX9_init_42 ⟨Nat.le_of_ble_eq_true rfl, Nat.le_of_ble_eq_true rfl⟩ ?_
  intro r n' f' hh
  obtain ⟨rfl, rfl, hf'⟩ := hh
  have e8 : (dsX6 G 13).length = 8 := rfl
  rw [e8] at hf' ⊢
  refine sv_iq (g := xq G [.ref (gB G + 1), .ref (gB G + 3), .ref (gB G + 8), .null, .null, .null, .null, .null, .null, .null, .null, .long 0] 0) (fun j hj => by rw [hf' j hj]; exact xq_app (st_CF isState_13 (by omega)) (by omega) (by omega) j hj) ?_
  clear hf' e8
  refine sv_putF (ci := 9) (k := 0) rfl uw_X9 tyX9 tyX9_ok nmX9 3 (by decide) fl_RX9_29 rfl rfl rfl rfl rfl (Nat.le_of_ble_eq_true rfl) (show xq G [.ref (gB G + 1), .ref (gB G + 3), .ref (gB G + 8), .null, .null, .null, .null, .null, .null, .null, .null, .long 0] 0 0 = .inr (9, [.ref (gB G + 1), .ref (gB G + 3), .ref (gB G + 8), .null, .null, .null, .null, .null, .null, .null, .null, .long 0]) from rfl) (Nat.le_of_ble_eq_true rfl) dX9_init_45 ?_
  refine sv_heap (g := xq G [.ref (gB G + 1), .ref (gB G + 3), .ref (gB G + 8), .ref (gB G + 13), .null, .null, .null, .null, .null, .null, .null, .long 0] 0) (fun j _ => xq_put j) ?_
  refine sv_aload_n 0 dX9_init_48 rfl ?_
  refine sv_new (ci := 6) (n := 21) (fs := [.null, .null, .null, .int 0, .int 0, .int 0, .int 0]) rfl uw_X6 tyX6 tyX6_ok cl_RX9_26 ib_RX6 in_RX6 (fun j hj => by rcases (show j = 0 ∨ j = 1 ∨ j = 2 ∨ j = 3 ∨ j = 4 ∨ j = 5 ∨ j = 6 by omega) with rfl | rfl | rfl | rfl | rfl | rfl | rfl <;> rfl) (Nat.le_of_ble_eq_true rfl) (Nat.le_of_ble_eq_true rfl) dX9_init_49 ?_
  refine sv_dup dX9_init_52 rfl ?_
  refine sv_callIN (As := []) (rest := [.ref (gB G + 21), .ref (gB G + 0)]) (i_X6 G 21 _ (vaup_at _ _ _)) ml_RX9_28 (w3 im_X6_init in_RX6 cd_X6_init) rfl nm_X6_init ⟨Nat.le_of_ble_eq_true rfl, Nat.le_of_ble_eq_true rfl⟩ rfl (Nat.le_of_ble_eq_true rfl) dX9_init_53 ⟨Nat.le_of_ble_eq_true rfl, Nat.le_of_ble_eq_true rfl⟩ ?_
  intro r n' f' hh
  obtain ⟨rfl, rfl, hf'⟩ := hh
  have e8 : (dsX6 G 21).length = 8 := rfl
  rw [e8] at hf' ⊢
  refine sv_iq (g := xq G [.ref (gB G + 1), .ref (gB G + 3), .ref (gB G + 8), .ref (gB G + 13), .null, .null, .null, .null, .null, .null, .null, .long 0] 0) (fun j hj => by rw [hf' j hj]; exact xq_app (st_CF isState_21 (by omega)) (by omega) (by omega) j hj) ?_
  clear hf' e8
  refine sv_putF (ci := 9) (k := 0) rfl uw_X9 tyX9 tyX9_ok nmX9 4 (by decide) fl_RX9_33 rfl rfl rfl rfl rfl (Nat.le_of_ble_eq_true rfl) (show xq G [.ref (gB G + 1), .ref (gB G + 3), .ref (gB G + 8), .ref (gB G + 13), .null, .null, .null, .null, .null, .null, .null, .long 0] 0 0 = .inr (9, [.ref (gB G + 1), .ref (gB G + 3), .ref (gB G + 8), .ref (gB G + 13), .null, .null, .null, .null, .null, .null, .null, .long 0]) from rfl) (Nat.le_of_ble_eq_true rfl) dX9_init_56 ?_
  refine sv_heap (g := xq G [.ref (gB G + 1), .ref (gB G + 3), .ref (gB G + 8), .ref (gB G + 13), .ref (gB G + 21), .null, .null, .null, .null, .null, .null, .long 0] 0) (fun j _ => xq_put j) ?_
  refine sv_aload_n 0 dX9_init_59 rfl ?_
  refine sv_new (ci := 2) (n := 29) (fs := [.null, .int 0, .int 0]) rfl uw_X2 tyX2 tyX2_ok cl_RX9_36 ib_RX2 in_RX2 (fun j hj => by rcases (show j = 0 ∨ j = 1 ∨ j = 2 by omega) with rfl | rfl | rfl <;> rfl) (Nat.le_of_ble_eq_true rfl) (Nat.le_of_ble_eq_true rfl) dX9_init_60 ?_
  refine sv_dup dX9_init_63 rfl ?_
  refine sv_callI (As := []) (rest := [.ref (gB G + 29), .ref (gB G + 0)]) (i_X2 G _ (vaup_at _ _ _)) (w4 ml_RX9_38 im_X2_init in_RX2 cd_X2_init) rfl nm_X2_init ⟨Nat.le_of_ble_eq_true rfl, Nat.le_of_ble_eq_true rfl⟩ rfl (Nat.le_of_ble_eq_true rfl) dX9_init_64 ⟨Nat.le_of_ble_eq_true rfl, Nat.le_of_ble_eq_true rfl⟩ ?_
  intro r n' f' hh
  obtain ⟨rfl, rfl, hf1, hf2⟩ := hh
  refine sv_iq (g := xq G [.ref (gB G + 1), .ref (gB G + 3), .ref (gB G + 8), .ref (gB G + 13), .ref (gB G + 21), .null, .null, .null, .null, .null, .null, .long 0] 0) (fun j hj => ?_) ?_
  · by_cases z : j < 29
    · rw [hf1 j z, vaup_ne (by omega)]; exact iq_rf _
    · have e : xq G [.ref (gB G + 1), .ref (gB G + 3), .ref (gB G + 8), .ref (gB G + 13), .ref (gB G + 21), .null, .null, .null, .null, .null, .null, .long 0] 0 j = CF G S0 L0 j := by unfold xq; rw [if_neg (by omega), if_neg (by omega)]
      rw [e]; exact hf2 j (by omega) hj
  refine sv_putF (ci := 9) (k := 0) rfl uw_X9 tyX9 tyX9_ok nmX9 5 (by decide) fl_RX9_39 rfl rfl rfl rfl rfl (Nat.le_of_ble_eq_true rfl) (show xq G [.ref (gB G + 1), .ref (gB G + 3), .ref (gB G + 8), .ref (gB G + 13), .ref (gB G + 21), .null, .null, .null, .null, .null, .null, .long 0] 0 0 = .inr (9, [.ref (gB G + 1), .ref (gB G + 3), .ref (gB G + 8), .ref (gB G + 13), .ref (gB G + 21), .null, .null, .null, .null, .null, .null, .long 0]) from rfl) (Nat.le_of_ble_eq_true rfl) dX9_init_67 ?_
  refine sv_heap (g := xq G [.ref (gB G + 1), .ref (gB G + 3), .ref (gB G + 8), .ref (gB G + 13), .ref (gB G + 21), .ref (gB G + 29), .null, .null, .null, .null, .null, .long 0] 0) (fun j _ => xq_put j) ?_
  refine sv_aload_n 0 dX9_init_70 rfl ?_
  refine sv_iconst (v := 2) dX9_init_71 (by decide) ?_
  refine sv_newR (n := 143) (len := 2) cl_RX9_26 (by decide) rfl (Nat.le_of_ble_eq_true rfl) (Nat.le_of_ble_eq_true rfl) (Nat.le_of_ble_eq_true rfl) dX9_init_72 ?_
  refine sv_heap (g := xq G [.ref (gB G + 1), .ref (gB G + 3), .ref (gB G + 8), .ref (gB G + 13), .ref (gB G + 21), .ref (gB G + 29), .null, .null, .null, .null, .null, .long 0] 0) (fun j hj => ?_) ?_
  · by_cases z : j = 143
    · rw [z, vaup_at]; rfl
    · rw [vaup_ne z]
  refine sv_putF (ci := 9) (k := 0) rfl uw_X9 tyX9 tyX9_ok nmX9 6 (by decide) fl_RX9_43 rfl rfl rfl rfl rfl (Nat.le_of_ble_eq_true rfl) (show xq G [.ref (gB G + 1), .ref (gB G + 3), .ref (gB G + 8), .ref (gB G + 13), .ref (gB G + 21), .ref (gB G + 29), .null, .null, .null, .null, .null, .long 0] 0 0 = .inr (9, [.ref (gB G + 1), .ref (gB G + 3), .ref (gB G + 8), .ref (gB G + 13), .ref (gB G + 21), .ref (gB G + 29), .null, .null, .null, .null, .null, .long 0]) from rfl) (Nat.le_of_ble_eq_true rfl) dX9_init_75 ?_
  refine sv_heap (g := xq G [.ref (gB G + 1), .ref (gB G + 3), .ref (gB G + 8), .ref (gB G + 13), .ref (gB G + 21), .ref (gB G + 29), .ref (gB G + 143), .null, .null, .null, .null, .long 0] 0) (fun j _ => xq_put j) ?_
  refine sv_aload_n 0 dX9_init_78 rfl ?_
  refine sv_iconst (v := 2) dX9_init_79 (by decide) ?_
  refine sv_newZ (n := 144) (len := 2) ac_boolean (by decide) rfl (Nat.le_of_ble_eq_true rfl) (Nat.le_of_ble_eq_true rfl) (Nat.le_of_ble_eq_true rfl) dX9_init_80 ?_
  refine sv_heap (g := xq G [.ref (gB G + 1), .ref (gB G + 3), .ref (gB G + 8), .ref (gB G + 13), .ref (gB G + 21), .ref (gB G + 29), .ref (gB G + 143), .null, .null, .null, .null, .long 0] 0) (fun j hj => ?_) ?_
  · by_cases z : j = 144
    · rw [z, vaup_at]; exact CF_z (c := shp 144) rfl (by decide +kernel) (by omega)
    · rw [vaup_ne z]
  refine sv_putF (ci := 9) (k := 0) rfl uw_X9 tyX9 tyX9_ok nmX9 7 (by decide) fl_RX9_47 rfl rfl rfl rfl rfl (Nat.le_of_ble_eq_true rfl) (show xq G [.ref (gB G + 1), .ref (gB G + 3), .ref (gB G + 8), .ref (gB G + 13), .ref (gB G + 21), .ref (gB G + 29), .ref (gB G + 143), .null, .null, .null, .null, .long 0] 0 0 = .inr (9, [.ref (gB G + 1), .ref (gB G + 3), .ref (gB G + 8), .ref (gB G + 13), .ref (gB G + 21), .ref (gB G + 29), .ref (gB G + 143), .null, .null, .null, .null, .long 0]) from rfl) (Nat.le_of_ble_eq_true rfl) dX9_init_82 ?_
  refine sv_heap (g := xq G [.ref (gB G + 1), .ref (gB G + 3), .ref (gB G + 8), .ref (gB G + 13), .ref (gB G + 21), .ref (gB G + 29), .ref (gB G + 143), .ref (gB G + 144), .null, .null, .null, .long 0] 0) (fun j _ => xq_put j) ?_
  refine sv_aload_n 0 dX9_init_85 rfl ?_
  refine sv_new (ci := 5) (n := 145) (fs := [.null, .null, .int 0]) rfl uw_X5 tyX5 tyX5_ok cl_RX9_51 ib_RX5 in_RX5 (fun j hj => by rcases (show j = 0 ∨ j = 1 ∨ j = 2 by omega) with rfl | rfl | rfl <;> rfl) (Nat.le_of_ble_eq_true rfl) (Nat.le_of_ble_eq_true rfl) dX9_init_86 ?_
  refine sv_dup dX9_init_89 rfl ?_
  refine sv_callIN (As := []) (rest := [.ref (gB G + 145), .ref (gB G + 0)]) (i_X5 G 145 _ (vaup_at _ _ _)) ml_RX9_53 (w3 im_X5_init in_RX5 cd_X5_init) rfl nm_X5_init ⟨Nat.le_of_ble_eq_true rfl, Nat.le_of_ble_eq_true rfl⟩ rfl (Nat.le_of_ble_eq_true rfl) dX9_init_90 ⟨Nat.le_of_ble_eq_true rfl, Nat.le_of_ble_eq_true rfl⟩ ?_
  intro r n' f' hh
  obtain ⟨rfl, rfl, hf'⟩ := hh
  have e8 : (dsX5 G 145).length = 3 := rfl
  rw [e8] at hf' ⊢
  refine sv_iq (g := xq G [.ref (gB G + 1), .ref (gB G + 3), .ref (gB G + 8), .ref (gB G + 13), .ref (gB G + 21), .ref (gB G + 29), .ref (gB G + 143), .ref (gB G + 144), .null, .null, .null, .long 0] 0) (fun j hj => by rw [hf' j hj]; exact xq_app ce_145 (by omega) (by omega) j hj) ?_
  clear hf' e8
  refine sv_putF (ci := 9) (k := 0) rfl uw_X9 tyX9 tyX9_ok nmX9 8 (by decide) fl_RX9_54 rfl rfl rfl rfl rfl (Nat.le_of_ble_eq_true rfl) (show xq G [.ref (gB G + 1), .ref (gB G + 3), .ref (gB G + 8), .ref (gB G + 13), .ref (gB G + 21), .ref (gB G + 29), .ref (gB G + 143), .ref (gB G + 144), .null, .null, .null, .long 0] 0 0 = .inr (9, [.ref (gB G + 1), .ref (gB G + 3), .ref (gB G + 8), .ref (gB G + 13), .ref (gB G + 21), .ref (gB G + 29), .ref (gB G + 143), .ref (gB G + 144), .null, .null, .null, .long 0]) from rfl) (Nat.le_of_ble_eq_true rfl) dX9_init_93 ?_
  refine sv_heap (g := xq G [.ref (gB G + 1), .ref (gB G + 3), .ref (gB G + 8), .ref (gB G + 13), .ref (gB G + 21), .ref (gB G + 29), .ref (gB G + 143), .ref (gB G + 144), .ref (gB G + 145), .null, .null, .long 0] 0) (fun j _ => xq_put j) ?_
  refine sv_aload_n 0 dX9_init_96 rfl ?_
  refine sv_new (ci := 1) (n := 148) (fs := [.null, .int 0, .int 0]) rfl uw_X1 tyX1 tyX1_ok cl_RX9_58 ib_RX1 in_RX1 (fun j hj => by rcases (show j = 0 ∨ j = 1 ∨ j = 2 by omega) with rfl | rfl | rfl <;> rfl) (Nat.le_of_ble_eq_true rfl) (Nat.le_of_ble_eq_true rfl) dX9_init_97 ?_
  refine sv_dup dX9_init_100 rfl ?_
  refine sv_callIN (As := []) (rest := [.ref (gB G + 148), .ref (gB G + 0)]) (i_X1 G 148 _ (vaup_at _ _ _)) ml_RX9_60 (w3 im_X1_init in_RX1 cd_X1_init) rfl nm_X1_init ⟨Nat.le_of_ble_eq_true rfl, Nat.le_of_ble_eq_true rfl⟩ rfl (Nat.le_of_ble_eq_true rfl) dX9_init_101 ⟨Nat.le_of_ble_eq_true rfl, Nat.le_of_ble_eq_true rfl⟩ ?_
  intro r n' f' hh
  obtain ⟨rfl, rfl, hf'⟩ := hh
  have e8 : (dsX1 G 148).length = 5 := rfl
  rw [e8] at hf' ⊢
  refine sv_iq (g := xq G [.ref (gB G + 1), .ref (gB G + 3), .ref (gB G + 8), .ref (gB G + 13), .ref (gB G + 21), .ref (gB G + 29), .ref (gB G + 143), .ref (gB G + 144), .ref (gB G + 145), .null, .null, .long 0] 0) (fun j hj => by rw [hf' j hj]; exact xq_app ce_148 (by omega) (by omega) j hj) ?_
  clear hf' e8
  refine sv_putF (ci := 9) (k := 0) rfl uw_X9 tyX9 tyX9_ok nmX9 9 (by decide) fl_RX9_61 rfl rfl rfl rfl rfl (Nat.le_of_ble_eq_true rfl) (show xq G [.ref (gB G + 1), .ref (gB G + 3), .ref (gB G + 8), .ref (gB G + 13), .ref (gB G + 21), .ref (gB G + 29), .ref (gB G + 143), .ref (gB G + 144), .ref (gB G + 145), .null, .null, .long 0] 0 0 = .inr (9, [.ref (gB G + 1), .ref (gB G + 3), .ref (gB G + 8), .ref (gB G + 13), .ref (gB G + 21), .ref (gB G + 29), .ref (gB G + 143), .ref (gB G + 144), .ref (gB G + 145), .null, .null, .long 0]) from rfl) (Nat.le_of_ble_eq_true rfl) dX9_init_104 ?_
  refine sv_heap (g := xq G [.ref (gB G + 1), .ref (gB G + 3), .ref (gB G + 8), .ref (gB G + 13), .ref (gB G + 21), .ref (gB G + 29), .ref (gB G + 143), .ref (gB G + 144), .ref (gB G + 145), .ref (gB G + 148), .null, .long 0] 0) (fun j _ => xq_put j) ?_
  refine sv_aload_n 0 dX9_init_107 rfl ?_
  refine sv_new (ci := 7) (n := 153) (fs := [.null, .null, .null, .null, .null, .null, .int 0, .int 0]) rfl uw_X7 tyX7 tyX7_ok cl_RX9_65 ib_RX7 in_RX7 (fun j hj => by rcases (show j = 0 ∨ j = 1 ∨ j = 2 ∨ j = 3 ∨ j = 4 ∨ j = 5 ∨ j = 6 ∨ j = 7 by omega) with rfl | rfl | rfl | rfl | rfl | rfl | rfl | rfl <;> rfl) (Nat.le_of_ble_eq_true rfl) (Nat.le_of_ble_eq_true rfl) dX9_init_108 ?_
  refine sv_dup dX9_init_111 rfl ?_
  refine sv_callIN (As := []) (rest := [.ref (gB G + 153), .ref (gB G + 0)]) (i_X7 G 153 _ (vaup_at _ _ _)) ml_RX9_67 (w3 im_X7_init in_RX7 cd_X7_init) rfl nm_X7_init ⟨Nat.le_of_ble_eq_true rfl, Nat.le_of_ble_eq_true rfl⟩ rfl (Nat.le_of_ble_eq_true rfl) dX9_init_112 ⟨Nat.le_of_ble_eq_true rfl, Nat.le_of_ble_eq_true rfl⟩ ?_
  intro r n' f' hh
  obtain ⟨rfl, rfl, hf'⟩ := hh
  have e8 : (dsX7 G 153).length = 10 := rfl
  rw [e8] at hf' ⊢
  refine sv_iq (g := xq G [.ref (gB G + 1), .ref (gB G + 3), .ref (gB G + 8), .ref (gB G + 13), .ref (gB G + 21), .ref (gB G + 29), .ref (gB G + 143), .ref (gB G + 144), .ref (gB G + 145), .ref (gB G + 148), .null, .long 0] 0) (fun j hj => by rw [hf' j hj]; exact xq_app ce_153 (by omega) (by omega) j hj) ?_
  clear hf' e8
  refine sv_putF (ci := 9) (k := 0) rfl uw_X9 tyX9 tyX9_ok nmX9 10 (by decide) fl_RX9_68 rfl rfl rfl rfl rfl (Nat.le_of_ble_eq_true rfl) (show xq G [.ref (gB G + 1), .ref (gB G + 3), .ref (gB G + 8), .ref (gB G + 13), .ref (gB G + 21), .ref (gB G + 29), .ref (gB G + 143), .ref (gB G + 144), .ref (gB G + 145), .ref (gB G + 148), .null, .long 0] 0 0 = .inr (9, [.ref (gB G + 1), .ref (gB G + 3), .ref (gB G + 8), .ref (gB G + 13), .ref (gB G + 21), .ref (gB G + 29), .ref (gB G + 143), .ref (gB G + 144), .ref (gB G + 145), .ref (gB G + 148), .null, .long 0]) from rfl) (Nat.le_of_ble_eq_true rfl) dX9_init_115 ?_
  refine sv_heap (g := xq G [.ref (gB G + 1), .ref (gB G + 3), .ref (gB G + 8), .ref (gB G + 13), .ref (gB G + 21), .ref (gB G + 29), .ref (gB G + 143), .ref (gB G + 144), .ref (gB G + 145), .ref (gB G + 148), .ref (gB G + 153), .long 0] 0) (fun j _ => xq_put j) ?_
  refine sv_iconst (v := 0) dX9_init_118 (by decide) ?_
  refine sv_istore_n (ls' := [(1, _), (0, _)]) dX9_init_119 (by decide) rfl ?_
  exact i_X9L G _ 0 rfl (by omega)
theorem CF_179 (G : GT) : CF G S0 L0 179 = .inr (10, [.ref (gB G + (179 + 1)), .int 0, .int 0, .ref (gB G + (179 + 2)), .ref (gB G + (179 + 3)), .ref (gB G + (179 + 4)), .ref (gB G + (179 + 5)), .ref (gB G + (179 + 6)), .ref (gB G + (179 + 7)), .int 0, .int 0, .ref (gB G + (179 + 8)), .ref (gB G + (179 + 9)), .ref (gB G + (179 + 10)), .ref (gB G + (179 + 11)), .int 0, .long 0, .int (-9), .int 0, .ref (gB G + (179 + 12)), .ref (gB G + (179 + 13)), .ref (gB G + (179 + 14)), .int 0, .int 0, .ref (gB G + (179 + 15)), .ref (gB G + (179 + 16)), .ref (gB G + (179 + 17)), .int 0]) := by
  have e : S0 179 = fun j => if j = 17 then -9 else 0 := by unfold S0; rw [if_pos rfl]
  rw [CF_10 (q := 179) (by decide +kernel), e]
  rfl
theorem S0_184 : va_up S0 184 (fun _ => 0) = S0 := by
  funext k
  unfold va_up
  by_cases z : k = 184
  · rw [if_pos z, z]; exact (S0_z sh_184 (by decide) (by decide)).symm
  · rw [if_neg z]
abbrev R_X10_init : Room := { frames := 1, cells := 17, slots := 2572, locals := 21 }
def yP (G : GT) : Option Value → Nat → (Nat → va_E) → Prop := fun r n' f' => r = none ∧ n' = 197 ∧ ∀ j, j < 197 → iq (f' j) (CF G S0 L0 j)
set_option maxRecDepth 100000 in
set_option maxHeartbeats 4000000 in
theorem i_X10 (G : GT) (g : Nat → va_E) (hlo : ∀ j, j < 179 → iq (g j) (CF G S0 L0 j)) (hg : g 179 = .inr (10, [.null, .int 0, .int 0, .null, .null, .null, .null, .null, .null, .int 0, .int 0, .null, .null, .null, .null, .int 0, .long 0, .int 0, .int 0, .null, .null, .null, .int 0, .int 0, .null, .null, .null, .int 0])) : sv_Ct G yX10_init R_X10_init cX10_init 1 none [.ref (gB G + 179)] 180 g (yP G) := by
  refine sv_Ct.of (by decide) (Nat.le_of_ble_eq_true rfl) ?_
  show sv_V G R_X10_init RX10 "<init>" cX10_init 1 none _ 0 0 180 g 0 [(0, .ref (gB G + 179))] []
  refine sv_heap (g := hp g 179 [.inr (10, [.null, .int 0, .int 0, .null, .null, .null, .null, .null, .null, .int 0, .int 0, .null, .null, .null, .null, .int 0, .long 0, .int 0, .int 0, .null, .null, .null, .int 0, .int 0, .null, .null, .null, .int 0])]) (fun j hj => hp_one hg j hj) ?_
  refine sv_aload_n 0 dX10_init_0 rfl ?_
  refine sv_objInit ml_RX10_1 im_objInit cd_objInit (Nat.le_of_ble_eq_true rfl) (Nat.le_of_ble_eq_true rfl) dX10_init_1 ?_
  refine sv_aload_n 0 dX10_init_4 rfl ?_
  refine sv_bipush (v := 80) dX10_init_5 (by decide) ?_
  refine hc_newI (k := 179) (m := 1) (len := 80) rfl (by decide) rfl (Nat.le_of_ble_eq_true rfl) (Nat.le_of_ble_eq_true rfl) (Nat.le_of_ble_eq_true rfl) dX10_init_7 ?_
  refine hc_es (k := 179) (m := 2) (es' := [.inr (10, [.null, .int 0, .int 0, .null, .null, .null, .null, .null, .null, .int 0, .int 0, .null, .null, .null, .null, .int 0, .long 0, .int 0, .int 0, .null, .null, .null, .int 0, .int 0, .null, .null, .null, .int 0]), .inl (G.2.2.1.1, 80, .inl (fun _ => 0))]) rfl ?_
  refine hc_putF (k := 179) (m := 2) (ci := 10) 0 rfl rfl rfl uw_X10 tyX10 tyX10_ok nmX10 0 (by decide) fl_RX10_7 rfl rfl rfl rfl rfl (Nat.le_of_ble_eq_true rfl) dX10_init_9 ?_
  refine hc_es (k := 179) (m := 2) (es' := [.inr (10, [.ref (gB G + (179 + 1)), .int 0, .int 0, .null, .null, .null, .null, .null, .null, .int 0, .int 0, .null, .null, .null, .null, .int 0, .long 0, .int 0, .int 0, .null, .null, .null, .int 0, .int 0, .null, .null, .null, .int 0]), .inl (G.2.2.1.1, 80, .inl (fun _ => 0))]) rfl ?_
  refine sv_aload_n 0 dX10_init_12 rfl ?_
  refine sv_bipush (v := 16) dX10_init_13 (by decide) ?_
  refine hc_newI (k := 179) (m := 2) (len := 16) rfl (by decide) rfl (Nat.le_of_ble_eq_true rfl) (Nat.le_of_ble_eq_true rfl) (Nat.le_of_ble_eq_true rfl) dX10_init_15 ?_
  refine hc_es (k := 179) (m := 3) (es' := [.inr (10, [.ref (gB G + (179 + 1)), .int 0, .int 0, .null, .null, .null, .null, .null, .null, .int 0, .int 0, .null, .null, .null, .null, .int 0, .long 0, .int 0, .int 0, .null, .null, .null, .int 0, .int 0, .null, .null, .null, .int 0]), .inl (G.2.2.1.1, 80, .inl (fun _ => 0)), .inl (G.2.2.1.1, 16, .inl (fun _ => 0))]) rfl ?_
  refine hc_putF (k := 179) (m := 3) (ci := 10) 0 rfl rfl rfl uw_X10 tyX10 tyX10_ok nmX10 3 (by decide) fl_RX10_13 rfl rfl rfl rfl rfl (Nat.le_of_ble_eq_true rfl) dX10_init_17 ?_
  refine hc_es (k := 179) (m := 3) (es' := [.inr (10, [.ref (gB G + (179 + 1)), .int 0, .int 0, .ref (gB G + (179 + 2)), .null, .null, .null, .null, .null, .int 0, .int 0, .null, .null, .null, .null, .int 0, .long 0, .int 0, .int 0, .null, .null, .null, .int 0, .int 0, .null, .null, .null, .int 0]), .inl (G.2.2.1.1, 80, .inl (fun _ => 0)), .inl (G.2.2.1.1, 16, .inl (fun _ => 0))]) rfl ?_
  refine sv_aload_n 0 dX10_init_20 rfl ?_
  refine sv_bipush (v := 16) dX10_init_21 (by decide) ?_
  refine hc_newI (k := 179) (m := 3) (len := 16) rfl (by decide) rfl (Nat.le_of_ble_eq_true rfl) (Nat.le_of_ble_eq_true rfl) (Nat.le_of_ble_eq_true rfl) dX10_init_23 ?_
  refine hc_es (k := 179) (m := 4) (es' := [.inr (10, [.ref (gB G + (179 + 1)), .int 0, .int 0, .ref (gB G + (179 + 2)), .null, .null, .null, .null, .null, .int 0, .int 0, .null, .null, .null, .null, .int 0, .long 0, .int 0, .int 0, .null, .null, .null, .int 0, .int 0, .null, .null, .null, .int 0]), .inl (G.2.2.1.1, 80, .inl (fun _ => 0)), .inl (G.2.2.1.1, 16, .inl (fun _ => 0)), .inl (G.2.2.1.1, 16, .inl (fun _ => 0))]) rfl ?_
  refine hc_putF (k := 179) (m := 4) (ci := 10) 0 rfl rfl rfl uw_X10 tyX10 tyX10_ok nmX10 4 (by decide) fl_RX10_16 rfl rfl rfl rfl rfl (Nat.le_of_ble_eq_true rfl) dX10_init_25 ?_
  refine hc_es (k := 179) (m := 4) (es' := [.inr (10, [.ref (gB G + (179 + 1)), .int 0, .int 0, .ref (gB G + (179 + 2)), .ref (gB G + (179 + 3)), .null, .null, .null, .null, .int 0, .int 0, .null, .null, .null, .null, .int 0, .long 0, .int 0, .int 0, .null, .null, .null, .int 0, .int 0, .null, .null, .null, .int 0]), .inl (G.2.2.1.1, 80, .inl (fun _ => 0)), .inl (G.2.2.1.1, 16, .inl (fun _ => 0)), .inl (G.2.2.1.1, 16, .inl (fun _ => 0))]) rfl ?_
  refine sv_aload_n 0 dX10_init_28 rfl ?_
  refine sv_bipush (v := 16) dX10_init_29 (by decide) ?_
  refine hc_newI (k := 179) (m := 4) (len := 16) rfl (by decide) rfl (Nat.le_of_ble_eq_true rfl) (Nat.le_of_ble_eq_true rfl) (Nat.le_of_ble_eq_true rfl) dX10_init_31 ?_
  refine hc_es (k := 179) (m := 5) (es' := [.inr (10, [.ref (gB G + (179 + 1)), .int 0, .int 0, .ref (gB G + (179 + 2)), .ref (gB G + (179 + 3)), .null, .null, .null, .null, .int 0, .int 0, .null, .null, .null, .null, .int 0, .long 0, .int 0, .int 0, .null, .null, .null, .int 0, .int 0, .null, .null, .null, .int 0]), .inl (G.2.2.1.1, 80, .inl (fun _ => 0)), .inl (G.2.2.1.1, 16, .inl (fun _ => 0)), .inl (G.2.2.1.1, 16, .inl (fun _ => 0)), .inl (G.2.2.1.1, 16, .inl (fun _ => 0))]) rfl ?_
  refine hc_putF (k := 179) (m := 5) (ci := 10) 0 rfl rfl rfl uw_X10 tyX10 tyX10_ok nmX10 5 (by decide) fl_RX10_19 rfl rfl rfl rfl rfl (Nat.le_of_ble_eq_true rfl) dX10_init_33 ?_
  refine hc_es (k := 179) (m := 5) (es' := [.inr (10, [.ref (gB G + (179 + 1)), .int 0, .int 0, .ref (gB G + (179 + 2)), .ref (gB G + (179 + 3)), .ref (gB G + (179 + 4)), .null, .null, .null, .int 0, .int 0, .null, .null, .null, .null, .int 0, .long 0, .int 0, .int 0, .null, .null, .null, .int 0, .int 0, .null, .null, .null, .int 0]), .inl (G.2.2.1.1, 80, .inl (fun _ => 0)), .inl (G.2.2.1.1, 16, .inl (fun _ => 0)), .inl (G.2.2.1.1, 16, .inl (fun _ => 0)), .inl (G.2.2.1.1, 16, .inl (fun _ => 0))]) rfl ?_
  refine sv_aload_n 0 dX10_init_36 rfl ?_
  refine sv_sipush (v := 128) dX10_init_37 (by decide) ?_
  refine hc_newI (k := 179) (m := 5) (len := 128) rfl (by decide) rfl (Nat.le_of_ble_eq_true rfl) (Nat.le_of_ble_eq_true rfl) (Nat.le_of_ble_eq_true rfl) dX10_init_40 ?_
  refine hc_es (k := 179) (m := 6) (es' := [.inr (10, [.ref (gB G + (179 + 1)), .int 0, .int 0, .ref (gB G + (179 + 2)), .ref (gB G + (179 + 3)), .ref (gB G + (179 + 4)), .null, .null, .null, .int 0, .int 0, .null, .null, .null, .null, .int 0, .long 0, .int 0, .int 0, .null, .null, .null, .int 0, .int 0, .null, .null, .null, .int 0]), .inl (G.2.2.1.1, 80, .inl (fun _ => 0)), .inl (G.2.2.1.1, 16, .inl (fun _ => 0)), .inl (G.2.2.1.1, 16, .inl (fun _ => 0)), .inl (G.2.2.1.1, 16, .inl (fun _ => 0)), .inl (G.2.2.1.1, 128, .inl (fun _ => 0))]) rfl ?_
  refine hc_putF (k := 179) (m := 6) (ci := 10) 0 rfl rfl rfl uw_X10 tyX10 tyX10_ok nmX10 6 (by decide) fl_RX10_22 rfl rfl rfl rfl rfl (Nat.le_of_ble_eq_true rfl) dX10_init_42 ?_
  refine hc_es (k := 179) (m := 6) (es' := [.inr (10, [.ref (gB G + (179 + 1)), .int 0, .int 0, .ref (gB G + (179 + 2)), .ref (gB G + (179 + 3)), .ref (gB G + (179 + 4)), .ref (gB G + (179 + 5)), .null, .null, .int 0, .int 0, .null, .null, .null, .null, .int 0, .long 0, .int 0, .int 0, .null, .null, .null, .int 0, .int 0, .null, .null, .null, .int 0]), .inl (G.2.2.1.1, 80, .inl (fun _ => 0)), .inl (G.2.2.1.1, 16, .inl (fun _ => 0)), .inl (G.2.2.1.1, 16, .inl (fun _ => 0)), .inl (G.2.2.1.1, 16, .inl (fun _ => 0)), .inl (G.2.2.1.1, 128, .inl (fun _ => 0))]) rfl ?_
  refine sv_aload_n 0 dX10_init_45 rfl ?_
  refine sv_sipush (v := 128) dX10_init_46 (by decide) ?_
  refine hc_newI (k := 179) (m := 6) (len := 128) rfl (by decide) rfl (Nat.le_of_ble_eq_true rfl) (Nat.le_of_ble_eq_true rfl) (Nat.le_of_ble_eq_true rfl) dX10_init_49 ?_
  refine hc_es (k := 179) (m := 7) (es' := [.inr (10, [.ref (gB G + (179 + 1)), .int 0, .int 0, .ref (gB G + (179 + 2)), .ref (gB G + (179 + 3)), .ref (gB G + (179 + 4)), .ref (gB G + (179 + 5)), .null, .null, .int 0, .int 0, .null, .null, .null, .null, .int 0, .long 0, .int 0, .int 0, .null, .null, .null, .int 0, .int 0, .null, .null, .null, .int 0]), .inl (G.2.2.1.1, 80, .inl (fun _ => 0)), .inl (G.2.2.1.1, 16, .inl (fun _ => 0)), .inl (G.2.2.1.1, 16, .inl (fun _ => 0)), .inl (G.2.2.1.1, 16, .inl (fun _ => 0)), .inl (G.2.2.1.1, 128, .inl (fun _ => 0)), .inl (G.2.2.1.1, 128, .inl (fun _ => 0))]) rfl ?_
  refine hc_putF (k := 179) (m := 7) (ci := 10) 0 rfl rfl rfl uw_X10 tyX10 tyX10_ok nmX10 7 (by decide) fl_RX10_25 rfl rfl rfl rfl rfl (Nat.le_of_ble_eq_true rfl) dX10_init_51 ?_
  refine hc_es (k := 179) (m := 7) (es' := [.inr (10, [.ref (gB G + (179 + 1)), .int 0, .int 0, .ref (gB G + (179 + 2)), .ref (gB G + (179 + 3)), .ref (gB G + (179 + 4)), .ref (gB G + (179 + 5)), .ref (gB G + (179 + 6)), .null, .int 0, .int 0, .null, .null, .null, .null, .int 0, .long 0, .int 0, .int 0, .null, .null, .null, .int 0, .int 0, .null, .null, .null, .int 0]), .inl (G.2.2.1.1, 80, .inl (fun _ => 0)), .inl (G.2.2.1.1, 16, .inl (fun _ => 0)), .inl (G.2.2.1.1, 16, .inl (fun _ => 0)), .inl (G.2.2.1.1, 16, .inl (fun _ => 0)), .inl (G.2.2.1.1, 128, .inl (fun _ => 0)), .inl (G.2.2.1.1, 128, .inl (fun _ => 0))]) rfl ?_
  refine sv_aload_n 0 dX10_init_54 rfl ?_
  refine sv_sipush (v := 1792) dX10_init_55 (by decide) ?_
  refine hc_newI (k := 179) (m := 7) (len := 1792) rfl (by decide) rfl (Nat.le_of_ble_eq_true rfl) (Nat.le_of_ble_eq_true rfl) (Nat.le_of_ble_eq_true rfl) dX10_init_58 ?_
  refine hc_es (k := 179) (m := 8) (es' := [.inr (10, [.ref (gB G + (179 + 1)), .int 0, .int 0, .ref (gB G + (179 + 2)), .ref (gB G + (179 + 3)), .ref (gB G + (179 + 4)), .ref (gB G + (179 + 5)), .ref (gB G + (179 + 6)), .null, .int 0, .int 0, .null, .null, .null, .null, .int 0, .long 0, .int 0, .int 0, .null, .null, .null, .int 0, .int 0, .null, .null, .null, .int 0]), .inl (G.2.2.1.1, 80, .inl (fun _ => 0)), .inl (G.2.2.1.1, 16, .inl (fun _ => 0)), .inl (G.2.2.1.1, 16, .inl (fun _ => 0)), .inl (G.2.2.1.1, 16, .inl (fun _ => 0)), .inl (G.2.2.1.1, 128, .inl (fun _ => 0)), .inl (G.2.2.1.1, 128, .inl (fun _ => 0)), .inl (G.2.2.1.1, 1792, .inl (fun _ => 0))]) rfl ?_
  refine hc_putF (k := 179) (m := 8) (ci := 10) 0 rfl rfl rfl uw_X10 tyX10 tyX10_ok nmX10 8 (by decide) fl_RX10_28 rfl rfl rfl rfl rfl (Nat.le_of_ble_eq_true rfl) dX10_init_60 ?_
  refine hc_es (k := 179) (m := 8) (es' := [.inr (10, [.ref (gB G + (179 + 1)), .int 0, .int 0, .ref (gB G + (179 + 2)), .ref (gB G + (179 + 3)), .ref (gB G + (179 + 4)), .ref (gB G + (179 + 5)), .ref (gB G + (179 + 6)), .ref (gB G + (179 + 7)), .int 0, .int 0, .null, .null, .null, .null, .int 0, .long 0, .int 0, .int 0, .null, .null, .null, .int 0, .int 0, .null, .null, .null, .int 0]), .inl (G.2.2.1.1, 80, .inl (fun _ => 0)), .inl (G.2.2.1.1, 16, .inl (fun _ => 0)), .inl (G.2.2.1.1, 16, .inl (fun _ => 0)), .inl (G.2.2.1.1, 16, .inl (fun _ => 0)), .inl (G.2.2.1.1, 128, .inl (fun _ => 0)), .inl (G.2.2.1.1, 128, .inl (fun _ => 0)), .inl (G.2.2.1.1, 1792, .inl (fun _ => 0))]) rfl ?_
  refine sv_aload_n 0 dX10_init_63 rfl ?_
  refine sv_sipush (v := 256) dX10_init_64 (by decide) ?_
  refine hc_newI (k := 179) (m := 8) (len := 256) rfl (by decide) rfl (Nat.le_of_ble_eq_true rfl) (Nat.le_of_ble_eq_true rfl) (Nat.le_of_ble_eq_true rfl) dX10_init_67 ?_
  refine hc_es (k := 179) (m := 9) (es' := [.inr (10, [.ref (gB G + (179 + 1)), .int 0, .int 0, .ref (gB G + (179 + 2)), .ref (gB G + (179 + 3)), .ref (gB G + (179 + 4)), .ref (gB G + (179 + 5)), .ref (gB G + (179 + 6)), .ref (gB G + (179 + 7)), .int 0, .int 0, .null, .null, .null, .null, .int 0, .long 0, .int 0, .int 0, .null, .null, .null, .int 0, .int 0, .null, .null, .null, .int 0]), .inl (G.2.2.1.1, 80, .inl (fun _ => 0)), .inl (G.2.2.1.1, 16, .inl (fun _ => 0)), .inl (G.2.2.1.1, 16, .inl (fun _ => 0)), .inl (G.2.2.1.1, 16, .inl (fun _ => 0)), .inl (G.2.2.1.1, 128, .inl (fun _ => 0)), .inl (G.2.2.1.1, 128, .inl (fun _ => 0)), .inl (G.2.2.1.1, 1792, .inl (fun _ => 0)), .inl (G.2.2.1.1, 256, .inl (fun _ => 0))]) rfl ?_
  refine hc_putF (k := 179) (m := 9) (ci := 10) 0 rfl rfl rfl uw_X10 tyX10 tyX10_ok nmX10 11 (by decide) fl_RX10_31 rfl rfl rfl rfl rfl (Nat.le_of_ble_eq_true rfl) dX10_init_69 ?_
  refine hc_es (k := 179) (m := 9) (es' := [.inr (10, [.ref (gB G + (179 + 1)), .int 0, .int 0, .ref (gB G + (179 + 2)), .ref (gB G + (179 + 3)), .ref (gB G + (179 + 4)), .ref (gB G + (179 + 5)), .ref (gB G + (179 + 6)), .ref (gB G + (179 + 7)), .int 0, .int 0, .ref (gB G + (179 + 8)), .null, .null, .null, .int 0, .long 0, .int 0, .int 0, .null, .null, .null, .int 0, .int 0, .null, .null, .null, .int 0]), .inl (G.2.2.1.1, 80, .inl (fun _ => 0)), .inl (G.2.2.1.1, 16, .inl (fun _ => 0)), .inl (G.2.2.1.1, 16, .inl (fun _ => 0)), .inl (G.2.2.1.1, 16, .inl (fun _ => 0)), .inl (G.2.2.1.1, 128, .inl (fun _ => 0)), .inl (G.2.2.1.1, 128, .inl (fun _ => 0)), .inl (G.2.2.1.1, 1792, .inl (fun _ => 0)), .inl (G.2.2.1.1, 256, .inl (fun _ => 0))]) rfl ?_
  refine sv_aload_n 0 dX10_init_72 rfl ?_
  refine sv_iconst (v := 2) dX10_init_73 (by decide) ?_
  refine hc_newZ (k := 179) (m := 9) (len := 2) rfl ac_boolean (by decide) rfl (Nat.le_of_ble_eq_true rfl) (Nat.le_of_ble_eq_true rfl) (Nat.le_of_ble_eq_true rfl) dX10_init_74 ?_
  refine hc_es (k := 179) (m := 10) (es' := [.inr (10, [.ref (gB G + (179 + 1)), .int 0, .int 0, .ref (gB G + (179 + 2)), .ref (gB G + (179 + 3)), .ref (gB G + (179 + 4)), .ref (gB G + (179 + 5)), .ref (gB G + (179 + 6)), .ref (gB G + (179 + 7)), .int 0, .int 0, .ref (gB G + (179 + 8)), .null, .null, .null, .int 0, .long 0, .int 0, .int 0, .null, .null, .null, .int 0, .int 0, .null, .null, .null, .int 0]), .inl (G.2.2.1.1, 80, .inl (fun _ => 0)), .inl (G.2.2.1.1, 16, .inl (fun _ => 0)), .inl (G.2.2.1.1, 16, .inl (fun _ => 0)), .inl (G.2.2.1.1, 16, .inl (fun _ => 0)), .inl (G.2.2.1.1, 128, .inl (fun _ => 0)), .inl (G.2.2.1.1, 128, .inl (fun _ => 0)), .inl (G.2.2.1.1, 1792, .inl (fun _ => 0)), .inl (G.2.2.1.1, 256, .inl (fun _ => 0)), .inl (G.2.2.1.2.1, 2, .inl (fun _ => 0))]) rfl ?_
  refine hc_putF (k := 179) (m := 10) (ci := 10) 0 rfl rfl rfl uw_X10 tyX10 tyX10_ok nmX10 12 (by decide) fl_RX10_34 rfl rfl rfl rfl rfl (Nat.le_of_ble_eq_true rfl) dX10_init_76 ?_
  refine hc_es (k := 179) (m := 10) (es' := [.inr (10, [.ref (gB G + (179 + 1)), .int 0, .int 0, .ref (gB G + (179 + 2)), .ref (gB G + (179 + 3)), .ref (gB G + (179 + 4)), .ref (gB G + (179 + 5)), .ref (gB G + (179 + 6)), .ref (gB G + (179 + 7)), .int 0, .int 0, .ref (gB G + (179 + 8)), .ref (gB G + (179 + 9)), .null, .null, .int 0, .long 0, .int 0, .int 0, .null, .null, .null, .int 0, .int 0, .null, .null, .null, .int 0]), .inl (G.2.2.1.1, 80, .inl (fun _ => 0)), .inl (G.2.2.1.1, 16, .inl (fun _ => 0)), .inl (G.2.2.1.1, 16, .inl (fun _ => 0)), .inl (G.2.2.1.1, 16, .inl (fun _ => 0)), .inl (G.2.2.1.1, 128, .inl (fun _ => 0)), .inl (G.2.2.1.1, 128, .inl (fun _ => 0)), .inl (G.2.2.1.1, 1792, .inl (fun _ => 0)), .inl (G.2.2.1.1, 256, .inl (fun _ => 0)), .inl (G.2.2.1.2.1, 2, .inl (fun _ => 0))]) rfl ?_
  refine sv_aload_n 0 dX10_init_79 rfl ?_
  refine sv_bipush (v := 6) dX10_init_80 (by decide) ?_
  refine hc_newI (k := 179) (m := 10) (len := 6) rfl (by decide) rfl (Nat.le_of_ble_eq_true rfl) (Nat.le_of_ble_eq_true rfl) (Nat.le_of_ble_eq_true rfl) dX10_init_82 ?_
  refine hc_es (k := 179) (m := 11) (es' := [.inr (10, [.ref (gB G + (179 + 1)), .int 0, .int 0, .ref (gB G + (179 + 2)), .ref (gB G + (179 + 3)), .ref (gB G + (179 + 4)), .ref (gB G + (179 + 5)), .ref (gB G + (179 + 6)), .ref (gB G + (179 + 7)), .int 0, .int 0, .ref (gB G + (179 + 8)), .ref (gB G + (179 + 9)), .null, .null, .int 0, .long 0, .int 0, .int 0, .null, .null, .null, .int 0, .int 0, .null, .null, .null, .int 0]), .inl (G.2.2.1.1, 80, .inl (fun _ => 0)), .inl (G.2.2.1.1, 16, .inl (fun _ => 0)), .inl (G.2.2.1.1, 16, .inl (fun _ => 0)), .inl (G.2.2.1.1, 16, .inl (fun _ => 0)), .inl (G.2.2.1.1, 128, .inl (fun _ => 0)), .inl (G.2.2.1.1, 128, .inl (fun _ => 0)), .inl (G.2.2.1.1, 1792, .inl (fun _ => 0)), .inl (G.2.2.1.1, 256, .inl (fun _ => 0)), .inl (G.2.2.1.2.1, 2, .inl (fun _ => 0)), .inl (G.2.2.1.1, 6, .inl (fun _ => 0))]) rfl ?_
  refine hc_putF (k := 179) (m := 11) (ci := 10) 0 rfl rfl rfl uw_X10 tyX10 tyX10_ok nmX10 13 (by decide) fl_RX10_38 rfl rfl rfl rfl rfl (Nat.le_of_ble_eq_true rfl) dX10_init_84 ?_
  refine hc_es (k := 179) (m := 11) (es' := [.inr (10, [.ref (gB G + (179 + 1)), .int 0, .int 0, .ref (gB G + (179 + 2)), .ref (gB G + (179 + 3)), .ref (gB G + (179 + 4)), .ref (gB G + (179 + 5)), .ref (gB G + (179 + 6)), .ref (gB G + (179 + 7)), .int 0, .int 0, .ref (gB G + (179 + 8)), .ref (gB G + (179 + 9)), .ref (gB G + (179 + 10)), .null, .int 0, .long 0, .int 0, .int 0, .null, .null, .null, .int 0, .int 0, .null, .null, .null, .int 0]), .inl (G.2.2.1.1, 80, .inl (fun _ => 0)), .inl (G.2.2.1.1, 16, .inl (fun _ => 0)), .inl (G.2.2.1.1, 16, .inl (fun _ => 0)), .inl (G.2.2.1.1, 16, .inl (fun _ => 0)), .inl (G.2.2.1.1, 128, .inl (fun _ => 0)), .inl (G.2.2.1.1, 128, .inl (fun _ => 0)), .inl (G.2.2.1.1, 1792, .inl (fun _ => 0)), .inl (G.2.2.1.1, 256, .inl (fun _ => 0)), .inl (G.2.2.1.2.1, 2, .inl (fun _ => 0)), .inl (G.2.2.1.1, 6, .inl (fun _ => 0))]) rfl ?_
  refine sv_aload_n 0 dX10_init_87 rfl ?_
  refine sv_bipush (v := 6) dX10_init_88 (by decide) ?_
  refine hc_newI (k := 179) (m := 11) (len := 6) rfl (by decide) rfl (Nat.le_of_ble_eq_true rfl) (Nat.le_of_ble_eq_true rfl) (Nat.le_of_ble_eq_true rfl) dX10_init_90 ?_
  refine hc_es (k := 179) (m := 12) (es' := [.inr (10, [.ref (gB G + (179 + 1)), .int 0, .int 0, .ref (gB G + (179 + 2)), .ref (gB G + (179 + 3)), .ref (gB G + (179 + 4)), .ref (gB G + (179 + 5)), .ref (gB G + (179 + 6)), .ref (gB G + (179 + 7)), .int 0, .int 0, .ref (gB G + (179 + 8)), .ref (gB G + (179 + 9)), .ref (gB G + (179 + 10)), .null, .int 0, .long 0, .int 0, .int 0, .null, .null, .null, .int 0, .int 0, .null, .null, .null, .int 0]), .inl (G.2.2.1.1, 80, .inl (fun _ => 0)), .inl (G.2.2.1.1, 16, .inl (fun _ => 0)), .inl (G.2.2.1.1, 16, .inl (fun _ => 0)), .inl (G.2.2.1.1, 16, .inl (fun _ => 0)), .inl (G.2.2.1.1, 128, .inl (fun _ => 0)), .inl (G.2.2.1.1, 128, .inl (fun _ => 0)), .inl (G.2.2.1.1, 1792, .inl (fun _ => 0)), .inl (G.2.2.1.1, 256, .inl (fun _ => 0)), .inl (G.2.2.1.2.1, 2, .inl (fun _ => 0)), .inl (G.2.2.1.1, 6, .inl (fun _ => 0)), .inl (G.2.2.1.1, 6, .inl (fun _ => 0))]) rfl ?_
  refine hc_putF (k := 179) (m := 12) (ci := 10) 0 rfl rfl rfl uw_X10 tyX10 tyX10_ok nmX10 14 (by decide) fl_RX10_41 rfl rfl rfl rfl rfl (Nat.le_of_ble_eq_true rfl) dX10_init_92 ?_
  refine hc_es (k := 179) (m := 12) (es' := [.inr (10, [.ref (gB G + (179 + 1)), .int 0, .int 0, .ref (gB G + (179 + 2)), .ref (gB G + (179 + 3)), .ref (gB G + (179 + 4)), .ref (gB G + (179 + 5)), .ref (gB G + (179 + 6)), .ref (gB G + (179 + 7)), .int 0, .int 0, .ref (gB G + (179 + 8)), .ref (gB G + (179 + 9)), .ref (gB G + (179 + 10)), .ref (gB G + (179 + 11)), .int 0, .long 0, .int 0, .int 0, .null, .null, .null, .int 0, .int 0, .null, .null, .null, .int 0]), .inl (G.2.2.1.1, 80, .inl (fun _ => 0)), .inl (G.2.2.1.1, 16, .inl (fun _ => 0)), .inl (G.2.2.1.1, 16, .inl (fun _ => 0)), .inl (G.2.2.1.1, 16, .inl (fun _ => 0)), .inl (G.2.2.1.1, 128, .inl (fun _ => 0)), .inl (G.2.2.1.1, 128, .inl (fun _ => 0)), .inl (G.2.2.1.1, 1792, .inl (fun _ => 0)), .inl (G.2.2.1.1, 256, .inl (fun _ => 0)), .inl (G.2.2.1.2.1, 2, .inl (fun _ => 0)), .inl (G.2.2.1.1, 6, .inl (fun _ => 0)), .inl (G.2.2.1.1, 6, .inl (fun _ => 0))]) rfl ?_
  refine sv_aload_n 0 dX10_init_95 rfl ?_
  refine sv_bipush (v := 8) dX10_init_96 (by decide) ?_
  refine hc_newI (k := 179) (m := 12) (len := 8) rfl (by decide) rfl (Nat.le_of_ble_eq_true rfl) (Nat.le_of_ble_eq_true rfl) (Nat.le_of_ble_eq_true rfl) dX10_init_98 ?_
  refine hc_es (k := 179) (m := 13) (es' := [.inr (10, [.ref (gB G + (179 + 1)), .int 0, .int 0, .ref (gB G + (179 + 2)), .ref (gB G + (179 + 3)), .ref (gB G + (179 + 4)), .ref (gB G + (179 + 5)), .ref (gB G + (179 + 6)), .ref (gB G + (179 + 7)), .int 0, .int 0, .ref (gB G + (179 + 8)), .ref (gB G + (179 + 9)), .ref (gB G + (179 + 10)), .ref (gB G + (179 + 11)), .int 0, .long 0, .int 0, .int 0, .null, .null, .null, .int 0, .int 0, .null, .null, .null, .int 0]), .inl (G.2.2.1.1, 80, .inl (fun _ => 0)), .inl (G.2.2.1.1, 16, .inl (fun _ => 0)), .inl (G.2.2.1.1, 16, .inl (fun _ => 0)), .inl (G.2.2.1.1, 16, .inl (fun _ => 0)), .inl (G.2.2.1.1, 128, .inl (fun _ => 0)), .inl (G.2.2.1.1, 128, .inl (fun _ => 0)), .inl (G.2.2.1.1, 1792, .inl (fun _ => 0)), .inl (G.2.2.1.1, 256, .inl (fun _ => 0)), .inl (G.2.2.1.2.1, 2, .inl (fun _ => 0)), .inl (G.2.2.1.1, 6, .inl (fun _ => 0)), .inl (G.2.2.1.1, 6, .inl (fun _ => 0)), .inl (G.2.2.1.1, 8, .inl (fun _ => 0))]) rfl ?_
  refine hc_putF (k := 179) (m := 13) (ci := 10) 0 rfl rfl rfl uw_X10 tyX10 tyX10_ok nmX10 19 (by decide) fl_RX10_44 rfl rfl rfl rfl rfl (Nat.le_of_ble_eq_true rfl) dX10_init_100 ?_
  refine hc_es (k := 179) (m := 13) (es' := [.inr (10, [.ref (gB G + (179 + 1)), .int 0, .int 0, .ref (gB G + (179 + 2)), .ref (gB G + (179 + 3)), .ref (gB G + (179 + 4)), .ref (gB G + (179 + 5)), .ref (gB G + (179 + 6)), .ref (gB G + (179 + 7)), .int 0, .int 0, .ref (gB G + (179 + 8)), .ref (gB G + (179 + 9)), .ref (gB G + (179 + 10)), .ref (gB G + (179 + 11)), .int 0, .long 0, .int 0, .int 0, .ref (gB G + (179 + 12)), .null, .null, .int 0, .int 0, .null, .null, .null, .int 0]), .inl (G.2.2.1.1, 80, .inl (fun _ => 0)), .inl (G.2.2.1.1, 16, .inl (fun _ => 0)), .inl (G.2.2.1.1, 16, .inl (fun _ => 0)), .inl (G.2.2.1.1, 16, .inl (fun _ => 0)), .inl (G.2.2.1.1, 128, .inl (fun _ => 0)), .inl (G.2.2.1.1, 128, .inl (fun _ => 0)), .inl (G.2.2.1.1, 1792, .inl (fun _ => 0)), .inl (G.2.2.1.1, 256, .inl (fun _ => 0)), .inl (G.2.2.1.2.1, 2, .inl (fun _ => 0)), .inl (G.2.2.1.1, 6, .inl (fun _ => 0)), .inl (G.2.2.1.1, 6, .inl (fun _ => 0)), .inl (G.2.2.1.1, 8, .inl (fun _ => 0))]) rfl ?_
  refine sv_aload_n 0 dX10_init_103 rfl ?_
  refine sv_bipush (v := 6) dX10_init_104 (by decide) ?_
  refine hc_newI (k := 179) (m := 13) (len := 6) rfl (by decide) rfl (Nat.le_of_ble_eq_true rfl) (Nat.le_of_ble_eq_true rfl) (Nat.le_of_ble_eq_true rfl) dX10_init_106 ?_
  refine hc_es (k := 179) (m := 14) (es' := [.inr (10, [.ref (gB G + (179 + 1)), .int 0, .int 0, .ref (gB G + (179 + 2)), .ref (gB G + (179 + 3)), .ref (gB G + (179 + 4)), .ref (gB G + (179 + 5)), .ref (gB G + (179 + 6)), .ref (gB G + (179 + 7)), .int 0, .int 0, .ref (gB G + (179 + 8)), .ref (gB G + (179 + 9)), .ref (gB G + (179 + 10)), .ref (gB G + (179 + 11)), .int 0, .long 0, .int 0, .int 0, .ref (gB G + (179 + 12)), .null, .null, .int 0, .int 0, .null, .null, .null, .int 0]), .inl (G.2.2.1.1, 80, .inl (fun _ => 0)), .inl (G.2.2.1.1, 16, .inl (fun _ => 0)), .inl (G.2.2.1.1, 16, .inl (fun _ => 0)), .inl (G.2.2.1.1, 16, .inl (fun _ => 0)), .inl (G.2.2.1.1, 128, .inl (fun _ => 0)), .inl (G.2.2.1.1, 128, .inl (fun _ => 0)), .inl (G.2.2.1.1, 1792, .inl (fun _ => 0)), .inl (G.2.2.1.1, 256, .inl (fun _ => 0)), .inl (G.2.2.1.2.1, 2, .inl (fun _ => 0)), .inl (G.2.2.1.1, 6, .inl (fun _ => 0)), .inl (G.2.2.1.1, 6, .inl (fun _ => 0)), .inl (G.2.2.1.1, 8, .inl (fun _ => 0)), .inl (G.2.2.1.1, 6, .inl (fun _ => 0))]) rfl ?_
  refine hc_putF (k := 179) (m := 14) (ci := 10) 0 rfl rfl rfl uw_X10 tyX10 tyX10_ok nmX10 20 (by decide) fl_RX10_47 rfl rfl rfl rfl rfl (Nat.le_of_ble_eq_true rfl) dX10_init_108 ?_
  refine hc_es (k := 179) (m := 14) (es' := [.inr (10, [.ref (gB G + (179 + 1)), .int 0, .int 0, .ref (gB G + (179 + 2)), .ref (gB G + (179 + 3)), .ref (gB G + (179 + 4)), .ref (gB G + (179 + 5)), .ref (gB G + (179 + 6)), .ref (gB G + (179 + 7)), .int 0, .int 0, .ref (gB G + (179 + 8)), .ref (gB G + (179 + 9)), .ref (gB G + (179 + 10)), .ref (gB G + (179 + 11)), .int 0, .long 0, .int 0, .int 0, .ref (gB G + (179 + 12)), .ref (gB G + (179 + 13)), .null, .int 0, .int 0, .null, .null, .null, .int 0]), .inl (G.2.2.1.1, 80, .inl (fun _ => 0)), .inl (G.2.2.1.1, 16, .inl (fun _ => 0)), .inl (G.2.2.1.1, 16, .inl (fun _ => 0)), .inl (G.2.2.1.1, 16, .inl (fun _ => 0)), .inl (G.2.2.1.1, 128, .inl (fun _ => 0)), .inl (G.2.2.1.1, 128, .inl (fun _ => 0)), .inl (G.2.2.1.1, 1792, .inl (fun _ => 0)), .inl (G.2.2.1.1, 256, .inl (fun _ => 0)), .inl (G.2.2.1.2.1, 2, .inl (fun _ => 0)), .inl (G.2.2.1.1, 6, .inl (fun _ => 0)), .inl (G.2.2.1.1, 6, .inl (fun _ => 0)), .inl (G.2.2.1.1, 8, .inl (fun _ => 0)), .inl (G.2.2.1.1, 6, .inl (fun _ => 0))]) rfl ?_
  refine sv_aload_n 0 dX10_init_111 rfl ?_
  refine sv_bipush (v := 64) dX10_init_112 (by decide) ?_
  refine hc_newI (k := 179) (m := 14) (len := 64) rfl (by decide) rfl (Nat.le_of_ble_eq_true rfl) (Nat.le_of_ble_eq_true rfl) (Nat.le_of_ble_eq_true rfl) dX10_init_114 ?_
  refine hc_es (k := 179) (m := 15) (es' := [.inr (10, [.ref (gB G + (179 + 1)), .int 0, .int 0, .ref (gB G + (179 + 2)), .ref (gB G + (179 + 3)), .ref (gB G + (179 + 4)), .ref (gB G + (179 + 5)), .ref (gB G + (179 + 6)), .ref (gB G + (179 + 7)), .int 0, .int 0, .ref (gB G + (179 + 8)), .ref (gB G + (179 + 9)), .ref (gB G + (179 + 10)), .ref (gB G + (179 + 11)), .int 0, .long 0, .int 0, .int 0, .ref (gB G + (179 + 12)), .ref (gB G + (179 + 13)), .null, .int 0, .int 0, .null, .null, .null, .int 0]), .inl (G.2.2.1.1, 80, .inl (fun _ => 0)), .inl (G.2.2.1.1, 16, .inl (fun _ => 0)), .inl (G.2.2.1.1, 16, .inl (fun _ => 0)), .inl (G.2.2.1.1, 16, .inl (fun _ => 0)), .inl (G.2.2.1.1, 128, .inl (fun _ => 0)), .inl (G.2.2.1.1, 128, .inl (fun _ => 0)), .inl (G.2.2.1.1, 1792, .inl (fun _ => 0)), .inl (G.2.2.1.1, 256, .inl (fun _ => 0)), .inl (G.2.2.1.2.1, 2, .inl (fun _ => 0)), .inl (G.2.2.1.1, 6, .inl (fun _ => 0)), .inl (G.2.2.1.1, 6, .inl (fun _ => 0)), .inl (G.2.2.1.1, 8, .inl (fun _ => 0)), .inl (G.2.2.1.1, 6, .inl (fun _ => 0)), .inl (G.2.2.1.1, 64, .inl (fun _ => 0))]) rfl ?_
  refine hc_putF (k := 179) (m := 15) (ci := 10) 0 rfl rfl rfl uw_X10 tyX10 tyX10_ok nmX10 21 (by decide) fl_RX10_50 rfl rfl rfl rfl rfl (Nat.le_of_ble_eq_true rfl) dX10_init_116 ?_
  refine hc_es (k := 179) (m := 15) (es' := [.inr (10, [.ref (gB G + (179 + 1)), .int 0, .int 0, .ref (gB G + (179 + 2)), .ref (gB G + (179 + 3)), .ref (gB G + (179 + 4)), .ref (gB G + (179 + 5)), .ref (gB G + (179 + 6)), .ref (gB G + (179 + 7)), .int 0, .int 0, .ref (gB G + (179 + 8)), .ref (gB G + (179 + 9)), .ref (gB G + (179 + 10)), .ref (gB G + (179 + 11)), .int 0, .long 0, .int 0, .int 0, .ref (gB G + (179 + 12)), .ref (gB G + (179 + 13)), .ref (gB G + (179 + 14)), .int 0, .int 0, .null, .null, .null, .int 0]), .inl (G.2.2.1.1, 80, .inl (fun _ => 0)), .inl (G.2.2.1.1, 16, .inl (fun _ => 0)), .inl (G.2.2.1.1, 16, .inl (fun _ => 0)), .inl (G.2.2.1.1, 16, .inl (fun _ => 0)), .inl (G.2.2.1.1, 128, .inl (fun _ => 0)), .inl (G.2.2.1.1, 128, .inl (fun _ => 0)), .inl (G.2.2.1.1, 1792, .inl (fun _ => 0)), .inl (G.2.2.1.1, 256, .inl (fun _ => 0)), .inl (G.2.2.1.2.1, 2, .inl (fun _ => 0)), .inl (G.2.2.1.1, 6, .inl (fun _ => 0)), .inl (G.2.2.1.1, 6, .inl (fun _ => 0)), .inl (G.2.2.1.1, 8, .inl (fun _ => 0)), .inl (G.2.2.1.1, 6, .inl (fun _ => 0)), .inl (G.2.2.1.1, 64, .inl (fun _ => 0))]) rfl ?_
  refine sv_aload_n 0 dX10_init_119 rfl ?_
  refine sv_bipush (v := 16) dX10_init_120 (by decide) ?_
  refine hc_newI (k := 179) (m := 15) (len := 16) rfl (by decide) rfl (Nat.le_of_ble_eq_true rfl) (Nat.le_of_ble_eq_true rfl) (Nat.le_of_ble_eq_true rfl) dX10_init_122 ?_
  refine hc_es (k := 179) (m := 16) (es' := [.inr (10, [.ref (gB G + (179 + 1)), .int 0, .int 0, .ref (gB G + (179 + 2)), .ref (gB G + (179 + 3)), .ref (gB G + (179 + 4)), .ref (gB G + (179 + 5)), .ref (gB G + (179 + 6)), .ref (gB G + (179 + 7)), .int 0, .int 0, .ref (gB G + (179 + 8)), .ref (gB G + (179 + 9)), .ref (gB G + (179 + 10)), .ref (gB G + (179 + 11)), .int 0, .long 0, .int 0, .int 0, .ref (gB G + (179 + 12)), .ref (gB G + (179 + 13)), .ref (gB G + (179 + 14)), .int 0, .int 0, .null, .null, .null, .int 0]), .inl (G.2.2.1.1, 80, .inl (fun _ => 0)), .inl (G.2.2.1.1, 16, .inl (fun _ => 0)), .inl (G.2.2.1.1, 16, .inl (fun _ => 0)), .inl (G.2.2.1.1, 16, .inl (fun _ => 0)), .inl (G.2.2.1.1, 128, .inl (fun _ => 0)), .inl (G.2.2.1.1, 128, .inl (fun _ => 0)), .inl (G.2.2.1.1, 1792, .inl (fun _ => 0)), .inl (G.2.2.1.1, 256, .inl (fun _ => 0)), .inl (G.2.2.1.2.1, 2, .inl (fun _ => 0)), .inl (G.2.2.1.1, 6, .inl (fun _ => 0)), .inl (G.2.2.1.1, 6, .inl (fun _ => 0)), .inl (G.2.2.1.1, 8, .inl (fun _ => 0)), .inl (G.2.2.1.1, 6, .inl (fun _ => 0)), .inl (G.2.2.1.1, 64, .inl (fun _ => 0)), .inl (G.2.2.1.1, 16, .inl (fun _ => 0))]) rfl ?_
  refine hc_putF (k := 179) (m := 16) (ci := 10) 0 rfl rfl rfl uw_X10 tyX10 tyX10_ok nmX10 24 (by decide) fl_RX10_53 rfl rfl rfl rfl rfl (Nat.le_of_ble_eq_true rfl) dX10_init_124 ?_
  refine hc_es (k := 179) (m := 16) (es' := [.inr (10, [.ref (gB G + (179 + 1)), .int 0, .int 0, .ref (gB G + (179 + 2)), .ref (gB G + (179 + 3)), .ref (gB G + (179 + 4)), .ref (gB G + (179 + 5)), .ref (gB G + (179 + 6)), .ref (gB G + (179 + 7)), .int 0, .int 0, .ref (gB G + (179 + 8)), .ref (gB G + (179 + 9)), .ref (gB G + (179 + 10)), .ref (gB G + (179 + 11)), .int 0, .long 0, .int 0, .int 0, .ref (gB G + (179 + 12)), .ref (gB G + (179 + 13)), .ref (gB G + (179 + 14)), .int 0, .int 0, .ref (gB G + (179 + 15)), .null, .null, .int 0]), .inl (G.2.2.1.1, 80, .inl (fun _ => 0)), .inl (G.2.2.1.1, 16, .inl (fun _ => 0)), .inl (G.2.2.1.1, 16, .inl (fun _ => 0)), .inl (G.2.2.1.1, 16, .inl (fun _ => 0)), .inl (G.2.2.1.1, 128, .inl (fun _ => 0)), .inl (G.2.2.1.1, 128, .inl (fun _ => 0)), .inl (G.2.2.1.1, 1792, .inl (fun _ => 0)), .inl (G.2.2.1.1, 256, .inl (fun _ => 0)), .inl (G.2.2.1.2.1, 2, .inl (fun _ => 0)), .inl (G.2.2.1.1, 6, .inl (fun _ => 0)), .inl (G.2.2.1.1, 6, .inl (fun _ => 0)), .inl (G.2.2.1.1, 8, .inl (fun _ => 0)), .inl (G.2.2.1.1, 6, .inl (fun _ => 0)), .inl (G.2.2.1.1, 64, .inl (fun _ => 0)), .inl (G.2.2.1.1, 16, .inl (fun _ => 0))]) rfl ?_
  refine sv_aload_n 0 dX10_init_127 rfl ?_
  refine sv_bipush (v := 16) dX10_init_128 (by decide) ?_
  refine hc_newI (k := 179) (m := 16) (len := 16) rfl (by decide) rfl (Nat.le_of_ble_eq_true rfl) (Nat.le_of_ble_eq_true rfl) (Nat.le_of_ble_eq_true rfl) dX10_init_130 ?_
  refine hc_es (k := 179) (m := 17) (es' := [.inr (10, [.ref (gB G + (179 + 1)), .int 0, .int 0, .ref (gB G + (179 + 2)), .ref (gB G + (179 + 3)), .ref (gB G + (179 + 4)), .ref (gB G + (179 + 5)), .ref (gB G + (179 + 6)), .ref (gB G + (179 + 7)), .int 0, .int 0, .ref (gB G + (179 + 8)), .ref (gB G + (179 + 9)), .ref (gB G + (179 + 10)), .ref (gB G + (179 + 11)), .int 0, .long 0, .int 0, .int 0, .ref (gB G + (179 + 12)), .ref (gB G + (179 + 13)), .ref (gB G + (179 + 14)), .int 0, .int 0, .ref (gB G + (179 + 15)), .null, .null, .int 0]), .inl (G.2.2.1.1, 80, .inl (fun _ => 0)), .inl (G.2.2.1.1, 16, .inl (fun _ => 0)), .inl (G.2.2.1.1, 16, .inl (fun _ => 0)), .inl (G.2.2.1.1, 16, .inl (fun _ => 0)), .inl (G.2.2.1.1, 128, .inl (fun _ => 0)), .inl (G.2.2.1.1, 128, .inl (fun _ => 0)), .inl (G.2.2.1.1, 1792, .inl (fun _ => 0)), .inl (G.2.2.1.1, 256, .inl (fun _ => 0)), .inl (G.2.2.1.2.1, 2, .inl (fun _ => 0)), .inl (G.2.2.1.1, 6, .inl (fun _ => 0)), .inl (G.2.2.1.1, 6, .inl (fun _ => 0)), .inl (G.2.2.1.1, 8, .inl (fun _ => 0)), .inl (G.2.2.1.1, 6, .inl (fun _ => 0)), .inl (G.2.2.1.1, 64, .inl (fun _ => 0)), .inl (G.2.2.1.1, 16, .inl (fun _ => 0)), .inl (G.2.2.1.1, 16, .inl (fun _ => 0))]) rfl ?_
  refine hc_putF (k := 179) (m := 17) (ci := 10) 0 rfl rfl rfl uw_X10 tyX10 tyX10_ok nmX10 25 (by decide) fl_RX10_56 rfl rfl rfl rfl rfl (Nat.le_of_ble_eq_true rfl) dX10_init_132 ?_
  refine hc_es (k := 179) (m := 17) (es' := [.inr (10, [.ref (gB G + (179 + 1)), .int 0, .int 0, .ref (gB G + (179 + 2)), .ref (gB G + (179 + 3)), .ref (gB G + (179 + 4)), .ref (gB G + (179 + 5)), .ref (gB G + (179 + 6)), .ref (gB G + (179 + 7)), .int 0, .int 0, .ref (gB G + (179 + 8)), .ref (gB G + (179 + 9)), .ref (gB G + (179 + 10)), .ref (gB G + (179 + 11)), .int 0, .long 0, .int 0, .int 0, .ref (gB G + (179 + 12)), .ref (gB G + (179 + 13)), .ref (gB G + (179 + 14)), .int 0, .int 0, .ref (gB G + (179 + 15)), .ref (gB G + (179 + 16)), .null, .int 0]), .inl (G.2.2.1.1, 80, .inl (fun _ => 0)), .inl (G.2.2.1.1, 16, .inl (fun _ => 0)), .inl (G.2.2.1.1, 16, .inl (fun _ => 0)), .inl (G.2.2.1.1, 16, .inl (fun _ => 0)), .inl (G.2.2.1.1, 128, .inl (fun _ => 0)), .inl (G.2.2.1.1, 128, .inl (fun _ => 0)), .inl (G.2.2.1.1, 1792, .inl (fun _ => 0)), .inl (G.2.2.1.1, 256, .inl (fun _ => 0)), .inl (G.2.2.1.2.1, 2, .inl (fun _ => 0)), .inl (G.2.2.1.1, 6, .inl (fun _ => 0)), .inl (G.2.2.1.1, 6, .inl (fun _ => 0)), .inl (G.2.2.1.1, 8, .inl (fun _ => 0)), .inl (G.2.2.1.1, 6, .inl (fun _ => 0)), .inl (G.2.2.1.1, 64, .inl (fun _ => 0)), .inl (G.2.2.1.1, 16, .inl (fun _ => 0)), .inl (G.2.2.1.1, 16, .inl (fun _ => 0))]) rfl ?_
  refine sv_aload_n 0 dX10_init_135 rfl ?_
  refine sv_bipush (v := 16) dX10_init_136 (by decide) ?_
  refine hc_newI (k := 179) (m := 17) (len := 16) rfl (by decide) rfl (Nat.le_of_ble_eq_true rfl) (Nat.le_of_ble_eq_true rfl) (Nat.le_of_ble_eq_true rfl) dX10_init_138 ?_
  refine hc_es (k := 179) (m := 18) (es' := [.inr (10, [.ref (gB G + (179 + 1)), .int 0, .int 0, .ref (gB G + (179 + 2)), .ref (gB G + (179 + 3)), .ref (gB G + (179 + 4)), .ref (gB G + (179 + 5)), .ref (gB G + (179 + 6)), .ref (gB G + (179 + 7)), .int 0, .int 0, .ref (gB G + (179 + 8)), .ref (gB G + (179 + 9)), .ref (gB G + (179 + 10)), .ref (gB G + (179 + 11)), .int 0, .long 0, .int 0, .int 0, .ref (gB G + (179 + 12)), .ref (gB G + (179 + 13)), .ref (gB G + (179 + 14)), .int 0, .int 0, .ref (gB G + (179 + 15)), .ref (gB G + (179 + 16)), .null, .int 0]), .inl (G.2.2.1.1, 80, .inl (fun _ => 0)), .inl (G.2.2.1.1, 16, .inl (fun _ => 0)), .inl (G.2.2.1.1, 16, .inl (fun _ => 0)), .inl (G.2.2.1.1, 16, .inl (fun _ => 0)), .inl (G.2.2.1.1, 128, .inl (fun _ => 0)), .inl (G.2.2.1.1, 128, .inl (fun _ => 0)), .inl (G.2.2.1.1, 1792, .inl (fun _ => 0)), .inl (G.2.2.1.1, 256, .inl (fun _ => 0)), .inl (G.2.2.1.2.1, 2, .inl (fun _ => 0)), .inl (G.2.2.1.1, 6, .inl (fun _ => 0)), .inl (G.2.2.1.1, 6, .inl (fun _ => 0)), .inl (G.2.2.1.1, 8, .inl (fun _ => 0)), .inl (G.2.2.1.1, 6, .inl (fun _ => 0)), .inl (G.2.2.1.1, 64, .inl (fun _ => 0)), .inl (G.2.2.1.1, 16, .inl (fun _ => 0)), .inl (G.2.2.1.1, 16, .inl (fun _ => 0)), .inl (G.2.2.1.1, 16, .inl (fun _ => 0))]) rfl ?_
  refine hc_putF (k := 179) (m := 18) (ci := 10) 0 rfl rfl rfl uw_X10 tyX10 tyX10_ok nmX10 26 (by decide) fl_RX10_59 rfl rfl rfl rfl rfl (Nat.le_of_ble_eq_true rfl) dX10_init_140 ?_
  refine hc_es (k := 179) (m := 18) (es' := [.inr (10, [.ref (gB G + (179 + 1)), .int 0, .int 0, .ref (gB G + (179 + 2)), .ref (gB G + (179 + 3)), .ref (gB G + (179 + 4)), .ref (gB G + (179 + 5)), .ref (gB G + (179 + 6)), .ref (gB G + (179 + 7)), .int 0, .int 0, .ref (gB G + (179 + 8)), .ref (gB G + (179 + 9)), .ref (gB G + (179 + 10)), .ref (gB G + (179 + 11)), .int 0, .long 0, .int 0, .int 0, .ref (gB G + (179 + 12)), .ref (gB G + (179 + 13)), .ref (gB G + (179 + 14)), .int 0, .int 0, .ref (gB G + (179 + 15)), .ref (gB G + (179 + 16)), .ref (gB G + (179 + 17)), .int 0]), .inl (G.2.2.1.1, 80, .inl (fun _ => 0)), .inl (G.2.2.1.1, 16, .inl (fun _ => 0)), .inl (G.2.2.1.1, 16, .inl (fun _ => 0)), .inl (G.2.2.1.1, 16, .inl (fun _ => 0)), .inl (G.2.2.1.1, 128, .inl (fun _ => 0)), .inl (G.2.2.1.1, 128, .inl (fun _ => 0)), .inl (G.2.2.1.1, 1792, .inl (fun _ => 0)), .inl (G.2.2.1.1, 256, .inl (fun _ => 0)), .inl (G.2.2.1.2.1, 2, .inl (fun _ => 0)), .inl (G.2.2.1.1, 6, .inl (fun _ => 0)), .inl (G.2.2.1.1, 6, .inl (fun _ => 0)), .inl (G.2.2.1.1, 8, .inl (fun _ => 0)), .inl (G.2.2.1.1, 6, .inl (fun _ => 0)), .inl (G.2.2.1.1, 64, .inl (fun _ => 0)), .inl (G.2.2.1.1, 16, .inl (fun _ => 0)), .inl (G.2.2.1.1, 16, .inl (fun _ => 0)), .inl (G.2.2.1.1, 16, .inl (fun _ => 0))]) rfl ?_
  refine sv_aload_n 0 dX10_init_143 rfl ?_
  refine sv_bipush (v := -9) dX10_init_144 (by decide) ?_
  refine hc_put (k := 179) (m := 18) (ci := 10) 0 rfl rfl rfl uw_X10 tyX10 tyX10_ok nmX10 17 (by decide) fl_RX10_62 rfl rfl rfl (Nat.le_of_ble_eq_true rfl) dX10_init_146 ?_
  refine hc_es (k := 179) (m := 18) (es' := [.inr (10, [.ref (gB G + (179 + 1)), .int 0, .int 0, .ref (gB G + (179 + 2)), .ref (gB G + (179 + 3)), .ref (gB G + (179 + 4)), .ref (gB G + (179 + 5)), .ref (gB G + (179 + 6)), .ref (gB G + (179 + 7)), .int 0, .int 0, .ref (gB G + (179 + 8)), .ref (gB G + (179 + 9)), .ref (gB G + (179 + 10)), .ref (gB G + (179 + 11)), .int 0, .long 0, .int (-9), .int 0, .ref (gB G + (179 + 12)), .ref (gB G + (179 + 13)), .ref (gB G + (179 + 14)), .int 0, .int 0, .ref (gB G + (179 + 15)), .ref (gB G + (179 + 16)), .ref (gB G + (179 + 17)), .int 0]), .inl (G.2.2.1.1, 80, .inl (fun _ => 0)), .inl (G.2.2.1.1, 16, .inl (fun _ => 0)), .inl (G.2.2.1.1, 16, .inl (fun _ => 0)), .inl (G.2.2.1.1, 16, .inl (fun _ => 0)), .inl (G.2.2.1.1, 128, .inl (fun _ => 0)), .inl (G.2.2.1.1, 128, .inl (fun _ => 0)), .inl (G.2.2.1.1, 1792, .inl (fun _ => 0)), .inl (G.2.2.1.1, 256, .inl (fun _ => 0)), .inl (G.2.2.1.2.1, 2, .inl (fun _ => 0)), .inl (G.2.2.1.1, 6, .inl (fun _ => 0)), .inl (G.2.2.1.1, 6, .inl (fun _ => 0)), .inl (G.2.2.1.1, 8, .inl (fun _ => 0)), .inl (G.2.2.1.1, 6, .inl (fun _ => 0)), .inl (G.2.2.1.1, 64, .inl (fun _ => 0)), .inl (G.2.2.1.1, 16, .inl (fun _ => 0)), .inl (G.2.2.1.1, 16, .inl (fun _ => 0)), .inl (G.2.2.1.1, 16, .inl (fun _ => 0))]) rfl ?_
  refine sv_aload_n 0 dX10_init_149 rfl ?_
  refine hc_get (k := 179) (m := 18) (ci := 10) 0 rfl rfl rfl uw_X10 6 (by decide) fl_RX10_22 rfl dX10_init_150 ?_
  refine sv_iq (g := CF G S0 L0) (fun j hj => ?_) ?_
  · have hj : j < 197 := hj
    unfold hp
    by_cases z : j < 179
    · rw [if_pos z]; exact hlo j z
    · rw [if_neg z]
      obtain ⟨i, rfl⟩ : ∃ i, j = 179 + i := ⟨j - 179, by omega⟩
      rw [show 179 + i - 179 = i by omega]
      rcases (show i = 0 ∨ i = 1 ∨ i = 2 ∨ i = 3 ∨ i = 4 ∨ i = 5 ∨ i = 6 ∨ i = 7 ∨ i = 8 ∨ i = 9 ∨ i = 10 ∨ i = 11 ∨ i = 12 ∨ i = 13 ∨ i = 14 ∨ i = 15 ∨ i = 16 ∨ i = 17 by omega) with rfl | rfl | rfl | rfl | rfl | rfl | rfl | rfl | rfl | rfl | rfl | rfl | rfl | rfl | rfl | rfl | rfl | rfl
      · exact iq_eq (CF_179 G).symm
      · exact iq_eq (CF_z (c := shp 180) rfl (by decide +kernel) (by omega))
      · exact iq_eq (CF_z (c := shp 181) rfl (by decide +kernel) (by omega))
      · exact iq_eq (CF_z (c := shp 182) rfl (by decide +kernel) (by omega))
      · exact iq_eq (CF_z (c := shp 183) rfl (by decide +kernel) (by omega))
      · exact iq_eq (CF_z (c := shp 184) rfl (by decide +kernel) (by omega))
      · exact iq_eq (CF_z (c := shp 185) rfl (by decide +kernel) (by omega))
      · exact iq_eq (CF_z (c := shp 186) rfl (by decide +kernel) (by omega))
      · exact iq_eq (CF_z (c := shp 187) rfl (by decide +kernel) (by omega))
      · exact iq_eq (CF_z (c := shp 188) rfl (by decide +kernel) (by omega))
      · exact iq_eq (CF_z (c := shp 189) rfl (by decide +kernel) (by omega))
      · exact iq_eq (CF_z (c := shp 190) rfl (by decide +kernel) (by omega))
      · exact iq_eq (CF_z (c := shp 191) rfl (by decide +kernel) (by omega))
      · exact iq_eq (CF_z (c := shp 192) rfl (by decide +kernel) (by omega))
      · exact iq_eq (CF_z (c := shp 193) rfl (by decide +kernel) (by omega))
      · exact iq_eq (CF_z (c := shp 194) rfl (by decide +kernel) (by omega))
      · exact iq_eq (CF_z (c := shp 195) rfl (by decide +kernel) (by omega))
      · exact iq_eq (CF_z (c := shp 196) rfl (by decide +kernel) (by omega))
  refine sv_callS (n := 197) (As := [.ref (gB G + 184)]) (rest := []) (e_X10_clear G S0 L0 184 sh_184) (w4 ml_RX10_66 st_X10_clear in_RX10 cd_X10_clear) nm_X10_clear ⟨Nat.le_of_ble_eq_true rfl, Nat.le_of_ble_eq_true rfl⟩ rfl (Nat.le_of_ble_eq_true rfl) dX10_init_153 ⟨Nat.le_of_ble_eq_true rfl, Nat.le_of_ble_eq_true rfl⟩ ?_
  intro r n' f' hh
  obtain ⟨rfl, rfl, hf'⟩ := hh
  refine sv_vret rfl dX10_init_156 ⟨rfl, rfl, rfl, rfl, fun j hj => ?_⟩
  have h := hf' j hj
  rw [S0_184] at h
  exact iq_ceq h
