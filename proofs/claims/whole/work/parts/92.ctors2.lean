/-- what a cell is, told another way -/
def iq (e e' : va_E) : Prop := ∀ (D : va_G) (cl : List vw_C) (a : Nat) (H : Heap), va_at D cl (a, e) H → va_at D cl (a, e') H
theorem iq_rf (e : va_E) : iq e e := fun _ _ _ _ h => h
theorem iq_eq {e e' : va_E} (h : e = e') : iq e e' := h ▸ iq_rf e
theorem iq_ceq {e e' : va_E} (h : ceq e e') : iq e e' := fun _ _ _ _ ha => ceq_at h ha
theorem iq_ref {c : ClassId} {len : Nat} {g g' : Nat → Option Nat} (h : ∀ j, j < len → g j = g' j) : iq (.inl (c, len, .inr (.inr (.inr (.inr g))))) (.inl (c, len, .inr (.inr (.inr (.inr g'))))) := by
  intro D cl a H ha
  show H[a]? = some (vp_cell c (len, .inr (.inr (.inr (.inr g')))))
  have ha : H[a]? = some (vp_cell c (len, .inr (.inr (.inr (.inr g))))) := ha
  rw [ha, vp_cell_q, vp_cell_q]
  congr 1
  unfold arrV
  congr 1
  congr 1
  funext j
  show va_rf (g j.val) = va_rf (g' j.val)
  rw [h j.val j.isLt]
theorem sv_iq {G : GT} {R : Room} {own nm : String} {cc : ByteArray} {nL : Nat} {rt : Option FieldType} {Post : Option Value → Nat → Nat → Nat → (Nat → va_E) → Prop} {cells slots n : Nat} {f : Nat → va_E} {pc : Nat} {ls : List (Nat × Value)} {st : List Value} {g : Nat → va_E} (h : ∀ k, k < n → iq (f k) (g k)) (k : sv_V G R own nm cc nL rt Post cells slots n g pc ls st) : sv_V G R own nm cc nL rt Post cells slots n f pc ls st :=
  fun p e s m args below meth c Q C H locs ls0 hP hS hl => k p e s m args below meth c Q C H locs ls0 ⟨hP.1, fun j hj => h j hj _ _ _ _ (hP.2 j hj)⟩ hS hl
/-- what stands when both have just been made -/
def S0 : Nat → Nat → Int32 := fun k => if k = 179 then (fun j => if j = 17 then -9 else 0) else if shp k = (11, 96) then disRow else fun _ => 0
def L0 : Nat → Int64 := fun _ => 0
theorem S0_z {k : Nat} {c : Nat × Nat} (h : shp k = c) (hc : c ≠ (11, 96)) (hk : k ≠ 179) : S0 k = fun _ => 0 := by unfold S0; rw [if_neg hk, h, if_neg hc]
theorem S0_d {k : Nat} (h : shp k = (11, 96)) (hk : k ≠ 179) : S0 k = disRow := by unfold S0; rw [if_neg hk, if_pos h]
theorem CF_z {G : GT} {k : Nat} {c : Nat × Nat} (h : shp k = c) (hc : c ≠ (11, 96)) (hk : k ≠ 179) : cellOf G k c (fun _ => 0) 0 = CF G S0 L0 k := by unfold CF; rw [h, S0_z h hc hk]; rfl
theorem CF_d {G : GT} {k : Nat} (h : shp k = (11, 96)) (hk : k ≠ 179) : iq (.inl (G.2.2.1.1, 96, .inl (bgr (fun _ => 0) 16))) (CF G S0 L0 k) := by
  refine iq_ceq (Or.inr ⟨_, _, _, disRow, rfl, ?_, fun j hj => ?_⟩)
  · unfold CF; rw [h, S0_d h hk]; rfl
  · unfold bgr; rw [if_pos (by omega)]
/-- the cells of a new state are what they are to be -/
theorem st_CF {G : GT} {k : Nat} (h : isState k) (hk : k + 8 ≤ 179) : ∀ i, i < 8 → iq (((dsX6 G k)[i]?).getD dE) (CF G S0 L0 (k + i)) := by
  intro i hi
  obtain ⟨h0, ⟨h1, h2, h3, h4⟩, ⟨h5, h6⟩, h7⟩ := h
  rcases (show i = 0 ∨ i = 1 ∨ i = 2 ∨ i = 3 ∨ i = 4 ∨ i = 5 ∨ i = 6 ∨ i = 7 by omega) with rfl | rfl | rfl | rfl | rfl | rfl | rfl | rfl
  · exact iq_eq (CF_z h0 (by decide) (by omega))
  · exact iq_eq (CF_z h1 (by decide) (by omega))
  · exact iq_eq (CF_z h2 (by decide) (by omega))
  · exact iq_eq (CF_z h3 (by decide) (by omega))
  · exact iq_eq (CF_z h4 (by decide) (by omega))
  · exact iq_eq (CF_z h5 (by decide) (by omega))
  · exact CF_d h6 (by omega)
  · exact iq_eq (CF_z h7 (by decide) (by omega))
theorem st_ring : ∀ i, i < 14 → isState (31 + 8 * i) := fun i hi => by
  have h : ∀ i, i < 14 → shp (31 + 8 * i) = (6, 0) ∧ (shp (31 + 8 * i + 1) = (3, 0) ∧ shp (31 + 8 * i + 1 + 1) = (11, 4) ∧ shp (31 + 8 * i + 1 + 2) = (11, 8) ∧ shp (31 + 8 * i + 1 + 3) = (11, 8)) ∧ (shp (31 + 8 * i + 5) = (0, 0) ∧ shp (31 + 8 * i + 5 + 1) = (11, 96)) ∧ shp (31 + 8 * i + 7) = (11, 3) := by decide +kernel
  exact h i hi
theorem st_slot : ∀ i, i < 2 → isState (163 + 8 * i) := fun i hi => by
  have h : ∀ i, i < 2 → shp (163 + 8 * i) = (6, 0) ∧ (shp (163 + 8 * i + 1) = (3, 0) ∧ shp (163 + 8 * i + 1 + 1) = (11, 4) ∧ shp (163 + 8 * i + 1 + 2) = (11, 8) ∧ shp (163 + 8 * i + 1 + 3) = (11, 8)) ∧ (shp (163 + 8 * i + 5) = (0, 0) ∧ shp (163 + 8 * i + 5 + 1) = (11, 96)) ∧ shp (163 + 8 * i + 7) = (11, 3) := by decide +kernel
  exact h i hi
theorem ce_1 {G : GT} : ∀ i, i < 2 → iq (((dsX8 G 1)[i]?).getD dE) (CF G S0 L0 (1 + i)) := by
  intro i hi
  rcases (show i = 0 ∨ i = 1 by omega) with rfl | rfl
  · exact iq_eq (CF_z (c := shp 1) rfl (by decide +kernel) (by omega))
  · exact iq_eq (CF_z (c := shp 2) rfl (by decide +kernel) (by omega))
theorem ce_3 {G : GT} : ∀ i, i < 5 → iq (((dsX4 G 3)[i]?).getD dE) (CF G S0 L0 (3 + i)) := by
  intro i hi
  rcases (show i = 0 ∨ i = 1 ∨ i = 2 ∨ i = 3 ∨ i = 4 by omega) with rfl | rfl | rfl | rfl | rfl
  · exact iq_eq (CF_z (c := shp 3) rfl (by decide +kernel) (by omega))
  · exact iq_eq (CF_z (c := shp 4) rfl (by decide +kernel) (by omega))
  · exact iq_eq (CF_z (c := shp 5) rfl (by decide +kernel) (by omega))
  · exact iq_eq (CF_z (c := shp 6) rfl (by decide +kernel) (by omega))
  · exact iq_eq (CF_z (c := shp 7) rfl (by decide +kernel) (by omega))
theorem ce_8 {G : GT} : ∀ i, i < 5 → iq (((dsX4 G 8)[i]?).getD dE) (CF G S0 L0 (8 + i)) := by
  intro i hi
  rcases (show i = 0 ∨ i = 1 ∨ i = 2 ∨ i = 3 ∨ i = 4 by omega) with rfl | rfl | rfl | rfl | rfl
  · exact iq_eq (CF_z (c := shp 8) rfl (by decide +kernel) (by omega))
  · exact iq_eq (CF_z (c := shp 9) rfl (by decide +kernel) (by omega))
  · exact iq_eq (CF_z (c := shp 10) rfl (by decide +kernel) (by omega))
  · exact iq_eq (CF_z (c := shp 11) rfl (by decide +kernel) (by omega))
  · exact iq_eq (CF_z (c := shp 12) rfl (by decide +kernel) (by omega))
theorem ce_145 {G : GT} : ∀ i, i < 3 → iq (((dsX5 G 145)[i]?).getD dE) (CF G S0 L0 (145 + i)) := by
  intro i hi
  rcases (show i = 0 ∨ i = 1 ∨ i = 2 by omega) with rfl | rfl | rfl
  · exact iq_eq (CF_z (c := shp 145) rfl (by decide +kernel) (by omega))
  · exact iq_eq (CF_z (c := shp 146) rfl (by decide +kernel) (by omega))
  · exact iq_eq (CF_z (c := shp 147) rfl (by decide +kernel) (by omega))
theorem ce_148 {G : GT} : ∀ i, i < 5 → iq (((dsX1 G 148)[i]?).getD dE) (CF G S0 L0 (148 + i)) := by
  intro i hi
  rcases (show i = 0 ∨ i = 1 ∨ i = 2 ∨ i = 3 ∨ i = 4 by omega) with rfl | rfl | rfl | rfl | rfl
  · exact iq_eq (CF_z (c := shp 148) rfl (by decide +kernel) (by omega))
  · exact iq_eq (CF_z (c := shp 149) rfl (by decide +kernel) (by omega))
  · exact iq_eq (CF_z (c := shp 150) rfl (by decide +kernel) (by omega))
  · exact iq_eq (CF_z (c := shp 151) rfl (by decide +kernel) (by omega))
  · exact iq_eq (CF_z (c := shp 152) rfl (by decide +kernel) (by omega))
theorem ce_153 {G : GT} : ∀ i, i < 10 → iq (((dsX7 G 153)[i]?).getD dE) (CF G S0 L0 (153 + i)) := by
  intro i hi
  rcases (show i = 0 ∨ i = 1 ∨ i = 2 ∨ i = 3 ∨ i = 4 ∨ i = 5 ∨ i = 6 ∨ i = 7 ∨ i = 8 ∨ i = 9 by omega) with rfl | rfl | rfl | rfl | rfl | rfl | rfl | rfl | rfl | rfl
  · exact iq_eq (CF_z (c := shp 153) rfl (by decide +kernel) (by omega))
  · exact iq_eq (CF_z (c := shp 154) rfl (by decide +kernel) (by omega))
  · exact iq_eq (CF_z (c := shp 155) rfl (by decide +kernel) (by omega))
  · exact iq_eq (CF_z (c := shp 156) rfl (by decide +kernel) (by omega))
  · exact iq_eq (CF_z (c := shp 157) rfl (by decide +kernel) (by omega))
  · exact iq_eq (CF_z (c := shp 158) rfl (by decide +kernel) (by omega))
  · exact iq_eq (CF_z (c := shp 159) rfl (by decide +kernel) (by omega))
  · exact iq_eq (CF_z (c := shp 160) rfl (by decide +kernel) (by omega))
  · exact iq_eq (CF_z (c := shp 161) rfl (by decide +kernel) (by omega))
  · exact iq_eq (CF_z (c := shp 162) rfl (by decide +kernel) (by omega))
def rgF (G : GT) (p : Nat) : Nat → Option Nat := fun i => if i < p then some (gB G + (31 + 8 * i)) else none
abbrev rgE (G : GT) (p : Nat) : va_E := .inl (G.2.2.1.2.2, 14, .inr (.inr (.inr (.inr (rgF G p)))))
abbrev hiE (G : GT) : va_E := .inr (2, [.ref (gB G + 30), .int 0, .int 0])
def hq (G : GT) (g : Nat → va_E) (p : Nat) : Nat → va_E := fun j => if j < 29 then g j else if j = 29 then hiE G else if j = 30 then rgE G p else CF G S0 L0 j
theorem rg_s (G : GT) (p : Nat) : va_up (rgF G p) p (some (gB G + (31 + 8 * p))) = rgF G (p + 1) := by
  funext i
  unfold va_up rgF
  by_cases z : i = p
  · rw [if_pos z, if_pos (by omega), z]
  · rw [if_neg z]
    by_cases y : i < p
    · rw [if_pos y, if_pos (by omega)]
    · rw [if_neg y, if_neg (by omega)]
abbrev R_X2_init : Room := { frames := 4, cells := 113, slots := 1904, locals := 83 }
def hiP (G : GT) (g : Nat → va_E) : Option Value → Nat → (Nat → va_E) → Prop := fun r n' f' => r = none ∧ n' = 143 ∧ (∀ j, j < 29 → f' j = g j) ∧ ∀ j, 29 ≤ j → j < 143 → iq (f' j) (CF G S0 L0 j)
set_option maxRecDepth 100000 in
set_option maxHeartbeats 4000000 in
theorem i_X2L (G : GT) (g : Nat → va_E) : ∀ (m p : Nat), 14 - p = m → p ≤ 14 → sv_V G R_X2_init RX2 "<init>" cX2_init 2 none (fun r c s n' f' => c = R_X2_init.cells ∧ s = R_X2_init.slots ∧ hiP G g r n' f') (1 + 8 * p) (14 + 135 * p) (31 + 8 * p) (hq G g p) 15 [(1, .int (nI p)), (0, .ref (gB G + 29))] [] := by
  intro m
  induction m using Nat.strongRecOn
  rename_i m ih
  intro p hm hple
  refine sv_iload_n 0 dX2_init_15 rfl ?_
  refine sv_bipush (v := 14) dX2_init_16 (by decide) ?_
  refine sv_icmp_ge (tgt := 40) dX2_init_18 (by decide) (fun c5 => ?_) (fun c5 => ?_)
  · obtain rfl : p = 14 := by have := (nI_leI (a := 14) (b := p) (by omega) (by omega)).mp c5; omega
    refine sv_vret rfl dX2_init_40 ⟨rfl, rfl, rfl, rfl, fun j hj => ?_, fun j h1 h2 => ?_⟩
    · unfold hq; rw [if_pos hj]
    · unfold hq
      rw [if_neg (by omega)]
      by_cases z : j = 29
      · rw [if_pos z, z]; exact iq_eq (CF_z (c := shp 29) rfl (by decide +kernel) (by omega))
      · rw [if_neg z]
        by_cases y : j = 30
        · rw [if_pos y, y]
          have e : CF G S0 L0 30 = .inl (G.2.2.1.2.2, 14, .inr (.inr (.inr (.inr (fun i => some (gB G + (30 + 1 + 8 * i))))))) := CF_13 (q := 30) (by decide +kernel)
          rw [e]
          exact iq_ref (fun i hi => by unfold rgF; rw [if_pos hi])
        · rw [if_neg y]; exact iq_rf _
  · have h5 : p < 14 := Nat.lt_of_not_le (fun z => c5 (nI_le (a := 14) z (by omega)))
    have g29 : hq G g p 29 = hiE G := rfl
    have g30 : hq G g p 30 = rgE G p := rfl
    refine sv_aload_n 1 dX2_init_21 rfl ?_
    refine sv_get (ci := 2) rfl uw_X2 0 (by decide) fl_RX2_11 (by omega) g29 rfl dX2_init_22 ?_
    refine sv_iload_n 0 dX2_init_25 rfl ?_
    refine sv_new (ci := 6) (fs := [.null, .null, .null, .int 0, .int 0, .int 0, .int 0]) rfl uw_X6 tyX6 tyX6_ok cl_RX2_9 ib_RX6 in_RX6 (fun j hj => by rcases (show j = 0 ∨ j = 1 ∨ j = 2 ∨ j = 3 ∨ j = 4 ∨ j = 5 ∨ j = 6 by omega) with rfl | rfl | rfl | rfl | rfl | rfl | rfl <;> rfl) (by show 1 + 8 * p + 1 ≤ 113; omega) (by show 14 + 135 * p + 7 ≤ 1904; omega) dX2_init_26 ?_
    refine sv_dup dX2_init_29 rfl ?_
    refine sv_callIN (As := []) (rest := [.ref (gB G + (31 + 8 * p)), .int (nI p), .ref (gB G + 30)]) (i_X6 G (31 + 8 * p) _ (vaup_at _ _ _)) ml_RX2_17 (w3 im_X6_init in_RX6 cd_X6_init) rfl nm_X6_init ⟨Nat.le_of_ble_eq_true rfl, Nat.le_of_ble_eq_true rfl⟩ rfl (Nat.le_of_ble_eq_true rfl) dX2_init_30 ⟨by show 1 + 8 * p + 1 + 7 ≤ 113; omega, by show 14 + 135 * p + 7 + 128 ≤ 1904; omega⟩ ?_
    intro r n' f' hh
    obtain ⟨rfl, rfl, hf'⟩ := hh
    have e8 : (dsX6 G (31 + 8 * p)).length = 8 := rfl
    rw [e8] at hf' ⊢
    refine sv_iq (g := hq G g p) (fun j hj => ?_) ?_
    · rw [hf' j hj]
      unfold hp
      by_cases z : j < 31 + 8 * p
      · rw [if_pos z, vaup_ne (by omega)]; exact iq_rf _
      · rw [if_neg z]
        obtain ⟨i, rfl⟩ : ∃ i, j = 31 + 8 * p + i := ⟨j - (31 + 8 * p), by omega⟩
        rw [show 31 + 8 * p + i - (31 + 8 * p) = i by omega]
        have e : hq G g p (31 + 8 * p + i) = CF G S0 L0 (31 + 8 * p + i) := by unfold hq; rw [if_neg (by omega), if_neg (by omega), if_neg (by omega)]
        rw [e]
        exact st_CF (st_ring p h5) (by omega) i (by omega)
    have g31 : hq G g p (31 + 8 * p) = CF G S0 L0 (31 + 8 * p) := by unfold hq; rw [if_neg (by omega), if_neg (by omega), if_neg (by omega)]
    refine sv_aast (k := 30) (k2 := 31 + 8 * p) (by omega) g30 (by omega) (g31.trans (CF_6 (st_ring p h5).1)) (vp_in_nI h5 (by decide)) dX2_init_33 ?_
    rw [nI_clamp (by omega)]
    refine sv_heap (g := hq G g (p + 1)) (fun j hj => ?_) ?_
    · unfold va_up hq
      by_cases z : j = 30
      · rw [if_pos z, z, if_neg (by decide), if_neg (by decide), if_pos rfl]; unfold rgE; rw [← rg_s]; rfl
      · rw [if_neg z]
        by_cases y : j < 29
        · rw [if_pos y, if_pos y]
        · rw [if_neg y, if_neg y]
          by_cases x : j = 29
          · rw [if_pos x, if_pos x]
          · rw [if_neg x, if_neg x, if_neg z, if_neg z]
    refine sv_iinc 0 (ls' := [(1, _), (0, _)]) dX2_init_34 rfl (nI_1 _) (by decide) rfl ?_
    refine sv_goto (tgt := 15) dX2_init_37 (by decide) ?_
    have := ih (14 - (p + 1)) (by omega) (p + 1) rfl (by omega)
    rw [show 31 + 8 * (p + 1) = 31 + 8 * p + 8 by omega, show 1 + 8 * (p + 1) = 1 + 8 * p + 1 + 7 by omega, show 14 + 135 * (p + 1) = 14 + 135 * p + 7 + 128 by omega] at this
    exact this
set_option maxRecDepth 100000 in
set_option maxHeartbeats 4000000 in
theorem i_X2 (G : GT) (g : Nat → va_E) (hg : g 29 = .inr (2, [.null, .int 0, .int 0])) : sv_Ct G yX2_init R_X2_init cX2_init 2 none [.ref (gB G + 29)] 30 g (hiP G g) := by
  refine sv_Ct.of (by decide) (Nat.le_of_ble_eq_true rfl) ?_
  show sv_V G R_X2_init RX2 "<init>" cX2_init 2 none _ 0 0 30 g 0 [(0, .ref (gB G + 29))] []
  refine sv_aload_n 0 dX2_init_0 rfl ?_
  refine sv_objInit ml_RX2_3 im_objInit cd_objInit (Nat.le_of_ble_eq_true rfl) (Nat.le_of_ble_eq_true rfl) dX2_init_1 ?_
  refine sv_heap (g := hp g 29 [.inr (2, [.null, .int 0, .int 0])]) (fun j hj => hp_one hg j hj) ?_
  refine sv_aload_n 0 dX2_init_4 rfl ?_
  refine sv_bipush (v := 14) dX2_init_5 (by decide) ?_
  refine hc_newR (k := 29) (m := 1) (len := 14) rfl cl_RX2_9 (by decide) rfl (Nat.le_of_ble_eq_true rfl) (Nat.le_of_ble_eq_true rfl) (Nat.le_of_ble_eq_true rfl) dX2_init_7 ?_
  refine hc_putF (k := 29) (ci := 2) 0 rfl rfl rfl uw_X2 tyX2 tyX2_ok nmX2 0 (by decide) fl_RX2_11 rfl rfl rfl rfl rfl (Nat.le_of_ble_eq_true rfl) dX2_init_10 ?_
  refine sv_iconst (v := 0) dX2_init_13 (by decide) ?_
  refine sv_istore_n (ls' := [(1, _), (0, _)]) dX2_init_14 (by decide) rfl ?_
  refine sv_heap (g := hq G g 0) (fun j hj => ?_) ?_
  · have hj : j < 31 := hj
    unfold hp hq
    by_cases z : j < 29
    · rw [if_pos z, if_pos z]
    · rw [if_neg z, if_neg z]
      rcases (show j = 29 ∨ j = 30 by omega) with rfl | rfl
      · rfl
      · rfl
  exact i_X2L G g _ 0 rfl (by omega)
