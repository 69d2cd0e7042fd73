theorem vaup2 (f : Nat → va_E) (k : Nat) (e e' : va_E) (j : Nat) : va_up (va_up f k e) k e' j = va_up f k e' j := by unfold va_up; by_cases z : j = k <;> simp [z]
theorem vaup_at (f : Nat → va_E) (k : Nat) (e : va_E) : va_up f k e k = e := by unfold va_up; rw [if_pos rfl]
theorem vaup_ne {f : Nat → va_E} {k j : Nat} {e : va_E} (h : j ≠ k) : va_up f k e j = f j := by unfold va_up; rw [if_neg h]
abbrev bkE (G : GT) (g : Nat → Int32) : va_E := .inl (G.2.2.1.1, 96, .inl g)
theorem hb_ist {G : GT} {R : Room} {own nm : String} {cc : ByteArray} {nL : Nat} {rt : Option FieldType} {Post : Option Value → Nat → Nat → Nat → (Nat → va_E) → Prop} {cells slots n : Nat} {f : Nat → va_E} {pc : Nat} {ls : List (Nat × Value)} {st : List Value} {k1 : Nat} {g : Nat → Int32} {i x : Int32} (hk : k1 < n) (a : Nat) (ha : i = nI a) (hl : a < 96) (d : decode cc pc = .ok (.iastore, 1)) (kk : sv_V G R own nm cc nL rt Post cells slots n (va_up f k1 (bkE G (upd g a x))) (pc + 1) ls st) : sv_V G R own nm cc nL rt Post cells slots n (va_up f k1 (bkE G g)) pc ls (.int x :: .int i :: .ref (gB G + k1) :: st) := by
  subst ha
  refine sv_iast hk (vaup_at _ _ _) (vp_in_nI hl (by decide)) d ?_
  rw [nI_clamp (by omega)]
  exact sv_heap (fun j _ => vaup2 _ _ _ _ j) kk
def dsr (g : Nat → Int32) (p : Nat) : Nat → Int32 := fun j => if 6 * p ≤ j ∧ j < 6 * p + 6 then disRow j else g j
theorem dsr_eq (g : Nat → Int32) (p : Nat) : upd (upd (upd (upd (upd (upd g (6 * p) 0) (6 * p + 1) (-9)) (6 * p + 2) (-9)) (6 * p + 3) (-9)) (6 * p + 4) 0) (6 * p + 5) 0 = dsr g p := by
  funext j
  have hd := dis_k p
  unfold dsr
  rw [upd_at, upd_at, upd_at, upd_at, upd_at, upd_at]
  by_cases c : 6 * p ≤ j ∧ j < 6 * p + 6
  · rw [if_pos c]
    rcases (show j = 6 * p ∨ j = 6 * p + 1 ∨ j = 6 * p + 2 ∨ j = 6 * p + 3 ∨ j = 6 * p + 4 ∨ j = 6 * p + 5 by omega) with z | z | z | z | z | z
    · rw [if_neg (by omega), if_neg (by omega), if_neg (by omega), if_neg (by omega), if_neg (by omega), if_pos z, z, hd.1]
    · rw [if_neg (by omega), if_neg (by omega), if_neg (by omega), if_neg (by omega), if_pos z, z, hd.2.1]
    · rw [if_neg (by omega), if_neg (by omega), if_neg (by omega), if_pos z, z, hd.2.2.1]
    · rw [if_neg (by omega), if_neg (by omega), if_pos z, z, hd.2.2.2.1]
    · rw [if_neg (by omega), if_pos z, z, hd.2.2.2.2.1]
    · rw [if_pos z, z, hd.2.2.2.2.2]
  · rw [if_neg c, if_neg (by omega), if_neg (by omega), if_neg (by omega), if_neg (by omega), if_neg (by omega), if_neg (by omega)]
set_option maxRecDepth 100000 in
set_option maxHeartbeats 4000000 in
theorem v_disarm (G : GT) (n k k1 : Nat) (f : Nat → va_E) (g : Nat → Int32) (hk : k < n) (hk1 : k1 < n) (hne : k ≠ k1) (hf : f k = .inr (0, [.ref (gB G + k1)])) (p : Nat) (hp : p < 16) : sv_Ct G yX0_disarm R_X0_disarm cX0_disarm 3 none [.ref (gB G + k), .int (nI p)] n (va_up f k1 (bkE G g)) (fun r n' f' => r = none ∧ n' = n ∧ ∀ j, j < n → f' j = va_up f k1 (bkE G (dsr g p)) j) := by
  refine sv_Ct.of (by decide) (Nat.le_of_ble_eq_true rfl) ?_
  have hfk : ∀ e, va_up f k1 e k = .inr (0, [.ref (gB G + k1)]) := fun e => by rw [vaup_ne hne]; exact hf
  show sv_V G R_X0_disarm RX0 "disarm" cX0_disarm 3 none _ 0 0 n (va_up f k1 (bkE G g)) 0 [(0, .ref (gB G + k)), (1, .int (nI p))] []
  refine sv_iload_n 1 dX0_disarm_0 rfl ?_
  refine sv_bipush (v := 6) dX0_disarm_1 (by decide) ?_
  refine sv_imul dX0_disarm_3 ?_
  refine sv_istore_n (ls' := [(2, _), (0, _), (1, _)]) dX0_disarm_4 (by decide) rfl ?_
  refine sv_aload_n 1 dX0_disarm_5 rfl ?_
  refine sv_get (ci := 0) rfl uw_X0 0 (by decide) fl_RX0_9 hk (hfk _) rfl dX0_disarm_6 ?_
  refine sv_iload_n 0 dX0_disarm_9 rfl ?_
  refine sv_iconst (v := 0) dX0_disarm_10 (by decide) ?_
  refine sv_iadd dX0_disarm_11 ?_
  refine sv_iconst (v := 0) dX0_disarm_12 (by decide) ?_
  refine hb_ist hk1 (6 * p + 0) (i6 p 0) (by omega) dX0_disarm_13 ?_
  refine sv_aload_n 1 dX0_disarm_14 rfl ?_
  refine sv_get (ci := 0) rfl uw_X0 0 (by decide) fl_RX0_9 hk (hfk _) rfl dX0_disarm_15 ?_
  refine sv_iload_n 0 dX0_disarm_18 rfl ?_
  refine sv_iconst (v := 1) dX0_disarm_19 (by decide) ?_
  refine sv_iadd dX0_disarm_20 ?_
  refine sv_bipush (v := -9) dX0_disarm_21 (by decide) ?_
  refine hb_ist hk1 (6 * p + 1) (i6 p 1) (by omega) dX0_disarm_23 ?_
  refine sv_aload_n 1 dX0_disarm_24 rfl ?_
  refine sv_get (ci := 0) rfl uw_X0 0 (by decide) fl_RX0_9 hk (hfk _) rfl dX0_disarm_25 ?_
  refine sv_iload_n 0 dX0_disarm_28 rfl ?_
  refine sv_iconst (v := 2) dX0_disarm_29 (by decide) ?_
  refine sv_iadd dX0_disarm_30 ?_
  refine sv_bipush (v := -9) dX0_disarm_31 (by decide) ?_
  refine hb_ist hk1 (6 * p + 2) (i6 p 2) (by omega) dX0_disarm_33 ?_
  refine sv_aload_n 1 dX0_disarm_34 rfl ?_
  refine sv_get (ci := 0) rfl uw_X0 0 (by decide) fl_RX0_9 hk (hfk _) rfl dX0_disarm_35 ?_
  refine sv_iload_n 0 dX0_disarm_38 rfl ?_
  refine sv_iconst (v := 3) dX0_disarm_39 (by decide) ?_
  refine sv_iadd dX0_disarm_40 ?_
  refine sv_bipush (v := -9) dX0_disarm_41 (by decide) ?_
  refine hb_ist hk1 (6 * p + 3) (i6 p 3) (by omega) dX0_disarm_43 ?_
  refine sv_aload_n 1 dX0_disarm_44 rfl ?_
  refine sv_get (ci := 0) rfl uw_X0 0 (by decide) fl_RX0_9 hk (hfk _) rfl dX0_disarm_45 ?_
  refine sv_iload_n 0 dX0_disarm_48 rfl ?_
  refine sv_iconst (v := 4) dX0_disarm_49 (by decide) ?_
  refine sv_iadd dX0_disarm_50 ?_
  refine sv_iconst (v := 0) dX0_disarm_51 (by decide) ?_
  refine hb_ist hk1 (6 * p + 4) (i6 p 4) (by omega) dX0_disarm_52 ?_
  refine sv_aload_n 1 dX0_disarm_53 rfl ?_
  refine sv_get (ci := 0) rfl uw_X0 0 (by decide) fl_RX0_9 hk (hfk _) rfl dX0_disarm_54 ?_
  refine sv_iload_n 0 dX0_disarm_57 rfl ?_
  refine sv_iconst (v := 5) dX0_disarm_58 (by decide) ?_
  refine sv_iadd dX0_disarm_59 ?_
  refine sv_iconst (v := 0) dX0_disarm_60 (by decide) ?_
  refine hb_ist hk1 (6 * p + 5) (i6 p 5) (by omega) dX0_disarm_61 ?_
  refine sv_vret rfl dX0_disarm_62 ⟨rfl, rfl, rfl, rfl, fun j _ => ?_⟩
  rw [← dsr_eq]
  rfl
def bgr (g : Nat → Int32) (p : Nat) : Nat → Int32 := fun j => if j < 6 * p then disRow j else g j
theorem bgr_0 (g : Nat → Int32) : bgr g 0 = g := by funext j; unfold bgr; rw [if_neg (by omega)]
theorem bgr_s (g : Nat → Int32) (p : Nat) : dsr (bgr g p) p = bgr g (p + 1) := by
  funext j
  unfold dsr bgr
  by_cases c : 6 * p ≤ j ∧ j < 6 * p + 6
  · rw [if_pos c, if_pos (by omega)]
  · rw [if_neg c]
    by_cases d : j < 6 * p
    · rw [if_pos d, if_pos (by omega)]
    · rw [if_neg d, if_neg (by omega)]
set_option maxRecDepth 100000 in
set_option maxHeartbeats 4000000 in
theorem v_beginL (G : GT) (n k k1 : Nat) (f : Nat → va_E) (g : Nat → Int32) (hk : k < n) (hk1 : k1 < n) (hne : k ≠ k1) (hf : f k = .inr (0, [.ref (gB G + k1)])) : ∀ (m p : Nat), 16 - p = m → p ≤ 16 → sv_V G R_X0_begin RX0 "begin" cX0_begin 2 none (fun r c s n' f' => c = R_X0_begin.cells ∧ s = R_X0_begin.slots ∧ (r = none ∧ n' = n ∧ ∀ j, j < n → f' j = va_up f k1 (bkE G (bgr g 16)) j)) 0 0 n (va_up f k1 (bkE G (bgr g p))) 2 [(1, .int (nI p)), (0, .ref (gB G + k))] [] := by
  intro m
  induction m using Nat.strongRecOn
  rename_i m ih
  intro p hm hp
  refine sv_iload_n 0 dX0_begin_2 rfl ?_
  refine sv_bipush (v := 16) dX0_begin_3 (by decide) ?_
  refine sv_icmp_ge (tgt := 19) dX0_begin_5 (by decide) (fun c5 => ?_) (fun c5 => ?_)
  · obtain rfl : p = 16 := by have := (nI_leI (a := 16) (b := p) (by omega) (by omega)).mp c5; omega
    exact sv_vret rfl dX0_begin_19 ⟨rfl, rfl, rfl, rfl, fun _ _ => rfl⟩
  · have h5 : p < 16 := Nat.lt_of_not_le (fun z => c5 (nI_le (a := 16) z (by omega)))
    refine sv_aload_n 1 dX0_begin_8 rfl ?_
    refine sv_iload_n 0 dX0_begin_9 rfl ?_
    refine sv_callV (As := [.int (nI p)]) (rest := []) (v_disarm G n k k1 f (bgr g p) hk hk1 hne hf p h5) (sv_w5 ml_RX0_18 im_X0_disarm sl_X0_disarm in_RX0 cd_X0_disarm) nm_X0_disarm ⟨Nat.le_of_ble_eq_true rfl, Nat.le_of_ble_eq_true rfl⟩ (ci := 0) rfl hk (by rw [vaup_ne hne]; exact hf) rfl (Nat.le_of_ble_eq_true rfl) dX0_begin_10 ⟨Nat.le_of_ble_eq_true rfl, Nat.le_of_ble_eq_true rfl⟩ ?_
    intro r n' f' hh
    obtain ⟨rfl, rfl, hf'⟩ := hh
    refine sv_heap (g := va_up f k1 (bkE G (bgr g (p + 1)))) (fun j hj => by rw [hf' j hj, bgr_s]) ?_
    refine sv_iinc 0 (ls' := [(1, _), (0, _)]) dX0_begin_13 rfl (nI_1 _) (by decide) rfl ?_
    refine sv_goto (tgt := 2) dX0_begin_16 (by decide) ?_
    exact ih (16 - (p + 1)) (by omega) (p + 1) rfl (by omega)
set_option maxRecDepth 100000 in
set_option maxHeartbeats 4000000 in
theorem v_begin (G : GT) (n k k1 : Nat) (f : Nat → va_E) (g : Nat → Int32) (hk : k < n) (hk1 : k1 < n) (hne : k ≠ k1) (hf : f k = .inr (0, [.ref (gB G + k1)])) : sv_Ct G yX0_begin R_X0_begin cX0_begin 2 none [.ref (gB G + k)] n (va_up f k1 (bkE G g)) (fun r n' f' => r = none ∧ n' = n ∧ ∀ j, j < n → f' j = va_up f k1 (bkE G (bgr g 16)) j) := by
  refine sv_Ct.of (by decide) (Nat.le_of_ble_eq_true rfl) ?_
  show sv_V G R_X0_begin RX0 "begin" cX0_begin 2 none _ 0 0 n (va_up f k1 (bkE G g)) 0 [(0, .ref (gB G + k))] []
  refine sv_iconst (v := 0) dX0_begin_0 (by decide) ?_
  refine sv_istore_n (ls' := [(1, _), (0, _)]) dX0_begin_1 (by decide) rfl ?_
  have h := v_beginL G n k k1 f g hk hk1 hne hf _ 0 rfl (by omega)
  rw [bgr_0] at h
  exact h
abbrev R_X3_init : Room := { frames := 1, cells := 3, slots := 20, locals := 12 }
def dsX3 (G : GT) (k : Nat) : List va_E := [.inr (3, [.ref (gB G + (k + 1)), .ref (gB G + (k + 2)), .ref (gB G + (k + 3)), .int 0, .int 0, .int 0, .int 0, .int 0]), .inl (G.2.2.1.1, 4, .inl (fun _ => 0)), .inl (G.2.2.1.1, 8, .inl (fun _ => 0)), .inl (G.2.2.1.1, 8, .inl (fun _ => 0))]
abbrev R_X0_init : Room := { frames := 2, cells := 1, slots := 96, locals := 43 }
def dsX0 (G : GT) (k : Nat) : List va_E := [.inr (0, [.ref (gB G + (k + 1))]), .inl (G.2.2.1.1, 96, .inl (bgr (fun _ => 0) 16))]
abbrev R_X6_init : Room := { frames := 3, cells := 7, slots := 128, locals := 63 }
def dsX6 (G : GT) (k : Nat) : List va_E := [.inr (6, [.ref (gB G + (k + 1)), .ref (gB G + (k + 5)), .ref (gB G + (k + 7)), .int 0, .int 0, .int 0, .int 0]), .inr (3, [.ref (gB G + (k + 2)), .ref (gB G + (k + 3)), .ref (gB G + (k + 4)), .int 0, .int 0, .int 0, .int 0, .int 0]), .inl (G.2.2.1.1, 4, .inl (fun _ => 0)), .inl (G.2.2.1.1, 8, .inl (fun _ => 0)), .inl (G.2.2.1.1, 8, .inl (fun _ => 0)), .inr (0, [.ref (gB G + (k + 6))]), .inl (G.2.2.1.1, 96, .inl (bgr (fun _ => 0) 16)), .inl (G.2.2.1.1, 3, .inl (fun _ => 0))]
abbrev R_X8_init : Room := { frames := 1, cells := 1, slots := 80, locals := 12 }
def dsX8 (G : GT) (k : Nat) : List va_E := [.inr (8, [.ref (gB G + (k + 1)), .int 0]), .inl (G.2.2.1.1, 80, .inl (fun _ => 0))]
abbrev R_X4_init : Room := { frames := 1, cells := 4, slots := 64, locals := 12 }
def dsX4 (G : GT) (k : Nat) : List va_E := [.inr (4, [.ref (gB G + (k + 1)), .ref (gB G + (k + 2)), .ref (gB G + (k + 3)), .ref (gB G + (k + 4)), .int 0]), .inl (G.2.2.1.1, 16, .inl (fun _ => 0)), .inl (G.2.2.1.1, 16, .inl (fun _ => 0)), .inl (G.2.2.1.1, 16, .inl (fun _ => 0)), .inl (G.2.2.1.1, 16, .inl (fun _ => 0))]
abbrev R_X5_init : Room := { frames := 1, cells := 2, slots := 12, locals := 12 }
def dsX5 (G : GT) (k : Nat) : List va_E := [.inr (5, [.ref (gB G + (k + 1)), .ref (gB G + (k + 2)), .int 0]), .inl (G.2.2.1.1, 6, .inl (fun _ => 0)), .inl (G.2.2.1.2.1, 6, .inl (fun _ => 0))]
abbrev R_X1_init : Room := { frames := 2, cells := 4, slots := 28, locals := 32 }
def dsX1 (G : GT) (k : Nat) : List va_E := [.inr (1, [.ref (gB G + (k + 1)), .int 0, .int 0]), .inr (3, [.ref (gB G + (k + 2)), .ref (gB G + (k + 3)), .ref (gB G + (k + 4)), .int 0, .int 0, .int 0, .int 0, .int 0]), .inl (G.2.2.1.1, 4, .inl (fun _ => 0)), .inl (G.2.2.1.1, 8, .inl (fun _ => 0)), .inl (G.2.2.1.1, 8, .inl (fun _ => 0))]
abbrev R_X7_init : Room := { frames := 2, cells := 9, slots := 2090, locals := 32 }
def dsX7 (G : GT) (k : Nat) : List va_E := [.inr (7, [.ref (gB G + (k + 1)), .ref (gB G + (k + 5)), .ref (gB G + (k + 6)), .ref (gB G + (k + 7)), .ref (gB G + (k + 8)), .ref (gB G + (k + 9)), .int 0, .int 0]), .inr (3, [.ref (gB G + (k + 2)), .ref (gB G + (k + 3)), .ref (gB G + (k + 4)), .int 0, .int 0, .int 0, .int 0, .int 0]), .inl (G.2.2.1.1, 4, .inl (fun _ => 0)), .inl (G.2.2.1.1, 8, .inl (fun _ => 0)), .inl (G.2.2.1.1, 8, .inl (fun _ => 0)), .inl (G.2.2.1.1, 6, .inl (fun _ => 0)), .inl (G.2.2.1.1, 6, .inl (fun _ => 0)), .inl (G.2.2.1.1, 6, .inl (fun _ => 0)), .inl (G.2.2.1.1, 1980, .inl (fun _ => 0)), .inl (G.2.2.1.1, 64, .inl (fun _ => 0))]
set_option maxRecDepth 100000 in
set_option maxHeartbeats 4000000 in
theorem i_X3 (G : GT) : ctI G yX3_init R_X3_init cX3_init 1 (.inr (3, [.null, .null, .null, .int 0, .int 0, .int 0, .int 0, .int 0])) (dsX3 G) := by
  refine ctI.of (by decide) (Nat.le_of_ble_eq_true rfl) (fun k g => ?_)
  refine sv_aload_n 0 dX3_init_0 rfl ?_
  refine sv_objInit ml_RX3_3 im_objInit cd_objInit (Nat.le_of_ble_eq_true rfl) (Nat.le_of_ble_eq_true rfl) dX3_init_1 ?_
  refine sv_aload_n 0 dX3_init_4 rfl ?_
  refine sv_iconst (v := 4) dX3_init_5 (by decide) ?_
  refine hc_newI (len := 4) rfl (by decide) rfl (Nat.le_of_ble_eq_true rfl) (Nat.le_of_ble_eq_true rfl) (Nat.le_of_ble_eq_true rfl) dX3_init_6 ?_
  refine hc_es (es' := [.inr (3, [.null, .null, .null, .int 0, .int 0, .int 0, .int 0, .int 0]), .inl (G.2.2.1.1, 4, .inl (fun _ => 0))]) rfl ?_
  refine hc_putF (ci := 3) 0 rfl rfl rfl uw_X3 tyX3 tyX3_ok nmX3 0 (by decide) fl_RX3_9 rfl rfl rfl rfl rfl (Nat.le_of_ble_eq_true rfl) dX3_init_8 ?_
  refine hc_es (es' := [.inr (3, [.ref (gB G + (k + 1)), .null, .null, .int 0, .int 0, .int 0, .int 0, .int 0]), .inl (G.2.2.1.1, 4, .inl (fun _ => 0))]) rfl ?_
  refine sv_aload_n 0 dX3_init_11 rfl ?_
  refine sv_bipush (v := 8) dX3_init_12 (by decide) ?_
  refine hc_newI (len := 8) rfl (by decide) rfl (Nat.le_of_ble_eq_true rfl) (Nat.le_of_ble_eq_true rfl) (Nat.le_of_ble_eq_true rfl) dX3_init_14 ?_
  refine hc_es (es' := [.inr (3, [.ref (gB G + (k + 1)), .null, .null, .int 0, .int 0, .int 0, .int 0, .int 0]), .inl (G.2.2.1.1, 4, .inl (fun _ => 0)), .inl (G.2.2.1.1, 8, .inl (fun _ => 0))]) rfl ?_
  refine hc_putF (ci := 3) 0 rfl rfl rfl uw_X3 tyX3 tyX3_ok nmX3 1 (by decide) fl_RX3_15 rfl rfl rfl rfl rfl (Nat.le_of_ble_eq_true rfl) dX3_init_16 ?_
  refine hc_es (es' := [.inr (3, [.ref (gB G + (k + 1)), .ref (gB G + (k + 2)), .null, .int 0, .int 0, .int 0, .int 0, .int 0]), .inl (G.2.2.1.1, 4, .inl (fun _ => 0)), .inl (G.2.2.1.1, 8, .inl (fun _ => 0))]) rfl ?_
  refine sv_aload_n 0 dX3_init_19 rfl ?_
  refine sv_bipush (v := 8) dX3_init_20 (by decide) ?_
  refine hc_newI (len := 8) rfl (by decide) rfl (Nat.le_of_ble_eq_true rfl) (Nat.le_of_ble_eq_true rfl) (Nat.le_of_ble_eq_true rfl) dX3_init_22 ?_
  refine hc_es (es' := [.inr (3, [.ref (gB G + (k + 1)), .ref (gB G + (k + 2)), .null, .int 0, .int 0, .int 0, .int 0, .int 0]), .inl (G.2.2.1.1, 4, .inl (fun _ => 0)), .inl (G.2.2.1.1, 8, .inl (fun _ => 0)), .inl (G.2.2.1.1, 8, .inl (fun _ => 0))]) rfl ?_
  refine hc_putF (ci := 3) 0 rfl rfl rfl uw_X3 tyX3 tyX3_ok nmX3 2 (by decide) fl_RX3_18 rfl rfl rfl rfl rfl (Nat.le_of_ble_eq_true rfl) dX3_init_24 ?_
  refine hc_es (es' := [.inr (3, [.ref (gB G + (k + 1)), .ref (gB G + (k + 2)), .ref (gB G + (k + 3)), .int 0, .int 0, .int 0, .int 0, .int 0]), .inl (G.2.2.1.1, 4, .inl (fun _ => 0)), .inl (G.2.2.1.1, 8, .inl (fun _ => 0)), .inl (G.2.2.1.1, 8, .inl (fun _ => 0))]) rfl ?_
  exact sv_vret rfl dX3_init_27 ⟨rfl, rfl, rfl, rfl, fun _ _ => rfl⟩
set_option maxRecDepth 100000 in
set_option maxHeartbeats 4000000 in
theorem i_X0 (G : GT) : ctI G yX0_init R_X0_init cX0_init 1 (.inr (0, [.null])) (dsX0 G) := by
  refine ctI.of (by decide) (Nat.le_of_ble_eq_true rfl) (fun k g => ?_)
  refine sv_aload_n 0 dX0_init_0 rfl ?_
  refine sv_objInit ml_RX0_3 im_objInit cd_objInit (Nat.le_of_ble_eq_true rfl) (Nat.le_of_ble_eq_true rfl) dX0_init_1 ?_
  refine sv_aload_n 0 dX0_init_4 rfl ?_
  refine sv_bipush (v := 96) dX0_init_5 (by decide) ?_
  refine hc_newI (len := 96) rfl (by decide) rfl (Nat.le_of_ble_eq_true rfl) (Nat.le_of_ble_eq_true rfl) (Nat.le_of_ble_eq_true rfl) dX0_init_7 ?_
  refine hc_es (es' := [.inr (0, [.null]), .inl (G.2.2.1.1, 96, .inl (fun _ => 0))]) rfl ?_
  refine hc_putF (ci := 0) 0 rfl rfl rfl uw_X0 tyX0 tyX0_ok nmX0 0 (by decide) fl_RX0_9 rfl rfl rfl rfl rfl (Nat.le_of_ble_eq_true rfl) dX0_init_9 ?_
  refine hc_es (es' := [.inr (0, [.ref (gB G + (k + 1))]), .inl (G.2.2.1.1, 96, .inl (fun _ => 0))]) rfl ?_
  refine sv_aload_n 0 dX0_init_12 rfl ?_
  refine sv_heap (g := va_up (hp g k [.inr (0, [.ref (gB G + (k + 1))]), .inl (G.2.2.1.1, 96, .inl (fun _ => 0))]) (k + 1) (bkE G (fun _ => 0))) (fun j _ => by
    unfold va_up
    by_cases z : j = k + 1
    · rw [if_pos z, z]; exact hp_at rfl
    · rw [if_neg z]) ?_
  refine sv_callV (As := []) (rest := []) (v_begin G (k + 2) k (k + 1) (hp g k [.inr (0, [.ref (gB G + (k + 1))]), .inl (G.2.2.1.1, 96, .inl (fun _ => 0))]) (fun _ => 0) (by omega) (by omega) (by omega) (hp_at (i := 0) rfl)) (sv_w5 ml_RX0_15 im_X0_begin sl_X0_begin in_RX0 cd_X0_begin) nm_X0_begin ⟨Nat.le_of_ble_eq_true rfl, Nat.le_of_ble_eq_true rfl⟩ (ci := 0) rfl (by omega) (by rw [vaup_ne (by omega)]; exact hp_at (i := 0) rfl) rfl (Nat.le_of_ble_eq_true rfl) dX0_init_13 ⟨Nat.le_of_ble_eq_true rfl, Nat.le_of_ble_eq_true rfl⟩ ?_
  intro r n' f' hh
  obtain ⟨rfl, rfl, hf'⟩ := hh
  refine sv_vret rfl dX0_init_16 ⟨rfl, rfl, rfl, rfl, fun j hj => ?_⟩
  rw [hf' j hj]
  exact hp_up (i := 1) (Nat.le_of_ble_eq_true rfl) j
set_option maxRecDepth 100000 in
set_option maxHeartbeats 4000000 in
theorem i_X6 (G : GT) : ctI G yX6_init R_X6_init cX6_init 1 (.inr (6, [.null, .null, .null, .int 0, .int 0, .int 0, .int 0])) (dsX6 G) := by
  refine ctI.of (by decide) (Nat.le_of_ble_eq_true rfl) (fun k g => ?_)
  refine sv_aload_n 0 dX6_init_0 rfl ?_
  refine sv_objInit ml_RX6_3 im_objInit cd_objInit (Nat.le_of_ble_eq_true rfl) (Nat.le_of_ble_eq_true rfl) dX6_init_1 ?_
  refine sv_aload_n 0 dX6_init_4 rfl ?_
  refine hc_new (ci := 3) (fs := [.null, .null, .null, .int 0, .int 0, .int 0, .int 0, .int 0]) rfl rfl uw_X3 tyX3 tyX3_ok cl_RX6_9 ib_RX3 in_RX3 (fun j hj => by rcases (show j = 0 ∨ j = 1 ∨ j = 2 ∨ j = 3 ∨ j = 4 ∨ j = 5 ∨ j = 6 ∨ j = 7 by omega) with rfl | rfl | rfl | rfl | rfl | rfl | rfl | rfl <;> rfl) (Nat.le_of_ble_eq_true rfl) (Nat.le_of_ble_eq_true rfl) dX6_init_5 ?_
  refine sv_dup dX6_init_8 rfl ?_
  refine hc_callIN (es := [.inr (6, [.null, .null, .null, .int 0, .int 0, .int 0, .int 0])]) rfl (i_X3 G) ml_RX6_11 (w3 im_X3_init in_RX3 cd_X3_init) rfl nm_X3_init ⟨Nat.le_of_ble_eq_true rfl, Nat.le_of_ble_eq_true rfl⟩ (Nat.le_of_ble_eq_true rfl) dX6_init_9 ⟨Nat.le_of_ble_eq_true rfl, Nat.le_of_ble_eq_true rfl⟩ ?_
  refine hc_es (es' := [.inr (6, [.null, .null, .null, .int 0, .int 0, .int 0, .int 0]), .inr (3, [.ref (gB G + (k + 2)), .ref (gB G + (k + 3)), .ref (gB G + (k + 4)), .int 0, .int 0, .int 0, .int 0, .int 0]), .inl (G.2.2.1.1, 4, .inl (fun _ => 0)), .inl (G.2.2.1.1, 8, .inl (fun _ => 0)), .inl (G.2.2.1.1, 8, .inl (fun _ => 0))]) rfl ?_
  refine hc_putF (ci := 6) 0 rfl rfl rfl uw_X6 tyX6 tyX6_ok nmX6 0 (by decide) fl_RX6_12 rfl rfl rfl rfl rfl (Nat.le_of_ble_eq_true rfl) dX6_init_12 ?_
  refine hc_es (es' := [.inr (6, [.ref (gB G + (k + 1)), .null, .null, .int 0, .int 0, .int 0, .int 0]), .inr (3, [.ref (gB G + (k + 2)), .ref (gB G + (k + 3)), .ref (gB G + (k + 4)), .int 0, .int 0, .int 0, .int 0, .int 0]), .inl (G.2.2.1.1, 4, .inl (fun _ => 0)), .inl (G.2.2.1.1, 8, .inl (fun _ => 0)), .inl (G.2.2.1.1, 8, .inl (fun _ => 0))]) rfl ?_
  refine sv_aload_n 0 dX6_init_15 rfl ?_
  refine hc_new (ci := 0) (fs := [.null]) rfl rfl uw_X0 tyX0 tyX0_ok cl_RX6_18 ib_RX0 in_RX0 (fun j hj => by rcases (show j = 0 by omega) with rfl; rfl) (Nat.le_of_ble_eq_true rfl) (Nat.le_of_ble_eq_true rfl) dX6_init_16 ?_
  refine sv_dup dX6_init_19 rfl ?_
  refine hc_callI (es := [.inr (6, [.ref (gB G + (k + 1)), .null, .null, .int 0, .int 0, .int 0, .int 0]), .inr (3, [.ref (gB G + (k + 2)), .ref (gB G + (k + 3)), .ref (gB G + (k + 4)), .int 0, .int 0, .int 0, .int 0, .int 0]), .inl (G.2.2.1.1, 4, .inl (fun _ => 0)), .inl (G.2.2.1.1, 8, .inl (fun _ => 0)), .inl (G.2.2.1.1, 8, .inl (fun _ => 0))]) rfl (i_X0 G) (w4 ml_RX6_20 im_X0_init in_RX0 cd_X0_init) rfl nm_X0_init ⟨Nat.le_of_ble_eq_true rfl, Nat.le_of_ble_eq_true rfl⟩ (Nat.le_of_ble_eq_true rfl) dX6_init_20 ⟨Nat.le_of_ble_eq_true rfl, Nat.le_of_ble_eq_true rfl⟩ ?_
  refine hc_es (es' := [.inr (6, [.ref (gB G + (k + 1)), .null, .null, .int 0, .int 0, .int 0, .int 0]), .inr (3, [.ref (gB G + (k + 2)), .ref (gB G + (k + 3)), .ref (gB G + (k + 4)), .int 0, .int 0, .int 0, .int 0, .int 0]), .inl (G.2.2.1.1, 4, .inl (fun _ => 0)), .inl (G.2.2.1.1, 8, .inl (fun _ => 0)), .inl (G.2.2.1.1, 8, .inl (fun _ => 0)), .inr (0, [.ref (gB G + (k + 6))]), .inl (G.2.2.1.1, 96, .inl (bgr (fun _ => 0) 16))]) rfl ?_
  refine hc_putF (ci := 6) 0 rfl rfl rfl uw_X6 tyX6 tyX6_ok nmX6 1 (by decide) fl_RX6_21 rfl rfl rfl rfl rfl (Nat.le_of_ble_eq_true rfl) dX6_init_23 ?_
  refine hc_es (es' := [.inr (6, [.ref (gB G + (k + 1)), .ref (gB G + (k + 5)), .null, .int 0, .int 0, .int 0, .int 0]), .inr (3, [.ref (gB G + (k + 2)), .ref (gB G + (k + 3)), .ref (gB G + (k + 4)), .int 0, .int 0, .int 0, .int 0, .int 0]), .inl (G.2.2.1.1, 4, .inl (fun _ => 0)), .inl (G.2.2.1.1, 8, .inl (fun _ => 0)), .inl (G.2.2.1.1, 8, .inl (fun _ => 0)), .inr (0, [.ref (gB G + (k + 6))]), .inl (G.2.2.1.1, 96, .inl (bgr (fun _ => 0) 16))]) rfl ?_
  refine sv_aload_n 0 dX6_init_26 rfl ?_
  refine sv_iconst (v := 3) dX6_init_27 (by decide) ?_
  refine hc_newI (len := 3) rfl (by decide) rfl (Nat.le_of_ble_eq_true rfl) (Nat.le_of_ble_eq_true rfl) (Nat.le_of_ble_eq_true rfl) dX6_init_28 ?_
  refine hc_es (es' := [.inr (6, [.ref (gB G + (k + 1)), .ref (gB G + (k + 5)), .null, .int 0, .int 0, .int 0, .int 0]), .inr (3, [.ref (gB G + (k + 2)), .ref (gB G + (k + 3)), .ref (gB G + (k + 4)), .int 0, .int 0, .int 0, .int 0, .int 0]), .inl (G.2.2.1.1, 4, .inl (fun _ => 0)), .inl (G.2.2.1.1, 8, .inl (fun _ => 0)), .inl (G.2.2.1.1, 8, .inl (fun _ => 0)), .inr (0, [.ref (gB G + (k + 6))]), .inl (G.2.2.1.1, 96, .inl (bgr (fun _ => 0) 16)), .inl (G.2.2.1.1, 3, .inl (fun _ => 0))]) rfl ?_
  refine hc_putF (ci := 6) 0 rfl rfl rfl uw_X6 tyX6 tyX6_ok nmX6 2 (by decide) fl_RX6_25 rfl rfl rfl rfl rfl (Nat.le_of_ble_eq_true rfl) dX6_init_30 ?_
  refine hc_es (es' := [.inr (6, [.ref (gB G + (k + 1)), .ref (gB G + (k + 5)), .ref (gB G + (k + 7)), .int 0, .int 0, .int 0, .int 0]), .inr (3, [.ref (gB G + (k + 2)), .ref (gB G + (k + 3)), .ref (gB G + (k + 4)), .int 0, .int 0, .int 0, .int 0, .int 0]), .inl (G.2.2.1.1, 4, .inl (fun _ => 0)), .inl (G.2.2.1.1, 8, .inl (fun _ => 0)), .inl (G.2.2.1.1, 8, .inl (fun _ => 0)), .inr (0, [.ref (gB G + (k + 6))]), .inl (G.2.2.1.1, 96, .inl (bgr (fun _ => 0) 16)), .inl (G.2.2.1.1, 3, .inl (fun _ => 0))]) rfl ?_
  exact sv_vret rfl dX6_init_33 ⟨rfl, rfl, rfl, rfl, fun _ _ => rfl⟩
set_option maxRecDepth 100000 in
set_option maxHeartbeats 4000000 in
theorem i_X8 (G : GT) : ctI G yX8_init R_X8_init cX8_init 1 (.inr (8, [.null, .int 0])) (dsX8 G) := by
  refine ctI.of (by decide) (Nat.le_of_ble_eq_true rfl) (fun k g => ?_)
  refine sv_aload_n 0 dX8_init_0 rfl ?_
  refine sv_objInit ml_RX8_3 im_objInit cd_objInit (Nat.le_of_ble_eq_true rfl) (Nat.le_of_ble_eq_true rfl) dX8_init_1 ?_
  refine sv_aload_n 0 dX8_init_4 rfl ?_
  refine sv_bipush (v := 80) dX8_init_5 (by decide) ?_
  refine hc_newI (len := 80) rfl (by decide) rfl (Nat.le_of_ble_eq_true rfl) (Nat.le_of_ble_eq_true rfl) (Nat.le_of_ble_eq_true rfl) dX8_init_7 ?_
  refine hc_es (es' := [.inr (8, [.null, .int 0]), .inl (G.2.2.1.1, 80, .inl (fun _ => 0))]) rfl ?_
  refine hc_putF (ci := 8) 0 rfl rfl rfl uw_X8 tyX8 tyX8_ok nmX8 0 (by decide) fl_RX8_9 rfl rfl rfl rfl rfl (Nat.le_of_ble_eq_true rfl) dX8_init_9 ?_
  refine hc_es (es' := [.inr (8, [.ref (gB G + (k + 1)), .int 0]), .inl (G.2.2.1.1, 80, .inl (fun _ => 0))]) rfl ?_
  exact sv_vret rfl dX8_init_12 ⟨rfl, rfl, rfl, rfl, fun _ _ => rfl⟩
set_option maxRecDepth 100000 in
set_option maxHeartbeats 4000000 in
theorem i_X4 (G : GT) : ctI G yX4_init R_X4_init cX4_init 1 (.inr (4, [.null, .null, .null, .null, .int 0])) (dsX4 G) := by
  refine ctI.of (by decide) (Nat.le_of_ble_eq_true rfl) (fun k g => ?_)
  refine sv_aload_n 0 dX4_init_0 rfl ?_
  refine sv_objInit ml_RX4_3 im_objInit cd_objInit (Nat.le_of_ble_eq_true rfl) (Nat.le_of_ble_eq_true rfl) dX4_init_1 ?_
  refine sv_aload_n 0 dX4_init_4 rfl ?_
  refine sv_bipush (v := 16) dX4_init_5 (by decide) ?_
  refine hc_newI (len := 16) rfl (by decide) rfl (Nat.le_of_ble_eq_true rfl) (Nat.le_of_ble_eq_true rfl) (Nat.le_of_ble_eq_true rfl) dX4_init_7 ?_
  refine hc_es (es' := [.inr (4, [.null, .null, .null, .null, .int 0]), .inl (G.2.2.1.1, 16, .inl (fun _ => 0))]) rfl ?_
  refine hc_putF (ci := 4) 0 rfl rfl rfl uw_X4 tyX4 tyX4_ok nmX4 0 (by decide) fl_RX4_9 rfl rfl rfl rfl rfl (Nat.le_of_ble_eq_true rfl) dX4_init_9 ?_
  refine hc_es (es' := [.inr (4, [.ref (gB G + (k + 1)), .null, .null, .null, .int 0]), .inl (G.2.2.1.1, 16, .inl (fun _ => 0))]) rfl ?_
  refine sv_aload_n 0 dX4_init_12 rfl ?_
  refine sv_bipush (v := 16) dX4_init_13 (by decide) ?_
  refine hc_newI (len := 16) rfl (by decide) rfl (Nat.le_of_ble_eq_true rfl) (Nat.le_of_ble_eq_true rfl) (Nat.le_of_ble_eq_true rfl) dX4_init_15 ?_
  refine hc_es (es' := [.inr (4, [.ref (gB G + (k + 1)), .null, .null, .null, .int 0]), .inl (G.2.2.1.1, 16, .inl (fun _ => 0)), .inl (G.2.2.1.1, 16, .inl (fun _ => 0))]) rfl ?_
  refine hc_putF (ci := 4) 0 rfl rfl rfl uw_X4 tyX4 tyX4_ok nmX4 1 (by decide) fl_RX4_15 rfl rfl rfl rfl rfl (Nat.le_of_ble_eq_true rfl) dX4_init_17 ?_
  refine hc_es (es' := [.inr (4, [.ref (gB G + (k + 1)), .ref (gB G + (k + 2)), .null, .null, .int 0]), .inl (G.2.2.1.1, 16, .inl (fun _ => 0)), .inl (G.2.2.1.1, 16, .inl (fun _ => 0))]) rfl ?_
  refine sv_aload_n 0 dX4_init_20 rfl ?_
  refine sv_bipush (v := 16) dX4_init_21 (by decide) ?_
  refine hc_newI (len := 16) rfl (by decide) rfl (Nat.le_of_ble_eq_true rfl) (Nat.le_of_ble_eq_true rfl) (Nat.le_of_ble_eq_true rfl) dX4_init_23 ?_
  refine hc_es (es' := [.inr (4, [.ref (gB G + (k + 1)), .ref (gB G + (k + 2)), .null, .null, .int 0]), .inl (G.2.2.1.1, 16, .inl (fun _ => 0)), .inl (G.2.2.1.1, 16, .inl (fun _ => 0)), .inl (G.2.2.1.1, 16, .inl (fun _ => 0))]) rfl ?_
  refine hc_putF (ci := 4) 0 rfl rfl rfl uw_X4 tyX4 tyX4_ok nmX4 2 (by decide) fl_RX4_18 rfl rfl rfl rfl rfl (Nat.le_of_ble_eq_true rfl) dX4_init_25 ?_
  refine hc_es (es' := [.inr (4, [.ref (gB G + (k + 1)), .ref (gB G + (k + 2)), .ref (gB G + (k + 3)), .null, .int 0]), .inl (G.2.2.1.1, 16, .inl (fun _ => 0)), .inl (G.2.2.1.1, 16, .inl (fun _ => 0)), .inl (G.2.2.1.1, 16, .inl (fun _ => 0))]) rfl ?_
  refine sv_aload_n 0 dX4_init_28 rfl ?_
  refine sv_bipush (v := 16) dX4_init_29 (by decide) ?_
  refine hc_newI (len := 16) rfl (by decide) rfl (Nat.le_of_ble_eq_true rfl) (Nat.le_of_ble_eq_true rfl) (Nat.le_of_ble_eq_true rfl) dX4_init_31 ?_
  refine hc_es (es' := [.inr (4, [.ref (gB G + (k + 1)), .ref (gB G + (k + 2)), .ref (gB G + (k + 3)), .null, .int 0]), .inl (G.2.2.1.1, 16, .inl (fun _ => 0)), .inl (G.2.2.1.1, 16, .inl (fun _ => 0)), .inl (G.2.2.1.1, 16, .inl (fun _ => 0)), .inl (G.2.2.1.1, 16, .inl (fun _ => 0))]) rfl ?_
  refine hc_putF (ci := 4) 0 rfl rfl rfl uw_X4 tyX4 tyX4_ok nmX4 3 (by decide) fl_RX4_21 rfl rfl rfl rfl rfl (Nat.le_of_ble_eq_true rfl) dX4_init_33 ?_
  refine hc_es (es' := [.inr (4, [.ref (gB G + (k + 1)), .ref (gB G + (k + 2)), .ref (gB G + (k + 3)), .ref (gB G + (k + 4)), .int 0]), .inl (G.2.2.1.1, 16, .inl (fun _ => 0)), .inl (G.2.2.1.1, 16, .inl (fun _ => 0)), .inl (G.2.2.1.1, 16, .inl (fun _ => 0)), .inl (G.2.2.1.1, 16, .inl (fun _ => 0))]) rfl ?_
  exact sv_vret rfl dX4_init_36 ⟨rfl, rfl, rfl, rfl, fun _ _ => rfl⟩
set_option maxRecDepth 100000 in
set_option maxHeartbeats 4000000 in
theorem i_X5 (G : GT) : ctI G yX5_init R_X5_init cX5_init 1 (.inr (5, [.null, .null, .int 0])) (dsX5 G) := by
  refine ctI.of (by decide) (Nat.le_of_ble_eq_true rfl) (fun k g => ?_)
  refine sv_aload_n 0 dX5_init_0 rfl ?_
  refine sv_objInit ml_RX5_3 im_objInit cd_objInit (Nat.le_of_ble_eq_true rfl) (Nat.le_of_ble_eq_true rfl) dX5_init_1 ?_
  refine sv_aload_n 0 dX5_init_4 rfl ?_
  refine sv_bipush (v := 6) dX5_init_5 (by decide) ?_
  refine hc_newI (len := 6) rfl (by decide) rfl (Nat.le_of_ble_eq_true rfl) (Nat.le_of_ble_eq_true rfl) (Nat.le_of_ble_eq_true rfl) dX5_init_7 ?_
  refine hc_es (es' := [.inr (5, [.null, .null, .int 0]), .inl (G.2.2.1.1, 6, .inl (fun _ => 0))]) rfl ?_
  refine hc_putF (ci := 5) 0 rfl rfl rfl uw_X5 tyX5 tyX5_ok nmX5 0 (by decide) fl_RX5_9 rfl rfl rfl rfl rfl (Nat.le_of_ble_eq_true rfl) dX5_init_9 ?_
  refine hc_es (es' := [.inr (5, [.ref (gB G + (k + 1)), .null, .int 0]), .inl (G.2.2.1.1, 6, .inl (fun _ => 0))]) rfl ?_
  refine sv_aload_n 0 dX5_init_12 rfl ?_
  refine sv_bipush (v := 6) dX5_init_13 (by decide) ?_
  refine hc_newZ (len := 6) rfl ac_boolean (by decide) rfl (Nat.le_of_ble_eq_true rfl) (Nat.le_of_ble_eq_true rfl) (Nat.le_of_ble_eq_true rfl) dX5_init_15 ?_
  refine hc_es (es' := [.inr (5, [.ref (gB G + (k + 1)), .null, .int 0]), .inl (G.2.2.1.1, 6, .inl (fun _ => 0)), .inl (G.2.2.1.2.1, 6, .inl (fun _ => 0))]) rfl ?_
  refine hc_putF (ci := 5) 0 rfl rfl rfl uw_X5 tyX5 tyX5_ok nmX5 1 (by decide) fl_RX5_15 rfl rfl rfl rfl rfl (Nat.le_of_ble_eq_true rfl) dX5_init_17 ?_
  refine hc_es (es' := [.inr (5, [.ref (gB G + (k + 1)), .ref (gB G + (k + 2)), .int 0]), .inl (G.2.2.1.1, 6, .inl (fun _ => 0)), .inl (G.2.2.1.2.1, 6, .inl (fun _ => 0))]) rfl ?_
  exact sv_vret rfl dX5_init_20 ⟨rfl, rfl, rfl, rfl, fun _ _ => rfl⟩
set_option maxRecDepth 100000 in
set_option maxHeartbeats 4000000 in
theorem i_X1 (G : GT) : ctI G yX1_init R_X1_init cX1_init 1 (.inr (1, [.null, .int 0, .int 0])) (dsX1 G) := by
  refine ctI.of (by decide) (Nat.le_of_ble_eq_true rfl) (fun k g => ?_)
  refine sv_aload_n 0 dX1_init_0 rfl ?_
  refine sv_objInit ml_RX1_3 im_objInit cd_objInit (Nat.le_of_ble_eq_true rfl) (Nat.le_of_ble_eq_true rfl) dX1_init_1 ?_
  refine sv_aload_n 0 dX1_init_4 rfl ?_
  refine hc_new (ci := 3) (fs := [.null, .null, .null, .int 0, .int 0, .int 0, .int 0, .int 0]) rfl rfl uw_X3 tyX3 tyX3_ok cl_RX1_9 ib_RX3 in_RX3 (fun j hj => by rcases (show j = 0 ∨ j = 1 ∨ j = 2 ∨ j = 3 ∨ j = 4 ∨ j = 5 ∨ j = 6 ∨ j = 7 by omega) with rfl | rfl | rfl | rfl | rfl | rfl | rfl | rfl <;> rfl) (Nat.le_of_ble_eq_true rfl) (Nat.le_of_ble_eq_true rfl) dX1_init_5 ?_
  refine sv_dup dX1_init_8 rfl ?_
  refine hc_callIN (es := [.inr (1, [.null, .int 0, .int 0])]) rfl (i_X3 G) ml_RX1_11 (w3 im_X3_init in_RX3 cd_X3_init) rfl nm_X3_init ⟨Nat.le_of_ble_eq_true rfl, Nat.le_of_ble_eq_true rfl⟩ (Nat.le_of_ble_eq_true rfl) dX1_init_9 ⟨Nat.le_of_ble_eq_true rfl, Nat.le_of_ble_eq_true rfl⟩ ?_
  refine hc_es (es' := [.inr (1, [.null, .int 0, .int 0]), .inr (3, [.ref (gB G + (k + 2)), .ref (gB G + (k + 3)), .ref (gB G + (k + 4)), .int 0, .int 0, .int 0, .int 0, .int 0]), .inl (G.2.2.1.1, 4, .inl (fun _ => 0)), .inl (G.2.2.1.1, 8, .inl (fun _ => 0)), .inl (G.2.2.1.1, 8, .inl (fun _ => 0))]) rfl ?_
  refine hc_putF (ci := 1) 0 rfl rfl rfl uw_X1 tyX1 tyX1_ok nmX1 0 (by decide) fl_RX1_12 rfl rfl rfl rfl rfl (Nat.le_of_ble_eq_true rfl) dX1_init_12 ?_
  refine hc_es (es' := [.inr (1, [.ref (gB G + (k + 1)), .int 0, .int 0]), .inr (3, [.ref (gB G + (k + 2)), .ref (gB G + (k + 3)), .ref (gB G + (k + 4)), .int 0, .int 0, .int 0, .int 0, .int 0]), .inl (G.2.2.1.1, 4, .inl (fun _ => 0)), .inl (G.2.2.1.1, 8, .inl (fun _ => 0)), .inl (G.2.2.1.1, 8, .inl (fun _ => 0))]) rfl ?_
  exact sv_vret rfl dX1_init_15 ⟨rfl, rfl, rfl, rfl, fun _ _ => rfl⟩
set_option maxRecDepth 100000 in
set_option maxHeartbeats 4000000 in
theorem i_X7 (G : GT) : ctI G yX7_init R_X7_init cX7_init 1 (.inr (7, [.null, .null, .null, .null, .null, .null, .int 0, .int 0])) (dsX7 G) := by
  refine ctI.of (by decide) (Nat.le_of_ble_eq_true rfl) (fun k g => ?_)
  refine sv_aload_n 0 dX7_init_0 rfl ?_
  refine sv_objInit ml_RX7_3 im_objInit cd_objInit (Nat.le_of_ble_eq_true rfl) (Nat.le_of_ble_eq_true rfl) dX7_init_1 ?_
  refine sv_aload_n 0 dX7_init_4 rfl ?_
  refine hc_new (ci := 3) (fs := [.null, .null, .null, .int 0, .int 0, .int 0, .int 0, .int 0]) rfl rfl uw_X3 tyX3 tyX3_ok cl_RX7_9 ib_RX3 in_RX3 (fun j hj => by rcases (show j = 0 ∨ j = 1 ∨ j = 2 ∨ j = 3 ∨ j = 4 ∨ j = 5 ∨ j = 6 ∨ j = 7 by omega) with rfl | rfl | rfl | rfl | rfl | rfl | rfl | rfl <;> rfl) (Nat.le_of_ble_eq_true rfl) (Nat.le_of_ble_eq_true rfl) dX7_init_5 ?_
  refine sv_dup dX7_init_8 rfl ?_
  refine hc_callIN (es := [.inr (7, [.null, .null, .null, .null, .null, .null, .int 0, .int 0])]) rfl (i_X3 G) ml_RX7_11 (w3 im_X3_init in_RX3 cd_X3_init) rfl nm_X3_init ⟨Nat.le_of_ble_eq_true rfl, Nat.le_of_ble_eq_true rfl⟩ (Nat.le_of_ble_eq_true rfl) dX7_init_9 ⟨Nat.le_of_ble_eq_true rfl, Nat.le_of_ble_eq_true rfl⟩ ?_
  refine hc_es (es' := [.inr (7, [.null, .null, .null, .null, .null, .null, .int 0, .int 0]), .inr (3, [.ref (gB G + (k + 2)), .ref (gB G + (k + 3)), .ref (gB G + (k + 4)), .int 0, .int 0, .int 0, .int 0, .int 0]), .inl (G.2.2.1.1, 4, .inl (fun _ => 0)), .inl (G.2.2.1.1, 8, .inl (fun _ => 0)), .inl (G.2.2.1.1, 8, .inl (fun _ => 0))]) rfl ?_
  refine hc_putF (ci := 7) 0 rfl rfl rfl uw_X7 tyX7 tyX7_ok nmX7 0 (by decide) fl_RX7_12 rfl rfl rfl rfl rfl (Nat.le_of_ble_eq_true rfl) dX7_init_12 ?_
  refine hc_es (es' := [.inr (7, [.ref (gB G + (k + 1)), .null, .null, .null, .null, .null, .int 0, .int 0]), .inr (3, [.ref (gB G + (k + 2)), .ref (gB G + (k + 3)), .ref (gB G + (k + 4)), .int 0, .int 0, .int 0, .int 0, .int 0]), .inl (G.2.2.1.1, 4, .inl (fun _ => 0)), .inl (G.2.2.1.1, 8, .inl (fun _ => 0)), .inl (G.2.2.1.1, 8, .inl (fun _ => 0))]) rfl ?_
  refine sv_aload_n 0 dX7_init_15 rfl ?_
  refine sv_bipush (v := 6) dX7_init_16 (by decide) ?_
  refine hc_newI (len := 6) rfl (by decide) rfl (Nat.le_of_ble_eq_true rfl) (Nat.le_of_ble_eq_true rfl) (Nat.le_of_ble_eq_true rfl) dX7_init_18 ?_
  refine hc_es (es' := [.inr (7, [.ref (gB G + (k + 1)), .null, .null, .null, .null, .null, .int 0, .int 0]), .inr (3, [.ref (gB G + (k + 2)), .ref (gB G + (k + 3)), .ref (gB G + (k + 4)), .int 0, .int 0, .int 0, .int 0, .int 0]), .inl (G.2.2.1.1, 4, .inl (fun _ => 0)), .inl (G.2.2.1.1, 8, .inl (fun _ => 0)), .inl (G.2.2.1.1, 8, .inl (fun _ => 0)), .inl (G.2.2.1.1, 6, .inl (fun _ => 0))]) rfl ?_
  refine hc_putF (ci := 7) 0 rfl rfl rfl uw_X7 tyX7 tyX7_ok nmX7 1 (by decide) fl_RX7_18 rfl rfl rfl rfl rfl (Nat.le_of_ble_eq_true rfl) dX7_init_20 ?_
  refine hc_es (es' := [.inr (7, [.ref (gB G + (k + 1)), .ref (gB G + (k + 5)), .null, .null, .null, .null, .int 0, .int 0]), .inr (3, [.ref (gB G + (k + 2)), .ref (gB G + (k + 3)), .ref (gB G + (k + 4)), .int 0, .int 0, .int 0, .int 0, .int 0]), .inl (G.2.2.1.1, 4, .inl (fun _ => 0)), .inl (G.2.2.1.1, 8, .inl (fun _ => 0)), .inl (G.2.2.1.1, 8, .inl (fun _ => 0)), .inl (G.2.2.1.1, 6, .inl (fun _ => 0))]) rfl ?_
  refine sv_aload_n 0 dX7_init_23 rfl ?_
  refine sv_bipush (v := 6) dX7_init_24 (by decide) ?_
  refine hc_newI (len := 6) rfl (by decide) rfl (Nat.le_of_ble_eq_true rfl) (Nat.le_of_ble_eq_true rfl) (Nat.le_of_ble_eq_true rfl) dX7_init_26 ?_
  refine hc_es (es' := [.inr (7, [.ref (gB G + (k + 1)), .ref (gB G + (k + 5)), .null, .null, .null, .null, .int 0, .int 0]), .inr (3, [.ref (gB G + (k + 2)), .ref (gB G + (k + 3)), .ref (gB G + (k + 4)), .int 0, .int 0, .int 0, .int 0, .int 0]), .inl (G.2.2.1.1, 4, .inl (fun _ => 0)), .inl (G.2.2.1.1, 8, .inl (fun _ => 0)), .inl (G.2.2.1.1, 8, .inl (fun _ => 0)), .inl (G.2.2.1.1, 6, .inl (fun _ => 0)), .inl (G.2.2.1.1, 6, .inl (fun _ => 0))]) rfl ?_
  refine hc_putF (ci := 7) 0 rfl rfl rfl uw_X7 tyX7 tyX7_ok nmX7 2 (by decide) fl_RX7_22 rfl rfl rfl rfl rfl (Nat.le_of_ble_eq_true rfl) dX7_init_28 ?_
  refine hc_es (es' := [.inr (7, [.ref (gB G + (k + 1)), .ref (gB G + (k + 5)), .ref (gB G + (k + 6)), .null, .null, .null, .int 0, .int 0]), .inr (3, [.ref (gB G + (k + 2)), .ref (gB G + (k + 3)), .ref (gB G + (k + 4)), .int 0, .int 0, .int 0, .int 0, .int 0]), .inl (G.2.2.1.1, 4, .inl (fun _ => 0)), .inl (G.2.2.1.1, 8, .inl (fun _ => 0)), .inl (G.2.2.1.1, 8, .inl (fun _ => 0)), .inl (G.2.2.1.1, 6, .inl (fun _ => 0)), .inl (G.2.2.1.1, 6, .inl (fun _ => 0))]) rfl ?_
  refine sv_aload_n 0 dX7_init_31 rfl ?_
  refine sv_bipush (v := 6) dX7_init_32 (by decide) ?_
  refine hc_newI (len := 6) rfl (by decide) rfl (Nat.le_of_ble_eq_true rfl) (Nat.le_of_ble_eq_true rfl) (Nat.le_of_ble_eq_true rfl) dX7_init_34 ?_
  refine hc_es (es' := [.inr (7, [.ref (gB G + (k + 1)), .ref (gB G + (k + 5)), .ref (gB G + (k + 6)), .null, .null, .null, .int 0, .int 0]), .inr (3, [.ref (gB G + (k + 2)), .ref (gB G + (k + 3)), .ref (gB G + (k + 4)), .int 0, .int 0, .int 0, .int 0, .int 0]), .inl (G.2.2.1.1, 4, .inl (fun _ => 0)), .inl (G.2.2.1.1, 8, .inl (fun _ => 0)), .inl (G.2.2.1.1, 8, .inl (fun _ => 0)), .inl (G.2.2.1.1, 6, .inl (fun _ => 0)), .inl (G.2.2.1.1, 6, .inl (fun _ => 0)), .inl (G.2.2.1.1, 6, .inl (fun _ => 0))]) rfl ?_
  refine hc_putF (ci := 7) 0 rfl rfl rfl uw_X7 tyX7 tyX7_ok nmX7 3 (by decide) fl_RX7_25 rfl rfl rfl rfl rfl (Nat.le_of_ble_eq_true rfl) dX7_init_36 ?_
  refine hc_es (es' := [.inr (7, [.ref (gB G + (k + 1)), .ref (gB G + (k + 5)), .ref (gB G + (k + 6)), .ref (gB G + (k + 7)), .null, .null, .int 0, .int 0]), .inr (3, [.ref (gB G + (k + 2)), .ref (gB G + (k + 3)), .ref (gB G + (k + 4)), .int 0, .int 0, .int 0, .int 0, .int 0]), .inl (G.2.2.1.1, 4, .inl (fun _ => 0)), .inl (G.2.2.1.1, 8, .inl (fun _ => 0)), .inl (G.2.2.1.1, 8, .inl (fun _ => 0)), .inl (G.2.2.1.1, 6, .inl (fun _ => 0)), .inl (G.2.2.1.1, 6, .inl (fun _ => 0)), .inl (G.2.2.1.1, 6, .inl (fun _ => 0))]) rfl ?_
  refine sv_aload_n 0 dX7_init_39 rfl ?_
  refine sv_sipush (v := 1980) dX7_init_40 (by decide) ?_
  refine hc_newI (len := 1980) rfl (by decide) rfl (Nat.le_of_ble_eq_true rfl) (Nat.le_of_ble_eq_true rfl) (Nat.le_of_ble_eq_true rfl) dX7_init_43 ?_
  refine hc_es (es' := [.inr (7, [.ref (gB G + (k + 1)), .ref (gB G + (k + 5)), .ref (gB G + (k + 6)), .ref (gB G + (k + 7)), .null, .null, .int 0, .int 0]), .inr (3, [.ref (gB G + (k + 2)), .ref (gB G + (k + 3)), .ref (gB G + (k + 4)), .int 0, .int 0, .int 0, .int 0, .int 0]), .inl (G.2.2.1.1, 4, .inl (fun _ => 0)), .inl (G.2.2.1.1, 8, .inl (fun _ => 0)), .inl (G.2.2.1.1, 8, .inl (fun _ => 0)), .inl (G.2.2.1.1, 6, .inl (fun _ => 0)), .inl (G.2.2.1.1, 6, .inl (fun _ => 0)), .inl (G.2.2.1.1, 6, .inl (fun _ => 0)), .inl (G.2.2.1.1, 1980, .inl (fun _ => 0))]) rfl ?_
  refine hc_putF (ci := 7) 0 rfl rfl rfl uw_X7 tyX7 tyX7_ok nmX7 4 (by decide) fl_RX7_28 rfl rfl rfl rfl rfl (Nat.le_of_ble_eq_true rfl) dX7_init_45 ?_
  refine hc_es (es' := [.inr (7, [.ref (gB G + (k + 1)), .ref (gB G + (k + 5)), .ref (gB G + (k + 6)), .ref (gB G + (k + 7)), .ref (gB G + (k + 8)), .null, .int 0, .int 0]), .inr (3, [.ref (gB G + (k + 2)), .ref (gB G + (k + 3)), .ref (gB G + (k + 4)), .int 0, .int 0, .int 0, .int 0, .int 0]), .inl (G.2.2.1.1, 4, .inl (fun _ => 0)), .inl (G.2.2.1.1, 8, .inl (fun _ => 0)), .inl (G.2.2.1.1, 8, .inl (fun _ => 0)), .inl (G.2.2.1.1, 6, .inl (fun _ => 0)), .inl (G.2.2.1.1, 6, .inl (fun _ => 0)), .inl (G.2.2.1.1, 6, .inl (fun _ => 0)), .inl (G.2.2.1.1, 1980, .inl (fun _ => 0))]) rfl ?_
  refine sv_aload_n 0 dX7_init_48 rfl ?_
  refine sv_bipush (v := 64) dX7_init_49 (by decide) ?_
  refine hc_newI (len := 64) rfl (by decide) rfl (Nat.le_of_ble_eq_true rfl) (Nat.le_of_ble_eq_true rfl) (Nat.le_of_ble_eq_true rfl) dX7_init_51 ?_
  refine hc_es (es' := [.inr (7, [.ref (gB G + (k + 1)), .ref (gB G + (k + 5)), .ref (gB G + (k + 6)), .ref (gB G + (k + 7)), .ref (gB G + (k + 8)), .null, .int 0, .int 0]), .inr (3, [.ref (gB G + (k + 2)), .ref (gB G + (k + 3)), .ref (gB G + (k + 4)), .int 0, .int 0, .int 0, .int 0, .int 0]), .inl (G.2.2.1.1, 4, .inl (fun _ => 0)), .inl (G.2.2.1.1, 8, .inl (fun _ => 0)), .inl (G.2.2.1.1, 8, .inl (fun _ => 0)), .inl (G.2.2.1.1, 6, .inl (fun _ => 0)), .inl (G.2.2.1.1, 6, .inl (fun _ => 0)), .inl (G.2.2.1.1, 6, .inl (fun _ => 0)), .inl (G.2.2.1.1, 1980, .inl (fun _ => 0)), .inl (G.2.2.1.1, 64, .inl (fun _ => 0))]) rfl ?_
  refine hc_putF (ci := 7) 0 rfl rfl rfl uw_X7 tyX7 tyX7_ok nmX7 5 (by decide) fl_RX7_31 rfl rfl rfl rfl rfl (Nat.le_of_ble_eq_true rfl) dX7_init_53 ?_
  refine hc_es (es' := [.inr (7, [.ref (gB G + (k + 1)), .ref (gB G + (k + 5)), .ref (gB G + (k + 6)), .ref (gB G + (k + 7)), .ref (gB G + (k + 8)), .ref (gB G + (k + 9)), .int 0, .int 0]), .inr (3, [.ref (gB G + (k + 2)), .ref (gB G + (k + 3)), .ref (gB G + (k + 4)), .int 0, .int 0, .int 0, .int 0, .int 0]), .inl (G.2.2.1.1, 4, .inl (fun _ => 0)), .inl (G.2.2.1.1, 8, .inl (fun _ => 0)), .inl (G.2.2.1.1, 8, .inl (fun _ => 0)), .inl (G.2.2.1.1, 6, .inl (fun _ => 0)), .inl (G.2.2.1.1, 6, .inl (fun _ => 0)), .inl (G.2.2.1.1, 6, .inl (fun _ => 0)), .inl (G.2.2.1.1, 1980, .inl (fun _ => 0)), .inl (G.2.2.1.1, 64, .inl (fun _ => 0))]) rfl ?_
  exact sv_vret rfl dX7_init_56 ⟨rfl, rfl, rfl, rfl, fun _ _ => rfl⟩
