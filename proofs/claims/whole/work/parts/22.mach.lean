set_option maxRecDepth 100000 in
set_option maxHeartbeats 4000000 in
theorem sw_X3_step_41 {G : GT} {R : Room} {own nm : String} {nL : Nat} {rt : Option FieldType} {Post : Option Value → Nat → Nat → Nat → (Nat → va_E) → Prop} {cells slots n : Nat} {f : Nat → va_E} {ls : List (Nat × Value)} {st : List Value} {x : Int32} (d : decode cX3_step 41 = .ok (.lookupswitch 308 #[(43, 110), (45, 129), (98, 275), (99, 236), (105, 99), (106, 180), (107, 212), (108, 148), (111, 223), (115, 164), (122, 189)], 99)) (k0 : x = 43 → sv_V G R own nm cX3_step nL rt Post cells slots n f 151 ls st) (k1 : x = 45 → sv_V G R own nm cX3_step nL rt Post cells slots n f 170 ls st) (k2 : x = 98 → sv_V G R own nm cX3_step nL rt Post cells slots n f 316 ls st) (k3 : x = 99 → sv_V G R own nm cX3_step nL rt Post cells slots n f 277 ls st) (k4 : x = 105 → sv_V G R own nm cX3_step nL rt Post cells slots n f 140 ls st) (k5 : x = 106 → sv_V G R own nm cX3_step nL rt Post cells slots n f 221 ls st) (k6 : x = 107 → sv_V G R own nm cX3_step nL rt Post cells slots n f 253 ls st) (k7 : x = 108 → sv_V G R own nm cX3_step nL rt Post cells slots n f 189 ls st) (k8 : x = 111 → sv_V G R own nm cX3_step nL rt Post cells slots n f 264 ls st) (k9 : x = 115 → sv_V G R own nm cX3_step nL rt Post cells slots n f 205 ls st) (k10 : x = 122 → sv_V G R own nm cX3_step nL rt Post cells slots n f 230 ls st) (kd : ¬ x = 43 ∧ ¬ x = 45 ∧ ¬ x = 98 ∧ ¬ x = 99 ∧ ¬ x = 105 ∧ ¬ x = 106 ∧ ¬ x = 107 ∧ ¬ x = 108 ∧ ¬ x = 111 ∧ ¬ x = 115 ∧ ¬ x = 122 → sv_V G R own nm cX3_step nL rt Post cells slots n f 349 ls st) : sv_V G R own nm cX3_step nL rt Post cells slots n f 41 ls (.int x :: st) := by
  by_cases h0 : x = 43
  · subst h0; exact sv_lookup (tgt := 151) (off := 110) d (by decide) (by decide) (by decide) (k0 rfl)
  by_cases h1 : x = 45
  · subst h1; exact sv_lookup (tgt := 170) (off := 129) d (by decide) (by decide) (by decide) (k1 rfl)
  by_cases h2 : x = 98
  · subst h2; exact sv_lookup (tgt := 316) (off := 275) d (by decide) (by decide) (by decide) (k2 rfl)
  by_cases h3 : x = 99
  · subst h3; exact sv_lookup (tgt := 277) (off := 236) d (by decide) (by decide) (by decide) (k3 rfl)
  by_cases h4 : x = 105
  · subst h4; exact sv_lookup (tgt := 140) (off := 99) d (by decide) (by decide) (by decide) (k4 rfl)
  by_cases h5 : x = 106
  · subst h5; exact sv_lookup (tgt := 221) (off := 180) d (by decide) (by decide) (by decide) (k5 rfl)
  by_cases h6 : x = 107
  · subst h6; exact sv_lookup (tgt := 253) (off := 212) d (by decide) (by decide) (by decide) (k6 rfl)
  by_cases h7 : x = 108
  · subst h7; exact sv_lookup (tgt := 189) (off := 148) d (by decide) (by decide) (by decide) (k7 rfl)
  by_cases h8 : x = 111
  · subst h8; exact sv_lookup (tgt := 264) (off := 223) d (by decide) (by decide) (by decide) (k8 rfl)
  by_cases h9 : x = 115
  · subst h9; exact sv_lookup (tgt := 205) (off := 164) d (by decide) (by decide) (by decide) (k9 rfl)
  by_cases h10 : x = 122
  · subst h10; exact sv_lookup (tgt := 230) (off := 189) d (by decide) (by decide) (by decide) (k10 rfl)
  refine sv_lookup (tgt := 349) (off := 308) d (by decide) ?_ (by decide) (kd ⟨h0, h1, h2, h3, h4, h5, h6, h7, h8, h9, h10⟩)
  show Op.lookupswitch.offset [(43, 110), (45, 129), (98, 275), (99, 236), (105, 99), (106, 180), (107, 212), (108, 148), (111, 223), (115, 164), (122, 189)] 308 x.toInt = _
  rw [lv_osw h0 (by decide), lv_osw h1 (by decide), lv_osw h2 (by decide), lv_osw h3 (by decide), lv_osw h4 (by decide), lv_osw h5 (by decide), lv_osw h6 (by decide), lv_osw h7 (by decide), lv_osw h8 (by decide), lv_osw h9 (by decide), lv_osw h10 (by decide)]
  rfl
def fillS (S : Nat → Nat → Int32) (q : Nat) (v : Int32) (k : Nat) : Nat → Nat → Int32 := va_up S q (fun j => if j < k then v else S q j)
theorem fillS_0 (S : Nat → Nat → Int32) (q : Nat) (v : Int32) : fillS S q v 0 = S := by
  funext k j
  unfold fillS va_up
  by_cases hk : k = q
  · subst hk; simp
  · simp [hk]
theorem fillS_s (S : Nat → Nat → Int32) (q : Nat) (v : Int32) (p : Nat) : up2 (fillS S q v p) q p v = fillS S q v (p + 1) := by
  funext k j
  rw [up2_at]
  unfold fillS va_up
  by_cases hk : k = q
  · subst hk
    simp only [true_and, if_pos]
    by_cases h1 : j = p
    · rw [if_pos h1, if_pos (by omega)]
    · rw [if_neg h1]
      by_cases h2 : j < p
      · rw [if_pos h2, if_pos (by omega)]
      · rw [if_neg h2, if_neg (by omega)]
  · simp [hk]
theorem fillS_all {S : Nat → Nat → Int32} {q len : Nat} {v : Int32} (hq : shp q = (11, len)) : sEq (fillS S q v len) (va_up S q (fun _ => v)) := by
  intro k _ j hj
  unfold fillS va_up
  by_cases hk : k = q
  · subst hk
    rw [hq] at hj
    have hj : j < len := hj
    simp [hj]
  · simp [hk]
set_option maxRecDepth 100000 in
set_option maxHeartbeats 4000000 in
theorem l_J7_fill_53178 (G : GT) (S : Nat → Nat → Int32) (L : Nat → Int64) (q len : Nat) (hq : shp q = (11, len)) (v : Int32) : ∀ (m p : Nat), len - p = m → p ≤ len → sv_V G R_J7_fill_53178 RJ7 "fill" cJ7_fill_53178 4 none (sPo G R_J7_fill_53178 none (va_up S q (fun _ => v)) L) 0 0 197 (CF G (fillS S q v p) L) 5 [(3, .int (nI len)), (2, .int (nI p)), (0, .ref (gB G + q)), (1, .int v)] [] := by
  have hl := shp_len hq
  intro m
  induction m using Nat.strongRecOn
  rename_i m ih
  intro p hm hp
  refine sv_iload_n 1 dJ7_fill_53178_5 rfl ?_
  refine sv_iload_n 0 dJ7_fill_53178_6 rfl ?_
  refine sv_icmp_ge (tgt := 20) dJ7_fill_53178_7 (by decide) (fun c7 => ?_) (fun c7 => ?_)
  · -- jump
    obtain rfl : p = len := by have := (nI_leI (by omega) (by omega)).mp c7; omega
    exact se_vret rfl ⟨rfl, rfl⟩ dJ7_fill_53178_20 (fillS_all hq)
  · -- fall
    have h7 : p < len := Nat.lt_of_not_le (fun z => c7 (nI_le z (by omega)))
    refine sv_aload_n 2 dJ7_fill_53178_10 rfl ?_
    refine sv_iload_n 1 dJ7_fill_53178_11 rfl ?_
    refine sv_iload_n 3 dJ7_fill_53178_12 rfl ?_
    refine sx_ist hq p rfl (by omega) dJ7_fill_53178_13 ?_
    refine sv_eqS (fillS_s S q v p) ?_
    refine sv_iinc 1 (ls' := [(2, _), (3, _), (0, _), (1, _)]) dJ7_fill_53178_14 rfl (nI_1 _) (by decide) rfl ?_
    refine sv_goto (tgt := 5) dJ7_fill_53178_17 (by decide) ?_
    refine sv_locals [1, 0, 2, 3] rfl ?_
    exact ih (len - (p + 1)) (by omega) (p + 1) rfl (by omega)
set_option maxRecDepth 100000 in
set_option maxHeartbeats 4000000 in
theorem e_J7_fill_53178 (G : GT) (S : Nat → Nat → Int32) (L : Nat → Int64) (q len : Nat) (hq : shp q = (11, len)) (v : Int32) : sE G yJ7_fill_53178 R_J7_fill_53178 cJ7_fill_53178 4 none [.ref (gB G + q), .int v] S L none (va_up S q (fun _ => v)) L := by
  refine sE.of (by decide) (Nat.le_of_ble_eq_true rfl) ?_
  show sv_V G R_J7_fill_53178 RJ7 "fill" cJ7_fill_53178 4 none (sPo G R_J7_fill_53178 none (va_up S q (fun _ => v)) L) 0 0 197 (CF G S L) 0 [(0, .ref (gB G + q)), (1, .int v)] []
  refine sv_iconst (v := 0) dJ7_fill_53178_0 (by decide) ?_
  refine sv_istore_n (ls' := [(2, _), (0, _), (1, _)]) dJ7_fill_53178_1 (by decide) rfl ?_
  refine sv_aload_n 1 dJ7_fill_53178_2 rfl ?_
  refine sx_len hq dJ7_fill_53178_3 ?_
  refine sv_istore_n (ls' := [(3, _), (2, _), (0, _), (1, _)]) dJ7_fill_53178_4 (by decide) rfl ?_
  have h := l_J7_fill_53178 G S L q len hq v _ 0 rfl (by omega)
  rw [fillS_0] at h
  exact h
/-- the n rows from a on become those from o on -/
def cpR (S : Nat → Nat → Int32) (a o n : Nat) : Nat → Nat → Int32 := fun k => if a ≤ k ∧ k < a + n then S (o + (k - a)) else S k
/-- a machine as at the beginning (its stack's old places stay) -/
def mbeg (S : Nat → Nat → Int32) (mq : Nat) : Nat → Nat → Int32 := fun k j => if k = mq then (if 3 ≤ j ∧ j < 8 then 0 else S mq j) else if k = mq + 1 then 0 else if k = mq + 2 then 0 else S k j
theorem relM {k j : Nat} (h : shp k = (3, 0)) (hj : rel (shp k) j) : j = 3 ∨ j = 4 ∨ j = 5 ∨ j = 6 ∨ j = 7 := by rw [h] at hj; exact hj
theorem relI {k j len : Nat} (h : shp k = (11, len)) (hj : rel (shp k) j) : j < len := by rw [h] at hj; exact hj
set_option maxRecDepth 100000 in
set_option maxHeartbeats 4000000 in
theorem e_X3_begin (G : GT) (S : Nat → Nat → Int32) (L : Nat → Int64) (mq : Nat) (hm : isMach mq) : sE G yX3_begin R_X3_begin cX3_begin 1 none [.ref (gB G + mq)] S L none (mbeg S mq) L := by
  refine sE.of (by decide) (Nat.le_of_ble_eq_true rfl) ?_
  show sv_V G R_X3_begin RX3 "begin" cX3_begin 1 none (sPo G R_X3_begin none (mbeg S mq) L) 0 0 197 (CF G S L) 0 [(0, .ref (gB G + mq))] []
  refine sv_aload_n 0 dX3_begin_0 rfl ?_
  refine sg_3_0 hm.1 fl_RX3_9 dX3_begin_1 ?_
  refine sv_iconst (v := 0) dX3_begin_4 (by decide) ?_
  refine cSv2 (e_J7_fill_53178 G _ _ _ _ hm.2.1 _) ⟨rfl, rfl⟩ (sv_w4 ml_RX3_21 st_J7_fill_53178 in_RJ7 cd_J7_fill_53178) nm_J7_fill_53178 ⟨Nat.le_of_ble_eq_true rfl, Nat.le_of_ble_eq_true rfl⟩ (Nat.le_of_ble_eq_true rfl) ⟨Nat.le_of_ble_eq_true rfl, Nat.le_of_ble_eq_true rfl⟩ dX3_begin_5 ?_
  refine sv_aload_n 0 dX3_begin_8 rfl ?_
  refine sg_3_1 hm.1 fl_RX3_15 dX3_begin_9 ?_
  refine sv_iconst (v := 0) dX3_begin_12 (by decide) ?_
  refine cSv2 (e_J7_fill_53178 G _ _ _ _ hm.2.2.1 _) ⟨rfl, rfl⟩ (sv_w4 ml_RX3_21 st_J7_fill_53178 in_RJ7 cd_J7_fill_53178) nm_J7_fill_53178 ⟨Nat.le_of_ble_eq_true rfl, Nat.le_of_ble_eq_true rfl⟩ (Nat.le_of_ble_eq_true rfl) ⟨Nat.le_of_ble_eq_true rfl, Nat.le_of_ble_eq_true rfl⟩ dX3_begin_13 ?_
  refine sv_aload_n 0 dX3_begin_16 rfl ?_
  refine sv_iconst (v := 0) dX3_begin_17 (by decide) ?_
  refine sp_3_3 hm.1 fl_RX3_27 dX3_begin_18 ?_
  refine sv_aload_n 0 dX3_begin_21 rfl ?_
  refine sv_iconst (v := 0) dX3_begin_22 (by decide) ?_
  refine sp_3_4 hm.1 fl_RX3_31 dX3_begin_23 ?_
  refine sv_aload_n 0 dX3_begin_26 rfl ?_
  refine sv_iconst (v := 0) dX3_begin_27 (by decide) ?_
  refine sp_3_5 hm.1 fl_RX3_34 (Or.inl rfl) dX3_begin_28 ?_
  refine sv_aload_n 0 dX3_begin_31 rfl ?_
  refine sv_iconst (v := 0) dX3_begin_32 (by decide) ?_
  refine sp_3_6 hm.1 fl_RX3_38 dX3_begin_33 ?_
  refine sv_aload_n 0 dX3_begin_36 rfl ?_
  refine sv_iconst (v := 0) dX3_begin_37 (by decide) ?_
  refine sp_3_7 hm.1 fl_RX3_41 dX3_begin_38 ?_
  exact se_vret rfl ⟨rfl, rfl⟩ dX3_begin_41 (by
      intro k _ j hj
      by_cases h0 : k = mq
      · subst h0
        rcases relM hm.1 hj with rfl | rfl | rfl | rfl | rfl <;> simp [up2_at, mbeg, va_up]
      · simp only [up2_at, h0, false_and, ↓reduceIte, mbeg, va_up]
        by_cases h2 : k = mq + 2
        · subst h2; simp
        · by_cases h1 : k = mq + 1
          · subst h1; simp
          · simp [h1, h2])
theorem cp_mach {S : Nat → Nat → Int32} {mq o : Nat} (hm : isMach mq) (hd : o + 4 ≤ mq ∨ mq + 4 ≤ o) : sEq (up2 (up2 (up2 (up2 (up2 (va_up (va_up (va_up S (mq + 1) (S (o + 1))) (mq + 2) (S (o + 2))) (mq + 3) (S (o + 3))) mq 3 (S o 3)) mq 4 (S o 4)) mq 5 (S o 5)) mq 6 (S o 6)) mq 7 (S o 7)) (cpR S mq o 4) := by
  intro k _ j hj
  unfold cpR
  by_cases h0 : k = mq
  · subst h0
    rw [if_pos (by omega), Nat.sub_self, Nat.add_zero]
    rcases relM hm.1 hj with rfl | rfl | rfl | rfl | rfl <;> simp [up2_at]
  · simp only [up2_at, h0, false_and, ↓reduceIte, va_up]
    by_cases h3 : k = mq + 3
    · subst h3; rw [if_pos rfl, if_pos (by omega), show mq + 3 - mq = 3 by omega]
    · rw [if_neg h3]
      by_cases h2 : k = mq + 2
      · subst h2; rw [if_pos rfl, if_pos (by omega), show mq + 2 - mq = 2 by omega]
      · rw [if_neg h2]
        by_cases h1 : k = mq + 1
        · subst h1; rw [if_pos rfl, if_pos (by omega), show mq + 1 - mq = 1 by omega]
        · rw [if_neg h1, if_neg (by omega)]
set_option maxRecDepth 100000 in
set_option maxHeartbeats 4000000 in
theorem e_X3_takeFrom (G : GT) (S : Nat → Nat → Int32) (L : Nat → Int64) (mq : Nat) (hm : isMach mq) (o : Nat) (ho : isMach o) (hd : o + 4 ≤ mq ∨ mq + 4 ≤ o) (hz : S o 5 = 0 ∨ S o 5 = 1) : sE G yX3_takeFrom R_X3_takeFrom cX3_takeFrom 2 none [.ref (gB G + mq), .ref (gB G + o)] S L none (cpR S mq o 4) L := by
  refine sE.of (by decide) (Nat.le_of_ble_eq_true rfl) ?_
  show sv_V G R_X3_takeFrom RX3 "takeFrom" cX3_takeFrom 2 none (sPo G R_X3_takeFrom none (cpR S mq o 4) L) 0 0 197 (CF G S L) 0 [(0, .ref (gB G + mq)), (1, .ref (gB G + o))] []
  refine sv_aload_n 1 dX3_takeFrom_0 rfl ?_
  refine sg_3_0 ho.1 fl_RX3_9 dX3_takeFrom_1 ?_
  refine sv_iconst (v := 0) dX3_takeFrom_4 (by decide) ?_
  refine sv_aload_n 0 dX3_takeFrom_5 rfl ?_
  refine sg_3_0 hm.1 fl_RX3_9 dX3_takeFrom_6 ?_
  refine sv_iconst (v := 0) dX3_takeFrom_9 (by decide) ?_
  refine sv_iconst (v := 4) dX3_takeFrom_10 (by decide) ?_
  refine sx_copy ml_RX3_44 ho.2.1 hm.2.1 (by decide) (by decide) (Nat.le_of_ble_eq_true rfl) dX3_takeFrom_11 ?_
  refine sv_aload_n 1 dX3_takeFrom_14 rfl ?_
  refine sg_3_1 ho.1 fl_RX3_15 dX3_takeFrom_15 ?_
  refine sv_iconst (v := 0) dX3_takeFrom_18 (by decide) ?_
  refine sv_aload_n 0 dX3_takeFrom_19 rfl ?_
  refine sg_3_1 hm.1 fl_RX3_15 dX3_takeFrom_20 ?_
  refine sv_iconst (v := 0) dX3_takeFrom_23 (by decide) ?_
  refine sv_bipush (v := 8) dX3_takeFrom_24 (by decide) ?_
  refine sx_copy ml_RX3_44 ho.2.2.1 hm.2.2.1 (by decide) (by decide) (Nat.le_of_ble_eq_true rfl) dX3_takeFrom_26 ?_
  rw [show va_up S (mq + 1) (S (o + 1)) (o + 2) = S (o + 2) from by unfold va_up; rw [if_neg (by omega)]]
  refine sv_aload_n 1 dX3_takeFrom_29 rfl ?_
  refine sg_3_2 ho.1 fl_RX3_18 dX3_takeFrom_30 ?_
  refine sv_iconst (v := 0) dX3_takeFrom_33 (by decide) ?_
  refine sv_aload_n 0 dX3_takeFrom_34 rfl ?_
  refine sg_3_2 hm.1 fl_RX3_18 dX3_takeFrom_35 ?_
  refine sv_iconst (v := 0) dX3_takeFrom_38 (by decide) ?_
  refine sv_bipush (v := 8) dX3_takeFrom_39 (by decide) ?_
  refine sx_copy ml_RX3_44 ho.2.2.2 hm.2.2.2 (by decide) (by decide) (Nat.le_of_ble_eq_true rfl) dX3_takeFrom_41 ?_
  rw [show va_up (va_up S (mq + 1) (S (o + 1))) (mq + 2) (S (o + 2)) (o + 3) = S (o + 3) from by unfold va_up; rw [if_neg (by omega), if_neg (by omega)]]
  refine sv_aload_n 0 dX3_takeFrom_44 rfl ?_
  refine sv_aload_n 1 dX3_takeFrom_45 rfl ?_
  refine sg_3_3 ho.1 fl_RX3_27 dX3_takeFrom_46 ?_
  rw [show va_up (va_up (va_up S (mq + 1) (S (o + 1))) (mq + 2) (S (o + 2))) (mq + 3) (S (o + 3)) o 3 = S o 3 from by simp only [up2_at, va_up, show ¬ o = mq by omega, show ¬ o = mq + 1 by omega, show ¬ o = mq + 2 by omega, show ¬ o = mq + 3 by omega, false_and, ↓reduceIte]]
  refine sp_3_3 hm.1 fl_RX3_27 dX3_takeFrom_49 ?_
  refine sv_aload_n 0 dX3_takeFrom_52 rfl ?_
  refine sv_aload_n 1 dX3_takeFrom_53 rfl ?_
  refine sg_3_4 ho.1 fl_RX3_31 dX3_takeFrom_54 ?_
  refine sv_topE (v' := S o 4) (by simp only [up2_at, va_up, show ¬ o = mq by omega, show ¬ o = mq + 1 by omega, show ¬ o = mq + 2 by omega, show ¬ o = mq + 3 by omega, false_and, ↓reduceIte]) ?_
  refine sp_3_4 hm.1 fl_RX3_31 dX3_takeFrom_57 ?_
  refine sv_aload_n 0 dX3_takeFrom_60 rfl ?_
  refine sv_aload_n 1 dX3_takeFrom_61 rfl ?_
  refine sg_3_5 ho.1 fl_RX3_34 dX3_takeFrom_62 ?_
  refine sv_topE (v' := S o 5) (by simp only [up2_at, va_up, show ¬ o = mq by omega, show ¬ o = mq + 1 by omega, show ¬ o = mq + 2 by omega, show ¬ o = mq + 3 by omega, false_and, ↓reduceIte]) ?_
  refine sp_3_5 hm.1 fl_RX3_34 hz dX3_takeFrom_65 ?_
  refine sv_aload_n 0 dX3_takeFrom_68 rfl ?_
  refine sv_aload_n 1 dX3_takeFrom_69 rfl ?_
  refine sg_3_6 ho.1 fl_RX3_38 dX3_takeFrom_70 ?_
  refine sv_topE (v' := S o 6) (by simp only [up2_at, va_up, show ¬ o = mq by omega, show ¬ o = mq + 1 by omega, show ¬ o = mq + 2 by omega, show ¬ o = mq + 3 by omega, false_and, ↓reduceIte]) ?_
  refine sp_3_6 hm.1 fl_RX3_38 dX3_takeFrom_73 ?_
  refine sv_aload_n 0 dX3_takeFrom_76 rfl ?_
  refine sv_aload_n 1 dX3_takeFrom_77 rfl ?_
  refine sg_3_7 ho.1 fl_RX3_41 dX3_takeFrom_78 ?_
  refine sv_topE (v' := S o 7) (by simp only [up2_at, va_up, show ¬ o = mq by omega, show ¬ o = mq + 1 by omega, show ¬ o = mq + 2 by omega, show ¬ o = mq + 3 by omega, false_and, ↓reduceIte]) ?_
  refine sp_3_7 hm.1 fl_RX3_41 dX3_takeFrom_81 ?_
  exact se_vret rfl ⟨rfl, rfl⟩ dX3_takeFrom_84 (cp_mach hm hd)
theorem relI' {k len : Nat} (h : shp k = (11, len)) {j : Nat} (hj : j < len) : rel (shp k) j := by rw [h]; exact hj
/-- an instruction whose numbers are in their ranges -/
def wfI (k x y : Int32) : Prop := ¬ x < 0 ∧ ¬ 4 ≤ x ∧ ((k = 43 ∨ k = 45) → ¬ y < 0 ∧ ¬ 4 ≤ y) ∧ ((k = 108 ∨ k = 115) → ¬ y < 0 ∧ ¬ 8 ≤ y)
/-- a program whose instructions are in their ranges -/
def wfP (S : Nat → Nat → Int32) (r : Nat) : Prop := ¬ S r 4 < 0 ∧ ¬ 16 < S r 4 ∧ ∀ p, p < tn (S r 4) → wfI (S (r + 1) p) (S (r + 2) p) (S (r + 3) p)
/-- a machine whose stack's depth is in its range -/
def wfM (S : Nat → Nat → Int32) (mq : Nat) : Prop := ¬ S mq 3 < 0 ∧ ¬ 8 < S mq 3 ∧ (S mq 5 = 0 ∨ S mq 5 = 1)
def putS (S : Nat → Nat → Int32) (mq : Nat) (v : Int32) : Nat → Nat → Int32 := up2 (up2 S mq 6 (S mq 6 + 1)) mq 7 (31 * S mq 7 + v)
/-- whether a step does not fault -/
abbrev stP (S : Nat → Nat → Int32) (mq r : Nat) : Prop := (¬ S mq 4 < 0 ∧ ¬ S r 4 ≤ S mq 4) ∧ ¬ (S (r + 1) (tn (S mq 4)) = 98 ∧ ¬ 0 < S mq 3) ∧ ¬ (S (r + 1) (tn (S mq 4)) = 99 ∧ ¬ S mq 3 < 8)
/-- what a step that does not fault leaves -/
def stS (S : Nat → Nat → Int32) (mq r : Nat) : Nat → Nat → Int32 :=
  if S (r + 1) (tn (S mq 4)) = 43 then up2 (up2 S (mq + 1) (tn (S (r + 2) (tn (S mq 4)))) (S (mq + 1) (tn (S (r + 2) (tn (S mq 4)))) + S (mq + 1) (tn (S (r + 3) (tn (S mq 4)))))) mq 4 (S mq 4 + 1)
  else if S (r + 1) (tn (S mq 4)) = 45 then up2 (up2 S (mq + 1) (tn (S (r + 2) (tn (S mq 4)))) (S (mq + 1) (tn (S (r + 2) (tn (S mq 4)))) - S (mq + 1) (tn (S (r + 3) (tn (S mq 4)))))) mq 4 (S mq 4 + 1)
  else if S (r + 1) (tn (S mq 4)) = 98 then up2 (up2 S mq 3 (S mq 3 - 1)) mq 4 (S (mq + 3) (tn (S mq 3 - 1)))
  else if S (r + 1) (tn (S mq 4)) = 99 then up2 (up2 (up2 S (mq + 3) (tn (S mq 3)) (S mq 4 + 1)) mq 3 (S mq 3 + 1)) mq 4 (S (r + 3) (tn (S mq 4)))
  else if S (r + 1) (tn (S mq 4)) = 105 then up2 (up2 S (mq + 1) (tn (S (r + 2) (tn (S mq 4)))) (S (r + 3) (tn (S mq 4)))) mq 4 (S mq 4 + 1)
  else if S (r + 1) (tn (S mq 4)) = 106 then up2 S mq 4 (S mq 4 + S (r + 3) (tn (S mq 4)))
  else if S (r + 1) (tn (S mq 4)) = 107 then up2 (up2 S (mq + 1) (tn (S (r + 2) (tn (S mq 4)))) (S mq 4 + 1)) mq 4 (S mq 4 + 1)
  else if S (r + 1) (tn (S mq 4)) = 108 then up2 (up2 S (mq + 1) (tn (S (r + 2) (tn (S mq 4)))) (S (mq + 2) (tn (S (r + 3) (tn (S mq 4)))))) mq 4 (S mq 4 + 1)
  else if S (r + 1) (tn (S mq 4)) = 111 then up2 (putS S mq (S (mq + 1) (tn (S (r + 2) (tn (S mq 4)))))) mq 4 (S mq 4 + 1)
  else if S (r + 1) (tn (S mq 4)) = 115 then up2 (up2 S (mq + 2) (tn (S (r + 3) (tn (S mq 4)))) (S (mq + 1) (tn (S (r + 2) (tn (S mq 4)))))) mq 4 (S mq 4 + 1)
  else if S (r + 1) (tn (S mq 4)) = 122 then up2 S mq 4 (if S (mq + 1) (tn (S (r + 2) (tn (S mq 4)))) = 0 then S mq 4 + S (r + 3) (tn (S mq 4)) else S mq 4 + 1)
  else up2 (up2 S mq 5 1) mq 4 (S mq 4)
theorem hasI {x M : Int32} (h0 : ¬ x < 0) (h1 : ¬ M ≤ x) (hM : ¬ M < 0) : tn x < tn M := by
  obtain ⟨a, ha, rfl⟩ := nI_of h0
  obtain ⟨b, hb, rfl⟩ := nI_of hM
  rw [tn_nI ha, tn_nI hb]
  exact Nat.lt_of_not_le (fun z => h1 (nI_le z ha))
theorem tn_16 {M : Int32} (h0 : ¬ M < 0) (h1 : ¬ 16 < M) : tn M ≤ 16 := tn_le (M := 16) rfl (by decide) h0 h1
set_option maxRecDepth 100000 in
set_option maxHeartbeats 4000000 in
theorem e_X3_putOut (G : GT) (S : Nat → Nat → Int32) (L : Nat → Int64) (mq : Nat) (hm : isMach mq) (v : Int32) : sE G yX3_putOut R_X3_putOut cX3_putOut 2 none [.ref (gB G + mq), .int v] S L none (putS S mq v) L := by
  refine sE.of (by decide) (Nat.le_of_ble_eq_true rfl) ?_
  show sv_V G R_X3_putOut RX3 "putOut" cX3_putOut 2 none (sPo G R_X3_putOut none (putS S mq v) L) 0 0 197 (CF G S L) 0 [(0, .ref (gB G + mq)), (1, .int v)] []
  refine sv_aload_n 0 dX3_putOut_0 rfl ?_
  refine sv_dup dX3_putOut_1 rfl ?_
  refine sg_3_6 hm.1 fl_RX3_38 dX3_putOut_2 ?_
  refine sv_iconst (v := 1) dX3_putOut_5 (by decide) ?_
  refine sv_iadd dX3_putOut_6 ?_
  refine sp_3_6 hm.1 fl_RX3_38 dX3_putOut_7 ?_
  refine sv_aload_n 0 dX3_putOut_10 rfl ?_
  refine sv_bipush (v := 31) dX3_putOut_11 (by decide) ?_
  refine sv_aload_n 0 dX3_putOut_13 rfl ?_
  refine sg_3_7 hm.1 fl_RX3_41 dX3_putOut_14 ?_
  refine sv_imul dX3_putOut_17 ?_
  refine sv_iload_n 1 dX3_putOut_18 rfl ?_
  refine sv_iadd dX3_putOut_19 ?_
  refine sp_3_7 hm.1 fl_RX3_41 dX3_putOut_20 ?_
  exact se_vret rfl ⟨rfl, rfl⟩ dX3_putOut_23 (by unfold putS; simp only [up2_at, true_and, ↓reduceIte, show ¬ (7 : Nat) = 6 by decide]; exact sEq.rf _)
set_option maxRecDepth 100000 in
set_option maxHeartbeats 4000000 in
theorem e_X3_step (G : GT) (S : Nat → Nat → Int32) (L : Nat → Int64) (mq : Nat) (hm : isMach mq) (r : Nat) (hr : isProg r) (hP : wfP S r) (hM : wfM S mq) : sE G yX3_step R_X3_step cX3_step 6 (some .boolean) [.ref (gB G + mq), .ref (gB G + r)] S L (some (.int (if (stP S mq r) then 1 else 0))) (if stP S mq r then stS S mq r else S) L := by
  refine sE.of (by decide) (Nat.le_of_ble_eq_true rfl) ?_
  show sv_V G R_X3_step RX3 "step" cX3_step 6 (some .boolean) (sPo G R_X3_step (some (.int (if (stP S mq r) then 1 else 0))) (if stP S mq r then stS S mq r else S) L) 0 0 197 (CF G S L) 0 [(0, .ref (gB G + mq)), (1, .ref (gB G + r))] []
  refine sv_aload_n 0 dX3_step_0 rfl ?_
  refine sg_3_4 hm.1 fl_RX3_31 dX3_step_1 ?_
  refine sv_istore_n (ls' := [(2, _), (0, _), (1, _)]) dX3_step_4 (by decide) rfl ?_
  refine sv_aload_n 2 dX3_step_5 rfl ?_
  refine sv_iload_n 0 dX3_step_6 rfl ?_
  refine cVi1 (e_X4_has G _ _ _ hr _) ⟨rfl, rfl⟩ (sv_w5 ml_RX3_50 im_X4_has sl_X4_has in_RX4 cd_X4_has) nm_X4_has ⟨Nat.le_of_ble_eq_true rfl, Nat.le_of_ble_eq_true rfl⟩ rfl (CF_4 hr.1) (shp_lt hr.1 (by simp)) (Nat.le_of_ble_eq_true rfl) ⟨Nat.le_of_ble_eq_true rfl, Nat.le_of_ble_eq_true rfl⟩ dX3_step_7 ?_
  refine sv_ifne_b (tgt := 15) dX3_step_10 (by decide) (fun c10 => ?_) (fun c10 => ?_)
  · -- jump
    have hpl := hasI c10.1 c10.2 hP.1
    have h16 := tn_16 hP.1 hP.2.1
    have hp : tn (S mq 4) < 16 := by omega
    have hw := hP.2.2 _ hpl
    refine sv_aload_n 2 dX3_step_15 rfl ?_
    refine sg_4_1 hr.1 fl_RX3_56 dX3_step_16 ?_
    refine sv_iload_n 0 dX3_step_19 rfl ?_
    refine sx_ild hr.2.2.1 _ (nI_self c10.1) hp dX3_step_20 ?_
    refine sv_istore_n (ls' := [(3, _), (2, _), (0, _), (1, _)]) dX3_step_21 (by decide) rfl ?_
    refine sv_aload_n 3 dX3_step_22 rfl ?_
    refine sg_4_2 hr.1 fl_RX3_59 dX3_step_23 ?_
    refine sv_iload_n 1 dX3_step_26 rfl ?_
    refine sx_ild hr.2.2.2.1 _ (nI_self c10.1) hp dX3_step_27 ?_
    refine sv_istore (ls' := [(4, _), (3, _), (2, _), (0, _), (1, _)]) dX3_step_28 (by decide) rfl ?_
    refine sv_iload_n 2 dX3_step_30 rfl ?_
    refine sv_iconst (v := 1) dX3_step_31 (by decide) ?_
    refine sv_iadd dX3_step_32 ?_
    refine sv_istore (ls' := [(5, _), (4, _), (3, _), (2, _), (0, _), (1, _)]) dX3_step_33 (by decide) rfl ?_
    refine sv_aload_n 5 dX3_step_35 rfl ?_
    refine sg_4_0 hr.1 fl_RX3_62 dX3_step_36 ?_
    refine sv_iload_n 3 dX3_step_39 rfl ?_
    refine sx_ild hr.2.1 _ (nI_self c10.1) hp dX3_step_40 ?_
    refine sw_X3_step_41 dX3_step_41 (fun c41 => ?_) (fun c41 => ?_) (fun c41 => ?_) (fun c41 => ?_) (fun c41 => ?_) (fun c41 => ?_) (fun c41 => ?_) (fun c41 => ?_) (fun c41 => ?_) (fun c41 => ?_) (fun c41 => ?_) (fun c41 => ?_)
    · -- case 43
      refine sv_aload_n 4 dX3_step_151 rfl ?_
      refine sg_3_0 hm.1 fl_RX3_9 dX3_step_152 ?_
      refine sv_iload_n 2 dX3_step_155 rfl ?_
      refine sv_dup2_11 dX3_step_156 rfl rfl ?_
      refine sx_ild hm.2.1 _ (nI_self hw.1) (tn_lt (M := 4) (k := 4) rfl (by decide) hw.1 hw.2.1) dX3_step_157 ?_
      refine sv_aload_n 4 dX3_step_158 rfl ?_
      refine sg_3_0 hm.1 fl_RX3_9 dX3_step_159 ?_
      refine sv_iload 1 dX3_step_162 rfl ?_
      refine sx_ild hm.2.1 _ (nI_self (hw.2.2.1 (Or.inl c41)).1) (tn_lt (M := 4) (k := 4) rfl (by decide) (hw.2.2.1 (Or.inl c41)).1 (hw.2.2.1 (Or.inl c41)).2) dX3_step_164 ?_
      refine sv_iadd dX3_step_165 ?_
      refine sx_ist hm.2.1 _ (nI_self hw.1) (tn_lt (M := 4) (k := 4) rfl (by decide) hw.1 hw.2.1) dX3_step_166 ?_
      refine sv_goto (tgt := 357) dX3_step_167 (by decide) ?_
      refine sv_aload_n 4 dX3_step_357 rfl ?_
      refine sv_iload 0 dX3_step_358 rfl ?_
      refine sp_3_4 hm.1 fl_RX3_31 dX3_step_360 ?_
      refine sv_iconst (v := 1) dX3_step_363 (by decide) ?_
      exact se_zret rfl ⟨rfl, rfl⟩ dX3_step_364 (by rfl) (by rw [if_pos (show stP S mq r from ⟨c10, fun h => absurd h (by simp [c41]), fun h => absurd h (by simp [c41])⟩)]) (by rw [if_pos (show stP S mq r from ⟨c10, fun h => absurd h (by simp [c41]), fun h => absurd h (by simp [c41])⟩)]; simp [stS, c41, up2_at, show ¬ mq + 3 = mq by omega, show ¬ mq = mq + 3 by omega, show ¬ mq = mq + 1 by omega, show ¬ mq = mq + 2 by omega, show ¬ mq + 1 = mq by omega])
    · -- case 45
      refine sv_aload_n 4 dX3_step_170 rfl ?_
      refine sg_3_0 hm.1 fl_RX3_9 dX3_step_171 ?_
      refine sv_iload_n 2 dX3_step_174 rfl ?_
      refine sv_dup2_11 dX3_step_175 rfl rfl ?_
      refine sx_ild hm.2.1 _ (nI_self hw.1) (tn_lt (M := 4) (k := 4) rfl (by decide) hw.1 hw.2.1) dX3_step_176 ?_
      refine sv_aload_n 4 dX3_step_177 rfl ?_
      refine sg_3_0 hm.1 fl_RX3_9 dX3_step_178 ?_
      refine sv_iload 1 dX3_step_181 rfl ?_
      refine sx_ild hm.2.1 _ (nI_self (hw.2.2.1 (Or.inr c41)).1) (tn_lt (M := 4) (k := 4) rfl (by decide) (hw.2.2.1 (Or.inr c41)).1 (hw.2.2.1 (Or.inr c41)).2) dX3_step_183 ?_
      refine sv_isub dX3_step_184 ?_
      refine sx_ist hm.2.1 _ (nI_self hw.1) (tn_lt (M := 4) (k := 4) rfl (by decide) hw.1 hw.2.1) dX3_step_185 ?_
      refine sv_goto (tgt := 357) dX3_step_186 (by decide) ?_
      refine sv_aload_n 4 dX3_step_357 rfl ?_
      refine sv_iload 0 dX3_step_358 rfl ?_
      refine sp_3_4 hm.1 fl_RX3_31 dX3_step_360 ?_
      refine sv_iconst (v := 1) dX3_step_363 (by decide) ?_
      exact se_zret rfl ⟨rfl, rfl⟩ dX3_step_364 (by rfl) (by rw [if_pos (show stP S mq r from ⟨c10, fun h => absurd h (by simp [c41]), fun h => absurd h (by simp [c41])⟩)]) (by rw [if_pos (show stP S mq r from ⟨c10, fun h => absurd h (by simp [c41]), fun h => absurd h (by simp [c41])⟩)]; simp [stS, c41, up2_at, show ¬ mq + 3 = mq by omega, show ¬ mq = mq + 3 by omega, show ¬ mq = mq + 1 by omega, show ¬ mq = mq + 2 by omega, show ¬ mq + 1 = mq by omega])
    · -- case 98
      refine sv_aload_n 4 dX3_step_316 rfl ?_
      refine sg_3_3 hm.1 fl_RX3_27 dX3_step_317 ?_
      refine sv_if_gt (tgt := 325) dX3_step_320 (by decide) (fun c320 => ?_) (fun c320 => ?_)
      · -- jump
        refine sv_aload_n 4 dX3_step_325 rfl ?_
        refine sv_dup dX3_step_326 rfl ?_
        refine sg_3_3 hm.1 fl_RX3_27 dX3_step_327 ?_
        refine sv_iconst (v := 1) dX3_step_330 (by decide) ?_
        refine sv_isub dX3_step_331 ?_
        refine sp_3_3 hm.1 fl_RX3_27 dX3_step_332 ?_
        refine sv_aload_n 4 dX3_step_335 rfl ?_
        refine sg_3_2 hm.1 fl_RX3_18 dX3_step_336 ?_
        refine sv_aload_n 4 dX3_step_339 rfl ?_
        refine sg_3_3 hm.1 fl_RX3_27 dX3_step_340 ?_
        have e3 : up2 S mq 3 (S mq 3 - 1) mq 3 = S mq 3 - 1 := up2_same _ _ _ _
        obtain ⟨dd, hdd, hde⟩ : ∃ d : Nat, d < 8 ∧ S mq 3 = nI (d + 1) := by
          have h1 := tn_le (M := 8) (k := 8) rfl (by decide) hM.1 hM.2.1
          have h2 := nI_self hM.1
          have h3 : tn (S mq 3) ≠ 0 := fun z => by rw [h2, show (S mq 3).toNatClampNeg = 0 from z] at c320; exact absurd c320 (by decide)
          exact ⟨tn (S mq 3) - 1, by omega, by rw [show tn (S mq 3) - 1 + 1 = tn (S mq 3) by omega]; exact h2⟩
        have hds : S mq 3 - 1 = nI dd := by rw [hde]; exact nI_pred dd
        have hd1 : up2 S mq 3 (S mq 3 - 1) mq 3 = nI (tn (S mq 3 - 1)) := by rw [e3, hds, tn_nI (by omega)]
        have hd2 : tn (S mq 3 - 1) < 8 := by rw [hds, tn_nI (by omega)]; exact hdd
        refine sx_ild hm.2.2.2 (tn (S mq 3 - 1)) hd1 hd2 dX3_step_343 ?_
        refine sv_istore (ls' := [(5, _), (4, _), (3, _), (2, _), (0, _), (1, _)]) dX3_step_344 (by decide) rfl ?_
        refine sv_goto (tgt := 357) dX3_step_346 (by decide) ?_
        refine sv_aload_n 4 dX3_step_357 rfl ?_
        refine sv_iload 0 dX3_step_358 rfl ?_
        refine sp_3_4 hm.1 fl_RX3_31 dX3_step_360 ?_
        refine sv_iconst (v := 1) dX3_step_363 (by decide) ?_
        exact se_zret rfl ⟨rfl, rfl⟩ dX3_step_364 (by rfl) (by rw [if_pos (show stP S mq r from ⟨c10, fun h => absurd h (by simp [c41, c320]), fun h => absurd h (by simp [c41, c320])⟩)]) (by rw [if_pos (show stP S mq r from ⟨c10, fun h => absurd h (by simp [c41, c320]), fun h => absurd h (by simp [c41, c320])⟩)]; simp [stS, c41, c320, up2_at, show ¬ mq + 3 = mq by omega, show ¬ mq = mq + 3 by omega, show ¬ mq = mq + 1 by omega, show ¬ mq = mq + 2 by omega, show ¬ mq + 1 = mq by omega])
      · -- fall
        refine sv_iconst (v := 0) dX3_step_323 (by decide) ?_
        exact se_zret rfl ⟨rfl, rfl⟩ dX3_step_324 (by rfl) (by rw [if_neg (fun h => h.2.1 ⟨c41, c320⟩)]) (by rw [if_neg (fun h => h.2.1 ⟨c41, c320⟩)])
    · -- case 99
      refine sv_aload_n 4 dX3_step_277 rfl ?_
      refine sg_3_3 hm.1 fl_RX3_27 dX3_step_278 ?_
      refine sv_bipush (v := 8) dX3_step_281 (by decide) ?_
      refine sv_icmp_lt (tgt := 288) dX3_step_283 (by decide) (fun c283 => ?_) (fun c283 => ?_)
      · -- jump
        refine sv_aload_n 4 dX3_step_288 rfl ?_
        refine sg_3_2 hm.1 fl_RX3_18 dX3_step_289 ?_
        refine sv_aload_n 4 dX3_step_292 rfl ?_
        refine sg_3_3 hm.1 fl_RX3_27 dX3_step_293 ?_
        refine sv_iload 0 dX3_step_296 rfl ?_
        refine sx_ist hm.2.2.2 _ (nI_self hM.1) (tn_lt (M := 8) (k := 8) rfl (by decide) hM.1 (Int32.not_le.mpr c283)) dX3_step_298 ?_
        refine sv_aload_n 4 dX3_step_299 rfl ?_
        refine sv_dup dX3_step_300 rfl ?_
        refine sg_3_3 hm.1 fl_RX3_27 dX3_step_301 ?_
        refine sv_iconst (v := 1) dX3_step_304 (by decide) ?_
        refine sv_iadd dX3_step_305 ?_
        refine sp_3_3 hm.1 fl_RX3_27 dX3_step_306 ?_
        refine sv_iload 1 dX3_step_309 rfl ?_
        refine sv_istore (ls' := [(5, _), (4, _), (3, _), (2, _), (0, _), (1, _)]) dX3_step_311 (by decide) rfl ?_
        refine sv_goto (tgt := 357) dX3_step_313 (by decide) ?_
        refine sv_aload_n 4 dX3_step_357 rfl ?_
        refine sv_iload 0 dX3_step_358 rfl ?_
        refine sp_3_4 hm.1 fl_RX3_31 dX3_step_360 ?_
        refine sv_iconst (v := 1) dX3_step_363 (by decide) ?_
        exact se_zret rfl ⟨rfl, rfl⟩ dX3_step_364 (by rfl) (by rw [if_pos (show stP S mq r from ⟨c10, fun h => absurd h (by simp [c41, c283]), fun h => absurd h (by simp [c41, c283])⟩)]) (by rw [if_pos (show stP S mq r from ⟨c10, fun h => absurd h (by simp [c41, c283]), fun h => absurd h (by simp [c41, c283])⟩)]; simp [stS, c41, c283, up2_at, show ¬ mq + 3 = mq by omega, show ¬ mq = mq + 3 by omega, show ¬ mq = mq + 1 by omega, show ¬ mq = mq + 2 by omega, show ¬ mq + 1 = mq by omega])
      · -- fall
        refine sv_iconst (v := 0) dX3_step_286 (by decide) ?_
        exact se_zret rfl ⟨rfl, rfl⟩ dX3_step_287 (by rfl) (by rw [if_neg (fun h => h.2.2 ⟨c41, c283⟩)]) (by rw [if_neg (fun h => h.2.2 ⟨c41, c283⟩)])
    · -- case 105
      refine sv_aload_n 4 dX3_step_140 rfl ?_
      refine sg_3_0 hm.1 fl_RX3_9 dX3_step_141 ?_
      refine sv_iload_n 2 dX3_step_144 rfl ?_
      refine sv_iload 1 dX3_step_145 rfl ?_
      refine sx_ist hm.2.1 _ (nI_self hw.1) (tn_lt (M := 4) (k := 4) rfl (by decide) hw.1 hw.2.1) dX3_step_147 ?_
      refine sv_goto (tgt := 357) dX3_step_148 (by decide) ?_
      refine sv_aload_n 4 dX3_step_357 rfl ?_
      refine sv_iload 0 dX3_step_358 rfl ?_
      refine sp_3_4 hm.1 fl_RX3_31 dX3_step_360 ?_
      refine sv_iconst (v := 1) dX3_step_363 (by decide) ?_
      exact se_zret rfl ⟨rfl, rfl⟩ dX3_step_364 (by rfl) (by rw [if_pos (show stP S mq r from ⟨c10, fun h => absurd h (by simp [c41]), fun h => absurd h (by simp [c41])⟩)]) (by rw [if_pos (show stP S mq r from ⟨c10, fun h => absurd h (by simp [c41]), fun h => absurd h (by simp [c41])⟩)]; simp [stS, c41, up2_at, show ¬ mq + 3 = mq by omega, show ¬ mq = mq + 3 by omega, show ¬ mq = mq + 1 by omega, show ¬ mq = mq + 2 by omega, show ¬ mq + 1 = mq by omega])
    · -- case 106
      refine sv_iload_n 3 dX3_step_221 rfl ?_
      refine sv_iload 1 dX3_step_222 rfl ?_
      refine sv_iadd dX3_step_224 ?_
      refine sv_istore (ls' := [(5, _), (4, _), (3, _), (2, _), (0, _), (1, _)]) dX3_step_225 (by decide) rfl ?_
      refine sv_goto (tgt := 357) dX3_step_227 (by decide) ?_
      refine sv_aload_n 4 dX3_step_357 rfl ?_
      refine sv_iload 0 dX3_step_358 rfl ?_
      refine sp_3_4 hm.1 fl_RX3_31 dX3_step_360 ?_
      refine sv_iconst (v := 1) dX3_step_363 (by decide) ?_
      exact se_zret rfl ⟨rfl, rfl⟩ dX3_step_364 (by rfl) (by rw [if_pos (show stP S mq r from ⟨c10, fun h => absurd h (by simp [c41]), fun h => absurd h (by simp [c41])⟩)]) (by rw [if_pos (show stP S mq r from ⟨c10, fun h => absurd h (by simp [c41]), fun h => absurd h (by simp [c41])⟩)]; simp [stS, c41, up2_at, show ¬ mq + 3 = mq by omega, show ¬ mq = mq + 3 by omega, show ¬ mq = mq + 1 by omega, show ¬ mq = mq + 2 by omega, show ¬ mq + 1 = mq by omega])
    · -- case 107
      refine sv_aload_n 4 dX3_step_253 rfl ?_
      refine sg_3_0 hm.1 fl_RX3_9 dX3_step_254 ?_
      refine sv_iload_n 2 dX3_step_257 rfl ?_
      refine sv_iload 0 dX3_step_258 rfl ?_
      refine sx_ist hm.2.1 _ (nI_self hw.1) (tn_lt (M := 4) (k := 4) rfl (by decide) hw.1 hw.2.1) dX3_step_260 ?_
      refine sv_goto (tgt := 357) dX3_step_261 (by decide) ?_
      refine sv_aload_n 4 dX3_step_357 rfl ?_
      refine sv_iload 0 dX3_step_358 rfl ?_
      refine sp_3_4 hm.1 fl_RX3_31 dX3_step_360 ?_
      refine sv_iconst (v := 1) dX3_step_363 (by decide) ?_
      exact se_zret rfl ⟨rfl, rfl⟩ dX3_step_364 (by rfl) (by rw [if_pos (show stP S mq r from ⟨c10, fun h => absurd h (by simp [c41]), fun h => absurd h (by simp [c41])⟩)]) (by rw [if_pos (show stP S mq r from ⟨c10, fun h => absurd h (by simp [c41]), fun h => absurd h (by simp [c41])⟩)]; simp [stS, c41, up2_at, show ¬ mq + 3 = mq by omega, show ¬ mq = mq + 3 by omega, show ¬ mq = mq + 1 by omega, show ¬ mq = mq + 2 by omega, show ¬ mq + 1 = mq by omega])
    · -- case 108
      refine sv_aload_n 4 dX3_step_189 rfl ?_
      refine sg_3_0 hm.1 fl_RX3_9 dX3_step_190 ?_
      refine sv_iload_n 2 dX3_step_193 rfl ?_
      refine sv_aload_n 4 dX3_step_194 rfl ?_
      refine sg_3_1 hm.1 fl_RX3_15 dX3_step_195 ?_
      refine sv_iload 1 dX3_step_198 rfl ?_
      refine sx_ild hm.2.2.1 _ (nI_self (hw.2.2.2 (Or.inl c41)).1) (tn_lt (M := 8) (k := 8) rfl (by decide) (hw.2.2.2 (Or.inl c41)).1 (hw.2.2.2 (Or.inl c41)).2) dX3_step_200 ?_
      refine sx_ist hm.2.1 _ (nI_self hw.1) (tn_lt (M := 4) (k := 4) rfl (by decide) hw.1 hw.2.1) dX3_step_201 ?_
      refine sv_goto (tgt := 357) dX3_step_202 (by decide) ?_
      refine sv_aload_n 4 dX3_step_357 rfl ?_
      refine sv_iload 0 dX3_step_358 rfl ?_
      refine sp_3_4 hm.1 fl_RX3_31 dX3_step_360 ?_
      refine sv_iconst (v := 1) dX3_step_363 (by decide) ?_
      exact se_zret rfl ⟨rfl, rfl⟩ dX3_step_364 (by rfl) (by rw [if_pos (show stP S mq r from ⟨c10, fun h => absurd h (by simp [c41]), fun h => absurd h (by simp [c41])⟩)]) (by rw [if_pos (show stP S mq r from ⟨c10, fun h => absurd h (by simp [c41]), fun h => absurd h (by simp [c41])⟩)]; simp [stS, c41, up2_at, show ¬ mq + 3 = mq by omega, show ¬ mq = mq + 3 by omega, show ¬ mq = mq + 1 by omega, show ¬ mq = mq + 2 by omega, show ¬ mq + 1 = mq by omega])
    · -- case 111
      refine sv_aload_n 4 dX3_step_264 rfl ?_
      refine sv_aload_n 4 dX3_step_265 rfl ?_
      refine sg_3_0 hm.1 fl_RX3_9 dX3_step_266 ?_
      refine sv_iload_n 2 dX3_step_269 rfl ?_
      refine sx_ild hm.2.1 _ (nI_self hw.1) (tn_lt (M := 4) (k := 4) rfl (by decide) hw.1 hw.2.1) dX3_step_270 ?_
      refine cVv1 (e_X3_putOut G _ _ _ hm _) ⟨rfl, rfl⟩ (sv_w5 ml_RX3_65 im_X3_putOut sl_X3_putOut in_RX3 cd_X3_putOut) nm_X3_putOut ⟨Nat.le_of_ble_eq_true rfl, Nat.le_of_ble_eq_true rfl⟩ rfl (CF_3 hm.1) (shp_lt hm.1 (by simp)) (Nat.le_of_ble_eq_true rfl) ⟨Nat.le_of_ble_eq_true rfl, Nat.le_of_ble_eq_true rfl⟩ dX3_step_271 ?_
      refine sv_goto (tgt := 357) dX3_step_274 (by decide) ?_
      refine sv_aload_n 4 dX3_step_357 rfl ?_
      refine sv_iload 0 dX3_step_358 rfl ?_
      refine sp_3_4 hm.1 fl_RX3_31 dX3_step_360 ?_
      refine sv_iconst (v := 1) dX3_step_363 (by decide) ?_
      exact se_zret rfl ⟨rfl, rfl⟩ dX3_step_364 (by rfl) (by rw [if_pos (show stP S mq r from ⟨c10, fun h => absurd h (by simp [c41]), fun h => absurd h (by simp [c41])⟩)]) (by rw [if_pos (show stP S mq r from ⟨c10, fun h => absurd h (by simp [c41]), fun h => absurd h (by simp [c41])⟩)]; simp [stS, c41, up2_at, show ¬ mq + 3 = mq by omega, show ¬ mq = mq + 3 by omega, show ¬ mq = mq + 1 by omega, show ¬ mq = mq + 2 by omega, show ¬ mq + 1 = mq by omega])
    · -- case 115
      refine sv_aload_n 4 dX3_step_205 rfl ?_
      refine sg_3_1 hm.1 fl_RX3_15 dX3_step_206 ?_
      refine sv_iload 1 dX3_step_209 rfl ?_
      refine sv_aload_n 4 dX3_step_211 rfl ?_
      refine sg_3_0 hm.1 fl_RX3_9 dX3_step_212 ?_
      refine sv_iload_n 2 dX3_step_215 rfl ?_
      refine sx_ild hm.2.1 _ (nI_self hw.1) (tn_lt (M := 4) (k := 4) rfl (by decide) hw.1 hw.2.1) dX3_step_216 ?_
      refine sx_ist hm.2.2.1 _ (nI_self (hw.2.2.2 (Or.inr c41)).1) (tn_lt (M := 8) (k := 8) rfl (by decide) (hw.2.2.2 (Or.inr c41)).1 (hw.2.2.2 (Or.inr c41)).2) dX3_step_217 ?_
      refine sv_goto (tgt := 357) dX3_step_218 (by decide) ?_
      refine sv_aload_n 4 dX3_step_357 rfl ?_
      refine sv_iload 0 dX3_step_358 rfl ?_
      refine sp_3_4 hm.1 fl_RX3_31 dX3_step_360 ?_
      refine sv_iconst (v := 1) dX3_step_363 (by decide) ?_
      exact se_zret rfl ⟨rfl, rfl⟩ dX3_step_364 (by rfl) (by rw [if_pos (show stP S mq r from ⟨c10, fun h => absurd h (by simp [c41]), fun h => absurd h (by simp [c41])⟩)]) (by rw [if_pos (show stP S mq r from ⟨c10, fun h => absurd h (by simp [c41]), fun h => absurd h (by simp [c41])⟩)]; simp [stS, c41, up2_at, show ¬ mq + 3 = mq by omega, show ¬ mq = mq + 3 by omega, show ¬ mq = mq + 1 by omega, show ¬ mq = mq + 2 by omega, show ¬ mq + 1 = mq by omega])
    · -- case 122
      refine sv_aload_n 4 dX3_step_230 rfl ?_
      refine sg_3_0 hm.1 fl_RX3_9 dX3_step_231 ?_
      refine sv_iload_n 2 dX3_step_234 rfl ?_
      refine sx_ild hm.2.1 _ (nI_self hw.1) (tn_lt (M := 4) (k := 4) rfl (by decide) hw.1 hw.2.1) dX3_step_235 ?_
      refine sv_if_ne (tgt := 246) dX3_step_236 (by decide) (fun c236 => ?_) (fun c236 => ?_)
      · -- jump
        refine sv_iload 0 dX3_step_246 rfl ?_
        refine sv_istore (ls' := [(5, _), (4, _), (3, _), (2, _), (0, _), (1, _)]) dX3_step_248 (by decide) rfl ?_
        refine sv_goto (tgt := 357) dX3_step_250 (by decide) ?_
        refine sv_aload_n 4 dX3_step_357 rfl ?_
        refine sv_iload 0 dX3_step_358 rfl ?_
        refine sp_3_4 hm.1 fl_RX3_31 dX3_step_360 ?_
        refine sv_iconst (v := 1) dX3_step_363 (by decide) ?_
        exact se_zret rfl ⟨rfl, rfl⟩ dX3_step_364 (by rfl) (by rw [if_pos (show stP S mq r from ⟨c10, fun h => absurd h (by simp [c41, c236]), fun h => absurd h (by simp [c41, c236])⟩)]) (by rw [if_pos (show stP S mq r from ⟨c10, fun h => absurd h (by simp [c41, c236]), fun h => absurd h (by simp [c41, c236])⟩)]; simp [stS, c41, c236, up2_at, show ¬ mq + 3 = mq by omega, show ¬ mq = mq + 3 by omega, show ¬ mq = mq + 1 by omega, show ¬ mq = mq + 2 by omega, show ¬ mq + 1 = mq by omega])
      · -- fall
        refine sv_iload_n 3 dX3_step_239 rfl ?_
        refine sv_iload 1 dX3_step_240 rfl ?_
        refine sv_iadd dX3_step_242 ?_
        refine sv_goto (tgt := 248) dX3_step_243 (by decide) ?_
        refine sv_istore (ls' := [(5, _), (4, _), (3, _), (2, _), (0, _), (1, _)]) dX3_step_248 (by decide) rfl ?_
        refine sv_goto (tgt := 357) dX3_step_250 (by decide) ?_
        refine sv_aload_n 4 dX3_step_357 rfl ?_
        refine sv_iload 0 dX3_step_358 rfl ?_
        refine sp_3_4 hm.1 fl_RX3_31 dX3_step_360 ?_
        refine sv_iconst (v := 1) dX3_step_363 (by decide) ?_
        exact se_zret rfl ⟨rfl, rfl⟩ dX3_step_364 (by rfl) (by rw [if_pos (show stP S mq r from ⟨c10, fun h => absurd h (by simp [c41, c236]), fun h => absurd h (by simp [c41, c236])⟩)]) (by rw [if_pos (show stP S mq r from ⟨c10, fun h => absurd h (by simp [c41, c236]), fun h => absurd h (by simp [c41, c236])⟩)]; simp [stS, c41, c236, up2_at, show ¬ mq + 3 = mq by omega, show ¬ mq = mq + 3 by omega, show ¬ mq = mq + 1 by omega, show ¬ mq = mq + 2 by omega, show ¬ mq + 1 = mq by omega])
    · -- case None
      refine sv_aload_n 4 dX3_step_349 rfl ?_
      refine sv_iconst (v := 1) dX3_step_350 (by decide) ?_
      refine sp_3_5 hm.1 fl_RX3_34 (Or.inr rfl) dX3_step_351 ?_
      refine sv_iload_n 3 dX3_step_354 rfl ?_
      refine sv_istore (ls' := [(5, _), (4, _), (3, _), (2, _), (0, _), (1, _)]) dX3_step_355 (by decide) rfl ?_
      refine sv_aload_n 4 dX3_step_357 rfl ?_
      refine sv_iload 0 dX3_step_358 rfl ?_
      refine sp_3_4 hm.1 fl_RX3_31 dX3_step_360 ?_
      refine sv_iconst (v := 1) dX3_step_363 (by decide) ?_
      exact se_zret rfl ⟨rfl, rfl⟩ dX3_step_364 (by rfl) (by rw [if_pos (show stP S mq r from ⟨c10, fun h => absurd h (by simp [c41]), fun h => absurd h (by simp [c41])⟩)]) (by rw [if_pos (show stP S mq r from ⟨c10, fun h => absurd h (by simp [c41]), fun h => absurd h (by simp [c41])⟩)]; simp [stS, c41, up2_at, show ¬ mq + 3 = mq by omega, show ¬ mq = mq + 3 by omega, show ¬ mq = mq + 1 by omega, show ¬ mq = mq + 2 by omega, show ¬ mq + 1 = mq by omega])
  · -- fall
    refine sv_iconst (v := 0) dX3_step_13 (by decide) ?_
    exact se_zret rfl ⟨rfl, rfl⟩ dX3_step_14 (by rfl) (by rw [if_neg (fun h => c10 h.1)]) (by rw [if_neg (fun h => c10 h.1)])
