set_option maxRecDepth 100000 in
set_option maxHeartbeats 4000000 in
theorem sw_X0_apply_67 {G : GT} {R : Room} {own nm : String} {nL : Nat} {rt : Option FieldType} {Post : Option Value → Nat → Nat → Nat → (Nat → va_E) → Prop} {cells slots n : Nat} {f : Nat → va_E} {ls : List (Nat × Value)} {st : List Value} {x : Int32} (d : decode cX0_apply 67 = .ok (.lookupswitch 51 #[(0, 25), (1, 38)], 25)) (k0 : x = 0 → sv_V G R own nm cX0_apply nL rt Post cells slots n f 92 ls st) (k1 : x = 1 → sv_V G R own nm cX0_apply nL rt Post cells slots n f 105 ls st) (kd : ¬ x = 0 ∧ ¬ x = 1 → sv_V G R own nm cX0_apply nL rt Post cells slots n f 118 ls st) : sv_V G R own nm cX0_apply nL rt Post cells slots n f 67 ls (.int x :: st) := by
  by_cases h0 : x = 0
  · subst h0; exact sv_lookup (tgt := 92) (off := 25) d (by decide) (by decide) (by decide) (k0 rfl)
  by_cases h1 : x = 1
  · subst h1; exact sv_lookup (tgt := 105) (off := 38) d (by decide) (by decide) (by decide) (k1 rfl)
  refine sv_lookup (tgt := 118) (off := 51) d (by decide) ?_ (by decide) (kd ⟨h0, h1⟩)
  show Op.lookupswitch.offset [(0, 25), (1, 38)] 51 x.toInt = _
  rw [lv_osw h0 (by decide), lv_osw h1 (by decide)]
  rfl
abbrev tn (x : Int32) : Nat := x.toNatClampNeg
theorem tn_nI {p : Nat} (h : p < 2147483648) : tn (nI p) = p := nI_clamp h
theorem tn_lt {x M : Int32} {k : Nat} (hM : M = nI k) (hk : k < 2147483648) (h0 : ¬ x < 0) (h : ¬ M ≤ x) : tn x < k := by
  subst hM
  obtain ⟨j, hj, rfl⟩ := nI_of h0
  rw [tn_nI hj]
  exact Nat.lt_of_not_le (fun z => h (nI_le z hj))
theorem tn_le {x M : Int32} {k : Nat} (hM : M = nI k) (hk : k < 2147483648) (h0 : ¬ x < 0) (h : ¬ M < x) : tn x ≤ k := by
  subst hM
  obtain ⟨j, hj, rfl⟩ := nI_of h0
  rw [tn_nI hj]
  exact Nat.le_of_not_lt (fun z => h (nI_lt z hj))
theorem i6 (p k : Nat) : nI p * 6 + nI k = nI (6 * p + k) := by
  rw [show (6 : Int32) = nI 6 from rfl, pk_mul, nI_add, Nat.mul_comm]
theorem i6t {x : Int32} (h : ¬ x < 0) (k : Nat) : x * 6 + nI k = nI (6 * tn x + k) := by
  rw [← i6, ← nI_self h]
set_option maxRecDepth 100000 in
set_option maxHeartbeats 4000000 in
theorem e_X9_isRegister (G : GT) (S : Nat → Nat → Int32) (L : Nat → Int64) (r : Int32) : sE G yX9_isRegister R_X9_isRegister cX9_isRegister 1 (some .boolean) [.int r] S L (some (.int (if (¬ r < 0 ∧ ¬ 4 ≤ r) then 1 else 0))) S L := by
  refine sE.of (by decide) (Nat.le_of_ble_eq_true rfl) ?_
  show sv_V G R_X9_isRegister RX9 "isRegister" cX9_isRegister 1 (some .boolean) (sPo G R_X9_isRegister (some (.int (if (¬ r < 0 ∧ ¬ 4 ≤ r) then 1 else 0))) S L) 0 0 197 (CF G S L) 0 [(0, .int r)] []
  refine sv_iload_n 0 dX9_isRegister_0 rfl ?_
  refine sv_if_lt (tgt := 13) dX9_isRegister_1 (by decide) (fun c1 => ?_) (fun c1 => ?_)
  · -- jump
    refine sv_iconst (v := 0) dX9_isRegister_13 (by decide) ?_
    exact se_zret rfl ⟨rfl, rfl⟩ dX9_isRegister_14 (by rfl) (by simp [c1]) rfl
  · -- fall
    refine sv_iload_n 0 dX9_isRegister_4 rfl ?_
    refine sv_iconst (v := 4) dX9_isRegister_5 (by decide) ?_
    refine sv_icmp_ge (tgt := 13) dX9_isRegister_6 (by decide) (fun c6 => ?_) (fun c6 => ?_)
    · -- jump
      refine sv_iconst (v := 0) dX9_isRegister_13 (by decide) ?_
      exact se_zret rfl ⟨rfl, rfl⟩ dX9_isRegister_14 (by rfl) (by simp [c1, c6]) rfl
    · -- fall
      refine sv_iconst (v := 1) dX9_isRegister_9 (by decide) ?_
      refine sv_goto (tgt := 14) dX9_isRegister_10 (by decide) ?_
      exact se_zret rfl ⟨rfl, rfl⟩ dX9_isRegister_14 (by rfl) (by simp [c1, c6]) rfl
set_option maxRecDepth 100000 in
set_option maxHeartbeats 4000000 in
theorem e_X9_isCell (G : GT) (S : Nat → Nat → Int32) (L : Nat → Int64) (r : Int32) : sE G yX9_isCell R_X9_isCell cX9_isCell 1 (some .boolean) [.int r] S L (some (.int (if (¬ r < 0 ∧ ¬ 8 ≤ r) then 1 else 0))) S L := by
  refine sE.of (by decide) (Nat.le_of_ble_eq_true rfl) ?_
  show sv_V G R_X9_isCell RX9 "isCell" cX9_isCell 1 (some .boolean) (sPo G R_X9_isCell (some (.int (if (¬ r < 0 ∧ ¬ 8 ≤ r) then 1 else 0))) S L) 0 0 197 (CF G S L) 0 [(0, .int r)] []
  refine sv_iload_n 0 dX9_isCell_0 rfl ?_
  refine sv_if_lt (tgt := 14) dX9_isCell_1 (by decide) (fun c1 => ?_) (fun c1 => ?_)
  · -- jump
    refine sv_iconst (v := 0) dX9_isCell_14 (by decide) ?_
    exact se_zret rfl ⟨rfl, rfl⟩ dX9_isCell_15 (by rfl) (by simp [c1]) rfl
  · -- fall
    refine sv_iload_n 0 dX9_isCell_4 rfl ?_
    refine sv_bipush (v := 8) dX9_isCell_5 (by decide) ?_
    refine sv_icmp_ge (tgt := 14) dX9_isCell_7 (by decide) (fun c7 => ?_) (fun c7 => ?_)
    · -- jump
      refine sv_iconst (v := 0) dX9_isCell_14 (by decide) ?_
      exact se_zret rfl ⟨rfl, rfl⟩ dX9_isCell_15 (by rfl) (by simp [c1, c7]) rfl
    · -- fall
      refine sv_iconst (v := 1) dX9_isCell_10 (by decide) ?_
      refine sv_goto (tgt := 15) dX9_isCell_11 (by decide) ?_
      exact se_zret rfl ⟨rfl, rfl⟩ dX9_isCell_15 (by rfl) (by simp [c1, c7]) rfl
set_option maxRecDepth 100000 in
set_option maxHeartbeats 4000000 in
theorem e_X9_isSlot (G : GT) (S : Nat → Nat → Int32) (L : Nat → Int64) (r : Int32) : sE G yX9_isSlot R_X9_isSlot cX9_isSlot 1 (some .boolean) [.int r] S L (some (.int (if (¬ r < 0 ∧ ¬ 2 ≤ r) then 1 else 0))) S L := by
  refine sE.of (by decide) (Nat.le_of_ble_eq_true rfl) ?_
  show sv_V G R_X9_isSlot RX9 "isSlot" cX9_isSlot 1 (some .boolean) (sPo G R_X9_isSlot (some (.int (if (¬ r < 0 ∧ ¬ 2 ≤ r) then 1 else 0))) S L) 0 0 197 (CF G S L) 0 [(0, .int r)] []
  refine sv_iload_n 0 dX9_isSlot_0 rfl ?_
  refine sv_if_lt (tgt := 13) dX9_isSlot_1 (by decide) (fun c1 => ?_) (fun c1 => ?_)
  · -- jump
    refine sv_iconst (v := 0) dX9_isSlot_13 (by decide) ?_
    exact se_zret rfl ⟨rfl, rfl⟩ dX9_isSlot_14 (by rfl) (by simp [c1]) rfl
  · -- fall
    refine sv_iload_n 0 dX9_isSlot_4 rfl ?_
    refine sv_iconst (v := 2) dX9_isSlot_5 (by decide) ?_
    refine sv_icmp_ge (tgt := 13) dX9_isSlot_6 (by decide) (fun c6 => ?_) (fun c6 => ?_)
    · -- jump
      refine sv_iconst (v := 0) dX9_isSlot_13 (by decide) ?_
      exact se_zret rfl ⟨rfl, rfl⟩ dX9_isSlot_14 (by rfl) (by simp [c1, c6]) rfl
    · -- fall
      refine sv_iconst (v := 1) dX9_isSlot_9 (by decide) ?_
      refine sv_goto (tgt := 14) dX9_isSlot_10 (by decide) ?_
      exact se_zret rfl ⟨rfl, rfl⟩ dX9_isSlot_14 (by rfl) (by simp [c1, c6]) rfl
def bcF (x : Int32) : Int32 :=
  let a := x - ((x.toUInt32 >>> ((1 : Int32).toUInt32 &&& Int32.toUInt32 31)).toInt32 &&& 1431655765)
  let b := (a &&& 858993459) + ((a.toUInt32 >>> ((2 : Int32).toUInt32 &&& Int32.toUInt32 31)).toInt32 &&& 858993459)
  let c := (b + (b.toUInt32 >>> ((4 : Int32).toUInt32 &&& Int32.toUInt32 31)).toInt32) &&& 252645135
  let d := c + (c.toUInt32 >>> ((8 : Int32).toUInt32 &&& Int32.toUInt32 31)).toInt32
  let e := d + (d.toUInt32 >>> ((16 : Int32).toUInt32 &&& Int32.toUInt32 31)).toInt32
  e &&& 63
set_option maxRecDepth 100000 in
set_option maxHeartbeats 4000000 in
theorem e_J6_bitCount_0f7a4 (G : GT) (S : Nat → Nat → Int32) (L : Nat → Int64) (x : Int32) : sE G yJ6_bitCount_0f7a4 R_J6_bitCount_0f7a4 cJ6_bitCount_0f7a4 1 (some .int) [.int x] S L (some (.int (bcF x))) S L := by
  refine sE.of (by decide) (Nat.le_of_ble_eq_true rfl) ?_
  show sv_V G R_J6_bitCount_0f7a4 RJ6 "bitCount" cJ6_bitCount_0f7a4 1 (some .int) (sPo G R_J6_bitCount_0f7a4 (some (.int (bcF x))) S L) 0 0 197 (CF G S L) 0 [(0, .int x)] []
  refine sv_iload_n 0 dJ6_bitCount_0f7a4_0 rfl ?_
  refine sv_iload_n 0 dJ6_bitCount_0f7a4_1 rfl ?_
  refine sv_iconst (v := 1) dJ6_bitCount_0f7a4_2 (by decide) ?_
  refine sv_iushr dJ6_bitCount_0f7a4_3 rfl ?_
  refine sv_ldcw ck_RJ6_265 dJ6_bitCount_0f7a4_4 ?_
  refine sv_iand dJ6_bitCount_0f7a4_7 ?_
  refine sv_isub dJ6_bitCount_0f7a4_8 ?_
  refine sv_istore_n (ls' := [(0, _)]) dJ6_bitCount_0f7a4_9 (by decide) rfl ?_
  refine sv_iload_n 0 dJ6_bitCount_0f7a4_10 rfl ?_
  refine sv_ldcw ck_RJ6_266 dJ6_bitCount_0f7a4_11 ?_
  refine sv_iand dJ6_bitCount_0f7a4_14 ?_
  refine sv_iload_n 0 dJ6_bitCount_0f7a4_15 rfl ?_
  refine sv_iconst (v := 2) dJ6_bitCount_0f7a4_16 (by decide) ?_
  refine sv_iushr dJ6_bitCount_0f7a4_17 rfl ?_
  refine sv_ldcw ck_RJ6_266 dJ6_bitCount_0f7a4_18 ?_
  refine sv_iand dJ6_bitCount_0f7a4_21 ?_
  refine sv_iadd dJ6_bitCount_0f7a4_22 ?_
  refine sv_istore_n (ls' := [(0, _)]) dJ6_bitCount_0f7a4_23 (by decide) rfl ?_
  refine sv_iload_n 0 dJ6_bitCount_0f7a4_24 rfl ?_
  refine sv_iload_n 0 dJ6_bitCount_0f7a4_25 rfl ?_
  refine sv_iconst (v := 4) dJ6_bitCount_0f7a4_26 (by decide) ?_
  refine sv_iushr dJ6_bitCount_0f7a4_27 rfl ?_
  refine sv_iadd dJ6_bitCount_0f7a4_28 ?_
  refine sv_ldcw ck_RJ6_267 dJ6_bitCount_0f7a4_29 ?_
  refine sv_iand dJ6_bitCount_0f7a4_32 ?_
  refine sv_istore_n (ls' := [(0, _)]) dJ6_bitCount_0f7a4_33 (by decide) rfl ?_
  refine sv_iload_n 0 dJ6_bitCount_0f7a4_34 rfl ?_
  refine sv_iload_n 0 dJ6_bitCount_0f7a4_35 rfl ?_
  refine sv_bipush (v := 8) dJ6_bitCount_0f7a4_36 (by decide) ?_
  refine sv_iushr dJ6_bitCount_0f7a4_38 rfl ?_
  refine sv_iadd dJ6_bitCount_0f7a4_39 ?_
  refine sv_istore_n (ls' := [(0, _)]) dJ6_bitCount_0f7a4_40 (by decide) rfl ?_
  refine sv_iload_n 0 dJ6_bitCount_0f7a4_41 rfl ?_
  refine sv_iload_n 0 dJ6_bitCount_0f7a4_42 rfl ?_
  refine sv_bipush (v := 16) dJ6_bitCount_0f7a4_43 (by decide) ?_
  refine sv_iushr dJ6_bitCount_0f7a4_45 rfl ?_
  refine sv_iadd dJ6_bitCount_0f7a4_46 ?_
  refine sv_istore_n (ls' := [(0, _)]) dJ6_bitCount_0f7a4_47 (by decide) rfl ?_
  refine sv_iload_n 0 dJ6_bitCount_0f7a4_48 rfl ?_
  refine sv_bipush (v := 63) dJ6_bitCount_0f7a4_49 (by decide) ?_
  refine sv_iand dJ6_bitCount_0f7a4_51 ?_
  exact se_iret rfl ⟨rfl, rfl⟩ dJ6_bitCount_0f7a4_52 rfl rfl
set_option maxRecDepth 100000 in
set_option maxHeartbeats 4000000 in
theorem e_X0_property (G : GT) (S : Nat → Nat → Int32) (L : Nat → Int64) (q : Nat) (hq : isBrk q) (p k : Nat) (hp : p < 16) (hk : k < 6) : sE G yX0_property R_X0_property cX0_property 3 (some .int) [.ref (gB G + q), .int (nI p), .int (nI k)] S L (some (.int (S (q + 1) (6 * p + k)))) S L := by
  refine sE.of (by decide) (Nat.le_of_ble_eq_true rfl) ?_
  show sv_V G R_X0_property RX0 "property" cX0_property 3 (some .int) (sPo G R_X0_property (some (.int (S (q + 1) (6 * p + k)))) S L) 0 0 197 (CF G S L) 0 [(0, .ref (gB G + q)), (1, .int (nI p)), (2, .int (nI k))] []
  refine sv_aload_n 0 dX0_property_0 rfl ?_
  refine sg_0_0 hq.1 fl_RX0_9 dX0_property_1 ?_
  refine sv_iload_n 1 dX0_property_4 rfl ?_
  refine sv_bipush (v := 6) dX0_property_5 (by decide) ?_
  refine sv_imul dX0_property_7 ?_
  refine sv_iload_n 2 dX0_property_8 rfl ?_
  refine sv_iadd dX0_property_9 ?_
  refine sx_ild hq.2 (6 * p + k) (i6 p k) (by omega) dX0_property_10 ?_
  exact se_iret rfl ⟨rfl, rfl⟩ dX0_property_11 rfl rfl
def disRow (j : Nat) : Int32 := if j % 6 = 1 ∨ j % 6 = 2 ∨ j % 6 = 3 then -9 else 0
/-- the place p of the breakpoints at q is disarmed -/
def disS (S : Nat → Nat → Int32) (q p : Nat) : Nat → Nat → Int32 := va_up S (q + 1) (fun j => if 6 * p ≤ j ∧ j < 6 * p + 6 then disRow j else S (q + 1) j)
theorem disS_eq (S : Nat → Nat → Int32) (q p : Nat) : up2 (up2 (up2 (up2 (up2 (up2 S (q + 1) (6 * p) 0) (q + 1) (6 * p + 1) (-9)) (q + 1) (6 * p + 2) (-9)) (q + 1) (6 * p + 3) (-9)) (q + 1) (6 * p + 4) 0) (q + 1) (6 * p + 5) 0 = disS S q p := by
  funext k j
  unfold disS
  by_cases hk : k = q + 1
  · subst hk
    simp only [up2_at, va_up, if_pos, true_and]
    by_cases h0 : j = 6 * p
    · subst h0; simp [disRow]
    · by_cases h1 : j = 6 * p + 1
      · subst h1; simp [disRow, Nat.mul_add_mod]
      · by_cases h2 : j = 6 * p + 2
        · subst h2; simp [disRow, Nat.mul_add_mod]
        · by_cases h3 : j = 6 * p + 3
          · subst h3; simp [disRow, Nat.mul_add_mod]
          · by_cases h4 : j = 6 * p + 4
            · subst h4; simp [disRow, Nat.mul_add_mod]
            · by_cases h5 : j = 6 * p + 5
              · subst h5; simp [disRow, Nat.mul_add_mod]
              · rw [if_neg h5, if_neg h4, if_neg h3, if_neg h2, if_neg h1, if_neg h0, if_neg (by omega)]
  · simp [up2_at, va_up, hk]
def bgS (S : Nat → Nat → Int32) (q p : Nat) : Nat → Nat → Int32 := va_up S (q + 1) (fun j => if j < 6 * p then disRow j else S (q + 1) j)
theorem bgS_0 (S : Nat → Nat → Int32) (q : Nat) : bgS S q 0 = S := by
  funext k j
  unfold bgS va_up
  by_cases hk : k = q + 1
  · subst hk; simp
  · simp [hk]
theorem bgS_s (S : Nat → Nat → Int32) (q p : Nat) : disS (bgS S q p) q p = bgS S q (p + 1) := by
  funext k j
  unfold disS bgS va_up
  by_cases hk : k = q + 1
  · subst hk
    simp only [if_pos]
    by_cases h1 : 6 * p ≤ j ∧ j < 6 * p + 6
    · rw [if_pos h1, if_pos (by omega)]
    · rw [if_neg h1]
      by_cases h2 : j < 6 * p
      · rw [if_pos h2, if_pos (by omega)]
      · rw [if_neg h2, if_neg (by omega)]
  · simp [hk]
theorem bgS_16 {S : Nat → Nat → Int32} {q : Nat} (hq : isBrk q) : sEq (bgS S q 16) (va_up S (q + 1) disRow) := by
  intro k _ j hj
  unfold bgS va_up
  by_cases hk : k = q + 1
  · subst hk
    rw [hq.2] at hj
    have hj : j < 96 := hj
    simp only [if_pos]
    rw [if_pos (by omega)]
  · simp [hk]
set_option maxRecDepth 100000 in
set_option maxHeartbeats 4000000 in
theorem e_X0_disarm (G : GT) (S : Nat → Nat → Int32) (L : Nat → Int64) (q : Nat) (hq : isBrk q) (p : Nat) (hp : p < 16) : sE G yX0_disarm R_X0_disarm cX0_disarm 3 none [.ref (gB G + q), .int (nI p)] S L none (disS S q p) L := by
  refine sE.of (by decide) (Nat.le_of_ble_eq_true rfl) ?_
  show sv_V G R_X0_disarm RX0 "disarm" cX0_disarm 3 none (sPo G R_X0_disarm none (disS S q p) L) 0 0 197 (CF G S L) 0 [(0, .ref (gB G + q)), (1, .int (nI p))] []
  refine sv_iload_n 1 dX0_disarm_0 rfl ?_
  refine sv_bipush (v := 6) dX0_disarm_1 (by decide) ?_
  refine sv_imul dX0_disarm_3 ?_
  refine sv_istore_n (ls' := [(2, _), (0, _), (1, _)]) dX0_disarm_4 (by decide) rfl ?_
  refine sv_aload_n 1 dX0_disarm_5 rfl ?_
  refine sg_0_0 hq.1 fl_RX0_9 dX0_disarm_6 ?_
  refine sv_iload_n 0 dX0_disarm_9 rfl ?_
  refine sv_iconst (v := 0) dX0_disarm_10 (by decide) ?_
  refine sv_iadd dX0_disarm_11 ?_
  refine sv_iconst (v := 0) dX0_disarm_12 (by decide) ?_
  refine sx_ist hq.2 (6 * p) (i6 p 0) (by omega) dX0_disarm_13 ?_
  refine sv_aload_n 1 dX0_disarm_14 rfl ?_
  refine sg_0_0 hq.1 fl_RX0_9 dX0_disarm_15 ?_
  refine sv_iload_n 0 dX0_disarm_18 rfl ?_
  refine sv_iconst (v := 1) dX0_disarm_19 (by decide) ?_
  refine sv_iadd dX0_disarm_20 ?_
  refine sv_bipush (v := (-9)) dX0_disarm_21 (by decide) ?_
  refine sx_ist hq.2 (6 * p + 1) (i6 p 1) (by omega) dX0_disarm_23 ?_
  refine sv_aload_n 1 dX0_disarm_24 rfl ?_
  refine sg_0_0 hq.1 fl_RX0_9 dX0_disarm_25 ?_
  refine sv_iload_n 0 dX0_disarm_28 rfl ?_
  refine sv_iconst (v := 2) dX0_disarm_29 (by decide) ?_
  refine sv_iadd dX0_disarm_30 ?_
  refine sv_bipush (v := (-9)) dX0_disarm_31 (by decide) ?_
  refine sx_ist hq.2 (6 * p + 2) (i6 p 2) (by omega) dX0_disarm_33 ?_
  refine sv_aload_n 1 dX0_disarm_34 rfl ?_
  refine sg_0_0 hq.1 fl_RX0_9 dX0_disarm_35 ?_
  refine sv_iload_n 0 dX0_disarm_38 rfl ?_
  refine sv_iconst (v := 3) dX0_disarm_39 (by decide) ?_
  refine sv_iadd dX0_disarm_40 ?_
  refine sv_bipush (v := (-9)) dX0_disarm_41 (by decide) ?_
  refine sx_ist hq.2 (6 * p + 3) (i6 p 3) (by omega) dX0_disarm_43 ?_
  refine sv_aload_n 1 dX0_disarm_44 rfl ?_
  refine sg_0_0 hq.1 fl_RX0_9 dX0_disarm_45 ?_
  refine sv_iload_n 0 dX0_disarm_48 rfl ?_
  refine sv_iconst (v := 4) dX0_disarm_49 (by decide) ?_
  refine sv_iadd dX0_disarm_50 ?_
  refine sv_iconst (v := 0) dX0_disarm_51 (by decide) ?_
  refine sx_ist hq.2 (6 * p + 4) (i6 p 4) (by omega) dX0_disarm_52 ?_
  refine sv_aload_n 1 dX0_disarm_53 rfl ?_
  refine sg_0_0 hq.1 fl_RX0_9 dX0_disarm_54 ?_
  refine sv_iload_n 0 dX0_disarm_57 rfl ?_
  refine sv_iconst (v := 5) dX0_disarm_58 (by decide) ?_
  refine sv_iadd dX0_disarm_59 ?_
  refine sv_iconst (v := 0) dX0_disarm_60 (by decide) ?_
  refine sx_ist hq.2 (6 * p + 5) (i6 p 5) (by omega) dX0_disarm_61 ?_
  exact se_vret rfl ⟨rfl, rfl⟩ dX0_disarm_62 (by rw [disS_eq]; exact sEq.rf _)
set_option maxRecDepth 100000 in
set_option maxHeartbeats 4000000 in
theorem l_X0_begin (G : GT) (S : Nat → Nat → Int32) (L : Nat → Int64) (q : Nat) (hq : isBrk q) : ∀ (m p : Nat), 16 - p = m → p ≤ 16 → sv_V G R_X0_begin RX0 "begin" cX0_begin 2 none (sPo G R_X0_begin none (va_up S (q + 1) disRow) L) 0 0 197 (CF G (bgS S q p) L) 2 [(1, .int (nI p)), (0, .ref (gB G + q))] [] := by
  intro m
  induction m using Nat.strongRecOn
  rename_i m ih
  intro p hm hp
  refine sv_iload_n 0 dX0_begin_2 rfl ?_
  refine sv_bipush (v := 16) dX0_begin_3 (by decide) ?_
  refine sv_icmp_ge (tgt := 19) dX0_begin_5 (by decide) (fun c5 => ?_) (fun c5 => ?_)
  · -- jump
    obtain rfl : p = 16 := by have := (nI_leI (a := 16) (b := p) (by omega) (by omega)).mp c5; omega
    exact se_vret rfl ⟨rfl, rfl⟩ dX0_begin_19 (bgS_16 hq)
  · -- fall
    have h5 : p < 16 := Nat.lt_of_not_le (fun z => c5 (nI_le (a := 16) z (by omega)))
    refine sv_aload_n 1 dX0_begin_8 rfl ?_
    refine sv_iload_n 0 dX0_begin_9 rfl ?_
    refine cVv1 (e_X0_disarm G _ _ _ hq _ h5) ⟨rfl, rfl⟩ (sv_w5 ml_RX0_18 im_X0_disarm sl_X0_disarm in_RX0 cd_X0_disarm) nm_X0_disarm ⟨Nat.le_of_ble_eq_true rfl, Nat.le_of_ble_eq_true rfl⟩ rfl (CF_0 hq.1) (shp_lt hq.1 (by simp)) (Nat.le_of_ble_eq_true rfl) ⟨Nat.le_of_ble_eq_true rfl, Nat.le_of_ble_eq_true rfl⟩ dX0_begin_10 ?_
    refine sv_eqS (bgS_s S q p) ?_
    refine sv_iinc 0 (ls' := [(1, _), (0, _)]) dX0_begin_13 rfl (nI_1 _) (by decide) rfl ?_
    refine sv_goto (tgt := 2) dX0_begin_16 (by decide) ?_
    exact ih (16 - (p + 1)) (by omega) (p + 1) rfl (by omega)
set_option maxRecDepth 100000 in
set_option maxHeartbeats 4000000 in
theorem e_X0_begin (G : GT) (S : Nat → Nat → Int32) (L : Nat → Int64) (q : Nat) (hq : isBrk q) : sE G yX0_begin R_X0_begin cX0_begin 2 none [.ref (gB G + q)] S L none (va_up S (q + 1) disRow) L := by
  refine sE.of (by decide) (Nat.le_of_ble_eq_true rfl) ?_
  show sv_V G R_X0_begin RX0 "begin" cX0_begin 2 none (sPo G R_X0_begin none (va_up S (q + 1) disRow) L) 0 0 197 (CF G S L) 0 [(0, .ref (gB G + q))] []
  refine sv_iconst (v := 0) dX0_begin_0 (by decide) ?_
  refine sv_istore_n (ls' := [(1, _), (0, _)]) dX0_begin_1 (by decide) rfl ?_
  have h := l_X0_begin G S L q hq _ 0 rfl (by omega)
  rw [bgS_0] at h
  exact h
set_option maxRecDepth 100000 in
set_option maxHeartbeats 4000000 in
theorem e_X0_takeFrom (G : GT) (S : Nat → Nat → Int32) (L : Nat → Int64) (q : Nat) (hq : isBrk q) (o : Nat) (ho : isBrk o) : sE G yX0_takeFrom R_X0_takeFrom cX0_takeFrom 2 none [.ref (gB G + q), .ref (gB G + o)] S L none (va_up S (q + 1) (S (o + 1))) L := by
  refine sE.of (by decide) (Nat.le_of_ble_eq_true rfl) ?_
  show sv_V G R_X0_takeFrom RX0 "takeFrom" cX0_takeFrom 2 none (sPo G R_X0_takeFrom none (va_up S (q + 1) (S (o + 1))) L) 0 0 197 (CF G S L) 0 [(0, .ref (gB G + q)), (1, .ref (gB G + o))] []
  refine sv_aload_n 1 dX0_takeFrom_0 rfl ?_
  refine sg_0_0 ho.1 fl_RX0_9 dX0_takeFrom_1 ?_
  refine sv_iconst (v := 0) dX0_takeFrom_4 (by decide) ?_
  refine sv_aload_n 0 dX0_takeFrom_5 rfl ?_
  refine sg_0_0 hq.1 fl_RX0_9 dX0_takeFrom_6 ?_
  refine sv_iconst (v := 0) dX0_takeFrom_9 (by decide) ?_
  refine sv_bipush (v := 96) dX0_takeFrom_10 (by decide) ?_
  refine sx_copy ml_RX0_22 ho.2 hq.2 (by decide) (by decide) (Nat.le_of_ble_eq_true rfl) dX0_takeFrom_12 ?_
  exact se_vret rfl ⟨rfl, rfl⟩ dX0_takeFrom_15 (sEq.rf _)
/-- the place p (any number) is armed -/
abbrev armP (S : Nat → Nat → Int32) (q : Nat) (p : Int32) : Prop := ¬ p < 0 ∧ ¬ 16 ≤ p ∧ 0 < S (q + 1) (6 * tn p)
set_option maxRecDepth 100000 in
set_option maxHeartbeats 4000000 in
theorem e_X0_isArmed (G : GT) (S : Nat → Nat → Int32) (L : Nat → Int64) (q : Nat) (hq : isBrk q) (p : Int32) : sE G yX0_isArmed R_X0_isArmed cX0_isArmed 2 (some .boolean) [.ref (gB G + q), .int p] S L (some (.int (if (armP S q p) then 1 else 0))) S L := by
  refine sE.of (by decide) (Nat.le_of_ble_eq_true rfl) ?_
  show sv_V G R_X0_isArmed RX0 "isArmed" cX0_isArmed 2 (some .boolean) (sPo G R_X0_isArmed (some (.int (if (armP S q p) then 1 else 0))) S L) 0 0 197 (CF G S L) 0 [(0, .ref (gB G + q)), (1, .int p)] []
  refine sv_iload_n 1 dX0_isArmed_0 rfl ?_
  refine sv_if_lt (tgt := 28) dX0_isArmed_1 (by decide) (fun c1 => ?_) (fun c1 => ?_)
  · -- jump
    refine sv_iconst (v := 0) dX0_isArmed_28 (by decide) ?_
    exact se_zret rfl ⟨rfl, rfl⟩ dX0_isArmed_29 (by rfl) (by rw [if_neg (fun h => h.1 c1)]) rfl
  · -- fall
    refine sv_iload_n 1 dX0_isArmed_4 rfl ?_
    refine sv_bipush (v := 16) dX0_isArmed_5 (by decide) ?_
    refine sv_icmp_ge (tgt := 28) dX0_isArmed_7 (by decide) (fun c7 => ?_) (fun c7 => ?_)
    · -- jump
      refine sv_iconst (v := 0) dX0_isArmed_28 (by decide) ?_
      exact se_zret rfl ⟨rfl, rfl⟩ dX0_isArmed_29 (by rfl) (by rw [if_neg (fun h => h.2.1 c7)]) rfl
    · -- fall
      refine sv_aload_n 0 dX0_isArmed_10 rfl ?_
      refine sg_0_0 hq.1 fl_RX0_9 dX0_isArmed_11 ?_
      refine sv_iload_n 1 dX0_isArmed_14 rfl ?_
      refine sv_bipush (v := 6) dX0_isArmed_15 (by decide) ?_
      refine sv_imul dX0_isArmed_17 ?_
      refine sv_iconst (v := 0) dX0_isArmed_18 (by decide) ?_
      refine sv_iadd dX0_isArmed_19 ?_
      refine sx_ild hq.2 (6 * tn p) (i6t c1 0) (by have := tn_lt (M := 16) (k := 16) rfl (by decide) c1 c7; omega) dX0_isArmed_20 ?_
      refine sv_if_le (tgt := 28) dX0_isArmed_21 (by decide) (fun c21 => ?_) (fun c21 => ?_)
      · -- jump
        refine sv_iconst (v := 0) dX0_isArmed_28 (by decide) ?_
        exact se_zret rfl ⟨rfl, rfl⟩ dX0_isArmed_29 (by rfl) (by rw [if_neg (fun h => absurd h.2.2 (Int32.not_lt.mpr c21))]) rfl
      · -- fall
        refine sv_iconst (v := 1) dX0_isArmed_24 (by decide) ?_
        refine sv_goto (tgt := 29) dX0_isArmed_25 (by decide) ?_
        exact se_zret rfl ⟨rfl, rfl⟩ dX0_isArmed_29 (by rfl) (by rw [if_pos ⟨c1, c7, Int32.not_le.mp c21⟩]) rfl
theorem e_X0_isArmedN (G : GT) (S : Nat → Nat → Int32) (L : Nat → Int64) (q : Nat) (hq : isBrk q) (p : Nat) (hp : p < 16) : sE G yX0_isArmed R_X0_isArmed cX0_isArmed 2 (some .boolean) [.ref (gB G + q), .int (nI p)] S L (some (.int (if 0 < S (q + 1) (6 * p) then 1 else 0))) S L := by
  refine (e_X0_isArmed G S L q hq (nI p)).eq ?_ (sEq.rf _)
  have e1 : tn (nI p) = p := tn_nI (by omega)
  have h1 : ¬ nI p < 0 := nI_pos (by omega)
  have h2 : ¬ (16 : Int32) ≤ nI p := nI_ge (b := 16) hp (by decide)
  simp [armP, h1, h2, e1]
theorem e_X0_prop0 (G : GT) (S : Nat → Nat → Int32) (L : Nat → Int64) (q : Nat) (hq : isBrk q) (p : Nat) (hp : p < 16) : sE G yX0_property R_X0_property cX0_property 3 (some .int) [.ref (gB G + q), .int (nI p), .int 0] S L (some (.int (S (q + 1) (6 * p)))) S L := e_X0_property G S L q hq p 0 hp (by decide)
set_option maxRecDepth 100000 in
set_option maxHeartbeats 4000000 in
theorem e_X0_isFull (G : GT) (S : Nat → Nat → Int32) (L : Nat → Int64) (q : Nat) (hq : isBrk q) (p : Nat) (hp : p < 16) : sE G yX0_isFull R_X0_isFull cX0_isFull 2 (some .boolean) [.ref (gB G + q), .int (nI p)] S L (some (.int (if (3 ≤ S (q + 1) (6 * p)) then 1 else 0))) S L := by
  refine sE.of (by decide) (Nat.le_of_ble_eq_true rfl) ?_
  show sv_V G R_X0_isFull RX0 "isFull" cX0_isFull 2 (some .boolean) (sPo G R_X0_isFull (some (.int (if (3 ≤ S (q + 1) (6 * p)) then 1 else 0))) S L) 0 0 197 (CF G S L) 0 [(0, .ref (gB G + q)), (1, .int (nI p))] []
  refine sv_aload_n 0 dX0_isFull_0 rfl ?_
  refine sv_iload_n 1 dX0_isFull_1 rfl ?_
  refine sv_iconst (v := 0) dX0_isFull_2 (by decide) ?_
  refine cVi2 (e_X0_prop0 G _ _ _ hq _ hp) ⟨rfl, rfl⟩ (sv_w5 ml_RX0_28 im_X0_property sl_X0_property in_RX0 cd_X0_property) nm_X0_property ⟨Nat.le_of_ble_eq_true rfl, Nat.le_of_ble_eq_true rfl⟩ rfl (CF_0 hq.1) (shp_lt hq.1 (by simp)) (Nat.le_of_ble_eq_true rfl) ⟨Nat.le_of_ble_eq_true rfl, Nat.le_of_ble_eq_true rfl⟩ dX0_isFull_3 ?_
  refine sv_iconst (v := 3) dX0_isFull_6 (by decide) ?_
  refine sv_icmp_lt (tgt := 14) dX0_isFull_7 (by decide) (fun c7 => ?_) (fun c7 => ?_)
  · -- jump
    refine sv_iconst (v := 0) dX0_isFull_14 (by decide) ?_
    exact se_zret rfl ⟨rfl, rfl⟩ dX0_isFull_15 (by rfl) (by rw [if_neg (Int32.not_le.mpr c7)]) rfl
  · -- fall
    refine sv_iconst (v := 1) dX0_isFull_10 (by decide) ?_
    refine sv_goto (tgt := 15) dX0_isFull_11 (by decide) ?_
    exact se_zret rfl ⟨rfl, rfl⟩ dX0_isFull_15 (by rfl) (by rw [if_pos (Int32.not_lt.mp c7)]) rfl
/-- a breakpoint is added at the place p -/
def addS (S : Nat → Nat → Int32) (q p : Nat) (r how f by_ : Int32) : Nat → Nat → Int32 := up2 (up2 (up2 (up2 (up2 S (q + 1) (6 * p) (S (q + 1) (6 * p) + 1)) (q + 1) (6 * p + 1) r) (q + 1) (6 * p + 2) (if r = -9 then -9 else how)) (q + 1) (6 * p + 3) (if r = -9 then -9 else f)) (q + 1) (6 * p + 4) by_
set_option maxRecDepth 100000 in
set_option maxHeartbeats 4000000 in
theorem e_X0_add (G : GT) (S : Nat → Nat → Int32) (L : Nat → Int64) (q : Nat) (hq : isBrk q) (p : Nat) (hp : p < 16) (r how f by_ : Int32) : sE G yX0_add R_X0_add cX0_add 7 none [.ref (gB G + q), .int (nI p), .int r, .int how, .int f, .int by_] S L none (addS S q p r how f by_) L := by
  refine sE.of (by decide) (Nat.le_of_ble_eq_true rfl) ?_
  show sv_V G R_X0_add RX0 "add" cX0_add 7 none (sPo G R_X0_add none (addS S q p r how f by_) L) 0 0 197 (CF G S L) 0 [(0, .ref (gB G + q)), (1, .int (nI p)), (2, .int r), (3, .int how), (4, .int f), (5, .int by_)] []
  refine sv_iload_n 1 dX0_add_0 rfl ?_
  refine sv_bipush (v := 6) dX0_add_1 (by decide) ?_
  refine sv_imul dX0_add_3 ?_
  refine sv_istore (ls' := [(6, _), (0, _), (1, _), (2, _), (3, _), (4, _), (5, _)]) dX0_add_4 (by decide) rfl ?_
  refine sv_aload_n 1 dX0_add_6 rfl ?_
  refine sg_0_0 hq.1 fl_RX0_9 dX0_add_7 ?_
  refine sv_iload 0 dX0_add_10 rfl ?_
  refine sv_iconst (v := 0) dX0_add_12 (by decide) ?_
  refine sv_iadd dX0_add_13 ?_
  refine sv_dup2_11 dX0_add_14 rfl rfl ?_
  refine sx_ild hq.2 (6 * p) (i6 p 0) (by omega) dX0_add_15 ?_
  refine sv_iconst (v := 1) dX0_add_16 (by decide) ?_
  refine sv_iadd dX0_add_17 ?_
  refine sx_ist hq.2 (6 * p) (i6 p 0) (by omega) dX0_add_18 ?_
  refine sv_aload_n 1 dX0_add_19 rfl ?_
  refine sg_0_0 hq.1 fl_RX0_9 dX0_add_20 ?_
  refine sv_iload 0 dX0_add_23 rfl ?_
  refine sv_iconst (v := 1) dX0_add_25 (by decide) ?_
  refine sv_iadd dX0_add_26 ?_
  refine sv_iload_n 3 dX0_add_27 rfl ?_
  refine sx_ist hq.2 (6 * p + 1) (i6 p 1) (by omega) dX0_add_28 ?_
  refine sv_aload_n 1 dX0_add_29 rfl ?_
  refine sg_0_0 hq.1 fl_RX0_9 dX0_add_30 ?_
  refine sv_iload 0 dX0_add_33 rfl ?_
  refine sv_iconst (v := 2) dX0_add_35 (by decide) ?_
  refine sv_iadd dX0_add_36 ?_
  refine sv_iload_n 3 dX0_add_37 rfl ?_
  refine sv_bipush (v := (-9)) dX0_add_38 (by decide) ?_
  refine sv_icmp_ne (tgt := 48) dX0_add_40 (by decide) (fun c40 => ?_) (fun c40 => ?_)
  · -- jump
    refine sv_iload_n 4 dX0_add_48 rfl ?_
    refine sx_ist hq.2 (6 * p + 2) (i6 p 2) (by omega) dX0_add_49 ?_
    refine sv_aload_n 1 dX0_add_50 rfl ?_
    refine sg_0_0 hq.1 fl_RX0_9 dX0_add_51 ?_
    refine sv_iload 0 dX0_add_54 rfl ?_
    refine sv_iconst (v := 3) dX0_add_56 (by decide) ?_
    refine sv_iadd dX0_add_57 ?_
    refine sv_iload_n 3 dX0_add_58 rfl ?_
    refine sv_bipush (v := (-9)) dX0_add_59 (by decide) ?_
    refine sv_icmp_ne (tgt := 69) dX0_add_61 (by decide) (fun c61 => ?_) (fun c61 => ?_)
    · -- jump
      refine sv_iload 5 dX0_add_69 rfl ?_
      refine sx_ist hq.2 (6 * p + 3) (i6 p 3) (by omega) dX0_add_71 ?_
      refine sv_aload_n 1 dX0_add_72 rfl ?_
      refine sg_0_0 hq.1 fl_RX0_9 dX0_add_73 ?_
      refine sv_iload 0 dX0_add_76 rfl ?_
      refine sv_iconst (v := 4) dX0_add_78 (by decide) ?_
      refine sv_iadd dX0_add_79 ?_
      refine sv_iload 6 dX0_add_80 rfl ?_
      refine sx_ist hq.2 (6 * p + 4) (i6 p 4) (by omega) dX0_add_82 ?_
      exact se_vret rfl ⟨rfl, rfl⟩ dX0_add_83 (by first | exact absurd c40 c61 | exact absurd c61 c40 | (unfold addS; simp only [c40, c61, ↓reduceIte]; exact sEq.rf _))
    · -- fall
      refine sv_bipush (v := (-9)) dX0_add_64 (by decide) ?_
      refine sv_goto (tgt := 71) dX0_add_66 (by decide) ?_
      refine sx_ist hq.2 (6 * p + 3) (i6 p 3) (by omega) dX0_add_71 ?_
      refine sv_aload_n 1 dX0_add_72 rfl ?_
      refine sg_0_0 hq.1 fl_RX0_9 dX0_add_73 ?_
      refine sv_iload 0 dX0_add_76 rfl ?_
      refine sv_iconst (v := 4) dX0_add_78 (by decide) ?_
      refine sv_iadd dX0_add_79 ?_
      refine sv_iload 6 dX0_add_80 rfl ?_
      refine sx_ist hq.2 (6 * p + 4) (i6 p 4) (by omega) dX0_add_82 ?_
      exact se_vret rfl ⟨rfl, rfl⟩ dX0_add_83 (by first | exact absurd c40 c61 | exact absurd c61 c40 | (unfold addS; simp only [c40, c61, ↓reduceIte]; exact sEq.rf _))
  · -- fall
    refine sv_bipush (v := (-9)) dX0_add_43 (by decide) ?_
    refine sv_goto (tgt := 49) dX0_add_45 (by decide) ?_
    refine sx_ist hq.2 (6 * p + 2) (i6 p 2) (by omega) dX0_add_49 ?_
    refine sv_aload_n 1 dX0_add_50 rfl ?_
    refine sg_0_0 hq.1 fl_RX0_9 dX0_add_51 ?_
    refine sv_iload 0 dX0_add_54 rfl ?_
    refine sv_iconst (v := 3) dX0_add_56 (by decide) ?_
    refine sv_iadd dX0_add_57 ?_
    refine sv_iload_n 3 dX0_add_58 rfl ?_
    refine sv_bipush (v := (-9)) dX0_add_59 (by decide) ?_
    refine sv_icmp_ne (tgt := 69) dX0_add_61 (by decide) (fun c61 => ?_) (fun c61 => ?_)
    · -- jump
      refine sv_iload 5 dX0_add_69 rfl ?_
      refine sx_ist hq.2 (6 * p + 3) (i6 p 3) (by omega) dX0_add_71 ?_
      refine sv_aload_n 1 dX0_add_72 rfl ?_
      refine sg_0_0 hq.1 fl_RX0_9 dX0_add_73 ?_
      refine sv_iload 0 dX0_add_76 rfl ?_
      refine sv_iconst (v := 4) dX0_add_78 (by decide) ?_
      refine sv_iadd dX0_add_79 ?_
      refine sv_iload 6 dX0_add_80 rfl ?_
      refine sx_ist hq.2 (6 * p + 4) (i6 p 4) (by omega) dX0_add_82 ?_
      exact se_vret rfl ⟨rfl, rfl⟩ dX0_add_83 (by first | exact absurd c40 c61 | exact absurd c61 c40 | (unfold addS; simp only [c40, c61, ↓reduceIte]; exact sEq.rf _))
    · -- fall
      refine sv_bipush (v := (-9)) dX0_add_64 (by decide) ?_
      refine sv_goto (tgt := 71) dX0_add_66 (by decide) ?_
      refine sx_ist hq.2 (6 * p + 3) (i6 p 3) (by omega) dX0_add_71 ?_
      refine sv_aload_n 1 dX0_add_72 rfl ?_
      refine sg_0_0 hq.1 fl_RX0_9 dX0_add_73 ?_
      refine sv_iload 0 dX0_add_76 rfl ?_
      refine sv_iconst (v := 4) dX0_add_78 (by decide) ?_
      refine sv_iadd dX0_add_79 ?_
      refine sv_iload 6 dX0_add_80 rfl ?_
      refine sx_ist hq.2 (6 * p + 4) (i6 p 4) (by omega) dX0_add_82 ?_
      exact se_vret rfl ⟨rfl, rfl⟩ dX0_add_83 (by first | exact absurd c40 c61 | exact absurd c61 c40 | (unfold addS; simp only [c40, c61, ↓reduceIte]; exact sEq.rf _))
/-- a breakpoint is taken from the place p -/
def remS (S : Nat → Nat → Int32) (q p : Nat) : Nat → Nat → Int32 := if 1 < S (q + 1) (6 * p) then up2 S (q + 1) (6 * p) (S (q + 1) (6 * p) - 1) else disS S q p
set_option maxRecDepth 100000 in
set_option maxHeartbeats 4000000 in
theorem e_X0_remove (G : GT) (S : Nat → Nat → Int32) (L : Nat → Int64) (q : Nat) (hq : isBrk q) (p : Nat) (hp : p < 16) : sE G yX0_remove R_X0_remove cX0_remove 2 none [.ref (gB G + q), .int (nI p)] S L none (remS S q p) L := by
  refine sE.of (by decide) (Nat.le_of_ble_eq_true rfl) ?_
  show sv_V G R_X0_remove RX0 "remove" cX0_remove 2 none (sPo G R_X0_remove none (remS S q p) L) 0 0 197 (CF G S L) 0 [(0, .ref (gB G + q)), (1, .int (nI p))] []
  refine sv_aload_n 0 dX0_remove_0 rfl ?_
  refine sv_iload_n 1 dX0_remove_1 rfl ?_
  refine sv_iconst (v := 0) dX0_remove_2 (by decide) ?_
  refine cVi2 (e_X0_prop0 G _ _ _ hq _ hp) ⟨rfl, rfl⟩ (sv_w5 ml_RX0_28 im_X0_property sl_X0_property in_RX0 cd_X0_property) nm_X0_property ⟨Nat.le_of_ble_eq_true rfl, Nat.le_of_ble_eq_true rfl⟩ rfl (CF_0 hq.1) (shp_lt hq.1 (by simp)) (Nat.le_of_ble_eq_true rfl) ⟨Nat.le_of_ble_eq_true rfl, Nat.le_of_ble_eq_true rfl⟩ dX0_remove_3 ?_
  refine sv_iconst (v := 1) dX0_remove_6 (by decide) ?_
  refine sv_icmp_gt (tgt := 18) dX0_remove_7 (by decide) (fun c7 => ?_) (fun c7 => ?_)
  · -- jump
    refine sv_aload_n 0 dX0_remove_18 rfl ?_
    refine sg_0_0 hq.1 fl_RX0_9 dX0_remove_19 ?_
    refine sv_iload_n 1 dX0_remove_22 rfl ?_
    refine sv_bipush (v := 6) dX0_remove_23 (by decide) ?_
    refine sv_imul dX0_remove_25 ?_
    refine sv_iconst (v := 0) dX0_remove_26 (by decide) ?_
    refine sv_iadd dX0_remove_27 ?_
    refine sv_dup2_11 dX0_remove_28 rfl rfl ?_
    refine sx_ild hq.2 (6 * p) (i6 p 0) (by omega) dX0_remove_29 ?_
    refine sv_iconst (v := 1) dX0_remove_30 (by decide) ?_
    refine sv_isub dX0_remove_31 ?_
    refine sx_ist hq.2 (6 * p) (i6 p 0) (by omega) dX0_remove_32 ?_
    exact se_vret rfl ⟨rfl, rfl⟩ dX0_remove_33 (by unfold remS; first | (rw [if_pos c7]; exact sEq.rf _) | (rw [if_neg c7]; exact sEq.rf _))
  · -- fall
    refine sv_aload_n 0 dX0_remove_10 rfl ?_
    refine sv_iload_n 1 dX0_remove_11 rfl ?_
    refine cVv1 (e_X0_disarm G _ _ _ hq _ hp) ⟨rfl, rfl⟩ (sv_w5 ml_RX0_18 im_X0_disarm sl_X0_disarm in_RX0 cd_X0_disarm) nm_X0_disarm ⟨Nat.le_of_ble_eq_true rfl, Nat.le_of_ble_eq_true rfl⟩ rfl (CF_0 hq.1) (shp_lt hq.1 (by simp)) (Nat.le_of_ble_eq_true rfl) ⟨Nat.le_of_ble_eq_true rfl, Nat.le_of_ble_eq_true rfl⟩ dX0_remove_12 ?_
    refine sv_goto (tgt := 33) dX0_remove_15 (by decide) ?_
    exact se_vret rfl ⟨rfl, rfl⟩ dX0_remove_33 (by unfold remS; first | (rw [if_pos c7]; exact sEq.rf _) | (rw [if_neg c7]; exact sEq.rf _))
def armL (S : Nat → Nat → Int32) (q : Nat) : Nat → Nat → Int32 → Int32
  | 0, _, acc => acc
  | m + 1, p, acc => armL S q m (p + 1) (if 0 < S (q + 1) (6 * p) then acc ||| ((1 : Int32) <<< (nI p &&& 31)) else acc)
def armSetF (S : Nat → Nat → Int32) (q : Nat) : Int32 := armL S q 16 0 0
set_option maxRecDepth 100000 in
set_option maxHeartbeats 4000000 in
theorem l_X0_armedSet (G : GT) (S : Nat → Nat → Int32) (L : Nat → Int64) (q : Nat) (hq : isBrk q) : ∀ (m p : Nat) (acc : Int32), 16 - p = m → p ≤ 16 → sv_V G R_X0_armedSet RX0 "armedSet" cX0_armedSet 3 (some .int) (sPo G R_X0_armedSet (some (.int (armL S q m p acc))) S L) 0 0 197 (CF G S L) 4 [(2, .int (nI p)), (1, .int acc), (0, .ref (gB G + q))] [] := by
  intro m
  induction m using Nat.strongRecOn
  rename_i m ih
  intro p acc hm hp
  refine sv_iload_n 0 dX0_armedSet_4 rfl ?_
  refine sv_bipush (v := 16) dX0_armedSet_5 (by decide) ?_
  refine sv_icmp_ge (tgt := 30) dX0_armedSet_7 (by decide) (fun c7 => ?_) (fun c7 => ?_)
  · -- jump
    obtain rfl : m = 0 := by have := (nI_leI (a := 16) (b := p) (by omega) (by omega)).mp c7; omega
    refine sv_iload_n 1 dX0_armedSet_30 rfl ?_
    exact se_iret rfl ⟨rfl, rfl⟩ dX0_armedSet_31 rfl rfl
  · -- fall
    have h7 : p < 16 := Nat.lt_of_not_le (fun z => c7 (nI_le (a := 16) z (by omega)))
    obtain ⟨m2, rfl⟩ : ∃ k, m = k + 1 := ⟨m - 1, by omega⟩
    rw [armL]
    refine sv_aload_n 2 dX0_armedSet_10 rfl ?_
    refine sv_iload_n 0 dX0_armedSet_11 rfl ?_
    refine cVi1 (e_X0_isArmedN G _ _ _ hq _ h7) ⟨rfl, rfl⟩ (sv_w5 ml_RX0_32 im_X0_isArmed sl_X0_isArmed in_RX0 cd_X0_isArmed) nm_X0_isArmed ⟨Nat.le_of_ble_eq_true rfl, Nat.le_of_ble_eq_true rfl⟩ rfl (CF_0 hq.1) (shp_lt hq.1 (by simp)) (Nat.le_of_ble_eq_true rfl) ⟨Nat.le_of_ble_eq_true rfl, Nat.le_of_ble_eq_true rfl⟩ dX0_armedSet_12 ?_
    refine sv_ifeq_b (tgt := 24) dX0_armedSet_15 (by decide) (fun c15 => ?_) (fun c15 => ?_)
    · -- jump
      refine sv_iinc 0 (ls' := [(2, _), (1, _), (0, _)]) dX0_armedSet_24 rfl (nI_1 _) (by decide) rfl ?_
      refine sv_goto (tgt := 4) dX0_armedSet_27 (by decide) ?_
      first | rw [if_pos c15] | rw [if_neg c15]
      exact ih m2 (by omega) (p + 1) _ (by omega) (by omega)
    · -- fall
      refine sv_iload_n 1 dX0_armedSet_18 rfl ?_
      refine sv_iconst (v := 1) dX0_armedSet_19 (by decide) ?_
      refine sv_iload_n 0 dX0_armedSet_20 rfl ?_
      refine sv_ishl dX0_armedSet_21 ?_
      refine sv_ior dX0_armedSet_22 ?_
      refine sv_istore_n (ls' := [(1, _), (2, _), (0, _)]) dX0_armedSet_23 (by decide) rfl ?_
      refine sv_iinc 1 (ls' := [(2, _), (1, _), (0, _)]) dX0_armedSet_24 rfl (nI_1 _) (by decide) rfl ?_
      refine sv_goto (tgt := 4) dX0_armedSet_27 (by decide) ?_
      first | rw [if_pos c15] | rw [if_neg c15]
      exact ih m2 (by omega) (p + 1) _ (by omega) (by omega)
set_option maxRecDepth 100000 in
set_option maxHeartbeats 4000000 in
theorem e_X0_armedSet (G : GT) (S : Nat → Nat → Int32) (L : Nat → Int64) (q : Nat) (hq : isBrk q) : sE G yX0_armedSet R_X0_armedSet cX0_armedSet 3 (some .int) [.ref (gB G + q)] S L (some (.int (armSetF S q))) S L := by
  refine sE.of (by decide) (Nat.le_of_ble_eq_true rfl) ?_
  show sv_V G R_X0_armedSet RX0 "armedSet" cX0_armedSet 3 (some .int) (sPo G R_X0_armedSet (some (.int (armSetF S q))) S L) 0 0 197 (CF G S L) 0 [(0, .ref (gB G + q))] []
  refine sv_iconst (v := 0) dX0_armedSet_0 (by decide) ?_
  refine sv_istore_n (ls' := [(1, _), (0, _)]) dX0_armedSet_1 (by decide) rfl ?_
  refine sv_iconst (v := 0) dX0_armedSet_2 (by decide) ?_
  refine sv_istore_n (ls' := [(2, _), (1, _), (0, _)]) dX0_armedSet_3 (by decide) rfl ?_
  exact l_X0_armedSet G S L q hq 16 0 0 rfl (by omega)
set_option maxRecDepth 100000 in
set_option maxHeartbeats 4000000 in
theorem e_X0_armedCount (G : GT) (S : Nat → Nat → Int32) (L : Nat → Int64) (q : Nat) (hq : isBrk q) : sE G yX0_armedCount R_X0_armedCount cX0_armedCount 1 (some .int) [.ref (gB G + q)] S L (some (.int (bcF (armSetF S q)))) S L := by
  refine sE.of (by decide) (Nat.le_of_ble_eq_true rfl) ?_
  show sv_V G R_X0_armedCount RX0 "armedCount" cX0_armedCount 1 (some .int) (sPo G R_X0_armedCount (some (.int (bcF (armSetF S q)))) S L) 0 0 197 (CF G S L) 0 [(0, .ref (gB G + q))] []
  refine sv_aload_n 0 dX0_armedCount_0 rfl ?_
  refine cVi0 (e_X0_armedSet G _ _ _ hq) ⟨rfl, rfl⟩ (sv_w5 ml_RX0_36 im_X0_armedSet sl_X0_armedSet in_RX0 cd_X0_armedSet) nm_X0_armedSet ⟨Nat.le_of_ble_eq_true rfl, Nat.le_of_ble_eq_true rfl⟩ rfl (CF_0 hq.1) (shp_lt hq.1 (by simp)) (Nat.le_of_ble_eq_true rfl) ⟨Nat.le_of_ble_eq_true rfl, Nat.le_of_ble_eq_true rfl⟩ dX0_armedCount_1 ?_
  refine cSi1 (e_J6_bitCount_0f7a4 G _ _ _) ⟨rfl, rfl⟩ (sv_w4 ml_RX0_40 st_J6_bitCount_0f7a4 in_RJ6 cd_J6_bitCount_0f7a4) nm_J6_bitCount_0f7a4 ⟨Nat.le_of_ble_eq_true rfl, Nat.le_of_ble_eq_true rfl⟩ (Nat.le_of_ble_eq_true rfl) ⟨Nat.le_of_ble_eq_true rfl, Nat.le_of_ble_eq_true rfl⟩ dX0_armedCount_4 ?_
  exact se_iret rfl ⟨rfl, rfl⟩ dX0_armedCount_7 rfl rfl
/-- the place at the counter of the machine mq is armed and applies -/
abbrev appP (S : Nat → Nat → Int32) (q mq : Nat) : Prop := armP S q (S mq 4) ∧ (¬ (¬ S (q + 1) (6 * tn (S mq 4) + 1) < 0 ∧ ¬ 4 ≤ S (q + 1) (6 * tn (S mq 4) + 1)) ∨
  (if S (q + 1) (6 * tn (S mq 4) + 2) = 0 then S (mq + 1) (tn (S (q + 1) (6 * tn (S mq 4) + 1))) < S (q + 1) (6 * tn (S mq 4) + 3)
   else if S (q + 1) (6 * tn (S mq 4) + 2) = 1 then S (mq + 1) (tn (S (q + 1) (6 * tn (S mq 4) + 1))) = S (q + 1) (6 * tn (S mq 4) + 3)
   else S (q + 1) (6 * tn (S mq 4) + 3) < S (mq + 1) (tn (S (q + 1) (6 * tn (S mq 4) + 1)))))

set_option maxRecDepth 100000 in
set_option maxHeartbeats 4000000 in
theorem e_X0_apply (G : GT) (S : Nat → Nat → Int32) (L : Nat → Int64) (q : Nat) (hq : isBrk q) (mq : Nat) (hm : isMach mq) : sE G yX0_apply R_X0_apply cX0_apply 7 (some .boolean) [.ref (gB G + q), .ref (gB G + mq)] S L (some (.int (if (appP S q mq) then 1 else 0))) S L := by
  refine sE.of (by decide) (Nat.le_of_ble_eq_true rfl) ?_
  show sv_V G R_X0_apply RX0 "apply" cX0_apply 7 (some .boolean) (sPo G R_X0_apply (some (.int (if (appP S q mq) then 1 else 0))) S L) 0 0 197 (CF G S L) 0 [(0, .ref (gB G + q)), (1, .ref (gB G + mq))] []
  refine sv_aload_n 1 dX0_apply_0 rfl ?_
  refine sg_3_4 hm.1 fl_RX0_46 dX0_apply_1 ?_
  refine sv_istore_n (ls' := [(2, _), (0, _), (1, _)]) dX0_apply_4 (by decide) rfl ?_
  refine sv_aload_n 1 dX0_apply_5 rfl ?_
  refine sv_iload_n 0 dX0_apply_6 rfl ?_
  refine cVi1 (e_X0_isArmed G _ _ _ hq _) ⟨rfl, rfl⟩ (sv_w5 ml_RX0_32 im_X0_isArmed sl_X0_isArmed in_RX0 cd_X0_isArmed) nm_X0_isArmed ⟨Nat.le_of_ble_eq_true rfl, Nat.le_of_ble_eq_true rfl⟩ rfl (CF_0 hq.1) (shp_lt hq.1 (by simp)) (Nat.le_of_ble_eq_true rfl) ⟨Nat.le_of_ble_eq_true rfl, Nat.le_of_ble_eq_true rfl⟩ dX0_apply_7 ?_
  refine sv_ifne_b (tgt := 15) dX0_apply_10 (by decide) (fun c10 => ?_) (fun c10 => ?_)
  · -- jump
    refine sv_iload_n 0 dX0_apply_15 rfl ?_
    refine sv_bipush (v := 6) dX0_apply_16 (by decide) ?_
    refine sv_imul dX0_apply_18 ?_
    refine sv_istore_n (ls' := [(3, _), (2, _), (0, _), (1, _)]) dX0_apply_19 (by decide) rfl ?_
    refine sv_aload_n 2 dX0_apply_20 rfl ?_
    refine sg_0_0 hq.1 fl_RX0_9 dX0_apply_21 ?_
    refine sv_iload_n 0 dX0_apply_24 rfl ?_
    refine sv_iconst (v := 1) dX0_apply_25 (by decide) ?_
    refine sv_iadd dX0_apply_26 ?_
    refine sx_ild hq.2 (6 * tn (S mq 4) + 1) (i6t c10.1 1) (by have := tn_lt (M := 16) (k := 16) rfl (by decide) c10.1 c10.2.1; omega) dX0_apply_27 ?_
    refine sv_istore (ls' := [(4, _), (3, _), (2, _), (0, _), (1, _)]) dX0_apply_28 (by decide) rfl ?_
    refine sv_iload 0 dX0_apply_30 rfl ?_
    refine cNi1 (e_X9_isRegister G _ _ _) ⟨rfl, rfl⟩ ml_RX0_52 (sv_w3 st_X9_isRegister in_RX9 cd_X9_isRegister) nm_X9_isRegister ⟨Nat.le_of_ble_eq_true rfl, Nat.le_of_ble_eq_true rfl⟩ (Nat.le_of_ble_eq_true rfl) ⟨Nat.le_of_ble_eq_true rfl, Nat.le_of_ble_eq_true rfl⟩ dX0_apply_32 ?_
    refine sv_ifne_b (tgt := 40) dX0_apply_35 (by decide) (fun c35 => ?_) (fun c35 => ?_)
    · -- jump
      refine sv_aload_n 4 dX0_apply_40 rfl ?_
      refine sg_3_0 hm.1 fl_RX0_55 dX0_apply_41 ?_
      refine sv_iload 0 dX0_apply_44 rfl ?_
      refine sx_ild hm.2.1 _ (nI_self c35.1) (tn_lt (M := 4) (k := 4) rfl (by decide) c35.1 c35.2) dX0_apply_46 ?_
      refine sv_istore (ls' := [(5, _), (4, _), (3, _), (2, _), (0, _), (1, _)]) dX0_apply_47 (by decide) rfl ?_
      refine sv_aload_n 4 dX0_apply_49 rfl ?_
      refine sg_0_0 hq.1 fl_RX0_9 dX0_apply_50 ?_
      refine sv_iload_n 2 dX0_apply_53 rfl ?_
      refine sv_iconst (v := 3) dX0_apply_54 (by decide) ?_
      refine sv_iadd dX0_apply_55 ?_
      refine sx_ild hq.2 (6 * tn (S mq 4) + 3) (i6t c10.1 3) (by have := tn_lt (M := 16) (k := 16) rfl (by decide) c10.1 c10.2.1; omega) dX0_apply_56 ?_
      refine sv_istore (ls' := [(6, _), (5, _), (4, _), (3, _), (2, _), (0, _), (1, _)]) dX0_apply_57 (by decide) rfl ?_
      refine sv_aload_n 5 dX0_apply_59 rfl ?_
      refine sg_0_0 hq.1 fl_RX0_9 dX0_apply_60 ?_
      refine sv_iload_n 3 dX0_apply_63 rfl ?_
      refine sv_iconst (v := 2) dX0_apply_64 (by decide) ?_
      refine sv_iadd dX0_apply_65 ?_
      refine sx_ild hq.2 (6 * tn (S mq 4) + 2) (i6t c10.1 2) (by have := tn_lt (M := 16) (k := 16) rfl (by decide) c10.1 c10.2.1; omega) dX0_apply_66 ?_
      refine sw_X0_apply_67 dX0_apply_67 (fun c67 => ?_) (fun c67 => ?_) (fun c67 => ?_)
      · -- case 0
        refine sv_iload 1 dX0_apply_92 rfl ?_
        refine sv_iload 0 dX0_apply_94 rfl ?_
        refine sv_icmp_ge (tgt := 103) dX0_apply_96 (by decide) (fun c96 => ?_) (fun c96 => ?_)
        · -- jump
          refine sv_iconst (v := 0) dX0_apply_103 (by decide) ?_
          exact se_zret rfl ⟨rfl, rfl⟩ dX0_apply_104 (by rfl) (by simp [appP, c10, c35, true_and, c67, c96, Int32.not_le, Int32.not_lt] <;> simp_all [Int32.not_le, Int32.not_lt]) rfl
        · -- fall
          refine sv_iconst (v := 1) dX0_apply_99 (by decide) ?_
          refine sv_goto (tgt := 104) dX0_apply_100 (by decide) ?_
          exact se_zret rfl ⟨rfl, rfl⟩ dX0_apply_104 (by rfl) (by simp [appP, c10, c35, true_and, c67, c96, Int32.not_le, Int32.not_lt] <;> simp_all [Int32.not_le, Int32.not_lt]) rfl
      · -- case 1
        refine sv_iload 1 dX0_apply_105 rfl ?_
        refine sv_iload 0 dX0_apply_107 rfl ?_
        refine sv_icmp_ne (tgt := 116) dX0_apply_109 (by decide) (fun c109 => ?_) (fun c109 => ?_)
        · -- jump
          refine sv_iconst (v := 0) dX0_apply_116 (by decide) ?_
          exact se_zret rfl ⟨rfl, rfl⟩ dX0_apply_117 (by rfl) (by simp [appP, c10, c35, true_and, c67, c109, Int32.not_le, Int32.not_lt] <;> simp_all [Int32.not_le, Int32.not_lt]) rfl
        · -- fall
          refine sv_iconst (v := 1) dX0_apply_112 (by decide) ?_
          refine sv_goto (tgt := 117) dX0_apply_113 (by decide) ?_
          exact se_zret rfl ⟨rfl, rfl⟩ dX0_apply_117 (by rfl) (by simp [appP, c10, c35, true_and, c67, c109, Int32.not_le, Int32.not_lt] <;> simp_all [Int32.not_le, Int32.not_lt]) rfl
      · -- case None
        refine sv_iload 1 dX0_apply_118 rfl ?_
        refine sv_iload 0 dX0_apply_120 rfl ?_
        refine sv_icmp_le (tgt := 129) dX0_apply_122 (by decide) (fun c122 => ?_) (fun c122 => ?_)
        · -- jump
          refine sv_iconst (v := 0) dX0_apply_129 (by decide) ?_
          exact se_zret rfl ⟨rfl, rfl⟩ dX0_apply_130 (by rfl) (by simp [appP, c10, c35, true_and, c67, c122, Int32.not_le, Int32.not_lt] <;> simp_all [Int32.not_le, Int32.not_lt]) rfl
        · -- fall
          refine sv_iconst (v := 1) dX0_apply_125 (by decide) ?_
          refine sv_goto (tgt := 130) dX0_apply_126 (by decide) ?_
          exact se_zret rfl ⟨rfl, rfl⟩ dX0_apply_130 (by rfl) (by simp [appP, c10, c35, true_and, c67, c122, Int32.not_le, Int32.not_lt] <;> simp_all [Int32.not_le, Int32.not_lt]) rfl
    · -- fall
      refine sv_iconst (v := 1) dX0_apply_38 (by decide) ?_
      exact se_zret rfl ⟨rfl, rfl⟩ dX0_apply_39 (by rfl) (by rw [if_pos ⟨c10, Or.inl c35⟩]) rfl
  · -- fall
    refine sv_iconst (v := 0) dX0_apply_13 (by decide) ?_
    exact se_zret rfl ⟨rfl, rfl⟩ dX0_apply_14 (by rfl) (by rw [if_neg (fun h => c10 h.1)]) rfl
/-- behind a step: whether the place at the counter stops the plan, and what that leaves -/
def stopR (S : Nat → Nat → Int32) (q mq : Nat) : Int32 := if appP S q mq then (if 0 < S (q + 1) (6 * tn (S mq 4) + 4) then 0 else 1) else 0
def stopS (S : Nat → Nat → Int32) (q mq : Nat) : Nat → Nat → Int32 := if appP S q mq then (if 0 < S (q + 1) (6 * tn (S mq 4) + 4) then up2 S (q + 1) (6 * tn (S mq 4) + 4) (S (q + 1) (6 * tn (S mq 4) + 4) - 1) else up2 S (q + 1) (6 * tn (S mq 4) + 5) (S (q + 1) (6 * tn (S mq 4) + 5) + 1)) else S
set_option maxRecDepth 100000 in
set_option maxHeartbeats 4000000 in
theorem e_X0_stop (G : GT) (S : Nat → Nat → Int32) (L : Nat → Int64) (q : Nat) (hq : isBrk q) (mq : Nat) (hm : isMach mq) : sE G yX0_stop R_X0_stop cX0_stop 3 (some .boolean) [.ref (gB G + q), .ref (gB G + mq)] S L (some (.int (stopR S q mq))) (stopS S q mq) L := by
  refine sE.of (by decide) (Nat.le_of_ble_eq_true rfl) ?_
  show sv_V G R_X0_stop RX0 "stop" cX0_stop 3 (some .boolean) (sPo G R_X0_stop (some (.int (stopR S q mq))) (stopS S q mq) L) 0 0 197 (CF G S L) 0 [(0, .ref (gB G + q)), (1, .ref (gB G + mq))] []
  refine sv_aload_n 0 dX0_stop_0 rfl ?_
  refine sv_aload_n 1 dX0_stop_1 rfl ?_
  refine cVi1 (e_X0_apply G _ _ _ hq _ hm) ⟨rfl, rfl⟩ (sv_w5 ml_RX0_58 im_X0_apply sl_X0_apply in_RX0 cd_X0_apply) nm_X0_apply ⟨Nat.le_of_ble_eq_true rfl, Nat.le_of_ble_eq_true rfl⟩ rfl (CF_0 hq.1) (shp_lt hq.1 (by simp)) (Nat.le_of_ble_eq_true rfl) ⟨Nat.le_of_ble_eq_true rfl, Nat.le_of_ble_eq_true rfl⟩ dX0_stop_2 ?_
  refine sv_ifne_b (tgt := 10) dX0_stop_5 (by decide) (fun c5 => ?_) (fun c5 => ?_)
  · -- jump
    refine sv_aload_n 1 dX0_stop_10 rfl ?_
    refine sg_3_4 hm.1 fl_RX0_46 dX0_stop_11 ?_
    refine sv_bipush (v := 6) dX0_stop_14 (by decide) ?_
    refine sv_imul dX0_stop_16 ?_
    refine sv_istore_n (ls' := [(2, _), (0, _), (1, _)]) dX0_stop_17 (by decide) rfl ?_
    refine sv_aload_n 1 dX0_stop_18 rfl ?_
    refine sg_0_0 hq.1 fl_RX0_9 dX0_stop_19 ?_
    refine sv_iload_n 0 dX0_stop_22 rfl ?_
    refine sv_iconst (v := 4) dX0_stop_23 (by decide) ?_
    refine sv_iadd dX0_stop_24 ?_
    refine sx_ild hq.2 (6 * tn (S mq 4) + 4) (i6t c5.1.1 4) (by have := tn_lt (M := 16) (k := 16) rfl (by decide) c5.1.1 c5.1.2.1; omega) dX0_stop_25 ?_
    refine sv_if_le (tgt := 43) dX0_stop_26 (by decide) (fun c26 => ?_) (fun c26 => ?_)
    · -- jump
      refine sv_aload_n 1 dX0_stop_43 rfl ?_
      refine sg_0_0 hq.1 fl_RX0_9 dX0_stop_44 ?_
      refine sv_iload_n 0 dX0_stop_47 rfl ?_
      refine sv_iconst (v := 5) dX0_stop_48 (by decide) ?_
      refine sv_iadd dX0_stop_49 ?_
      refine sv_dup2_11 dX0_stop_50 rfl rfl ?_
      refine sx_ild hq.2 (6 * tn (S mq 4) + 5) (i6t c5.1.1 5) (by have := tn_lt (M := 16) (k := 16) rfl (by decide) c5.1.1 c5.1.2.1; omega) dX0_stop_51 ?_
      refine sv_iconst (v := 1) dX0_stop_52 (by decide) ?_
      refine sv_iadd dX0_stop_53 ?_
      refine sx_ist hq.2 (6 * tn (S mq 4) + 5) (i6t c5.1.1 5) (by have := tn_lt (M := 16) (k := 16) rfl (by decide) c5.1.1 c5.1.2.1; omega) dX0_stop_54 ?_
      refine sv_iconst (v := 1) dX0_stop_55 (by decide) ?_
      exact se_zret rfl ⟨rfl, rfl⟩ dX0_stop_56 (by rfl) (by rw [stopR, if_pos c5, if_neg (Int32.not_lt.mpr c26)]) (by rw [stopS, if_pos c5, if_neg (Int32.not_lt.mpr c26)])
    · -- fall
      refine sv_aload_n 1 dX0_stop_29 rfl ?_
      refine sg_0_0 hq.1 fl_RX0_9 dX0_stop_30 ?_
      refine sv_iload_n 0 dX0_stop_33 rfl ?_
      refine sv_iconst (v := 4) dX0_stop_34 (by decide) ?_
      refine sv_iadd dX0_stop_35 ?_
      refine sv_dup2_11 dX0_stop_36 rfl rfl ?_
      refine sx_ild hq.2 (6 * tn (S mq 4) + 4) (i6t c5.1.1 4) (by have := tn_lt (M := 16) (k := 16) rfl (by decide) c5.1.1 c5.1.2.1; omega) dX0_stop_37 ?_
      refine sv_iconst (v := 1) dX0_stop_38 (by decide) ?_
      refine sv_isub dX0_stop_39 ?_
      refine sx_ist hq.2 (6 * tn (S mq 4) + 4) (i6t c5.1.1 4) (by have := tn_lt (M := 16) (k := 16) rfl (by decide) c5.1.1 c5.1.2.1; omega) dX0_stop_40 ?_
      refine sv_iconst (v := 0) dX0_stop_41 (by decide) ?_
      exact se_zret rfl ⟨rfl, rfl⟩ dX0_stop_42 (by rfl) (by rw [stopR, if_pos c5, if_pos (Int32.not_le.mp c26)]) (by rw [stopS, if_pos c5, if_pos (Int32.not_le.mp c26)])
  · -- fall
    refine sv_iconst (v := 0) dX0_stop_8 (by decide) ?_
    exact se_zret rfl ⟨rfl, rfl⟩ dX0_stop_9 (by rfl) (by rw [stopR, if_neg c5]) (by rw [stopS, if_neg c5])
