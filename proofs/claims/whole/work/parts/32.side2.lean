set_option maxRecDepth 100000 in
set_option maxHeartbeats 4000000 in
theorem sw_X9_followsAside_27 {G : GT} {R : Room} {own nm : String} {nL : Nat} {rt : Option FieldType} {Post : Option Value → Nat → Nat → Nat → (Nat → va_E) → Prop} {cells slots n : Nat} {f : Nat → va_E} {ls : List (Nat × Value)} {st : List Value} {x : Int32} (d : decode cX9_followsAside 27 = .ok (.lookupswitch 124 #[(98, 97), (99, 81), (104, 121), (106, 49), (122, 54)], 49)) (k0 : x = 98 → sv_V G R own nm cX9_followsAside nL rt Post cells slots n f 124 ls st) (k1 : x = 99 → sv_V G R own nm cX9_followsAside nL rt Post cells slots n f 108 ls st) (k2 : x = 104 → sv_V G R own nm cX9_followsAside nL rt Post cells slots n f 148 ls st) (k3 : x = 106 → sv_V G R own nm cX9_followsAside nL rt Post cells slots n f 76 ls st) (k4 : x = 122 → sv_V G R own nm cX9_followsAside nL rt Post cells slots n f 81 ls st) (kd : ¬ x = 98 ∧ ¬ x = 99 ∧ ¬ x = 104 ∧ ¬ x = 106 ∧ ¬ x = 122 → sv_V G R own nm cX9_followsAside nL rt Post cells slots n f 151 ls st) : sv_V G R own nm cX9_followsAside nL rt Post cells slots n f 27 ls (.int x :: st) := by
  by_cases h0 : x = 98
  · subst h0; exact sv_lookup (tgt := 124) (off := 97) d (by decide) (by decide) (by decide) (k0 rfl)
  by_cases h1 : x = 99
  · subst h1; exact sv_lookup (tgt := 108) (off := 81) d (by decide) (by decide) (by decide) (k1 rfl)
  by_cases h2 : x = 104
  · subst h2; exact sv_lookup (tgt := 148) (off := 121) d (by decide) (by decide) (by decide) (k2 rfl)
  by_cases h3 : x = 106
  · subst h3; exact sv_lookup (tgt := 76) (off := 49) d (by decide) (by decide) (by decide) (k3 rfl)
  by_cases h4 : x = 122
  · subst h4; exact sv_lookup (tgt := 81) (off := 54) d (by decide) (by decide) (by decide) (k4 rfl)
  refine sv_lookup (tgt := 151) (off := 124) d (by decide) ?_ (by decide) (kd ⟨h0, h1, h2, h3, h4⟩)
  show Op.lookupswitch.offset [(98, 97), (99, 81), (104, 121), (106, 49), (122, 54)] 124 x.toInt = _
  rw [lv_osw h0 (by decide), lv_osw h1 (by decide), lv_osw h2 (by decide), lv_osw h3 (by decide), lv_osw h4 (by decide)]
  rfl
set_option maxRecDepth 100000 in
set_option maxHeartbeats 4000000 in
theorem sw_X9_aside_24 {G : GT} {R : Room} {own nm : String} {nL : Nat} {rt : Option FieldType} {Post : Option Value → Nat → Nat → Nat → (Nat → va_E) → Prop} {cells slots n : Nat} {f : Nat → va_E} {ls : List (Nat × Value)} {st : List Value} {x : Int32} (d : decode cX9_aside 24 = .ok (.tableswitch 86 0 3 #[32, 38, 67, 81], 32)) (k0 : x = 0 → sv_V G R own nm cX9_aside nL rt Post cells slots n f 56 ls st) (k1 : x = 1 → sv_V G R own nm cX9_aside nL rt Post cells slots n f 62 ls st) (k2 : x = 2 → sv_V G R own nm cX9_aside nL rt Post cells slots n f 91 ls st) (k3 : x = 3 → sv_V G R own nm cX9_aside nL rt Post cells slots n f 105 ls st) (kd : ¬ x = 0 ∧ ¬ x = 1 ∧ ¬ x = 2 ∧ ¬ x = 3 → sv_V G R own nm cX9_aside nL rt Post cells slots n f 110 ls st) : sv_V G R own nm cX9_aside nL rt Post cells slots n f 24 ls (.int x :: st) := by
  by_cases h0 : x = 0
  · subst h0; exact sv_tableIn (tgt := 56) (off := 32) d (by decide) (by decide) (by decide) (by decide) (k0 rfl)
  by_cases h1 : x = 1
  · subst h1; exact sv_tableIn (tgt := 62) (off := 38) d (by decide) (by decide) (by decide) (by decide) (k1 rfl)
  by_cases h2 : x = 2
  · subst h2; exact sv_tableIn (tgt := 91) (off := 67) d (by decide) (by decide) (by decide) (by decide) (k2 rfl)
  by_cases h3 : x = 3
  · subst h3; exact sv_tableIn (tgt := 105) (off := 81) d (by decide) (by decide) (by decide) (by decide) (k3 rfl)
  refine sv_tableOut (tgt := 110) d ?_ (by decide) (kd ⟨h0, h1, h2, h3⟩)
  have q0 := sw_ne h0 (by decide : (0 : Int32).toInt = 0)
  have q1 := sw_ne h1 (by decide : (1 : Int32).toInt = 1)
  have q2 := sw_ne h2 (by decide : (2 : Int32).toInt = 2)
  have q3 := sw_ne h3 (by decide : (3 : Int32).toInt = 3)
  omega
set_option maxRecDepth 100000 in
set_option maxHeartbeats 4000000 in
theorem sw_X9_free_40 {G : GT} {R : Room} {own nm : String} {nL : Nat} {rt : Option FieldType} {Post : Option Value → Nat → Nat → Nat → (Nat → va_E) → Prop} {cells slots n : Nat} {f : Nat → va_E} {ls : List (Nat × Value)} {st : List Value} {x : Int32} (d : decode cX9_free 40 = .ok (.tableswitch 55 0 2 #[28, 36, 44], 28)) (k0 : x = 0 → sv_V G R own nm cX9_free nL rt Post cells slots n f 68 ls st) (k1 : x = 1 → sv_V G R own nm cX9_free nL rt Post cells slots n f 76 ls st) (k2 : x = 2 → sv_V G R own nm cX9_free nL rt Post cells slots n f 84 ls st) (kd : ¬ x = 0 ∧ ¬ x = 1 ∧ ¬ x = 2 → sv_V G R own nm cX9_free nL rt Post cells slots n f 95 ls st) : sv_V G R own nm cX9_free nL rt Post cells slots n f 40 ls (.int x :: st) := by
  by_cases h0 : x = 0
  · subst h0; exact sv_tableIn (tgt := 68) (off := 28) d (by decide) (by decide) (by decide) (by decide) (k0 rfl)
  by_cases h1 : x = 1
  · subst h1; exact sv_tableIn (tgt := 76) (off := 36) d (by decide) (by decide) (by decide) (by decide) (k1 rfl)
  by_cases h2 : x = 2
  · subst h2; exact sv_tableIn (tgt := 84) (off := 44) d (by decide) (by decide) (by decide) (by decide) (k2 rfl)
  refine sv_tableOut (tgt := 95) d ?_ (by decide) (kd ⟨h0, h1, h2⟩)
  have q0 := sw_ne h0 (by decide : (0 : Int32).toInt = 0)
  have q1 := sw_ne h1 (by decide : (1 : Int32).toInt = 1)
  have q2 := sw_ne h2 (by decide : (2 : Int32).toInt = 2)
  omega
theorem e_isFullX (G : GT) (S : Nat → Nat → Int32) (L : Nat → Int64) (q : Nat) (hq : isBrk q) (p : Int32) (hp0 : ¬ p < 0) (hp : tn p < 16) : sE G yX0_isFull R_X0_isFull cX0_isFull 2 (some .boolean) [.ref (gB G + q), .int p] S L (some (.int (if 3 ≤ S (q + 1) (6 * tn p) then 1 else 0))) S L := by
  have h := e_X0_isFull G S L q hq (tn p) hp
  rw [← nI_self hp0] at h
  exact h
theorem e_addX (G : GT) (S : Nat → Nat → Int32) (L : Nat → Int64) (q : Nat) (hq : isBrk q) (p : Int32) (hp0 : ¬ p < 0) (hp : tn p < 16) (r how f by_ : Int32) : sE G yX0_add R_X0_add cX0_add 7 none [.ref (gB G + q), .int p, .int r, .int how, .int f, .int by_] S L none (addS S q (tn p) r how f by_) L := by
  have h := e_X0_add G S L q hq (tn p) hp r how f by_
  rw [← nI_self hp0] at h
  exact h
theorem e_removeX (G : GT) (S : Nat → Nat → Int32) (L : Nat → Int64) (q : Nat) (hq : isBrk q) (p : Int32) (hp0 : ¬ p < 0) (hp : tn p < 16) : sE G yX0_remove R_X0_remove cX0_remove 2 none [.ref (gB G + q), .int p] S L none (remS S q (tn p)) L := by
  have h := e_X0_remove G S L q hq (tn p) hp
  rw [← nI_self hp0] at h
  exact h
theorem e_prop0X (G : GT) (S : Nat → Nat → Int32) (L : Nat → Int64) (q : Nat) (hq : isBrk q) (p : Int32) (hp0 : ¬ p < 0) (hp : tn p < 16) : sE G yX0_property R_X0_property cX0_property 3 (some .int) [.ref (gB G + q), .int p, .int 0] S L (some (.int (S (q + 1) (6 * tn p)))) S L := by
  have h := e_X0_prop0 G S L q hq (tn p) hp
  rw [← nI_self hp0] at h
  exact h
abbrev fitC (r how f : Int32) : Prop := r = -9 ∨ ((¬ r < 0 ∧ ¬ 4 ≤ r) ∧ ¬ how < 0 ∧ ¬ 2 < how ∧ ¬ f < 0 ∧ ¬ 9 < f)
def xsmash (S : Nat → Nat → Int32) (p r how f by_ : Int32) : Int32 × (Nat → Nat → Int32) := if hasX S p then (if fitC r how f ∧ ¬ by_ < 0 ∧ by_ ≤ 9 then (if 3 ≤ S 19 (6 * tn p) then (-4, S) else (S 19 (6 * tn p) + 1, addS (ntS S) 18 (tn p) r how f by_)) else (-2, S)) else (-1, S)
theorem addS_0 (S : Nat → Nat → Int32) (q p : Nat) (r how f by_ : Int32) : addS S q p r how f by_ (q + 1) (6 * p) = S (q + 1) (6 * p) + 1 := by simp [addS, up2_at]
def xlift (S : Nat → Nat → Int32) (p : Int32) : Int32 × (Nat → Nat → Int32) := if hasX S p then (if armP S 18 p then (remS (ntS S) 18 (tn p) 19 (6 * tn p), remS (ntS S) 18 (tn p)) else (-3, S)) else (-1, S)
def wtS (S : Nat → Nat → Int32) (m : Int32) : Nat → Nat → Int32 := up2 (ntS S) 13 4 (ntS S 13 4 ^^^ ((1 : Int32) <<< (m &&& 31)))
def xwatch (S : Nat → Nat → Int32) (m : Int32) : Int32 × (Nat → Nat → Int32) := if (¬ m < 0 ∧ ¬ 8 ≤ m) then (if isWP (wtS S m) 13 m then 1 else 0, wtS S m) else (-1, S)
def xundo (S : Nat → Nat → Int32) : Int32 × (Nat → Nat → Int32) := if S 29 2 = 0 then (-3, S) else (tbS S (tn (S 29 1)) (tn (S 29 2)) 29 2, tbS S (tn (S 29 1)) (tn (S 29 2)))
set_option maxRecDepth 100000 in
set_option maxHeartbeats 4000000 in
theorem e_X9_smash (G : GT) (S : Nat → Nat → Int32) (L : Nat → Int64) (hW : WX S) (p r how f by_ : Int32) : sE G yX9_smash R_X9_smash cX9_smash 7 (some .int) [.ref (gB G + 0), .int p, .int r, .int how, .int f, .int by_] S L (some (.int (xsmash S p r how f by_).1)) (xsmash S p r how f by_).2 L := by
  refine sE.of (by decide) (Nat.le_of_ble_eq_true rfl) ?_
  show sv_V G R_X9_smash RX9 "smash" cX9_smash 7 (some .int) (sPo G R_X9_smash (some (.int (xsmash S p r how f by_).1)) (xsmash S p r how f by_).2 L) 0 0 197 (CF G S L) 0 [(0, .ref (gB G + 0)), (1, .int p), (2, .int r), (3, .int how), (4, .int f), (5, .int by_)] []
  refine sv_aload_n 0 dX9_smash_0 rfl ?_
  refine sg_9_1 sh_0 fl_RX9_19 dX9_smash_1 ?_
  refine sv_iload_n 1 dX9_smash_4 rfl ?_
  refine cVi1 (e_X4_has G _ _ _ isProg_3 _) ⟨rfl, rfl⟩ (sv_w5 ml_RX9_165 im_X4_has sl_X4_has in_RX4 cd_X4_has) nm_X4_has ⟨Nat.le_of_ble_eq_true rfl, Nat.le_of_ble_eq_true rfl⟩ rfl (CF_4 isProg_3.1) (shp_lt isProg_3.1 (by simp)) (Nat.le_of_ble_eq_true rfl) ⟨Nat.le_of_ble_eq_true rfl, Nat.le_of_ble_eq_true rfl⟩ dX9_smash_5 ?_
  refine sv_ifne_b (tgt := 13) dX9_smash_8 (by decide) (fun c8 => ?_) (fun c8 => ?_)
  · -- jump
    refine sv_iload_n 2 dX9_smash_13 rfl ?_
    refine sv_bipush (v := (-9)) dX9_smash_14 (by decide) ?_
    refine sv_icmp_eq (tgt := 47) dX9_smash_16 (by decide) (fun c16 => ?_) (fun c16 => ?_)
    · -- jump
      refine sv_iconst (v := 1) dX9_smash_47 (by decide) ?_
      refine sv_goto (tgt := 52) dX9_smash_48 (by decide) ?_
      refine sv_istore (ls' := [(6, _), (0, _), (1, _), (2, _), (3, _), (4, _), (5, _)]) dX9_smash_52 (by decide) rfl ?_
      refine sv_iload 0 dX9_smash_54 rfl ?_
      refine sv_if_eq (tgt := 71) dX9_smash_56 (by decide) (fun z => absurd z (by decide)) (fun _ => ?_)
      refine sv_iload 6 dX9_smash_59 rfl ?_
      refine sv_if_lt (tgt := 71) dX9_smash_61 (by decide) (fun c61 => ?_) (fun c61 => ?_)
      · -- jump
        refine sv_bipush (v := (-2)) dX9_smash_71 (by decide) ?_
        exact se_iret rfl ⟨rfl, rfl⟩ dX9_smash_73 (by rw [xsmash, if_pos c8, if_neg (fun h => h.2.1 c61)]) (by rw [xsmash, if_pos c8, if_neg (fun h => h.2.1 c61)])
      · -- fall
        refine sv_iload 6 dX9_smash_64 rfl ?_
        refine sv_bipush (v := 9) dX9_smash_66 (by decide) ?_
        refine sv_icmp_le (tgt := 74) dX9_smash_68 (by decide) (fun c68 => ?_) (fun c68 => ?_)
        · -- jump
          refine sv_aload_n 1 dX9_smash_74 rfl ?_
          refine sg_9_3 sh_0 fl_RX9_29 dX9_smash_75 ?_
          refine sg_6_1 isState_13.1 fl_RX9_118 dX9_smash_78 ?_
          refine sv_iload_n 2 dX9_smash_81 rfl ?_
          refine cVi1 (e_isFullX G _ _ _ isBrk_18 _ c8.1 (has16 hW c8)) ⟨rfl, rfl⟩ (sv_w5 ml_RX9_194 im_X0_isFull sl_X0_isFull in_RX0 cd_X0_isFull) nm_X0_isFull ⟨Nat.le_of_ble_eq_true rfl, Nat.le_of_ble_eq_true rfl⟩ rfl (CF_0 isState_13.2.2.1.1) (shp_lt isState_13.2.2.1.1 (by simp)) (Nat.le_of_ble_eq_true rfl) ⟨Nat.le_of_ble_eq_true rfl, Nat.le_of_ble_eq_true rfl⟩ dX9_smash_82 ?_
          refine sv_ifeq_b (tgt := 91) dX9_smash_85 (by decide) (fun c85 => ?_) (fun c85 => ?_)
          · -- jump
            refine sv_aload_n 1 dX9_smash_91 rfl ?_
            refine sg_9_5 sh_0 fl_RX9_39 dX9_smash_92 ?_
            refine sv_aload_n 1 dX9_smash_95 rfl ?_
            refine sg_9_3 sh_0 fl_RX9_29 dX9_smash_96 ?_
            refine cVv1 (e_rem G _ _ hW) ⟨rfl, rfl⟩ (sv_w5 ml_RX9_178 im_X2_remember sl_X2_remember in_RX2 cd_X2_remember) nm_X2_remember ⟨Nat.le_of_ble_eq_true rfl, Nat.le_of_ble_eq_true rfl⟩ rfl (CF_2 sh_29) (shp_lt sh_29 (by simp)) (Nat.le_of_ble_eq_true rfl) ⟨Nat.le_of_ble_eq_true rfl, Nat.le_of_ble_eq_true rfl⟩ dX9_smash_99 ?_
            refine sv_aload_n 1 dX9_smash_102 rfl ?_
            refine sg_9_3 sh_0 fl_RX9_29 dX9_smash_103 ?_
            refine sg_6_1 isState_13.1 fl_RX9_118 dX9_smash_106 ?_
            refine sv_iload_n 2 dX9_smash_109 rfl ?_
            refine sv_iload_n 3 dX9_smash_110 rfl ?_
            refine sv_iload_n 4 dX9_smash_111 rfl ?_
            refine sv_iload 5 dX9_smash_112 rfl ?_
            refine sv_iload 6 dX9_smash_114 rfl ?_
            refine cVv5 (e_addX G _ _ _ isBrk_18 _ c8.1 (has16 hW c8) _ _ _ _) ⟨rfl, rfl⟩ (sv_w5 ml_RX9_197 im_X0_add sl_X0_add in_RX0 cd_X0_add) nm_X0_add ⟨Nat.le_of_ble_eq_true rfl, Nat.le_of_ble_eq_true rfl⟩ rfl (CF_0 isState_13.2.2.1.1) (shp_lt isState_13.2.2.1.1 (by simp)) (Nat.le_of_ble_eq_true rfl) ⟨Nat.le_of_ble_eq_true rfl, Nat.le_of_ble_eq_true rfl⟩ dX9_smash_116 ?_
            refine sv_aload_n 1 dX9_smash_119 rfl ?_
            refine sg_9_3 sh_0 fl_RX9_29 dX9_smash_120 ?_
            refine sg_6_1 isState_13.1 fl_RX9_118 dX9_smash_123 ?_
            refine sv_iload_n 2 dX9_smash_126 rfl ?_
            refine sv_iconst (v := 0) dX9_smash_127 (by decide) ?_
            refine cVi2 (e_prop0X G _ _ _ isBrk_18 _ c8.1 (has16 hW c8)) ⟨rfl, rfl⟩ (sv_w5 ml_RX9_168 im_X0_property sl_X0_property in_RX0 cd_X0_property) nm_X0_property ⟨Nat.le_of_ble_eq_true rfl, Nat.le_of_ble_eq_true rfl⟩ rfl (CF_0 isState_13.2.2.1.1) (shp_lt isState_13.2.2.1.1 (by simp)) (Nat.le_of_ble_eq_true rfl) ⟨Nat.le_of_ble_eq_true rfl, Nat.le_of_ble_eq_true rfl⟩ dX9_smash_128 ?_
            exact se_iret rfl ⟨rfl, rfl⟩ dX9_smash_131 (by rw [xsmash, if_pos c8, if_pos ⟨(Or.inl c16), c61, c68⟩, if_neg c85, addS_0, ntS_row hW (by omega)]) (by rw [xsmash, if_pos c8, if_pos ⟨(Or.inl c16), c61, c68⟩, if_neg c85])
          · -- fall
            refine sv_bipush (v := (-4)) dX9_smash_88 (by decide) ?_
            exact se_iret rfl ⟨rfl, rfl⟩ dX9_smash_90 (by rw [xsmash, if_pos c8, if_pos ⟨(Or.inl c16), c61, c68⟩, if_pos c85]) (by rw [xsmash, if_pos c8, if_pos ⟨(Or.inl c16), c61, c68⟩, if_pos c85])
        · -- fall
          refine sv_bipush (v := (-2)) dX9_smash_71 (by decide) ?_
          exact se_iret rfl ⟨rfl, rfl⟩ dX9_smash_73 (by rw [xsmash, if_pos c8, if_neg (fun h => c68 h.2.2)]) (by rw [xsmash, if_pos c8, if_neg (fun h => c68 h.2.2)])
    · -- fall
      refine sv_iload_n 2 dX9_smash_19 rfl ?_
      refine cSi1 (e_X9_isRegister G _ _ _) ⟨rfl, rfl⟩ (sv_w4 ml_RX9_149 st_X9_isRegister in_RX9 cd_X9_isRegister) nm_X9_isRegister ⟨Nat.le_of_ble_eq_true rfl, Nat.le_of_ble_eq_true rfl⟩ (Nat.le_of_ble_eq_true rfl) ⟨Nat.le_of_ble_eq_true rfl, Nat.le_of_ble_eq_true rfl⟩ dX9_smash_20 ?_
      refine sv_ifeq_b (tgt := 51) dX9_smash_23 (by decide) (fun c23 => ?_) (fun c23 => ?_)
      · -- jump
        refine sv_iconst (v := 0) dX9_smash_51 (by decide) ?_
        refine sv_istore (ls' := [(6, _), (0, _), (1, _), (2, _), (3, _), (4, _), (5, _)]) dX9_smash_52 (by decide) rfl ?_
        refine sv_iload 0 dX9_smash_54 rfl ?_
        refine sv_if_eq (tgt := 71) dX9_smash_56 (by decide) (fun _ => ?_) (fun z => absurd z (by decide))
        refine sv_bipush (v := (-2)) dX9_smash_71 (by decide) ?_
        exact se_iret rfl ⟨rfl, rfl⟩ dX9_smash_73 (by rw [xsmash, if_pos c8, if_neg (fun h => h.1.elim c16 (fun h => c23 h.1))]) (by rw [xsmash, if_pos c8, if_neg (fun h => h.1.elim c16 (fun h => c23 h.1))])
      · -- fall
        refine sv_iload_n 3 dX9_smash_26 rfl ?_
        refine sv_if_lt (tgt := 51) dX9_smash_27 (by decide) (fun c27 => ?_) (fun c27 => ?_)
        · -- jump
          refine sv_iconst (v := 0) dX9_smash_51 (by decide) ?_
          refine sv_istore (ls' := [(6, _), (0, _), (1, _), (2, _), (3, _), (4, _), (5, _)]) dX9_smash_52 (by decide) rfl ?_
          refine sv_iload 0 dX9_smash_54 rfl ?_
          refine sv_if_eq (tgt := 71) dX9_smash_56 (by decide) (fun _ => ?_) (fun z => absurd z (by decide))
          refine sv_bipush (v := (-2)) dX9_smash_71 (by decide) ?_
          exact se_iret rfl ⟨rfl, rfl⟩ dX9_smash_73 (by rw [xsmash, if_pos c8, if_neg (fun h => h.1.elim c16 (fun h => h.2.1 c27))]) (by rw [xsmash, if_pos c8, if_neg (fun h => h.1.elim c16 (fun h => h.2.1 c27))])
        · -- fall
          refine sv_iload_n 3 dX9_smash_30 rfl ?_
          refine sv_iconst (v := 2) dX9_smash_31 (by decide) ?_
          refine sv_icmp_gt (tgt := 51) dX9_smash_32 (by decide) (fun c32 => ?_) (fun c32 => ?_)
          · -- jump
            refine sv_iconst (v := 0) dX9_smash_51 (by decide) ?_
            refine sv_istore (ls' := [(6, _), (0, _), (1, _), (2, _), (3, _), (4, _), (5, _)]) dX9_smash_52 (by decide) rfl ?_
            refine sv_iload 0 dX9_smash_54 rfl ?_
            refine sv_if_eq (tgt := 71) dX9_smash_56 (by decide) (fun _ => ?_) (fun z => absurd z (by decide))
            refine sv_bipush (v := (-2)) dX9_smash_71 (by decide) ?_
            exact se_iret rfl ⟨rfl, rfl⟩ dX9_smash_73 (by rw [xsmash, if_pos c8, if_neg (fun h => h.1.elim c16 (fun h => h.2.2.1 c32))]) (by rw [xsmash, if_pos c8, if_neg (fun h => h.1.elim c16 (fun h => h.2.2.1 c32))])
          · -- fall
            refine sv_iload 4 dX9_smash_35 rfl ?_
            refine sv_if_lt (tgt := 51) dX9_smash_37 (by decide) (fun c37 => ?_) (fun c37 => ?_)
            · -- jump
              refine sv_iconst (v := 0) dX9_smash_51 (by decide) ?_
              refine sv_istore (ls' := [(6, _), (0, _), (1, _), (2, _), (3, _), (4, _), (5, _)]) dX9_smash_52 (by decide) rfl ?_
              refine sv_iload 0 dX9_smash_54 rfl ?_
              refine sv_if_eq (tgt := 71) dX9_smash_56 (by decide) (fun _ => ?_) (fun z => absurd z (by decide))
              refine sv_bipush (v := (-2)) dX9_smash_71 (by decide) ?_
              exact se_iret rfl ⟨rfl, rfl⟩ dX9_smash_73 (by rw [xsmash, if_pos c8, if_neg (fun h => h.1.elim c16 (fun h => h.2.2.2.1 c37))]) (by rw [xsmash, if_pos c8, if_neg (fun h => h.1.elim c16 (fun h => h.2.2.2.1 c37))])
            · -- fall
              refine sv_iload 4 dX9_smash_40 rfl ?_
              refine sv_bipush (v := 9) dX9_smash_42 (by decide) ?_
              refine sv_icmp_gt (tgt := 51) dX9_smash_44 (by decide) (fun c44 => ?_) (fun c44 => ?_)
              · -- jump
                refine sv_iconst (v := 0) dX9_smash_51 (by decide) ?_
                refine sv_istore (ls' := [(6, _), (0, _), (1, _), (2, _), (3, _), (4, _), (5, _)]) dX9_smash_52 (by decide) rfl ?_
                refine sv_iload 0 dX9_smash_54 rfl ?_
                refine sv_if_eq (tgt := 71) dX9_smash_56 (by decide) (fun _ => ?_) (fun z => absurd z (by decide))
                refine sv_bipush (v := (-2)) dX9_smash_71 (by decide) ?_
                exact se_iret rfl ⟨rfl, rfl⟩ dX9_smash_73 (by rw [xsmash, if_pos c8, if_neg (fun h => h.1.elim c16 (fun h => h.2.2.2.2 c44))]) (by rw [xsmash, if_pos c8, if_neg (fun h => h.1.elim c16 (fun h => h.2.2.2.2 c44))])
              · -- fall
                refine sv_iconst (v := 1) dX9_smash_47 (by decide) ?_
                refine sv_goto (tgt := 52) dX9_smash_48 (by decide) ?_
                refine sv_istore (ls' := [(6, _), (0, _), (1, _), (2, _), (3, _), (4, _), (5, _)]) dX9_smash_52 (by decide) rfl ?_
                refine sv_iload 0 dX9_smash_54 rfl ?_
                refine sv_if_eq (tgt := 71) dX9_smash_56 (by decide) (fun z => absurd z (by decide)) (fun _ => ?_)
                refine sv_iload 6 dX9_smash_59 rfl ?_
                refine sv_if_lt (tgt := 71) dX9_smash_61 (by decide) (fun c61 => ?_) (fun c61 => ?_)
                · -- jump
                  refine sv_bipush (v := (-2)) dX9_smash_71 (by decide) ?_
                  exact se_iret rfl ⟨rfl, rfl⟩ dX9_smash_73 (by rw [xsmash, if_pos c8, if_neg (fun h => h.2.1 c61)]) (by rw [xsmash, if_pos c8, if_neg (fun h => h.2.1 c61)])
                · -- fall
                  refine sv_iload 6 dX9_smash_64 rfl ?_
                  refine sv_bipush (v := 9) dX9_smash_66 (by decide) ?_
                  refine sv_icmp_le (tgt := 74) dX9_smash_68 (by decide) (fun c68 => ?_) (fun c68 => ?_)
                  · -- jump
                    refine sv_aload_n 1 dX9_smash_74 rfl ?_
                    refine sg_9_3 sh_0 fl_RX9_29 dX9_smash_75 ?_
                    refine sg_6_1 isState_13.1 fl_RX9_118 dX9_smash_78 ?_
                    refine sv_iload_n 2 dX9_smash_81 rfl ?_
                    refine cVi1 (e_isFullX G _ _ _ isBrk_18 _ c8.1 (has16 hW c8)) ⟨rfl, rfl⟩ (sv_w5 ml_RX9_194 im_X0_isFull sl_X0_isFull in_RX0 cd_X0_isFull) nm_X0_isFull ⟨Nat.le_of_ble_eq_true rfl, Nat.le_of_ble_eq_true rfl⟩ rfl (CF_0 isState_13.2.2.1.1) (shp_lt isState_13.2.2.1.1 (by simp)) (Nat.le_of_ble_eq_true rfl) ⟨Nat.le_of_ble_eq_true rfl, Nat.le_of_ble_eq_true rfl⟩ dX9_smash_82 ?_
                    refine sv_ifeq_b (tgt := 91) dX9_smash_85 (by decide) (fun c85 => ?_) (fun c85 => ?_)
                    · -- jump
                      refine sv_aload_n 1 dX9_smash_91 rfl ?_
                      refine sg_9_5 sh_0 fl_RX9_39 dX9_smash_92 ?_
                      refine sv_aload_n 1 dX9_smash_95 rfl ?_
                      refine sg_9_3 sh_0 fl_RX9_29 dX9_smash_96 ?_
                      refine cVv1 (e_rem G _ _ hW) ⟨rfl, rfl⟩ (sv_w5 ml_RX9_178 im_X2_remember sl_X2_remember in_RX2 cd_X2_remember) nm_X2_remember ⟨Nat.le_of_ble_eq_true rfl, Nat.le_of_ble_eq_true rfl⟩ rfl (CF_2 sh_29) (shp_lt sh_29 (by simp)) (Nat.le_of_ble_eq_true rfl) ⟨Nat.le_of_ble_eq_true rfl, Nat.le_of_ble_eq_true rfl⟩ dX9_smash_99 ?_
                      refine sv_aload_n 1 dX9_smash_102 rfl ?_
                      refine sg_9_3 sh_0 fl_RX9_29 dX9_smash_103 ?_
                      refine sg_6_1 isState_13.1 fl_RX9_118 dX9_smash_106 ?_
                      refine sv_iload_n 2 dX9_smash_109 rfl ?_
                      refine sv_iload_n 3 dX9_smash_110 rfl ?_
                      refine sv_iload_n 4 dX9_smash_111 rfl ?_
                      refine sv_iload 5 dX9_smash_112 rfl ?_
                      refine sv_iload 6 dX9_smash_114 rfl ?_
                      refine cVv5 (e_addX G _ _ _ isBrk_18 _ c8.1 (has16 hW c8) _ _ _ _) ⟨rfl, rfl⟩ (sv_w5 ml_RX9_197 im_X0_add sl_X0_add in_RX0 cd_X0_add) nm_X0_add ⟨Nat.le_of_ble_eq_true rfl, Nat.le_of_ble_eq_true rfl⟩ rfl (CF_0 isState_13.2.2.1.1) (shp_lt isState_13.2.2.1.1 (by simp)) (Nat.le_of_ble_eq_true rfl) ⟨Nat.le_of_ble_eq_true rfl, Nat.le_of_ble_eq_true rfl⟩ dX9_smash_116 ?_
                      refine sv_aload_n 1 dX9_smash_119 rfl ?_
                      refine sg_9_3 sh_0 fl_RX9_29 dX9_smash_120 ?_
                      refine sg_6_1 isState_13.1 fl_RX9_118 dX9_smash_123 ?_
                      refine sv_iload_n 2 dX9_smash_126 rfl ?_
                      refine sv_iconst (v := 0) dX9_smash_127 (by decide) ?_
                      refine cVi2 (e_prop0X G _ _ _ isBrk_18 _ c8.1 (has16 hW c8)) ⟨rfl, rfl⟩ (sv_w5 ml_RX9_168 im_X0_property sl_X0_property in_RX0 cd_X0_property) nm_X0_property ⟨Nat.le_of_ble_eq_true rfl, Nat.le_of_ble_eq_true rfl⟩ rfl (CF_0 isState_13.2.2.1.1) (shp_lt isState_13.2.2.1.1 (by simp)) (Nat.le_of_ble_eq_true rfl) ⟨Nat.le_of_ble_eq_true rfl, Nat.le_of_ble_eq_true rfl⟩ dX9_smash_128 ?_
                      exact se_iret rfl ⟨rfl, rfl⟩ dX9_smash_131 (by rw [xsmash, if_pos c8, if_pos ⟨(Or.inr ⟨c23, c27, c32, c37, c44⟩), c61, c68⟩, if_neg c85, addS_0, ntS_row hW (by omega)]) (by rw [xsmash, if_pos c8, if_pos ⟨(Or.inr ⟨c23, c27, c32, c37, c44⟩), c61, c68⟩, if_neg c85])
                    · -- fall
                      refine sv_bipush (v := (-4)) dX9_smash_88 (by decide) ?_
                      exact se_iret rfl ⟨rfl, rfl⟩ dX9_smash_90 (by rw [xsmash, if_pos c8, if_pos ⟨(Or.inr ⟨c23, c27, c32, c37, c44⟩), c61, c68⟩, if_pos c85]) (by rw [xsmash, if_pos c8, if_pos ⟨(Or.inr ⟨c23, c27, c32, c37, c44⟩), c61, c68⟩, if_pos c85])
                  · -- fall
                    refine sv_bipush (v := (-2)) dX9_smash_71 (by decide) ?_
                    exact se_iret rfl ⟨rfl, rfl⟩ dX9_smash_73 (by rw [xsmash, if_pos c8, if_neg (fun h => c68 h.2.2)]) (by rw [xsmash, if_pos c8, if_neg (fun h => c68 h.2.2)])
  · -- fall
    refine sv_iconst (v := (-1)) dX9_smash_11 (by decide) ?_
    exact se_iret rfl ⟨rfl, rfl⟩ dX9_smash_12 (by rw [xsmash, if_neg c8]) (by rw [xsmash, if_neg c8])
set_option maxRecDepth 100000 in
set_option maxHeartbeats 4000000 in
theorem e_X9_lift (G : GT) (S : Nat → Nat → Int32) (L : Nat → Int64) (hW : WX S) (p : Int32) : sE G yX9_lift R_X9_lift cX9_lift 2 (some .int) [.ref (gB G + 0), .int p] S L (some (.int (xlift S p).1)) (xlift S p).2 L := by
  refine sE.of (by decide) (Nat.le_of_ble_eq_true rfl) ?_
  show sv_V G R_X9_lift RX9 "lift" cX9_lift 2 (some .int) (sPo G R_X9_lift (some (.int (xlift S p).1)) (xlift S p).2 L) 0 0 197 (CF G S L) 0 [(0, .ref (gB G + 0)), (1, .int p)] []
  refine sv_aload_n 0 dX9_lift_0 rfl ?_
  refine sg_9_1 sh_0 fl_RX9_19 dX9_lift_1 ?_
  refine sv_iload_n 1 dX9_lift_4 rfl ?_
  refine cVi1 (e_X4_has G _ _ _ isProg_3 _) ⟨rfl, rfl⟩ (sv_w5 ml_RX9_165 im_X4_has sl_X4_has in_RX4 cd_X4_has) nm_X4_has ⟨Nat.le_of_ble_eq_true rfl, Nat.le_of_ble_eq_true rfl⟩ rfl (CF_4 isProg_3.1) (shp_lt isProg_3.1 (by simp)) (Nat.le_of_ble_eq_true rfl) ⟨Nat.le_of_ble_eq_true rfl, Nat.le_of_ble_eq_true rfl⟩ dX9_lift_5 ?_
  refine sv_ifne_b (tgt := 13) dX9_lift_8 (by decide) (fun c8 => ?_) (fun c8 => ?_)
  · -- jump
    refine sv_aload_n 0 dX9_lift_13 rfl ?_
    refine sg_9_3 sh_0 fl_RX9_29 dX9_lift_14 ?_
    refine sg_6_1 isState_13.1 fl_RX9_118 dX9_lift_17 ?_
    refine sv_iload_n 1 dX9_lift_20 rfl ?_
    refine cVi1 (e_X0_isArmed G _ _ _ isState_13.2.2.1 _) ⟨rfl, rfl⟩ (sv_w5 ml_RX9_201 im_X0_isArmed sl_X0_isArmed in_RX0 cd_X0_isArmed) nm_X0_isArmed ⟨Nat.le_of_ble_eq_true rfl, Nat.le_of_ble_eq_true rfl⟩ rfl (CF_0 isState_13.2.2.1.1) (shp_lt isState_13.2.2.1.1 (by simp)) (Nat.le_of_ble_eq_true rfl) ⟨Nat.le_of_ble_eq_true rfl, Nat.le_of_ble_eq_true rfl⟩ dX9_lift_21 ?_
    refine sv_ifne_b (tgt := 30) dX9_lift_24 (by decide) (fun c24 => ?_) (fun c24 => ?_)
    · -- jump
      refine sv_aload_n 0 dX9_lift_30 rfl ?_
      refine sg_9_5 sh_0 fl_RX9_39 dX9_lift_31 ?_
      refine sv_aload_n 0 dX9_lift_34 rfl ?_
      refine sg_9_3 sh_0 fl_RX9_29 dX9_lift_35 ?_
      refine cVv1 (e_rem G _ _ hW) ⟨rfl, rfl⟩ (sv_w5 ml_RX9_178 im_X2_remember sl_X2_remember in_RX2 cd_X2_remember) nm_X2_remember ⟨Nat.le_of_ble_eq_true rfl, Nat.le_of_ble_eq_true rfl⟩ rfl (CF_2 sh_29) (shp_lt sh_29 (by simp)) (Nat.le_of_ble_eq_true rfl) ⟨Nat.le_of_ble_eq_true rfl, Nat.le_of_ble_eq_true rfl⟩ dX9_lift_38 ?_
      refine sv_aload_n 0 dX9_lift_41 rfl ?_
      refine sg_9_3 sh_0 fl_RX9_29 dX9_lift_42 ?_
      refine sg_6_1 isState_13.1 fl_RX9_118 dX9_lift_45 ?_
      refine sv_iload_n 1 dX9_lift_48 rfl ?_
      refine cVv1 (e_removeX G _ _ _ isBrk_18 _ c8.1 (has16 hW c8)) ⟨rfl, rfl⟩ (sv_w5 ml_RX9_204 im_X0_remove sl_X0_remove in_RX0 cd_X0_remove) nm_X0_remove ⟨Nat.le_of_ble_eq_true rfl, Nat.le_of_ble_eq_true rfl⟩ rfl (CF_0 isState_13.2.2.1.1) (shp_lt isState_13.2.2.1.1 (by simp)) (Nat.le_of_ble_eq_true rfl) ⟨Nat.le_of_ble_eq_true rfl, Nat.le_of_ble_eq_true rfl⟩ dX9_lift_49 ?_
      refine sv_aload_n 0 dX9_lift_52 rfl ?_
      refine sg_9_3 sh_0 fl_RX9_29 dX9_lift_53 ?_
      refine sg_6_1 isState_13.1 fl_RX9_118 dX9_lift_56 ?_
      refine sv_iload_n 1 dX9_lift_59 rfl ?_
      refine sv_iconst (v := 0) dX9_lift_60 (by decide) ?_
      refine cVi2 (e_prop0X G _ _ _ isBrk_18 _ c8.1 (has16 hW c8)) ⟨rfl, rfl⟩ (sv_w5 ml_RX9_168 im_X0_property sl_X0_property in_RX0 cd_X0_property) nm_X0_property ⟨Nat.le_of_ble_eq_true rfl, Nat.le_of_ble_eq_true rfl⟩ rfl (CF_0 isState_13.2.2.1.1) (shp_lt isState_13.2.2.1.1 (by simp)) (Nat.le_of_ble_eq_true rfl) ⟨Nat.le_of_ble_eq_true rfl, Nat.le_of_ble_eq_true rfl⟩ dX9_lift_61 ?_
      exact se_iret rfl ⟨rfl, rfl⟩ dX9_lift_64 (by rw [xlift, if_pos c8, if_pos c24]) (by rw [xlift, if_pos c8, if_pos c24])
    · -- fall
      refine sv_bipush (v := (-3)) dX9_lift_27 (by decide) ?_
      exact se_iret rfl ⟨rfl, rfl⟩ dX9_lift_29 (by rw [xlift, if_pos c8, if_neg c24]) (by rw [xlift, if_pos c8, if_neg c24])
  · -- fall
    refine sv_iconst (v := (-1)) dX9_lift_11 (by decide) ?_
    exact se_iret rfl ⟨rfl, rfl⟩ dX9_lift_12 (by rw [xlift, if_neg c8]) (by rw [xlift, if_neg c8])
set_option maxRecDepth 100000 in
set_option maxHeartbeats 4000000 in
theorem e_X9_watch (G : GT) (S : Nat → Nat → Int32) (L : Nat → Int64) (hW : WX S) (m : Int32) : sE G yX9_watch R_X9_watch cX9_watch 2 (some .int) [.ref (gB G + 0), .int m] S L (some (.int (xwatch S m).1)) (xwatch S m).2 L := by
  refine sE.of (by decide) (Nat.le_of_ble_eq_true rfl) ?_
  show sv_V G R_X9_watch RX9 "watch" cX9_watch 2 (some .int) (sPo G R_X9_watch (some (.int (xwatch S m).1)) (xwatch S m).2 L) 0 0 197 (CF G S L) 0 [(0, .ref (gB G + 0)), (1, .int m)] []
  refine sv_iload_n 1 dX9_watch_0 rfl ?_
  refine cSi1 (e_X9_isCell G _ _ _) ⟨rfl, rfl⟩ (sv_w4 ml_RX9_156 st_X9_isCell in_RX9 cd_X9_isCell) nm_X9_isCell ⟨Nat.le_of_ble_eq_true rfl, Nat.le_of_ble_eq_true rfl⟩ (Nat.le_of_ble_eq_true rfl) ⟨Nat.le_of_ble_eq_true rfl, Nat.le_of_ble_eq_true rfl⟩ dX9_watch_1 ?_
  refine sv_ifne_b (tgt := 9) dX9_watch_4 (by decide) (fun c4 => ?_) (fun c4 => ?_)
  · -- jump
    refine sv_aload_n 0 dX9_watch_9 rfl ?_
    refine sg_9_5 sh_0 fl_RX9_39 dX9_watch_10 ?_
    refine sv_aload_n 0 dX9_watch_13 rfl ?_
    refine sg_9_3 sh_0 fl_RX9_29 dX9_watch_14 ?_
    refine cVv1 (e_rem G _ _ hW) ⟨rfl, rfl⟩ (sv_w5 ml_RX9_178 im_X2_remember sl_X2_remember in_RX2 cd_X2_remember) nm_X2_remember ⟨Nat.le_of_ble_eq_true rfl, Nat.le_of_ble_eq_true rfl⟩ rfl (CF_2 sh_29) (shp_lt sh_29 (by simp)) (Nat.le_of_ble_eq_true rfl) ⟨Nat.le_of_ble_eq_true rfl, Nat.le_of_ble_eq_true rfl⟩ dX9_watch_17 ?_
    refine sv_aload_n 0 dX9_watch_20 rfl ?_
    refine sg_9_3 sh_0 fl_RX9_29 dX9_watch_21 ?_
    refine sv_iload_n 1 dX9_watch_24 rfl ?_
    refine cVi1 (e_X6_turnWatch G _ _ _ isState_13 _) ⟨rfl, rfl⟩ (sv_w5 ml_RX9_208 im_X6_turnWatch sl_X6_turnWatch in_RX6 cd_X6_turnWatch) nm_X6_turnWatch ⟨Nat.le_of_ble_eq_true rfl, Nat.le_of_ble_eq_true rfl⟩ rfl (CF_6 isState_13.1) (shp_lt isState_13.1 (by simp)) (Nat.le_of_ble_eq_true rfl) ⟨Nat.le_of_ble_eq_true rfl, Nat.le_of_ble_eq_true rfl⟩ dX9_watch_25 ?_
    refine sv_pop dX9_watch_28 rfl ?_
    refine sv_aload_n 0 dX9_watch_29 rfl ?_
    refine sg_9_3 sh_0 fl_RX9_29 dX9_watch_30 ?_
    refine sv_iload_n 1 dX9_watch_33 rfl ?_
    refine cVi1 (e_X6_isWatched G _ _ _ isState_13 _) ⟨rfl, rfl⟩ (sv_w5 ml_RX9_211 im_X6_isWatched sl_X6_isWatched in_RX6 cd_X6_isWatched) nm_X6_isWatched ⟨Nat.le_of_ble_eq_true rfl, Nat.le_of_ble_eq_true rfl⟩ rfl (CF_6 isState_13.1) (shp_lt isState_13.1 (by simp)) (Nat.le_of_ble_eq_true rfl) ⟨Nat.le_of_ble_eq_true rfl, Nat.le_of_ble_eq_true rfl⟩ dX9_watch_34 ?_
    refine sv_ifeq_b (tgt := 44) dX9_watch_37 (by decide) (fun c37 => ?_) (fun c37 => ?_)
    · -- jump
      refine sv_iconst (v := 0) dX9_watch_44 (by decide) ?_
      exact se_iret rfl ⟨rfl, rfl⟩ dX9_watch_45 (by rw [xwatch, if_pos c4, if_neg (show ¬ isWP (wtS S m) 13 m from c37)]) (by rw [xwatch, if_pos c4]; rfl)
    · -- fall
      refine sv_iconst (v := 1) dX9_watch_40 (by decide) ?_
      refine sv_goto (tgt := 45) dX9_watch_41 (by decide) ?_
      exact se_iret rfl ⟨rfl, rfl⟩ dX9_watch_45 (by rw [xwatch, if_pos c4, if_pos (show isWP (wtS S m) 13 m from c37)]) (by rw [xwatch, if_pos c4]; rfl)
  · -- fall
    refine sv_iconst (v := (-1)) dX9_watch_7 (by decide) ?_
    exact se_iret rfl ⟨rfl, rfl⟩ dX9_watch_8 (by rw [xwatch, if_neg c4]) (by rw [xwatch, if_neg c4])
theorem h_pos {x : Int32} (h0 : ¬ x < 0) (h : ¬ x = 0) : 0 < tn x := by
  rcases Nat.eq_zero_or_pos (tn x) with q | q
  · exact absurd (by rw [nI_self h0, show x.toNatClampNeg = 0 from q]; rfl) h
  · exact q
set_option maxRecDepth 100000 in
set_option maxHeartbeats 4000000 in
theorem e_X9_undo (G : GT) (S : Nat → Nat → Int32) (L : Nat → Int64) (hW : WX S) : sE G yX9_undo R_X9_undo cX9_undo 1 (some .int) [.ref (gB G + 0)] S L (some (.int (xundo S).1)) (xundo S).2 L := by
  refine sE.of (by decide) (Nat.le_of_ble_eq_true rfl) ?_
  show sv_V G R_X9_undo RX9 "undo" cX9_undo 1 (some .int) (sPo G R_X9_undo (some (.int (xundo S).1)) (xundo S).2 L) 0 0 197 (CF G S L) 0 [(0, .ref (gB G + 0))] []
  refine sv_aload_n 0 dX9_undo_0 rfl ?_
  refine sg_9_5 sh_0 fl_RX9_39 dX9_undo_1 ?_
  refine sg_2_2 sh_29 fl_RX9_143 dX9_undo_4 ?_
  refine sv_if_ne (tgt := 13) dX9_undo_7 (by decide) (fun c7 => ?_) (fun c7 => ?_)
  · -- jump
    refine sv_aload_n 0 dX9_undo_13 rfl ?_
    refine sg_9_5 sh_0 fl_RX9_39 dX9_undo_14 ?_
    refine sv_aload_n 0 dX9_undo_17 rfl ?_
    refine sg_9_3 sh_0 fl_RX9_29 dX9_undo_18 ?_
    refine cVv1 (e_X2_takeBack G _ _ _ _ (tn_lt (M := 14) (k := 14) rfl (by decide) hW.2.2.2.1.1 hW.2.2.2.1.2) (h_pos hW.2.2.2.2.1.1 c7) (tn_le (M := 14) (k := 14) rfl (by decide) hW.2.2.2.2.1.1 hW.2.2.2.2.1.2) (nI_self hW.2.2.2.1.1) (nI_self hW.2.2.2.2.1.1) (fun i hi => (hW.2.2.2.2.2.1 i hi).1.2.2)) ⟨rfl, rfl⟩ (sv_w5 ml_RX9_214 im_X2_takeBack sl_X2_takeBack in_RX2 cd_X2_takeBack) nm_X2_takeBack ⟨Nat.le_of_ble_eq_true rfl, Nat.le_of_ble_eq_true rfl⟩ rfl (CF_2 sh_29) (shp_lt sh_29 (by simp)) (Nat.le_of_ble_eq_true rfl) ⟨Nat.le_of_ble_eq_true rfl, Nat.le_of_ble_eq_true rfl⟩ dX9_undo_21 ?_
    refine sv_aload_n 0 dX9_undo_24 rfl ?_
    refine sg_9_5 sh_0 fl_RX9_39 dX9_undo_25 ?_
    refine sg_2_2 sh_29 fl_RX9_143 dX9_undo_28 ?_
    exact se_iret rfl ⟨rfl, rfl⟩ dX9_undo_31 (by rw [xundo, if_neg c7]) (by rw [xundo, if_neg c7])
  · -- fall
    refine sv_bipush (v := (-3)) dX9_undo_10 (by decide) ?_
    exact se_iret rfl ⟨rfl, rfl⟩ dX9_undo_12 (by rw [xundo, if_pos c7]) (by rw [xundo, if_pos c7])
def follF (S : Nat → Nat → Int32) (p : Nat) : Int32 := if S 4 p = 98 then (if 0 < S 14 3 then S 17 (tn (S 14 3 - 1)) else -9) else if S 4 p = 99 then (if S 14 3 < 8 then S 6 p else -9) else if S 4 p = 104 then 20 else if S 4 p = 106 then 20 + S 6 p else if S 4 p = 122 then (if S 15 (tn (S 5 p)) = 0 then 20 + S 6 p else 21) else 21
def xaside (S : Nat → Nat → Int32) (p w : Int32) : Int32 := if hasX S p then (if w = 0 then follF S (tn p) else if w = 1 then (if S 4 (tn p) = 99 ∧ S 14 3 < 8 then 21 else -9) else if w = 2 then (if S 4 (tn p) = 107 then 21 else -9) else if w = 3 then crF (S 4 (tn p)) else -2) else -1
theorem dep_ix {x : Int32} (h0 : ¬ x < 0) (h : 0 < x) (h8 : ¬ 8 < x) : x - 1 = nI (tn (x - 1)) ∧ tn (x - 1) < 8 := by
  have := dep_dec h h8
  refine ⟨nI_self this.1, ?_⟩
  obtain ⟨d, hd, rfl⟩ := nI_of h0
  have hd8 : d ≤ 8 := Nat.le_of_not_lt (fun z => h8 (nI_lt (a := 8) z hd))
  obtain ⟨k, rfl⟩ : ∃ k, d = k + 1 := ⟨d - 1, by have : d ≠ 0 := fun z => (by subst z; exact absurd h (by decide)); omega⟩
  rw [nI_pred, tn_nI (by omega)]
  omega
set_option maxRecDepth 100000 in
set_option maxHeartbeats 4000000 in
theorem e_X9_followsAside (G : GT) (S : Nat → Nat → Int32) (L : Nat → Int64) (hW : WX S) (p : Int32) (hp0 : ¬ p < 0) (hs : tn p < tn (S 3 4)) (hp : tn p < 16) : sE G yX9_followsAside R_X9_followsAside cX9_followsAside 4 (some .int) [.ref (gB G + 0), .int p] S L (some (.int (follF S (tn p)))) S L := by
  refine sE.of (by decide) (Nat.le_of_ble_eq_true rfl) ?_
  show sv_V G R_X9_followsAside RX9 "followsAside" cX9_followsAside 4 (some .int) (sPo G R_X9_followsAside (some (.int (follF S (tn p)))) S L) 0 0 197 (CF G S L) 0 [(0, .ref (gB G + 0)), (1, .int p)] []
  refine sv_aload_n 0 dX9_followsAside_0 rfl ?_
  refine sg_9_3 sh_0 fl_RX9_29 dX9_followsAside_1 ?_
  refine sg_6_0 isState_13.1 fl_RX9_96 dX9_followsAside_4 ?_
  refine sv_astore_n (ls' := [(2, _), (0, _), (1, _)]) dX9_followsAside_7 (by decide) rfl ?_
  refine sv_aload_n 1 dX9_followsAside_8 rfl ?_
  refine sg_9_1 sh_0 fl_RX9_19 dX9_followsAside_9 ?_
  refine sg_4_2 isProg_3.1 fl_RX9_226 dX9_followsAside_12 ?_
  refine sv_iload_n 2 dX9_followsAside_15 rfl ?_
  refine sx_ild isProg_3.2.2.2.1 _ (nI_self hp0) hp dX9_followsAside_16 ?_
  refine sv_istore_n (ls' := [(3, _), (2, _), (0, _), (1, _)]) dX9_followsAside_17 (by decide) rfl ?_
  refine sv_aload_n 2 dX9_followsAside_18 rfl ?_
  refine sg_9_1 sh_0 fl_RX9_19 dX9_followsAside_19 ?_
  refine sg_4_0 isProg_3.1 fl_RX9_217 dX9_followsAside_22 ?_
  refine sv_iload_n 3 dX9_followsAside_25 rfl ?_
  refine sx_ild isProg_3.2.1 _ (nI_self hp0) hp dX9_followsAside_26 ?_
  refine sw_X9_followsAside_27 dX9_followsAside_27 (fun c27 => ?_) (fun c27 => ?_) (fun c27 => ?_) (fun c27 => ?_) (fun c27 => ?_) (fun c27 => ?_)
  · -- case 98
    refine sv_aload_n 1 dX9_followsAside_124 rfl ?_
    refine sg_3_3 isState_13.2.1.1 fl_RX9_105 dX9_followsAside_125 ?_
    refine sv_if_le (tgt := 145) dX9_followsAside_128 (by decide) (fun c128 => ?_) (fun c128 => ?_)
    · -- jump
      refine sv_bipush (v := (-9)) dX9_followsAside_145 (by decide) ?_
      exact se_iret rfl ⟨rfl, rfl⟩ dX9_followsAside_147 (by simp [follF, c27, Int32.not_lt.mpr c128]) rfl
    · -- fall
      refine sv_aload_n 1 dX9_followsAside_131 rfl ?_
      refine sg_3_2 isState_13.2.1.1 fl_RX9_162 dX9_followsAside_132 ?_
      refine sv_aload_n 1 dX9_followsAside_135 rfl ?_
      refine sg_3_3 isState_13.2.1.1 fl_RX9_105 dX9_followsAside_136 ?_
      refine sv_iconst (v := 1) dX9_followsAside_139 (by decide) ?_
      refine sv_isub dX9_followsAside_140 ?_
      refine sx_ild isState_13.2.1.2.2.2 _ (dep_ix hW.2.2.1.1.1 (Int32.not_le.mp c128) hW.2.2.1.1.2.1).1 (dep_ix hW.2.2.1.1.1 (Int32.not_le.mp c128) hW.2.2.1.1.2.1).2 dX9_followsAside_141 ?_
      refine sv_goto (tgt := 147) dX9_followsAside_142 (by decide) ?_
      exact se_iret rfl ⟨rfl, rfl⟩ dX9_followsAside_147 (by simp [follF, c27, Int32.not_le.mp c128]) rfl
  · -- case 99
    refine sv_aload_n 1 dX9_followsAside_108 rfl ?_
    refine sg_3_3 isState_13.2.1.1 fl_RX9_105 dX9_followsAside_109 ?_
    refine sv_bipush (v := 8) dX9_followsAside_112 (by decide) ?_
    refine sv_icmp_ge (tgt := 121) dX9_followsAside_114 (by decide) (fun c114 => ?_) (fun c114 => ?_)
    · -- jump
      refine sv_bipush (v := (-9)) dX9_followsAside_121 (by decide) ?_
      exact se_iret rfl ⟨rfl, rfl⟩ dX9_followsAside_123 (by simp [follF, c27, Int32.not_lt.mpr c114]) rfl
    · -- fall
      refine sv_iload_n 0 dX9_followsAside_117 rfl ?_
      refine sv_goto (tgt := 123) dX9_followsAside_118 (by decide) ?_
      exact se_iret rfl ⟨rfl, rfl⟩ dX9_followsAside_123 (by simp [follF, c27, Int32.not_le.mp c114]) rfl
  · -- case 104
    refine sv_bipush (v := 20) dX9_followsAside_148 (by decide) ?_
    exact se_iret rfl ⟨rfl, rfl⟩ dX9_followsAside_150 (by simp [follF, c27]) rfl
  · -- case 106
    refine sv_bipush (v := 20) dX9_followsAside_76 (by decide) ?_
    refine sv_iload_n 0 dX9_followsAside_78 rfl ?_
    refine sv_iadd dX9_followsAside_79 ?_
    exact se_iret rfl ⟨rfl, rfl⟩ dX9_followsAside_80 (by simp [follF, c27]) rfl
  · -- case 122
    refine sv_aload_n 1 dX9_followsAside_81 rfl ?_
    refine sg_3_0 isState_13.2.1.1 fl_RX9_153 dX9_followsAside_82 ?_
    refine sv_aload_n 2 dX9_followsAside_85 rfl ?_
    refine sg_9_1 sh_0 fl_RX9_19 dX9_followsAside_86 ?_
    refine sg_4_1 isProg_3.1 fl_RX9_229 dX9_followsAside_89 ?_
    refine sv_iload_n 3 dX9_followsAside_92 rfl ?_
    refine sx_ild isProg_3.2.2.1 _ (nI_self hp0) hp dX9_followsAside_93 ?_
    refine sx_ild isState_13.2.1.2.1 _ (nI_self (hW.2.1.2.2 _ hs).1) (tn_lt (M := 4) (k := 4) rfl (by decide) (hW.2.1.2.2 _ hs).1 (hW.2.1.2.2 _ hs).2.1) dX9_followsAside_94 ?_
    refine sv_if_ne (tgt := 105) dX9_followsAside_95 (by decide) (fun c95 => ?_) (fun c95 => ?_)
    · -- jump
      refine sv_bipush (v := 21) dX9_followsAside_105 (by decide) ?_
      exact se_iret rfl ⟨rfl, rfl⟩ dX9_followsAside_107 (by simp [follF, c27, c95]) rfl
    · -- fall
      refine sv_bipush (v := 20) dX9_followsAside_98 (by decide) ?_
      refine sv_iload_n 0 dX9_followsAside_100 rfl ?_
      refine sv_iadd dX9_followsAside_101 ?_
      refine sv_goto (tgt := 107) dX9_followsAside_102 (by decide) ?_
      exact se_iret rfl ⟨rfl, rfl⟩ dX9_followsAside_107 (by simp [follF, c27, c95]) rfl
  · -- case None
    refine sv_bipush (v := 21) dX9_followsAside_151 (by decide) ?_
    exact se_iret rfl ⟨rfl, rfl⟩ dX9_followsAside_153 (by obtain ⟨z1, z2, z3, z4, z5⟩ := c27; simp [follF, z1, z2, z3, z4, z5]) rfl
set_option maxRecDepth 100000 in
set_option maxHeartbeats 4000000 in
theorem e_X9_aside (G : GT) (S : Nat → Nat → Int32) (L : Nat → Int64) (hW : WX S) (p w : Int32) : sE G yX9_aside R_X9_aside cX9_aside 4 (some .int) [.ref (gB G + 0), .int p, .int w] S L (some (.int (xaside S p w))) S L := by
  refine sE.of (by decide) (Nat.le_of_ble_eq_true rfl) ?_
  show sv_V G R_X9_aside RX9 "aside" cX9_aside 4 (some .int) (sPo G R_X9_aside (some (.int (xaside S p w))) S L) 0 0 197 (CF G S L) 0 [(0, .ref (gB G + 0)), (1, .int p), (2, .int w)] []
  refine sv_aload_n 0 dX9_aside_0 rfl ?_
  refine sg_9_1 sh_0 fl_RX9_19 dX9_aside_1 ?_
  refine sv_iload_n 1 dX9_aside_4 rfl ?_
  refine cVi1 (e_X4_has G _ _ _ isProg_3 _) ⟨rfl, rfl⟩ (sv_w5 ml_RX9_165 im_X4_has sl_X4_has in_RX4 cd_X4_has) nm_X4_has ⟨Nat.le_of_ble_eq_true rfl, Nat.le_of_ble_eq_true rfl⟩ rfl (CF_4 isProg_3.1) (shp_lt isProg_3.1 (by simp)) (Nat.le_of_ble_eq_true rfl) ⟨Nat.le_of_ble_eq_true rfl, Nat.le_of_ble_eq_true rfl⟩ dX9_aside_5 ?_
  refine sv_ifne_b (tgt := 13) dX9_aside_8 (by decide) (fun c8 => ?_) (fun c8 => ?_)
  · -- jump
    refine sv_aload_n 0 dX9_aside_13 rfl ?_
    refine sg_9_1 sh_0 fl_RX9_19 dX9_aside_14 ?_
    refine sg_4_0 isProg_3.1 fl_RX9_217 dX9_aside_17 ?_
    refine sv_iload_n 1 dX9_aside_20 rfl ?_
    refine sx_ild isProg_3.2.1 _ (nI_self c8.1) (has16 hW c8) dX9_aside_21 ?_
    refine sv_istore_n (ls' := [(3, _), (0, _), (1, _), (2, _)]) dX9_aside_22 (by decide) rfl ?_
    refine sv_iload_n 3 dX9_aside_23 rfl ?_
    refine sw_X9_aside_24 dX9_aside_24 (fun c24 => ?_) (fun c24 => ?_) (fun c24 => ?_) (fun c24 => ?_) (fun c24 => ?_)
    · -- case 0
      refine sv_aload_n 1 dX9_aside_56 rfl ?_
      refine sv_iload_n 2 dX9_aside_57 rfl ?_
      refine cVi1 (e_X9_followsAside G _ _ hW _ c8.1 (hasI c8.1 c8.2 hW.2.1.1) (has16 hW c8)) ⟨rfl, rfl⟩ (sv_w5 ml_RX9_220 im_X9_followsAside sl_X9_followsAside in_RX9 cd_X9_followsAside) nm_X9_followsAside ⟨Nat.le_of_ble_eq_true rfl, Nat.le_of_ble_eq_true rfl⟩ rfl (CF_9 sh_0) (shp_lt sh_0 (by simp)) (Nat.le_of_ble_eq_true rfl) ⟨Nat.le_of_ble_eq_true rfl, Nat.le_of_ble_eq_true rfl⟩ dX9_aside_58 ?_
      exact se_iret rfl ⟨rfl, rfl⟩ dX9_aside_61 (by subst c24; rw [xaside, if_pos c8, if_pos rfl]) rfl
    · -- case 1
      refine sv_iload_n 0 dX9_aside_62 rfl ?_
      refine sv_bipush (v := 99) dX9_aside_63 (by decide) ?_
      refine sv_icmp_ne (tgt := 88) dX9_aside_65 (by decide) (fun c65 => ?_) (fun c65 => ?_)
      · -- jump
        refine sv_bipush (v := (-9)) dX9_aside_88 (by decide) ?_
        exact se_iret rfl ⟨rfl, rfl⟩ dX9_aside_90 (by subst c24; rw [xaside, if_pos c8, if_neg (by decide), if_pos rfl, if_neg (fun h => c65 h.1)]) rfl
      · -- fall
        refine sv_aload_n 1 dX9_aside_68 rfl ?_
        refine sg_9_3 sh_0 fl_RX9_29 dX9_aside_69 ?_
        refine sg_6_0 isState_13.1 fl_RX9_96 dX9_aside_72 ?_
        refine sg_3_3 isState_13.2.1.1 fl_RX9_105 dX9_aside_75 ?_
        refine sv_bipush (v := 8) dX9_aside_78 (by decide) ?_
        refine sv_icmp_ge (tgt := 88) dX9_aside_80 (by decide) (fun c80 => ?_) (fun c80 => ?_)
        · -- jump
          refine sv_bipush (v := (-9)) dX9_aside_88 (by decide) ?_
          exact se_iret rfl ⟨rfl, rfl⟩ dX9_aside_90 (by subst c24; rw [xaside, if_pos c8, if_neg (by decide), if_pos rfl, if_neg (fun h => absurd h.2 (Int32.not_lt.mpr c80))]) rfl
        · -- fall
          refine sv_bipush (v := 21) dX9_aside_83 (by decide) ?_
          refine sv_goto (tgt := 90) dX9_aside_85 (by decide) ?_
          exact se_iret rfl ⟨rfl, rfl⟩ dX9_aside_90 (by subst c24; rw [xaside, if_pos c8, if_neg (by decide), if_pos rfl, if_pos ⟨c65, Int32.not_le.mp c80⟩]) rfl
    · -- case 2
      refine sv_iload_n 0 dX9_aside_91 rfl ?_
      refine sv_bipush (v := 107) dX9_aside_92 (by decide) ?_
      refine sv_icmp_ne (tgt := 102) dX9_aside_94 (by decide) (fun c94 => ?_) (fun c94 => ?_)
      · -- jump
        refine sv_bipush (v := (-9)) dX9_aside_102 (by decide) ?_
        exact se_iret rfl ⟨rfl, rfl⟩ dX9_aside_104 (by subst c24; rw [xaside, if_pos c8, if_neg (by decide), if_neg (by decide), if_pos rfl, if_neg c94]) rfl
      · -- fall
        refine sv_bipush (v := 21) dX9_aside_97 (by decide) ?_
        refine sv_goto (tgt := 104) dX9_aside_99 (by decide) ?_
        exact se_iret rfl ⟨rfl, rfl⟩ dX9_aside_104 (by subst c24; rw [xaside, if_pos c8, if_neg (by decide), if_neg (by decide), if_pos rfl, if_pos c94]) rfl
    · -- case 3
      refine sv_iload_n 0 dX9_aside_105 rfl ?_
      refine cSi1 (e_X9_corrections G _ _ _) ⟨rfl, rfl⟩ (sv_w4 ml_RX9_223 st_X9_corrections in_RX9 cd_X9_corrections) nm_X9_corrections ⟨Nat.le_of_ble_eq_true rfl, Nat.le_of_ble_eq_true rfl⟩ (Nat.le_of_ble_eq_true rfl) ⟨Nat.le_of_ble_eq_true rfl, Nat.le_of_ble_eq_true rfl⟩ dX9_aside_106 ?_
      exact se_iret rfl ⟨rfl, rfl⟩ dX9_aside_109 (by subst c24; rw [xaside, if_pos c8, if_neg (by decide), if_neg (by decide), if_neg (by decide), if_pos rfl]) rfl
    · -- case None
      refine sv_bipush (v := (-2)) dX9_aside_110 (by decide) ?_
      exact se_iret rfl ⟨rfl, rfl⟩ dX9_aside_112 (by obtain ⟨z0, z1, z2, z3⟩ := c24; rw [xaside, if_pos c8, if_neg z0, if_neg z1, if_neg z2, if_neg z3]) rfl
  · -- fall
    refine sv_iconst (v := (-1)) dX9_aside_11 (by decide) ?_
    exact se_iret rfl ⟨rfl, rfl⟩ dX9_aside_12 (by rw [xaside, if_neg c8]) rfl
def frS (S : Nat → Nat → Int32) : Nat → Nat → Int32 := goF (cpR S 149 14 4) (-9)
def xfree (S : Nat → Nat → Int32) (w : Int32) : Int32 × (Nat → Nat → Int32) := if w < 0 ∨ ¬ w ≤ 3 then (-2, S) else if w = 0 then (frS S 148 2, frS S) else if w = 1 then (frS S 148 1, frS S) else if w = 2 then (frS S 149 6, frS S) else (frS S 149 7, frS S)
theorem wfG_cp {S : Nat → Nat → Int32} (hm : wfM S 14) (hp : wfP S 3) : wfG (cpR S 149 14 4) := ⟨wfM_cp hm (by decide), wfP_row hp (cpR_row (by omega)) (cpR_row (by omega)) (cpR_row (by omega)) (cpR_row (by omega))⟩
set_option maxRecDepth 100000 in
set_option maxHeartbeats 4000000 in
theorem e_X9_free (G : GT) (S : Nat → Nat → Int32) (L : Nat → Int64) (hW : WX S) (w : Int32) : sE G yX9_free R_X9_free cX9_free 2 (some .int) [.ref (gB G + 0), .int w] S L (some (.int (xfree S w).1)) (xfree S w).2 L := by
  refine sE.of (by decide) (Nat.le_of_ble_eq_true rfl) ?_
  show sv_V G R_X9_free RX9 "free" cX9_free 2 (some .int) (sPo G R_X9_free (some (.int (xfree S w).1)) (xfree S w).2 L) 0 0 197 (CF G S L) 0 [(0, .ref (gB G + 0)), (1, .int w)] []
  refine sv_iload_n 1 dX9_free_0 rfl ?_
  refine sv_if_lt (tgt := 9) dX9_free_1 (by decide) (fun c1 => ?_) (fun c1 => ?_)
  · -- jump
    refine sv_bipush (v := (-2)) dX9_free_9 (by decide) ?_
    exact se_iret rfl ⟨rfl, rfl⟩ dX9_free_11 (by rw [xfree, if_pos (Or.inl c1)]) (by rw [xfree, if_pos (Or.inl c1)])
  · -- fall
    refine sv_iload_n 1 dX9_free_4 rfl ?_
    refine sv_iconst (v := 3) dX9_free_5 (by decide) ?_
    refine sv_icmp_le (tgt := 12) dX9_free_6 (by decide) (fun c6 => ?_) (fun c6 => ?_)
    · -- jump
      refine sv_aload_n 0 dX9_free_12 rfl ?_
      refine sg_9_9 sh_0 fl_RX9_61 dX9_free_13 ?_
      refine sv_aload_n 0 dX9_free_16 rfl ?_
      refine sg_9_3 sh_0 fl_RX9_29 dX9_free_17 ?_
      refine sg_6_0 isState_13.1 fl_RX9_96 dX9_free_20 ?_
      refine cVv1 (e_X1_prepare G _ _ hW.2.2.1.1.2.2) ⟨rfl, rfl⟩ (sv_w5 ml_RX9_232 im_X1_prepare sl_X1_prepare in_RX1 cd_X1_prepare) nm_X1_prepare ⟨Nat.le_of_ble_eq_true rfl, Nat.le_of_ble_eq_true rfl⟩ rfl (CF_1 sh_148) (shp_lt sh_148 (by simp)) (Nat.le_of_ble_eq_true rfl) ⟨Nat.le_of_ble_eq_true rfl, Nat.le_of_ble_eq_true rfl⟩ dX9_free_23 ?_
      refine sv_aload_n 0 dX9_free_26 rfl ?_
      refine sg_9_9 sh_0 fl_RX9_61 dX9_free_27 ?_
      refine sv_aload_n 0 dX9_free_30 rfl ?_
      refine sg_9_1 sh_0 fl_RX9_19 dX9_free_31 ?_
      refine sv_bipush (v := (-9)) dX9_free_34 (by decide) ?_
      refine cVv2 (e_X1_go G _ _ _ (wfG_cp hW.2.2.1.1 hW.2.1)) ⟨rfl, rfl⟩ (sv_w5 ml_RX9_236 im_X1_go sl_X1_go in_RX1 cd_X1_go) nm_X1_go ⟨Nat.le_of_ble_eq_true rfl, Nat.le_of_ble_eq_true rfl⟩ rfl (CF_1 sh_148) (shp_lt sh_148 (by simp)) (Nat.le_of_ble_eq_true rfl) ⟨Nat.le_of_ble_eq_true rfl, Nat.le_of_ble_eq_true rfl⟩ dX9_free_36 ?_
      refine sv_iload_n 1 dX9_free_39 rfl ?_
      refine sw_X9_free_40 dX9_free_40 (fun c40 => ?_) (fun c40 => ?_) (fun c40 => ?_) (fun c40 => ?_)
      · -- case 0
        refine sv_aload_n 0 dX9_free_68 rfl ?_
        refine sg_9_9 sh_0 fl_RX9_61 dX9_free_69 ?_
        refine sg_1_2 sh_148 fl_RX9_240 dX9_free_72 ?_
        exact se_iret rfl ⟨rfl, rfl⟩ dX9_free_75 (by rw [xfree, if_neg (fun h => h.elim c1 (fun z => z c6)), if_pos c40]; rfl) (by rw [xfree, if_neg (fun h => h.elim c1 (fun z => z c6)), if_pos c40]; rfl)
      · -- case 1
        refine sv_aload_n 0 dX9_free_76 rfl ?_
        refine sg_9_9 sh_0 fl_RX9_61 dX9_free_77 ?_
        refine sg_1_1 sh_148 fl_RX9_243 dX9_free_80 ?_
        exact se_iret rfl ⟨rfl, rfl⟩ dX9_free_83 (by rw [xfree, if_neg (fun h => h.elim c1 (fun z => z c6)), if_neg (by rw [c40]; decide), if_pos c40]; rfl) (by rw [xfree, if_neg (fun h => h.elim c1 (fun z => z c6)), if_neg (by rw [c40]; decide), if_pos c40]; rfl)
      · -- case 2
        refine sv_aload_n 0 dX9_free_84 rfl ?_
        refine sg_9_9 sh_0 fl_RX9_61 dX9_free_85 ?_
        refine sg_1_0 sh_148 fl_RX9_246 dX9_free_88 ?_
        refine sg_3_6 isMach_149.1 fl_RX9_112 dX9_free_91 ?_
        exact se_iret rfl ⟨rfl, rfl⟩ dX9_free_94 (by rw [xfree, if_neg (fun h => h.elim c1 (fun z => z c6)), if_neg (by rw [c40]; decide), if_neg (by rw [c40]; decide), if_pos c40]; rfl) (by rw [xfree, if_neg (fun h => h.elim c1 (fun z => z c6)), if_neg (by rw [c40]; decide), if_neg (by rw [c40]; decide), if_pos c40]; rfl)
      · -- case None
        refine sv_aload_n 0 dX9_free_95 rfl ?_
        refine sg_9_9 sh_0 fl_RX9_61 dX9_free_96 ?_
        refine sg_1_0 sh_148 fl_RX9_246 dX9_free_99 ?_
        refine sg_3_7 isMach_149.1 fl_RX9_115 dX9_free_102 ?_
        exact se_iret rfl ⟨rfl, rfl⟩ dX9_free_105 (by rw [xfree, if_neg (fun h => h.elim c1 (fun z => z c6)), if_neg c40.1, if_neg c40.2.1, if_neg c40.2.2]; rfl) (by rw [xfree, if_neg (fun h => h.elim c1 (fun z => z c6)), if_neg c40.1, if_neg c40.2.1, if_neg c40.2.2]; rfl)
    · -- fall
      refine sv_bipush (v := (-2)) dX9_free_9 (by decide) ?_
      exact se_iret rfl ⟨rfl, rfl⟩ dX9_free_11 (by rw [xfree, if_pos (Or.inr c6)]) (by rw [xfree, if_pos (Or.inr c6)])
