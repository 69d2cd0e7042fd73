set_option maxRecDepth 100000 in
set_option maxHeartbeats 4000000 in
theorem sw_X8_fits_8 {G : GT} {R : Room} {own nm : String} {nL : Nat} {rt : Option FieldType} {Post : Option Value → Nat → Nat → Nat → (Nat → va_E) → Prop} {cells slots n : Nat} {f : Nat → va_E} {ls : List (Nat × Value)} {st : List Value} {x : Int32} (d : decode cX8_fits 8 = .ok (.tableswitch 160 109 117 #[88, 160, 160, 160, 160, 70, 52, 106, 124], 52)) (k0 : x = 109 → sv_V G R own nm cX8_fits nL rt Post cells slots n f 96 ls st) (k1 : x = 114 → sv_V G R own nm cX8_fits nL rt Post cells slots n f 78 ls st) (k2 : x = 115 → sv_V G R own nm cX8_fits nL rt Post cells slots n f 60 ls st) (k3 : x = 116 → sv_V G R own nm cX8_fits nL rt Post cells slots n f 114 ls st) (k4 : x = 117 → sv_V G R own nm cX8_fits nL rt Post cells slots n f 132 ls st) (kd : ¬ x = 109 ∧ ¬ x = 114 ∧ ¬ x = 115 ∧ ¬ x = 116 ∧ ¬ x = 117 → sv_V G R own nm cX8_fits nL rt Post cells slots n f 168 ls st) : sv_V G R own nm cX8_fits nL rt Post cells slots n f 8 ls (.int x :: st) := by
  by_cases h0 : x = 109
  · subst h0; exact sv_tableIn (tgt := 96) (off := 88) d (by decide) (by decide) (by decide) (by decide) (k0 rfl)
  by_cases h1 : x = 114
  · subst h1; exact sv_tableIn (tgt := 78) (off := 70) d (by decide) (by decide) (by decide) (by decide) (k1 rfl)
  by_cases h2 : x = 115
  · subst h2; exact sv_tableIn (tgt := 60) (off := 52) d (by decide) (by decide) (by decide) (by decide) (k2 rfl)
  by_cases h3 : x = 116
  · subst h3; exact sv_tableIn (tgt := 114) (off := 106) d (by decide) (by decide) (by decide) (by decide) (k3 rfl)
  by_cases h4 : x = 117
  · subst h4; exact sv_tableIn (tgt := 132) (off := 124) d (by decide) (by decide) (by decide) (by decide) (k4 rfl)
  by_cases g110 : x = 110
  · subst g110; exact sv_tableIn (tgt := 168) (off := 160) d (by decide) (by decide) (by decide) (by decide) (kd ⟨by decide, by decide, by decide, by decide, by decide⟩)
  by_cases g111 : x = 111
  · subst g111; exact sv_tableIn (tgt := 168) (off := 160) d (by decide) (by decide) (by decide) (by decide) (kd ⟨by decide, by decide, by decide, by decide, by decide⟩)
  by_cases g112 : x = 112
  · subst g112; exact sv_tableIn (tgt := 168) (off := 160) d (by decide) (by decide) (by decide) (by decide) (kd ⟨by decide, by decide, by decide, by decide, by decide⟩)
  by_cases g113 : x = 113
  · subst g113; exact sv_tableIn (tgt := 168) (off := 160) d (by decide) (by decide) (by decide) (by decide) (kd ⟨by decide, by decide, by decide, by decide, by decide⟩)
  refine sv_tableOut (tgt := 168) d ?_ (by decide) (kd ⟨h0, h1, h2, h3, h4⟩)
  have p110 := sw_ne g110 (by decide : (110 : Int32).toInt = 110)
  have p111 := sw_ne g111 (by decide : (111 : Int32).toInt = 111)
  have p112 := sw_ne g112 (by decide : (112 : Int32).toInt = 112)
  have p113 := sw_ne g113 (by decide : (113 : Int32).toInt = 113)
  have q0 := sw_ne h0 (by decide : (109 : Int32).toInt = 109)
  have q1 := sw_ne h1 (by decide : (114 : Int32).toInt = 114)
  have q2 := sw_ne h2 (by decide : (115 : Int32).toInt = 115)
  have q3 := sw_ne h3 (by decide : (116 : Int32).toInt = 116)
  have q4 := sw_ne h4 (by decide : (117 : Int32).toInt = 117)
  omega
set_option maxRecDepth 100000 in
set_option maxHeartbeats 4000000 in
theorem sw_X8_formOf_1 {G : GT} {R : Room} {own nm : String} {nL : Nat} {rt : Option FieldType} {Post : Option Value → Nat → Nat → Nat → (Nat → va_E) → Prop} {cells slots n : Nat} {f : Nat → va_E} {ls : List (Nat × Value)} {st : List Value} {x : Int32} (d : decode cX8_formOf 1 = .ok (.lookupswitch 121 #[(43, 94), (45, 97), (99, 112), (105, 91), (106, 106), (107, 115), (108, 100), (111, 118), (115, 103), (122, 109)], 91)) (k0 : x = 43 → sv_V G R own nm cX8_formOf nL rt Post cells slots n f 95 ls st) (k1 : x = 45 → sv_V G R own nm cX8_formOf nL rt Post cells slots n f 98 ls st) (k2 : x = 99 → sv_V G R own nm cX8_formOf nL rt Post cells slots n f 113 ls st) (k3 : x = 105 → sv_V G R own nm cX8_formOf nL rt Post cells slots n f 92 ls st) (k4 : x = 106 → sv_V G R own nm cX8_formOf nL rt Post cells slots n f 107 ls st) (k5 : x = 107 → sv_V G R own nm cX8_formOf nL rt Post cells slots n f 116 ls st) (k6 : x = 108 → sv_V G R own nm cX8_formOf nL rt Post cells slots n f 101 ls st) (k7 : x = 111 → sv_V G R own nm cX8_formOf nL rt Post cells slots n f 119 ls st) (k8 : x = 115 → sv_V G R own nm cX8_formOf nL rt Post cells slots n f 104 ls st) (k9 : x = 122 → sv_V G R own nm cX8_formOf nL rt Post cells slots n f 110 ls st) (kd : ¬ x = 43 ∧ ¬ x = 45 ∧ ¬ x = 99 ∧ ¬ x = 105 ∧ ¬ x = 106 ∧ ¬ x = 107 ∧ ¬ x = 108 ∧ ¬ x = 111 ∧ ¬ x = 115 ∧ ¬ x = 122 → sv_V G R own nm cX8_formOf nL rt Post cells slots n f 122 ls st) : sv_V G R own nm cX8_formOf nL rt Post cells slots n f 1 ls (.int x :: st) := by
  by_cases h0 : x = 43
  · subst h0; exact sv_lookup (tgt := 95) (off := 94) d (by decide) (by decide) (by decide) (k0 rfl)
  by_cases h1 : x = 45
  · subst h1; exact sv_lookup (tgt := 98) (off := 97) d (by decide) (by decide) (by decide) (k1 rfl)
  by_cases h2 : x = 99
  · subst h2; exact sv_lookup (tgt := 113) (off := 112) d (by decide) (by decide) (by decide) (k2 rfl)
  by_cases h3 : x = 105
  · subst h3; exact sv_lookup (tgt := 92) (off := 91) d (by decide) (by decide) (by decide) (k3 rfl)
  by_cases h4 : x = 106
  · subst h4; exact sv_lookup (tgt := 107) (off := 106) d (by decide) (by decide) (by decide) (k4 rfl)
  by_cases h5 : x = 107
  · subst h5; exact sv_lookup (tgt := 116) (off := 115) d (by decide) (by decide) (by decide) (k5 rfl)
  by_cases h6 : x = 108
  · subst h6; exact sv_lookup (tgt := 101) (off := 100) d (by decide) (by decide) (by decide) (k6 rfl)
  by_cases h7 : x = 111
  · subst h7; exact sv_lookup (tgt := 119) (off := 118) d (by decide) (by decide) (by decide) (k7 rfl)
  by_cases h8 : x = 115
  · subst h8; exact sv_lookup (tgt := 104) (off := 103) d (by decide) (by decide) (by decide) (k8 rfl)
  by_cases h9 : x = 122
  · subst h9; exact sv_lookup (tgt := 110) (off := 109) d (by decide) (by decide) (by decide) (k9 rfl)
  refine sv_lookup (tgt := 122) (off := 121) d (by decide) ?_ (by decide) (kd ⟨h0, h1, h2, h3, h4, h5, h6, h7, h8, h9⟩)
  show Op.lookupswitch.offset [(43, 94), (45, 97), (99, 112), (105, 91), (106, 106), (107, 115), (108, 100), (111, 118), (115, 103), (122, 109)] 121 x.toInt = _
  rw [lv_osw h0 (by decide), lv_osw h1 (by decide), lv_osw h2 (by decide), lv_osw h3 (by decide), lv_osw h4 (by decide), lv_osw h5 (by decide), lv_osw h6 (by decide), lv_osw h7 (by decide), lv_osw h8 (by decide), lv_osw h9 (by decide)]
  rfl
theorem stL_lt (k : Nat) : stL.getD k 0 ≤ 12 := by
  have h : ∀ k, k < 9 → stL.getD k 0 ≤ 12 := by decide
  rcases Nat.lt_or_ge k 9 with q | q
  · exact h k q
  · rw [List.getD_eq_getElem?_getD, List.getElem?_eq_none (by exact q)]; exact Nat.zero_le _
def chF (k j : Nat) : Int32 := (stB.getD k []).getD j 0
theorem chF_ok : ∀ k, k < 9 → ∀ j, j < stL.getD k 0 → ((chF k j &&& 255).toUInt32 % 65536).toInt32 = chF k j ∧ narrow .char (.int (chF k j)) = .int (chF k j) := by decide +kernel
theorem shr0 (x : Int32) : x >>> ((0 : Int32) &&& 31) = x := by
  rw [show ((0 : Int32) &&& 31) = 0 from by decide]
  apply Int32.toBitVec_inj.1
  simp
set_option maxRecDepth 100000 in
set_option maxHeartbeats 4000000 in
theorem e_J0_coder_7d493 (G : GT) (S : Nat → Nat → Int32) (L : Nat → Int64) (k : Nat) (hk : k < 9) : sE G yJ0_coder_7d493 R_J0_coder_7d493 cJ0_coder_7d493 1 (some .byte) [.ref (G.2.2.2.2.1 k)] S L (some (.int 0)) S L := by
  refine sE.of (by decide) (Nat.le_of_ble_eq_true rfl) ?_
  show sv_V G R_J0_coder_7d493 RJ0 "coder" cJ0_coder_7d493 1 (some .byte) (sPo G R_J0_coder_7d493 (some (.int 0)) S L) 0 0 197 (CF G S L) 0 [(0, .ref (G.2.2.2.2.1 k))] []
  refine ss_compact fl_RJ0_38 dJ0_coder_7d493_0 ?_
  refine sv_if_eq (tgt := 13) dJ0_coder_7d493_3 (by decide) (fun z => absurd z (by decide)) (fun _ => ?_)
  refine sv_aload_n 0 dJ0_coder_7d493_6 rfl ?_
  refine ss_coder hk fl_RJ0_15 dJ0_coder_7d493_7 ?_
  refine sv_goto (tgt := 14) dJ0_coder_7d493_10 (by decide) ?_
  exact se_nret rfl ⟨rfl, rfl⟩ dJ0_coder_7d493_14 rfl rfl rfl
set_option maxRecDepth 100000 in
set_option maxHeartbeats 4000000 in
theorem e_J0_isLatin1_aae02 (G : GT) (S : Nat → Nat → Int32) (L : Nat → Int64) (k : Nat) (hk : k < 9) : sE G yJ0_isLatin1_aae02 R_J0_isLatin1_aae02 cJ0_isLatin1_aae02 1 (some .boolean) [.ref (G.2.2.2.2.1 k)] S L (some (.int 1)) S L := by
  refine sE.of (by decide) (Nat.le_of_ble_eq_true rfl) ?_
  show sv_V G R_J0_isLatin1_aae02 RJ0 "isLatin1" cJ0_isLatin1_aae02 1 (some .boolean) (sPo G R_J0_isLatin1_aae02 (some (.int 1)) S L) 0 0 197 (CF G S L) 0 [(0, .ref (G.2.2.2.2.1 k))] []
  refine ss_compact fl_RJ0_38 dJ0_isLatin1_aae02_0 ?_
  refine sv_if_eq (tgt := 17) dJ0_isLatin1_aae02_3 (by decide) (fun z => absurd z (by decide)) (fun _ => ?_)
  refine sv_aload_n 0 dJ0_isLatin1_aae02_6 rfl ?_
  refine ss_coder hk fl_RJ0_15 dJ0_isLatin1_aae02_7 ?_
  refine sv_if_ne (tgt := 17) dJ0_isLatin1_aae02_10 (by decide) (fun z => absurd z (by decide)) (fun _ => ?_)
  refine sv_iconst (v := 1) dJ0_isLatin1_aae02_13 (by decide) ?_
  refine sv_goto (tgt := 18) dJ0_isLatin1_aae02_14 (by decide) ?_
  exact se_zret rfl ⟨rfl, rfl⟩ dJ0_isLatin1_aae02_18 (by rfl) rfl rfl
set_option maxRecDepth 100000 in
set_option maxHeartbeats 4000000 in
theorem e_J0_length_8abf5 (G : GT) (S : Nat → Nat → Int32) (L : Nat → Int64) (k : Nat) (hk : k < 9) : sE G yJ0_length_8abf5 R_J0_length_8abf5 cJ0_length_8abf5 1 (some .int) [.ref (G.2.2.2.2.1 k)] S L (some (.int (nI (stL.getD k 0)))) S L := by
  refine sE.of (by decide) (Nat.le_of_ble_eq_true rfl) ?_
  show sv_V G R_J0_length_8abf5 RJ0 "length" cJ0_length_8abf5 1 (some .int) (sPo G R_J0_length_8abf5 (some (.int (nI (stL.getD k 0)))) S L) 0 0 197 (CF G S L) 0 [(0, .ref (G.2.2.2.2.1 k))] []
  refine sv_aload_n 0 dJ0_length_8abf5_0 rfl ?_
  refine ss_value hk fl_RJ0_9 dJ0_length_8abf5_1 ?_
  refine ss_len hk dJ0_length_8abf5_4 ?_
  refine sv_aload_n 0 dJ0_length_8abf5_5 rfl ?_
  refine cTi0 (e_J0_coder_7d493 G _ _ _ hk) ⟨rfl, rfl⟩ rfl (sv_w5 ml_RJ0_335 im_J0_coder_7d493 sl_J0_coder_7d493 in_RJ0 cd_J0_coder_7d493) nm_J0_coder_7d493 ⟨Nat.le_of_ble_eq_true rfl, Nat.le_of_ble_eq_true rfl⟩ hk (Nat.le_of_ble_eq_true rfl) ⟨Nat.le_of_ble_eq_true rfl, Nat.le_of_ble_eq_true rfl⟩ dJ0_length_8abf5_6 ?_
  refine sv_ishr dJ0_length_8abf5_9 ?_
  exact se_iret rfl ⟨rfl, rfl⟩ dJ0_length_8abf5_10 (shr0 _) rfl
set_option maxRecDepth 100000 in
set_option maxHeartbeats 4000000 in
theorem e_J3_checkIndex_8e157 (G : GT) (S : Nat → Nat → Int32) (L : Nat → Int64) (j len : Nat) (hj : j < len) (hl : len < 2147483648) (fv : Value) (hfv : fv.category = 1) : sE G yJ3_checkIndex_8e157 R_J3_checkIndex_8e157 cJ3_checkIndex_8e157 3 (some .int) [.int (nI j), .int (nI len), fv] S L (some (.int (nI j))) S L := by
  refine sE.of (by decide) (by show (lg_sl [Value.int (nI j), Value.int (nI len), fv]).length ≤ 3; simp only [lg_sl, List.flatMap_cons, List.flatMap_nil, hfv]; exact Nat.le_of_ble_eq_true rfl) ?_
  show sv_V G R_J3_checkIndex_8e157 RJ3 "checkIndex" cJ3_checkIndex_8e157 3 (some .int) (sPo G R_J3_checkIndex_8e157 (some (.int (nI j))) S L) 0 0 197 (CF G S L) 0 [(0, .int (nI j)), (1, .int (nI len)), (2, fv)] []
  refine sv_iload_n 0 dJ3_checkIndex_8e157_0 rfl ?_
  refine sv_if_lt (tgt := 9) dJ3_checkIndex_8e157_1 (by decide) (fun c1 => ?_) (fun c1 => ?_)
  · -- jump
    exact absurd c1 (nI_pos (by omega))
  · -- fall
    refine sv_iload_n 0 dJ3_checkIndex_8e157_4 rfl ?_
    refine sv_iload_n 1 dJ3_checkIndex_8e157_5 rfl ?_
    refine sv_icmp_lt (tgt := 16) dJ3_checkIndex_8e157_6 (by decide) (fun c6 => ?_) (fun c6 => ?_)
    · -- jump
      refine sv_iload_n 0 dJ3_checkIndex_8e157_16 rfl ?_
      exact se_iret rfl ⟨rfl, rfl⟩ dJ3_checkIndex_8e157_17 rfl rfl
    · -- fall
      exact absurd (nI_lt hj hl) c6
set_option maxRecDepth 100000 in
set_option maxHeartbeats 4000000 in
theorem e_J0_checkIndex_df160 (G : GT) (S : Nat → Nat → Int32) (L : Nat → Int64) (j len : Nat) (hj : j < len) (hl : len < 2147483648) : sE G yJ0_checkIndex_df160 R_J0_checkIndex_df160 cJ0_checkIndex_df160 2 none [.int (nI j), .int (nI len)] S L none S L := by
  refine sE.of (by decide) (Nat.le_of_ble_eq_true rfl) ?_
  show sv_V G R_J0_checkIndex_df160 RJ0 "checkIndex" cJ0_checkIndex_df160 2 none (sPo G R_J0_checkIndex_df160 none S L) 0 0 197 (CF G S L) 0 [(0, .int (nI j)), (1, .int (nI len))] []
  refine sv_iload_n 0 dJ0_checkIndex_df160_0 rfl ?_
  refine sv_iload_n 1 dJ0_checkIndex_df160_1 rfl ?_
  refine ss_former fl_RJ0_1053 dJ0_checkIndex_df160_2 (fun fv hfv => ?_)
  refine cSi3 (e_J3_checkIndex_8e157 G _ _ _ _ hj hl _ (by rcases hfv with rfl | ⟨t, rfl⟩ <;> rfl)) ⟨rfl, rfl⟩ (sv_w4 ml_RJ0_1059 st_J3_checkIndex_8e157 in_RJ3 cd_J3_checkIndex_8e157) nm_J3_checkIndex_8e157 ⟨Nat.le_of_ble_eq_true rfl, Nat.le_of_ble_eq_true rfl⟩ (Nat.le_of_ble_eq_true rfl) ⟨Nat.le_of_ble_eq_true rfl, Nat.le_of_ble_eq_true rfl⟩ dJ0_checkIndex_df160_5 ?_
  refine sv_pop dJ0_checkIndex_df160_8 rfl ?_
  exact se_vret rfl ⟨rfl, rfl⟩ dJ0_checkIndex_df160_9 (sEq.rf _)
set_option maxRecDepth 100000 in
set_option maxHeartbeats 4000000 in
theorem e_J1_charAt_3b067 (G : GT) (S : Nat → Nat → Int32) (L : Nat → Int64) (k : Nat) (hk : k < 9) (j : Nat) (hj : j < stL.getD k 0) : sE G yJ1_charAt_3b067 R_J1_charAt_3b067 cJ1_charAt_3b067 2 (some .char) [.ref (G.2.2.2.2.2 k), .int (nI j)] S L (some (.int (chF k j))) S L := by
  refine sE.of (by decide) (Nat.le_of_ble_eq_true rfl) ?_
  show sv_V G R_J1_charAt_3b067 RJ1 "charAt" cJ1_charAt_3b067 2 (some .char) (sPo G R_J1_charAt_3b067 (some (.int (chF k j))) S L) 0 0 197 (CF G S L) 0 [(0, .ref (G.2.2.2.2.2 k)), (1, .int (nI j))] []
  refine sv_iload_n 1 dJ1_charAt_3b067_0 rfl ?_
  refine sv_aload_n 0 dJ1_charAt_3b067_1 rfl ?_
  refine ss_len hk dJ1_charAt_3b067_2 ?_
  refine cSv2 (e_J0_checkIndex_df160 G _ _ _ _ hj (by have := stL_lt k; omega)) ⟨rfl, rfl⟩ (sv_w4 ml_RJ1_9 st_J0_checkIndex_df160 in_RJ0 cd_J0_checkIndex_df160) nm_J0_checkIndex_df160 ⟨Nat.le_of_ble_eq_true rfl, Nat.le_of_ble_eq_true rfl⟩ (Nat.le_of_ble_eq_true rfl) ⟨Nat.le_of_ble_eq_true rfl, Nat.le_of_ble_eq_true rfl⟩ dJ1_charAt_3b067_3 ?_
  refine sv_aload_n 0 dJ1_charAt_3b067_6 rfl ?_
  refine sv_iload_n 1 dJ1_charAt_3b067_7 rfl ?_
  refine ss_byte hk j rfl hj (by have := stL_lt k; omega) dJ1_charAt_3b067_8 ?_
  refine sv_sipush (v := 255) dJ1_charAt_3b067_9 (by decide) ?_
  refine sv_iand dJ1_charAt_3b067_12 ?_
  refine sv_i2c dJ1_charAt_3b067_13 rfl ?_
  refine sv_topE (v' := chF k j) (chF_ok k hk j hj).1 ?_
  exact se_nret rfl ⟨rfl, rfl⟩ dJ1_charAt_3b067_14 (chF_ok k hk j hj).2 rfl rfl
set_option maxRecDepth 100000 in
set_option maxHeartbeats 4000000 in
theorem e_J0_charAt_5068e (G : GT) (S : Nat → Nat → Int32) (L : Nat → Int64) (k : Nat) (hk : k < 9) (j : Nat) (hj : j < stL.getD k 0) : sE G yJ0_charAt_5068e R_J0_charAt_5068e cJ0_charAt_5068e 2 (some .char) [.ref (G.2.2.2.2.1 k), .int (nI j)] S L (some (.int (chF k j))) S L := by
  refine sE.of (by decide) (Nat.le_of_ble_eq_true rfl) ?_
  show sv_V G R_J0_charAt_5068e RJ0 "charAt" cJ0_charAt_5068e 2 (some .char) (sPo G R_J0_charAt_5068e (some (.int (chF k j))) S L) 0 0 197 (CF G S L) 0 [(0, .ref (G.2.2.2.2.1 k)), (1, .int (nI j))] []
  refine sv_aload_n 0 dJ0_charAt_5068e_0 rfl ?_
  refine cTi0 (e_J0_isLatin1_aae02 G _ _ _ hk) ⟨rfl, rfl⟩ rfl (sv_w5 ml_RJ0_492 im_J0_isLatin1_aae02 sl_J0_isLatin1_aae02 in_RJ0 cd_J0_isLatin1_aae02) nm_J0_isLatin1_aae02 ⟨Nat.le_of_ble_eq_true rfl, Nat.le_of_ble_eq_true rfl⟩ hk (Nat.le_of_ble_eq_true rfl) ⟨Nat.le_of_ble_eq_true rfl, Nat.le_of_ble_eq_true rfl⟩ dJ0_charAt_5068e_1 ?_
  refine sv_if_eq (tgt := 16) dJ0_charAt_5068e_4 (by decide) (fun z => absurd z (by decide)) (fun _ => ?_)
  refine sv_aload_n 0 dJ0_charAt_5068e_7 rfl ?_
  refine ss_value hk fl_RJ0_9 dJ0_charAt_5068e_8 ?_
  refine sv_iload_n 1 dJ0_charAt_5068e_11 rfl ?_
  refine cSi2 (e_J1_charAt_3b067 G _ _ _ hk _ hj) ⟨rfl, rfl⟩ (sv_w4 ml_RJ0_495 st_J1_charAt_3b067 in_RJ1 cd_J1_charAt_3b067) nm_J1_charAt_3b067 ⟨Nat.le_of_ble_eq_true rfl, Nat.le_of_ble_eq_true rfl⟩ (Nat.le_of_ble_eq_true rfl) ⟨Nat.le_of_ble_eq_true rfl, Nat.le_of_ble_eq_true rfl⟩ dJ0_charAt_5068e_12 ?_
  exact se_nret rfl ⟨rfl, rfl⟩ dJ0_charAt_5068e_15 (chF_ok k hk j hj).2 rfl rfl
def kiL (c : Int32) : Nat → Nat → Int32
  | 0, _ => -1
  | m + 1, j => if chF 0 j = c then nI j else kiL c m (j + 1)
def kiF (c : Int32) : Int32 := if (¬ c < 0 ∧ ¬ 255 < c) then kiL c.toInt8.toInt32 12 0 else -1
set_option maxRecDepth 100000 in
set_option maxHeartbeats 4000000 in
theorem e_J1_canEncode_9a6ad (G : GT) (S : Nat → Nat → Int32) (L : Nat → Int64) (c : Int32) : sE G yJ1_canEncode_9a6ad R_J1_canEncode_9a6ad cJ1_canEncode_9a6ad 1 (some .boolean) [.int c] S L (some (.int (if (¬ c < 0 ∧ ¬ 255 < c) then 1 else 0))) S L := by
  refine sE.of (by decide) (Nat.le_of_ble_eq_true rfl) ?_
  show sv_V G R_J1_canEncode_9a6ad RJ1 "canEncode" cJ1_canEncode_9a6ad 1 (some .boolean) (sPo G R_J1_canEncode_9a6ad (some (.int (if (¬ c < 0 ∧ ¬ 255 < c) then 1 else 0))) S L) 0 0 197 (CF G S L) 0 [(0, .int c)] []
  refine sv_iload_n 0 dJ1_canEncode_9a6ad_0 rfl ?_
  refine sv_if_lt (tgt := 15) dJ1_canEncode_9a6ad_1 (by decide) (fun c1 => ?_) (fun c1 => ?_)
  · -- jump
    refine sv_iconst (v := 0) dJ1_canEncode_9a6ad_15 (by decide) ?_
    exact se_zret rfl ⟨rfl, rfl⟩ dJ1_canEncode_9a6ad_16 (by rfl) (by simp [c1]) rfl
  · -- fall
    refine sv_iload_n 0 dJ1_canEncode_9a6ad_4 rfl ?_
    refine sv_sipush (v := 255) dJ1_canEncode_9a6ad_5 (by decide) ?_
    refine sv_icmp_gt (tgt := 15) dJ1_canEncode_9a6ad_8 (by decide) (fun c8 => ?_) (fun c8 => ?_)
    · -- jump
      refine sv_iconst (v := 0) dJ1_canEncode_9a6ad_15 (by decide) ?_
      exact se_zret rfl ⟨rfl, rfl⟩ dJ1_canEncode_9a6ad_16 (by rfl) (by simp [c1, c8]) rfl
    · -- fall
      refine sv_iconst (v := 1) dJ1_canEncode_9a6ad_11 (by decide) ?_
      refine sv_goto (tgt := 16) dJ1_canEncode_9a6ad_12 (by decide) ?_
      exact se_zret rfl ⟨rfl, rfl⟩ dJ1_canEncode_9a6ad_16 (by rfl) (by simp [c1, c8]) rfl
set_option maxRecDepth 100000 in
set_option maxHeartbeats 4000000 in
theorem l_J1_indexOfChar_4cfef (G : GT) (S : Nat → Nat → Int32) (L : Nat → Int64) (c : Int32) : ∀ (m j : Nat) (ls : List (Nat × Value)), 12 - j = m → j ≤ 12 → sv_V G R_J1_indexOfChar_4cfef RJ1 "indexOfChar" cJ1_indexOfChar_4cfef 6 (some .int) (sPo G R_J1_indexOfChar_4cfef (some (.int (kiL c m j))) S L) 0 0 197 (CF G S L) 7 [(5, .int (nI j)), (4, .int c), (0, .ref (G.2.2.2.2.2 0)), (3, .int (nI 12))] [] := by
  intro m
  induction m using Nat.strongRecOn
  rename_i m ih
  intro j _ hm hj
  refine sv_iload 0 dJ1_indexOfChar_4cfef_7 rfl ?_
  refine sv_iload_n 3 dJ1_indexOfChar_4cfef_9 rfl ?_
  refine sv_icmp_ge (tgt := 31) dJ1_indexOfChar_4cfef_10 (by decide) (fun c10 => ?_) (fun c10 => ?_)
  · -- jump
    obtain rfl : m = 0 := by have := (nI_leI (a := 12) (b := j) (by omega) (by omega)).mp c10; omega
    refine sv_iconst (v := (-1)) dJ1_indexOfChar_4cfef_31 (by decide) ?_
    exact se_iret rfl ⟨rfl, rfl⟩ dJ1_indexOfChar_4cfef_32 rfl rfl
  · -- fall
    have hlt : j < 12 := Nat.lt_of_not_le (fun z => c10 (nI_le (a := 12) z (by omega)))
    obtain ⟨m2, rfl⟩ : ∃ k, m = k + 1 := ⟨m - 1, by omega⟩
    rw [kiL]
    refine sv_aload_n 2 dJ1_indexOfChar_4cfef_13 rfl ?_
    refine sv_iload 0 dJ1_indexOfChar_4cfef_14 rfl ?_
    refine ss_byte (by decide) j rfl hlt (by decide) dJ1_indexOfChar_4cfef_16 ?_
    refine sv_iload 1 dJ1_indexOfChar_4cfef_17 rfl ?_
    refine sv_icmp_ne (tgt := 25) dJ1_indexOfChar_4cfef_19 (by decide) (fun c19 => ?_) (fun c19 => ?_)
    · -- jump
      refine sv_iinc 0 (ls' := [(5, _), (4, _), (0, _), (3, _)]) dJ1_indexOfChar_4cfef_25 rfl (nI_1 _) (by decide) rfl ?_
      refine sv_goto (tgt := 7) dJ1_indexOfChar_4cfef_28 (by decide) ?_
      rw [if_neg (show ¬ chF 0 j = c from c19)]
      exact ih m2 (by omega) (j + 1) [] (by omega) (by omega)
    · -- fall
      refine sv_iload 0 dJ1_indexOfChar_4cfef_22 rfl ?_
      exact se_iret rfl ⟨rfl, rfl⟩ dJ1_indexOfChar_4cfef_24 (by rw [if_pos (show chF 0 j = c from c19)]) rfl
set_option maxRecDepth 100000 in
set_option maxHeartbeats 4000000 in
theorem e_J1_indexOfChar_4cfef (G : GT) (S : Nat → Nat → Int32) (L : Nat → Int64) (c : Int32) : sE G yJ1_indexOfChar_4cfef R_J1_indexOfChar_4cfef cJ1_indexOfChar_4cfef 6 (some .int) [.ref (G.2.2.2.2.2 0), .int c, .int (nI 0), .int (nI 12)] S L (some (.int (kiL c.toInt8.toInt32 12 0))) S L := by
  refine sE.of (by decide) (Nat.le_of_ble_eq_true rfl) ?_
  show sv_V G R_J1_indexOfChar_4cfef RJ1 "indexOfChar" cJ1_indexOfChar_4cfef 6 (some .int) (sPo G R_J1_indexOfChar_4cfef (some (.int (kiL c.toInt8.toInt32 12 0))) S L) 0 0 197 (CF G S L) 0 [(0, .ref (G.2.2.2.2.2 0)), (1, .int c), (2, .int (nI 0)), (3, .int (nI 12))] []
  refine sv_iload_n 1 dJ1_indexOfChar_4cfef_0 rfl ?_
  refine sv_i2b dJ1_indexOfChar_4cfef_1 rfl ?_
  refine sv_istore (ls' := [(4, _), (0, _), (1, _), (2, _), (3, _)]) dJ1_indexOfChar_4cfef_2 (by decide) rfl ?_
  refine sv_iload_n 3 dJ1_indexOfChar_4cfef_4 rfl ?_
  refine sv_istore (ls' := [(5, _), (4, _), (0, _), (1, _), (2, _), (3, _)]) dJ1_indexOfChar_4cfef_5 (by decide) rfl ?_
  refine sv_locals [0, 1, 2, 5] rfl ?_
  exact l_J1_indexOfChar_4cfef G S L _ 12 0 [] rfl (by omega)
set_option maxRecDepth 100000 in
set_option maxHeartbeats 4000000 in
theorem e_J1_indexOf_4cfef (G : GT) (S : Nat → Nat → Int32) (L : Nat → Int64) (c : Int32) : sE G yJ1_indexOf_4cfef R_J1_indexOf_4cfef cJ1_indexOf_4cfef 4 (some .int) [.ref (G.2.2.2.2.2 0), .int c, .int 0, .int (nI 12)] S L (some (.int (kiF c))) S L := by
  refine sE.of (by decide) (Nat.le_of_ble_eq_true rfl) ?_
  show sv_V G R_J1_indexOf_4cfef RJ1 "indexOf" cJ1_indexOf_4cfef 4 (some .int) (sPo G R_J1_indexOf_4cfef (some (.int (kiF c))) S L) 0 0 197 (CF G S L) 0 [(0, .ref (G.2.2.2.2.2 0)), (1, .int c), (2, .int 0), (3, .int (nI 12))] []
  refine sv_iload_n 1 dJ1_indexOf_4cfef_0 rfl ?_
  refine cSi1 (e_J1_canEncode_9a6ad G _ _ _) ⟨rfl, rfl⟩ (sv_w4 ml_RJ1_88 st_J1_canEncode_9a6ad in_RJ1 cd_J1_canEncode_9a6ad) nm_J1_canEncode_9a6ad ⟨Nat.le_of_ble_eq_true rfl, Nat.le_of_ble_eq_true rfl⟩ (Nat.le_of_ble_eq_true rfl) ⟨Nat.le_of_ble_eq_true rfl, Nat.le_of_ble_eq_true rfl⟩ dJ1_indexOf_4cfef_1 ?_
  refine sv_ifne_b (tgt := 9) dJ1_indexOf_4cfef_4 (by decide) (fun c4 => ?_) (fun c4 => ?_)
  · -- jump
    refine sv_iload_n 2 dJ1_indexOf_4cfef_9 rfl ?_
    refine sv_iconst (v := 0) dJ1_indexOf_4cfef_10 (by decide) ?_
    refine sx_max ml_RJ1_92 (by decide) (Nat.le_of_ble_eq_true rfl) ⟨Nat.le_of_ble_eq_true rfl, Nat.le_of_ble_eq_true rfl⟩ dJ1_indexOf_4cfef_11 ?_
    refine sv_topE (v' := 0) (by decide) ?_
    refine sv_istore_n (ls' := [(2, _), (0, _), (1, _), (3, _)]) dJ1_indexOf_4cfef_14 (by decide) rfl ?_
    refine sv_iload_n 3 dJ1_indexOf_4cfef_15 rfl ?_
    refine sv_aload_n 1 dJ1_indexOf_4cfef_16 rfl ?_
    refine ss_len (by decide) dJ1_indexOf_4cfef_17 ?_
    refine sx_min ml_RJ1_38 (by decide) (Nat.le_of_ble_eq_true rfl) ⟨Nat.le_of_ble_eq_true rfl, Nat.le_of_ble_eq_true rfl⟩ dJ1_indexOf_4cfef_18 ?_
    refine sv_topE (v' := nI 12) (by decide) ?_
    refine sv_istore_n (ls' := [(3, _), (2, _), (0, _), (1, _)]) dJ1_indexOf_4cfef_21 (by decide) rfl ?_
    refine sv_iload_n 1 dJ1_indexOf_4cfef_22 rfl ?_
    refine sv_iload_n 0 dJ1_indexOf_4cfef_23 rfl ?_
    refine sv_icmp_lt (tgt := 29) dJ1_indexOf_4cfef_24 (by decide) (fun c24 => ?_) (fun c24 => ?_)
    · -- jump
      refine sv_aload_n 2 dJ1_indexOf_4cfef_29 rfl ?_
      refine sv_iload_n 3 dJ1_indexOf_4cfef_30 rfl ?_
      refine sv_iload_n 1 dJ1_indexOf_4cfef_31 rfl ?_
      refine sv_iload_n 0 dJ1_indexOf_4cfef_32 rfl ?_
      refine cSi4 (e_J1_indexOfChar_4cfef G _ _ _) ⟨rfl, rfl⟩ (sv_w4 ml_RJ1_95 st_J1_indexOfChar_4cfef in_RJ1 cd_J1_indexOfChar_4cfef) nm_J1_indexOfChar_4cfef ⟨Nat.le_of_ble_eq_true rfl, Nat.le_of_ble_eq_true rfl⟩ (Nat.le_of_ble_eq_true rfl) ⟨Nat.le_of_ble_eq_true rfl, Nat.le_of_ble_eq_true rfl⟩ dJ1_indexOf_4cfef_33 ?_
      exact se_iret rfl ⟨rfl, rfl⟩ dJ1_indexOf_4cfef_36 (by rw [kiF, if_pos c4]) rfl
    · -- fall
      exact absurd (by decide) c24
  · -- fall
    refine sv_iconst (v := (-1)) dJ1_indexOf_4cfef_7 (by decide) ?_
    exact se_iret rfl ⟨rfl, rfl⟩ dJ1_indexOf_4cfef_8 (by rw [kiF, if_neg c4]) rfl
set_option maxRecDepth 100000 in
set_option maxHeartbeats 4000000 in
theorem e_J0_indexOf_7cf53 (G : GT) (S : Nat → Nat → Int32) (L : Nat → Int64) (c : Int32) : sE G yJ0_indexOf_7cf53 R_J0_indexOf_7cf53 cJ0_indexOf_7cf53 3 (some .int) [.ref (G.2.2.2.2.1 0), .int c, .int 0] S L (some (.int (kiF c))) S L := by
  refine sE.of (by decide) (Nat.le_of_ble_eq_true rfl) ?_
  show sv_V G R_J0_indexOf_7cf53 RJ0 "indexOf" cJ0_indexOf_7cf53 3 (some .int) (sPo G R_J0_indexOf_7cf53 (some (.int (kiF c))) S L) 0 0 197 (CF G S L) 0 [(0, .ref (G.2.2.2.2.1 0)), (1, .int c), (2, .int 0)] []
  refine sv_aload_n 0 dJ0_indexOf_7cf53_0 rfl ?_
  refine cTi0 (e_J0_isLatin1_aae02 G _ _ _ (by decide)) ⟨rfl, rfl⟩ rfl (sv_w5 ml_RJ0_492 im_J0_isLatin1_aae02 sl_J0_isLatin1_aae02 in_RJ0 cd_J0_isLatin1_aae02) nm_J0_isLatin1_aae02 ⟨Nat.le_of_ble_eq_true rfl, Nat.le_of_ble_eq_true rfl⟩ (by decide) (Nat.le_of_ble_eq_true rfl) ⟨Nat.le_of_ble_eq_true rfl, Nat.le_of_ble_eq_true rfl⟩ dJ0_indexOf_7cf53_1 ?_
  refine sv_if_eq (tgt := 23) dJ0_indexOf_7cf53_4 (by decide) (fun z => absurd z (by decide)) (fun _ => ?_)
  refine sv_aload_n 0 dJ0_indexOf_7cf53_7 rfl ?_
  refine ss_value (by decide) fl_RJ0_9 dJ0_indexOf_7cf53_8 ?_
  refine sv_iload_n 1 dJ0_indexOf_7cf53_11 rfl ?_
  refine sv_iload_n 2 dJ0_indexOf_7cf53_12 rfl ?_
  refine sv_aload_n 0 dJ0_indexOf_7cf53_13 rfl ?_
  refine cTi0 (e_J0_length_8abf5 G _ _ _ (by decide)) ⟨rfl, rfl⟩ rfl (sv_w5 ml_RJ0_505 im_J0_length_8abf5 sl_J0_length_8abf5 in_RJ0 cd_J0_length_8abf5) nm_J0_length_8abf5 ⟨Nat.le_of_ble_eq_true rfl, Nat.le_of_ble_eq_true rfl⟩ (by decide) (Nat.le_of_ble_eq_true rfl) ⟨Nat.le_of_ble_eq_true rfl, Nat.le_of_ble_eq_true rfl⟩ dJ0_indexOf_7cf53_14 ?_
  refine cSi4 (e_J1_indexOf_4cfef G _ _ _) ⟨rfl, rfl⟩ (sv_w4 ml_RJ0_637 st_J1_indexOf_4cfef in_RJ1 cd_J1_indexOf_4cfef) nm_J1_indexOf_4cfef ⟨Nat.le_of_ble_eq_true rfl, Nat.le_of_ble_eq_true rfl⟩ (Nat.le_of_ble_eq_true rfl) ⟨Nat.le_of_ble_eq_true rfl, Nat.le_of_ble_eq_true rfl⟩ dJ0_indexOf_7cf53_17 ?_
  refine sv_goto (tgt := 36) dJ0_indexOf_7cf53_20 (by decide) ?_
  exact se_iret rfl ⟨rfl, rfl⟩ dJ0_indexOf_7cf53_36 rfl rfl
set_option maxRecDepth 100000 in
set_option maxHeartbeats 4000000 in
theorem e_J0_indexOf_0f7a4 (G : GT) (S : Nat → Nat → Int32) (L : Nat → Int64) (c : Int32) : sE G yJ0_indexOf_0f7a4 R_J0_indexOf_0f7a4 cJ0_indexOf_0f7a4 2 (some .int) [.ref (G.2.2.2.2.1 0), .int c] S L (some (.int (kiF c))) S L := by
  refine sE.of (by decide) (Nat.le_of_ble_eq_true rfl) ?_
  show sv_V G R_J0_indexOf_0f7a4 RJ0 "indexOf" cJ0_indexOf_0f7a4 2 (some .int) (sPo G R_J0_indexOf_0f7a4 (some (.int (kiF c))) S L) 0 0 197 (CF G S L) 0 [(0, .ref (G.2.2.2.2.1 0)), (1, .int c)] []
  refine sv_aload_n 0 dJ0_indexOf_0f7a4_0 rfl ?_
  refine sv_iload_n 1 dJ0_indexOf_0f7a4_1 rfl ?_
  refine sv_iconst (v := 0) dJ0_indexOf_0f7a4_2 (by decide) ?_
  refine cTi2 (e_J0_indexOf_7cf53 G _ _ _) ⟨rfl, rfl⟩ rfl (sv_w5 ml_RJ0_633 im_J0_indexOf_7cf53 sl_J0_indexOf_7cf53 in_RJ0 cd_J0_indexOf_7cf53) nm_J0_indexOf_7cf53 ⟨Nat.le_of_ble_eq_true rfl, Nat.le_of_ble_eq_true rfl⟩ (by decide) (Nat.le_of_ble_eq_true rfl) ⟨Nat.le_of_ble_eq_true rfl, Nat.le_of_ble_eq_true rfl⟩ dJ0_indexOf_0f7a4_3 ?_
  exact se_iret rfl ⟨rfl, rfl⟩ dJ0_indexOf_0f7a4_6 rfl rfl
def dgF (S : Nat → Nat → Int32) (a : Nat) : Int32 := S 2 a - 48
def dsF (S : Nat → Nat → Int32) (a : Nat) : Int32 := if S 2 a = 45 then - dgF S (a + 1) else dgF S (a + 1)
abbrev fitP (S : Nat → Nat → Int32) (sg : Int32) (a : Nat) : Prop :=
  if sg = 109 then ¬ S 2 a < 48 ∧ ¬ 55 < S 2 a else if sg = 114 then ¬ S 2 a < 48 ∧ ¬ 51 < S 2 a else if sg = 115 then S 2 a = 43 ∨ S 2 a = 45 else if sg = 116 then S 2 a = 48 ∨ S 2 a = 49 else if sg = 117 then ¬ S 2 a < 48 ∧ ¬ (if S 2 (a - 1) = 49 then 53 else 57) < S 2 a else ¬ S 2 a < 48 ∧ ¬ 57 < S 2 a
def fkF (c : Int32) : Nat := if c = 43 then 2 else if c = 45 then 2 else if c = 99 then 6 else if c = 105 then 1 else if c = 106 then 4 else if c = 107 then 7 else if c = 108 then 3 else if c = 111 then 7 else if c = 115 then 3 else if c = 122 then 5 else 8
theorem fkF_lt (c : Int32) : fkF c < 9 := by
  unfold fkF
  repeat' split
  all_goals decide
set_option maxRecDepth 100000 in
set_option maxHeartbeats 4000000 in
theorem e_X8_digit (G : GT) (S : Nat → Nat → Int32) (L : Nat → Int64) (a : Nat) (ha : a < 80) : sE G yX8_digit R_X8_digit cX8_digit 2 (some .int) [.ref (gB G + 1), .int (nI a)] S L (some (.int (dgF S a))) S L := by
  refine sE.of (by decide) (Nat.le_of_ble_eq_true rfl) ?_
  show sv_V G R_X8_digit RX8 "digit" cX8_digit 2 (some .int) (sPo G R_X8_digit (some (.int (dgF S a))) S L) 0 0 197 (CF G S L) 0 [(0, .ref (gB G + 1)), (1, .int (nI a))] []
  refine sv_aload_n 0 dX8_digit_0 rfl ?_
  refine sg_8_0 sh_1 fl_RX8_9 dX8_digit_1 ?_
  refine sv_iload_n 1 dX8_digit_4 rfl ?_
  refine sx_ild sh_2 a rfl (by omega) dX8_digit_5 ?_
  refine sv_bipush (v := 48) dX8_digit_6 (by decide) ?_
  refine sv_isub dX8_digit_8 ?_
  exact se_iret rfl ⟨rfl, rfl⟩ dX8_digit_9 rfl rfl
theorem e_digN (G : GT) (S : Nat → Nat → Int32) (L : Nat → Int64) (x : Int32) (a : Nat) (hx : x = nI a) (ha : a < 80) : sE G yX8_digit R_X8_digit cX8_digit 2 (some .int) [.ref (gB G + 1), .int x] S L (some (.int (dgF S a))) S L := by subst hx; exact e_X8_digit G S L a ha
set_option maxRecDepth 100000 in
set_option maxHeartbeats 4000000 in
theorem e_X8_distance (G : GT) (S : Nat → Nat → Int32) (L : Nat → Int64) (a : Nat) (ha : a + 1 < 80) : sE G yX8_distance R_X8_distance cX8_distance 2 (some .int) [.ref (gB G + 1), .int (nI a)] S L (some (.int (dsF S a))) S L := by
  refine sE.of (by decide) (Nat.le_of_ble_eq_true rfl) ?_
  show sv_V G R_X8_distance RX8 "distance" cX8_distance 2 (some .int) (sPo G R_X8_distance (some (.int (dsF S a))) S L) 0 0 197 (CF G S L) 0 [(0, .ref (gB G + 1)), (1, .int (nI a))] []
  refine sv_aload_n 0 dX8_distance_0 rfl ?_
  refine sg_8_0 sh_1 fl_RX8_9 dX8_distance_1 ?_
  refine sv_iload_n 1 dX8_distance_4 rfl ?_
  refine sx_ild sh_2 a rfl (by omega) dX8_distance_5 ?_
  refine sv_bipush (v := 45) dX8_distance_6 (by decide) ?_
  refine sv_icmp_ne (tgt := 22) dX8_distance_8 (by decide) (fun c8 => ?_) (fun c8 => ?_)
  · -- jump
    refine sv_aload_n 0 dX8_distance_22 rfl ?_
    refine sv_iload_n 1 dX8_distance_23 rfl ?_
    refine sv_iconst (v := 1) dX8_distance_24 (by decide) ?_
    refine sv_iadd dX8_distance_25 ?_
    refine cVi1 (e_digN G _ _ _ (a + 1) (nI_1 a) ha) ⟨rfl, rfl⟩ (sv_w5 ml_RX8_78 im_X8_digit sl_X8_digit in_RX8 cd_X8_digit) nm_X8_digit ⟨Nat.le_of_ble_eq_true rfl, Nat.le_of_ble_eq_true rfl⟩ rfl (CF_8 sh_1) (shp_lt sh_1 (by simp)) (Nat.le_of_ble_eq_true rfl) ⟨Nat.le_of_ble_eq_true rfl, Nat.le_of_ble_eq_true rfl⟩ dX8_distance_26 ?_
    exact se_iret rfl ⟨rfl, rfl⟩ dX8_distance_29 (by rw [dsF, if_neg c8]) rfl
  · -- fall
    refine sv_aload_n 0 dX8_distance_11 rfl ?_
    refine sv_iload_n 1 dX8_distance_12 rfl ?_
    refine sv_iconst (v := 1) dX8_distance_13 (by decide) ?_
    refine sv_iadd dX8_distance_14 ?_
    refine cVi1 (e_digN G _ _ _ (a + 1) (nI_1 a) ha) ⟨rfl, rfl⟩ (sv_w5 ml_RX8_78 im_X8_digit sl_X8_digit in_RX8 cd_X8_digit) nm_X8_digit ⟨Nat.le_of_ble_eq_true rfl, Nat.le_of_ble_eq_true rfl⟩ rfl (CF_8 sh_1) (shp_lt sh_1 (by simp)) (Nat.le_of_ble_eq_true rfl) ⟨Nat.le_of_ble_eq_true rfl, Nat.le_of_ble_eq_true rfl⟩ dX8_distance_15 ?_
    refine sv_ineg dX8_distance_18 ?_
    refine sv_goto (tgt := 29) dX8_distance_19 (by decide) ?_
    exact se_iret rfl ⟨rfl, rfl⟩ dX8_distance_29 (by rw [dsF, if_pos c8]) rfl
theorem e_disN (G : GT) (S : Nat → Nat → Int32) (L : Nat → Int64) (x : Int32) (a : Nat) (hx : x = nI a) (ha : a + 1 < 80) : sE G yX8_distance R_X8_distance cX8_distance 2 (some .int) [.ref (gB G + 1), .int x] S L (some (.int (dsF S a))) S L := by subst hx; exact e_X8_distance G S L a ha
set_option maxRecDepth 100000 in
set_option maxHeartbeats 4000000 in
theorem e_X8_fits (G : GT) (S : Nat → Nat → Int32) (L : Nat → Int64) (sg : Int32) (a : Nat) (ha : a < 80) (ha0 : 0 < a) : sE G yX8_fits R_X8_fits cX8_fits 4 (some .boolean) [.ref (gB G + 1), .int sg, .int (nI a)] S L (some (.int (if (fitP S sg a) then 1 else 0))) S L := by
  refine sE.of (by decide) (Nat.le_of_ble_eq_true rfl) ?_
  show sv_V G R_X8_fits RX8 "fits" cX8_fits 4 (some .boolean) (sPo G R_X8_fits (some (.int (if (fitP S sg a) then 1 else 0))) S L) 0 0 197 (CF G S L) 0 [(0, .ref (gB G + 1)), (1, .int sg), (2, .int (nI a))] []
  refine sv_aload_n 0 dX8_fits_0 rfl ?_
  refine sg_8_0 sh_1 fl_RX8_9 dX8_fits_1 ?_
  refine sv_iload_n 2 dX8_fits_4 rfl ?_
  refine sx_ild sh_2 a rfl (by omega) dX8_fits_5 ?_
  refine sv_istore_n (ls' := [(3, _), (0, _), (1, _), (2, _)]) dX8_fits_6 (by decide) rfl ?_
  refine sv_iload_n 2 dX8_fits_7 rfl ?_
  refine sw_X8_fits_8 dX8_fits_8 (fun c8 => ?_) (fun c8 => ?_) (fun c8 => ?_) (fun c8 => ?_) (fun c8 => ?_) (fun c8 => ?_)
  · -- case 109
    refine sv_iload_n 0 dX8_fits_96 rfl ?_
    refine sv_bipush (v := 48) dX8_fits_97 (by decide) ?_
    refine sv_icmp_lt (tgt := 112) dX8_fits_99 (by decide) (fun c99 => ?_) (fun c99 => ?_)
    · -- jump
      refine sv_iconst (v := 0) dX8_fits_112 (by decide) ?_
      exact se_zret rfl ⟨rfl, rfl⟩ dX8_fits_113 (by rfl) (by subst c8; rw [if_neg (show ¬ fitP S 109 a from fun h => h.1 c99)]) rfl
    · -- fall
      refine sv_iload_n 0 dX8_fits_102 rfl ?_
      refine sv_bipush (v := 55) dX8_fits_103 (by decide) ?_
      refine sv_icmp_gt (tgt := 112) dX8_fits_105 (by decide) (fun c105 => ?_) (fun c105 => ?_)
      · -- jump
        refine sv_iconst (v := 0) dX8_fits_112 (by decide) ?_
        exact se_zret rfl ⟨rfl, rfl⟩ dX8_fits_113 (by rfl) (by subst c8; rw [if_neg (show ¬ fitP S 109 a from fun h => h.2 c105)]) rfl
      · -- fall
        refine sv_iconst (v := 1) dX8_fits_108 (by decide) ?_
        refine sv_goto (tgt := 113) dX8_fits_109 (by decide) ?_
        exact se_zret rfl ⟨rfl, rfl⟩ dX8_fits_113 (by rfl) (by subst c8; rw [if_pos (show fitP S 109 a from ⟨c99, c105⟩)]) rfl
  · -- case 114
    refine sv_iload_n 0 dX8_fits_78 rfl ?_
    refine sv_bipush (v := 48) dX8_fits_79 (by decide) ?_
    refine sv_icmp_lt (tgt := 94) dX8_fits_81 (by decide) (fun c81 => ?_) (fun c81 => ?_)
    · -- jump
      refine sv_iconst (v := 0) dX8_fits_94 (by decide) ?_
      exact se_zret rfl ⟨rfl, rfl⟩ dX8_fits_95 (by rfl) (by subst c8; rw [if_neg (show ¬ fitP S 114 a from fun h => h.1 c81)]) rfl
    · -- fall
      refine sv_iload_n 0 dX8_fits_84 rfl ?_
      refine sv_bipush (v := 51) dX8_fits_85 (by decide) ?_
      refine sv_icmp_gt (tgt := 94) dX8_fits_87 (by decide) (fun c87 => ?_) (fun c87 => ?_)
      · -- jump
        refine sv_iconst (v := 0) dX8_fits_94 (by decide) ?_
        exact se_zret rfl ⟨rfl, rfl⟩ dX8_fits_95 (by rfl) (by subst c8; rw [if_neg (show ¬ fitP S 114 a from fun h => h.2 c87)]) rfl
      · -- fall
        refine sv_iconst (v := 1) dX8_fits_90 (by decide) ?_
        refine sv_goto (tgt := 95) dX8_fits_91 (by decide) ?_
        exact se_zret rfl ⟨rfl, rfl⟩ dX8_fits_95 (by rfl) (by subst c8; rw [if_pos (show fitP S 114 a from ⟨c81, c87⟩)]) rfl
  · -- case 115
    refine sv_iload_n 0 dX8_fits_60 rfl ?_
    refine sv_bipush (v := 43) dX8_fits_61 (by decide) ?_
    refine sv_icmp_eq (tgt := 72) dX8_fits_63 (by decide) (fun c63 => ?_) (fun c63 => ?_)
    · -- jump
      refine sv_iconst (v := 1) dX8_fits_72 (by decide) ?_
      refine sv_goto (tgt := 77) dX8_fits_73 (by decide) ?_
      exact se_zret rfl ⟨rfl, rfl⟩ dX8_fits_77 (by rfl) (by subst c8; rw [if_pos (show fitP S 115 a from Or.inl c63)]) rfl
    · -- fall
      refine sv_iload_n 0 dX8_fits_66 rfl ?_
      refine sv_bipush (v := 45) dX8_fits_67 (by decide) ?_
      refine sv_icmp_ne (tgt := 76) dX8_fits_69 (by decide) (fun c69 => ?_) (fun c69 => ?_)
      · -- jump
        refine sv_iconst (v := 0) dX8_fits_76 (by decide) ?_
        exact se_zret rfl ⟨rfl, rfl⟩ dX8_fits_77 (by rfl) (by subst c8; rw [if_neg (show ¬ fitP S 115 a from fun h => h.elim c63 c69)]) rfl
      · -- fall
        refine sv_iconst (v := 1) dX8_fits_72 (by decide) ?_
        refine sv_goto (tgt := 77) dX8_fits_73 (by decide) ?_
        exact se_zret rfl ⟨rfl, rfl⟩ dX8_fits_77 (by rfl) (by subst c8; rw [if_pos (show fitP S 115 a from Or.inr c69)]) rfl
  · -- case 116
    refine sv_iload_n 0 dX8_fits_114 rfl ?_
    refine sv_bipush (v := 48) dX8_fits_115 (by decide) ?_
    refine sv_icmp_eq (tgt := 126) dX8_fits_117 (by decide) (fun c117 => ?_) (fun c117 => ?_)
    · -- jump
      refine sv_iconst (v := 1) dX8_fits_126 (by decide) ?_
      refine sv_goto (tgt := 131) dX8_fits_127 (by decide) ?_
      exact se_zret rfl ⟨rfl, rfl⟩ dX8_fits_131 (by rfl) (by subst c8; rw [if_pos (show fitP S 116 a from Or.inl c117)]) rfl
    · -- fall
      refine sv_iload_n 0 dX8_fits_120 rfl ?_
      refine sv_bipush (v := 49) dX8_fits_121 (by decide) ?_
      refine sv_icmp_ne (tgt := 130) dX8_fits_123 (by decide) (fun c123 => ?_) (fun c123 => ?_)
      · -- jump
        refine sv_iconst (v := 0) dX8_fits_130 (by decide) ?_
        exact se_zret rfl ⟨rfl, rfl⟩ dX8_fits_131 (by rfl) (by subst c8; rw [if_neg (show ¬ fitP S 116 a from fun h => h.elim c117 c123)]) rfl
      · -- fall
        refine sv_iconst (v := 1) dX8_fits_126 (by decide) ?_
        refine sv_goto (tgt := 131) dX8_fits_127 (by decide) ?_
        exact se_zret rfl ⟨rfl, rfl⟩ dX8_fits_131 (by rfl) (by subst c8; rw [if_pos (show fitP S 116 a from Or.inr c123)]) rfl
  · -- case 117
    refine sv_iload_n 0 dX8_fits_132 rfl ?_
    refine sv_bipush (v := 48) dX8_fits_133 (by decide) ?_
    refine sv_icmp_lt (tgt := 166) dX8_fits_135 (by decide) (fun c135 => ?_) (fun c135 => ?_)
    · -- jump
      refine sv_iconst (v := 0) dX8_fits_166 (by decide) ?_
      exact se_zret rfl ⟨rfl, rfl⟩ dX8_fits_167 (by rfl) (by subst c8; rw [if_neg (show ¬ fitP S 117 a from fun h => h.1 c135)]) rfl
    · -- fall
      refine sv_iload_n 0 dX8_fits_138 rfl ?_
      refine sv_aload_n 1 dX8_fits_139 rfl ?_
      refine sg_8_0 sh_1 fl_RX8_9 dX8_fits_140 ?_
      refine sv_iload_n 3 dX8_fits_143 rfl ?_
      refine sv_iconst (v := 1) dX8_fits_144 (by decide) ?_
      refine sv_isub dX8_fits_145 ?_
      refine sx_ild sh_2 (a - 1) (by obtain ⟨b, rfl⟩ : ∃ b, a = b + 1 := ⟨a - 1, by omega⟩; exact nI_pred b) (by omega) dX8_fits_146 ?_
      refine sv_bipush (v := 49) dX8_fits_147 (by decide) ?_
      refine sv_icmp_ne (tgt := 157) dX8_fits_149 (by decide) (fun c149 => ?_) (fun c149 => ?_)
      · -- jump
        refine sv_bipush (v := 57) dX8_fits_157 (by decide) ?_
        refine sv_icmp_gt (tgt := 166) dX8_fits_159 (by decide) (fun c159 => ?_) (fun c159 => ?_)
        · -- jump
          refine sv_iconst (v := 0) dX8_fits_166 (by decide) ?_
          exact se_zret rfl ⟨rfl, rfl⟩ dX8_fits_167 (by rfl) (by subst c8; rw [if_neg (show ¬ fitP S 117 a from fun h => h.2 (by rw [if_neg c149]; exact c159))]) rfl
        · -- fall
          refine sv_iconst (v := 1) dX8_fits_162 (by decide) ?_
          refine sv_goto (tgt := 167) dX8_fits_163 (by decide) ?_
          exact se_zret rfl ⟨rfl, rfl⟩ dX8_fits_167 (by rfl) (by subst c8; rw [if_pos (show fitP S 117 a from ⟨c135, by rw [if_neg c149]; exact c159⟩)]) rfl
      · -- fall
        refine sv_bipush (v := 53) dX8_fits_152 (by decide) ?_
        refine sv_goto (tgt := 159) dX8_fits_154 (by decide) ?_
        refine sv_icmp_gt (tgt := 166) dX8_fits_159 (by decide) (fun c159 => ?_) (fun c159 => ?_)
        · -- jump
          refine sv_iconst (v := 0) dX8_fits_166 (by decide) ?_
          exact se_zret rfl ⟨rfl, rfl⟩ dX8_fits_167 (by rfl) (by subst c8; rw [if_neg (show ¬ fitP S 117 a from fun h => h.2 (by rw [if_pos c149]; exact c159))]) rfl
        · -- fall
          refine sv_iconst (v := 1) dX8_fits_162 (by decide) ?_
          refine sv_goto (tgt := 167) dX8_fits_163 (by decide) ?_
          exact se_zret rfl ⟨rfl, rfl⟩ dX8_fits_167 (by rfl) (by subst c8; rw [if_pos (show fitP S 117 a from ⟨c135, by rw [if_pos c149]; exact c159⟩)]) rfl
  · -- case None
    refine sv_iload_n 0 dX8_fits_168 rfl ?_
    refine sv_bipush (v := 48) dX8_fits_169 (by decide) ?_
    refine sv_icmp_lt (tgt := 184) dX8_fits_171 (by decide) (fun c171 => ?_) (fun c171 => ?_)
    · -- jump
      refine sv_iconst (v := 0) dX8_fits_184 (by decide) ?_
      exact se_zret rfl ⟨rfl, rfl⟩ dX8_fits_185 (by rfl) (by obtain ⟨z1, z2, z3, z4, z5⟩ := c8; rw [if_neg (show ¬ fitP S sg a from by simp only [fitP, z1, z2, z3, z4, z5, ↓reduceIte]; exact fun h => h.1 c171)]) rfl
    · -- fall
      refine sv_iload_n 0 dX8_fits_174 rfl ?_
      refine sv_bipush (v := 57) dX8_fits_175 (by decide) ?_
      refine sv_icmp_gt (tgt := 184) dX8_fits_177 (by decide) (fun c177 => ?_) (fun c177 => ?_)
      · -- jump
        refine sv_iconst (v := 0) dX8_fits_184 (by decide) ?_
        exact se_zret rfl ⟨rfl, rfl⟩ dX8_fits_185 (by rfl) (by obtain ⟨z1, z2, z3, z4, z5⟩ := c8; rw [if_neg (show ¬ fitP S sg a from by simp only [fitP, z1, z2, z3, z4, z5, ↓reduceIte]; exact fun h => h.2 c177)]) rfl
      · -- fall
        refine sv_iconst (v := 1) dX8_fits_180 (by decide) ?_
        refine sv_goto (tgt := 185) dX8_fits_181 (by decide) ?_
        exact se_zret rfl ⟨rfl, rfl⟩ dX8_fits_185 (by rfl) (by obtain ⟨z1, z2, z3, z4, z5⟩ := c8; rw [if_pos (show fitP S sg a from by simp only [fitP, z1, z2, z3, z4, z5, ↓reduceIte]; exact ⟨c171, c177⟩)]) rfl
set_option maxRecDepth 100000 in
set_option maxHeartbeats 4000000 in
theorem e_X8_formOf (G : GT) (S : Nat → Nat → Int32) (L : Nat → Int64) (c : Int32) : sE G yX8_formOf R_X8_formOf cX8_formOf 1 (some (.object "java/lang/String")) [.int c] S L (some (.ref (G.2.2.2.2.1 (fkF c)))) S L := by
  refine sE.of (by decide) (Nat.le_of_ble_eq_true rfl) ?_
  show sv_V G R_X8_formOf RX8 "formOf" cX8_formOf 1 (some (.object "java/lang/String")) (sPo G R_X8_formOf (some (.ref (G.2.2.2.2.1 (fkF c)))) S L) 0 0 197 (CF G S L) 0 [(0, .int c)] []
  refine sv_iload_n 0 dX8_formOf_0 rfl ?_
  refine sw_X8_formOf_1 dX8_formOf_1 (fun c1 => ?_) (fun c1 => ?_) (fun c1 => ?_) (fun c1 => ?_) (fun c1 => ?_) (fun c1 => ?_) (fun c1 => ?_) (fun c1 => ?_) (fun c1 => ?_) (fun c1 => ?_) (fun c1 => ?_)
  · -- case 43
    refine ss_ldc 2 (by decide) rfl rfl dX8_formOf_95 ?_
    exact se_aret rfl ⟨rfl, rfl⟩ dX8_formOf_97 (by subst c1; rfl) rfl
  · -- case 45
    refine ss_ldc 2 (by decide) rfl rfl dX8_formOf_98 ?_
    exact se_aret rfl ⟨rfl, rfl⟩ dX8_formOf_100 (by subst c1; rfl) rfl
  · -- case 99
    refine ss_ldc 6 (by decide) rfl rfl dX8_formOf_113 ?_
    exact se_aret rfl ⟨rfl, rfl⟩ dX8_formOf_115 (by subst c1; rfl) rfl
  · -- case 105
    refine ss_ldc 1 (by decide) rfl rfl dX8_formOf_92 ?_
    exact se_aret rfl ⟨rfl, rfl⟩ dX8_formOf_94 (by subst c1; rfl) rfl
  · -- case 106
    refine ss_ldc 4 (by decide) rfl rfl dX8_formOf_107 ?_
    exact se_aret rfl ⟨rfl, rfl⟩ dX8_formOf_109 (by subst c1; rfl) rfl
  · -- case 107
    refine ss_ldc 7 (by decide) rfl rfl dX8_formOf_116 ?_
    exact se_aret rfl ⟨rfl, rfl⟩ dX8_formOf_118 (by subst c1; rfl) rfl
  · -- case 108
    refine ss_ldc 3 (by decide) rfl rfl dX8_formOf_101 ?_
    exact se_aret rfl ⟨rfl, rfl⟩ dX8_formOf_103 (by subst c1; rfl) rfl
  · -- case 111
    refine ss_ldc 7 (by decide) rfl rfl dX8_formOf_119 ?_
    exact se_aret rfl ⟨rfl, rfl⟩ dX8_formOf_121 (by subst c1; rfl) rfl
  · -- case 115
    refine ss_ldc 3 (by decide) rfl rfl dX8_formOf_104 ?_
    exact se_aret rfl ⟨rfl, rfl⟩ dX8_formOf_106 (by subst c1; rfl) rfl
  · -- case 122
    refine ss_ldc 5 (by decide) rfl rfl dX8_formOf_110 ?_
    exact se_aret rfl ⟨rfl, rfl⟩ dX8_formOf_112 (by subst c1; rfl) rfl
  · -- case None
    refine ss_ldc 8 (by decide) rfl rfl dX8_formOf_122 ?_
    exact se_aret rfl ⟨rfl, rfl⟩ dX8_formOf_124 (by obtain ⟨z1, z2, z3, z4, z5, z6, z7, z8, z9, z10⟩ := c1; simp only [fkF, z1, z2, z3, z4, z5, z6, z7, z8, z9, z10, ↓reduceIte]) rfl
def emL (S : Nat → Nat → Int32) (k a : Nat) : Nat → Nat → Nat
  | 0, j => a + j
  | m + 1, j => if a + j < tn (S 1 1) ∧ fitP S (chF k j) (a + j) then emL S k a m (j + 1) else a + j
def wfT (S : Nat → Nat → Int32) : Prop := ¬ S 1 1 < 0 ∧ ¬ 80 < S 1 1
theorem e_chN (G : GT) (S : Nat → Nat → Int32) (L : Nat → Int64) (k : Nat) (hk : k < 9) (j : Nat) (hj : j < stL.getD k 0) : sE G yJ0_charAt_5068e R_J0_charAt_5068e cJ0_charAt_5068e 2 (some .char) [.ref (G.2.2.2.2.1 k), .int (nI j)] S L (some (.int (chF k j))) S L := e_J0_charAt_5068e G S L k hk j hj
theorem e_fitN (G : GT) (S : Nat → Nat → Int32) (L : Nat → Int64) (sg x : Int32) (a : Nat) (hx : x = nI a) (ha : a < 80) (h0 : 0 < a) : sE G yX8_fits R_X8_fits cX8_fits 4 (some .boolean) [.ref (gB G + 1), .int sg, .int x] S L (some (.int (if fitP S sg a then 1 else 0))) S L := by subst hx; exact e_X8_fits G S L sg a ha h0
set_option maxRecDepth 100000 in
set_option maxHeartbeats 4000000 in
theorem l_X8_endOfMatch (G : GT) (S : Nat → Nat → Int32) (L : Nat → Int64) (hT : wfT S) (k : Nat) (hk : k < 9) (a : Nat) (ha : 0 < a) (ha8 : a ≤ 80) : ∀ (m j : Nat) (ls : List (Nat × Value)), stL.getD k 0 - j = m → j ≤ stL.getD k 0 → sv_V G R_X8_endOfMatch RX8 "endOfMatch" cX8_endOfMatch 5 (some .int) (sPo G R_X8_endOfMatch (some (.int (nI (emL S k a m j)))) S L) 0 0 197 (CF G S L) 2 [(3, .int (nI j)), (0, .ref (gB G + 1)), (1, .int (nI a)), (2, .ref (G.2.2.2.2.1 k))] [] := by
  have h12 := stL_lt k
  have ht := tn_le (M := 80) (k := 80) rfl (by decide) hT.1 hT.2
  intro m
  induction m using Nat.strongRecOn
  rename_i m ih
  intro j _ hm hj
  refine sv_iload_n 0 dX8_endOfMatch_2 rfl ?_
  refine sv_aload_n 3 dX8_endOfMatch_3 rfl ?_
  refine cTi0 (e_J0_length_8abf5 G _ _ _ hk) ⟨rfl, rfl⟩ rfl (sv_w5 ml_RX8_40 im_J0_length_8abf5 sl_J0_length_8abf5 in_RJ0 cd_J0_length_8abf5) nm_J0_length_8abf5 ⟨Nat.le_of_ble_eq_true rfl, Nat.le_of_ble_eq_true rfl⟩ hk (Nat.le_of_ble_eq_true rfl) ⟨Nat.le_of_ble_eq_true rfl, Nat.le_of_ble_eq_true rfl⟩ dX8_endOfMatch_4 ?_
  refine sv_icmp_ge (tgt := 47) dX8_endOfMatch_7 (by decide) (fun c7 => ?_) (fun c7 => ?_)
  · -- jump
    obtain rfl : m = 0 := by have := (nI_leI (by omega) (by omega)).mp c7; omega
    refine sv_iload_n 2 dX8_endOfMatch_47 rfl ?_
    refine sv_aload_n 3 dX8_endOfMatch_48 rfl ?_
    refine cTi0 (e_J0_length_8abf5 G _ _ _ hk) ⟨rfl, rfl⟩ rfl (sv_w5 ml_RX8_40 im_J0_length_8abf5 sl_J0_length_8abf5 in_RJ0 cd_J0_length_8abf5) nm_J0_length_8abf5 ⟨Nat.le_of_ble_eq_true rfl, Nat.le_of_ble_eq_true rfl⟩ hk (Nat.le_of_ble_eq_true rfl) ⟨Nat.le_of_ble_eq_true rfl, Nat.le_of_ble_eq_true rfl⟩ dX8_endOfMatch_49 ?_
    refine sv_iadd dX8_endOfMatch_52 ?_
    refine sv_topE (nI_add a _) ?_
    exact se_iret rfl ⟨rfl, rfl⟩ dX8_endOfMatch_53 (by rw [emL, show j = stL.getD k 0 by omega]) rfl
  · -- fall
    have hlt : j < stL.getD k 0 := Nat.lt_of_not_le (fun z => c7 (nI_le z (by omega)))
    obtain ⟨m2, rfl⟩ : ∃ q, m = q + 1 := ⟨m - 1, by omega⟩
    rw [emL]
    refine sv_iload_n 2 dX8_endOfMatch_10 rfl ?_
    refine sv_iload_n 0 dX8_endOfMatch_11 rfl ?_
    refine sv_iadd dX8_endOfMatch_12 ?_
    refine sv_topE (nI_add a j) ?_
    refine sv_istore (ls' := [(4, _), (3, _), (0, _), (1, _), (2, _)]) dX8_endOfMatch_13 (by decide) rfl ?_
    refine sv_iload 0 dX8_endOfMatch_15 rfl ?_
    refine sv_aload_n 2 dX8_endOfMatch_17 rfl ?_
    refine sg_8_1 sh_1 fl_RX8_21 dX8_endOfMatch_18 ?_
    refine sv_icmp_ge (tgt := 38) dX8_endOfMatch_21 (by decide) (fun c21 => ?_) (fun c21 => ?_)
    · -- jump
      have hno : ¬ (a + j < tn (S 1 1) ∧ fitP S (chF k j) (a + j)) := fun h => absurd ((le_tn (by omega)).mp c21) (by omega)
      refine sv_iload 0 dX8_endOfMatch_38 rfl ?_
      exact se_iret rfl ⟨rfl, rfl⟩ dX8_endOfMatch_40 (by rw [if_neg hno]) rfl
    · -- fall
      have hat : a + j < tn (S 1 1) := Nat.lt_of_not_le (fun z => c21 ((le_tn (by omega)).mpr z))
      refine sv_aload_n 2 dX8_endOfMatch_24 rfl ?_
      refine sv_aload_n 4 dX8_endOfMatch_25 rfl ?_
      refine sv_iload_n 1 dX8_endOfMatch_26 rfl ?_
      refine cTi1 (e_J0_charAt_5068e G _ _ _ hk _ hlt) ⟨rfl, rfl⟩ rfl (sv_w5 ml_RX8_63 im_J0_charAt_5068e sl_J0_charAt_5068e in_RJ0 cd_J0_charAt_5068e) nm_J0_charAt_5068e ⟨Nat.le_of_ble_eq_true rfl, Nat.le_of_ble_eq_true rfl⟩ hk (Nat.le_of_ble_eq_true rfl) ⟨Nat.le_of_ble_eq_true rfl, Nat.le_of_ble_eq_true rfl⟩ dX8_endOfMatch_27 ?_
      refine sv_iload 0 dX8_endOfMatch_30 rfl ?_
      refine cVi2 (e_fitN G _ _ _ _ (a + j) rfl (by omega) (by omega)) ⟨rfl, rfl⟩ (sv_w5 ml_RX8_67 im_X8_fits sl_X8_fits in_RX8 cd_X8_fits) nm_X8_fits ⟨Nat.le_of_ble_eq_true rfl, Nat.le_of_ble_eq_true rfl⟩ rfl (CF_8 sh_1) (shp_lt sh_1 (by simp)) (Nat.le_of_ble_eq_true rfl) ⟨Nat.le_of_ble_eq_true rfl, Nat.le_of_ble_eq_true rfl⟩ dX8_endOfMatch_32 ?_
      refine sv_ifne_b (tgt := 41) dX8_endOfMatch_35 (by decide) (fun c35 => ?_) (fun c35 => ?_)
      · -- jump
        refine sv_iinc 1 (ls' := [(3, _), (4, _), (0, _), (1, _), (2, _)]) dX8_endOfMatch_41 rfl (nI_1 _) (by decide) rfl ?_
        refine sv_goto (tgt := 2) dX8_endOfMatch_44 (by decide) ?_
        rw [if_pos ⟨hat, c35⟩]
        refine sv_locals [0, 2, 3, 4] rfl ?_
        exact ih m2 (by omega) (j + 1) [] (by omega) (by omega)
      · -- fall
        have hno : ¬ (a + j < tn (S 1 1) ∧ fitP S (chF k j) (a + j)) := fun h => c35 h.2
        refine sv_iload 0 dX8_endOfMatch_38 rfl ?_
        exact se_iret rfl ⟨rfl, rfl⟩ dX8_endOfMatch_40 (by rw [if_neg hno]) rfl
set_option maxRecDepth 100000 in
set_option maxHeartbeats 4000000 in
theorem e_X8_endOfMatch (G : GT) (S : Nat → Nat → Int32) (L : Nat → Int64) (hT : wfT S) (k : Nat) (hk : k < 9) (a : Nat) (ha : 0 < a) (ha8 : a ≤ 80) : sE G yX8_endOfMatch R_X8_endOfMatch cX8_endOfMatch 5 (some .int) [.ref (gB G + 1), .int (nI a), .ref (G.2.2.2.2.1 k)] S L (some (.int (nI (emL S k a (stL.getD k 0) 0)))) S L := by
  refine sE.of (by decide) (Nat.le_of_ble_eq_true rfl) ?_
  show sv_V G R_X8_endOfMatch RX8 "endOfMatch" cX8_endOfMatch 5 (some .int) (sPo G R_X8_endOfMatch (some (.int (nI (emL S k a (stL.getD k 0) 0)))) S L) 0 0 197 (CF G S L) 0 [(0, .ref (gB G + 1)), (1, .int (nI a)), (2, .ref (G.2.2.2.2.1 k))] []
  refine sv_iconst (v := 0) dX8_endOfMatch_0 (by decide) ?_
  refine sv_istore_n (ls' := [(3, _), (0, _), (1, _), (2, _)]) dX8_endOfMatch_1 (by decide) rfl ?_
  exact l_X8_endOfMatch G S L hT k hk a ha ha8 _ 0 [] (Nat.sub_zero _) (Nat.zero_le _)
