set_option maxRecDepth 100000 in
set_option maxHeartbeats 4000000 in
theorem sw_X8_addInstruction_1 {G : GT} {R : Room} {own nm : String} {nL : Nat} {rt : Option FieldType} {Post : Option Value → Nat → Nat → Nat → (Nat → va_E) → Prop} {cells slots n : Nat} {f : Nat → va_E} {ls : List (Nat × Value)} {st : List Value} {x : Int32} (d : decode cX8_addInstruction 1 = .ok (.tableswitch 222 98 122 #[174, 149, 222, 222, 222, 222, 184, 222, 115, 194, 222, 222, 222, 208, 222, 222, 222, 222, 222, 222, 222, 222, 222, 222, 129], 115)) (k0 : x = 98 → sv_V G R own nm cX8_addInstruction nL rt Post cells slots n f 175 ls st) (k1 : x = 99 → sv_V G R own nm cX8_addInstruction nL rt Post cells slots n f 150 ls st) (k2 : x = 104 → sv_V G R own nm cX8_addInstruction nL rt Post cells slots n f 185 ls st) (k3 : x = 106 → sv_V G R own nm cX8_addInstruction nL rt Post cells slots n f 116 ls st) (k4 : x = 107 → sv_V G R own nm cX8_addInstruction nL rt Post cells slots n f 195 ls st) (k5 : x = 111 → sv_V G R own nm cX8_addInstruction nL rt Post cells slots n f 209 ls st) (k6 : x = 122 → sv_V G R own nm cX8_addInstruction nL rt Post cells slots n f 130 ls st) (kd : ¬ x = 98 ∧ ¬ x = 99 ∧ ¬ x = 104 ∧ ¬ x = 106 ∧ ¬ x = 107 ∧ ¬ x = 111 ∧ ¬ x = 122 → sv_V G R own nm cX8_addInstruction nL rt Post cells slots n f 223 ls st) : sv_V G R own nm cX8_addInstruction nL rt Post cells slots n f 1 ls (.int x :: st) := by
  by_cases h0 : x = 98
  · subst h0; exact sv_tableIn (tgt := 175) (off := 174) d (by decide) (by decide) (by decide) (by decide) (k0 rfl)
  by_cases h1 : x = 99
  · subst h1; exact sv_tableIn (tgt := 150) (off := 149) d (by decide) (by decide) (by decide) (by decide) (k1 rfl)
  by_cases h2 : x = 104
  · subst h2; exact sv_tableIn (tgt := 185) (off := 184) d (by decide) (by decide) (by decide) (by decide) (k2 rfl)
  by_cases h3 : x = 106
  · subst h3; exact sv_tableIn (tgt := 116) (off := 115) d (by decide) (by decide) (by decide) (by decide) (k3 rfl)
  by_cases h4 : x = 107
  · subst h4; exact sv_tableIn (tgt := 195) (off := 194) d (by decide) (by decide) (by decide) (by decide) (k4 rfl)
  by_cases h5 : x = 111
  · subst h5; exact sv_tableIn (tgt := 209) (off := 208) d (by decide) (by decide) (by decide) (by decide) (k5 rfl)
  by_cases h6 : x = 122
  · subst h6; exact sv_tableIn (tgt := 130) (off := 129) d (by decide) (by decide) (by decide) (by decide) (k6 rfl)
  by_cases g100 : x = 100
  · subst g100; exact sv_tableIn (tgt := 223) (off := 222) d (by decide) (by decide) (by decide) (by decide) (kd ⟨by decide, by decide, by decide, by decide, by decide, by decide, by decide⟩)
  by_cases g101 : x = 101
  · subst g101; exact sv_tableIn (tgt := 223) (off := 222) d (by decide) (by decide) (by decide) (by decide) (kd ⟨by decide, by decide, by decide, by decide, by decide, by decide, by decide⟩)
  by_cases g102 : x = 102
  · subst g102; exact sv_tableIn (tgt := 223) (off := 222) d (by decide) (by decide) (by decide) (by decide) (kd ⟨by decide, by decide, by decide, by decide, by decide, by decide, by decide⟩)
  by_cases g103 : x = 103
  · subst g103; exact sv_tableIn (tgt := 223) (off := 222) d (by decide) (by decide) (by decide) (by decide) (kd ⟨by decide, by decide, by decide, by decide, by decide, by decide, by decide⟩)
  by_cases g105 : x = 105
  · subst g105; exact sv_tableIn (tgt := 223) (off := 222) d (by decide) (by decide) (by decide) (by decide) (kd ⟨by decide, by decide, by decide, by decide, by decide, by decide, by decide⟩)
  by_cases g108 : x = 108
  · subst g108; exact sv_tableIn (tgt := 223) (off := 222) d (by decide) (by decide) (by decide) (by decide) (kd ⟨by decide, by decide, by decide, by decide, by decide, by decide, by decide⟩)
  by_cases g109 : x = 109
  · subst g109; exact sv_tableIn (tgt := 223) (off := 222) d (by decide) (by decide) (by decide) (by decide) (kd ⟨by decide, by decide, by decide, by decide, by decide, by decide, by decide⟩)
  by_cases g110 : x = 110
  · subst g110; exact sv_tableIn (tgt := 223) (off := 222) d (by decide) (by decide) (by decide) (by decide) (kd ⟨by decide, by decide, by decide, by decide, by decide, by decide, by decide⟩)
  by_cases g112 : x = 112
  · subst g112; exact sv_tableIn (tgt := 223) (off := 222) d (by decide) (by decide) (by decide) (by decide) (kd ⟨by decide, by decide, by decide, by decide, by decide, by decide, by decide⟩)
  by_cases g113 : x = 113
  · subst g113; exact sv_tableIn (tgt := 223) (off := 222) d (by decide) (by decide) (by decide) (by decide) (kd ⟨by decide, by decide, by decide, by decide, by decide, by decide, by decide⟩)
  by_cases g114 : x = 114
  · subst g114; exact sv_tableIn (tgt := 223) (off := 222) d (by decide) (by decide) (by decide) (by decide) (kd ⟨by decide, by decide, by decide, by decide, by decide, by decide, by decide⟩)
  by_cases g115 : x = 115
  · subst g115; exact sv_tableIn (tgt := 223) (off := 222) d (by decide) (by decide) (by decide) (by decide) (kd ⟨by decide, by decide, by decide, by decide, by decide, by decide, by decide⟩)
  by_cases g116 : x = 116
  · subst g116; exact sv_tableIn (tgt := 223) (off := 222) d (by decide) (by decide) (by decide) (by decide) (kd ⟨by decide, by decide, by decide, by decide, by decide, by decide, by decide⟩)
  by_cases g117 : x = 117
  · subst g117; exact sv_tableIn (tgt := 223) (off := 222) d (by decide) (by decide) (by decide) (by decide) (kd ⟨by decide, by decide, by decide, by decide, by decide, by decide, by decide⟩)
  by_cases g118 : x = 118
  · subst g118; exact sv_tableIn (tgt := 223) (off := 222) d (by decide) (by decide) (by decide) (by decide) (kd ⟨by decide, by decide, by decide, by decide, by decide, by decide, by decide⟩)
  by_cases g119 : x = 119
  · subst g119; exact sv_tableIn (tgt := 223) (off := 222) d (by decide) (by decide) (by decide) (by decide) (kd ⟨by decide, by decide, by decide, by decide, by decide, by decide, by decide⟩)
  by_cases g120 : x = 120
  · subst g120; exact sv_tableIn (tgt := 223) (off := 222) d (by decide) (by decide) (by decide) (by decide) (kd ⟨by decide, by decide, by decide, by decide, by decide, by decide, by decide⟩)
  by_cases g121 : x = 121
  · subst g121; exact sv_tableIn (tgt := 223) (off := 222) d (by decide) (by decide) (by decide) (by decide) (kd ⟨by decide, by decide, by decide, by decide, by decide, by decide, by decide⟩)
  refine sv_tableOut (tgt := 223) d ?_ (by decide) (kd ⟨h0, h1, h2, h3, h4, h5, h6⟩)
  have p100 := sw_ne g100 (by decide : (100 : Int32).toInt = 100)
  have p101 := sw_ne g101 (by decide : (101 : Int32).toInt = 101)
  have p102 := sw_ne g102 (by decide : (102 : Int32).toInt = 102)
  have p103 := sw_ne g103 (by decide : (103 : Int32).toInt = 103)
  have p105 := sw_ne g105 (by decide : (105 : Int32).toInt = 105)
  have p108 := sw_ne g108 (by decide : (108 : Int32).toInt = 108)
  have p109 := sw_ne g109 (by decide : (109 : Int32).toInt = 109)
  have p110 := sw_ne g110 (by decide : (110 : Int32).toInt = 110)
  have p112 := sw_ne g112 (by decide : (112 : Int32).toInt = 112)
  have p113 := sw_ne g113 (by decide : (113 : Int32).toInt = 113)
  have p114 := sw_ne g114 (by decide : (114 : Int32).toInt = 114)
  have p115 := sw_ne g115 (by decide : (115 : Int32).toInt = 115)
  have p116 := sw_ne g116 (by decide : (116 : Int32).toInt = 116)
  have p117 := sw_ne g117 (by decide : (117 : Int32).toInt = 117)
  have p118 := sw_ne g118 (by decide : (118 : Int32).toInt = 118)
  have p119 := sw_ne g119 (by decide : (119 : Int32).toInt = 119)
  have p120 := sw_ne g120 (by decide : (120 : Int32).toInt = 120)
  have p121 := sw_ne g121 (by decide : (121 : Int32).toInt = 121)
  have q0 := sw_ne h0 (by decide : (98 : Int32).toInt = 98)
  have q1 := sw_ne h1 (by decide : (99 : Int32).toInt = 99)
  have q2 := sw_ne h2 (by decide : (104 : Int32).toInt = 104)
  have q3 := sw_ne h3 (by decide : (106 : Int32).toInt = 106)
  have q4 := sw_ne h4 (by decide : (107 : Int32).toInt = 107)
  have q5 := sw_ne h5 (by decide : (111 : Int32).toInt = 111)
  have q6 := sw_ne h6 (by decide : (122 : Int32).toInt = 122)
  omega
abbrev kinP (c : Int32) : Prop := c = 105 ∨ c = 43 ∨ c = 45 ∨ c = 108 ∨ c = 115 ∨ c = 106 ∨ c = 122 ∨ c = 99 ∨ c = 98 ∨ c = 107 ∨ c = 111 ∨ c = 104
theorem kiF_all : ∀ v, v < 256 → (¬ kiF (nI v) < 0 → kinP (nI v)) ∧ ((nI v).toUInt32 % 65536).toInt32 = nI v := by decide +kernel
theorem byteN {c : Int32} (h : ¬ c < 0 ∧ ¬ 255 < c) : ∃ v, v < 256 ∧ c = nI v := ⟨tn c, by have := tn_le (M := 255) (k := 255) rfl (by decide) h.1 h.2; omega, nI_self h.1⟩
theorem kiF_in {c : Int32} (h : ¬ c < 0 ∧ ¬ 255 < c) (hk : ¬ kiF c < 0) : kinP c := by
  obtain ⟨v, hv, rfl⟩ := byteN h
  exact (kiF_all v hv).1 hk
theorem i2c_id {c : Int32} (h : ¬ c < 0 ∧ ¬ 255 < c) : (c.toUInt32 % 65536).toInt32 = c := by
  obtain ⟨v, hv, rfl⟩ := byteN h
  exact (kiF_all v hv).2
def aiX (S : Nat → Nat → Int32) (c : Int32) (a : Nat) : Int32 := if c = 106 ∨ c = 99 ∨ c = 98 ∨ c = 104 then 0 else dgF S a
def aiY (S : Nat → Nat → Int32) (c : Int32) (a : Nat) : Int32 := if c = 106 then dsF S a else if c = 122 then dsF S (a + 1) else if c = 99 then 10 * dgF S a + dgF S (a + 1) else if c = 98 ∨ c = 104 ∨ c = 107 ∨ c = 111 then 0 else dgF S (a + 1)
noncomputable def aiS (S : Nat → Nat → Int32) (r nn : Nat) (c : Int32) (a : Nat) : Nat → Nat → Int32 := paS S r nn c (aiX S c a) (aiY S c a)
set_option maxRecDepth 100000 in
set_option maxHeartbeats 4000000 in
theorem e_X8_addInstruction (G : GT) (S : Nat → Nat → Int32) (L : Nat → Int64) (c : Int32) (a : Nat) (ha : a + stL.getD (fkF c) 0 ≤ 80) (hc : kinP c) (r : Nat) (hr : isProg r) (nn : Nat) (hn : nn < 16) (h4 : S r 4 = nI nn) : sE G yX8_addInstruction R_X8_addInstruction cX8_addInstruction 4 none [.ref (gB G + 1), .int c, .int (nI a), .ref (gB G + r)] S L none (aiS S r nn c a) L := by
  refine sE.of (by decide) (Nat.le_of_ble_eq_true rfl) ?_
  show sv_V G R_X8_addInstruction RX8 "addInstruction" cX8_addInstruction 4 none (sPo G R_X8_addInstruction none (aiS S r nn c a) L) 0 0 197 (CF G S L) 0 [(0, .ref (gB G + 1)), (1, .int c), (2, .int (nI a)), (3, .ref (gB G + r))] []
  refine sv_iload_n 1 dX8_addInstruction_0 rfl ?_
  refine sw_X8_addInstruction_1 dX8_addInstruction_1 (fun c1 => ?_) (fun c1 => ?_) (fun c1 => ?_) (fun c1 => ?_) (fun c1 => ?_) (fun c1 => ?_) (fun c1 => ?_) (fun c1 => ?_)
  · -- case 98
    refine sv_aload_n 3 dX8_addInstruction_175 rfl ?_
    refine sv_iload_n 1 dX8_addInstruction_176 rfl ?_
    refine sv_iconst (v := 0) dX8_addInstruction_177 (by decide) ?_
    refine sv_iconst (v := 0) dX8_addInstruction_178 (by decide) ?_
    refine cVv3 (e_X4_add G _ _ _ hr nn hn h4 _ _ _) ⟨rfl, rfl⟩ (sv_w5 ml_RX8_74 im_X4_add sl_X4_add in_RX4 cd_X4_add) nm_X4_add ⟨Nat.le_of_ble_eq_true rfl, Nat.le_of_ble_eq_true rfl⟩ rfl (CF_4 hr.1) (shp_lt hr.1 (by simp)) (Nat.le_of_ble_eq_true rfl) ⟨Nat.le_of_ble_eq_true rfl, Nat.le_of_ble_eq_true rfl⟩ dX8_addInstruction_179 ?_
    refine sv_goto (tgt := 240) dX8_addInstruction_182 (by decide) ?_
    exact se_vret rfl ⟨rfl, rfl⟩ dX8_addInstruction_240 (by subst c1; exact sEq.rf _)
  · -- case 99
    have hl : a + 2 ≤ 80 := by subst c1; exact ha
    refine sv_aload_n 3 dX8_addInstruction_150 rfl ?_
    refine sv_iload_n 1 dX8_addInstruction_151 rfl ?_
    refine sv_iconst (v := 0) dX8_addInstruction_152 (by decide) ?_
    refine sv_bipush (v := 10) dX8_addInstruction_153 (by decide) ?_
    refine sv_aload_n 0 dX8_addInstruction_155 rfl ?_
    refine sv_iload_n 2 dX8_addInstruction_156 rfl ?_
    refine cVi1 (e_digN G _ _ _ a rfl (by omega)) ⟨rfl, rfl⟩ (sv_w5 ml_RX8_78 im_X8_digit sl_X8_digit in_RX8 cd_X8_digit) nm_X8_digit ⟨Nat.le_of_ble_eq_true rfl, Nat.le_of_ble_eq_true rfl⟩ rfl (CF_8 sh_1) (shp_lt sh_1 (by simp)) (Nat.le_of_ble_eq_true rfl) ⟨Nat.le_of_ble_eq_true rfl, Nat.le_of_ble_eq_true rfl⟩ dX8_addInstruction_157 ?_
    refine sv_imul dX8_addInstruction_160 ?_
    refine sv_aload_n 0 dX8_addInstruction_161 rfl ?_
    refine sv_iload_n 2 dX8_addInstruction_162 rfl ?_
    refine sv_iconst (v := 1) dX8_addInstruction_163 (by decide) ?_
    refine sv_iadd dX8_addInstruction_164 ?_
    refine cVi1 (e_digN G _ _ _ (a + 1) (nI_1 a) (by omega)) ⟨rfl, rfl⟩ (sv_w5 ml_RX8_78 im_X8_digit sl_X8_digit in_RX8 cd_X8_digit) nm_X8_digit ⟨Nat.le_of_ble_eq_true rfl, Nat.le_of_ble_eq_true rfl⟩ rfl (CF_8 sh_1) (shp_lt sh_1 (by simp)) (Nat.le_of_ble_eq_true rfl) ⟨Nat.le_of_ble_eq_true rfl, Nat.le_of_ble_eq_true rfl⟩ dX8_addInstruction_165 ?_
    refine sv_iadd dX8_addInstruction_168 ?_
    refine cVv3 (e_X4_add G _ _ _ hr nn hn h4 _ _ _) ⟨rfl, rfl⟩ (sv_w5 ml_RX8_74 im_X4_add sl_X4_add in_RX4 cd_X4_add) nm_X4_add ⟨Nat.le_of_ble_eq_true rfl, Nat.le_of_ble_eq_true rfl⟩ rfl (CF_4 hr.1) (shp_lt hr.1 (by simp)) (Nat.le_of_ble_eq_true rfl) ⟨Nat.le_of_ble_eq_true rfl, Nat.le_of_ble_eq_true rfl⟩ dX8_addInstruction_169 ?_
    refine sv_goto (tgt := 240) dX8_addInstruction_172 (by decide) ?_
    exact se_vret rfl ⟨rfl, rfl⟩ dX8_addInstruction_240 (by subst c1; exact sEq.rf _)
  · -- case 104
    refine sv_aload_n 3 dX8_addInstruction_185 rfl ?_
    refine sv_iload_n 1 dX8_addInstruction_186 rfl ?_
    refine sv_iconst (v := 0) dX8_addInstruction_187 (by decide) ?_
    refine sv_iconst (v := 0) dX8_addInstruction_188 (by decide) ?_
    refine cVv3 (e_X4_add G _ _ _ hr nn hn h4 _ _ _) ⟨rfl, rfl⟩ (sv_w5 ml_RX8_74 im_X4_add sl_X4_add in_RX4 cd_X4_add) nm_X4_add ⟨Nat.le_of_ble_eq_true rfl, Nat.le_of_ble_eq_true rfl⟩ rfl (CF_4 hr.1) (shp_lt hr.1 (by simp)) (Nat.le_of_ble_eq_true rfl) ⟨Nat.le_of_ble_eq_true rfl, Nat.le_of_ble_eq_true rfl⟩ dX8_addInstruction_189 ?_
    refine sv_goto (tgt := 240) dX8_addInstruction_192 (by decide) ?_
    exact se_vret rfl ⟨rfl, rfl⟩ dX8_addInstruction_240 (by subst c1; exact sEq.rf _)
  · -- case 106
    have hl : a + 2 ≤ 80 := by subst c1; exact ha
    refine sv_aload_n 3 dX8_addInstruction_116 rfl ?_
    refine sv_iload_n 1 dX8_addInstruction_117 rfl ?_
    refine sv_iconst (v := 0) dX8_addInstruction_118 (by decide) ?_
    refine sv_aload_n 0 dX8_addInstruction_119 rfl ?_
    refine sv_iload_n 2 dX8_addInstruction_120 rfl ?_
    refine cVi1 (e_disN G _ _ _ a rfl (by omega)) ⟨rfl, rfl⟩ (sv_w5 ml_RX8_71 im_X8_distance sl_X8_distance in_RX8 cd_X8_distance) nm_X8_distance ⟨Nat.le_of_ble_eq_true rfl, Nat.le_of_ble_eq_true rfl⟩ rfl (CF_8 sh_1) (shp_lt sh_1 (by simp)) (Nat.le_of_ble_eq_true rfl) ⟨Nat.le_of_ble_eq_true rfl, Nat.le_of_ble_eq_true rfl⟩ dX8_addInstruction_121 ?_
    refine cVv3 (e_X4_add G _ _ _ hr nn hn h4 _ _ _) ⟨rfl, rfl⟩ (sv_w5 ml_RX8_74 im_X4_add sl_X4_add in_RX4 cd_X4_add) nm_X4_add ⟨Nat.le_of_ble_eq_true rfl, Nat.le_of_ble_eq_true rfl⟩ rfl (CF_4 hr.1) (shp_lt hr.1 (by simp)) (Nat.le_of_ble_eq_true rfl) ⟨Nat.le_of_ble_eq_true rfl, Nat.le_of_ble_eq_true rfl⟩ dX8_addInstruction_124 ?_
    refine sv_goto (tgt := 240) dX8_addInstruction_127 (by decide) ?_
    exact se_vret rfl ⟨rfl, rfl⟩ dX8_addInstruction_240 (by subst c1; exact sEq.rf _)
  · -- case 107
    have hl : a + 1 ≤ 80 := by subst c1; exact ha
    refine sv_aload_n 3 dX8_addInstruction_195 rfl ?_
    refine sv_iload_n 1 dX8_addInstruction_196 rfl ?_
    refine sv_aload_n 0 dX8_addInstruction_197 rfl ?_
    refine sv_iload_n 2 dX8_addInstruction_198 rfl ?_
    refine cVi1 (e_digN G _ _ _ a rfl (by omega)) ⟨rfl, rfl⟩ (sv_w5 ml_RX8_78 im_X8_digit sl_X8_digit in_RX8 cd_X8_digit) nm_X8_digit ⟨Nat.le_of_ble_eq_true rfl, Nat.le_of_ble_eq_true rfl⟩ rfl (CF_8 sh_1) (shp_lt sh_1 (by simp)) (Nat.le_of_ble_eq_true rfl) ⟨Nat.le_of_ble_eq_true rfl, Nat.le_of_ble_eq_true rfl⟩ dX8_addInstruction_199 ?_
    refine sv_iconst (v := 0) dX8_addInstruction_202 (by decide) ?_
    refine cVv3 (e_X4_add G _ _ _ hr nn hn h4 _ _ _) ⟨rfl, rfl⟩ (sv_w5 ml_RX8_74 im_X4_add sl_X4_add in_RX4 cd_X4_add) nm_X4_add ⟨Nat.le_of_ble_eq_true rfl, Nat.le_of_ble_eq_true rfl⟩ rfl (CF_4 hr.1) (shp_lt hr.1 (by simp)) (Nat.le_of_ble_eq_true rfl) ⟨Nat.le_of_ble_eq_true rfl, Nat.le_of_ble_eq_true rfl⟩ dX8_addInstruction_203 ?_
    refine sv_goto (tgt := 240) dX8_addInstruction_206 (by decide) ?_
    exact se_vret rfl ⟨rfl, rfl⟩ dX8_addInstruction_240 (by subst c1; exact sEq.rf _)
  · -- case 111
    have hl : a + 1 ≤ 80 := by subst c1; exact ha
    refine sv_aload_n 3 dX8_addInstruction_209 rfl ?_
    refine sv_iload_n 1 dX8_addInstruction_210 rfl ?_
    refine sv_aload_n 0 dX8_addInstruction_211 rfl ?_
    refine sv_iload_n 2 dX8_addInstruction_212 rfl ?_
    refine cVi1 (e_digN G _ _ _ a rfl (by omega)) ⟨rfl, rfl⟩ (sv_w5 ml_RX8_78 im_X8_digit sl_X8_digit in_RX8 cd_X8_digit) nm_X8_digit ⟨Nat.le_of_ble_eq_true rfl, Nat.le_of_ble_eq_true rfl⟩ rfl (CF_8 sh_1) (shp_lt sh_1 (by simp)) (Nat.le_of_ble_eq_true rfl) ⟨Nat.le_of_ble_eq_true rfl, Nat.le_of_ble_eq_true rfl⟩ dX8_addInstruction_213 ?_
    refine sv_iconst (v := 0) dX8_addInstruction_216 (by decide) ?_
    refine cVv3 (e_X4_add G _ _ _ hr nn hn h4 _ _ _) ⟨rfl, rfl⟩ (sv_w5 ml_RX8_74 im_X4_add sl_X4_add in_RX4 cd_X4_add) nm_X4_add ⟨Nat.le_of_ble_eq_true rfl, Nat.le_of_ble_eq_true rfl⟩ rfl (CF_4 hr.1) (shp_lt hr.1 (by simp)) (Nat.le_of_ble_eq_true rfl) ⟨Nat.le_of_ble_eq_true rfl, Nat.le_of_ble_eq_true rfl⟩ dX8_addInstruction_217 ?_
    refine sv_goto (tgt := 240) dX8_addInstruction_220 (by decide) ?_
    exact se_vret rfl ⟨rfl, rfl⟩ dX8_addInstruction_240 (by subst c1; exact sEq.rf _)
  · -- case 122
    have hl : a + 3 ≤ 80 := by subst c1; exact ha
    refine sv_aload_n 3 dX8_addInstruction_130 rfl ?_
    refine sv_iload_n 1 dX8_addInstruction_131 rfl ?_
    refine sv_aload_n 0 dX8_addInstruction_132 rfl ?_
    refine sv_iload_n 2 dX8_addInstruction_133 rfl ?_
    refine cVi1 (e_digN G _ _ _ a rfl (by omega)) ⟨rfl, rfl⟩ (sv_w5 ml_RX8_78 im_X8_digit sl_X8_digit in_RX8 cd_X8_digit) nm_X8_digit ⟨Nat.le_of_ble_eq_true rfl, Nat.le_of_ble_eq_true rfl⟩ rfl (CF_8 sh_1) (shp_lt sh_1 (by simp)) (Nat.le_of_ble_eq_true rfl) ⟨Nat.le_of_ble_eq_true rfl, Nat.le_of_ble_eq_true rfl⟩ dX8_addInstruction_134 ?_
    refine sv_aload_n 0 dX8_addInstruction_137 rfl ?_
    refine sv_iload_n 2 dX8_addInstruction_138 rfl ?_
    refine sv_iconst (v := 1) dX8_addInstruction_139 (by decide) ?_
    refine sv_iadd dX8_addInstruction_140 ?_
    refine cVi1 (e_disN G _ _ _ (a + 1) (nI_1 a) (by omega)) ⟨rfl, rfl⟩ (sv_w5 ml_RX8_71 im_X8_distance sl_X8_distance in_RX8 cd_X8_distance) nm_X8_distance ⟨Nat.le_of_ble_eq_true rfl, Nat.le_of_ble_eq_true rfl⟩ rfl (CF_8 sh_1) (shp_lt sh_1 (by simp)) (Nat.le_of_ble_eq_true rfl) ⟨Nat.le_of_ble_eq_true rfl, Nat.le_of_ble_eq_true rfl⟩ dX8_addInstruction_141 ?_
    refine cVv3 (e_X4_add G _ _ _ hr nn hn h4 _ _ _) ⟨rfl, rfl⟩ (sv_w5 ml_RX8_74 im_X4_add sl_X4_add in_RX4 cd_X4_add) nm_X4_add ⟨Nat.le_of_ble_eq_true rfl, Nat.le_of_ble_eq_true rfl⟩ rfl (CF_4 hr.1) (shp_lt hr.1 (by simp)) (Nat.le_of_ble_eq_true rfl) ⟨Nat.le_of_ble_eq_true rfl, Nat.le_of_ble_eq_true rfl⟩ dX8_addInstruction_144 ?_
    refine sv_goto (tgt := 240) dX8_addInstruction_147 (by decide) ?_
    exact se_vret rfl ⟨rfl, rfl⟩ dX8_addInstruction_240 (by subst c1; exact sEq.rf _)
  · -- case None
    have hl : a + 2 ≤ 80 := by
      obtain ⟨z98, z99, z104, z106, z107, z111, z122⟩ := c1
      rcases hc with h | h | h | h | h | h | h | h | h | h | h | h
      iterate 5 (subst h; exact ha)
      all_goals contradiction
    refine sv_aload_n 3 dX8_addInstruction_223 rfl ?_
    refine sv_iload_n 1 dX8_addInstruction_224 rfl ?_
    refine sv_aload_n 0 dX8_addInstruction_225 rfl ?_
    refine sv_iload_n 2 dX8_addInstruction_226 rfl ?_
    refine cVi1 (e_digN G _ _ _ a rfl (by omega)) ⟨rfl, rfl⟩ (sv_w5 ml_RX8_78 im_X8_digit sl_X8_digit in_RX8 cd_X8_digit) nm_X8_digit ⟨Nat.le_of_ble_eq_true rfl, Nat.le_of_ble_eq_true rfl⟩ rfl (CF_8 sh_1) (shp_lt sh_1 (by simp)) (Nat.le_of_ble_eq_true rfl) ⟨Nat.le_of_ble_eq_true rfl, Nat.le_of_ble_eq_true rfl⟩ dX8_addInstruction_227 ?_
    refine sv_aload_n 0 dX8_addInstruction_230 rfl ?_
    refine sv_iload_n 2 dX8_addInstruction_231 rfl ?_
    refine sv_iconst (v := 1) dX8_addInstruction_232 (by decide) ?_
    refine sv_iadd dX8_addInstruction_233 ?_
    refine cVi1 (e_digN G _ _ _ (a + 1) (nI_1 a) (by omega)) ⟨rfl, rfl⟩ (sv_w5 ml_RX8_78 im_X8_digit sl_X8_digit in_RX8 cd_X8_digit) nm_X8_digit ⟨Nat.le_of_ble_eq_true rfl, Nat.le_of_ble_eq_true rfl⟩ rfl (CF_8 sh_1) (shp_lt sh_1 (by simp)) (Nat.le_of_ble_eq_true rfl) ⟨Nat.le_of_ble_eq_true rfl, Nat.le_of_ble_eq_true rfl⟩ dX8_addInstruction_234 ?_
    refine cVv3 (e_X4_add G _ _ _ hr nn hn h4 _ _ _) ⟨rfl, rfl⟩ (sv_w5 ml_RX8_74 im_X4_add sl_X4_add in_RX4 cd_X4_add) nm_X4_add ⟨Nat.le_of_ble_eq_true rfl, Nat.le_of_ble_eq_true rfl⟩ rfl (CF_4 hr.1) (shp_lt hr.1 (by simp)) (Nat.le_of_ble_eq_true rfl) ⟨Nat.le_of_ble_eq_true rfl, Nat.le_of_ble_eq_true rfl⟩ dX8_addInstruction_237 ?_
    exact se_vret rfl ⟨rfl, rfl⟩ dX8_addInstruction_240 (by obtain ⟨z98, z99, z104, z106, z107, z111, z122⟩ := c1; rw [aiS, aiX, aiY]; simp only [z98, z99, z104, z106, z107, z111, z122, or_self, ↓reduceIte]; exact sEq.rf _)
theorem emL_le (S : Nat → Nat → Int32) (k a : Nat) : ∀ m j, emL S k a m j ≤ a + j + m
  | 0, j => Nat.le_refl _
  | m + 1, j => by
    rw [emL]
    by_cases h : a + j < tn (S 1 1) ∧ fitP S (chF k j) (a + j)
    · rw [if_pos h]; have := emL_le S k a m (j + 1); omega
    · rw [if_neg h]; omega
theorem emL_full (S : Nat → Nat → Int32) (k a : Nat) : ∀ m j, ¬ emL S k a m j < a + j + m → m = 0 ∨ a + j + m ≤ tn (S 1 1)
  | 0, _, _ => Or.inl rfl
  | m + 1, j, h0 => by
    rw [emL] at h0
    by_cases h : a + j < tn (S 1 1) ∧ fitP S (chF k j) (a + j)
    · rw [if_pos h] at h0
      rcases emL_full S k a m (j + 1) (by omega) with q | q
      · right; omega
      · right; omega
    · rw [if_neg h] at h0; omega
def emF (S : Nat → Nat → Int32) (a : Nat) : Nat := emL S (fkF (S 2 a)) (a + 1) (stL.getD (fkF (S 2 a)) 0) 0
noncomputable def rdL (r : Nat) : Nat → Nat → Nat → (Nat → Nat → Int32) → Int32 × (Nat → Nat → Int32)
  | 0, _, _, S => (-9, S)
  | m + 1, nn, a, S => if a < tn (S 1 1) then (if nn = 16 ∨ kiF (S 2 a) < 0 then (nI a, S) else if emF S a < a + 1 + stL.getD (fkF (S 2 a)) 0 then (nI (emF S a), S) else rdL r m (nn + 1) (emF S a) (aiS S r nn (S 2 a) (a + 1))) else (-9, S)
/-- a text is read into the program r -/
noncomputable def rdF (S : Nat → Nat → Int32) (r : Nat) : Int32 × (Nat → Nat → Int32) := if S 1 1 = 0 ∨ ¬ S 2 0 = 67 then (0, up2 S r 4 0) else rdL r 17 0 1 (up2 S r 4 0)
def wfL (S : Nat → Nat → Int32) : Prop := wfT S ∧ ∀ j, j < tn (S 1 1) → (¬ S 2 j < 0 ∧ ¬ 255 < S 2 j)
theorem paS_row {S : Nat → Nat → Int32} {q a k : Nat} {c x y : Int32} (h : k < q ∨ q + 5 ≤ k) : paS S q a c x y k = S k := by
  unfold paS
  simp only [up2_row (show k ≠ q by omega), up2_row (show k ≠ q + 1 by omega), up2_row (show k ≠ q + 2 by omega), up2_row (show k ≠ q + 3 by omega), up2_row (show k ≠ q + 4 by omega)]
theorem aiS_row {S : Nat → Nat → Int32} {r nn a k : Nat} {c : Int32} (h : k < r ∨ r + 5 ≤ k) : aiS S r nn c a k = S k := paS_row h
theorem wfL_row {S S' : Nat → Nat → Int32} (h : wfL S) (h1 : S' 1 = S 1) (h2 : S' 2 = S 2) : wfL S' := by
  unfold wfL wfT at h ⊢; rw [h1, h2]; exact h
set_option maxRecDepth 100000 in
set_option maxHeartbeats 4000000 in
theorem l_X8_readInto (G : GT) (L : Nat → Int64) (r : Nat) (hr : isProg r) (hr2 : 2 < r) : ∀ (m : Nat) (S : Nat → Nat → Int32) (nn a : Nat) (ls : List (Nat × Value)), 17 - nn = m → nn ≤ 17 → 0 < a → a ≤ 80 → wfL S → (nn ≤ 16 → S r 4 = nI nn) → sv_V G R_X8_readInto RX8 "readInto" cX8_readInto 7 (some .int) (sPo G R_X8_readInto (some (.int (rdL r m nn a S).1)) (rdL r m nn a S).2 L) 0 0 197 (CF G S L) 29 [(3, .int (nI nn)), (2, .int (nI a)), (0, .ref (gB G + 1)), (1, .ref (gB G + r))] [] := by
  intro m
  induction m using Nat.strongRecOn
  rename_i m ih
  intro S nn a _ hm hnn ha ha8 hw h4
  have ht := tn_le (M := 80) (k := 80) rfl (by decide) hw.1.1 hw.1.2
  refine sv_iload_n 0 dX8_readInto_29 rfl ?_
  refine sv_bipush (v := 16) dX8_readInto_30 (by decide) ?_
  refine sv_icmp_gt (tgt := 124) dX8_readInto_32 (by decide) (fun c32 => ?_) (fun c32 => ?_)
  · -- jump
    obtain rfl : m = 0 := by
      have : 16 < nn := Nat.lt_of_not_le (fun z => absurd c32 (nI_nlt (b := nn) (a := 16) z (by decide)))
      omega
    refine sv_bipush (v := (-9)) dX8_readInto_124 (by decide) ?_
    exact se_iret rfl ⟨rfl, rfl⟩ dX8_readInto_126 rfl rfl
  · -- fall
    have hlt : nn < 17 := Nat.lt_of_not_le (fun z => c32 (nI_lt (a := 16) (by omega) (by omega)))
    obtain ⟨m2, rfl⟩ : ∃ q, m = q + 1 := ⟨m - 1, by omega⟩
    rw [rdL]
    refine sv_iload_n 1 dX8_readInto_35 rfl ?_
    refine sv_aload_n 2 dX8_readInto_36 rfl ?_
    refine sg_8_1 sh_1 fl_RX8_21 dX8_readInto_37 ?_
    refine sv_icmp_ge (tgt := 124) dX8_readInto_40 (by decide) (fun c40 => ?_) (fun c40 => ?_)
    · -- jump
      rw [if_neg (fun z => absurd ((le_tn (by omega)).mp c40) (by omega))]
      refine sv_bipush (v := (-9)) dX8_readInto_124 (by decide) ?_
      exact se_iret rfl ⟨rfl, rfl⟩ dX8_readInto_126 rfl rfl
    · -- fall
      have hat : a < tn (S 1 1) := Nat.lt_of_not_le (fun z => c40 ((le_tn (by omega)).mpr z))
      have hb := hw.2 a hat
      rw [if_pos hat]
      refine sv_aload_n 2 dX8_readInto_43 rfl ?_
      refine sg_8_0 sh_1 fl_RX8_9 dX8_readInto_44 ?_
      refine sv_iload_n 1 dX8_readInto_47 rfl ?_
      refine sx_ild sh_2 a rfl (by omega) dX8_readInto_48 ?_
      refine sv_istore (ls' := [(4, _), (3, _), (2, _), (0, _), (1, _)]) dX8_readInto_49 (by decide) rfl ?_
      refine sv_iload_n 1 dX8_readInto_51 rfl ?_
      refine sv_bipush (v := 16) dX8_readInto_52 (by decide) ?_
      refine sv_icmp_eq (tgt := 68) dX8_readInto_54 (by decide) (fun c54 => ?_) (fun c54 => ?_)
      · -- jump
        refine sv_iload_n 2 dX8_readInto_68 rfl ?_
        exact se_iret rfl ⟨rfl, rfl⟩ dX8_readInto_69 (by rw [if_pos (Or.inl ((nI_eq (b := 16) (by omega) (by decide)).mp c54))]) (by rw [if_pos (Or.inl ((nI_eq (b := 16) (by omega) (by decide)).mp c54))])
      · -- fall
        have h16 : nn < 16 := Nat.lt_of_le_of_ne (by omega) (fun z => c54 (by rw [z]; rfl))
        refine ss_ldc 0 (by decide) rfl rfl dX8_readInto_57 ?_
        refine sv_iload 0 dX8_readInto_59 rfl ?_
        refine sv_i2c dX8_readInto_61 rfl ?_
        refine sv_topE (i2c_id hb) ?_
        refine cTi1 (e_J0_indexOf_0f7a4 G _ _ _) ⟨rfl, rfl⟩ rfl (sv_w5 ml_RX8_26 im_J0_indexOf_0f7a4 sl_J0_indexOf_0f7a4 in_RJ0 cd_J0_indexOf_0f7a4) nm_J0_indexOf_0f7a4 ⟨Nat.le_of_ble_eq_true rfl, Nat.le_of_ble_eq_true rfl⟩ (by decide) (Nat.le_of_ble_eq_true rfl) ⟨Nat.le_of_ble_eq_true rfl, Nat.le_of_ble_eq_true rfl⟩ dX8_readInto_62 ?_
        refine sv_if_ge (tgt := 70) dX8_readInto_65 (by decide) (fun c65 => ?_) (fun c65 => ?_)
        · -- jump
          have hkk : ¬ kiF (S 2 a) < 0 := Int32.not_lt.mpr c65
          have hkin := kiF_in hb hkk
          have h12 := stL_lt (fkF (S 2 a))
          rw [if_neg (fun h => h.elim (fun z => absurd z (by omega)) hkk)]
          refine sv_iload 0 dX8_readInto_70 rfl ?_
          refine cSi1 (e_X8_formOf G _ _ _) ⟨rfl, rfl⟩ (sv_w4 ml_RX8_32 st_X8_formOf in_RX8 cd_X8_formOf) nm_X8_formOf ⟨Nat.le_of_ble_eq_true rfl, Nat.le_of_ble_eq_true rfl⟩ (Nat.le_of_ble_eq_true rfl) ⟨Nat.le_of_ble_eq_true rfl, Nat.le_of_ble_eq_true rfl⟩ dX8_readInto_72 ?_
          refine sv_astore (ls' := [(5, _), (4, _), (3, _), (2, _), (0, _), (1, _)]) dX8_readInto_75 (by decide) rfl ?_
          refine sv_aload_n 4 dX8_readInto_77 rfl ?_
          refine sv_iload_n 3 dX8_readInto_78 rfl ?_
          refine sv_iconst (v := 1) dX8_readInto_79 (by decide) ?_
          refine sv_iadd dX8_readInto_80 ?_
          refine sv_topE (nI_1 a) ?_
          refine sv_aload 0 dX8_readInto_81 rfl ?_
          refine cVi2 (e_X8_endOfMatch G _ _ hw.1 _ (fkF_lt _) _ (by omega) (by omega)) ⟨rfl, rfl⟩ (sv_w5 ml_RX8_36 im_X8_endOfMatch sl_X8_endOfMatch in_RX8 cd_X8_endOfMatch) nm_X8_endOfMatch ⟨Nat.le_of_ble_eq_true rfl, Nat.le_of_ble_eq_true rfl⟩ rfl (CF_8 sh_1) (shp_lt sh_1 (by simp)) (Nat.le_of_ble_eq_true rfl) ⟨Nat.le_of_ble_eq_true rfl, Nat.le_of_ble_eq_true rfl⟩ dX8_readInto_83 ?_
          refine sv_istore (ls' := [(6, _), (5, _), (4, _), (3, _), (2, _), (0, _), (1, _)]) dX8_readInto_86 (by decide) rfl ?_
          refine sv_iload 0 dX8_readInto_88 rfl ?_
          refine sv_iload_n 4 dX8_readInto_90 rfl ?_
          refine sv_iconst (v := 1) dX8_readInto_91 (by decide) ?_
          refine sv_iadd dX8_readInto_92 ?_
          refine sv_topE (nI_1 a) ?_
          refine sv_aload 1 dX8_readInto_93 rfl ?_
          refine cTi0 (e_J0_length_8abf5 G _ _ _ (fkF_lt _)) ⟨rfl, rfl⟩ rfl (sv_w5 ml_RX8_40 im_J0_length_8abf5 sl_J0_length_8abf5 in_RJ0 cd_J0_length_8abf5) nm_J0_length_8abf5 ⟨Nat.le_of_ble_eq_true rfl, Nat.le_of_ble_eq_true rfl⟩ (fkF_lt _) (Nat.le_of_ble_eq_true rfl) ⟨Nat.le_of_ble_eq_true rfl, Nat.le_of_ble_eq_true rfl⟩ dX8_readInto_95 ?_
          refine sv_iadd dX8_readInto_98 ?_
          refine sv_topE (nI_add (a + 1) _) ?_
          refine sv_icmp_ge (tgt := 105) dX8_readInto_99 (by decide) (fun c99 => ?_) (fun c99 => ?_)
          · -- jump
            have hle := emL_le S (fkF (S 2 a)) (a + 1) (stL.getD (fkF (S 2 a)) 0) 0
            have h99 : a + 1 + stL.getD (fkF (S 2 a)) 0 ≤ emF S a := (nI_leI (by omega) (by unfold emF; omega)).mp c99
            have hfull := emL_full S (fkF (S 2 a)) (a + 1) (stL.getD (fkF (S 2 a)) 0) 0 (by unfold emF at h99; omega)
            have h80 : a + 1 + stL.getD (fkF (S 2 a)) 0 ≤ 80 := by omega
            rw [if_neg (by omega)]
            refine sv_aload_n 5 dX8_readInto_105 rfl ?_
            refine sv_iload 2 dX8_readInto_106 rfl ?_
            refine sv_iload_n 4 dX8_readInto_108 rfl ?_
            refine sv_iconst (v := 1) dX8_readInto_109 (by decide) ?_
            refine sv_iadd dX8_readInto_110 ?_
            refine sv_topE (nI_1 a) ?_
            refine sv_aload_n 6 dX8_readInto_111 rfl ?_
            refine cVv3 (e_X8_addInstruction G _ _ _ _ h80 hkin _ hr _ h16 (h4 (by omega))) ⟨rfl, rfl⟩ (sv_w5 ml_RX8_43 im_X8_addInstruction sl_X8_addInstruction in_RX8 cd_X8_addInstruction) nm_X8_addInstruction ⟨Nat.le_of_ble_eq_true rfl, Nat.le_of_ble_eq_true rfl⟩ rfl (CF_8 sh_1) (shp_lt sh_1 (by simp)) (Nat.le_of_ble_eq_true rfl) ⟨Nat.le_of_ble_eq_true rfl, Nat.le_of_ble_eq_true rfl⟩ dX8_readInto_112 ?_
            refine sv_iload 0 dX8_readInto_115 rfl ?_
            refine sv_istore_n (ls' := [(2, _), (6, _), (5, _), (4, _), (3, _), (0, _), (1, _)]) dX8_readInto_117 (by decide) rfl ?_
            refine sv_iinc 4 (ls' := [(3, _), (2, _), (6, _), (5, _), (4, _), (0, _), (1, _)]) dX8_readInto_118 rfl (nI_1 _) (by decide) rfl ?_
            refine sv_goto (tgt := 29) dX8_readInto_121 (by decide) ?_
            refine sv_locals [0, 1, 5, 6] rfl ?_
            exact ih m2 (by omega) _ (nn + 1) (emF S a) [] (by omega) (by omega) (by omega) (by unfold emF; omega) (wfL_row hw (aiS_row (by omega)) (aiS_row (by omega))) (fun _ => by unfold aiS paS; exact up2_same _ _ _ _)
          · -- fall
            have hle := emL_le S (fkF (S 2 a)) (a + 1) (stL.getD (fkF (S 2 a)) 0) 0
            have h99 : emF S a < a + 1 + stL.getD (fkF (S 2 a)) 0 := Nat.lt_of_not_le (fun z => c99 (nI_le z (show emF S a < 2147483648 from by unfold emF; omega)))
            refine sv_iload 0 dX8_readInto_102 rfl ?_
            exact se_iret rfl ⟨rfl, rfl⟩ dX8_readInto_104 (by rw [if_pos h99]; rfl) (by rw [if_pos h99])
        · -- fall
          refine sv_iload_n 2 dX8_readInto_68 rfl ?_
          exact se_iret rfl ⟨rfl, rfl⟩ dX8_readInto_69 (by rw [if_pos (Or.inr (Int32.not_le.mp c65))]) (by rw [if_pos (Or.inr (Int32.not_le.mp c65))])
set_option maxRecDepth 100000 in
set_option maxHeartbeats 4000000 in
theorem e_X8_readInto (G : GT) (S : Nat → Nat → Int32) (L : Nat → Int64) (hw : wfL S) (r : Nat) (hr : isProg r) (hr2 : 2 < r) : sE G yX8_readInto R_X8_readInto cX8_readInto 7 (some .int) [.ref (gB G + 1), .ref (gB G + r)] S L (some (.int (rdF S r).1)) (rdF S r).2 L := by
  refine sE.of (by decide) (Nat.le_of_ble_eq_true rfl) ?_
  show sv_V G R_X8_readInto RX8 "readInto" cX8_readInto 7 (some .int) (sPo G R_X8_readInto (some (.int (rdF S r).1)) (rdF S r).2 L) 0 0 197 (CF G S L) 0 [(0, .ref (gB G + 1)), (1, .ref (gB G + r))] []
  refine sv_aload_n 1 dX8_readInto_0 rfl ?_
  refine sv_iconst (v := 0) dX8_readInto_1 (by decide) ?_
  refine sp_4_4 hr.1 fl_RX8_15 dX8_readInto_2 ?_
  refine sv_aload_n 0 dX8_readInto_5 rfl ?_
  refine sg_8_1 sh_1 fl_RX8_21 dX8_readInto_6 ?_
  refine sv_topE (v' := S 1 1) (by rw [up2_row (by omega)]) ?_
  refine sv_if_eq (tgt := 23) dX8_readInto_9 (by decide) (fun c9 => ?_) (fun c9 => ?_)
  · -- jump
    refine sv_iconst (v := 0) dX8_readInto_23 (by decide) ?_
    exact se_iret rfl ⟨rfl, rfl⟩ dX8_readInto_24 (by rw [rdF, if_pos (Or.inl c9)]) (by rw [rdF, if_pos (Or.inl c9)])
  · -- fall
    refine sv_aload_n 0 dX8_readInto_12 rfl ?_
    refine sg_8_0 sh_1 fl_RX8_9 dX8_readInto_13 ?_
    refine sv_iconst (v := 0) dX8_readInto_16 (by decide) ?_
    refine sx_ild sh_2 0 (by decide) (by decide) dX8_readInto_17 ?_
    refine sv_topE (v' := S 2 0) (by rw [up2_row (by omega)]) ?_
    refine sv_bipush (v := 67) dX8_readInto_18 (by decide) ?_
    refine sv_icmp_eq (tgt := 25) dX8_readInto_20 (by decide) (fun c20 => ?_) (fun c20 => ?_)
    · -- jump
      refine sv_iconst (v := 1) dX8_readInto_25 (by decide) ?_
      refine sv_istore_n (ls' := [(2, _), (0, _), (1, _)]) dX8_readInto_26 (by decide) rfl ?_
      refine sv_iconst (v := 0) dX8_readInto_27 (by decide) ?_
      refine sv_istore_n (ls' := [(3, _), (2, _), (0, _), (1, _)]) dX8_readInto_28 (by decide) rfl ?_
      rw [rdF, if_neg (fun h => h.elim c9 (fun z => z c20))]
      exact l_X8_readInto G L r hr hr2 17 _ 0 1 [] rfl (by omega) (by omega) (by omega) (wfL_row hw (up2_row (by omega)) (up2_row (by omega))) (fun _ => up2_same _ _ _ _)
    · -- fall
      refine sv_iconst (v := 0) dX8_readInto_23 (by decide) ?_
      exact se_iret rfl ⟨rfl, rfl⟩ dX8_readInto_24 (by rw [rdF, if_pos (Or.inr c20)]) (by rw [rdF, if_pos (Or.inr c20)])
noncomputable def xfault (S : Nat → Nat → Int32) : Int32 × (Nat → Nat → Int32) := rdF S 8
noncomputable def xcode (S : Nat → Nat → Int32) : Int32 × (Nat → Nat → Int32) := if (rdF S 8).1 = -9 then ((rdF (rdF S 8).2 3).2 3 4, esS (up2 (sbeg (rdF (rdF S 8).2 3).2 13) 29 2 0) 2) else (-3, (rdF S 8).2)
theorem rdL_row (r : Nat) : ∀ (m nn a : Nat) (S : Nat → Nat → Int32) (k : Nat), (k < r ∨ r + 5 ≤ k) → (rdL r m nn a S).2 k = S k
  | 0, _, _, _, _, _ => rfl
  | m + 1, nn, a, S, k, h => by
    rw [rdL]
    by_cases h1 : a < tn (S 1 1)
    · rw [if_pos h1]
      by_cases h2 : nn = 16 ∨ kiF (S 2 a) < 0
      · rw [if_pos h2]
      · rw [if_neg h2]
        by_cases h3 : emF S a < a + 1 + stL.getD (fkF (S 2 a)) 0
        · rw [if_pos h3]
        · rw [if_neg h3, rdL_row r m _ _ _ k h, aiS_row h]
    · rw [if_neg h1]
theorem rdF_row {S : Nat → Nat → Int32} {r k : Nat} (h : k < r ∨ r + 5 ≤ k) : (rdF S r).2 k = S k := by
  unfold rdF
  by_cases h1 : S 1 1 = 0 ∨ ¬ S 2 0 = 67
  · rw [if_pos h1]; exact up2_row (by omega)
  · rw [if_neg h1, rdL_row r _ _ _ _ k h, up2_row (by omega)]
theorem sbeg_row {S : Nat → Nat → Int32} {s k : Nat} (h : k < s ∨ s + 8 ≤ k) : sbeg S s k = S k := by
  unfold sbeg; rw [if_neg (by omega), if_neg (by omega), if_neg (by omega), if_neg (by omega), if_neg (by omega)]
theorem esS_row {S : Nat → Nat → Int32} {p k : Nat} (h : k ≠ 144) : esS S p k = S k := row_up h
set_option maxRecDepth 100000 in
set_option maxHeartbeats 4000000 in
theorem e_X9_fault (G : GT) (S : Nat → Nat → Int32) (L : Nat → Int64) (hw : wfL S) : sE G yX9_fault R_X9_fault cX9_fault 1 (some .int) [.ref (gB G + 0)] S L (some (.int (xfault S).1)) (xfault S).2 L := by
  refine sE.of (by decide) (Nat.le_of_ble_eq_true rfl) ?_
  show sv_V G R_X9_fault RX9 "fault" cX9_fault 1 (some .int) (sPo G R_X9_fault (some (.int (xfault S).1)) (xfault S).2 L) 0 0 197 (CF G S L) 0 [(0, .ref (gB G + 0))] []
  refine sv_aload_n 0 dX9_fault_0 rfl ?_
  refine sg_9_0 sh_0 fl_RX9_10 dX9_fault_1 ?_
  refine sv_aload_n 0 dX9_fault_4 rfl ?_
  refine sg_9_2 sh_0 fl_RX9_23 dX9_fault_5 ?_
  refine cVi1 (e_X8_readInto G _ _ hw _ isProg_8 (by decide)) ⟨rfl, rfl⟩ (sv_w5 ml_RX9_80 im_X8_readInto sl_X8_readInto in_RX8 cd_X8_readInto) nm_X8_readInto ⟨Nat.le_of_ble_eq_true rfl, Nat.le_of_ble_eq_true rfl⟩ rfl (CF_8 sh_1) (shp_lt sh_1 (by simp)) (Nat.le_of_ble_eq_true rfl) ⟨Nat.le_of_ble_eq_true rfl, Nat.le_of_ble_eq_true rfl⟩ dX9_fault_8 ?_
  exact se_iret rfl ⟨rfl, rfl⟩ dX9_fault_11 rfl rfl
set_option maxRecDepth 100000 in
set_option maxHeartbeats 4000000 in
theorem e_X9_code (G : GT) (S : Nat → Nat → Int32) (L : Nat → Int64) (hw : wfL S) : sE G yX9_code R_X9_code cX9_code 1 (some .int) [.ref (gB G + 0)] S L (some (.int (xcode S).1)) (xcode S).2 L := by
  refine sE.of (by decide) (Nat.le_of_ble_eq_true rfl) ?_
  show sv_V G R_X9_code RX9 "code" cX9_code 1 (some .int) (sPo G R_X9_code (some (.int (xcode S).1)) (xcode S).2 L) 0 0 197 (CF G S L) 0 [(0, .ref (gB G + 0))] []
  refine sv_aload_n 0 dX9_code_0 rfl ?_
  refine sg_9_0 sh_0 fl_RX9_10 dX9_code_1 ?_
  refine sv_aload_n 0 dX9_code_4 rfl ?_
  refine sg_9_2 sh_0 fl_RX9_23 dX9_code_5 ?_
  refine cVi1 (e_X8_readInto G _ _ hw _ isProg_8 (by decide)) ⟨rfl, rfl⟩ (sv_w5 ml_RX9_80 im_X8_readInto sl_X8_readInto in_RX8 cd_X8_readInto) nm_X8_readInto ⟨Nat.le_of_ble_eq_true rfl, Nat.le_of_ble_eq_true rfl⟩ rfl (CF_8 sh_1) (shp_lt sh_1 (by simp)) (Nat.le_of_ble_eq_true rfl) ⟨Nat.le_of_ble_eq_true rfl, Nat.le_of_ble_eq_true rfl⟩ dX9_code_8 ?_
  refine sv_bipush (v := (-9)) dX9_code_11 (by decide) ?_
  refine sv_icmp_eq (tgt := 19) dX9_code_13 (by decide) (fun c13 => ?_) (fun c13 => ?_)
  · -- jump
    refine sv_aload_n 0 dX9_code_19 rfl ?_
    refine sg_9_0 sh_0 fl_RX9_10 dX9_code_20 ?_
    refine sv_aload_n 0 dX9_code_23 rfl ?_
    refine sg_9_1 sh_0 fl_RX9_19 dX9_code_24 ?_
    refine cVi1 (e_X8_readInto G _ _ (wfL_row hw (rdF_row (by omega)) (rdF_row (by omega))) _ isProg_3 (by decide)) ⟨rfl, rfl⟩ (sv_w5 ml_RX9_80 im_X8_readInto sl_X8_readInto in_RX8 cd_X8_readInto) nm_X8_readInto ⟨Nat.le_of_ble_eq_true rfl, Nat.le_of_ble_eq_true rfl⟩ rfl (CF_8 sh_1) (shp_lt sh_1 (by simp)) (Nat.le_of_ble_eq_true rfl) ⟨Nat.le_of_ble_eq_true rfl, Nat.le_of_ble_eq_true rfl⟩ dX9_code_27 ?_
    refine sv_pop dX9_code_30 rfl ?_
    refine sv_aload_n 0 dX9_code_31 rfl ?_
    refine sg_9_3 sh_0 fl_RX9_29 dX9_code_32 ?_
    refine cVv0 (e_X6_begin G _ _ _ isState_13) ⟨rfl, rfl⟩ (sv_w5 ml_RX9_84 im_X6_begin sl_X6_begin in_RX6 cd_X6_begin) nm_X6_begin ⟨Nat.le_of_ble_eq_true rfl, Nat.le_of_ble_eq_true rfl⟩ rfl (CF_6 isState_13.1) (shp_lt isState_13.1 (by simp)) (Nat.le_of_ble_eq_true rfl) ⟨Nat.le_of_ble_eq_true rfl, Nat.le_of_ble_eq_true rfl⟩ dX9_code_35 ?_
    refine sv_aload_n 0 dX9_code_38 rfl ?_
    refine sg_9_5 sh_0 fl_RX9_39 dX9_code_39 ?_
    refine cVv0 (e_X2_clear G _ _) ⟨rfl, rfl⟩ (sv_w5 ml_RX9_87 im_X2_clear sl_X2_clear in_RX2 cd_X2_clear) nm_X2_clear ⟨Nat.le_of_ble_eq_true rfl, Nat.le_of_ble_eq_true rfl⟩ rfl (CF_2 sh_29) (shp_lt sh_29 (by simp)) (Nat.le_of_ble_eq_true rfl) ⟨Nat.le_of_ble_eq_true rfl, Nat.le_of_ble_eq_true rfl⟩ dX9_code_42 ?_
    refine sv_aload_n 0 dX9_code_45 rfl ?_
    refine cVv0 (e_X9_emptySlots G _ _) ⟨rfl, rfl⟩ (sv_w5 ml_RX9_90 im_X9_emptySlots sl_X9_emptySlots in_RX9 cd_X9_emptySlots) nm_X9_emptySlots ⟨Nat.le_of_ble_eq_true rfl, Nat.le_of_ble_eq_true rfl⟩ rfl (CF_9 sh_0) (shp_lt sh_0 (by simp)) (Nat.le_of_ble_eq_true rfl) ⟨Nat.le_of_ble_eq_true rfl, Nat.le_of_ble_eq_true rfl⟩ dX9_code_46 ?_
    refine sv_aload_n 0 dX9_code_49 rfl ?_
    refine sg_9_1 sh_0 fl_RX9_19 dX9_code_50 ?_
    refine sg_4_4 isProg_3.1 fl_RX9_93 dX9_code_53 ?_
    refine sv_topE (v' := (rdF (rdF S 8).2 3).2 3 4) (by rw [esS_row (by omega), up2_row (by omega), sbeg_row (by omega)]) ?_
    exact se_iret rfl ⟨rfl, rfl⟩ dX9_code_56 (by rw [xcode, if_pos c13]) (by rw [xcode, if_pos c13])
  · -- fall
    refine sv_bipush (v := (-3)) dX9_code_16 (by decide) ?_
    exact se_iret rfl ⟨rfl, rfl⟩ dX9_code_18 (by rw [xcode, if_neg c13]) (by rw [xcode, if_neg c13])
