set_option maxRecDepth 100000 in
set_option maxHeartbeats 4000000 in
theorem sw_X10_about_1 {G : GT} {R : Room} {own nm : String} {nL : Nat} {rt : Option FieldType} {Post : Option Value → Nat → Nat → Nat → (Nat → va_E) → Prop} {cells slots n : Nat} {f : Nat → va_E} {ls : List (Nat × Value)} {st : List Value} {x : Int32} (d : decode cX10_about 1 = .ok (.tableswitch 177 0 14 #[75, 80, 88, 96, 104, 112, 120, 125, 133, 141, 149, 157, 162, 167, 172], 75)) (k0 : x = 0 → sv_V G R own nm cX10_about nL rt Post cells slots n f 76 ls st) (k1 : x = 1 → sv_V G R own nm cX10_about nL rt Post cells slots n f 81 ls st) (k2 : x = 2 → sv_V G R own nm cX10_about nL rt Post cells slots n f 89 ls st) (k3 : x = 3 → sv_V G R own nm cX10_about nL rt Post cells slots n f 97 ls st) (k4 : x = 4 → sv_V G R own nm cX10_about nL rt Post cells slots n f 105 ls st) (k5 : x = 5 → sv_V G R own nm cX10_about nL rt Post cells slots n f 113 ls st) (k6 : x = 6 → sv_V G R own nm cX10_about nL rt Post cells slots n f 121 ls st) (k7 : x = 7 → sv_V G R own nm cX10_about nL rt Post cells slots n f 126 ls st) (k8 : x = 8 → sv_V G R own nm cX10_about nL rt Post cells slots n f 134 ls st) (k9 : x = 9 → sv_V G R own nm cX10_about nL rt Post cells slots n f 142 ls st) (k10 : x = 10 → sv_V G R own nm cX10_about nL rt Post cells slots n f 150 ls st) (k11 : x = 11 → sv_V G R own nm cX10_about nL rt Post cells slots n f 158 ls st) (k12 : x = 12 → sv_V G R own nm cX10_about nL rt Post cells slots n f 163 ls st) (k13 : x = 13 → sv_V G R own nm cX10_about nL rt Post cells slots n f 168 ls st) (k14 : x = 14 → sv_V G R own nm cX10_about nL rt Post cells slots n f 173 ls st) (kd : ¬ x = 0 ∧ ¬ x = 1 ∧ ¬ x = 2 ∧ ¬ x = 3 ∧ ¬ x = 4 ∧ ¬ x = 5 ∧ ¬ x = 6 ∧ ¬ x = 7 ∧ ¬ x = 8 ∧ ¬ x = 9 ∧ ¬ x = 10 ∧ ¬ x = 11 ∧ ¬ x = 12 ∧ ¬ x = 13 ∧ ¬ x = 14 → sv_V G R own nm cX10_about nL rt Post cells slots n f 178 ls st) : sv_V G R own nm cX10_about nL rt Post cells slots n f 1 ls (.int x :: st) := by
  by_cases h0 : x = 0
  · subst h0; exact sv_tableIn (tgt := 76) (off := 75) d (by decide) (by decide) (by decide) (by decide) (k0 rfl)
  by_cases h1 : x = 1
  · subst h1; exact sv_tableIn (tgt := 81) (off := 80) d (by decide) (by decide) (by decide) (by decide) (k1 rfl)
  by_cases h2 : x = 2
  · subst h2; exact sv_tableIn (tgt := 89) (off := 88) d (by decide) (by decide) (by decide) (by decide) (k2 rfl)
  by_cases h3 : x = 3
  · subst h3; exact sv_tableIn (tgt := 97) (off := 96) d (by decide) (by decide) (by decide) (by decide) (k3 rfl)
  by_cases h4 : x = 4
  · subst h4; exact sv_tableIn (tgt := 105) (off := 104) d (by decide) (by decide) (by decide) (by decide) (k4 rfl)
  by_cases h5 : x = 5
  · subst h5; exact sv_tableIn (tgt := 113) (off := 112) d (by decide) (by decide) (by decide) (by decide) (k5 rfl)
  by_cases h6 : x = 6
  · subst h6; exact sv_tableIn (tgt := 121) (off := 120) d (by decide) (by decide) (by decide) (by decide) (k6 rfl)
  by_cases h7 : x = 7
  · subst h7; exact sv_tableIn (tgt := 126) (off := 125) d (by decide) (by decide) (by decide) (by decide) (k7 rfl)
  by_cases h8 : x = 8
  · subst h8; exact sv_tableIn (tgt := 134) (off := 133) d (by decide) (by decide) (by decide) (by decide) (k8 rfl)
  by_cases h9 : x = 9
  · subst h9; exact sv_tableIn (tgt := 142) (off := 141) d (by decide) (by decide) (by decide) (by decide) (k9 rfl)
  by_cases h10 : x = 10
  · subst h10; exact sv_tableIn (tgt := 150) (off := 149) d (by decide) (by decide) (by decide) (by decide) (k10 rfl)
  by_cases h11 : x = 11
  · subst h11; exact sv_tableIn (tgt := 158) (off := 157) d (by decide) (by decide) (by decide) (by decide) (k11 rfl)
  by_cases h12 : x = 12
  · subst h12; exact sv_tableIn (tgt := 163) (off := 162) d (by decide) (by decide) (by decide) (by decide) (k12 rfl)
  by_cases h13 : x = 13
  · subst h13; exact sv_tableIn (tgt := 168) (off := 167) d (by decide) (by decide) (by decide) (by decide) (k13 rfl)
  by_cases h14 : x = 14
  · subst h14; exact sv_tableIn (tgt := 173) (off := 172) d (by decide) (by decide) (by decide) (by decide) (k14 rfl)
  refine sv_tableOut (tgt := 178) d ?_ (by decide) (kd ⟨h0, h1, h2, h3, h4, h5, h6, h7, h8, h9, h10, h11, h12, h13, h14⟩)
  have q0 := sw_ne h0 (by decide : (0 : Int32).toInt = 0)
  have q1 := sw_ne h1 (by decide : (1 : Int32).toInt = 1)
  have q2 := sw_ne h2 (by decide : (2 : Int32).toInt = 2)
  have q3 := sw_ne h3 (by decide : (3 : Int32).toInt = 3)
  have q4 := sw_ne h4 (by decide : (4 : Int32).toInt = 4)
  have q5 := sw_ne h5 (by decide : (5 : Int32).toInt = 5)
  have q6 := sw_ne h6 (by decide : (6 : Int32).toInt = 6)
  have q7 := sw_ne h7 (by decide : (7 : Int32).toInt = 7)
  have q8 := sw_ne h8 (by decide : (8 : Int32).toInt = 8)
  have q9 := sw_ne h9 (by decide : (9 : Int32).toInt = 9)
  have q10 := sw_ne h10 (by decide : (10 : Int32).toInt = 10)
  have q11 := sw_ne h11 (by decide : (11 : Int32).toInt = 11)
  have q12 := sw_ne h12 (by decide : (12 : Int32).toInt = 12)
  have q13 := sw_ne h13 (by decide : (13 : Int32).toInt = 13)
  have q14 := sw_ne h14 (by decide : (14 : Int32).toInt = 14)
  omega
set_option maxRecDepth 100000 in
set_option maxHeartbeats 4000000 in
theorem sw_X10_broken_54 {G : GT} {R : Room} {own nm : String} {nL : Nat} {rt : Option FieldType} {Post : Option Value → Nat → Nat → Nat → (Nat → va_E) → Prop} {cells slots n : Nat} {f : Nat → va_E} {ls : List (Nat × Value)} {st : List Value} {x : Int32} (d : decode cX10_broken 54 = .ok (.tableswitch 144 0 5 #[38, 48, 68, 88, 108, 126], 38)) (k0 : x = 0 → sv_V G R own nm cX10_broken nL rt Post cells slots n f 92 ls st) (k1 : x = 1 → sv_V G R own nm cX10_broken nL rt Post cells slots n f 102 ls st) (k2 : x = 2 → sv_V G R own nm cX10_broken nL rt Post cells slots n f 122 ls st) (k3 : x = 3 → sv_V G R own nm cX10_broken nL rt Post cells slots n f 142 ls st) (k4 : x = 4 → sv_V G R own nm cX10_broken nL rt Post cells slots n f 162 ls st) (k5 : x = 5 → sv_V G R own nm cX10_broken nL rt Post cells slots n f 180 ls st) (kd : ¬ x = 0 ∧ ¬ x = 1 ∧ ¬ x = 2 ∧ ¬ x = 3 ∧ ¬ x = 4 ∧ ¬ x = 5 → sv_V G R own nm cX10_broken nL rt Post cells slots n f 198 ls st) : sv_V G R own nm cX10_broken nL rt Post cells slots n f 54 ls (.int x :: st) := by
  by_cases h0 : x = 0
  · subst h0; exact sv_tableIn (tgt := 92) (off := 38) d (by decide) (by decide) (by decide) (by decide) (k0 rfl)
  by_cases h1 : x = 1
  · subst h1; exact sv_tableIn (tgt := 102) (off := 48) d (by decide) (by decide) (by decide) (by decide) (k1 rfl)
  by_cases h2 : x = 2
  · subst h2; exact sv_tableIn (tgt := 122) (off := 68) d (by decide) (by decide) (by decide) (by decide) (k2 rfl)
  by_cases h3 : x = 3
  · subst h3; exact sv_tableIn (tgt := 142) (off := 88) d (by decide) (by decide) (by decide) (by decide) (k3 rfl)
  by_cases h4 : x = 4
  · subst h4; exact sv_tableIn (tgt := 162) (off := 108) d (by decide) (by decide) (by decide) (by decide) (k4 rfl)
  by_cases h5 : x = 5
  · subst h5; exact sv_tableIn (tgt := 180) (off := 126) d (by decide) (by decide) (by decide) (by decide) (k5 rfl)
  refine sv_tableOut (tgt := 198) d ?_ (by decide) (kd ⟨h0, h1, h2, h3, h4, h5⟩)
  have q0 := sw_ne h0 (by decide : (0 : Int32).toInt = 0)
  have q1 := sw_ne h1 (by decide : (1 : Int32).toInt = 1)
  have q2 := sw_ne h2 (by decide : (2 : Int32).toInt = 2)
  have q3 := sw_ne h3 (by decide : (3 : Int32).toInt = 3)
  have q4 := sw_ne h4 (by decide : (4 : Int32).toInt = 4)
  have q5 := sw_ne h5 (by decide : (5 : Int32).toInt = 5)
  omega
def yabout (S : Nat → Nat → Int32) (w : Int32) : Int32 := if w = 0 then S 179 2 else if w = 1 then S 184 21 else if w = 2 then S 184 20 else if w = 3 then S 184 22 else if w = 4 then S 184 23 else if w = 5 then S 184 24 else if w = 6 then coF S else if w = 7 then S 184 25 else if w = 8 then S 184 122 else if w = 9 then S 184 126 else if w = 10 then S 184 127 else if w = 11 then ulF S else if w = 12 then S 179 9 else if w = 13 then S 179 15 else if w = 14 then S 179 1 else -2
set_option maxRecDepth 100000 in
set_option maxHeartbeats 4000000 in
theorem e_X10_about (G : GT) (S : Nat → Nat → Int32) (L : Nat → Int64) (hN : wfN S) (w : Int32) : sE G yX10_about R_X10_about cX10_about 2 (some .int) [.ref (gB G + 179), .int w] S L (some (.int (yabout S w))) S L := by
  refine sE.of (by decide) (Nat.le_of_ble_eq_true rfl) ?_
  show sv_V G R_X10_about RX10 "about" cX10_about 2 (some .int) (sPo G R_X10_about (some (.int (yabout S w))) S L) 0 0 197 (CF G S L) 0 [(0, .ref (gB G + 179)), (1, .int w)] []
  refine sv_iload_n 1 dX10_about_0 rfl ?_
  refine sw_X10_about_1 dX10_about_1 (fun c1 => ?_) (fun c1 => ?_) (fun c1 => ?_) (fun c1 => ?_) (fun c1 => ?_) (fun c1 => ?_) (fun c1 => ?_) (fun c1 => ?_) (fun c1 => ?_) (fun c1 => ?_) (fun c1 => ?_) (fun c1 => ?_) (fun c1 => ?_) (fun c1 => ?_) (fun c1 => ?_) (fun c1 => ?_)
  · -- case 0
    refine sv_aload_n 0 dX10_about_76 rfl ?_
    refine sg_10_2 sh_179 fl_RX10_70 dX10_about_77 ?_
    exact se_iret rfl ⟨rfl, rfl⟩ dX10_about_80 (by rw [yabout, if_pos c1]) rfl
  · -- case 1
    refine sv_aload_n 0 dX10_about_81 rfl ?_
    refine sg_10_6 sh_179 fl_RX10_22 dX10_about_82 ?_
    refine sv_bipush (v := 21) dX10_about_85 (by decide) ?_
    refine sx_ild sh_184 21 (by decide) (by decide) dX10_about_87 ?_
    exact se_iret rfl ⟨rfl, rfl⟩ dX10_about_88 (by rw [yabout, if_neg (by rw [c1]; decide), if_pos c1]) rfl
  · -- case 2
    refine sv_aload_n 0 dX10_about_89 rfl ?_
    refine sg_10_6 sh_179 fl_RX10_22 dX10_about_90 ?_
    refine sv_bipush (v := 20) dX10_about_93 (by decide) ?_
    refine sx_ild sh_184 20 (by decide) (by decide) dX10_about_95 ?_
    exact se_iret rfl ⟨rfl, rfl⟩ dX10_about_96 (by rw [yabout, if_neg (by rw [c1]; decide), if_neg (by rw [c1]; decide), if_pos c1]) rfl
  · -- case 3
    refine sv_aload_n 0 dX10_about_97 rfl ?_
    refine sg_10_6 sh_179 fl_RX10_22 dX10_about_98 ?_
    refine sv_bipush (v := 22) dX10_about_101 (by decide) ?_
    refine sx_ild sh_184 22 (by decide) (by decide) dX10_about_103 ?_
    exact se_iret rfl ⟨rfl, rfl⟩ dX10_about_104 (by rw [yabout, if_neg (by rw [c1]; decide), if_neg (by rw [c1]; decide), if_neg (by rw [c1]; decide), if_pos c1]) rfl
  · -- case 4
    refine sv_aload_n 0 dX10_about_105 rfl ?_
    refine sg_10_6 sh_179 fl_RX10_22 dX10_about_106 ?_
    refine sv_bipush (v := 23) dX10_about_109 (by decide) ?_
    refine sx_ild sh_184 23 (by decide) (by decide) dX10_about_111 ?_
    exact se_iret rfl ⟨rfl, rfl⟩ dX10_about_112 (by rw [yabout, if_neg (by rw [c1]; decide), if_neg (by rw [c1]; decide), if_neg (by rw [c1]; decide), if_neg (by rw [c1]; decide), if_pos c1]) rfl
  · -- case 5
    refine sv_aload_n 0 dX10_about_113 rfl ?_
    refine sg_10_6 sh_179 fl_RX10_22 dX10_about_114 ?_
    refine sv_bipush (v := 24) dX10_about_117 (by decide) ?_
    refine sx_ild sh_184 24 (by decide) (by decide) dX10_about_119 ?_
    exact se_iret rfl ⟨rfl, rfl⟩ dX10_about_120 (by rw [yabout, if_neg (by rw [c1]; decide), if_neg (by rw [c1]; decide), if_neg (by rw [c1]; decide), if_neg (by rw [c1]; decide), if_neg (by rw [c1]; decide), if_pos c1]) rfl
  · -- case 6
    refine sv_aload_n 0 dX10_about_121 rfl ?_
    refine cVi0 (e_X10_counted G _ _ hN) ⟨rfl, rfl⟩ (sv_w5 ml_RX10_189 im_X10_counted sl_X10_counted in_RX10 cd_X10_counted) nm_X10_counted ⟨Nat.le_of_ble_eq_true rfl, Nat.le_of_ble_eq_true rfl⟩ rfl (CF_10 sh_179) (shp_lt sh_179 (by simp)) (Nat.le_of_ble_eq_true rfl) ⟨Nat.le_of_ble_eq_true rfl, Nat.le_of_ble_eq_true rfl⟩ dX10_about_122 ?_
    exact se_iret rfl ⟨rfl, rfl⟩ dX10_about_125 (by rw [yabout, if_neg (by rw [c1]; decide), if_neg (by rw [c1]; decide), if_neg (by rw [c1]; decide), if_neg (by rw [c1]; decide), if_neg (by rw [c1]; decide), if_neg (by rw [c1]; decide), if_pos c1]) rfl
  · -- case 7
    refine sv_aload_n 0 dX10_about_126 rfl ?_
    refine sg_10_6 sh_179 fl_RX10_22 dX10_about_127 ?_
    refine sv_bipush (v := 25) dX10_about_130 (by decide) ?_
    refine sx_ild sh_184 25 (by decide) (by decide) dX10_about_132 ?_
    exact se_iret rfl ⟨rfl, rfl⟩ dX10_about_133 (by rw [yabout, if_neg (by rw [c1]; decide), if_neg (by rw [c1]; decide), if_neg (by rw [c1]; decide), if_neg (by rw [c1]; decide), if_neg (by rw [c1]; decide), if_neg (by rw [c1]; decide), if_neg (by rw [c1]; decide), if_pos c1]) rfl
  · -- case 8
    refine sv_aload_n 0 dX10_about_134 rfl ?_
    refine sg_10_6 sh_179 fl_RX10_22 dX10_about_135 ?_
    refine sv_bipush (v := 122) dX10_about_138 (by decide) ?_
    refine sx_ild sh_184 122 (by decide) (by decide) dX10_about_140 ?_
    exact se_iret rfl ⟨rfl, rfl⟩ dX10_about_141 (by rw [yabout, if_neg (by rw [c1]; decide), if_neg (by rw [c1]; decide), if_neg (by rw [c1]; decide), if_neg (by rw [c1]; decide), if_neg (by rw [c1]; decide), if_neg (by rw [c1]; decide), if_neg (by rw [c1]; decide), if_neg (by rw [c1]; decide), if_pos c1]) rfl
  · -- case 9
    refine sv_aload_n 0 dX10_about_142 rfl ?_
    refine sg_10_6 sh_179 fl_RX10_22 dX10_about_143 ?_
    refine sv_bipush (v := 126) dX10_about_146 (by decide) ?_
    refine sx_ild sh_184 126 (by decide) (by decide) dX10_about_148 ?_
    exact se_iret rfl ⟨rfl, rfl⟩ dX10_about_149 (by rw [yabout, if_neg (by rw [c1]; decide), if_neg (by rw [c1]; decide), if_neg (by rw [c1]; decide), if_neg (by rw [c1]; decide), if_neg (by rw [c1]; decide), if_neg (by rw [c1]; decide), if_neg (by rw [c1]; decide), if_neg (by rw [c1]; decide), if_neg (by rw [c1]; decide), if_pos c1]) rfl
  · -- case 10
    refine sv_aload_n 0 dX10_about_150 rfl ?_
    refine sg_10_6 sh_179 fl_RX10_22 dX10_about_151 ?_
    refine sv_bipush (v := 127) dX10_about_154 (by decide) ?_
    refine sx_ild sh_184 127 (by decide) (by decide) dX10_about_156 ?_
    exact se_iret rfl ⟨rfl, rfl⟩ dX10_about_157 (by rw [yabout, if_neg (by rw [c1]; decide), if_neg (by rw [c1]; decide), if_neg (by rw [c1]; decide), if_neg (by rw [c1]; decide), if_neg (by rw [c1]; decide), if_neg (by rw [c1]; decide), if_neg (by rw [c1]; decide), if_neg (by rw [c1]; decide), if_neg (by rw [c1]; decide), if_neg (by rw [c1]; decide), if_pos c1]) rfl
  · -- case 11
    refine sv_aload_n 0 dX10_about_158 rfl ?_
    refine cVi0 (e_X10_unlike G _ _ hN) ⟨rfl, rfl⟩ (sv_w5 ml_RX10_192 im_X10_unlike sl_X10_unlike in_RX10 cd_X10_unlike) nm_X10_unlike ⟨Nat.le_of_ble_eq_true rfl, Nat.le_of_ble_eq_true rfl⟩ rfl (CF_10 sh_179) (shp_lt sh_179 (by simp)) (Nat.le_of_ble_eq_true rfl) ⟨Nat.le_of_ble_eq_true rfl, Nat.le_of_ble_eq_true rfl⟩ dX10_about_159 ?_
    exact se_iret rfl ⟨rfl, rfl⟩ dX10_about_162 (by rw [yabout, if_neg (by rw [c1]; decide), if_neg (by rw [c1]; decide), if_neg (by rw [c1]; decide), if_neg (by rw [c1]; decide), if_neg (by rw [c1]; decide), if_neg (by rw [c1]; decide), if_neg (by rw [c1]; decide), if_neg (by rw [c1]; decide), if_neg (by rw [c1]; decide), if_neg (by rw [c1]; decide), if_neg (by rw [c1]; decide), if_pos c1]) rfl
  · -- case 12
    refine sv_aload_n 0 dX10_about_163 rfl ?_
    refine sg_10_9 sh_179 fl_RX10_132 dX10_about_164 ?_
    exact se_iret rfl ⟨rfl, rfl⟩ dX10_about_167 (by rw [yabout, if_neg (by rw [c1]; decide), if_neg (by rw [c1]; decide), if_neg (by rw [c1]; decide), if_neg (by rw [c1]; decide), if_neg (by rw [c1]; decide), if_neg (by rw [c1]; decide), if_neg (by rw [c1]; decide), if_neg (by rw [c1]; decide), if_neg (by rw [c1]; decide), if_neg (by rw [c1]; decide), if_neg (by rw [c1]; decide), if_neg (by rw [c1]; decide), if_pos c1]) rfl
  · -- case 13
    refine sv_aload_n 0 dX10_about_168 rfl ?_
    refine sg_10_15 sh_179 fl_RX10_195 dX10_about_169 ?_
    exact se_iret rfl ⟨rfl, rfl⟩ dX10_about_172 (by rw [yabout, if_neg (by rw [c1]; decide), if_neg (by rw [c1]; decide), if_neg (by rw [c1]; decide), if_neg (by rw [c1]; decide), if_neg (by rw [c1]; decide), if_neg (by rw [c1]; decide), if_neg (by rw [c1]; decide), if_neg (by rw [c1]; decide), if_neg (by rw [c1]; decide), if_neg (by rw [c1]; decide), if_neg (by rw [c1]; decide), if_neg (by rw [c1]; decide), if_neg (by rw [c1]; decide), if_pos c1]) rfl
  · -- case 14
    refine sv_aload_n 0 dX10_about_173 rfl ?_
    refine sg_10_1 sh_179 fl_RX10_79 dX10_about_174 ?_
    exact se_iret rfl ⟨rfl, rfl⟩ dX10_about_177 (by rw [yabout, if_neg (by rw [c1]; decide), if_neg (by rw [c1]; decide), if_neg (by rw [c1]; decide), if_neg (by rw [c1]; decide), if_neg (by rw [c1]; decide), if_neg (by rw [c1]; decide), if_neg (by rw [c1]; decide), if_neg (by rw [c1]; decide), if_neg (by rw [c1]; decide), if_neg (by rw [c1]; decide), if_neg (by rw [c1]; decide), if_neg (by rw [c1]; decide), if_neg (by rw [c1]; decide), if_neg (by rw [c1]; decide), if_pos c1]) rfl
  · -- case None
    refine sv_bipush (v := (-2)) dX10_about_178 (by decide) ?_
    exact se_iret rfl ⟨rfl, rfl⟩ dX10_about_180 (by obtain ⟨z0, z1, z2, z3, z4, z5, z6, z7, z8, z9, z10, z11, z12, z13, z14⟩ := c1; rw [yabout, if_neg z0, if_neg z1, if_neg z2, if_neg z3, if_neg z4, if_neg z5, if_neg z6, if_neg z7, if_neg z8, if_neg z9, if_neg z10, if_neg z11, if_neg z12, if_neg z13, if_neg z14]) rfl
abbrev inP (x lo hi : Int32) : Prop := ¬ x < lo ∧ ¬ hi < x
def yregister (S : Nat → Nat → Int32) (r : Int32) : Int32 := if inP r 0 3 then S 184 (tn r) else -1
def ycell (S : Nat → Nat → Int32) (r : Int32) : Int32 := if inP r 0 7 then S 184 (4 + tn r) else -1
def ystack (S : Nat → Nat → Int32) (r : Int32) : Int32 := if (¬ r < 0 ∧ ¬ S 184 20 ≤ r) then S 184 (12 + tn r) else -9
def ycopy (S : Nat → Nat → Int32) (r : Int32) : Int32 := if (¬ r < 0 ∧ ¬ S 184 122 ≤ r) then S 184 (123 + tn r) else -9
def ybroken (S : Nat → Nat → Int32) (p w : Int32) : Int32 := if hasY S p then (if w = 0 then S 184 (26 + tn p) else if w = 1 then (if S 184 (26 + tn p) = 0 ∨ S 184 (42 + tn p) = -9 then -9 else S 184 (42 + tn p)) else if w = 2 then (if S 184 (26 + tn p) = 0 ∨ S 184 (42 + tn p) = -9 then -9 else S 184 (58 + tn p)) else if w = 3 then (if S 184 (26 + tn p) = 0 ∨ S 184 (42 + tn p) = -9 then -9 else S 184 (74 + tn p)) else if w = 4 then (if S 184 (26 + tn p) = 0 then 0 else S 184 (90 + tn p)) else if w = 5 then (if S 184 (26 + tn p) = 0 then 0 else S 184 (106 + tn p)) else -2) else -1
theorem pl_tn {m a : Int32} {k : Nat} (hm : ¬ m < 0) (hk : tn m ≤ k) (h : ¬ a < 0 ∧ ¬ (m - 1) < a) : tn a < k := Nat.lt_of_lt_of_le (hasI h.1 ((pl_iff hm).mp h).2 hm) hk
set_option maxRecDepth 100000 in
set_option maxHeartbeats 4000000 in
theorem e_X10_register (G : GT) (S : Nat → Nat → Int32) (L : Nat → Int64) (r : Int32) : sE G yX10_register R_X10_register cX10_register 2 (some .int) [.ref (gB G + 179), .int r] S L (some (.int (yregister S r))) S L := by
  refine sE.of (by decide) (Nat.le_of_ble_eq_true rfl) ?_
  show sv_V G R_X10_register RX10 "register" cX10_register 2 (some .int) (sPo G R_X10_register (some (.int (yregister S r))) S L) 0 0 197 (CF G S L) 0 [(0, .ref (gB G + 179)), (1, .int r)] []
  refine sv_iload_n 1 dX10_register_0 rfl ?_
  refine sv_i2l dX10_register_1 rfl ?_
  refine sv_lconst (v := 0) dX10_register_2 (by decide) ?_
  refine sv_ldc2 ck_RX10_107 dX10_register_3 ?_
  refine cSi3 (e_inI G _ _ r 0 3 _ _ _ rfl (by decide) (by decide)) ⟨rfl, rfl⟩ (sv_w4 ml_RX10_73 st_X10_in in_RX10 cd_X10_in) nm_X10_in ⟨Nat.le_of_ble_eq_true rfl, Nat.le_of_ble_eq_true rfl⟩ (Nat.le_of_ble_eq_true rfl) ⟨Nat.le_of_ble_eq_true rfl, Nat.le_of_ble_eq_true rfl⟩ dX10_register_6 ?_
  refine sv_ifeq_b (tgt := 21) dX10_register_9 (by decide) (fun c9 => ?_) (fun c9 => ?_)
  · -- jump
    refine sv_iconst (v := (-1)) dX10_register_21 (by decide) ?_
    exact se_iret rfl ⟨rfl, rfl⟩ dX10_register_22 (by rw [yregister, if_neg c9]) rfl
  · -- fall
    refine sv_aload_n 0 dX10_register_12 rfl ?_
    refine sg_10_6 sh_179 fl_RX10_22 dX10_register_13 ?_
    refine sv_iload_n 1 dX10_register_16 rfl ?_
    refine sx_ild sh_184 (tn r) (nI_self c9.1) (by have := tn_le (M := 3) (k := 3) rfl (by decide) c9.1 c9.2; omega) dX10_register_17 ?_
    refine sv_goto (tgt := 22) dX10_register_18 (by decide) ?_
    exact se_iret rfl ⟨rfl, rfl⟩ dX10_register_22 (by rw [yregister, if_pos c9]) rfl
set_option maxRecDepth 100000 in
set_option maxHeartbeats 4000000 in
theorem e_X10_cell (G : GT) (S : Nat → Nat → Int32) (L : Nat → Int64) (r : Int32) : sE G yX10_cell R_X10_cell cX10_cell 2 (some .int) [.ref (gB G + 179), .int r] S L (some (.int (ycell S r))) S L := by
  refine sE.of (by decide) (Nat.le_of_ble_eq_true rfl) ?_
  show sv_V G R_X10_cell RX10 "cell" cX10_cell 2 (some .int) (sPo G R_X10_cell (some (.int (ycell S r))) S L) 0 0 197 (CF G S L) 0 [(0, .ref (gB G + 179)), (1, .int r)] []
  refine sv_iload_n 1 dX10_cell_0 rfl ?_
  refine sv_i2l dX10_cell_1 rfl ?_
  refine sv_lconst (v := 0) dX10_cell_2 (by decide) ?_
  refine sv_ldc2 ck_RX10_120 dX10_cell_3 ?_
  refine cSi3 (e_inI G _ _ r 0 7 _ _ _ rfl (by decide) (by decide)) ⟨rfl, rfl⟩ (sv_w4 ml_RX10_73 st_X10_in in_RX10 cd_X10_in) nm_X10_in ⟨Nat.le_of_ble_eq_true rfl, Nat.le_of_ble_eq_true rfl⟩ (Nat.le_of_ble_eq_true rfl) ⟨Nat.le_of_ble_eq_true rfl, Nat.le_of_ble_eq_true rfl⟩ dX10_cell_6 ?_
  refine sv_ifeq_b (tgt := 23) dX10_cell_9 (by decide) (fun c9 => ?_) (fun c9 => ?_)
  · -- jump
    refine sv_iconst (v := (-1)) dX10_cell_23 (by decide) ?_
    exact se_iret rfl ⟨rfl, rfl⟩ dX10_cell_24 (by rw [ycell, if_neg c9]) rfl
  · -- fall
    refine sv_aload_n 0 dX10_cell_12 rfl ?_
    refine sg_10_6 sh_179 fl_RX10_22 dX10_cell_13 ?_
    refine sv_iconst (v := 4) dX10_cell_16 (by decide) ?_
    refine sv_iload_n 1 dX10_cell_17 rfl ?_
    refine sv_iadd dX10_cell_18 ?_
    refine sx_ild sh_184 (4 + tn r) (ad_tn 4 c9.1) (by have := tn_le (M := 7) (k := 7) rfl (by decide) c9.1 c9.2; omega) dX10_cell_19 ?_
    refine sv_goto (tgt := 24) dX10_cell_20 (by decide) ?_
    exact se_iret rfl ⟨rfl, rfl⟩ dX10_cell_24 (by rw [ycell, if_pos c9]) rfl
set_option maxRecDepth 100000 in
set_option maxHeartbeats 4000000 in
theorem e_X10_stack (G : GT) (S : Nat → Nat → Int32) (L : Nat → Int64) (hR : wfR S 184) (r : Int32) : sE G yX10_stack R_X10_stack cX10_stack 2 (some .int) [.ref (gB G + 179), .int r] S L (some (.int (ystack S r))) S L := by
  refine sE.of (by decide) (Nat.le_of_ble_eq_true rfl) ?_
  show sv_V G R_X10_stack RX10 "stack" cX10_stack 2 (some .int) (sPo G R_X10_stack (some (.int (ystack S r))) S L) 0 0 197 (CF G S L) 0 [(0, .ref (gB G + 179)), (1, .int r)] []
  refine sv_iload_n 1 dX10_stack_0 rfl ?_
  refine sv_i2l dX10_stack_1 rfl ?_
  refine sv_lconst (v := 0) dX10_stack_2 (by decide) ?_
  refine sv_aload_n 0 dX10_stack_3 rfl ?_
  refine sg_10_6 sh_179 fl_RX10_22 dX10_stack_4 ?_
  refine sv_bipush (v := 20) dX10_stack_7 (by decide) ?_
  refine sx_ild sh_184 20 (by decide) (by decide) dX10_stack_9 ?_
  refine sv_iconst (v := 1) dX10_stack_10 (by decide) ?_
  refine sv_isub dX10_stack_11 ?_
  refine sv_i2l dX10_stack_12 rfl ?_
  refine cSi3 (e_inI G _ _ r 0 (S 184 20 - 1) _ _ _ rfl (by decide) rfl) ⟨rfl, rfl⟩ (sv_w4 ml_RX10_73 st_X10_in in_RX10 cd_X10_in) nm_X10_in ⟨Nat.le_of_ble_eq_true rfl, Nat.le_of_ble_eq_true rfl⟩ (Nat.le_of_ble_eq_true rfl) ⟨Nat.le_of_ble_eq_true rfl, Nat.le_of_ble_eq_true rfl⟩ dX10_stack_13 ?_
  refine sv_ifeq_b (tgt := 31) dX10_stack_16 (by decide) (fun c16 => ?_) (fun c16 => ?_)
  · -- jump
    refine sv_bipush (v := (-9)) dX10_stack_31 (by decide) ?_
    exact se_iret rfl ⟨rfl, rfl⟩ dX10_stack_33 (by rw [ystack, if_neg (fun h => c16 ((pl_iff hR.1.1).mpr h))]) rfl
  · -- fall
    refine sv_aload_n 0 dX10_stack_19 rfl ?_
    refine sg_10_6 sh_179 fl_RX10_22 dX10_stack_20 ?_
    refine sv_bipush (v := 12) dX10_stack_23 (by decide) ?_
    refine sv_iload_n 1 dX10_stack_25 rfl ?_
    refine sv_iadd dX10_stack_26 ?_
    refine sx_ild sh_184 (12 + tn r) (ad_tn 12 c16.1) (by have := pl_tn hR.1.1 (tn_le (M := 8) (k := 8) rfl (by decide) hR.1.1 hR.1.2) c16; omega) dX10_stack_27 ?_
    refine sv_goto (tgt := 33) dX10_stack_28 (by decide) ?_
    exact se_iret rfl ⟨rfl, rfl⟩ dX10_stack_33 (by rw [ystack, if_pos ((pl_iff hR.1.1).mp c16)]) rfl
set_option maxRecDepth 100000 in
set_option maxHeartbeats 4000000 in
theorem e_X10_copy (G : GT) (S : Nat → Nat → Int32) (L : Nat → Int64) (hR : wfR S 184) (r : Int32) : sE G yX10_copy R_X10_copy cX10_copy 2 (some .int) [.ref (gB G + 179), .int r] S L (some (.int (ycopy S r))) S L := by
  refine sE.of (by decide) (Nat.le_of_ble_eq_true rfl) ?_
  show sv_V G R_X10_copy RX10 "copy" cX10_copy 2 (some .int) (sPo G R_X10_copy (some (.int (ycopy S r))) S L) 0 0 197 (CF G S L) 0 [(0, .ref (gB G + 179)), (1, .int r)] []
  refine sv_iload_n 1 dX10_copy_0 rfl ?_
  refine sv_i2l dX10_copy_1 rfl ?_
  refine sv_lconst (v := 0) dX10_copy_2 (by decide) ?_
  refine sv_aload_n 0 dX10_copy_3 rfl ?_
  refine sg_10_6 sh_179 fl_RX10_22 dX10_copy_4 ?_
  refine sv_bipush (v := 122) dX10_copy_7 (by decide) ?_
  refine sx_ild sh_184 122 (by decide) (by decide) dX10_copy_9 ?_
  refine sv_iconst (v := 1) dX10_copy_10 (by decide) ?_
  refine sv_isub dX10_copy_11 ?_
  refine sv_i2l dX10_copy_12 rfl ?_
  refine cSi3 (e_inI G _ _ r 0 (S 184 122 - 1) _ _ _ rfl (by decide) rfl) ⟨rfl, rfl⟩ (sv_w4 ml_RX10_73 st_X10_in in_RX10 cd_X10_in) nm_X10_in ⟨Nat.le_of_ble_eq_true rfl, Nat.le_of_ble_eq_true rfl⟩ (Nat.le_of_ble_eq_true rfl) ⟨Nat.le_of_ble_eq_true rfl, Nat.le_of_ble_eq_true rfl⟩ dX10_copy_13 ?_
  refine sv_ifeq_b (tgt := 31) dX10_copy_16 (by decide) (fun c16 => ?_) (fun c16 => ?_)
  · -- jump
    refine sv_bipush (v := (-9)) dX10_copy_31 (by decide) ?_
    exact se_iret rfl ⟨rfl, rfl⟩ dX10_copy_33 (by rw [ycopy, if_neg (fun h => c16 ((pl_iff hR.2.1.1).mpr h))]) rfl
  · -- fall
    refine sv_aload_n 0 dX10_copy_19 rfl ?_
    refine sg_10_6 sh_179 fl_RX10_22 dX10_copy_20 ?_
    refine sv_bipush (v := 123) dX10_copy_23 (by decide) ?_
    refine sv_iload_n 1 dX10_copy_25 rfl ?_
    refine sv_iadd dX10_copy_26 ?_
    refine sx_ild sh_184 (123 + tn r) (ad_tn 123 c16.1) (by have := pl_tn hR.2.1.1 (tn_le (M := 3) (k := 3) rfl (by decide) hR.2.1.1 hR.2.1.2) c16; omega) dX10_copy_27 ?_
    refine sv_goto (tgt := 33) dX10_copy_28 (by decide) ?_
    exact se_iret rfl ⟨rfl, rfl⟩ dX10_copy_33 (by rw [ycopy, if_pos ((pl_iff hR.2.1.1).mp c16)]) rfl
set_option maxRecDepth 100000 in
set_option maxHeartbeats 4000000 in
theorem e_X10_broken (G : GT) (S : Nat → Nat → Int32) (L : Nat → Int64) (hN : wfN S) (a w : Int32) : sE G yX10_broken R_X10_broken cX10_broken 5 (some .int) [.ref (gB G + 179), .int a, .int w] S L (some (.int (ybroken S a w))) S L := by
  refine sE.of (by decide) (Nat.le_of_ble_eq_true rfl) ?_
  show sv_V G R_X10_broken RX10 "broken" cX10_broken 5 (some .int) (sPo G R_X10_broken (some (.int (ybroken S a w))) S L) 0 0 197 (CF G S L) 0 [(0, .ref (gB G + 179)), (1, .int a), (2, .int w)] []
  refine sv_aload_n 0 dX10_broken_0 rfl ?_
  refine sv_iload_n 1 dX10_broken_1 rfl ?_
  refine cVi1 (e_X10_isPlace G _ _ hN _) ⟨rfl, rfl⟩ (sv_w5 ml_RX10_135 im_X10_isPlace sl_X10_isPlace in_RX10 cd_X10_isPlace) nm_X10_isPlace ⟨Nat.le_of_ble_eq_true rfl, Nat.le_of_ble_eq_true rfl⟩ rfl (CF_10 sh_179) (shp_lt sh_179 (by simp)) (Nat.le_of_ble_eq_true rfl) ⟨Nat.le_of_ble_eq_true rfl, Nat.le_of_ble_eq_true rfl⟩ dX10_broken_2 ?_
  refine sv_ifne_b (tgt := 10) dX10_broken_5 (by decide) (fun c5 => ?_) (fun c5 => ?_)
  · -- jump
    refine sv_aload_n 0 dX10_broken_10 rfl ?_
    refine sg_10_6 sh_179 fl_RX10_22 dX10_broken_11 ?_
    refine sv_bipush (v := 26) dX10_broken_14 (by decide) ?_
    refine sv_iload_n 1 dX10_broken_16 rfl ?_
    refine sv_iadd dX10_broken_17 ?_
    refine sx_ild sh_184 (26 + tn a) (ad_tn 26 c5.1) (by have := (hY16 hN c5).2; omega) dX10_broken_18 ?_
    refine sv_if_ne (tgt := 26) dX10_broken_19 (by decide) (fun c19 => ?_) (fun c19 => ?_)
    · -- jump
      refine sv_iconst (v := 0) dX10_broken_26 (by decide) ?_
      refine sv_istore_n (ls' := [(3, _), (0, _), (1, _), (2, _)]) dX10_broken_27 (by decide) rfl ?_
      refine sv_iload_n 0 dX10_broken_28 rfl ?_
      refine sv_if_ne (tgt := 46) dX10_broken_29 (by decide) (fun z => absurd z (by decide)) (fun _ => ?_)
      refine sv_aload_n 1 dX10_broken_32 rfl ?_
      refine sg_10_6 sh_179 fl_RX10_22 dX10_broken_33 ?_
      refine sv_bipush (v := 42) dX10_broken_36 (by decide) ?_
      refine sv_iload_n 2 dX10_broken_38 rfl ?_
      refine sv_iadd dX10_broken_39 ?_
      refine sx_ild sh_184 (42 + tn a) (ad_tn 42 c5.1) (by have := (hY16 hN c5).2; omega) dX10_broken_40 ?_
      refine sv_bipush (v := (-9)) dX10_broken_41 (by decide) ?_
      refine sv_icmp_ne (tgt := 50) dX10_broken_43 (by decide) (fun c43 => ?_) (fun c43 => ?_)
      · -- jump
        refine sv_iconst (v := 0) dX10_broken_50 (by decide) ?_
        refine sv_istore (ls' := [(4, _), (3, _), (0, _), (1, _), (2, _)]) dX10_broken_51 (by decide) rfl ?_
        refine sv_iload_n 4 dX10_broken_53 rfl ?_
        refine sw_X10_broken_54 dX10_broken_54 (fun c54 => ?_) (fun c54 => ?_) (fun c54 => ?_) (fun c54 => ?_) (fun c54 => ?_) (fun c54 => ?_) (fun c54 => ?_)
        · -- case 0
          refine sv_aload_n 2 dX10_broken_92 rfl ?_
          refine sg_10_6 sh_179 fl_RX10_22 dX10_broken_93 ?_
          refine sv_bipush (v := 26) dX10_broken_96 (by decide) ?_
          refine sv_iload_n 3 dX10_broken_98 rfl ?_
          refine sv_iadd dX10_broken_99 ?_
          refine sx_ild sh_184 (26 + tn a) (ad_tn 26 c5.1) (by have := (hY16 hN c5).2; omega) dX10_broken_100 ?_
          exact se_iret rfl ⟨rfl, rfl⟩ dX10_broken_101 (by rw [ybroken, if_pos c5, if_pos c54]) rfl
        · -- case 1
          refine sv_iload 0 dX10_broken_102 rfl ?_
          refine sv_if_eq (tgt := 112) dX10_broken_104 (by decide) (fun _ => ?_) (fun z => absurd z (by decide))
          refine sv_aload_n 2 dX10_broken_112 rfl ?_
          refine sg_10_6 sh_179 fl_RX10_22 dX10_broken_113 ?_
          refine sv_bipush (v := 42) dX10_broken_116 (by decide) ?_
          refine sv_iload_n 3 dX10_broken_118 rfl ?_
          refine sv_iadd dX10_broken_119 ?_
          refine sx_ild sh_184 (42 + tn a) (ad_tn 42 c5.1) (by have := (hY16 hN c5).2; omega) dX10_broken_120 ?_
          exact se_iret rfl ⟨rfl, rfl⟩ dX10_broken_121 (by rw [ybroken, if_pos c5, if_neg (by rw [c54]; decide), if_pos c54, if_neg (fun h => h.elim c19 c43)]) rfl
        · -- case 2
          refine sv_iload 0 dX10_broken_122 rfl ?_
          refine sv_if_eq (tgt := 132) dX10_broken_124 (by decide) (fun _ => ?_) (fun z => absurd z (by decide))
          refine sv_aload_n 2 dX10_broken_132 rfl ?_
          refine sg_10_6 sh_179 fl_RX10_22 dX10_broken_133 ?_
          refine sv_bipush (v := 58) dX10_broken_136 (by decide) ?_
          refine sv_iload_n 3 dX10_broken_138 rfl ?_
          refine sv_iadd dX10_broken_139 ?_
          refine sx_ild sh_184 (58 + tn a) (ad_tn 58 c5.1) (by have := (hY16 hN c5).2; omega) dX10_broken_140 ?_
          exact se_iret rfl ⟨rfl, rfl⟩ dX10_broken_141 (by rw [ybroken, if_pos c5, if_neg (by rw [c54]; decide), if_neg (by rw [c54]; decide), if_pos c54, if_neg (fun h => h.elim c19 c43)]) rfl
        · -- case 3
          refine sv_iload 0 dX10_broken_142 rfl ?_
          refine sv_if_eq (tgt := 152) dX10_broken_144 (by decide) (fun _ => ?_) (fun z => absurd z (by decide))
          refine sv_aload_n 2 dX10_broken_152 rfl ?_
          refine sg_10_6 sh_179 fl_RX10_22 dX10_broken_153 ?_
          refine sv_bipush (v := 74) dX10_broken_156 (by decide) ?_
          refine sv_iload_n 3 dX10_broken_158 rfl ?_
          refine sv_iadd dX10_broken_159 ?_
          refine sx_ild sh_184 (74 + tn a) (ad_tn 74 c5.1) (by have := (hY16 hN c5).2; omega) dX10_broken_160 ?_
          exact se_iret rfl ⟨rfl, rfl⟩ dX10_broken_161 (by rw [ybroken, if_pos c5, if_neg (by rw [c54]; decide), if_neg (by rw [c54]; decide), if_neg (by rw [c54]; decide), if_pos c54, if_neg (fun h => h.elim c19 c43)]) rfl
        · -- case 4
          refine sv_iload_n 1 dX10_broken_162 rfl ?_
          refine sv_if_eq (tgt := 170) dX10_broken_163 (by decide) (fun _ => ?_) (fun z => absurd z (by decide))
          refine sv_aload_n 2 dX10_broken_170 rfl ?_
          refine sg_10_6 sh_179 fl_RX10_22 dX10_broken_171 ?_
          refine sv_bipush (v := 90) dX10_broken_174 (by decide) ?_
          refine sv_iload_n 3 dX10_broken_176 rfl ?_
          refine sv_iadd dX10_broken_177 ?_
          refine sx_ild sh_184 (90 + tn a) (ad_tn 90 c5.1) (by have := (hY16 hN c5).2; omega) dX10_broken_178 ?_
          exact se_iret rfl ⟨rfl, rfl⟩ dX10_broken_179 (by rw [ybroken, if_pos c5, if_neg (by rw [c54]; decide), if_neg (by rw [c54]; decide), if_neg (by rw [c54]; decide), if_neg (by rw [c54]; decide), if_pos c54, if_neg c19]) rfl
        · -- case 5
          refine sv_iload_n 1 dX10_broken_180 rfl ?_
          refine sv_if_eq (tgt := 188) dX10_broken_181 (by decide) (fun _ => ?_) (fun z => absurd z (by decide))
          refine sv_aload_n 2 dX10_broken_188 rfl ?_
          refine sg_10_6 sh_179 fl_RX10_22 dX10_broken_189 ?_
          refine sv_bipush (v := 106) dX10_broken_192 (by decide) ?_
          refine sv_iload_n 3 dX10_broken_194 rfl ?_
          refine sv_iadd dX10_broken_195 ?_
          refine sx_ild sh_184 (106 + tn a) (ad_tn 106 c5.1) (by have := (hY16 hN c5).2; omega) dX10_broken_196 ?_
          exact se_iret rfl ⟨rfl, rfl⟩ dX10_broken_197 (by rw [ybroken, if_pos c5, if_neg (by rw [c54]; decide), if_neg (by rw [c54]; decide), if_neg (by rw [c54]; decide), if_neg (by rw [c54]; decide), if_neg (by rw [c54]; decide), if_pos c54, if_neg c19]) rfl
        · -- case None
          refine sv_bipush (v := (-2)) dX10_broken_198 (by decide) ?_
          exact se_iret rfl ⟨rfl, rfl⟩ dX10_broken_200 (by obtain ⟨z0, z1, z2, z3, z4, z5⟩ := c54; rw [ybroken, if_pos c5, if_neg z0, if_neg z1, if_neg z2, if_neg z3, if_neg z4, if_neg z5]) rfl
      · -- fall
        refine sv_iconst (v := 1) dX10_broken_46 (by decide) ?_
        refine sv_goto (tgt := 51) dX10_broken_47 (by decide) ?_
        refine sv_istore (ls' := [(4, _), (3, _), (0, _), (1, _), (2, _)]) dX10_broken_51 (by decide) rfl ?_
        refine sv_iload_n 4 dX10_broken_53 rfl ?_
        refine sw_X10_broken_54 dX10_broken_54 (fun c54 => ?_) (fun c54 => ?_) (fun c54 => ?_) (fun c54 => ?_) (fun c54 => ?_) (fun c54 => ?_) (fun c54 => ?_)
        · -- case 0
          refine sv_aload_n 2 dX10_broken_92 rfl ?_
          refine sg_10_6 sh_179 fl_RX10_22 dX10_broken_93 ?_
          refine sv_bipush (v := 26) dX10_broken_96 (by decide) ?_
          refine sv_iload_n 3 dX10_broken_98 rfl ?_
          refine sv_iadd dX10_broken_99 ?_
          refine sx_ild sh_184 (26 + tn a) (ad_tn 26 c5.1) (by have := (hY16 hN c5).2; omega) dX10_broken_100 ?_
          exact se_iret rfl ⟨rfl, rfl⟩ dX10_broken_101 (by rw [ybroken, if_pos c5, if_pos c54]) rfl
        · -- case 1
          refine sv_iload 0 dX10_broken_102 rfl ?_
          refine sv_if_eq (tgt := 112) dX10_broken_104 (by decide) (fun z => absurd z (by decide)) (fun _ => ?_)
          refine sv_bipush (v := (-9)) dX10_broken_107 (by decide) ?_
          refine sv_goto (tgt := 121) dX10_broken_109 (by decide) ?_
          exact se_iret rfl ⟨rfl, rfl⟩ dX10_broken_121 (by rw [ybroken, if_pos c5, if_neg (by rw [c54]; decide), if_pos c54, if_pos (Or.inr c43)]) rfl
        · -- case 2
          refine sv_iload 0 dX10_broken_122 rfl ?_
          refine sv_if_eq (tgt := 132) dX10_broken_124 (by decide) (fun z => absurd z (by decide)) (fun _ => ?_)
          refine sv_bipush (v := (-9)) dX10_broken_127 (by decide) ?_
          refine sv_goto (tgt := 141) dX10_broken_129 (by decide) ?_
          exact se_iret rfl ⟨rfl, rfl⟩ dX10_broken_141 (by rw [ybroken, if_pos c5, if_neg (by rw [c54]; decide), if_neg (by rw [c54]; decide), if_pos c54, if_pos (Or.inr c43)]) rfl
        · -- case 3
          refine sv_iload 0 dX10_broken_142 rfl ?_
          refine sv_if_eq (tgt := 152) dX10_broken_144 (by decide) (fun z => absurd z (by decide)) (fun _ => ?_)
          refine sv_bipush (v := (-9)) dX10_broken_147 (by decide) ?_
          refine sv_goto (tgt := 161) dX10_broken_149 (by decide) ?_
          exact se_iret rfl ⟨rfl, rfl⟩ dX10_broken_161 (by rw [ybroken, if_pos c5, if_neg (by rw [c54]; decide), if_neg (by rw [c54]; decide), if_neg (by rw [c54]; decide), if_pos c54, if_pos (Or.inr c43)]) rfl
        · -- case 4
          refine sv_iload_n 1 dX10_broken_162 rfl ?_
          refine sv_if_eq (tgt := 170) dX10_broken_163 (by decide) (fun _ => ?_) (fun z => absurd z (by decide))
          refine sv_aload_n 2 dX10_broken_170 rfl ?_
          refine sg_10_6 sh_179 fl_RX10_22 dX10_broken_171 ?_
          refine sv_bipush (v := 90) dX10_broken_174 (by decide) ?_
          refine sv_iload_n 3 dX10_broken_176 rfl ?_
          refine sv_iadd dX10_broken_177 ?_
          refine sx_ild sh_184 (90 + tn a) (ad_tn 90 c5.1) (by have := (hY16 hN c5).2; omega) dX10_broken_178 ?_
          exact se_iret rfl ⟨rfl, rfl⟩ dX10_broken_179 (by rw [ybroken, if_pos c5, if_neg (by rw [c54]; decide), if_neg (by rw [c54]; decide), if_neg (by rw [c54]; decide), if_neg (by rw [c54]; decide), if_pos c54, if_neg c19]) rfl
        · -- case 5
          refine sv_iload_n 1 dX10_broken_180 rfl ?_
          refine sv_if_eq (tgt := 188) dX10_broken_181 (by decide) (fun _ => ?_) (fun z => absurd z (by decide))
          refine sv_aload_n 2 dX10_broken_188 rfl ?_
          refine sg_10_6 sh_179 fl_RX10_22 dX10_broken_189 ?_
          refine sv_bipush (v := 106) dX10_broken_192 (by decide) ?_
          refine sv_iload_n 3 dX10_broken_194 rfl ?_
          refine sv_iadd dX10_broken_195 ?_
          refine sx_ild sh_184 (106 + tn a) (ad_tn 106 c5.1) (by have := (hY16 hN c5).2; omega) dX10_broken_196 ?_
          exact se_iret rfl ⟨rfl, rfl⟩ dX10_broken_197 (by rw [ybroken, if_pos c5, if_neg (by rw [c54]; decide), if_neg (by rw [c54]; decide), if_neg (by rw [c54]; decide), if_neg (by rw [c54]; decide), if_neg (by rw [c54]; decide), if_pos c54, if_neg c19]) rfl
        · -- case None
          refine sv_bipush (v := (-2)) dX10_broken_198 (by decide) ?_
          exact se_iret rfl ⟨rfl, rfl⟩ dX10_broken_200 (by obtain ⟨z0, z1, z2, z3, z4, z5⟩ := c54; rw [ybroken, if_pos c5, if_neg z0, if_neg z1, if_neg z2, if_neg z3, if_neg z4, if_neg z5]) rfl
    · -- fall
      refine sv_iconst (v := 1) dX10_broken_22 (by decide) ?_
      refine sv_goto (tgt := 27) dX10_broken_23 (by decide) ?_
      refine sv_istore_n (ls' := [(3, _), (0, _), (1, _), (2, _)]) dX10_broken_27 (by decide) rfl ?_
      refine sv_iload_n 0 dX10_broken_28 rfl ?_
      refine sv_if_ne (tgt := 46) dX10_broken_29 (by decide) (fun _ => ?_) (fun z => absurd z (by decide))
      refine sv_iconst (v := 1) dX10_broken_46 (by decide) ?_
      refine sv_goto (tgt := 51) dX10_broken_47 (by decide) ?_
      refine sv_istore (ls' := [(4, _), (3, _), (0, _), (1, _), (2, _)]) dX10_broken_51 (by decide) rfl ?_
      refine sv_iload_n 4 dX10_broken_53 rfl ?_
      refine sw_X10_broken_54 dX10_broken_54 (fun c54 => ?_) (fun c54 => ?_) (fun c54 => ?_) (fun c54 => ?_) (fun c54 => ?_) (fun c54 => ?_) (fun c54 => ?_)
      · -- case 0
        refine sv_aload_n 2 dX10_broken_92 rfl ?_
        refine sg_10_6 sh_179 fl_RX10_22 dX10_broken_93 ?_
        refine sv_bipush (v := 26) dX10_broken_96 (by decide) ?_
        refine sv_iload_n 3 dX10_broken_98 rfl ?_
        refine sv_iadd dX10_broken_99 ?_
        refine sx_ild sh_184 (26 + tn a) (ad_tn 26 c5.1) (by have := (hY16 hN c5).2; omega) dX10_broken_100 ?_
        exact se_iret rfl ⟨rfl, rfl⟩ dX10_broken_101 (by rw [ybroken, if_pos c5, if_pos c54]) rfl
      · -- case 1
        refine sv_iload 0 dX10_broken_102 rfl ?_
        refine sv_if_eq (tgt := 112) dX10_broken_104 (by decide) (fun z => absurd z (by decide)) (fun _ => ?_)
        refine sv_bipush (v := (-9)) dX10_broken_107 (by decide) ?_
        refine sv_goto (tgt := 121) dX10_broken_109 (by decide) ?_
        exact se_iret rfl ⟨rfl, rfl⟩ dX10_broken_121 (by rw [ybroken, if_pos c5, if_neg (by rw [c54]; decide), if_pos c54, if_pos (Or.inl c19)]) rfl
      · -- case 2
        refine sv_iload 0 dX10_broken_122 rfl ?_
        refine sv_if_eq (tgt := 132) dX10_broken_124 (by decide) (fun z => absurd z (by decide)) (fun _ => ?_)
        refine sv_bipush (v := (-9)) dX10_broken_127 (by decide) ?_
        refine sv_goto (tgt := 141) dX10_broken_129 (by decide) ?_
        exact se_iret rfl ⟨rfl, rfl⟩ dX10_broken_141 (by rw [ybroken, if_pos c5, if_neg (by rw [c54]; decide), if_neg (by rw [c54]; decide), if_pos c54, if_pos (Or.inl c19)]) rfl
      · -- case 3
        refine sv_iload 0 dX10_broken_142 rfl ?_
        refine sv_if_eq (tgt := 152) dX10_broken_144 (by decide) (fun z => absurd z (by decide)) (fun _ => ?_)
        refine sv_bipush (v := (-9)) dX10_broken_147 (by decide) ?_
        refine sv_goto (tgt := 161) dX10_broken_149 (by decide) ?_
        exact se_iret rfl ⟨rfl, rfl⟩ dX10_broken_161 (by rw [ybroken, if_pos c5, if_neg (by rw [c54]; decide), if_neg (by rw [c54]; decide), if_neg (by rw [c54]; decide), if_pos c54, if_pos (Or.inl c19)]) rfl
      · -- case 4
        refine sv_iload_n 1 dX10_broken_162 rfl ?_
        refine sv_if_eq (tgt := 170) dX10_broken_163 (by decide) (fun z => absurd z (by decide)) (fun _ => ?_)
        refine sv_iconst (v := 0) dX10_broken_166 (by decide) ?_
        refine sv_goto (tgt := 179) dX10_broken_167 (by decide) ?_
        exact se_iret rfl ⟨rfl, rfl⟩ dX10_broken_179 (by rw [ybroken, if_pos c5, if_neg (by rw [c54]; decide), if_neg (by rw [c54]; decide), if_neg (by rw [c54]; decide), if_neg (by rw [c54]; decide), if_pos c54, if_pos c19]) rfl
      · -- case 5
        refine sv_iload_n 1 dX10_broken_180 rfl ?_
        refine sv_if_eq (tgt := 188) dX10_broken_181 (by decide) (fun z => absurd z (by decide)) (fun _ => ?_)
        refine sv_iconst (v := 0) dX10_broken_184 (by decide) ?_
        refine sv_goto (tgt := 197) dX10_broken_185 (by decide) ?_
        exact se_iret rfl ⟨rfl, rfl⟩ dX10_broken_197 (by rw [ybroken, if_pos c5, if_neg (by rw [c54]; decide), if_neg (by rw [c54]; decide), if_neg (by rw [c54]; decide), if_neg (by rw [c54]; decide), if_neg (by rw [c54]; decide), if_pos c54, if_pos c19]) rfl
      · -- case None
        refine sv_bipush (v := (-2)) dX10_broken_198 (by decide) ?_
        exact se_iret rfl ⟨rfl, rfl⟩ dX10_broken_200 (by obtain ⟨z0, z1, z2, z3, z4, z5⟩ := c54; rw [ybroken, if_pos c5, if_neg z0, if_neg z1, if_neg z2, if_neg z3, if_neg z4, if_neg z5]) rfl
  · -- fall
    refine sv_iconst (v := (-1)) dX10_broken_8 (by decide) ?_
    exact se_iret rfl ⟨rfl, rfl⟩ dX10_broken_9 (by rw [ybroken, if_neg c5]) rfl
/-- the row as it stands is laid into the diary at x -/
def ndK (S : Nat → Nat → Int32) (x k : Nat) : Nat → Nat → Int32 := va_up S 186 (fun j => if 128 * x ≤ j ∧ j < 128 * x + k then S 184 (j - 128 * x) else S 186 j)
theorem ndK_0 (S : Nat → Nat → Int32) (x : Nat) : ndK S x 0 = S := by
  funext k j
  unfold ndK va_up
  by_cases hk : k = 186
  · subst hk; simp only [if_pos]; rw [if_neg (by omega)]
  · simp [hk]
theorem ndK_s (S : Nat → Nat → Int32) (x p : Nat) : up2 (ndK S x p) 186 (128 * x + p) (ndK S x p 184 p) = ndK S x (p + 1) := by
  have e : ndK S x p 184 p = S 184 p := by unfold ndK va_up; rw [if_neg (by decide)]
  rw [e]
  funext k j
  rw [up2_at]
  unfold ndK va_up
  by_cases hk : k = 186
  · subst hk
    simp only [true_and, if_pos]
    by_cases h1 : j = 128 * x + p
    · subst h1; rw [if_pos rfl, if_pos (by omega), show 128 * x + p - 128 * x = p by omega]
    · rw [if_neg h1]
      by_cases h2 : 128 * x ≤ j ∧ j < 128 * x + p
      · rw [if_pos h2, if_pos (by omega)]
      · rw [if_neg h2, if_neg (by omega)]
  · simp [hk]
theorem ndK_ne {S : Nat → Nat → Int32} {x n k : Nat} (h : k ≠ 186) : ndK S x n k = S k := by unfold ndK va_up; rw [if_neg h]
def wfD (S : Nat → Nat → Int32) : Prop := (¬ S 179 10 < 0 ∧ ¬ 14 ≤ S 179 10)
def ynote (S : Nat → Nat → Int32) : Nat → Nat → Int32 := up2 (up2 (ndK S (tn (S 179 10)) 128) 179 10 (nI ((tn (S 179 10) + 1) % 14))) 179 9 (if S 179 9 < 14 then S 179 9 + 1 else 14)
theorem ynote_ne {S : Nat → Nat → Int32} {k : Nat} (h : k ≠ 186) (h2 : k ≠ 179) : ynote S k = S k := by unfold ynote; rw [up2_row h2, up2_row h2, ndK_ne h]
theorem ynote_wfY {S : Nat → Nat → Int32} (hY : wfY S) : wfY (ynote S) := wfY_of (by unfold ynote; rw [up2_ne (Or.inr (by decide)), up2_ne (Or.inr (by decide)), ndK_ne (by decide)]) (fun k hk => ynote_ne (by omega) (by omega)) hY
theorem ynote_wfR {S : Nat → Nat → Int32} (hR : wfR S 184) : wfR (ynote S) 184 := wfR_row (ynote_ne (by decide) (by decide)) hR
set_option maxRecDepth 100000 in
set_option maxHeartbeats 4000000 in
theorem l_X10_note (G : GT) (S : Nat → Nat → Int32) (L : Nat → Int64) (x : Nat) (hx : S 179 10 = nI x) (hx14 : x < 14) : ∀ (m p : Nat), 128 - p = m → p ≤ 128 → sv_V G R_X10_note RX10 "note" cX10_note 2 none (sPo G R_X10_note none (ynote S) L) 0 0 197 (CF G (ndK S x p) L) 2 [(1, .int (nI p)), (0, .ref (gB G + 179))] [] := by
  have hxx : tn (S 179 10) = x := by rw [hx, tn_nI (by omega)]
  intro m
  induction m using Nat.strongRecOn
  rename_i m ih
  intro p hm hp
  refine sv_iload_n 0 dX10_note_2 rfl ?_
  refine sv_sipush (v := 128) dX10_note_3 (by decide) ?_
  refine sv_icmp_ge (tgt := 36) dX10_note_6 (by decide) (fun c6 => ?_) (fun c6 => ?_)
  · -- jump
    obtain rfl : p = 128 := by have := (nI_leI (a := 128) (b := p) (by omega) (by omega)).mp c6; omega
    refine sv_aload_n 1 dX10_note_36 rfl ?_
    refine sv_aload_n 1 dX10_note_37 rfl ?_
    refine sg_10_10 sh_179 fl_RX10_198 dX10_note_38 ?_
    refine sv_topE (v' := nI x) (by rw [ndK_ne (by decide)]; exact hx) ?_
    refine sv_iconst (v := 1) dX10_note_41 (by decide) ?_
    refine sv_iadd dX10_note_42 ?_
    refine sv_bipush (v := 14) dX10_note_43 (by decide) ?_
    refine sv_irem dX10_note_45 (by decide) ?_
    refine sv_topE (v' := nI ((x + 1) % 14)) (rem_nI (nI_1 x) (by rfl) (by omega) (by decide) (by decide)) ?_
    refine sp_10_10 sh_179 fl_RX10_198 dX10_note_46 ?_
    refine sv_aload_n 1 dX10_note_49 rfl ?_
    refine sv_aload_n 1 dX10_note_50 rfl ?_
    refine sg_10_9 sh_179 fl_RX10_132 dX10_note_51 ?_
    refine sv_topE (v' := S 179 9) (by rw [up2_ne (Or.inr (by decide)), ndK_ne (by decide)]) ?_
    refine sv_bipush (v := 14) dX10_note_54 (by decide) ?_
    refine sv_icmp_ge (tgt := 68) dX10_note_56 (by decide) (fun c56 => ?_) (fun c56 => ?_)
    · -- jump
      refine sv_bipush (v := 14) dX10_note_68 (by decide) ?_
      refine sp_10_9 sh_179 fl_RX10_132 dX10_note_70 ?_
      exact se_vret rfl ⟨rfl, rfl⟩ dX10_note_73  (by rw [ynote, hxx, if_neg (Int32.not_lt.mpr c56)]; exact sEq.rf _)
    · -- fall
      refine sv_aload_n 1 dX10_note_59 rfl ?_
      refine sg_10_9 sh_179 fl_RX10_132 dX10_note_60 ?_
      refine sv_topE (v' := S 179 9) (by rw [up2_ne (Or.inr (by decide)), ndK_ne (by decide)]) ?_
      refine sv_iconst (v := 1) dX10_note_63 (by decide) ?_
      refine sv_iadd dX10_note_64 ?_
      refine sv_goto (tgt := 70) dX10_note_65 (by decide) ?_
      refine sp_10_9 sh_179 fl_RX10_132 dX10_note_70 ?_
      exact se_vret rfl ⟨rfl, rfl⟩ dX10_note_73  (by rw [ynote, hxx, if_pos (Int32.not_le.mp c56)]; exact sEq.rf _)
  · -- fall
    have h7 : p < 128 := Nat.lt_of_not_le (fun z => c6 (nI_le (a := 128) z (by omega)))
    refine sv_aload_n 1 dX10_note_9 rfl ?_
    refine sg_10_8 sh_179 fl_RX10_28 dX10_note_10 ?_
    refine sv_sipush (v := 128) dX10_note_13 (by decide) ?_
    refine sv_aload_n 1 dX10_note_16 rfl ?_
    refine sg_10_10 sh_179 fl_RX10_198 dX10_note_17 ?_
    refine sv_topE (v' := nI x) (by rw [ndK_ne (by decide)]; exact hx) ?_
    refine sv_imul dX10_note_20 ?_
    refine sv_iload_n 0 dX10_note_21 rfl ?_
    refine sv_iadd dX10_note_22 ?_
    refine sv_aload_n 1 dX10_note_23 rfl ?_
    refine sg_10_6 sh_179 fl_RX10_22 dX10_note_24 ?_
    refine sv_iload_n 0 dX10_note_27 rfl ?_
    refine sx_ild sh_184 p rfl (by omega) dX10_note_28 ?_
    refine sx_ist sh_186 (128 * x + p) (by rw [show (128 : Int32) = nI 128 from rfl, pk_mul, nI_add]) (by omega) dX10_note_29 ?_
    refine sv_eqS (ndK_s S x p) ?_
    refine sv_iinc 0 (ls' := [(1, _), (0, _)]) dX10_note_30 rfl (nI_1 _) (by decide) rfl ?_
    refine sv_goto (tgt := 2) dX10_note_33 (by decide) ?_
    exact ih (128 - (p + 1)) (by omega) (p + 1) rfl (by omega)
set_option maxRecDepth 100000 in
set_option maxHeartbeats 4000000 in
theorem e_X10_note (G : GT) (S : Nat → Nat → Int32) (L : Nat → Int64) (hD : wfD S) : sE G yX10_note R_X10_note cX10_note 2 none [.ref (gB G + 179)] S L none (ynote S) L := by
  refine sE.of (by decide) (Nat.le_of_ble_eq_true rfl) ?_
  show sv_V G R_X10_note RX10 "note" cX10_note 2 none (sPo G R_X10_note none (ynote S) L) 0 0 197 (CF G S L) 0 [(0, .ref (gB G + 179))] []
  refine sv_iconst (v := 0) dX10_note_0 (by decide) ?_
  refine sv_istore_n (ls' := [(1, _), (0, _)]) dX10_note_1 (by decide) rfl ?_
  have h := l_X10_note G S L (tn (S 179 10)) (nI_self hD.1) (tn_lt (M := 14) (k := 14) rfl (by decide) hD.1 hD.2) _ 0 rfl (by omega)
  rw [ndK_0] at h
  exact h
def yplan (S : Nat → Nat → Int32) (k : Int32) : Int32 × (Nat → Nat → Int32) := if inP k 0 3 then (if k = 2 ∧ S 184 20 = 0 then (-3, S) else poF (ynote S) 184 k) else (-2, S)
set_option maxRecDepth 100000 in
set_option maxHeartbeats 4000000 in
theorem e_X10_plan (G : GT) (S : Nat → Nat → Int32) (L : Nat → Int64) (hY : wfY S) (hR : wfR S 184) (hD : wfD S) (k : Int32) : sE G yX10_plan R_X10_plan cX10_plan 2 (some .int) [.ref (gB G + 179), .int k] S L (some (.int (yplan S k).1)) (yplan S k).2 L := by
  refine sE.of (by decide) (Nat.le_of_ble_eq_true rfl) ?_
  show sv_V G R_X10_plan RX10 "plan" cX10_plan 2 (some .int) (sPo G R_X10_plan (some (.int (yplan S k).1)) (yplan S k).2 L) 0 0 197 (CF G S L) 0 [(0, .ref (gB G + 179)), (1, .int k)] []
  refine sv_iload_n 1 dX10_plan_0 rfl ?_
  refine sv_i2l dX10_plan_1 rfl ?_
  refine sv_lconst (v := 0) dX10_plan_2 (by decide) ?_
  refine sv_ldc2 ck_RX10_107 dX10_plan_3 ?_
  refine cSi3 (e_inI G _ _ k 0 3 _ _ _ rfl (by decide) (by decide)) ⟨rfl, rfl⟩ (sv_w4 ml_RX10_73 st_X10_in in_RX10 cd_X10_in) nm_X10_in ⟨Nat.le_of_ble_eq_true rfl, Nat.le_of_ble_eq_true rfl⟩ (Nat.le_of_ble_eq_true rfl) ⟨Nat.le_of_ble_eq_true rfl, Nat.le_of_ble_eq_true rfl⟩ dX10_plan_6 ?_
  refine sv_ifne_b (tgt := 15) dX10_plan_9 (by decide) (fun c9 => ?_) (fun c9 => ?_)
  · -- jump
    refine sv_iload_n 1 dX10_plan_15 rfl ?_
    refine sv_iconst (v := 2) dX10_plan_16 (by decide) ?_
    refine sv_icmp_ne (tgt := 33) dX10_plan_17 (by decide) (fun c17 => ?_) (fun c17 => ?_)
    · -- jump
      refine sv_aload_n 0 dX10_plan_33 rfl ?_
      refine cVv0 (e_X10_note G _ _ hD) ⟨rfl, rfl⟩ (sv_w5 ml_RX10_201 im_X10_note sl_X10_note in_RX10 cd_X10_note) nm_X10_note ⟨Nat.le_of_ble_eq_true rfl, Nat.le_of_ble_eq_true rfl⟩ rfl (CF_10 sh_179) (shp_lt sh_179 (by simp)) (Nat.le_of_ble_eq_true rfl) ⟨Nat.le_of_ble_eq_true rfl, Nat.le_of_ble_eq_true rfl⟩ dX10_plan_34 ?_
      refine sv_aload_n 0 dX10_plan_37 rfl ?_
      refine sv_aload_n 0 dX10_plan_38 rfl ?_
      refine sg_10_6 sh_179 fl_RX10_22 dX10_plan_39 ?_
      refine sv_iload_n 1 dX10_plan_42 rfl ?_
      refine cVi2 (e_X10_planOn G _ _ (ynote_wfY hY) _ sh_184 (ynote_wfR hR) _) ⟨rfl, rfl⟩ (sv_w5 ml_RX10_204 im_X10_planOn sl_X10_planOn in_RX10 cd_X10_planOn) nm_X10_planOn ⟨Nat.le_of_ble_eq_true rfl, Nat.le_of_ble_eq_true rfl⟩ rfl (CF_10 sh_179) (shp_lt sh_179 (by simp)) (Nat.le_of_ble_eq_true rfl) ⟨Nat.le_of_ble_eq_true rfl, Nat.le_of_ble_eq_true rfl⟩ dX10_plan_43 ?_
      exact se_iret rfl ⟨rfl, rfl⟩ dX10_plan_46 (by rw [yplan, if_pos c9, if_neg (fun h => c17 h.1)]) (by rw [yplan, if_pos c9, if_neg (fun h => c17 h.1)])
    · -- fall
      refine sv_aload_n 0 dX10_plan_20 rfl ?_
      refine sg_10_6 sh_179 fl_RX10_22 dX10_plan_21 ?_
      refine sv_bipush (v := 20) dX10_plan_24 (by decide) ?_
      refine sx_ild sh_184 20 (by decide) (by decide) dX10_plan_26 ?_
      refine sv_if_ne (tgt := 33) dX10_plan_27 (by decide) (fun c27 => ?_) (fun c27 => ?_)
      · -- jump
        refine sv_aload_n 0 dX10_plan_33 rfl ?_
        refine cVv0 (e_X10_note G _ _ hD) ⟨rfl, rfl⟩ (sv_w5 ml_RX10_201 im_X10_note sl_X10_note in_RX10 cd_X10_note) nm_X10_note ⟨Nat.le_of_ble_eq_true rfl, Nat.le_of_ble_eq_true rfl⟩ rfl (CF_10 sh_179) (shp_lt sh_179 (by simp)) (Nat.le_of_ble_eq_true rfl) ⟨Nat.le_of_ble_eq_true rfl, Nat.le_of_ble_eq_true rfl⟩ dX10_plan_34 ?_
        refine sv_aload_n 0 dX10_plan_37 rfl ?_
        refine sv_aload_n 0 dX10_plan_38 rfl ?_
        refine sg_10_6 sh_179 fl_RX10_22 dX10_plan_39 ?_
        refine sv_iload_n 1 dX10_plan_42 rfl ?_
        refine cVi2 (e_X10_planOn G _ _ (ynote_wfY hY) _ sh_184 (ynote_wfR hR) _) ⟨rfl, rfl⟩ (sv_w5 ml_RX10_204 im_X10_planOn sl_X10_planOn in_RX10 cd_X10_planOn) nm_X10_planOn ⟨Nat.le_of_ble_eq_true rfl, Nat.le_of_ble_eq_true rfl⟩ rfl (CF_10 sh_179) (shp_lt sh_179 (by simp)) (Nat.le_of_ble_eq_true rfl) ⟨Nat.le_of_ble_eq_true rfl, Nat.le_of_ble_eq_true rfl⟩ dX10_plan_43 ?_
        exact se_iret rfl ⟨rfl, rfl⟩ dX10_plan_46 (by rw [yplan, if_pos c9, if_neg (fun h => c27 h.2)]) (by rw [yplan, if_pos c9, if_neg (fun h => c27 h.2)])
      · -- fall
        refine sv_bipush (v := (-3)) dX10_plan_30 (by decide) ?_
        exact se_iret rfl ⟨rfl, rfl⟩ dX10_plan_32 (by rw [yplan, if_pos c9, if_pos ⟨c17, c27⟩]) (by rw [yplan, if_pos c9, if_pos ⟨c17, c27⟩])
  · -- fall
    refine sv_bipush (v := (-2)) dX10_plan_12 (by decide) ?_
    exact se_iret rfl ⟨rfl, rfl⟩ dX10_plan_14 (by rw [yplan, if_neg c9]) (by rw [yplan, if_neg c9])
def ytell (S : Nat → Nat → Int32) (j : Nat) (v : Int32) : Nat → Nat → Int32 := up2 (ynote S) 184 j v
set_option maxRecDepth 100000 in
set_option maxHeartbeats 4000000 in
theorem e_X10_tellAt (G : GT) (S : Nat → Nat → Int32) (L : Nat → Int64) (hD : wfD S) (j : Nat) (hj : j < 128) (v : Int32) : sE G yX10_tellAt R_X10_tellAt cX10_tellAt 4 (some .int) [.ref (gB G + 179), .int (nI j), .int v] S L (some (.int (S 184 j))) (ytell S j v) L := by
  refine sE.of (by decide) (Nat.le_of_ble_eq_true rfl) ?_
  show sv_V G R_X10_tellAt RX10 "tellAt" cX10_tellAt 4 (some .int) (sPo G R_X10_tellAt (some (.int (S 184 j))) (ytell S j v) L) 0 0 197 (CF G S L) 0 [(0, .ref (gB G + 179)), (1, .int (nI j)), (2, .int v)] []
  refine sv_aload_n 0 dX10_tellAt_0 rfl ?_
  refine cVv0 (e_X10_note G _ _ hD) ⟨rfl, rfl⟩ (sv_w5 ml_RX10_201 im_X10_note sl_X10_note in_RX10 cd_X10_note) nm_X10_note ⟨Nat.le_of_ble_eq_true rfl, Nat.le_of_ble_eq_true rfl⟩ rfl (CF_10 sh_179) (shp_lt sh_179 (by simp)) (Nat.le_of_ble_eq_true rfl) ⟨Nat.le_of_ble_eq_true rfl, Nat.le_of_ble_eq_true rfl⟩ dX10_tellAt_1 ?_
  refine sv_aload_n 0 dX10_tellAt_4 rfl ?_
  refine sg_10_6 sh_179 fl_RX10_22 dX10_tellAt_5 ?_
  refine sv_iload_n 1 dX10_tellAt_8 rfl ?_
  refine sx_ild sh_184 j rfl (by omega) dX10_tellAt_9 ?_
  refine sv_topE (v' := S 184 j) (by rw [ynote_ne (by decide) (by decide)]) ?_
  refine sv_istore_n (ls' := [(3, _), (0, _), (1, _), (2, _)]) dX10_tellAt_10 (by decide) rfl ?_
  refine sv_aload_n 1 dX10_tellAt_11 rfl ?_
  refine sg_10_6 sh_179 fl_RX10_22 dX10_tellAt_12 ?_
  refine sv_iload_n 2 dX10_tellAt_15 rfl ?_
  refine sv_iload_n 3 dX10_tellAt_16 rfl ?_
  refine sx_ist sh_184 j rfl (by omega) dX10_tellAt_17 ?_
  refine sv_iload_n 0 dX10_tellAt_18 rfl ?_
  exact se_iret rfl ⟨rfl, rfl⟩ dX10_tellAt_19 rfl rfl
theorem e_tellI (G : GT) (S : Nat → Nat → Int32) (L : Nat → Int64) (hD : wfD S) (x : Int32) (j : Nat) (hx : x = nI j) (hj : j < 128) (v : Int32) : sE G yX10_tellAt R_X10_tellAt cX10_tellAt 4 (some .int) [.ref (gB G + 179), .int x, .int v] S L (some (.int (S 184 j))) (ytell S j v) L := by subst hx; exact e_X10_tellAt G S L hD j hj v
def yset (S : Nat → Nat → Int32) (w k v : Int32) : Int32 × (Nat → Nat → Int32) := if inP w 0 2 then (if w = 0 then (if inP k 0 3 then (S 184 (tn k), ytell S (tn k) v) else (-1, S)) else if w = 1 then (if inP k 0 7 then (S 184 (4 + tn k), ytell S (4 + tn k) v) else (-1, S)) else (if k = 0 ∧ hasY S v then (S 184 21, up2 (ytell S 21 v) 184 22 0) else (-1, S))) else (-2, S)
set_option maxRecDepth 100000 in
set_option maxHeartbeats 4000000 in
theorem e_X10_set (G : GT) (S : Nat → Nat → Int32) (L : Nat → Int64) (hN : wfN S) (hD : wfD S) (w k v : Int32) : sE G yX10_set R_X10_set cX10_set 5 (some .int) [.ref (gB G + 179), .int w, .int k, .int v] S L (some (.int (yset S w k v).1)) (yset S w k v).2 L := by
  refine sE.of (by decide) (Nat.le_of_ble_eq_true rfl) ?_
  show sv_V G R_X10_set RX10 "set" cX10_set 5 (some .int) (sPo G R_X10_set (some (.int (yset S w k v).1)) (yset S w k v).2 L) 0 0 197 (CF G S L) 0 [(0, .ref (gB G + 179)), (1, .int w), (2, .int k), (3, .int v)] []
  refine sv_iload_n 1 dX10_set_0 rfl ?_
  refine sv_i2l dX10_set_1 rfl ?_
  refine sv_lconst (v := 0) dX10_set_2 (by decide) ?_
  refine sv_ldc2 ck_RX10_208 dX10_set_3 ?_
  refine cSi3 (e_inI G _ _ w 0 2 _ _ _ rfl (by decide) (by decide)) ⟨rfl, rfl⟩ (sv_w4 ml_RX10_73 st_X10_in in_RX10 cd_X10_in) nm_X10_in ⟨Nat.le_of_ble_eq_true rfl, Nat.le_of_ble_eq_true rfl⟩ (Nat.le_of_ble_eq_true rfl) ⟨Nat.le_of_ble_eq_true rfl, Nat.le_of_ble_eq_true rfl⟩ dX10_set_6 ?_
  refine sv_ifne_b (tgt := 15) dX10_set_9 (by decide) (fun c9 => ?_) (fun c9 => ?_)
  · -- jump
    refine sv_iload_n 1 dX10_set_15 rfl ?_
    refine sv_if_ne (tgt := 42) dX10_set_16 (by decide) (fun c16 => ?_) (fun c16 => ?_)
    · -- jump
      refine sv_iload_n 1 dX10_set_42 rfl ?_
      refine sv_iconst (v := 1) dX10_set_43 (by decide) ?_
      refine sv_icmp_ne (tgt := 72) dX10_set_44 (by decide) (fun c44 => ?_) (fun c44 => ?_)
      · -- jump
        refine sv_iload_n 2 dX10_set_72 rfl ?_
        refine sv_if_ne (tgt := 84) dX10_set_73 (by decide) (fun c73 => ?_) (fun c73 => ?_)
        · -- jump
          refine sv_iconst (v := (-1)) dX10_set_84 (by decide) ?_
          exact se_iret rfl ⟨rfl, rfl⟩ dX10_set_85 (by rw [yset, if_pos c9, if_neg c16, if_neg c44, if_neg (fun h => c73 h.1)]) (by rw [yset, if_pos c9, if_neg c16, if_neg c44, if_neg (fun h => c73 h.1)])
        · -- fall
          refine sv_aload_n 0 dX10_set_76 rfl ?_
          refine sv_iload_n 3 dX10_set_77 rfl ?_
          refine cVi1 (e_X10_isPlace G _ _ hN _) ⟨rfl, rfl⟩ (sv_w5 ml_RX10_135 im_X10_isPlace sl_X10_isPlace in_RX10 cd_X10_isPlace) nm_X10_isPlace ⟨Nat.le_of_ble_eq_true rfl, Nat.le_of_ble_eq_true rfl⟩ rfl (CF_10 sh_179) (shp_lt sh_179 (by simp)) (Nat.le_of_ble_eq_true rfl) ⟨Nat.le_of_ble_eq_true rfl, Nat.le_of_ble_eq_true rfl⟩ dX10_set_78 ?_
          refine sv_ifne_b (tgt := 86) dX10_set_81 (by decide) (fun c81 => ?_) (fun c81 => ?_)
          · -- jump
            refine sv_aload_n 0 dX10_set_86 rfl ?_
            refine sv_bipush (v := 21) dX10_set_87 (by decide) ?_
            refine sv_iload_n 3 dX10_set_89 rfl ?_
            refine cVi2 (e_tellI G _ _ hD _ 21 (by decide) (by decide) _) ⟨rfl, rfl⟩ (sv_w5 ml_RX10_210 im_X10_tellAt sl_X10_tellAt in_RX10 cd_X10_tellAt) nm_X10_tellAt ⟨Nat.le_of_ble_eq_true rfl, Nat.le_of_ble_eq_true rfl⟩ rfl (CF_10 sh_179) (shp_lt sh_179 (by simp)) (Nat.le_of_ble_eq_true rfl) ⟨Nat.le_of_ble_eq_true rfl, Nat.le_of_ble_eq_true rfl⟩ dX10_set_90 ?_
            refine sv_istore (ls' := [(4, _), (0, _), (1, _), (2, _), (3, _)]) dX10_set_93 (by decide) rfl ?_
            refine sv_aload_n 1 dX10_set_95 rfl ?_
            refine sg_10_6 sh_179 fl_RX10_22 dX10_set_96 ?_
            refine sv_bipush (v := 22) dX10_set_99 (by decide) ?_
            refine sv_iconst (v := 0) dX10_set_101 (by decide) ?_
            refine sx_ist sh_184 22 (by decide) (by decide) dX10_set_102 ?_
            refine sv_iload 0 dX10_set_103 rfl ?_
            exact se_iret rfl ⟨rfl, rfl⟩ dX10_set_105 (by rw [yset, if_pos c9, if_neg c16, if_neg c44, if_pos ⟨c73, c81⟩]) (by rw [yset, if_pos c9, if_neg c16, if_neg c44, if_pos ⟨c73, c81⟩])
          · -- fall
            refine sv_iconst (v := (-1)) dX10_set_84 (by decide) ?_
            exact se_iret rfl ⟨rfl, rfl⟩ dX10_set_85 (by rw [yset, if_pos c9, if_neg c16, if_neg c44, if_neg (fun h => c81 h.2)]) (by rw [yset, if_pos c9, if_neg c16, if_neg c44, if_neg (fun h => c81 h.2)])
      · -- fall
        refine sv_iload_n 2 dX10_set_47 rfl ?_
        refine sv_i2l dX10_set_48 rfl ?_
        refine sv_lconst (v := 0) dX10_set_49 (by decide) ?_
        refine sv_ldc2 ck_RX10_120 dX10_set_50 ?_
        refine cSi3 (e_inI G _ _ k 0 7 _ _ _ rfl (by decide) (by decide)) ⟨rfl, rfl⟩ (sv_w4 ml_RX10_73 st_X10_in in_RX10 cd_X10_in) nm_X10_in ⟨Nat.le_of_ble_eq_true rfl, Nat.le_of_ble_eq_true rfl⟩ (Nat.le_of_ble_eq_true rfl) ⟨Nat.le_of_ble_eq_true rfl, Nat.le_of_ble_eq_true rfl⟩ dX10_set_53 ?_
        refine sv_ifeq_b (tgt := 70) dX10_set_56 (by decide) (fun c56 => ?_) (fun c56 => ?_)
        · -- jump
          refine sv_iconst (v := (-1)) dX10_set_70 (by decide) ?_
          exact se_iret rfl ⟨rfl, rfl⟩ dX10_set_71 (by rw [yset, if_pos c9, if_neg c16, if_pos c44, if_neg c56]) (by rw [yset, if_pos c9, if_neg c16, if_pos c44, if_neg c56])
        · -- fall
          refine sv_aload_n 0 dX10_set_59 rfl ?_
          refine sv_iconst (v := 4) dX10_set_60 (by decide) ?_
          refine sv_iload_n 2 dX10_set_61 rfl ?_
          refine sv_iadd dX10_set_62 ?_
          refine sv_iload_n 3 dX10_set_63 rfl ?_
          refine cVi2 (e_tellI G _ _ hD _ (4 + tn k) (ad_tn 4 c56.1) (by have := tn_le (M := 7) (k := 7) rfl (by decide) c56.1 c56.2; omega) _) ⟨rfl, rfl⟩ (sv_w5 ml_RX10_210 im_X10_tellAt sl_X10_tellAt in_RX10 cd_X10_tellAt) nm_X10_tellAt ⟨Nat.le_of_ble_eq_true rfl, Nat.le_of_ble_eq_true rfl⟩ rfl (CF_10 sh_179) (shp_lt sh_179 (by simp)) (Nat.le_of_ble_eq_true rfl) ⟨Nat.le_of_ble_eq_true rfl, Nat.le_of_ble_eq_true rfl⟩ dX10_set_64 ?_
          refine sv_goto (tgt := 71) dX10_set_67 (by decide) ?_
          exact se_iret rfl ⟨rfl, rfl⟩ dX10_set_71 (by rw [yset, if_pos c9, if_neg c16, if_pos c44, if_pos c56]) (by rw [yset, if_pos c9, if_neg c16, if_pos c44, if_pos c56])
    · -- fall
      refine sv_iload_n 2 dX10_set_19 rfl ?_
      refine sv_i2l dX10_set_20 rfl ?_
      refine sv_lconst (v := 0) dX10_set_21 (by decide) ?_
      refine sv_ldc2 ck_RX10_107 dX10_set_22 ?_
      refine cSi3 (e_inI G _ _ k 0 3 _ _ _ rfl (by decide) (by decide)) ⟨rfl, rfl⟩ (sv_w4 ml_RX10_73 st_X10_in in_RX10 cd_X10_in) nm_X10_in ⟨Nat.le_of_ble_eq_true rfl, Nat.le_of_ble_eq_true rfl⟩ (Nat.le_of_ble_eq_true rfl) ⟨Nat.le_of_ble_eq_true rfl, Nat.le_of_ble_eq_true rfl⟩ dX10_set_25 ?_
      refine sv_ifeq_b (tgt := 40) dX10_set_28 (by decide) (fun c28 => ?_) (fun c28 => ?_)
      · -- jump
        refine sv_iconst (v := (-1)) dX10_set_40 (by decide) ?_
        exact se_iret rfl ⟨rfl, rfl⟩ dX10_set_41 (by rw [yset, if_pos c9, if_pos c16, if_neg c28]) (by rw [yset, if_pos c9, if_pos c16, if_neg c28])
      · -- fall
        refine sv_aload_n 0 dX10_set_31 rfl ?_
        refine sv_iload_n 2 dX10_set_32 rfl ?_
        refine sv_iload_n 3 dX10_set_33 rfl ?_
        refine cVi2 (e_tellI G _ _ hD _ (tn k) (nI_self c28.1) (by have := tn_le (M := 3) (k := 3) rfl (by decide) c28.1 c28.2; omega) _) ⟨rfl, rfl⟩ (sv_w5 ml_RX10_210 im_X10_tellAt sl_X10_tellAt in_RX10 cd_X10_tellAt) nm_X10_tellAt ⟨Nat.le_of_ble_eq_true rfl, Nat.le_of_ble_eq_true rfl⟩ rfl (CF_10 sh_179) (shp_lt sh_179 (by simp)) (Nat.le_of_ble_eq_true rfl) ⟨Nat.le_of_ble_eq_true rfl, Nat.le_of_ble_eq_true rfl⟩ dX10_set_34 ?_
        refine sv_goto (tgt := 41) dX10_set_37 (by decide) ?_
        exact se_iret rfl ⟨rfl, rfl⟩ dX10_set_41 (by rw [yset, if_pos c9, if_pos c16, if_pos c28]) (by rw [yset, if_pos c9, if_pos c16, if_pos c28])
  · -- fall
    refine sv_bipush (v := (-2)) dX10_set_12 (by decide) ?_
    exact se_iret rfl ⟨rfl, rfl⟩ dX10_set_14 (by rw [yset, if_neg c9]) (by rw [yset, if_neg c9])
def boS (S : Nat → Nat → Int32) (q p : Nat) (r h f b : Int32) : Nat → Nat → Int32 := up2 (up2 (up2 (up2 (up2 (up2 S q (106 + p) (if 0 < S q (26 + p) then S q (106 + p) else 0)) q (26 + p) (S q (26 + p) + 1)) q (42 + p) r) q (58 + p) h) q (74 + p) f) q (90 + p) b
theorem boS_26 (S : Nat → Nat → Int32) (q p : Nat) (r h f b : Int32) (hp : p < 16) : boS S q p r h f b q (26 + p) = S q (26 + p) + 1 := by
  unfold boS
  rw [up2_ne (Or.inr (by omega)), up2_ne (Or.inr (by omega)), up2_ne (Or.inr (by omega)), up2_ne (Or.inr (by omega)), up2_same]
set_option maxRecDepth 100000 in
set_option maxHeartbeats 4000000 in
theorem e_X10_breakOn (G : GT) (S : Nat → Nat → Int32) (L : Nat → Int64) (q : Nat) (hq : shp q = (11, 128)) (a : Int32) (ha : ¬ a < 0) (hb : tn a < 16) (r h f b : Int32) : sE G yX10_breakOn R_X10_breakOn cX10_breakOn 6 none [.ref (gB G + q), .int a, .int r, .int h, .int f, .int b] S L none (boS S q (tn a) r h f b) L := by
  refine sE.of (by decide) (Nat.le_of_ble_eq_true rfl) ?_
  show sv_V G R_X10_breakOn RX10 "breakOn" cX10_breakOn 6 none (sPo G R_X10_breakOn none (boS S q (tn a) r h f b) L) 0 0 197 (CF G S L) 0 [(0, .ref (gB G + q)), (1, .int a), (2, .int r), (3, .int h), (4, .int f), (5, .int b)] []
  refine sv_aload_n 0 dX10_breakOn_0 rfl ?_
  refine sv_bipush (v := 106) dX10_breakOn_1 (by decide) ?_
  refine sv_iload_n 1 dX10_breakOn_3 rfl ?_
  refine sv_iadd dX10_breakOn_4 ?_
  refine sv_aload_n 0 dX10_breakOn_5 rfl ?_
  refine sv_bipush (v := 26) dX10_breakOn_6 (by decide) ?_
  refine sv_iload_n 1 dX10_breakOn_8 rfl ?_
  refine sv_iadd dX10_breakOn_9 ?_
  refine sx_ild hq (26 + tn a) (ad_tn 26 ha) (by omega) dX10_breakOn_10 ?_
  refine sv_if_le (tgt := 23) dX10_breakOn_11 (by decide) (fun c11 => ?_) (fun c11 => ?_)
  · -- jump
    refine sv_iconst (v := 0) dX10_breakOn_23 (by decide) ?_
    refine sx_ist hq (106 + tn a) (ad_tn 106 ha) (by omega) dX10_breakOn_24 ?_
    refine sv_aload_n 0 dX10_breakOn_25 rfl ?_
    refine sv_bipush (v := 26) dX10_breakOn_26 (by decide) ?_
    refine sv_iload_n 1 dX10_breakOn_28 rfl ?_
    refine sv_iadd dX10_breakOn_29 ?_
    refine sv_dup2_11 dX10_breakOn_30 rfl rfl ?_
    refine sx_ild hq (26 + tn a) (ad_tn 26 ha) (by omega) dX10_breakOn_31 ?_
    refine sv_topE (v' := S q (26 + tn a)) (up2_ne (Or.inr (by omega))) ?_
    refine sv_iconst (v := 1) dX10_breakOn_32 (by decide) ?_
    refine sv_iadd dX10_breakOn_33 ?_
    refine sx_ist hq (26 + tn a) (ad_tn 26 ha) (by omega) dX10_breakOn_34 ?_
    refine sv_aload_n 0 dX10_breakOn_35 rfl ?_
    refine sv_bipush (v := 42) dX10_breakOn_36 (by decide) ?_
    refine sv_iload_n 1 dX10_breakOn_38 rfl ?_
    refine sv_iadd dX10_breakOn_39 ?_
    refine sv_iload_n 2 dX10_breakOn_40 rfl ?_
    refine sx_ist hq (42 + tn a) (ad_tn 42 ha) (by omega) dX10_breakOn_41 ?_
    refine sv_aload_n 0 dX10_breakOn_42 rfl ?_
    refine sv_bipush (v := 58) dX10_breakOn_43 (by decide) ?_
    refine sv_iload_n 1 dX10_breakOn_45 rfl ?_
    refine sv_iadd dX10_breakOn_46 ?_
    refine sv_iload_n 3 dX10_breakOn_47 rfl ?_
    refine sx_ist hq (58 + tn a) (ad_tn 58 ha) (by omega) dX10_breakOn_48 ?_
    refine sv_aload_n 0 dX10_breakOn_49 rfl ?_
    refine sv_bipush (v := 74) dX10_breakOn_50 (by decide) ?_
    refine sv_iload_n 1 dX10_breakOn_52 rfl ?_
    refine sv_iadd dX10_breakOn_53 ?_
    refine sv_iload 4 dX10_breakOn_54 rfl ?_
    refine sx_ist hq (74 + tn a) (ad_tn 74 ha) (by omega) dX10_breakOn_56 ?_
    refine sv_aload_n 0 dX10_breakOn_57 rfl ?_
    refine sv_bipush (v := 90) dX10_breakOn_58 (by decide) ?_
    refine sv_iload_n 1 dX10_breakOn_60 rfl ?_
    refine sv_iadd dX10_breakOn_61 ?_
    refine sv_iload 5 dX10_breakOn_62 rfl ?_
    refine sx_ist hq (90 + tn a) (ad_tn 90 ha) (by omega) dX10_breakOn_64 ?_
    exact se_vret rfl ⟨rfl, rfl⟩ dX10_breakOn_65 (by rw [boS, if_neg (Int32.not_lt.mpr c11)]; exact sEq.rf _)
  · -- fall
    refine sv_aload_n 0 dX10_breakOn_14 rfl ?_
    refine sv_bipush (v := 106) dX10_breakOn_15 (by decide) ?_
    refine sv_iload_n 1 dX10_breakOn_17 rfl ?_
    refine sv_iadd dX10_breakOn_18 ?_
    refine sx_ild hq (106 + tn a) (ad_tn 106 ha) (by omega) dX10_breakOn_19 ?_
    refine sv_goto (tgt := 24) dX10_breakOn_20 (by decide) ?_
    refine sx_ist hq (106 + tn a) (ad_tn 106 ha) (by omega) dX10_breakOn_24 ?_
    refine sv_aload_n 0 dX10_breakOn_25 rfl ?_
    refine sv_bipush (v := 26) dX10_breakOn_26 (by decide) ?_
    refine sv_iload_n 1 dX10_breakOn_28 rfl ?_
    refine sv_iadd dX10_breakOn_29 ?_
    refine sv_dup2_11 dX10_breakOn_30 rfl rfl ?_
    refine sx_ild hq (26 + tn a) (ad_tn 26 ha) (by omega) dX10_breakOn_31 ?_
    refine sv_topE (v' := S q (26 + tn a)) (up2_ne (Or.inr (by omega))) ?_
    refine sv_iconst (v := 1) dX10_breakOn_32 (by decide) ?_
    refine sv_iadd dX10_breakOn_33 ?_
    refine sx_ist hq (26 + tn a) (ad_tn 26 ha) (by omega) dX10_breakOn_34 ?_
    refine sv_aload_n 0 dX10_breakOn_35 rfl ?_
    refine sv_bipush (v := 42) dX10_breakOn_36 (by decide) ?_
    refine sv_iload_n 1 dX10_breakOn_38 rfl ?_
    refine sv_iadd dX10_breakOn_39 ?_
    refine sv_iload_n 2 dX10_breakOn_40 rfl ?_
    refine sx_ist hq (42 + tn a) (ad_tn 42 ha) (by omega) dX10_breakOn_41 ?_
    refine sv_aload_n 0 dX10_breakOn_42 rfl ?_
    refine sv_bipush (v := 58) dX10_breakOn_43 (by decide) ?_
    refine sv_iload_n 1 dX10_breakOn_45 rfl ?_
    refine sv_iadd dX10_breakOn_46 ?_
    refine sv_iload_n 3 dX10_breakOn_47 rfl ?_
    refine sx_ist hq (58 + tn a) (ad_tn 58 ha) (by omega) dX10_breakOn_48 ?_
    refine sv_aload_n 0 dX10_breakOn_49 rfl ?_
    refine sv_bipush (v := 74) dX10_breakOn_50 (by decide) ?_
    refine sv_iload_n 1 dX10_breakOn_52 rfl ?_
    refine sv_iadd dX10_breakOn_53 ?_
    refine sv_iload 4 dX10_breakOn_54 rfl ?_
    refine sx_ist hq (74 + tn a) (ad_tn 74 ha) (by omega) dX10_breakOn_56 ?_
    refine sv_aload_n 0 dX10_breakOn_57 rfl ?_
    refine sv_bipush (v := 90) dX10_breakOn_58 (by decide) ?_
    refine sv_iload_n 1 dX10_breakOn_60 rfl ?_
    refine sv_iadd dX10_breakOn_61 ?_
    refine sv_iload 5 dX10_breakOn_62 rfl ?_
    refine sx_ist hq (90 + tn a) (ad_tn 90 ha) (by omega) dX10_breakOn_64 ?_
    exact se_vret rfl ⟨rfl, rfl⟩ dX10_breakOn_65 (by rw [boS, if_pos (Int32.not_le.mp c11)]; exact sEq.rf _)
abbrev fitY (r how f b : Int32) : Prop := (r = -9 ∨ (inP r 0 3 ∧ inP how 0 2 ∧ inP f 0 9)) ∧ inP b 0 9
def ysmash (S : Nat → Nat → Int32) (a r how f b : Int32) : Int32 × (Nat → Nat → Int32) := if hasY S a then (if fitY r how f b then (if S 184 (26 + tn a) = 3 then (-4, S) else (S 184 (26 + tn a) + 1, boS (ynote S) 184 (tn a) r how f b)) else (-2, S)) else (-1, S)
def ylift (S : Nat → Nat → Int32) (a : Int32) : Int32 × (Nat → Nat → Int32) := if hasY S a then (if S 184 (26 + tn a) = 0 then (-3, S) else (S 184 (26 + tn a) - 1, up2 (ynote S) 184 (26 + tn a) (S 184 (26 + tn a) - 1))) else (-1, S)
def ywatch (S : Nat → Nat → Int32) (m : Int32) : Int32 × (Nat → Nat → Int32) := if inP m 0 7 then (((S 184 25 ^^^ ((1 : Int32) <<< (m &&& 31))) >>> (m &&& 31)) &&& 1, up2 (ynote S) 184 25 (S 184 25 ^^^ ((1 : Int32) <<< (m &&& 31)))) else (-1, S)
set_option maxRecDepth 100000 in
set_option maxHeartbeats 4000000 in
theorem e_X10_smash (G : GT) (S : Nat → Nat → Int32) (L : Nat → Int64) (hN : wfN S) (hD : wfD S) (a r how f b : Int32) : sE G yX10_smash R_X10_smash cX10_smash 7 (some .int) [.ref (gB G + 179), .int a, .int r, .int how, .int f, .int b] S L (some (.int (ysmash S a r how f b).1)) (ysmash S a r how f b).2 L := by
  refine sE.of (by decide) (Nat.le_of_ble_eq_true rfl) ?_
  show sv_V G R_X10_smash RX10 "smash" cX10_smash 7 (some .int) (sPo G R_X10_smash (some (.int (ysmash S a r how f b).1)) (ysmash S a r how f b).2 L) 0 0 197 (CF G S L) 0 [(0, .ref (gB G + 179)), (1, .int a), (2, .int r), (3, .int how), (4, .int f), (5, .int b)] []
  refine sv_aload_n 0 dX10_smash_0 rfl ?_
  refine sv_iload_n 1 dX10_smash_1 rfl ?_
  refine cVi1 (e_X10_isPlace G _ _ hN _) ⟨rfl, rfl⟩ (sv_w5 ml_RX10_135 im_X10_isPlace sl_X10_isPlace in_RX10 cd_X10_isPlace) nm_X10_isPlace ⟨Nat.le_of_ble_eq_true rfl, Nat.le_of_ble_eq_true rfl⟩ rfl (CF_10 sh_179) (shp_lt sh_179 (by simp)) (Nat.le_of_ble_eq_true rfl) ⟨Nat.le_of_ble_eq_true rfl, Nat.le_of_ble_eq_true rfl⟩ dX10_smash_2 ?_
  refine sv_ifne_b (tgt := 10) dX10_smash_5 (by decide) (fun c5 => ?_) (fun c5 => ?_)
  · -- jump
    refine sv_iload_n 2 dX10_smash_10 rfl ?_
    refine sv_i2l dX10_smash_11 rfl ?_
    refine sv_lconst (v := 0) dX10_smash_12 (by decide) ?_
    refine sv_ldc2 ck_RX10_107 dX10_smash_13 ?_
    refine cSi3 (e_inI G _ _ r 0 3 _ _ _ rfl (by decide) (by decide)) ⟨rfl, rfl⟩ (sv_w4 ml_RX10_73 st_X10_in in_RX10 cd_X10_in) nm_X10_in ⟨Nat.le_of_ble_eq_true rfl, Nat.le_of_ble_eq_true rfl⟩ (Nat.le_of_ble_eq_true rfl) ⟨Nat.le_of_ble_eq_true rfl, Nat.le_of_ble_eq_true rfl⟩ dX10_smash_16 ?_
    refine sv_ifeq_b (tgt := 51) dX10_smash_19 (by decide) (fun c19 => ?_) (fun c19 => ?_)
    · -- jump
      refine sv_iconst (v := 0) dX10_smash_51 (by decide) ?_
      refine sv_istore (ls' := [(6, _), (0, _), (1, _), (2, _), (3, _), (4, _), (5, _)]) dX10_smash_52 (by decide) rfl ?_
      refine sv_iload_n 3 dX10_smash_54 rfl ?_
      refine sv_bipush (v := (-9)) dX10_smash_55 (by decide) ?_
      refine sv_icmp_eq (tgt := 65) dX10_smash_57 (by decide) (fun c57 => ?_) (fun c57 => ?_)
      · -- jump
        refine sv_iload 6 dX10_smash_65 rfl ?_
        refine sv_i2l dX10_smash_67 rfl ?_
        refine sv_lconst (v := 0) dX10_smash_68 (by decide) ?_
        refine sv_ldc2 ck_RX10_103 dX10_smash_69 ?_
        refine cSi3 (e_inI G _ _ b 0 9 _ _ _ rfl (by decide) (by decide)) ⟨rfl, rfl⟩ (sv_w4 ml_RX10_73 st_X10_in in_RX10 cd_X10_in) nm_X10_in ⟨Nat.le_of_ble_eq_true rfl, Nat.le_of_ble_eq_true rfl⟩ (Nat.le_of_ble_eq_true rfl) ⟨Nat.le_of_ble_eq_true rfl, Nat.le_of_ble_eq_true rfl⟩ dX10_smash_72 ?_
        refine sv_ifne_b (tgt := 81) dX10_smash_75 (by decide) (fun c75 => ?_) (fun c75 => ?_)
        · -- jump
          refine sv_aload_n 1 dX10_smash_81 rfl ?_
          refine sg_10_6 sh_179 fl_RX10_22 dX10_smash_82 ?_
          refine sv_bipush (v := 26) dX10_smash_85 (by decide) ?_
          refine sv_iload_n 2 dX10_smash_87 rfl ?_
          refine sv_iadd dX10_smash_88 ?_
          refine sx_ild sh_184 (26 + tn a) (ad_tn 26 c5.1) (by have := (hY16 hN c5).2; omega) dX10_smash_89 ?_
          refine sv_iconst (v := 3) dX10_smash_90 (by decide) ?_
          refine sv_icmp_ne (tgt := 97) dX10_smash_91 (by decide) (fun c91 => ?_) (fun c91 => ?_)
          · -- jump
            refine sv_aload_n 1 dX10_smash_97 rfl ?_
            refine cVv0 (e_X10_note G _ _ hD) ⟨rfl, rfl⟩ (sv_w5 ml_RX10_201 im_X10_note sl_X10_note in_RX10 cd_X10_note) nm_X10_note ⟨Nat.le_of_ble_eq_true rfl, Nat.le_of_ble_eq_true rfl⟩ rfl (CF_10 sh_179) (shp_lt sh_179 (by simp)) (Nat.le_of_ble_eq_true rfl) ⟨Nat.le_of_ble_eq_true rfl, Nat.le_of_ble_eq_true rfl⟩ dX10_smash_98 ?_
            refine sv_aload_n 1 dX10_smash_101 rfl ?_
            refine sg_10_6 sh_179 fl_RX10_22 dX10_smash_102 ?_
            refine sv_iload_n 2 dX10_smash_105 rfl ?_
            refine sv_iload_n 3 dX10_smash_106 rfl ?_
            refine sv_iload_n 4 dX10_smash_107 rfl ?_
            refine sv_iload 5 dX10_smash_108 rfl ?_
            refine sv_iload 6 dX10_smash_110 rfl ?_
            refine cSv6 (e_X10_breakOn G _ _ _ sh_184 _ c5.1 (hY16 hN c5).2 _ _ _ _) ⟨rfl, rfl⟩ (sv_w4 ml_RX10_214 st_X10_breakOn in_RX10 cd_X10_breakOn) nm_X10_breakOn ⟨Nat.le_of_ble_eq_true rfl, Nat.le_of_ble_eq_true rfl⟩ (Nat.le_of_ble_eq_true rfl) ⟨Nat.le_of_ble_eq_true rfl, Nat.le_of_ble_eq_true rfl⟩ dX10_smash_112 ?_
            refine sv_aload_n 1 dX10_smash_115 rfl ?_
            refine sg_10_6 sh_179 fl_RX10_22 dX10_smash_116 ?_
            refine sv_bipush (v := 26) dX10_smash_119 (by decide) ?_
            refine sv_iload_n 2 dX10_smash_121 rfl ?_
            refine sv_iadd dX10_smash_122 ?_
            refine sx_ild sh_184 (26 + tn a) (ad_tn 26 c5.1) (by have := (hY16 hN c5).2; omega) dX10_smash_123 ?_
            refine sv_topE (v' := S 184 (26 + tn a) + 1) (by rw [boS_26 _ _ _ _ _ _ _ (hY16 hN c5).2, ynote_ne (by decide) (by decide)]) ?_
            exact se_iret rfl ⟨rfl, rfl⟩ dX10_smash_124 (by rw [ysmash, if_pos c5, if_pos (show fitY r how f b from ⟨Or.inl c57, c75⟩), if_neg c91]) (by rw [ysmash, if_pos c5, if_pos (show fitY r how f b from ⟨Or.inl c57, c75⟩), if_neg c91])
          · -- fall
            refine sv_bipush (v := (-4)) dX10_smash_94 (by decide) ?_
            exact se_iret rfl ⟨rfl, rfl⟩ dX10_smash_96 (by rw [ysmash, if_pos c5, if_pos (show fitY r how f b from ⟨Or.inl c57, c75⟩), if_pos c91]) (by rw [ysmash, if_pos c5, if_pos (show fitY r how f b from ⟨Or.inl c57, c75⟩), if_pos c91])
        · -- fall
          refine sv_bipush (v := (-2)) dX10_smash_78 (by decide) ?_
          exact se_iret rfl ⟨rfl, rfl⟩ dX10_smash_80 (by rw [ysmash, if_pos c5, if_neg (show ¬ fitY r how f b from fun h => c75 h.2)]) (by rw [ysmash, if_pos c5, if_neg (show ¬ fitY r how f b from fun h => c75 h.2)])
      · -- fall
        refine sv_iload 0 dX10_smash_60 rfl ?_
        refine sv_if_eq (tgt := 78) dX10_smash_62 (by decide) (fun _ => ?_) (fun z => absurd z (by decide))
        refine sv_bipush (v := (-2)) dX10_smash_78 (by decide) ?_
        exact se_iret rfl ⟨rfl, rfl⟩ dX10_smash_80 (by rw [ysmash, if_pos c5, if_neg (show ¬ fitY r how f b from fun h => h.1.elim c57 (fun z => c19 z.1))]) (by rw [ysmash, if_pos c5, if_neg (show ¬ fitY r how f b from fun h => h.1.elim c57 (fun z => c19 z.1))])
    · -- fall
      refine sv_iload_n 3 dX10_smash_22 rfl ?_
      refine sv_i2l dX10_smash_23 rfl ?_
      refine sv_lconst (v := 0) dX10_smash_24 (by decide) ?_
      refine sv_ldc2 ck_RX10_208 dX10_smash_25 ?_
      refine cSi3 (e_inI G _ _ how 0 2 _ _ _ rfl (by decide) (by decide)) ⟨rfl, rfl⟩ (sv_w4 ml_RX10_73 st_X10_in in_RX10 cd_X10_in) nm_X10_in ⟨Nat.le_of_ble_eq_true rfl, Nat.le_of_ble_eq_true rfl⟩ (Nat.le_of_ble_eq_true rfl) ⟨Nat.le_of_ble_eq_true rfl, Nat.le_of_ble_eq_true rfl⟩ dX10_smash_28 ?_
      refine sv_ifeq_b (tgt := 51) dX10_smash_31 (by decide) (fun c31 => ?_) (fun c31 => ?_)
      · -- jump
        refine sv_iconst (v := 0) dX10_smash_51 (by decide) ?_
        refine sv_istore (ls' := [(6, _), (0, _), (1, _), (2, _), (3, _), (4, _), (5, _)]) dX10_smash_52 (by decide) rfl ?_
        refine sv_iload_n 3 dX10_smash_54 rfl ?_
        refine sv_bipush (v := (-9)) dX10_smash_55 (by decide) ?_
        refine sv_icmp_eq (tgt := 65) dX10_smash_57 (by decide) (fun c57 => ?_) (fun c57 => ?_)
        · -- jump
          refine sv_iload 6 dX10_smash_65 rfl ?_
          refine sv_i2l dX10_smash_67 rfl ?_
          refine sv_lconst (v := 0) dX10_smash_68 (by decide) ?_
          refine sv_ldc2 ck_RX10_103 dX10_smash_69 ?_
          refine cSi3 (e_inI G _ _ b 0 9 _ _ _ rfl (by decide) (by decide)) ⟨rfl, rfl⟩ (sv_w4 ml_RX10_73 st_X10_in in_RX10 cd_X10_in) nm_X10_in ⟨Nat.le_of_ble_eq_true rfl, Nat.le_of_ble_eq_true rfl⟩ (Nat.le_of_ble_eq_true rfl) ⟨Nat.le_of_ble_eq_true rfl, Nat.le_of_ble_eq_true rfl⟩ dX10_smash_72 ?_
          refine sv_ifne_b (tgt := 81) dX10_smash_75 (by decide) (fun c75 => ?_) (fun c75 => ?_)
          · -- jump
            refine sv_aload_n 1 dX10_smash_81 rfl ?_
            refine sg_10_6 sh_179 fl_RX10_22 dX10_smash_82 ?_
            refine sv_bipush (v := 26) dX10_smash_85 (by decide) ?_
            refine sv_iload_n 2 dX10_smash_87 rfl ?_
            refine sv_iadd dX10_smash_88 ?_
            refine sx_ild sh_184 (26 + tn a) (ad_tn 26 c5.1) (by have := (hY16 hN c5).2; omega) dX10_smash_89 ?_
            refine sv_iconst (v := 3) dX10_smash_90 (by decide) ?_
            refine sv_icmp_ne (tgt := 97) dX10_smash_91 (by decide) (fun c91 => ?_) (fun c91 => ?_)
            · -- jump
              refine sv_aload_n 1 dX10_smash_97 rfl ?_
              refine cVv0 (e_X10_note G _ _ hD) ⟨rfl, rfl⟩ (sv_w5 ml_RX10_201 im_X10_note sl_X10_note in_RX10 cd_X10_note) nm_X10_note ⟨Nat.le_of_ble_eq_true rfl, Nat.le_of_ble_eq_true rfl⟩ rfl (CF_10 sh_179) (shp_lt sh_179 (by simp)) (Nat.le_of_ble_eq_true rfl) ⟨Nat.le_of_ble_eq_true rfl, Nat.le_of_ble_eq_true rfl⟩ dX10_smash_98 ?_
              refine sv_aload_n 1 dX10_smash_101 rfl ?_
              refine sg_10_6 sh_179 fl_RX10_22 dX10_smash_102 ?_
              refine sv_iload_n 2 dX10_smash_105 rfl ?_
              refine sv_iload_n 3 dX10_smash_106 rfl ?_
              refine sv_iload_n 4 dX10_smash_107 rfl ?_
              refine sv_iload 5 dX10_smash_108 rfl ?_
              refine sv_iload 6 dX10_smash_110 rfl ?_
              refine cSv6 (e_X10_breakOn G _ _ _ sh_184 _ c5.1 (hY16 hN c5).2 _ _ _ _) ⟨rfl, rfl⟩ (sv_w4 ml_RX10_214 st_X10_breakOn in_RX10 cd_X10_breakOn) nm_X10_breakOn ⟨Nat.le_of_ble_eq_true rfl, Nat.le_of_ble_eq_true rfl⟩ (Nat.le_of_ble_eq_true rfl) ⟨Nat.le_of_ble_eq_true rfl, Nat.le_of_ble_eq_true rfl⟩ dX10_smash_112 ?_
              refine sv_aload_n 1 dX10_smash_115 rfl ?_
              refine sg_10_6 sh_179 fl_RX10_22 dX10_smash_116 ?_
              refine sv_bipush (v := 26) dX10_smash_119 (by decide) ?_
              refine sv_iload_n 2 dX10_smash_121 rfl ?_
              refine sv_iadd dX10_smash_122 ?_
              refine sx_ild sh_184 (26 + tn a) (ad_tn 26 c5.1) (by have := (hY16 hN c5).2; omega) dX10_smash_123 ?_
              refine sv_topE (v' := S 184 (26 + tn a) + 1) (by rw [boS_26 _ _ _ _ _ _ _ (hY16 hN c5).2, ynote_ne (by decide) (by decide)]) ?_
              exact se_iret rfl ⟨rfl, rfl⟩ dX10_smash_124 (by rw [ysmash, if_pos c5, if_pos (show fitY r how f b from ⟨Or.inl c57, c75⟩), if_neg c91]) (by rw [ysmash, if_pos c5, if_pos (show fitY r how f b from ⟨Or.inl c57, c75⟩), if_neg c91])
            · -- fall
              refine sv_bipush (v := (-4)) dX10_smash_94 (by decide) ?_
              exact se_iret rfl ⟨rfl, rfl⟩ dX10_smash_96 (by rw [ysmash, if_pos c5, if_pos (show fitY r how f b from ⟨Or.inl c57, c75⟩), if_pos c91]) (by rw [ysmash, if_pos c5, if_pos (show fitY r how f b from ⟨Or.inl c57, c75⟩), if_pos c91])
          · -- fall
            refine sv_bipush (v := (-2)) dX10_smash_78 (by decide) ?_
            exact se_iret rfl ⟨rfl, rfl⟩ dX10_smash_80 (by rw [ysmash, if_pos c5, if_neg (show ¬ fitY r how f b from fun h => c75 h.2)]) (by rw [ysmash, if_pos c5, if_neg (show ¬ fitY r how f b from fun h => c75 h.2)])
        · -- fall
          refine sv_iload 0 dX10_smash_60 rfl ?_
          refine sv_if_eq (tgt := 78) dX10_smash_62 (by decide) (fun _ => ?_) (fun z => absurd z (by decide))
          refine sv_bipush (v := (-2)) dX10_smash_78 (by decide) ?_
          exact se_iret rfl ⟨rfl, rfl⟩ dX10_smash_80 (by rw [ysmash, if_pos c5, if_neg (show ¬ fitY r how f b from fun h => h.1.elim c57 (fun z => c31 z.2.1))]) (by rw [ysmash, if_pos c5, if_neg (show ¬ fitY r how f b from fun h => h.1.elim c57 (fun z => c31 z.2.1))])
      · -- fall
        refine sv_iload 4 dX10_smash_34 rfl ?_
        refine sv_i2l dX10_smash_36 rfl ?_
        refine sv_lconst (v := 0) dX10_smash_37 (by decide) ?_
        refine sv_ldc2 ck_RX10_103 dX10_smash_38 ?_
        refine cSi3 (e_inI G _ _ f 0 9 _ _ _ rfl (by decide) (by decide)) ⟨rfl, rfl⟩ (sv_w4 ml_RX10_73 st_X10_in in_RX10 cd_X10_in) nm_X10_in ⟨Nat.le_of_ble_eq_true rfl, Nat.le_of_ble_eq_true rfl⟩ (Nat.le_of_ble_eq_true rfl) ⟨Nat.le_of_ble_eq_true rfl, Nat.le_of_ble_eq_true rfl⟩ dX10_smash_41 ?_
        refine sv_ifeq_b (tgt := 51) dX10_smash_44 (by decide) (fun c44 => ?_) (fun c44 => ?_)
        · -- jump
          refine sv_iconst (v := 0) dX10_smash_51 (by decide) ?_
          refine sv_istore (ls' := [(6, _), (0, _), (1, _), (2, _), (3, _), (4, _), (5, _)]) dX10_smash_52 (by decide) rfl ?_
          refine sv_iload_n 3 dX10_smash_54 rfl ?_
          refine sv_bipush (v := (-9)) dX10_smash_55 (by decide) ?_
          refine sv_icmp_eq (tgt := 65) dX10_smash_57 (by decide) (fun c57 => ?_) (fun c57 => ?_)
          · -- jump
            refine sv_iload 6 dX10_smash_65 rfl ?_
            refine sv_i2l dX10_smash_67 rfl ?_
            refine sv_lconst (v := 0) dX10_smash_68 (by decide) ?_
            refine sv_ldc2 ck_RX10_103 dX10_smash_69 ?_
            refine cSi3 (e_inI G _ _ b 0 9 _ _ _ rfl (by decide) (by decide)) ⟨rfl, rfl⟩ (sv_w4 ml_RX10_73 st_X10_in in_RX10 cd_X10_in) nm_X10_in ⟨Nat.le_of_ble_eq_true rfl, Nat.le_of_ble_eq_true rfl⟩ (Nat.le_of_ble_eq_true rfl) ⟨Nat.le_of_ble_eq_true rfl, Nat.le_of_ble_eq_true rfl⟩ dX10_smash_72 ?_
            refine sv_ifne_b (tgt := 81) dX10_smash_75 (by decide) (fun c75 => ?_) (fun c75 => ?_)
            · -- jump
              refine sv_aload_n 1 dX10_smash_81 rfl ?_
              refine sg_10_6 sh_179 fl_RX10_22 dX10_smash_82 ?_
              refine sv_bipush (v := 26) dX10_smash_85 (by decide) ?_
              refine sv_iload_n 2 dX10_smash_87 rfl ?_
              refine sv_iadd dX10_smash_88 ?_
              refine sx_ild sh_184 (26 + tn a) (ad_tn 26 c5.1) (by have := (hY16 hN c5).2; omega) dX10_smash_89 ?_
              refine sv_iconst (v := 3) dX10_smash_90 (by decide) ?_
              refine sv_icmp_ne (tgt := 97) dX10_smash_91 (by decide) (fun c91 => ?_) (fun c91 => ?_)
              · -- jump
                refine sv_aload_n 1 dX10_smash_97 rfl ?_
                refine cVv0 (e_X10_note G _ _ hD) ⟨rfl, rfl⟩ (sv_w5 ml_RX10_201 im_X10_note sl_X10_note in_RX10 cd_X10_note) nm_X10_note ⟨Nat.le_of_ble_eq_true rfl, Nat.le_of_ble_eq_true rfl⟩ rfl (CF_10 sh_179) (shp_lt sh_179 (by simp)) (Nat.le_of_ble_eq_true rfl) ⟨Nat.le_of_ble_eq_true rfl, Nat.le_of_ble_eq_true rfl⟩ dX10_smash_98 ?_
                refine sv_aload_n 1 dX10_smash_101 rfl ?_
                refine sg_10_6 sh_179 fl_RX10_22 dX10_smash_102 ?_
                refine sv_iload_n 2 dX10_smash_105 rfl ?_
                refine sv_iload_n 3 dX10_smash_106 rfl ?_
                refine sv_iload_n 4 dX10_smash_107 rfl ?_
                refine sv_iload 5 dX10_smash_108 rfl ?_
                refine sv_iload 6 dX10_smash_110 rfl ?_
                refine cSv6 (e_X10_breakOn G _ _ _ sh_184 _ c5.1 (hY16 hN c5).2 _ _ _ _) ⟨rfl, rfl⟩ (sv_w4 ml_RX10_214 st_X10_breakOn in_RX10 cd_X10_breakOn) nm_X10_breakOn ⟨Nat.le_of_ble_eq_true rfl, Nat.le_of_ble_eq_true rfl⟩ (Nat.le_of_ble_eq_true rfl) ⟨Nat.le_of_ble_eq_true rfl, Nat.le_of_ble_eq_true rfl⟩ dX10_smash_112 ?_
                refine sv_aload_n 1 dX10_smash_115 rfl ?_
                refine sg_10_6 sh_179 fl_RX10_22 dX10_smash_116 ?_
                refine sv_bipush (v := 26) dX10_smash_119 (by decide) ?_
                refine sv_iload_n 2 dX10_smash_121 rfl ?_
                refine sv_iadd dX10_smash_122 ?_
                refine sx_ild sh_184 (26 + tn a) (ad_tn 26 c5.1) (by have := (hY16 hN c5).2; omega) dX10_smash_123 ?_
                refine sv_topE (v' := S 184 (26 + tn a) + 1) (by rw [boS_26 _ _ _ _ _ _ _ (hY16 hN c5).2, ynote_ne (by decide) (by decide)]) ?_
                exact se_iret rfl ⟨rfl, rfl⟩ dX10_smash_124 (by rw [ysmash, if_pos c5, if_pos (show fitY r how f b from ⟨Or.inl c57, c75⟩), if_neg c91]) (by rw [ysmash, if_pos c5, if_pos (show fitY r how f b from ⟨Or.inl c57, c75⟩), if_neg c91])
              · -- fall
                refine sv_bipush (v := (-4)) dX10_smash_94 (by decide) ?_
                exact se_iret rfl ⟨rfl, rfl⟩ dX10_smash_96 (by rw [ysmash, if_pos c5, if_pos (show fitY r how f b from ⟨Or.inl c57, c75⟩), if_pos c91]) (by rw [ysmash, if_pos c5, if_pos (show fitY r how f b from ⟨Or.inl c57, c75⟩), if_pos c91])
            · -- fall
              refine sv_bipush (v := (-2)) dX10_smash_78 (by decide) ?_
              exact se_iret rfl ⟨rfl, rfl⟩ dX10_smash_80 (by rw [ysmash, if_pos c5, if_neg (show ¬ fitY r how f b from fun h => c75 h.2)]) (by rw [ysmash, if_pos c5, if_neg (show ¬ fitY r how f b from fun h => c75 h.2)])
          · -- fall
            refine sv_iload 0 dX10_smash_60 rfl ?_
            refine sv_if_eq (tgt := 78) dX10_smash_62 (by decide) (fun _ => ?_) (fun z => absurd z (by decide))
            refine sv_bipush (v := (-2)) dX10_smash_78 (by decide) ?_
            exact se_iret rfl ⟨rfl, rfl⟩ dX10_smash_80 (by rw [ysmash, if_pos c5, if_neg (show ¬ fitY r how f b from fun h => h.1.elim c57 (fun z => c44 z.2.2))]) (by rw [ysmash, if_pos c5, if_neg (show ¬ fitY r how f b from fun h => h.1.elim c57 (fun z => c44 z.2.2))])
        · -- fall
          refine sv_iconst (v := 1) dX10_smash_47 (by decide) ?_
          refine sv_goto (tgt := 52) dX10_smash_48 (by decide) ?_
          refine sv_istore (ls' := [(6, _), (0, _), (1, _), (2, _), (3, _), (4, _), (5, _)]) dX10_smash_52 (by decide) rfl ?_
          refine sv_iload_n 3 dX10_smash_54 rfl ?_
          refine sv_bipush (v := (-9)) dX10_smash_55 (by decide) ?_
          refine sv_icmp_eq (tgt := 65) dX10_smash_57 (by decide) (fun c57 => ?_) (fun c57 => ?_)
          · -- jump
            refine sv_iload 6 dX10_smash_65 rfl ?_
            refine sv_i2l dX10_smash_67 rfl ?_
            refine sv_lconst (v := 0) dX10_smash_68 (by decide) ?_
            refine sv_ldc2 ck_RX10_103 dX10_smash_69 ?_
            refine cSi3 (e_inI G _ _ b 0 9 _ _ _ rfl (by decide) (by decide)) ⟨rfl, rfl⟩ (sv_w4 ml_RX10_73 st_X10_in in_RX10 cd_X10_in) nm_X10_in ⟨Nat.le_of_ble_eq_true rfl, Nat.le_of_ble_eq_true rfl⟩ (Nat.le_of_ble_eq_true rfl) ⟨Nat.le_of_ble_eq_true rfl, Nat.le_of_ble_eq_true rfl⟩ dX10_smash_72 ?_
            refine sv_ifne_b (tgt := 81) dX10_smash_75 (by decide) (fun c75 => ?_) (fun c75 => ?_)
            · -- jump
              refine sv_aload_n 1 dX10_smash_81 rfl ?_
              refine sg_10_6 sh_179 fl_RX10_22 dX10_smash_82 ?_
              refine sv_bipush (v := 26) dX10_smash_85 (by decide) ?_
              refine sv_iload_n 2 dX10_smash_87 rfl ?_
              refine sv_iadd dX10_smash_88 ?_
              refine sx_ild sh_184 (26 + tn a) (ad_tn 26 c5.1) (by have := (hY16 hN c5).2; omega) dX10_smash_89 ?_
              refine sv_iconst (v := 3) dX10_smash_90 (by decide) ?_
              refine sv_icmp_ne (tgt := 97) dX10_smash_91 (by decide) (fun c91 => ?_) (fun c91 => ?_)
              · -- jump
                refine sv_aload_n 1 dX10_smash_97 rfl ?_
                refine cVv0 (e_X10_note G _ _ hD) ⟨rfl, rfl⟩ (sv_w5 ml_RX10_201 im_X10_note sl_X10_note in_RX10 cd_X10_note) nm_X10_note ⟨Nat.le_of_ble_eq_true rfl, Nat.le_of_ble_eq_true rfl⟩ rfl (CF_10 sh_179) (shp_lt sh_179 (by simp)) (Nat.le_of_ble_eq_true rfl) ⟨Nat.le_of_ble_eq_true rfl, Nat.le_of_ble_eq_true rfl⟩ dX10_smash_98 ?_
                refine sv_aload_n 1 dX10_smash_101 rfl ?_
                refine sg_10_6 sh_179 fl_RX10_22 dX10_smash_102 ?_
                refine sv_iload_n 2 dX10_smash_105 rfl ?_
                refine sv_iload_n 3 dX10_smash_106 rfl ?_
                refine sv_iload_n 4 dX10_smash_107 rfl ?_
                refine sv_iload 5 dX10_smash_108 rfl ?_
                refine sv_iload 6 dX10_smash_110 rfl ?_
                refine cSv6 (e_X10_breakOn G _ _ _ sh_184 _ c5.1 (hY16 hN c5).2 _ _ _ _) ⟨rfl, rfl⟩ (sv_w4 ml_RX10_214 st_X10_breakOn in_RX10 cd_X10_breakOn) nm_X10_breakOn ⟨Nat.le_of_ble_eq_true rfl, Nat.le_of_ble_eq_true rfl⟩ (Nat.le_of_ble_eq_true rfl) ⟨Nat.le_of_ble_eq_true rfl, Nat.le_of_ble_eq_true rfl⟩ dX10_smash_112 ?_
                refine sv_aload_n 1 dX10_smash_115 rfl ?_
                refine sg_10_6 sh_179 fl_RX10_22 dX10_smash_116 ?_
                refine sv_bipush (v := 26) dX10_smash_119 (by decide) ?_
                refine sv_iload_n 2 dX10_smash_121 rfl ?_
                refine sv_iadd dX10_smash_122 ?_
                refine sx_ild sh_184 (26 + tn a) (ad_tn 26 c5.1) (by have := (hY16 hN c5).2; omega) dX10_smash_123 ?_
                refine sv_topE (v' := S 184 (26 + tn a) + 1) (by rw [boS_26 _ _ _ _ _ _ _ (hY16 hN c5).2, ynote_ne (by decide) (by decide)]) ?_
                exact se_iret rfl ⟨rfl, rfl⟩ dX10_smash_124 (by rw [ysmash, if_pos c5, if_pos (show fitY r how f b from ⟨Or.inl c57, c75⟩), if_neg c91]) (by rw [ysmash, if_pos c5, if_pos (show fitY r how f b from ⟨Or.inl c57, c75⟩), if_neg c91])
              · -- fall
                refine sv_bipush (v := (-4)) dX10_smash_94 (by decide) ?_
                exact se_iret rfl ⟨rfl, rfl⟩ dX10_smash_96 (by rw [ysmash, if_pos c5, if_pos (show fitY r how f b from ⟨Or.inl c57, c75⟩), if_pos c91]) (by rw [ysmash, if_pos c5, if_pos (show fitY r how f b from ⟨Or.inl c57, c75⟩), if_pos c91])
            · -- fall
              refine sv_bipush (v := (-2)) dX10_smash_78 (by decide) ?_
              exact se_iret rfl ⟨rfl, rfl⟩ dX10_smash_80 (by rw [ysmash, if_pos c5, if_neg (show ¬ fitY r how f b from fun h => c75 h.2)]) (by rw [ysmash, if_pos c5, if_neg (show ¬ fitY r how f b from fun h => c75 h.2)])
          · -- fall
            refine sv_iload 0 dX10_smash_60 rfl ?_
            refine sv_if_eq (tgt := 78) dX10_smash_62 (by decide) (fun z => absurd z (by decide)) (fun _ => ?_)
            refine sv_iload 6 dX10_smash_65 rfl ?_
            refine sv_i2l dX10_smash_67 rfl ?_
            refine sv_lconst (v := 0) dX10_smash_68 (by decide) ?_
            refine sv_ldc2 ck_RX10_103 dX10_smash_69 ?_
            refine cSi3 (e_inI G _ _ b 0 9 _ _ _ rfl (by decide) (by decide)) ⟨rfl, rfl⟩ (sv_w4 ml_RX10_73 st_X10_in in_RX10 cd_X10_in) nm_X10_in ⟨Nat.le_of_ble_eq_true rfl, Nat.le_of_ble_eq_true rfl⟩ (Nat.le_of_ble_eq_true rfl) ⟨Nat.le_of_ble_eq_true rfl, Nat.le_of_ble_eq_true rfl⟩ dX10_smash_72 ?_
            refine sv_ifne_b (tgt := 81) dX10_smash_75 (by decide) (fun c75 => ?_) (fun c75 => ?_)
            · -- jump
              refine sv_aload_n 1 dX10_smash_81 rfl ?_
              refine sg_10_6 sh_179 fl_RX10_22 dX10_smash_82 ?_
              refine sv_bipush (v := 26) dX10_smash_85 (by decide) ?_
              refine sv_iload_n 2 dX10_smash_87 rfl ?_
              refine sv_iadd dX10_smash_88 ?_
              refine sx_ild sh_184 (26 + tn a) (ad_tn 26 c5.1) (by have := (hY16 hN c5).2; omega) dX10_smash_89 ?_
              refine sv_iconst (v := 3) dX10_smash_90 (by decide) ?_
              refine sv_icmp_ne (tgt := 97) dX10_smash_91 (by decide) (fun c91 => ?_) (fun c91 => ?_)
              · -- jump
                refine sv_aload_n 1 dX10_smash_97 rfl ?_
                refine cVv0 (e_X10_note G _ _ hD) ⟨rfl, rfl⟩ (sv_w5 ml_RX10_201 im_X10_note sl_X10_note in_RX10 cd_X10_note) nm_X10_note ⟨Nat.le_of_ble_eq_true rfl, Nat.le_of_ble_eq_true rfl⟩ rfl (CF_10 sh_179) (shp_lt sh_179 (by simp)) (Nat.le_of_ble_eq_true rfl) ⟨Nat.le_of_ble_eq_true rfl, Nat.le_of_ble_eq_true rfl⟩ dX10_smash_98 ?_
                refine sv_aload_n 1 dX10_smash_101 rfl ?_
                refine sg_10_6 sh_179 fl_RX10_22 dX10_smash_102 ?_
                refine sv_iload_n 2 dX10_smash_105 rfl ?_
                refine sv_iload_n 3 dX10_smash_106 rfl ?_
                refine sv_iload_n 4 dX10_smash_107 rfl ?_
                refine sv_iload 5 dX10_smash_108 rfl ?_
                refine sv_iload 6 dX10_smash_110 rfl ?_
                refine cSv6 (e_X10_breakOn G _ _ _ sh_184 _ c5.1 (hY16 hN c5).2 _ _ _ _) ⟨rfl, rfl⟩ (sv_w4 ml_RX10_214 st_X10_breakOn in_RX10 cd_X10_breakOn) nm_X10_breakOn ⟨Nat.le_of_ble_eq_true rfl, Nat.le_of_ble_eq_true rfl⟩ (Nat.le_of_ble_eq_true rfl) ⟨Nat.le_of_ble_eq_true rfl, Nat.le_of_ble_eq_true rfl⟩ dX10_smash_112 ?_
                refine sv_aload_n 1 dX10_smash_115 rfl ?_
                refine sg_10_6 sh_179 fl_RX10_22 dX10_smash_116 ?_
                refine sv_bipush (v := 26) dX10_smash_119 (by decide) ?_
                refine sv_iload_n 2 dX10_smash_121 rfl ?_
                refine sv_iadd dX10_smash_122 ?_
                refine sx_ild sh_184 (26 + tn a) (ad_tn 26 c5.1) (by have := (hY16 hN c5).2; omega) dX10_smash_123 ?_
                refine sv_topE (v' := S 184 (26 + tn a) + 1) (by rw [boS_26 _ _ _ _ _ _ _ (hY16 hN c5).2, ynote_ne (by decide) (by decide)]) ?_
                exact se_iret rfl ⟨rfl, rfl⟩ dX10_smash_124 (by rw [ysmash, if_pos c5, if_pos (show fitY r how f b from ⟨Or.inr ⟨c19, c31, c44⟩, c75⟩), if_neg c91]) (by rw [ysmash, if_pos c5, if_pos (show fitY r how f b from ⟨Or.inr ⟨c19, c31, c44⟩, c75⟩), if_neg c91])
              · -- fall
                refine sv_bipush (v := (-4)) dX10_smash_94 (by decide) ?_
                exact se_iret rfl ⟨rfl, rfl⟩ dX10_smash_96 (by rw [ysmash, if_pos c5, if_pos (show fitY r how f b from ⟨Or.inr ⟨c19, c31, c44⟩, c75⟩), if_pos c91]) (by rw [ysmash, if_pos c5, if_pos (show fitY r how f b from ⟨Or.inr ⟨c19, c31, c44⟩, c75⟩), if_pos c91])
            · -- fall
              refine sv_bipush (v := (-2)) dX10_smash_78 (by decide) ?_
              exact se_iret rfl ⟨rfl, rfl⟩ dX10_smash_80 (by rw [ysmash, if_pos c5, if_neg (show ¬ fitY r how f b from fun h => c75 h.2)]) (by rw [ysmash, if_pos c5, if_neg (show ¬ fitY r how f b from fun h => c75 h.2)])
  · -- fall
    refine sv_iconst (v := (-1)) dX10_smash_8 (by decide) ?_
    exact se_iret rfl ⟨rfl, rfl⟩ dX10_smash_9 (by rw [ysmash, if_neg c5]) (by rw [ysmash, if_neg c5])
set_option maxRecDepth 100000 in
set_option maxHeartbeats 4000000 in
theorem e_X10_lift (G : GT) (S : Nat → Nat → Int32) (L : Nat → Int64) (hN : wfN S) (hD : wfD S) (a : Int32) : sE G yX10_lift R_X10_lift cX10_lift 2 (some .int) [.ref (gB G + 179), .int a] S L (some (.int (ylift S a).1)) (ylift S a).2 L := by
  refine sE.of (by decide) (Nat.le_of_ble_eq_true rfl) ?_
  show sv_V G R_X10_lift RX10 "lift" cX10_lift 2 (some .int) (sPo G R_X10_lift (some (.int (ylift S a).1)) (ylift S a).2 L) 0 0 197 (CF G S L) 0 [(0, .ref (gB G + 179)), (1, .int a)] []
  refine sv_aload_n 0 dX10_lift_0 rfl ?_
  refine sv_iload_n 1 dX10_lift_1 rfl ?_
  refine cVi1 (e_X10_isPlace G _ _ hN _) ⟨rfl, rfl⟩ (sv_w5 ml_RX10_135 im_X10_isPlace sl_X10_isPlace in_RX10 cd_X10_isPlace) nm_X10_isPlace ⟨Nat.le_of_ble_eq_true rfl, Nat.le_of_ble_eq_true rfl⟩ rfl (CF_10 sh_179) (shp_lt sh_179 (by simp)) (Nat.le_of_ble_eq_true rfl) ⟨Nat.le_of_ble_eq_true rfl, Nat.le_of_ble_eq_true rfl⟩ dX10_lift_2 ?_
  refine sv_ifne_b (tgt := 10) dX10_lift_5 (by decide) (fun c5 => ?_) (fun c5 => ?_)
  · -- jump
    refine sv_aload_n 0 dX10_lift_10 rfl ?_
    refine sg_10_6 sh_179 fl_RX10_22 dX10_lift_11 ?_
    refine sv_bipush (v := 26) dX10_lift_14 (by decide) ?_
    refine sv_iload_n 1 dX10_lift_16 rfl ?_
    refine sv_iadd dX10_lift_17 ?_
    refine sx_ild sh_184 (26 + tn a) (ad_tn 26 c5.1) (by have := (hY16 hN c5).2; omega) dX10_lift_18 ?_
    refine sv_if_ne (tgt := 25) dX10_lift_19 (by decide) (fun c19 => ?_) (fun c19 => ?_)
    · -- jump
      refine sv_aload_n 0 dX10_lift_25 rfl ?_
      refine cVv0 (e_X10_note G _ _ hD) ⟨rfl, rfl⟩ (sv_w5 ml_RX10_201 im_X10_note sl_X10_note in_RX10 cd_X10_note) nm_X10_note ⟨Nat.le_of_ble_eq_true rfl, Nat.le_of_ble_eq_true rfl⟩ rfl (CF_10 sh_179) (shp_lt sh_179 (by simp)) (Nat.le_of_ble_eq_true rfl) ⟨Nat.le_of_ble_eq_true rfl, Nat.le_of_ble_eq_true rfl⟩ dX10_lift_26 ?_
      refine sv_aload_n 0 dX10_lift_29 rfl ?_
      refine sg_10_6 sh_179 fl_RX10_22 dX10_lift_30 ?_
      refine sv_bipush (v := 26) dX10_lift_33 (by decide) ?_
      refine sv_iload_n 1 dX10_lift_35 rfl ?_
      refine sv_iadd dX10_lift_36 ?_
      refine sv_dup2_11 dX10_lift_37 rfl rfl ?_
      refine sx_ild sh_184 (26 + tn a) (ad_tn 26 c5.1) (by have := (hY16 hN c5).2; omega) dX10_lift_38 ?_
      refine sv_topE (v' := S 184 (26 + tn a)) (by rw [ynote_ne (by decide) (by decide)]) ?_
      refine sv_iconst (v := 1) dX10_lift_39 (by decide) ?_
      refine sv_isub dX10_lift_40 ?_
      refine sx_ist sh_184 (26 + tn a) (ad_tn 26 c5.1) (by have := (hY16 hN c5).2; omega) dX10_lift_41 ?_
      refine sv_aload_n 0 dX10_lift_42 rfl ?_
      refine sg_10_6 sh_179 fl_RX10_22 dX10_lift_43 ?_
      refine sv_bipush (v := 26) dX10_lift_46 (by decide) ?_
      refine sv_iload_n 1 dX10_lift_48 rfl ?_
      refine sv_iadd dX10_lift_49 ?_
      refine sx_ild sh_184 (26 + tn a) (ad_tn 26 c5.1) (by have := (hY16 hN c5).2; omega) dX10_lift_50 ?_
      refine sv_topE (v' := S 184 (26 + tn a) - 1) (up2_same _ _ _ _) ?_
      exact se_iret rfl ⟨rfl, rfl⟩ dX10_lift_51 (by rw [ylift, if_pos c5, if_neg c19]) (by rw [ylift, if_pos c5, if_neg c19])
    · -- fall
      refine sv_bipush (v := (-3)) dX10_lift_22 (by decide) ?_
      exact se_iret rfl ⟨rfl, rfl⟩ dX10_lift_24 (by rw [ylift, if_pos c5, if_pos c19]) (by rw [ylift, if_pos c5, if_pos c19])
  · -- fall
    refine sv_iconst (v := (-1)) dX10_lift_8 (by decide) ?_
    exact se_iret rfl ⟨rfl, rfl⟩ dX10_lift_9 (by rw [ylift, if_neg c5]) (by rw [ylift, if_neg c5])
set_option maxRecDepth 100000 in
set_option maxHeartbeats 4000000 in
theorem e_X10_watch (G : GT) (S : Nat → Nat → Int32) (L : Nat → Int64) (hD : wfD S) (m : Int32) : sE G yX10_watch R_X10_watch cX10_watch 2 (some .int) [.ref (gB G + 179), .int m] S L (some (.int (ywatch S m).1)) (ywatch S m).2 L := by
  refine sE.of (by decide) (Nat.le_of_ble_eq_true rfl) ?_
  show sv_V G R_X10_watch RX10 "watch" cX10_watch 2 (some .int) (sPo G R_X10_watch (some (.int (ywatch S m).1)) (ywatch S m).2 L) 0 0 197 (CF G S L) 0 [(0, .ref (gB G + 179)), (1, .int m)] []
  refine sv_iload_n 1 dX10_watch_0 rfl ?_
  refine sv_i2l dX10_watch_1 rfl ?_
  refine sv_lconst (v := 0) dX10_watch_2 (by decide) ?_
  refine sv_ldc2 ck_RX10_120 dX10_watch_3 ?_
  refine cSi3 (e_inI G _ _ m 0 7 _ _ _ rfl (by decide) (by decide)) ⟨rfl, rfl⟩ (sv_w4 ml_RX10_73 st_X10_in in_RX10 cd_X10_in) nm_X10_in ⟨Nat.le_of_ble_eq_true rfl, Nat.le_of_ble_eq_true rfl⟩ (Nat.le_of_ble_eq_true rfl) ⟨Nat.le_of_ble_eq_true rfl, Nat.le_of_ble_eq_true rfl⟩ dX10_watch_6 ?_
  refine sv_ifne_b (tgt := 14) dX10_watch_9 (by decide) (fun c9 => ?_) (fun c9 => ?_)
  · -- jump
    refine sv_aload_n 0 dX10_watch_14 rfl ?_
    refine cVv0 (e_X10_note G _ _ hD) ⟨rfl, rfl⟩ (sv_w5 ml_RX10_201 im_X10_note sl_X10_note in_RX10 cd_X10_note) nm_X10_note ⟨Nat.le_of_ble_eq_true rfl, Nat.le_of_ble_eq_true rfl⟩ rfl (CF_10 sh_179) (shp_lt sh_179 (by simp)) (Nat.le_of_ble_eq_true rfl) ⟨Nat.le_of_ble_eq_true rfl, Nat.le_of_ble_eq_true rfl⟩ dX10_watch_15 ?_
    refine sv_aload_n 0 dX10_watch_18 rfl ?_
    refine sg_10_6 sh_179 fl_RX10_22 dX10_watch_19 ?_
    refine sv_bipush (v := 25) dX10_watch_22 (by decide) ?_
    refine sv_dup2_11 dX10_watch_24 rfl rfl ?_
    refine sx_ild sh_184 25 (by decide) (by decide) dX10_watch_25 ?_
    refine sv_topE (v' := S 184 25) (by rw [ynote_ne (by decide) (by decide)]) ?_
    refine sv_iconst (v := 1) dX10_watch_26 (by decide) ?_
    refine sv_iload_n 1 dX10_watch_27 rfl ?_
    refine sv_ishl dX10_watch_28 ?_
    refine sv_ixor dX10_watch_29 ?_
    refine sx_ist sh_184 25 (by decide) (by decide) dX10_watch_30 ?_
    refine sv_aload_n 0 dX10_watch_31 rfl ?_
    refine sg_10_6 sh_179 fl_RX10_22 dX10_watch_32 ?_
    refine sv_bipush (v := 25) dX10_watch_35 (by decide) ?_
    refine sx_ild sh_184 25 (by decide) (by decide) dX10_watch_37 ?_
    refine sv_topE (v' := S 184 25 ^^^ ((1 : Int32) <<< (m &&& 31))) (up2_same _ _ _ _) ?_
    refine sv_iload_n 1 dX10_watch_38 rfl ?_
    refine sv_ishr dX10_watch_39 ?_
    refine sv_iconst (v := 1) dX10_watch_40 (by decide) ?_
    refine sv_iand dX10_watch_41 ?_
    exact se_iret rfl ⟨rfl, rfl⟩ dX10_watch_42 (by rw [ywatch, if_pos c9]) (by rw [ywatch, if_pos c9])
  · -- fall
    refine sv_iconst (v := (-1)) dX10_watch_12 (by decide) ?_
    exact se_iret rfl ⟨rfl, rfl⟩ dX10_watch_13 (by rw [ywatch, if_neg c9]) (by rw [ywatch, if_neg c9])
def udK (S : Nat → Nat → Int32) (x k : Nat) : Nat → Nat → Int32 := va_up S 184 (fun j => if j < k then S 186 (128 * x + j) else S 184 j)
theorem udK_0 (S : Nat → Nat → Int32) (x : Nat) : udK S x 0 = S := by
  funext k j
  unfold udK va_up
  by_cases hk : k = 184
  · subst hk; simp
  · simp [hk]
theorem udK_s (S : Nat → Nat → Int32) (x p : Nat) : up2 (udK S x p) 184 p (udK S x p 186 (128 * x + p)) = udK S x (p + 1) := by
  have e : udK S x p 186 (128 * x + p) = S 186 (128 * x + p) := by unfold udK va_up; rw [if_neg (by decide)]
  rw [e]
  funext k j
  rw [up2_at]
  unfold udK va_up
  by_cases hk : k = 184
  · subst hk
    simp only [true_and, if_pos]
    by_cases h1 : j = p
    · subst h1; rw [if_pos rfl, if_pos (by omega)]
    · rw [if_neg h1]
      by_cases h2 : j < p
      · rw [if_pos h2, if_pos (by omega)]
      · rw [if_neg h2, if_neg (by omega)]
  · simp [hk]
theorem udK_ne {S : Nat → Nat → Int32} {x n k : Nat} (h : k ≠ 184) : udK S x n k = S k := by unfold udK va_up; rw [if_neg h]
theorem add14 {y : Int32} (h : ¬ y < 0) : y + 14 - 1 = nI (tn y + 13) := by
  obtain ⟨x, hx, rfl⟩ := nI_of h
  rw [tn_nI hx, show (14 : Int32) = nI 14 from rfl, nI_add]; exact nI_pred (x + 13)
def udT (S : Nat → Nat → Int32) : Nat → Nat → Int32 := up2 (up2 S 179 9 (S 179 9 - 1)) 179 10 (nI ((tn (S 179 10) + 13) % 14))
def yundo (S : Nat → Nat → Int32) : Int32 × (Nat → Nat → Int32) := if S 179 9 = 0 then (-3, S) else (S 179 9 - 1, udK (udT S) ((tn (S 179 10) + 13) % 14) 128)
set_option maxRecDepth 100000 in
set_option maxHeartbeats 4000000 in
theorem l_X10_undo (G : GT) (S : Nat → Nat → Int32) (L : Nat → Int64) (x : Nat) (v : Int32) (hv : S 179 9 = v) (hx : S 179 10 = nI x) (hx14 : x < 14) : ∀ (m p : Nat), 128 - p = m → p ≤ 128 → sv_V G R_X10_undo RX10 "undo" cX10_undo 2 (some .int) (sPo G R_X10_undo (some (.int v)) (udK S x 128) L) 0 0 197 (CF G (udK S x p) L) 38 [(1, .int (nI p)), (0, .ref (gB G + 179))] [] := by
  intro m
  induction m using Nat.strongRecOn
  rename_i m ih
  intro p hm hp
  refine sv_iload_n 0 dX10_undo_38 rfl ?_
  refine sv_sipush (v := 128) dX10_undo_39 (by decide) ?_
  refine sv_icmp_ge (tgt := 72) dX10_undo_42 (by decide) (fun c42 => ?_) (fun c42 => ?_)
  · -- jump
    obtain rfl : p = 128 := by have := (nI_leI (a := 128) (b := p) (by omega) (by omega)).mp c42; omega
    refine sv_aload_n 1 dX10_undo_72 rfl ?_
    refine sg_10_9 sh_179 fl_RX10_132 dX10_undo_73 ?_
    refine sv_topE (v' := v) (by rw [udK_ne (by decide)]; exact hv) ?_
    exact se_iret rfl ⟨rfl, rfl⟩ dX10_undo_76 rfl rfl
  · -- fall
    have h7 : p < 128 := Nat.lt_of_not_le (fun z => c42 (nI_le (a := 128) z (by omega)))
    refine sv_aload_n 1 dX10_undo_45 rfl ?_
    refine sg_10_6 sh_179 fl_RX10_22 dX10_undo_46 ?_
    refine sv_iload_n 0 dX10_undo_49 rfl ?_
    refine sv_aload_n 1 dX10_undo_50 rfl ?_
    refine sg_10_8 sh_179 fl_RX10_28 dX10_undo_51 ?_
    refine sv_sipush (v := 128) dX10_undo_54 (by decide) ?_
    refine sv_aload_n 1 dX10_undo_57 rfl ?_
    refine sg_10_10 sh_179 fl_RX10_198 dX10_undo_58 ?_
    refine sv_topE (v' := nI x) (by rw [udK_ne (by decide)]; exact hx) ?_
    refine sv_imul dX10_undo_61 ?_
    refine sv_iload_n 0 dX10_undo_62 rfl ?_
    refine sv_iadd dX10_undo_63 ?_
    refine sx_ild sh_186 (128 * x + p) (by rw [show (128 : Int32) = nI 128 from rfl, pk_mul, nI_add]) (by omega) dX10_undo_64 ?_
    refine sx_ist sh_184 p rfl (by omega) dX10_undo_65 ?_
    refine sv_eqS (udK_s S x p) ?_
    refine sv_iinc 0 (ls' := [(1, _), (0, _)]) dX10_undo_66 rfl (nI_1 _) (by decide) rfl ?_
    refine sv_goto (tgt := 38) dX10_undo_69 (by decide) ?_
    exact ih (128 - (p + 1)) (by omega) (p + 1) rfl (by omega)
set_option maxRecDepth 100000 in
set_option maxHeartbeats 4000000 in
theorem e_X10_undo (G : GT) (S : Nat → Nat → Int32) (L : Nat → Int64) (hD : wfD S) : sE G yX10_undo R_X10_undo cX10_undo 2 (some .int) [.ref (gB G + 179)] S L (some (.int (yundo S).1)) (yundo S).2 L := by
  refine sE.of (by decide) (Nat.le_of_ble_eq_true rfl) ?_
  show sv_V G R_X10_undo RX10 "undo" cX10_undo 2 (some .int) (sPo G R_X10_undo (some (.int (yundo S).1)) (yundo S).2 L) 0 0 197 (CF G S L) 0 [(0, .ref (gB G + 179))] []
  refine sv_aload_n 0 dX10_undo_0 rfl ?_
  refine sg_10_9 sh_179 fl_RX10_132 dX10_undo_1 ?_
  refine sv_if_ne (tgt := 10) dX10_undo_4 (by decide) (fun c4 => ?_) (fun c4 => ?_)
  · -- jump
    refine sv_aload_n 0 dX10_undo_10 rfl ?_
    refine sv_dup dX10_undo_11 rfl ?_
    refine sg_10_9 sh_179 fl_RX10_132 dX10_undo_12 ?_
    refine sv_iconst (v := 1) dX10_undo_15 (by decide) ?_
    refine sv_isub dX10_undo_16 ?_
    refine sp_10_9 sh_179 fl_RX10_132 dX10_undo_17 ?_
    refine sv_aload_n 0 dX10_undo_20 rfl ?_
    refine sv_aload_n 0 dX10_undo_21 rfl ?_
    refine sg_10_10 sh_179 fl_RX10_198 dX10_undo_22 ?_
    refine sv_topE (v' := S 179 10) (up2_ne (Or.inr (by decide))) ?_
    refine sv_bipush (v := 14) dX10_undo_25 (by decide) ?_
    refine sv_iadd dX10_undo_27 ?_
    refine sv_iconst (v := 1) dX10_undo_28 (by decide) ?_
    refine sv_isub dX10_undo_29 ?_
    refine sv_bipush (v := 14) dX10_undo_30 (by decide) ?_
    refine sv_irem dX10_undo_32 (by decide) ?_
    refine sv_topE (v' := nI ((tn (S 179 10) + 13) % 14)) (rem_nI (add14 hD.1) (by rfl) (by have := tn_lt (M := 14) (k := 14) rfl (by decide) hD.1 hD.2; omega) (by decide) (by decide)) ?_
    refine sp_10_10 sh_179 fl_RX10_198 dX10_undo_33 ?_
    refine sv_iconst (v := 0) dX10_undo_36 (by decide) ?_
    refine sv_istore_n (ls' := [(1, _), (0, _)]) dX10_undo_37 (by decide) rfl ?_
    rw [yundo, if_neg c4]
    have h := l_X10_undo G (udT S) L ((tn (S 179 10) + 13) % 14) (S 179 9 - 1) (by unfold udT; rw [up2_ne (Or.inr (by decide)), up2_same]) (up2_same _ _ _ _) (Nat.mod_lt _ (by decide)) _ 0 rfl (by omega)
    rw [udK_0] at h
    exact h
  · -- fall
    refine sv_bipush (v := (-3)) dX10_undo_7 (by decide) ?_
    exact se_iret rfl ⟨rfl, rfl⟩ dX10_undo_9 (by rw [yundo, if_pos c4]) (by rw [yundo, if_pos c4])
