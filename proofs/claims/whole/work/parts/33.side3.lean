set_option maxRecDepth 100000 in
set_option maxHeartbeats 4000000 in
theorem sw_X9_holds_9 {G : GT} {R : Room} {own nm : String} {nL : Nat} {rt : Option FieldType} {Post : Option Value → Nat → Nat → Nat → (Nat → va_E) → Prop} {cells slots n : Nat} {f : Nat → va_E} {ls : List (Nat × Value)} {st : List Value} {x : Int32} (d : decode cX9_holds 9 = .ok (.tableswitch 226 1 7 #[43, 76, 103, 124, 153, 181, 205], 43)) (k0 : x = 1 → sv_V G R own nm cX9_holds nL rt Post cells slots n f 52 ls st) (k1 : x = 2 → sv_V G R own nm cX9_holds nL rt Post cells slots n f 85 ls st) (k2 : x = 3 → sv_V G R own nm cX9_holds nL rt Post cells slots n f 112 ls st) (k3 : x = 4 → sv_V G R own nm cX9_holds nL rt Post cells slots n f 133 ls st) (k4 : x = 5 → sv_V G R own nm cX9_holds nL rt Post cells slots n f 162 ls st) (k5 : x = 6 → sv_V G R own nm cX9_holds nL rt Post cells slots n f 190 ls st) (k6 : x = 7 → sv_V G R own nm cX9_holds nL rt Post cells slots n f 214 ls st) (kd : ¬ x = 1 ∧ ¬ x = 2 ∧ ¬ x = 3 ∧ ¬ x = 4 ∧ ¬ x = 5 ∧ ¬ x = 6 ∧ ¬ x = 7 → sv_V G R own nm cX9_holds nL rt Post cells slots n f 235 ls st) : sv_V G R own nm cX9_holds nL rt Post cells slots n f 9 ls (.int x :: st) := by
  by_cases h0 : x = 1
  · subst h0; exact sv_tableIn (tgt := 52) (off := 43) d (by decide) (by decide) (by decide) (by decide) (k0 rfl)
  by_cases h1 : x = 2
  · subst h1; exact sv_tableIn (tgt := 85) (off := 76) d (by decide) (by decide) (by decide) (by decide) (k1 rfl)
  by_cases h2 : x = 3
  · subst h2; exact sv_tableIn (tgt := 112) (off := 103) d (by decide) (by decide) (by decide) (by decide) (k2 rfl)
  by_cases h3 : x = 4
  · subst h3; exact sv_tableIn (tgt := 133) (off := 124) d (by decide) (by decide) (by decide) (by decide) (k3 rfl)
  by_cases h4 : x = 5
  · subst h4; exact sv_tableIn (tgt := 162) (off := 153) d (by decide) (by decide) (by decide) (by decide) (k4 rfl)
  by_cases h5 : x = 6
  · subst h5; exact sv_tableIn (tgt := 190) (off := 181) d (by decide) (by decide) (by decide) (by decide) (k5 rfl)
  by_cases h6 : x = 7
  · subst h6; exact sv_tableIn (tgt := 214) (off := 205) d (by decide) (by decide) (by decide) (by decide) (k6 rfl)
  refine sv_tableOut (tgt := 235) d ?_ (by decide) (kd ⟨h0, h1, h2, h3, h4, h5, h6⟩)
  have q0 := sw_ne h0 (by decide : (1 : Int32).toInt = 1)
  have q1 := sw_ne h1 (by decide : (2 : Int32).toInt = 2)
  have q2 := sw_ne h2 (by decide : (3 : Int32).toInt = 3)
  have q3 := sw_ne h3 (by decide : (4 : Int32).toInt = 4)
  have q4 := sw_ne h4 (by decide : (5 : Int32).toInt = 5)
  have q5 := sw_ne h5 (by decide : (6 : Int32).toInt = 6)
  have q6 := sw_ne h6 (by decide : (7 : Int32).toInt = 7)
  omega
def tkS (S : Nat → Nat → Int32) (p : Nat) : Nat → Nat → Int32 := addS S 26 p (-9) (-9) (-9) 0
set_option maxRecDepth 100000 in
set_option maxHeartbeats 4000000 in
theorem e_X9_takesBreak (G : GT) (S : Nat → Nat → Int32) (L : Nat → Int64) (p : Int32) (hp0 : ¬ p < 0) (hp : tn p < 16) : sE G yX9_takesBreak R_X9_takesBreak cX9_takesBreak 2 (some .boolean) [.ref (gB G + 0), .int p] S L (some (.int (if (¬ 3 ≤ S 27 (6 * tn p)) then 1 else 0))) (if ¬ 3 ≤ S 27 (6 * tn p) then tkS S (tn p) else S) L := by
  refine sE.of (by decide) (Nat.le_of_ble_eq_true rfl) ?_
  show sv_V G R_X9_takesBreak RX9 "takesBreak" cX9_takesBreak 2 (some .boolean) (sPo G R_X9_takesBreak (some (.int (if (¬ 3 ≤ S 27 (6 * tn p)) then 1 else 0))) (if ¬ 3 ≤ S 27 (6 * tn p) then tkS S (tn p) else S) L) 0 0 197 (CF G S L) 0 [(0, .ref (gB G + 0)), (1, .int p)] []
  refine sv_aload_n 0 dX9_takesBreak_0 rfl ?_
  refine sg_9_4 sh_0 fl_RX9_33 dX9_takesBreak_1 ?_
  refine sg_6_1 isState_21.1 fl_RX9_118 dX9_takesBreak_4 ?_
  refine sv_iload_n 1 dX9_takesBreak_7 rfl ?_
  refine cVi1 (e_isFullX G _ _ _ isBrk_26 _ hp0 hp) ⟨rfl, rfl⟩ (sv_w5 ml_RX9_194 im_X0_isFull sl_X0_isFull in_RX0 cd_X0_isFull) nm_X0_isFull ⟨Nat.le_of_ble_eq_true rfl, Nat.le_of_ble_eq_true rfl⟩ rfl (CF_0 isState_21.2.2.1.1) (shp_lt isState_21.2.2.1.1 (by simp)) (Nat.le_of_ble_eq_true rfl) ⟨Nat.le_of_ble_eq_true rfl, Nat.le_of_ble_eq_true rfl⟩ dX9_takesBreak_8 ?_
  refine sv_ifeq_b (tgt := 16) dX9_takesBreak_11 (by decide) (fun c11 => ?_) (fun c11 => ?_)
  · -- jump
    refine sv_aload_n 0 dX9_takesBreak_16 rfl ?_
    refine sg_9_4 sh_0 fl_RX9_33 dX9_takesBreak_17 ?_
    refine sg_6_1 isState_21.1 fl_RX9_118 dX9_takesBreak_20 ?_
    refine sv_iload_n 1 dX9_takesBreak_23 rfl ?_
    refine sv_bipush (v := (-9)) dX9_takesBreak_24 (by decide) ?_
    refine sv_bipush (v := (-9)) dX9_takesBreak_26 (by decide) ?_
    refine sv_bipush (v := (-9)) dX9_takesBreak_28 (by decide) ?_
    refine sv_iconst (v := 0) dX9_takesBreak_30 (by decide) ?_
    refine cVv5 (e_addX G _ _ _ isBrk_26 _ hp0 hp _ _ _ _) ⟨rfl, rfl⟩ (sv_w5 ml_RX9_197 im_X0_add sl_X0_add in_RX0 cd_X0_add) nm_X0_add ⟨Nat.le_of_ble_eq_true rfl, Nat.le_of_ble_eq_true rfl⟩ rfl (CF_0 isState_21.2.2.1.1) (shp_lt isState_21.2.2.1.1 (by simp)) (Nat.le_of_ble_eq_true rfl) ⟨Nat.le_of_ble_eq_true rfl, Nat.le_of_ble_eq_true rfl⟩ dX9_takesBreak_31 ?_
    refine sv_iconst (v := 1) dX9_takesBreak_34 (by decide) ?_
    exact se_zret rfl ⟨rfl, rfl⟩ dX9_takesBreak_35 (by rfl) (by rw [if_pos c11]) (by rw [if_pos c11]; rfl)
  · -- fall
    refine sv_iconst (v := 0) dX9_takesBreak_14 (by decide) ?_
    exact se_zret rfl ⟨rfl, rfl⟩ dX9_takesBreak_15 (by rfl) (by rw [if_neg (fun h => h c11)]) (by rw [if_neg (fun h => h c11)])
/-- whether a statement holds of the trial -/
abbrev hoP (S : Nat → Nat → Int32) (a b c : Int32) : Prop :=
  if a = 1 then (b = 0 ∧ ¬ 3 < c ∧ ((pfF S 21 3 c).1 = 0 ∨ (pfF S 21 3 c).1 = 1)) else if a = 2 then (hasX S (10 * b + c) ∧ ¬ 3 ≤ S 27 (6 * tn (10 * b + c))) else if a = 3 then S 22 4 = 10 * b + c else if a = 4 then ((¬ b < 0 ∧ ¬ 4 ≤ b) ∧ S 23 (tn b) = c)
  else if a = 5 then (b = 0 ∧ (¬ c < 0 ∧ ¬ 8 ≤ c)) else if a = 6 then (b = 0 ∧ S 22 3 = c) else if a = 7 then S 22 6 = 10 * b + c else False
/-- what a statement does to the trial -/
def hoS (S : Nat → Nat → Int32) (a b c : Int32) : Nat → Nat → Int32 :=
  if a = 1 then (if b = 0 ∧ ¬ 3 < c then (pfF S 21 3 c).2 else S) else if a = 2 then (if hasX S (10 * b + c) ∧ ¬ 3 ≤ S 27 (6 * tn (10 * b + c)) then tkS S (tn (10 * b + c)) else S)
  else if a = 5 then (if b = 0 ∧ (¬ c < 0 ∧ ¬ 8 ≤ c) then up2 S 21 4 (S 21 4 ^^^ ((1 : Int32) <<< (c &&& 31))) else S) else S
theorem has16P {S : Nat → Nat → Int32} {p : Int32} (hP : wfP S 3) (h : hasX S p) : tn p < 16 := by
  have h1 := hasI h.1 h.2 hP.1
  have h2 := tn_16 hP.1 hP.2.1
  omega
set_option maxRecDepth 100000 in
set_option maxHeartbeats 4000000 in
theorem e_X9_holds (G : GT) (S : Nat → Nat → Int32) (L : Nat → Int64) (hP : wfP S 3) (hs : wfSt S 21) (a b c : Int32) : sE G yX9_holds R_X9_holds cX9_holds 5 (some .boolean) [.ref (gB G + 0), .int a, .int b, .int c] S L (some (.int (if (hoP S a b c) then 1 else 0))) (hoS S a b c) L := by
  refine sE.of (by decide) (Nat.le_of_ble_eq_true rfl) ?_
  show sv_V G R_X9_holds RX9 "holds" cX9_holds 5 (some .boolean) (sPo G R_X9_holds (some (.int (if (hoP S a b c) then 1 else 0))) (hoS S a b c) L) 0 0 197 (CF G S L) 0 [(0, .ref (gB G + 0)), (1, .int a), (2, .int b), (3, .int c)] []
  refine sv_bipush (v := 10) dX9_holds_0 (by decide) ?_
  refine sv_iload_n 2 dX9_holds_2 rfl ?_
  refine sv_imul dX9_holds_3 ?_
  refine sv_iload_n 3 dX9_holds_4 rfl ?_
  refine sv_iadd dX9_holds_5 ?_
  refine sv_istore (ls' := [(4, _), (0, _), (1, _), (2, _), (3, _)]) dX9_holds_6 (by decide) rfl ?_
  refine sv_iload_n 2 dX9_holds_8 rfl ?_
  refine sw_X9_holds_9 dX9_holds_9 (fun c9 => ?_) (fun c9 => ?_) (fun c9 => ?_) (fun c9 => ?_) (fun c9 => ?_) (fun c9 => ?_) (fun c9 => ?_) (fun c9 => ?_)
  · -- case 1
    refine sv_iload_n 3 dX9_holds_52 rfl ?_
    refine sv_if_ne (tgt := 83) dX9_holds_53 (by decide) (fun c53 => ?_) (fun c53 => ?_)
    · -- jump
      refine sv_iconst (v := 0) dX9_holds_83 (by decide) ?_
      exact se_zret rfl ⟨rfl, rfl⟩ dX9_holds_84 (by rfl) (by subst c9; rw [if_neg (show ¬ hoP S 1 b c from (fun h => c53 h.1))]) (by subst c9; rw [hoS, if_pos rfl, if_neg (fun h => c53 h.1)])
    · -- fall
      refine sv_iload_n 4 dX9_holds_56 rfl ?_
      refine sv_iconst (v := 3) dX9_holds_57 (by decide) ?_
      refine sv_icmp_gt (tgt := 83) dX9_holds_58 (by decide) (fun c58 => ?_) (fun c58 => ?_)
      · -- jump
        refine sv_iconst (v := 0) dX9_holds_83 (by decide) ?_
        exact se_zret rfl ⟨rfl, rfl⟩ dX9_holds_84 (by rfl) (by subst c9; rw [if_neg (show ¬ hoP S 1 b c from (fun h => h.2.1 c58))]) (by subst c9; rw [hoS, if_pos rfl, if_neg (fun h => h.2 c58)])
      · -- fall
        refine sv_aload_n 1 dX9_holds_61 rfl ?_
        refine sg_9_4 sh_0 fl_RX9_33 dX9_holds_62 ?_
        refine sv_iload_n 4 dX9_holds_65 rfl ?_
        refine sv_aload_n 1 dX9_holds_66 rfl ?_
        refine sg_9_1 sh_0 fl_RX9_19 dX9_holds_67 ?_
        refine cVi2 (e_X6_perform G _ _ _ isState_21 _ _ isProg_3 (by decide) ⟨hs.1, hs.2, hP⟩) ⟨rfl, rfl⟩ (sv_w5 ml_RX9_182 im_X6_perform sl_X6_perform in_RX6 cd_X6_perform) nm_X6_perform ⟨Nat.le_of_ble_eq_true rfl, Nat.le_of_ble_eq_true rfl⟩ rfl (CF_6 isState_21.1) (shp_lt isState_21.1 (by simp)) (Nat.le_of_ble_eq_true rfl) ⟨Nat.le_of_ble_eq_true rfl, Nat.le_of_ble_eq_true rfl⟩ dX9_holds_70 ?_
        refine cSi1 (e_X9_isGood G _ _ _) ⟨rfl, rfl⟩ (sv_w4 ml_RX9_264 st_X9_isGood in_RX9 cd_X9_isGood) nm_X9_isGood ⟨Nat.le_of_ble_eq_true rfl, Nat.le_of_ble_eq_true rfl⟩ (Nat.le_of_ble_eq_true rfl) ⟨Nat.le_of_ble_eq_true rfl, Nat.le_of_ble_eq_true rfl⟩ dX9_holds_73 ?_
        refine sv_ifeq_b (tgt := 83) dX9_holds_76 (by decide) (fun c76 => ?_) (fun c76 => ?_)
        · -- jump
          refine sv_iconst (v := 0) dX9_holds_83 (by decide) ?_
          exact se_zret rfl ⟨rfl, rfl⟩ dX9_holds_84 (by rfl) (by subst c9; rw [if_neg (show ¬ hoP S 1 b c from fun h => c76 h.2.2)]) (by subst c9; rw [hoS, if_pos rfl, if_pos ⟨c53, c58⟩])
        · -- fall
          refine sv_iconst (v := 1) dX9_holds_79 (by decide) ?_
          refine sv_goto (tgt := 84) dX9_holds_80 (by decide) ?_
          exact se_zret rfl ⟨rfl, rfl⟩ dX9_holds_84 (by rfl) (by subst c9; rw [if_pos (show hoP S 1 b c from ⟨c53, c58, c76⟩)]) (by subst c9; rw [hoS, if_pos rfl, if_pos ⟨c53, c58⟩])
  · -- case 2
    refine sv_aload_n 1 dX9_holds_85 rfl ?_
    refine sg_9_1 sh_0 fl_RX9_19 dX9_holds_86 ?_
    refine sv_iload 0 dX9_holds_89 rfl ?_
    refine cVi1 (e_X4_has G _ _ _ isProg_3 _) ⟨rfl, rfl⟩ (sv_w5 ml_RX9_165 im_X4_has sl_X4_has in_RX4 cd_X4_has) nm_X4_has ⟨Nat.le_of_ble_eq_true rfl, Nat.le_of_ble_eq_true rfl⟩ rfl (CF_4 isProg_3.1) (shp_lt isProg_3.1 (by simp)) (Nat.le_of_ble_eq_true rfl) ⟨Nat.le_of_ble_eq_true rfl, Nat.le_of_ble_eq_true rfl⟩ dX9_holds_91 ?_
    refine sv_ifeq_b (tgt := 110) dX9_holds_94 (by decide) (fun c94 => ?_) (fun c94 => ?_)
    · -- jump
      refine sv_iconst (v := 0) dX9_holds_110 (by decide) ?_
      exact se_zret rfl ⟨rfl, rfl⟩ dX9_holds_111 (by rfl) (by subst c9; rw [if_neg (show ¬ hoP S 2 b c from fun h => c94 h.1)]) (by subst c9; rw [hoS, if_neg (by decide), if_pos rfl, if_neg (fun h => c94 h.1)])
    · -- fall
      refine sv_aload_n 1 dX9_holds_97 rfl ?_
      refine sv_iload 0 dX9_holds_98 rfl ?_
      refine cVi1 (e_X9_takesBreak G _ _ _ c94.1 (has16P hP c94)) ⟨rfl, rfl⟩ (sv_w5 ml_RX9_267 im_X9_takesBreak sl_X9_takesBreak in_RX9 cd_X9_takesBreak) nm_X9_takesBreak ⟨Nat.le_of_ble_eq_true rfl, Nat.le_of_ble_eq_true rfl⟩ rfl (CF_9 sh_0) (shp_lt sh_0 (by simp)) (Nat.le_of_ble_eq_true rfl) ⟨Nat.le_of_ble_eq_true rfl, Nat.le_of_ble_eq_true rfl⟩ dX9_holds_100 ?_
      refine sv_ifeq_b (tgt := 110) dX9_holds_103 (by decide) (fun c103 => ?_) (fun c103 => ?_)
      · -- jump
        refine sv_eqS (if_neg c103) ?_
        refine sv_iconst (v := 0) dX9_holds_110 (by decide) ?_
        exact se_zret rfl ⟨rfl, rfl⟩ dX9_holds_111 (by rfl) (by subst c9; rw [if_neg (show ¬ hoP S 2 b c from fun h => c103 h.2)]) (by subst c9; rw [hoS, if_neg (by decide), if_pos rfl, if_neg (fun h => c103 h.2)])
      · -- fall
        refine sv_eqS (if_pos c103) ?_
        refine sv_iconst (v := 1) dX9_holds_106 (by decide) ?_
        refine sv_goto (tgt := 111) dX9_holds_107 (by decide) ?_
        exact se_zret rfl ⟨rfl, rfl⟩ dX9_holds_111 (by rfl) (by subst c9; rw [if_pos (show hoP S 2 b c from ⟨c94, c103⟩)]) (by subst c9; rw [hoS, if_neg (by decide), if_pos rfl, if_pos ⟨c94, c103⟩])
  · -- case 3
    refine sv_aload_n 1 dX9_holds_112 rfl ?_
    refine sg_9_4 sh_0 fl_RX9_33 dX9_holds_113 ?_
    refine sg_6_0 isState_21.1 fl_RX9_96 dX9_holds_116 ?_
    refine sg_3_4 isState_21.2.1.1 fl_RX9_100 dX9_holds_119 ?_
    refine sv_iload 0 dX9_holds_122 rfl ?_
    refine sv_icmp_ne (tgt := 131) dX9_holds_124 (by decide) (fun c124 => ?_) (fun c124 => ?_)
    · -- jump
      refine sv_iconst (v := 0) dX9_holds_131 (by decide) ?_
      exact se_zret rfl ⟨rfl, rfl⟩ dX9_holds_132 (by rfl) (by subst c9; rw [if_neg (show ¬ hoP S 3 b c from c124)]) (by subst c9; rfl)
    · -- fall
      refine sv_iconst (v := 1) dX9_holds_127 (by decide) ?_
      refine sv_goto (tgt := 132) dX9_holds_128 (by decide) ?_
      exact se_zret rfl ⟨rfl, rfl⟩ dX9_holds_132 (by rfl) (by subst c9; rw [if_pos (show hoP S 3 b c from c124)]) (by subst c9; rfl)
  · -- case 4
    refine sv_iload_n 3 dX9_holds_133 rfl ?_
    refine cSi1 (e_X9_isRegister G _ _ _) ⟨rfl, rfl⟩ (sv_w4 ml_RX9_149 st_X9_isRegister in_RX9 cd_X9_isRegister) nm_X9_isRegister ⟨Nat.le_of_ble_eq_true rfl, Nat.le_of_ble_eq_true rfl⟩ (Nat.le_of_ble_eq_true rfl) ⟨Nat.le_of_ble_eq_true rfl, Nat.le_of_ble_eq_true rfl⟩ dX9_holds_134 ?_
    refine sv_ifeq_b (tgt := 160) dX9_holds_137 (by decide) (fun c137 => ?_) (fun c137 => ?_)
    · -- jump
      refine sv_iconst (v := 0) dX9_holds_160 (by decide) ?_
      exact se_zret rfl ⟨rfl, rfl⟩ dX9_holds_161 (by rfl) (by subst c9; rw [if_neg (show ¬ hoP S 4 b c from fun h => c137 h.1)]) (by subst c9; rfl)
    · -- fall
      refine sv_aload_n 1 dX9_holds_140 rfl ?_
      refine sg_9_4 sh_0 fl_RX9_33 dX9_holds_141 ?_
      refine sg_6_0 isState_21.1 fl_RX9_96 dX9_holds_144 ?_
      refine sg_3_0 isState_21.2.1.1 fl_RX9_153 dX9_holds_147 ?_
      refine sv_iload_n 3 dX9_holds_150 rfl ?_
      refine sx_ild isState_21.2.1.2.1 _ (nI_self c137.1) (tn_lt (M := 4) (k := 4) rfl (by decide) c137.1 c137.2) dX9_holds_151 ?_
      refine sv_iload_n 4 dX9_holds_152 rfl ?_
      refine sv_icmp_ne (tgt := 160) dX9_holds_153 (by decide) (fun c153 => ?_) (fun c153 => ?_)
      · -- jump
        refine sv_iconst (v := 0) dX9_holds_160 (by decide) ?_
        exact se_zret rfl ⟨rfl, rfl⟩ dX9_holds_161 (by rfl) (by subst c9; rw [if_neg (show ¬ hoP S 4 b c from fun h => c153 h.2)]) (by subst c9; rfl)
      · -- fall
        refine sv_iconst (v := 1) dX9_holds_156 (by decide) ?_
        refine sv_goto (tgt := 161) dX9_holds_157 (by decide) ?_
        exact se_zret rfl ⟨rfl, rfl⟩ dX9_holds_161 (by rfl) (by subst c9; rw [if_pos (show hoP S 4 b c from ⟨c137, c153⟩)]) (by subst c9; rfl)
  · -- case 5
    refine sv_iload_n 3 dX9_holds_162 rfl ?_
    refine sv_if_ne (tgt := 188) dX9_holds_163 (by decide) (fun c163 => ?_) (fun c163 => ?_)
    · -- jump
      refine sv_iconst (v := 0) dX9_holds_188 (by decide) ?_
      exact se_zret rfl ⟨rfl, rfl⟩ dX9_holds_189 (by rfl) (by subst c9; rw [if_neg (show ¬ hoP S 5 b c from (fun h => c163 h.1))]) (by subst c9; rw [hoS, if_neg (by decide), if_neg (by decide), if_pos rfl, if_neg (fun h => c163 h.1)])
    · -- fall
      refine sv_iload_n 4 dX9_holds_166 rfl ?_
      refine cSi1 (e_X9_isCell G _ _ _) ⟨rfl, rfl⟩ (sv_w4 ml_RX9_156 st_X9_isCell in_RX9 cd_X9_isCell) nm_X9_isCell ⟨Nat.le_of_ble_eq_true rfl, Nat.le_of_ble_eq_true rfl⟩ (Nat.le_of_ble_eq_true rfl) ⟨Nat.le_of_ble_eq_true rfl, Nat.le_of_ble_eq_true rfl⟩ dX9_holds_167 ?_
      refine sv_ifeq_b (tgt := 188) dX9_holds_170 (by decide) (fun c170 => ?_) (fun c170 => ?_)
      · -- jump
        refine sv_iconst (v := 0) dX9_holds_188 (by decide) ?_
        exact se_zret rfl ⟨rfl, rfl⟩ dX9_holds_189 (by rfl) (by subst c9; rw [if_neg (show ¬ hoP S 5 b c from (fun h => c170 h.2))]) (by subst c9; rw [hoS, if_neg (by decide), if_neg (by decide), if_pos rfl, if_neg (fun h => c170 h.2)])
      · -- fall
        refine sv_aload_n 1 dX9_holds_173 rfl ?_
        refine sg_9_4 sh_0 fl_RX9_33 dX9_holds_174 ?_
        refine sv_iload_n 4 dX9_holds_177 rfl ?_
        refine cVi1 (e_X6_turnWatch G _ _ _ isState_21 _) ⟨rfl, rfl⟩ (sv_w5 ml_RX9_208 im_X6_turnWatch sl_X6_turnWatch in_RX6 cd_X6_turnWatch) nm_X6_turnWatch ⟨Nat.le_of_ble_eq_true rfl, Nat.le_of_ble_eq_true rfl⟩ rfl (CF_6 isState_21.1) (shp_lt isState_21.1 (by simp)) (Nat.le_of_ble_eq_true rfl) ⟨Nat.le_of_ble_eq_true rfl, Nat.le_of_ble_eq_true rfl⟩ dX9_holds_178 ?_
        refine sv_if_eq (tgt := 188) dX9_holds_181 (by decide) (fun z => absurd z (by decide)) (fun _ => ?_)
        refine sv_iconst (v := 1) dX9_holds_184 (by decide) ?_
        refine sv_goto (tgt := 189) dX9_holds_185 (by decide) ?_
        exact se_zret rfl ⟨rfl, rfl⟩ dX9_holds_189 (by rfl) (by subst c9; rw [if_pos (show hoP S 5 b c from ⟨c163, c170⟩)]) (by subst c9; rw [hoS, if_neg (by decide), if_neg (by decide), if_pos rfl, if_pos ⟨c163, c170⟩])
  · -- case 6
    refine sv_iload_n 3 dX9_holds_190 rfl ?_
    refine sv_if_ne (tgt := 212) dX9_holds_191 (by decide) (fun c191 => ?_) (fun c191 => ?_)
    · -- jump
      refine sv_iconst (v := 0) dX9_holds_212 (by decide) ?_
      exact se_zret rfl ⟨rfl, rfl⟩ dX9_holds_213 (by rfl) (by subst c9; rw [if_neg (show ¬ hoP S 6 b c from fun h => c191 h.1)]) (by subst c9; rfl)
    · -- fall
      refine sv_aload_n 1 dX9_holds_194 rfl ?_
      refine sg_9_4 sh_0 fl_RX9_33 dX9_holds_195 ?_
      refine sg_6_0 isState_21.1 fl_RX9_96 dX9_holds_198 ?_
      refine sg_3_3 isState_21.2.1.1 fl_RX9_105 dX9_holds_201 ?_
      refine sv_iload_n 4 dX9_holds_204 rfl ?_
      refine sv_icmp_ne (tgt := 212) dX9_holds_205 (by decide) (fun c205 => ?_) (fun c205 => ?_)
      · -- jump
        refine sv_iconst (v := 0) dX9_holds_212 (by decide) ?_
        exact se_zret rfl ⟨rfl, rfl⟩ dX9_holds_213 (by rfl) (by subst c9; rw [if_neg (show ¬ hoP S 6 b c from fun h => c205 h.2)]) (by subst c9; rfl)
      · -- fall
        refine sv_iconst (v := 1) dX9_holds_208 (by decide) ?_
        refine sv_goto (tgt := 213) dX9_holds_209 (by decide) ?_
        exact se_zret rfl ⟨rfl, rfl⟩ dX9_holds_213 (by rfl) (by subst c9; rw [if_pos (show hoP S 6 b c from ⟨c191, c205⟩)]) (by subst c9; rfl)
  · -- case 7
    refine sv_aload_n 1 dX9_holds_214 rfl ?_
    refine sg_9_4 sh_0 fl_RX9_33 dX9_holds_215 ?_
    refine sg_6_0 isState_21.1 fl_RX9_96 dX9_holds_218 ?_
    refine sg_3_6 isState_21.2.1.1 fl_RX9_112 dX9_holds_221 ?_
    refine sv_iload 0 dX9_holds_224 rfl ?_
    refine sv_icmp_ne (tgt := 233) dX9_holds_226 (by decide) (fun c226 => ?_) (fun c226 => ?_)
    · -- jump
      refine sv_iconst (v := 0) dX9_holds_233 (by decide) ?_
      exact se_zret rfl ⟨rfl, rfl⟩ dX9_holds_234 (by rfl) (by subst c9; rw [if_neg (show ¬ hoP S 7 b c from c226)]) (by subst c9; rfl)
    · -- fall
      refine sv_iconst (v := 1) dX9_holds_229 (by decide) ?_
      refine sv_goto (tgt := 234) dX9_holds_230 (by decide) ?_
      exact se_zret rfl ⟨rfl, rfl⟩ dX9_holds_234 (by rfl) (by subst c9; rw [if_pos (show hoP S 7 b c from c226)]) (by subst c9; rfl)
  · -- case None
    refine sv_iconst (v := 0) dX9_holds_235 (by decide) ?_
    exact se_zret rfl ⟨rfl, rfl⟩ dX9_holds_236 (by rfl) (by obtain ⟨z1, z2, z3, z4, z5, z6, z7⟩ := c9; simp [hoP, z1, z2, z3, z4, z5, z6, z7]) (by obtain ⟨z1, z2, z3, z4, z5, z6, z7⟩ := c9; rw [hoS, if_neg z1, if_neg z2, if_neg z5])
theorem pfL_row (s r : Nat) (plan d0 : Int32) : ∀ (m : Nat) (S : Nat → Nat → Int32) (k : Nat), (k < s ∨ s + 8 ≤ k) → (pfL s r plan d0 m S).2 k = S k
  | 0, _, _, _ => rfl
  | m + 1, S, k, h => by
    rw [pfL]
    by_cases h1 : raR S s r = -1
    · rw [if_pos h1]
      by_cases h2 : doneP (raS S s r) s plan d0
      · rw [if_pos h2]; exact raS_row h
      · rw [if_neg h2, pfL_row s r plan d0 m _ k h]; exact raS_row h
    · rw [if_neg h1]; exact raS_row h
theorem pfL_wf {s r : Nat} {plan d0 : Int32} (hd : r + 5 ≤ s ∨ s + 8 ≤ r) : ∀ (m : Nat) (S : Nat → Nat → Int32), wfS S s r → wfS (pfL s r plan d0 m S).2 s r
  | 0, _, h => h
  | m + 1, S, h => by
    rw [pfL]
    by_cases h1 : raR S s r = -1
    · rw [if_pos h1]
      by_cases h2 : doneP (raS S s r) s plan d0
      · rw [if_pos h2]; exact raS_wf h hd
      · rw [if_neg h2]; exact pfL_wf hd m _ (raS_wf h hd)
    · rw [if_neg h1]; exact raS_wf h hd
theorem pfF_row {S : Nat → Nat → Int32} {s r k : Nat} {plan : Int32} (h : k < s ∨ s + 8 ≤ k) : (pfF S s r plan).2 k = S k := by
  unfold pfF
  by_cases h1 : allowP S s plan
  · rw [if_pos h1]
    by_cases h2 : S (s + 1) 5 = 0
    · rw [if_pos h2]; exact pfL_row _ _ _ _ _ _ _ h
    · rw [if_neg h2]
  · rw [if_neg h1]
theorem pfF_wf {S : Nat → Nat → Int32} {s r : Nat} {plan : Int32} (hd : r + 5 ≤ s ∨ s + 8 ≤ r) (h : wfS S s r) : wfS (pfF S s r plan).2 s r := by
  unfold pfF
  by_cases h1 : allowP S s plan
  · rw [if_pos h1]
    by_cases h2 : S (s + 1) 5 = 0
    · rw [if_pos h2]; exact pfL_wf hd _ _ h
    · rw [if_neg h2]; exact h
  · rw [if_neg h1]; exact h
theorem addS_row {S : Nat → Nat → Int32} {q p k : Nat} {r how f by_ : Int32} (h : k ≠ q + 1) : addS S q p r how f by_ k = S k := by
  unfold addS; simp only [up2_row h]
theorem hoS_wf {S : Nat → Nat → Int32} {a b c : Int32} (hP : wfP S 3) (hs : wfSt S 21) : wfP (hoS S a b c) 3 ∧ wfSt (hoS S a b c) 21 := by
  have key : wfS S 21 3 := ⟨hs.1, hs.2, hP⟩
  unfold hoS
  by_cases h1 : a = 1
  · rw [if_pos h1]
    by_cases h2 : b = 0 ∧ ¬ 3 < c
    · rw [if_pos h2]
      have := pfF_wf (plan := c) (by decide) key
      exact ⟨this.2.2, this.1, this.2.1⟩
    · rw [if_neg h2]; exact ⟨hP, hs⟩
  · rw [if_neg h1]
    by_cases h2 : a = 2
    · rw [if_pos h2]
      by_cases h3 : hasX S (10 * b + c) ∧ ¬ 3 ≤ S 27 (6 * tn (10 * b + c))
      · rw [if_pos h3]
        unfold tkS
        exact ⟨wfP_row hP (addS_row (by omega)) (addS_row (by omega)) (addS_row (by omega)) (addS_row (by omega)), wfSt_row hs (addS_row (by omega)) (addS_row (by omega))⟩
      · rw [if_neg h3]; exact ⟨hP, hs⟩
    · rw [if_neg h2]
      by_cases h3 : a = 5
      · rw [if_pos h3]
        by_cases h4 : b = 0 ∧ (¬ c < 0 ∧ ¬ 8 ≤ c)
        · rw [if_pos h4]
          refine ⟨wfP_row hP (up2_row (by omega)) (up2_row (by omega)) (up2_row (by omega)) (up2_row (by omega)), ?_, ?_⟩
          · unfold wfM; rw [up2_row (by omega)]; exact hs.1
          · unfold wfK; rw [up2_ne (Or.inr (by decide))]; exact hs.2
        · rw [if_neg h4]; exact ⟨hP, hs⟩
      · rw [if_neg h3]; exact ⟨hP, hs⟩
def jdL (row : Int64) (nn : Nat) : Nat → Nat → (Nat → Nat → Int32) → Int32 × (Nat → Nat → Int32)
  | 0, _, S => (-9, S)
  | m + 1, k, S => if hoP S (saF row (nn - 1 - k) / 100) (saF row (nn - 1 - k) / 10 - saF row (nn - 1 - k) / 10 / 10 * 10) (saF row (nn - 1 - k) - saF row (nn - 1 - k) / 10 * 10) then jdL row nn m (k + 1) (hoS S (saF row (nn - 1 - k) / 100) (saF row (nn - 1 - k) / 10 - saF row (nn - 1 - k) / 10 / 10 * 10) (saF row (nn - 1 - k) - saF row (nn - 1 - k) / 10 * 10)) else (nI k, hoS S (saF row (nn - 1 - k) / 100) (saF row (nn - 1 - k) / 10 - saF row (nn - 1 - k) / 10 / 10 * 10) (saF row (nn - 1 - k) - saF row (nn - 1 - k) / 10 * 10))
def xjudge (S : Nat → Nat → Int32) (q : Int32) (row : Int64) : Int32 × (Nat → Nat → Int32) := if q < 1 ∨ 4 < q ∨ row < 0 ∨ ¬ row < pwL (1000 : Int32).toInt64 (tn q) 1 then (-2, S) else jdL row (tn q) (tn q) 0 (cpR S 21 13 8)
theorem jd_ix {nn k : Nat} (h : k < nn) (hn : nn ≤ 4) : nI nn - 1 - nI k = nI (nn - 1 - k) := by
  obtain ⟨j, rfl⟩ : ∃ j, nn = j + 1 := ⟨nn - 1, by omega⟩
  rw [nI_pred, pk_sub (by omega)]
  rfl
theorem e_saN (G : GT) (S : Nat → Nat → Int32) (L : Nat → Int64) (row : Int64) (x : Int32) (k : Nat) (hx : x = nI k) (hk : k ≤ 100) : sE G yX9_statementAt R_X9_statementAt cX9_statementAt 6 (some .int) [.long row, .int x] S L (some (.int (saF row k))) S L := by subst hx; exact e_X9_statementAt G S L row k hk
set_option maxRecDepth 100000 in
set_option maxHeartbeats 4000000 in
theorem l_X9_judge (G : GT) (L : Nat → Int64) (row : Int64) (nn : Nat) (hn : nn ≤ 4) : ∀ (m : Nat) (S : Nat → Nat → Int32) (k : Nat), nn - k = m → k ≤ nn → wfP S 3 → wfSt S 21 → sv_V G R_X9_judge RX9 "judge" cX9_judge 6 (some .int) (sPo G R_X9_judge (some (.int (jdL row nn m k S).1)) (jdL row nn m k S).2 L) 0 0 197 (CF G S L) 45 [(4, .int (nI k)), (0, .ref (gB G + 0)), (1, .int (nI nn)), (2, .long row)] [] := by
  intro m
  induction m using Nat.strongRecOn
  rename_i m ih
  intro S k hm hk hP hs
  refine sv_iload 0 dX9_judge_45 rfl ?_
  refine sv_iload_n 2 dX9_judge_47 rfl ?_
  refine sv_icmp_ge (tgt := 97) dX9_judge_48 (by decide) (fun c48 => ?_) (fun c48 => ?_)
  · -- jump
    obtain rfl : m = 0 := by have := (nI_leI (by omega) (by omega)).mp c48; omega
    refine sv_bipush (v := (-9)) dX9_judge_97 (by decide) ?_
    exact se_iret rfl ⟨rfl, rfl⟩ dX9_judge_99 rfl rfl
  · -- fall
    have hlt : k < nn := Nat.lt_of_not_le (fun z => c48 (nI_le z (by omega)))
    obtain ⟨m2, rfl⟩ : ∃ j, m = j + 1 := ⟨m - 1, by omega⟩
    rw [jdL]
    refine sv_lload_n 3 dX9_judge_51 rfl ?_
    refine sv_iload_n 2 dX9_judge_52 rfl ?_
    refine sv_iconst (v := 1) dX9_judge_53 (by decide) ?_
    refine sv_isub dX9_judge_54 ?_
    refine sv_iload 0 dX9_judge_55 rfl ?_
    refine sv_isub dX9_judge_57 ?_
    refine cSi2 (e_saN G _ _ row _ (nn - 1 - k) (jd_ix hlt hn) (by omega)) ⟨rfl, rfl⟩ (sv_w4 ml_RX9_254 st_X9_statementAt in_RX9 cd_X9_statementAt) nm_X9_statementAt ⟨Nat.le_of_ble_eq_true rfl, Nat.le_of_ble_eq_true rfl⟩ (Nat.le_of_ble_eq_true rfl) ⟨Nat.le_of_ble_eq_true rfl, Nat.le_of_ble_eq_true rfl⟩ dX9_judge_58 ?_
    refine sv_istore (ls' := [(5, _), (4, _), (0, _), (1, _), (2, _)]) dX9_judge_61 (by decide) rfl ?_
    refine sv_aload_n 2 dX9_judge_63 rfl ?_
    refine sv_iload 0 dX9_judge_64 rfl ?_
    refine sv_bipush (v := 100) dX9_judge_66 (by decide) ?_
    refine sv_idiv dX9_judge_68 (by decide) ?_
    refine sv_iload 0 dX9_judge_69 rfl ?_
    refine sv_bipush (v := 10) dX9_judge_71 (by decide) ?_
    refine sv_idiv dX9_judge_73 (by decide) ?_
    refine sv_bipush (v := 10) dX9_judge_74 (by decide) ?_
    refine sv_irem dX9_judge_76 (by decide) ?_
    refine sv_iload 0 dX9_judge_77 rfl ?_
    refine sv_bipush (v := 10) dX9_judge_79 (by decide) ?_
    refine sv_irem dX9_judge_81 (by decide) ?_
    refine cVi3 (e_X9_holds G _ _ hP hs _ _ _) ⟨rfl, rfl⟩ (sv_w5 ml_RX9_258 im_X9_holds sl_X9_holds in_RX9 cd_X9_holds) nm_X9_holds ⟨Nat.le_of_ble_eq_true rfl, Nat.le_of_ble_eq_true rfl⟩ rfl (CF_9 sh_0) (shp_lt sh_0 (by simp)) (Nat.le_of_ble_eq_true rfl) ⟨Nat.le_of_ble_eq_true rfl, Nat.le_of_ble_eq_true rfl⟩ dX9_judge_82 ?_
    refine sv_ifne_b (tgt := 91) dX9_judge_85 (by decide) (fun c85 => ?_) (fun c85 => ?_)
    · -- jump
      refine sv_iinc 1 (ls' := [(4, _), (5, _), (0, _), (1, _), (2, _)]) dX9_judge_91 rfl (nI_1 _) (by decide) rfl ?_
      refine sv_goto (tgt := 45) dX9_judge_94 (by decide) ?_
      rw [if_pos c85]
      refine sv_locals [0, 2, 3, 4] rfl ?_
      exact ih m2 (by omega) _ (k + 1) (by omega) (by omega) (hoS_wf hP hs).1 (hoS_wf hP hs).2
    · -- fall
      refine sv_iload 1 dX9_judge_88 rfl ?_
      exact se_iret rfl ⟨rfl, rfl⟩ dX9_judge_90 (by rw [if_neg c85]) (by rw [if_neg c85])
set_option maxRecDepth 100000 in
set_option maxHeartbeats 4000000 in
theorem e_X9_judge (G : GT) (S : Nat → Nat → Int32) (L : Nat → Int64) (hW : WX S) (q : Int32) (row : Int64) : sE G yX9_judge R_X9_judge cX9_judge 6 (some .int) [.ref (gB G + 0), .int q, .long row] S L (some (.int (xjudge S q row).1)) (xjudge S q row).2 L := by
  refine sE.of (by decide) (Nat.le_of_ble_eq_true rfl) ?_
  show sv_V G R_X9_judge RX9 "judge" cX9_judge 6 (some .int) (sPo G R_X9_judge (some (.int (xjudge S q row).1)) (xjudge S q row).2 L) 0 0 197 (CF G S L) 0 [(0, .ref (gB G + 0)), (1, .int q), (2, .long row)] []
  refine sv_iload_n 1 dX9_judge_0 rfl ?_
  refine sv_iconst (v := 1) dX9_judge_1 (by decide) ?_
  refine sv_icmp_lt (tgt := 28) dX9_judge_2 (by decide) (fun c2 => ?_) (fun c2 => ?_)
  · -- jump
    refine sv_bipush (v := (-2)) dX9_judge_28 (by decide) ?_
    exact se_iret rfl ⟨rfl, rfl⟩ dX9_judge_30 (by rw [xjudge, if_pos (Or.inl c2)]) (by rw [xjudge, if_pos (Or.inl c2)])
  · -- fall
    refine sv_iload_n 1 dX9_judge_5 rfl ?_
    refine sv_iconst (v := 4) dX9_judge_6 (by decide) ?_
    refine sv_icmp_gt (tgt := 28) dX9_judge_7 (by decide) (fun c7 => ?_) (fun c7 => ?_)
    · -- jump
      refine sv_bipush (v := (-2)) dX9_judge_28 (by decide) ?_
      exact se_iret rfl ⟨rfl, rfl⟩ dX9_judge_30 (by rw [xjudge, if_pos (Or.inr (Or.inl c7))]) (by rw [xjudge, if_pos (Or.inr (Or.inl c7))])
    · -- fall
      refine sv_lload_n 2 dX9_judge_10 rfl ?_
      refine sv_lconst (v := 0) dX9_judge_11 (by decide) ?_
      refine sv_lcmp dX9_judge_12 ?_
      refine sv_if_lt (tgt := 28) dX9_judge_13 (by decide) (fun c13 => ?_) (fun c13 => ?_)
      · -- jump
        refine sv_bipush (v := (-2)) dX9_judge_28 (by decide) ?_
        exact se_iret rfl ⟨rfl, rfl⟩ dX9_judge_30 (by rw [xjudge, if_pos (Or.inr (Or.inr (Or.inl ((lg_cmp_lt _ _).mp c13))))]) (by rw [xjudge, if_pos (Or.inr (Or.inr (Or.inl ((lg_cmp_lt _ _).mp c13))))])
      · -- fall
        have hq0 : ¬ q < 0 := fun h => c2 (Int32.lt_trans h (by decide))
        have hq4 : tn q ≤ 4 := tn_le (M := 4) (k := 4) rfl (by decide) hq0 c7
        refine sv_lload_n 2 dX9_judge_16 rfl ?_
        refine sv_sipush (v := 1000) dX9_judge_17 (by decide) ?_
        refine sv_iload_n 1 dX9_judge_20 rfl ?_
        refine cSi2 (e_X9_power G _ _ _ _ (by omega)) ⟨rfl, rfl⟩ (sv_w4 ml_RX9_247 st_X9_power in_RX9 cd_X9_power) nm_X9_power ⟨Nat.le_of_ble_eq_true rfl, Nat.le_of_ble_eq_true rfl⟩ (Nat.le_of_ble_eq_true rfl) ⟨Nat.le_of_ble_eq_true rfl, Nat.le_of_ble_eq_true rfl⟩ dX9_judge_21 ?_
        refine sv_lcmp dX9_judge_24 ?_
        refine sv_if_lt (tgt := 31) dX9_judge_25 (by decide) (fun c25 => ?_) (fun c25 => ?_)
        · -- jump
          refine sv_aload_n 0 dX9_judge_31 rfl ?_
          refine sg_9_4 sh_0 fl_RX9_33 dX9_judge_32 ?_
          refine sv_aload_n 0 dX9_judge_35 rfl ?_
          refine sg_9_3 sh_0 fl_RX9_29 dX9_judge_36 ?_
          refine cVv1 (e_X6_takeFrom G _ _ _ isState_21 _ isState_13 (by decide) hW.2.2.1.1.2.2) ⟨rfl, rfl⟩ (sv_w5 ml_RX9_251 im_X6_takeFrom sl_X6_takeFrom in_RX6 cd_X6_takeFrom) nm_X6_takeFrom ⟨Nat.le_of_ble_eq_true rfl, Nat.le_of_ble_eq_true rfl⟩ rfl (CF_6 isState_21.1) (shp_lt isState_21.1 (by simp)) (Nat.le_of_ble_eq_true rfl) ⟨Nat.le_of_ble_eq_true rfl, Nat.le_of_ble_eq_true rfl⟩ dX9_judge_39 ?_
          refine sv_iconst (v := 0) dX9_judge_42 (by decide) ?_
          refine sv_istore (ls' := [(4, _), (0, _), (1, _), (2, _)]) dX9_judge_43 (by decide) rfl ?_
          rw [xjudge, if_neg (fun h => h.elim c2 (fun h => h.elim c7 (fun h => h.elim (fun z => c13 ((lg_cmp_lt _ _).mpr z)) (fun z => z ((lg_cmp_lt _ _).mp c25)))))]
          have h := l_X9_judge G L row (tn q) hq4 _ (cpR S 21 13 8) 0 (Nat.sub_zero _) (Nat.zero_le _) (wfP_row hW.2.1 (cpR_row (by omega)) (cpR_row (by omega)) (cpR_row (by omega)) (cpR_row (by omega))) (by
            refine ⟨?_, ?_⟩
            · have := hW.2.2.1.1; unfold wfM at this ⊢; exact this
            · have := hW.2.2.1.2; unfold wfK at this ⊢; exact this)
          rw [show nI (tn q) = q from (nI_self hq0).symm] at h
          exact h
        · -- fall
          refine sv_bipush (v := (-2)) dX9_judge_28 (by decide) ?_
          exact se_iret rfl ⟨rfl, rfl⟩ dX9_judge_30 (by rw [xjudge, if_pos (Or.inr (Or.inr (Or.inr (fun z => c25 ((lg_cmp_lt _ _).mpr z)))))]) (by rw [xjudge, if_pos (Or.inr (Or.inr (Or.inr (fun z => c25 ((lg_cmp_lt _ _).mpr z)))))])
def xsee (S : Nat → Nat → Int32) (v b : Int32) : Int32 × (Nat → Nat → Int32) := if v < 0 ∨ 99 < v ∨ b < 0 ∨ ¬ b ≤ 1 then (-2, S) else if ¬ S 145 2 < 6 then (-4, S) else (S 145 2 + 1, up2 (up2 (up2 S 146 (tn (S 145 2)) v) 147 (tn (S 145 2)) (if b = 1 then 1 else 0)) 145 2 (S 145 2 + 1))
def xunsee (S : Nat → Nat → Int32) : Int32 × (Nat → Nat → Int32) := (S 145 2, up2 S 145 2 0)
theorem tn_1 {x : Int32} (h0 : ¬ x < 0) : nI (tn x + 1) = x + 1 := by rw [← nI_1, ← nI_self h0]
theorem e_seeN (G : GT) (S : Nat → Nat → Int32) (L : Nat → Int64) (h0 : ¬ S 145 2 < 0) (h6 : S 145 2 < 6) (v b : Int32) (hb : b = 0 ∨ b = 1) : sE G yX5_add R_X5_add cX5_add 3 none [.ref (gB G + 145), .int v, .int b] S L none (up2 (up2 (up2 S 146 (tn (S 145 2)) v) 147 (tn (S 145 2)) b) 145 2 (S 145 2 + 1)) L := by
  have h := e_X5_add G S L (tn (S 145 2)) (tn_lt (M := 6) (k := 6) rfl (by decide) h0 (Int32.not_le.mpr h6)) (nI_self h0) v b hb
  rw [tn_1 h0] at h
  exact h
set_option maxRecDepth 100000 in
set_option maxHeartbeats 4000000 in
theorem e_X9_see (G : GT) (S : Nat → Nat → Int32) (L : Nat → Int64) (hW : WX S) (v b : Int32) : sE G yX9_see R_X9_see cX9_see 3 (some .int) [.ref (gB G + 0), .int v, .int b] S L (some (.int (xsee S v b).1)) (xsee S v b).2 L := by
  refine sE.of (by decide) (Nat.le_of_ble_eq_true rfl) ?_
  show sv_V G R_X9_see RX9 "see" cX9_see 3 (some .int) (sPo G R_X9_see (some (.int (xsee S v b).1)) (xsee S v b).2 L) 0 0 197 (CF G S L) 0 [(0, .ref (gB G + 0)), (1, .int v), (2, .int b)] []
  refine sv_iload_n 1 dX9_see_0 rfl ?_
  refine sv_if_lt (tgt := 19) dX9_see_1 (by decide) (fun c1 => ?_) (fun c1 => ?_)
  · -- jump
    refine sv_bipush (v := (-2)) dX9_see_19 (by decide) ?_
    exact se_iret rfl ⟨rfl, rfl⟩ dX9_see_21 (by rw [xsee, if_pos (Or.inl c1)]) (by rw [xsee, if_pos (Or.inl c1)])
  · -- fall
    refine sv_iload_n 1 dX9_see_4 rfl ?_
    refine sv_bipush (v := 99) dX9_see_5 (by decide) ?_
    refine sv_icmp_gt (tgt := 19) dX9_see_7 (by decide) (fun c7 => ?_) (fun c7 => ?_)
    · -- jump
      refine sv_bipush (v := (-2)) dX9_see_19 (by decide) ?_
      exact se_iret rfl ⟨rfl, rfl⟩ dX9_see_21 (by rw [xsee, if_pos (Or.inr (Or.inl c7))]) (by rw [xsee, if_pos (Or.inr (Or.inl c7))])
    · -- fall
      refine sv_iload_n 2 dX9_see_10 rfl ?_
      refine sv_if_lt (tgt := 19) dX9_see_11 (by decide) (fun c11 => ?_) (fun c11 => ?_)
      · -- jump
        refine sv_bipush (v := (-2)) dX9_see_19 (by decide) ?_
        exact se_iret rfl ⟨rfl, rfl⟩ dX9_see_21 (by rw [xsee, if_pos (Or.inr (Or.inr (Or.inl c11)))]) (by rw [xsee, if_pos (Or.inr (Or.inr (Or.inl c11)))])
      · -- fall
        refine sv_iload_n 2 dX9_see_14 rfl ?_
        refine sv_iconst (v := 1) dX9_see_15 (by decide) ?_
        refine sv_icmp_le (tgt := 22) dX9_see_16 (by decide) (fun c16 => ?_) (fun c16 => ?_)
        · -- jump
          refine sv_aload_n 0 dX9_see_22 rfl ?_
          refine sg_9_8 sh_0 fl_RX9_54 dX9_see_23 ?_
          refine sg_5_2 sh_145 fl_RX9_146 dX9_see_26 ?_
          refine sv_bipush (v := 6) dX9_see_29 (by decide) ?_
          refine sv_icmp_lt (tgt := 37) dX9_see_31 (by decide) (fun c31 => ?_) (fun c31 => ?_)
          · -- jump
            refine sv_aload_n 0 dX9_see_37 rfl ?_
            refine sg_9_8 sh_0 fl_RX9_54 dX9_see_38 ?_
            refine sv_iload_n 1 dX9_see_41 rfl ?_
            refine sv_iload_n 2 dX9_see_42 rfl ?_
            refine sv_iconst (v := 1) dX9_see_43 (by decide) ?_
            refine sv_icmp_ne (tgt := 51) dX9_see_44 (by decide) (fun c44 => ?_) (fun c44 => ?_)
            · -- jump
              refine sv_iconst (v := 0) dX9_see_51 (by decide) ?_
              refine cVv2 (e_seeN G _ _ hW.2.2.2.2.2.2.2.1 c31 _ _ (Or.inl rfl)) ⟨rfl, rfl⟩ (sv_w5 ml_RX9_270 im_X5_add sl_X5_add in_RX5 cd_X5_add) nm_X5_add ⟨Nat.le_of_ble_eq_true rfl, Nat.le_of_ble_eq_true rfl⟩ rfl (CF_5 sh_145) (shp_lt sh_145 (by simp)) (Nat.le_of_ble_eq_true rfl) ⟨Nat.le_of_ble_eq_true rfl, Nat.le_of_ble_eq_true rfl⟩ dX9_see_52 ?_
              refine sv_aload_n 0 dX9_see_55 rfl ?_
              refine sg_9_8 sh_0 fl_RX9_54 dX9_see_56 ?_
              refine sg_5_2 sh_145 fl_RX9_146 dX9_see_59 ?_
              refine sv_topE (v' := S 145 2 + 1) (up2_same _ _ _ _) ?_
              exact se_iret rfl ⟨rfl, rfl⟩ dX9_see_62 (by rw [xsee, if_neg (fun h => h.elim c1 (fun h => h.elim c7 (fun h => h.elim c11 (fun z => z c16)))), if_neg (fun h => h c31)]) (by rw [xsee, if_neg (fun h => h.elim c1 (fun h => h.elim c7 (fun h => h.elim c11 (fun z => z c16)))), if_neg (fun h => h c31), if_neg c44])
            · -- fall
              refine sv_iconst (v := 1) dX9_see_47 (by decide) ?_
              refine sv_goto (tgt := 52) dX9_see_48 (by decide) ?_
              refine cVv2 (e_seeN G _ _ hW.2.2.2.2.2.2.2.1 c31 _ _ (Or.inr rfl)) ⟨rfl, rfl⟩ (sv_w5 ml_RX9_270 im_X5_add sl_X5_add in_RX5 cd_X5_add) nm_X5_add ⟨Nat.le_of_ble_eq_true rfl, Nat.le_of_ble_eq_true rfl⟩ rfl (CF_5 sh_145) (shp_lt sh_145 (by simp)) (Nat.le_of_ble_eq_true rfl) ⟨Nat.le_of_ble_eq_true rfl, Nat.le_of_ble_eq_true rfl⟩ dX9_see_52 ?_
              refine sv_aload_n 0 dX9_see_55 rfl ?_
              refine sg_9_8 sh_0 fl_RX9_54 dX9_see_56 ?_
              refine sg_5_2 sh_145 fl_RX9_146 dX9_see_59 ?_
              refine sv_topE (v' := S 145 2 + 1) (up2_same _ _ _ _) ?_
              exact se_iret rfl ⟨rfl, rfl⟩ dX9_see_62 (by rw [xsee, if_neg (fun h => h.elim c1 (fun h => h.elim c7 (fun h => h.elim c11 (fun z => z c16)))), if_neg (fun h => h c31)]) (by rw [xsee, if_neg (fun h => h.elim c1 (fun h => h.elim c7 (fun h => h.elim c11 (fun z => z c16)))), if_neg (fun h => h c31), if_pos c44])
          · -- fall
            refine sv_bipush (v := (-4)) dX9_see_34 (by decide) ?_
            exact se_iret rfl ⟨rfl, rfl⟩ dX9_see_36 (by rw [xsee, if_neg (fun h => h.elim c1 (fun h => h.elim c7 (fun h => h.elim c11 (fun z => z c16)))), if_pos c31]) (by rw [xsee, if_neg (fun h => h.elim c1 (fun h => h.elim c7 (fun h => h.elim c11 (fun z => z c16)))), if_pos c31])
        · -- fall
          refine sv_bipush (v := (-2)) dX9_see_19 (by decide) ?_
          exact se_iret rfl ⟨rfl, rfl⟩ dX9_see_21 (by rw [xsee, if_pos (Or.inr (Or.inr (Or.inr c16)))]) (by rw [xsee, if_pos (Or.inr (Or.inr (Or.inr c16)))])
set_option maxRecDepth 100000 in
set_option maxHeartbeats 4000000 in
theorem e_X9_unsee (G : GT) (S : Nat → Nat → Int32) (L : Nat → Int64)  : sE G yX9_unsee R_X9_unsee cX9_unsee 2 (some .int) [.ref (gB G + 0)] S L (some (.int (xunsee S).1)) (xunsee S).2 L := by
  refine sE.of (by decide) (Nat.le_of_ble_eq_true rfl) ?_
  show sv_V G R_X9_unsee RX9 "unsee" cX9_unsee 2 (some .int) (sPo G R_X9_unsee (some (.int (xunsee S).1)) (xunsee S).2 L) 0 0 197 (CF G S L) 0 [(0, .ref (gB G + 0))] []
  refine sv_aload_n 0 dX9_unsee_0 rfl ?_
  refine sg_9_8 sh_0 fl_RX9_54 dX9_unsee_1 ?_
  refine sg_5_2 sh_145 fl_RX9_146 dX9_unsee_4 ?_
  refine sv_istore_n (ls' := [(1, _), (0, _)]) dX9_unsee_7 (by decide) rfl ?_
  refine sv_aload_n 1 dX9_unsee_8 rfl ?_
  refine sg_9_8 sh_0 fl_RX9_54 dX9_unsee_9 ?_
  refine sv_iconst (v := 0) dX9_unsee_12 (by decide) ?_
  refine sp_5_2 sh_145 fl_RX9_146 dX9_unsee_13 ?_
  refine sv_iload_n 0 dX9_unsee_16 rfl ?_
  exact se_iret rfl ⟨rfl, rfl⟩ dX9_unsee_17 rfl rfl
