set_option maxRecDepth 100000 in
set_option maxHeartbeats 4000000 in
theorem sw_X10_aside_40 {G : GT} {R : Room} {own nm : String} {nL : Nat} {rt : Option FieldType} {Post : Option Value → Nat → Nat → Nat → (Nat → va_E) → Prop} {cells slots n : Nat} {f : Nat → va_E} {ls : List (Nat × Value)} {st : List Value} {x : Int32} (d : decode cX10_aside 40 = .ok (.tableswitch 125 0 3 #[32, 54, 73, 87], 32)) (k0 : x = 0 → sv_V G R own nm cX10_aside nL rt Post cells slots n f 72 ls st) (k1 : x = 1 → sv_V G R own nm cX10_aside nL rt Post cells slots n f 94 ls st) (k2 : x = 2 → sv_V G R own nm cX10_aside nL rt Post cells slots n f 113 ls st) (k3 : x = 3 → sv_V G R own nm cX10_aside nL rt Post cells slots n f 127 ls st) (kd : ¬ x = 0 ∧ ¬ x = 1 ∧ ¬ x = 2 ∧ ¬ x = 3 → sv_V G R own nm cX10_aside nL rt Post cells slots n f 165 ls st) : sv_V G R own nm cX10_aside nL rt Post cells slots n f 40 ls (.int x :: st) := by
  by_cases h0 : x = 0
  · subst h0; exact sv_tableIn (tgt := 72) (off := 32) d (by decide) (by decide) (by decide) (by decide) (k0 rfl)
  by_cases h1 : x = 1
  · subst h1; exact sv_tableIn (tgt := 94) (off := 54) d (by decide) (by decide) (by decide) (by decide) (k1 rfl)
  by_cases h2 : x = 2
  · subst h2; exact sv_tableIn (tgt := 113) (off := 73) d (by decide) (by decide) (by decide) (by decide) (k2 rfl)
  by_cases h3 : x = 3
  · subst h3; exact sv_tableIn (tgt := 127) (off := 87) d (by decide) (by decide) (by decide) (by decide) (k3 rfl)
  refine sv_tableOut (tgt := 165) d ?_ (by decide) (kd ⟨h0, h1, h2, h3⟩)
  have q0 := sw_ne h0 (by decide : (0 : Int32).toInt = 0)
  have q1 := sw_ne h1 (by decide : (1 : Int32).toInt = 1)
  have q2 := sw_ne h2 (by decide : (2 : Int32).toInt = 2)
  have q3 := sw_ne h3 (by decide : (3 : Int32).toInt = 3)
  omega
set_option maxRecDepth 100000 in
set_option maxHeartbeats 4000000 in
theorem sw_X10_free_32 {G : GT} {R : Room} {own nm : String} {nL : Nat} {rt : Option FieldType} {Post : Option Value → Nat → Nat → Nat → (Nat → va_E) → Prop} {cells slots n : Nat} {f : Nat → va_E} {ls : List (Nat × Value)} {st : List Value} {x : Int32} (d : decode cX10_free 32 = .ok (.tableswitch 43 0 2 #[28, 30, 35], 28)) (k0 : x = 0 → sv_V G R own nm cX10_free nL rt Post cells slots n f 60 ls st) (k1 : x = 1 → sv_V G R own nm cX10_free nL rt Post cells slots n f 62 ls st) (k2 : x = 2 → sv_V G R own nm cX10_free nL rt Post cells slots n f 67 ls st) (kd : ¬ x = 0 ∧ ¬ x = 1 ∧ ¬ x = 2 → sv_V G R own nm cX10_free nL rt Post cells slots n f 75 ls st) : sv_V G R own nm cX10_free nL rt Post cells slots n f 32 ls (.int x :: st) := by
  by_cases h0 : x = 0
  · subst h0; exact sv_tableIn (tgt := 60) (off := 28) d (by decide) (by decide) (by decide) (by decide) (k0 rfl)
  by_cases h1 : x = 1
  · subst h1; exact sv_tableIn (tgt := 62) (off := 30) d (by decide) (by decide) (by decide) (by decide) (k1 rfl)
  by_cases h2 : x = 2
  · subst h2; exact sv_tableIn (tgt := 67) (off := 35) d (by decide) (by decide) (by decide) (by decide) (k2 rfl)
  refine sv_tableOut (tgt := 75) d ?_ (by decide) (kd ⟨h0, h1, h2⟩)
  have q0 := sw_ne h0 (by decide : (0 : Int32).toInt = 0)
  have q1 := sw_ne h1 (by decide : (1 : Int32).toInt = 1)
  have q2 := sw_ne h2 (by decide : (2 : Int32).toInt = 2)
  omega
set_option maxRecDepth 100000 in
set_option maxHeartbeats 4000000 in
theorem sw_X10_judged_9 {G : GT} {R : Room} {own nm : String} {nL : Nat} {rt : Option FieldType} {Post : Option Value → Nat → Nat → Nat → (Nat → va_E) → Prop} {cells slots n : Nat} {f : Nat → va_E} {ls : List (Nat × Value)} {st : List Value} {x : Int32} (d : decode cX10_judged 9 = .ok (.tableswitch 232 1 7 #[43, 86, 127, 145, 166, 193, 214], 43)) (k0 : x = 1 → sv_V G R own nm cX10_judged nL rt Post cells slots n f 52 ls st) (k1 : x = 2 → sv_V G R own nm cX10_judged nL rt Post cells slots n f 95 ls st) (k2 : x = 3 → sv_V G R own nm cX10_judged nL rt Post cells slots n f 136 ls st) (k3 : x = 4 → sv_V G R own nm cX10_judged nL rt Post cells slots n f 154 ls st) (k4 : x = 5 → sv_V G R own nm cX10_judged nL rt Post cells slots n f 175 ls st) (k5 : x = 6 → sv_V G R own nm cX10_judged nL rt Post cells slots n f 202 ls st) (k6 : x = 7 → sv_V G R own nm cX10_judged nL rt Post cells slots n f 223 ls st) (kd : ¬ x = 1 ∧ ¬ x = 2 ∧ ¬ x = 3 ∧ ¬ x = 4 ∧ ¬ x = 5 ∧ ¬ x = 6 ∧ ¬ x = 7 → sv_V G R own nm cX10_judged nL rt Post cells slots n f 241 ls st) : sv_V G R own nm cX10_judged nL rt Post cells slots n f 9 ls (.int x :: st) := by
  by_cases h0 : x = 1
  · subst h0; exact sv_tableIn (tgt := 52) (off := 43) d (by decide) (by decide) (by decide) (by decide) (k0 rfl)
  by_cases h1 : x = 2
  · subst h1; exact sv_tableIn (tgt := 95) (off := 86) d (by decide) (by decide) (by decide) (by decide) (k1 rfl)
  by_cases h2 : x = 3
  · subst h2; exact sv_tableIn (tgt := 136) (off := 127) d (by decide) (by decide) (by decide) (by decide) (k2 rfl)
  by_cases h3 : x = 4
  · subst h3; exact sv_tableIn (tgt := 154) (off := 145) d (by decide) (by decide) (by decide) (by decide) (k3 rfl)
  by_cases h4 : x = 5
  · subst h4; exact sv_tableIn (tgt := 175) (off := 166) d (by decide) (by decide) (by decide) (by decide) (k4 rfl)
  by_cases h5 : x = 6
  · subst h5; exact sv_tableIn (tgt := 202) (off := 193) d (by decide) (by decide) (by decide) (by decide) (k5 rfl)
  by_cases h6 : x = 7
  · subst h6; exact sv_tableIn (tgt := 223) (off := 214) d (by decide) (by decide) (by decide) (by decide) (k6 rfl)
  refine sv_tableOut (tgt := 241) d ?_ (by decide) (kd ⟨h0, h1, h2, h3, h4, h5, h6⟩)
  have q0 := sw_ne h0 (by decide : (1 : Int32).toInt = 1)
  have q1 := sw_ne h1 (by decide : (2 : Int32).toInt = 2)
  have q2 := sw_ne h2 (by decide : (3 : Int32).toInt = 3)
  have q3 := sw_ne h3 (by decide : (4 : Int32).toInt = 4)
  have q4 := sw_ne h4 (by decide : (5 : Int32).toInt = 5)
  have q5 := sw_ne h5 (by decide : (6 : Int32).toInt = 6)
  have q6 := sw_ne h6 (by decide : (7 : Int32).toInt = 7)
  omega
/-- the trial row is the row that stands -/
def trS (S : Nat → Nat → Int32) : Nat → Nat → Int32 := va_up S 185 (S 184)
theorem trS_ne {S : Nat → Nat → Int32} {k : Nat} (h : k ≠ 185) : trS S k = S k := by unfold trS va_up; rw [if_neg h]
theorem trS_185 (S : Nat → Nat → Int32) : trS S 185 = S 184 := by unfold trS va_up; rw [if_pos rfl]
theorem trS_wfY {S : Nat → Nat → Int32} (h : wfY S) : wfY (trS S) := wfY_of (by rw [trS_ne (by decide)]) (fun k hk => trS_ne (by omega)) h
theorem trS_wfR {S : Nat → Nat → Int32} (h : wfR S 184) : wfR (trS S) 185 := by unfold wfR; rw [trS_185]; exact h
def ycoF (k : Int32) : Int32 := if k = 7 then 2 else if k = 8 ∨ k = 11 then 0 else if k = 9 then 5 else 1
def yaside (S : Nat → Nat → Int32) (a w : Int32) : Int32 × (Nat → Nat → Int32) := if hasY S a then (if w = 0 then (if dfP (trS S) 185 a then (-9, trS S) else (ypR (trS S) 185 (tn a) 20, ypS (trS S) 185 (tn a) 20)) else if w = 1 then (if S 181 (tn a) = 7 ∧ ¬ dfP (trS S) 185 a then (21, trS S) else (-9, trS S)) else if w = 2 then (if S 181 (tn a) = 9 then (21, trS S) else (-9, trS S)) else if w = 3 then (ycoF (S 181 (tn a)), trS S) else (-2, trS S)) else (-1, S)
set_option maxRecDepth 100000 in
set_option maxHeartbeats 4000000 in
theorem e_X10_aside (G : GT) (S : Nat → Nat → Int32) (L : Nat → Int64) (hY : wfY S) (hR : wfR S 184) (a w : Int32) : sE G yX10_aside R_X10_aside cX10_aside 5 (some .int) [.ref (gB G + 179), .int a, .int w] S L (some (.int (yaside S a w).1)) (yaside S a w).2 L := by
  refine sE.of (by decide) (Nat.le_of_ble_eq_true rfl) ?_
  show sv_V G R_X10_aside RX10 "aside" cX10_aside 5 (some .int) (sPo G R_X10_aside (some (.int (yaside S a w).1)) (yaside S a w).2 L) 0 0 197 (CF G S L) 0 [(0, .ref (gB G + 179)), (1, .int a), (2, .int w)] []
  refine sv_aload_n 0 dX10_aside_0 rfl ?_
  refine sv_iload_n 1 dX10_aside_1 rfl ?_
  refine cVi1 (e_X10_isPlace G _ _ hY.1 _) ⟨rfl, rfl⟩ (sv_w5 ml_RX10_135 im_X10_isPlace sl_X10_isPlace in_RX10 cd_X10_isPlace) nm_X10_isPlace ⟨Nat.le_of_ble_eq_true rfl, Nat.le_of_ble_eq_true rfl⟩ rfl (CF_10 sh_179) (shp_lt sh_179 (by simp)) (Nat.le_of_ble_eq_true rfl) ⟨Nat.le_of_ble_eq_true rfl, Nat.le_of_ble_eq_true rfl⟩ dX10_aside_2 ?_
  refine sv_ifne_b (tgt := 10) dX10_aside_5 (by decide) (fun c5 => ?_) (fun c5 => ?_)
  · -- jump
    refine sv_aload_n 0 dX10_aside_10 rfl ?_
    refine sg_10_3 sh_179 fl_RX10_13 dX10_aside_11 ?_
    refine sv_iload_n 1 dX10_aside_14 rfl ?_
    refine sx_ild sh_181 (tn a) (nI_self c5.1) (hY16 hY.1 c5).2 dX10_aside_15 ?_
    refine sv_istore_n (ls' := [(3, _), (0, _), (1, _), (2, _)]) dX10_aside_16 (by decide) rfl ?_
    refine sv_aload_n 1 dX10_aside_17 rfl ?_
    refine sg_10_6 sh_179 fl_RX10_22 dX10_aside_18 ?_
    refine sv_aload_n 1 dX10_aside_21 rfl ?_
    refine sg_10_7 sh_179 fl_RX10_25 dX10_aside_22 ?_
    refine cSv2 (e_X10_copyRow G _ _ _ sh_184 _ sh_185 (by decide)) ⟨rfl, rfl⟩ (sv_w4 ml_RX10_218 st_X10_copyRow in_RX10 cd_X10_copyRow) nm_X10_copyRow ⟨Nat.le_of_ble_eq_true rfl, Nat.le_of_ble_eq_true rfl⟩ (Nat.le_of_ble_eq_true rfl) ⟨Nat.le_of_ble_eq_true rfl, Nat.le_of_ble_eq_true rfl⟩ dX10_aside_25 ?_
    show sv_V _ _ _ _ _ _ _ _ _ _ _ (CF G (trS S) L) _ _ _
    refine sv_aload_n 1 dX10_aside_28 rfl ?_
    refine sv_aload_n 1 dX10_aside_29 rfl ?_
    refine sg_10_7 sh_179 fl_RX10_25 dX10_aside_30 ?_
    refine sv_iload_n 2 dX10_aside_33 rfl ?_
    refine cVi2 (e_X10_doesFault G _ _ (trS_wfY hY).1 _ sh_185 _) ⟨rfl, rfl⟩ (sv_w5 ml_RX10_138 im_X10_doesFault sl_X10_doesFault in_RX10 cd_X10_doesFault) nm_X10_doesFault ⟨Nat.le_of_ble_eq_true rfl, Nat.le_of_ble_eq_true rfl⟩ rfl (CF_10 sh_179) (shp_lt sh_179 (by simp)) (Nat.le_of_ble_eq_true rfl) ⟨Nat.le_of_ble_eq_true rfl, Nat.le_of_ble_eq_true rfl⟩ dX10_aside_34 ?_
    refine sv_istore (ls' := [(4, _), (3, _), (0, _), (1, _), (2, _)]) dX10_aside_37 (by decide) rfl ?_
    refine sv_iload_n 4 dX10_aside_39 rfl ?_
    refine sw_X10_aside_40 dX10_aside_40 (fun c40 => ?_) (fun c40 => ?_) (fun c40 => ?_) (fun c40 => ?_) (fun c40 => ?_)
    · -- case 0
      refine sv_iload 0 dX10_aside_72 rfl ?_
      refine sv_ifeq_b (tgt := 82) dX10_aside_74 (by decide) (fun c74 => ?_) (fun c74 => ?_)
      · -- jump
        refine sv_aload_n 2 dX10_aside_82 rfl ?_
        refine sv_aload_n 2 dX10_aside_83 rfl ?_
        refine sg_10_7 sh_179 fl_RX10_25 dX10_aside_84 ?_
        refine sv_iload_n 3 dX10_aside_87 rfl ?_
        refine sv_bipush (v := 20) dX10_aside_88 (by decide) ?_
        refine cVi3 (e_X10_perform G _ _ (trS_wfY hY) _ sh_185 (by decide) (trS_wfR hR) _ _ c74) ⟨rfl, rfl⟩ (sv_w5 ml_RX10_142 im_X10_perform sl_X10_perform in_RX10 cd_X10_perform) nm_X10_perform ⟨Nat.le_of_ble_eq_true rfl, Nat.le_of_ble_eq_true rfl⟩ rfl (CF_10 sh_179) (shp_lt sh_179 (by simp)) (Nat.le_of_ble_eq_true rfl) ⟨Nat.le_of_ble_eq_true rfl, Nat.le_of_ble_eq_true rfl⟩ dX10_aside_90 ?_
        exact se_iret rfl ⟨rfl, rfl⟩ dX10_aside_93 (by rw [yaside, if_pos c5, if_pos c40, if_neg c74]) (by rw [yaside, if_pos c5, if_pos c40, if_neg c74])
      · -- fall
        refine sv_bipush (v := (-9)) dX10_aside_77 (by decide) ?_
        refine sv_goto (tgt := 93) dX10_aside_79 (by decide) ?_
        exact se_iret rfl ⟨rfl, rfl⟩ dX10_aside_93 (by rw [yaside, if_pos c5, if_pos c40, if_pos c74]) (by rw [yaside, if_pos c5, if_pos c40, if_pos c74])
    · -- case 1
      refine sv_iload_n 1 dX10_aside_94 rfl ?_
      refine sv_bipush (v := 7) dX10_aside_95 (by decide) ?_
      refine sv_icmp_ne (tgt := 110) dX10_aside_97 (by decide) (fun c97 => ?_) (fun c97 => ?_)
      · -- jump
        refine sv_bipush (v := (-9)) dX10_aside_110 (by decide) ?_
        exact se_iret rfl ⟨rfl, rfl⟩ dX10_aside_112 (by rw [yaside, if_pos c5, if_neg (by rw [c40]; decide), if_pos c40, if_neg (fun h => c97 h.1)]) (by rw [yaside, if_pos c5, if_neg (by rw [c40]; decide), if_pos c40, if_neg (fun h => c97 h.1)])
      · -- fall
        refine sv_iload 0 dX10_aside_100 rfl ?_
        refine sv_ifne_b (tgt := 110) dX10_aside_102 (by decide) (fun c102 => ?_) (fun c102 => ?_)
        · -- jump
          refine sv_bipush (v := (-9)) dX10_aside_110 (by decide) ?_
          exact se_iret rfl ⟨rfl, rfl⟩ dX10_aside_112 (by rw [yaside, if_pos c5, if_neg (by rw [c40]; decide), if_pos c40, if_neg (fun h => h.2 c102)]) (by rw [yaside, if_pos c5, if_neg (by rw [c40]; decide), if_pos c40, if_neg (fun h => h.2 c102)])
        · -- fall
          refine sv_bipush (v := 21) dX10_aside_105 (by decide) ?_
          refine sv_goto (tgt := 112) dX10_aside_107 (by decide) ?_
          exact se_iret rfl ⟨rfl, rfl⟩ dX10_aside_112 (by rw [yaside, if_pos c5, if_neg (by rw [c40]; decide), if_pos c40, if_pos ⟨c97, c102⟩]) (by rw [yaside, if_pos c5, if_neg (by rw [c40]; decide), if_pos c40, if_pos ⟨c97, c102⟩])
    · -- case 2
      refine sv_iload_n 1 dX10_aside_113 rfl ?_
      refine sv_bipush (v := 9) dX10_aside_114 (by decide) ?_
      refine sv_icmp_ne (tgt := 124) dX10_aside_116 (by decide) (fun c116 => ?_) (fun c116 => ?_)
      · -- jump
        refine sv_bipush (v := (-9)) dX10_aside_124 (by decide) ?_
        exact se_iret rfl ⟨rfl, rfl⟩ dX10_aside_126 (by rw [yaside, if_pos c5, if_neg (by rw [c40]; decide), if_neg (by rw [c40]; decide), if_pos c40, if_neg c116]) (by rw [yaside, if_pos c5, if_neg (by rw [c40]; decide), if_neg (by rw [c40]; decide), if_pos c40, if_neg c116])
      · -- fall
        refine sv_bipush (v := 21) dX10_aside_119 (by decide) ?_
        refine sv_goto (tgt := 126) dX10_aside_121 (by decide) ?_
        exact se_iret rfl ⟨rfl, rfl⟩ dX10_aside_126 (by rw [yaside, if_pos c5, if_neg (by rw [c40]; decide), if_neg (by rw [c40]; decide), if_pos c40, if_pos c116]) (by rw [yaside, if_pos c5, if_neg (by rw [c40]; decide), if_neg (by rw [c40]; decide), if_pos c40, if_pos c116])
    · -- case 3
      refine sv_iload_n 1 dX10_aside_127 rfl ?_
      refine sv_bipush (v := 7) dX10_aside_128 (by decide) ?_
      refine sv_icmp_ne (tgt := 137) dX10_aside_130 (by decide) (fun c130 => ?_) (fun c130 => ?_)
      · -- jump
        refine sv_iload_n 1 dX10_aside_137 rfl ?_
        refine sv_bipush (v := 8) dX10_aside_138 (by decide) ?_
        refine sv_icmp_eq (tgt := 149) dX10_aside_140 (by decide) (fun c140 => ?_) (fun c140 => ?_)
        · -- jump
          refine sv_iconst (v := 0) dX10_aside_149 (by decide) ?_
          refine sv_goto (tgt := 164) dX10_aside_150 (by decide) ?_
          exact se_iret rfl ⟨rfl, rfl⟩ dX10_aside_164 (by rw [yaside, if_pos c5, if_neg (by rw [c40]; decide), if_neg (by rw [c40]; decide), if_neg (by rw [c40]; decide), if_pos c40]; dsimp only; rw [ycoF, if_neg c130, if_pos (Or.inl c140)]) (by rw [yaside, if_pos c5, if_neg (by rw [c40]; decide), if_neg (by rw [c40]; decide), if_neg (by rw [c40]; decide), if_pos c40])
        · -- fall
          refine sv_iload_n 1 dX10_aside_143 rfl ?_
          refine sv_bipush (v := 11) dX10_aside_144 (by decide) ?_
          refine sv_icmp_ne (tgt := 153) dX10_aside_146 (by decide) (fun c146 => ?_) (fun c146 => ?_)
          · -- jump
            refine sv_iload_n 1 dX10_aside_153 rfl ?_
            refine sv_bipush (v := 9) dX10_aside_154 (by decide) ?_
            refine sv_icmp_ne (tgt := 163) dX10_aside_156 (by decide) (fun c156 => ?_) (fun c156 => ?_)
            · -- jump
              refine sv_iconst (v := 1) dX10_aside_163 (by decide) ?_
              exact se_iret rfl ⟨rfl, rfl⟩ dX10_aside_164 (by rw [yaside, if_pos c5, if_neg (by rw [c40]; decide), if_neg (by rw [c40]; decide), if_neg (by rw [c40]; decide), if_pos c40]; dsimp only; rw [ycoF, if_neg c130, if_neg (fun h => h.elim c140 c146), if_neg c156]) (by rw [yaside, if_pos c5, if_neg (by rw [c40]; decide), if_neg (by rw [c40]; decide), if_neg (by rw [c40]; decide), if_pos c40])
            · -- fall
              refine sv_iconst (v := 5) dX10_aside_159 (by decide) ?_
              refine sv_goto (tgt := 164) dX10_aside_160 (by decide) ?_
              exact se_iret rfl ⟨rfl, rfl⟩ dX10_aside_164 (by rw [yaside, if_pos c5, if_neg (by rw [c40]; decide), if_neg (by rw [c40]; decide), if_neg (by rw [c40]; decide), if_pos c40]; dsimp only; rw [ycoF, if_neg c130, if_neg (fun h => h.elim c140 c146), if_pos c156]) (by rw [yaside, if_pos c5, if_neg (by rw [c40]; decide), if_neg (by rw [c40]; decide), if_neg (by rw [c40]; decide), if_pos c40])
          · -- fall
            refine sv_iconst (v := 0) dX10_aside_149 (by decide) ?_
            refine sv_goto (tgt := 164) dX10_aside_150 (by decide) ?_
            exact se_iret rfl ⟨rfl, rfl⟩ dX10_aside_164 (by rw [yaside, if_pos c5, if_neg (by rw [c40]; decide), if_neg (by rw [c40]; decide), if_neg (by rw [c40]; decide), if_pos c40]; dsimp only; rw [ycoF, if_neg c130, if_pos (Or.inr c146)]) (by rw [yaside, if_pos c5, if_neg (by rw [c40]; decide), if_neg (by rw [c40]; decide), if_neg (by rw [c40]; decide), if_pos c40])
      · -- fall
        refine sv_iconst (v := 2) dX10_aside_133 (by decide) ?_
        refine sv_goto (tgt := 164) dX10_aside_134 (by decide) ?_
        exact se_iret rfl ⟨rfl, rfl⟩ dX10_aside_164 (by rw [yaside, if_pos c5, if_neg (by rw [c40]; decide), if_neg (by rw [c40]; decide), if_neg (by rw [c40]; decide), if_pos c40]; dsimp only; rw [ycoF, if_pos c130]) (by rw [yaside, if_pos c5, if_neg (by rw [c40]; decide), if_neg (by rw [c40]; decide), if_neg (by rw [c40]; decide), if_pos c40])
    · -- case None
      refine sv_bipush (v := (-2)) dX10_aside_165 (by decide) ?_
      exact se_iret rfl ⟨rfl, rfl⟩ dX10_aside_167 (by obtain ⟨z0, z1, z2, z3⟩ := c40; rw [yaside, if_pos c5, if_neg z0, if_neg z1, if_neg z2, if_neg z3]) (by obtain ⟨z0, z1, z2, z3⟩ := c40; rw [yaside, if_pos c5, if_neg z0, if_neg z1, if_neg z2, if_neg z3])
  · -- fall
    refine sv_iconst (v := (-1)) dX10_aside_8 (by decide) ?_
    exact se_iret rfl ⟨rfl, rfl⟩ dX10_aside_9 (by rw [yaside, if_neg c5]) (by rw [yaside, if_neg c5])
def yfree (S : Nat → Nat → Int32) (w : Int32) : Int32 × (Nat → Nat → Int32) := if inP w 0 3 then (if w = 0 then (foF (trS S)).1 else if w = 1 then (foF (trS S)).2 179 18 else if w = 2 then (foF (trS S)).2 185 23 else (foF (trS S)).2 185 24, (foF (trS S)).2) else (-2, S)
set_option maxRecDepth 100000 in
set_option maxHeartbeats 4000000 in
theorem e_X10_free (G : GT) (S : Nat → Nat → Int32) (L : Nat → Int64) (hY : wfY S) (hR : wfR S 184) (w : Int32) : sE G yX10_free R_X10_free cX10_free 3 (some .int) [.ref (gB G + 179), .int w] S L (some (.int (yfree S w).1)) (yfree S w).2 L := by
  refine sE.of (by decide) (Nat.le_of_ble_eq_true rfl) ?_
  show sv_V G R_X10_free RX10 "free" cX10_free 3 (some .int) (sPo G R_X10_free (some (.int (yfree S w).1)) (yfree S w).2 L) 0 0 197 (CF G S L) 0 [(0, .ref (gB G + 179)), (1, .int w)] []
  refine sv_iload_n 1 dX10_free_0 rfl ?_
  refine sv_i2l dX10_free_1 rfl ?_
  refine sv_lconst (v := 0) dX10_free_2 (by decide) ?_
  refine sv_ldc2 ck_RX10_107 dX10_free_3 ?_
  refine cSi3 (e_inI G _ _ w 0 3 _ _ _ rfl (by decide) (by decide)) ⟨rfl, rfl⟩ (sv_w4 ml_RX10_73 st_X10_in in_RX10 cd_X10_in) nm_X10_in ⟨Nat.le_of_ble_eq_true rfl, Nat.le_of_ble_eq_true rfl⟩ (Nat.le_of_ble_eq_true rfl) ⟨Nat.le_of_ble_eq_true rfl, Nat.le_of_ble_eq_true rfl⟩ dX10_free_6 ?_
  refine sv_ifne_b (tgt := 15) dX10_free_9 (by decide) (fun c9 => ?_) (fun c9 => ?_)
  · -- jump
    refine sv_aload_n 0 dX10_free_15 rfl ?_
    refine sg_10_6 sh_179 fl_RX10_22 dX10_free_16 ?_
    refine sv_aload_n 0 dX10_free_19 rfl ?_
    refine sg_10_7 sh_179 fl_RX10_25 dX10_free_20 ?_
    refine cSv2 (e_X10_copyRow G _ _ _ sh_184 _ sh_185 (by decide)) ⟨rfl, rfl⟩ (sv_w4 ml_RX10_218 st_X10_copyRow in_RX10 cd_X10_copyRow) nm_X10_copyRow ⟨Nat.le_of_ble_eq_true rfl, Nat.le_of_ble_eq_true rfl⟩ (Nat.le_of_ble_eq_true rfl) ⟨Nat.le_of_ble_eq_true rfl, Nat.le_of_ble_eq_true rfl⟩ dX10_free_23 ?_
    show sv_V _ _ _ _ _ _ _ _ _ _ _ (CF G (trS S) L) _ _ _
    refine sv_aload_n 0 dX10_free_26 rfl ?_
    refine cVi0 (e_X10_freeOn G _ _ (trS_wfY hY) (trS_wfR hR)) ⟨rfl, rfl⟩ (sv_w5 ml_RX10_222 im_X10_freeOn sl_X10_freeOn in_RX10 cd_X10_freeOn) nm_X10_freeOn ⟨Nat.le_of_ble_eq_true rfl, Nat.le_of_ble_eq_true rfl⟩ rfl (CF_10 sh_179) (shp_lt sh_179 (by simp)) (Nat.le_of_ble_eq_true rfl) ⟨Nat.le_of_ble_eq_true rfl, Nat.le_of_ble_eq_true rfl⟩ dX10_free_27 ?_
    refine sv_istore_n (ls' := [(2, _), (0, _), (1, _)]) dX10_free_30 (by decide) rfl ?_
    refine sv_iload_n 2 dX10_free_31 rfl ?_
    refine sw_X10_free_32 dX10_free_32 (fun c32 => ?_) (fun c32 => ?_) (fun c32 => ?_) (fun c32 => ?_)
    · -- case 0
      refine sv_iload_n 0 dX10_free_60 rfl ?_
      exact se_iret rfl ⟨rfl, rfl⟩ dX10_free_61 (by rw [yfree, if_pos c9]; dsimp only; rw [if_pos c32]) (by rw [yfree, if_pos c9])
    · -- case 1
      refine sv_aload_n 1 dX10_free_62 rfl ?_
      refine sg_10_18 sh_179 fl_RX10_186 dX10_free_63 ?_
      exact se_iret rfl ⟨rfl, rfl⟩ dX10_free_66 (by rw [yfree, if_pos c9]; dsimp only; rw [if_neg (by rw [c32]; decide), if_pos c32]) (by rw [yfree, if_pos c9])
    · -- case 2
      refine sv_aload_n 1 dX10_free_67 rfl ?_
      refine sg_10_7 sh_179 fl_RX10_25 dX10_free_68 ?_
      refine sv_bipush (v := 23) dX10_free_71 (by decide) ?_
      refine sx_ild sh_185 23 (by decide) (by decide) dX10_free_73 ?_
      exact se_iret rfl ⟨rfl, rfl⟩ dX10_free_74 (by rw [yfree, if_pos c9]; dsimp only; rw [if_neg (by rw [c32]; decide), if_neg (by rw [c32]; decide), if_pos c32]) (by rw [yfree, if_pos c9])
    · -- case None
      refine sv_aload_n 1 dX10_free_75 rfl ?_
      refine sg_10_7 sh_179 fl_RX10_25 dX10_free_76 ?_
      refine sv_bipush (v := 24) dX10_free_79 (by decide) ?_
      refine sx_ild sh_185 24 (by decide) (by decide) dX10_free_81 ?_
      exact se_iret rfl ⟨rfl, rfl⟩ dX10_free_82 (by obtain ⟨z0, z1, z2⟩ := c32; rw [yfree, if_pos c9]; dsimp only; rw [if_neg z0, if_neg z1, if_neg z2]) (by rw [yfree, if_pos c9])
  · -- fall
    refine sv_bipush (v := (-2)) dX10_free_12 (by decide) ?_
    exact se_iret rfl ⟨rfl, rfl⟩ dX10_free_14 (by rw [yfree, if_neg c9]) (by rw [yfree, if_neg c9])
abbrev jgA (S : Nat → Nat → Int32) (b c : Int32) : Prop := b = 0 ∧ c < 4 ∧ ¬ (c = 2 ∧ ¬ 0 < S 185 20)
def jgR (S : Nat → Nat → Int32) (a b c : Int32) : Int32 := if a = 1 then (if jgA S b c then (if (poF S 185 c).1 ≤ 1 then 1 else 0) else 0) else if a = 2 then (if hasY S (10 * b + c) ∧ ¬ S 185 (26 + tn (10 * b + c)) = 3 then 1 else 0) else if a = 3 then (if S 185 21 = 10 * b + c then 1 else 0) else if a = 4 then (if b < 4 ∧ S 185 (tn b) = c then 1 else 0) else if a = 5 then (if b = 0 ∧ ¬ 7 < c then 1 else 0) else if a = 6 then (if b = 0 ∧ S 185 20 = c then 1 else 0) else if a = 7 then (if S 185 23 = 10 * b + c then 1 else 0) else 0
def jgS (S : Nat → Nat → Int32) (a b c : Int32) : Nat → Nat → Int32 := if a = 1 then (if jgA S b c then (poF S 185 c).2 else S) else if a = 2 then (if hasY S (10 * b + c) ∧ ¬ S 185 (26 + tn (10 * b + c)) = 3 then boS S 185 (tn (10 * b + c)) (-9) 0 0 0 else S) else if a = 5 then (if b = 0 ∧ ¬ 7 < c then up2 S 185 25 (S 185 25 ^^^ ((1 : Int32) <<< (c &&& 31))) else S) else S
set_option maxRecDepth 100000 in
set_option maxHeartbeats 4000000 in
theorem e_X10_judged (G : GT) (S : Nat → Nat → Int32) (L : Nat → Int64) (hY : wfY S) (hR : wfR S 185) (a b c : Int32) (hb : ¬ b < 0) : sE G yX10_judged R_X10_judged cX10_judged 5 (some .boolean) [.ref (gB G + 179), .int a, .int b, .int c] S L (some (.int (jgR S a b c))) (jgS S a b c) L := by
  refine sE.of (by decide) (Nat.le_of_ble_eq_true rfl) ?_
  show sv_V G R_X10_judged RX10 "judged" cX10_judged 5 (some .boolean) (sPo G R_X10_judged (some (.int (jgR S a b c))) (jgS S a b c) L) 0 0 197 (CF G S L) 0 [(0, .ref (gB G + 179)), (1, .int a), (2, .int b), (3, .int c)] []
  refine sv_bipush (v := 10) dX10_judged_0 (by decide) ?_
  refine sv_iload_n 2 dX10_judged_2 rfl ?_
  refine sv_imul dX10_judged_3 ?_
  refine sv_iload_n 3 dX10_judged_4 rfl ?_
  refine sv_iadd dX10_judged_5 ?_
  refine sv_istore (ls' := [(4, _), (0, _), (1, _), (2, _), (3, _)]) dX10_judged_6 (by decide) rfl ?_
  refine sv_iload_n 2 dX10_judged_8 rfl ?_
  refine sw_X10_judged_9 dX10_judged_9 (fun c9 => ?_) (fun c9 => ?_) (fun c9 => ?_) (fun c9 => ?_) (fun c9 => ?_) (fun c9 => ?_) (fun c9 => ?_) (fun c9 => ?_)
  · -- case 1
    refine sv_iload_n 3 dX10_judged_52 rfl ?_
    refine sv_if_ne (tgt := 93) dX10_judged_53 (by decide) (fun c53 => ?_) (fun c53 => ?_)
    · -- jump
      refine sv_iconst (v := 0) dX10_judged_93 (by decide) ?_
      exact se_zret rfl ⟨rfl, rfl⟩ dX10_judged_94 (by rfl) (by rw [jgR, if_pos c9, if_neg (show ¬ jgA S b c from fun h => c53 h.1)]) (by rw [jgS, if_pos c9, if_neg (show ¬ jgA S b c from fun h => c53 h.1)])
    · -- fall
      refine sv_iload_n 4 dX10_judged_56 rfl ?_
      refine sv_iconst (v := 4) dX10_judged_57 (by decide) ?_
      refine sv_icmp_ge (tgt := 93) dX10_judged_58 (by decide) (fun c58 => ?_) (fun c58 => ?_)
      · -- jump
        refine sv_iconst (v := 0) dX10_judged_93 (by decide) ?_
        exact se_zret rfl ⟨rfl, rfl⟩ dX10_judged_94 (by rfl) (by rw [jgR, if_pos c9, if_neg (show ¬ jgA S b c from fun h => (Int32.not_lt.mpr c58) h.2.1)]) (by rw [jgS, if_pos c9, if_neg (show ¬ jgA S b c from fun h => (Int32.not_lt.mpr c58) h.2.1)])
      · -- fall
        refine sv_iload_n 4 dX10_judged_61 rfl ?_
        refine sv_iconst (v := 2) dX10_judged_62 (by decide) ?_
        refine sv_icmp_ne (tgt := 76) dX10_judged_63 (by decide) (fun c63 => ?_) (fun c63 => ?_)
        · -- jump
          refine sv_aload_n 1 dX10_judged_76 rfl ?_
          refine sv_aload_n 1 dX10_judged_77 rfl ?_
          refine sg_10_7 sh_179 fl_RX10_25 dX10_judged_78 ?_
          refine sv_iload_n 4 dX10_judged_81 rfl ?_
          refine cVi2 (e_X10_planOn G _ _ hY _ sh_185 hR _) ⟨rfl, rfl⟩ (sv_w5 ml_RX10_204 im_X10_planOn sl_X10_planOn in_RX10 cd_X10_planOn) nm_X10_planOn ⟨Nat.le_of_ble_eq_true rfl, Nat.le_of_ble_eq_true rfl⟩ rfl (CF_10 sh_179) (shp_lt sh_179 (by simp)) (Nat.le_of_ble_eq_true rfl) ⟨Nat.le_of_ble_eq_true rfl, Nat.le_of_ble_eq_true rfl⟩ dX10_judged_82 ?_
          refine sv_iconst (v := 1) dX10_judged_85 (by decide) ?_
          refine sv_icmp_gt (tgt := 93) dX10_judged_86 (by decide) (fun c86 => ?_) (fun c86 => ?_)
          · -- jump
            refine sv_iconst (v := 0) dX10_judged_93 (by decide) ?_
            exact se_zret rfl ⟨rfl, rfl⟩ dX10_judged_94 (by rfl) (by rw [jgR, if_pos c9, if_pos (show jgA S b c from ⟨c53, Int32.not_le.mp c58, fun h => c63 h.1⟩), if_neg (Int32.not_le.mpr c86)]) (by rw [jgS, if_pos c9, if_pos (show jgA S b c from ⟨c53, Int32.not_le.mp c58, fun h => c63 h.1⟩)])
          · -- fall
            refine sv_iconst (v := 1) dX10_judged_89 (by decide) ?_
            refine sv_goto (tgt := 94) dX10_judged_90 (by decide) ?_
            exact se_zret rfl ⟨rfl, rfl⟩ dX10_judged_94 (by rfl) (by rw [jgR, if_pos c9, if_pos (show jgA S b c from ⟨c53, Int32.not_le.mp c58, fun h => c63 h.1⟩), if_pos (Int32.not_lt.mp c86)]) (by rw [jgS, if_pos c9, if_pos (show jgA S b c from ⟨c53, Int32.not_le.mp c58, fun h => c63 h.1⟩)])
        · -- fall
          refine sv_aload_n 1 dX10_judged_66 rfl ?_
          refine sg_10_7 sh_179 fl_RX10_25 dX10_judged_67 ?_
          refine sv_bipush (v := 20) dX10_judged_70 (by decide) ?_
          refine sx_ild sh_185 20 (by decide) (by decide) dX10_judged_72 ?_
          refine sv_if_le (tgt := 93) dX10_judged_73 (by decide) (fun c73 => ?_) (fun c73 => ?_)
          · -- jump
            refine sv_iconst (v := 0) dX10_judged_93 (by decide) ?_
            exact se_zret rfl ⟨rfl, rfl⟩ dX10_judged_94 (by rfl) (by rw [jgR, if_pos c9, if_neg (show ¬ jgA S b c from fun h => h.2.2 ⟨c63, Int32.not_lt.mpr c73⟩)]) (by rw [jgS, if_pos c9, if_neg (show ¬ jgA S b c from fun h => h.2.2 ⟨c63, Int32.not_lt.mpr c73⟩)])
          · -- fall
            refine sv_aload_n 1 dX10_judged_76 rfl ?_
            refine sv_aload_n 1 dX10_judged_77 rfl ?_
            refine sg_10_7 sh_179 fl_RX10_25 dX10_judged_78 ?_
            refine sv_iload_n 4 dX10_judged_81 rfl ?_
            refine cVi2 (e_X10_planOn G _ _ hY _ sh_185 hR _) ⟨rfl, rfl⟩ (sv_w5 ml_RX10_204 im_X10_planOn sl_X10_planOn in_RX10 cd_X10_planOn) nm_X10_planOn ⟨Nat.le_of_ble_eq_true rfl, Nat.le_of_ble_eq_true rfl⟩ rfl (CF_10 sh_179) (shp_lt sh_179 (by simp)) (Nat.le_of_ble_eq_true rfl) ⟨Nat.le_of_ble_eq_true rfl, Nat.le_of_ble_eq_true rfl⟩ dX10_judged_82 ?_
            refine sv_iconst (v := 1) dX10_judged_85 (by decide) ?_
            refine sv_icmp_gt (tgt := 93) dX10_judged_86 (by decide) (fun c86 => ?_) (fun c86 => ?_)
            · -- jump
              refine sv_iconst (v := 0) dX10_judged_93 (by decide) ?_
              exact se_zret rfl ⟨rfl, rfl⟩ dX10_judged_94 (by rfl) (by rw [jgR, if_pos c9, if_pos (show jgA S b c from ⟨c53, Int32.not_le.mp c58, fun h => h.2 (Int32.not_le.mp c73)⟩), if_neg (Int32.not_le.mpr c86)]) (by rw [jgS, if_pos c9, if_pos (show jgA S b c from ⟨c53, Int32.not_le.mp c58, fun h => h.2 (Int32.not_le.mp c73)⟩)])
            · -- fall
              refine sv_iconst (v := 1) dX10_judged_89 (by decide) ?_
              refine sv_goto (tgt := 94) dX10_judged_90 (by decide) ?_
              exact se_zret rfl ⟨rfl, rfl⟩ dX10_judged_94 (by rfl) (by rw [jgR, if_pos c9, if_pos (show jgA S b c from ⟨c53, Int32.not_le.mp c58, fun h => h.2 (Int32.not_le.mp c73)⟩), if_pos (Int32.not_lt.mp c86)]) (by rw [jgS, if_pos c9, if_pos (show jgA S b c from ⟨c53, Int32.not_le.mp c58, fun h => h.2 (Int32.not_le.mp c73)⟩)])
  · -- case 2
    refine sv_aload_n 1 dX10_judged_95 rfl ?_
    refine sv_iload 0 dX10_judged_96 rfl ?_
    refine cVi1 (e_X10_isPlace G _ _ hY.1 _) ⟨rfl, rfl⟩ (sv_w5 ml_RX10_135 im_X10_isPlace sl_X10_isPlace in_RX10 cd_X10_isPlace) nm_X10_isPlace ⟨Nat.le_of_ble_eq_true rfl, Nat.le_of_ble_eq_true rfl⟩ rfl (CF_10 sh_179) (shp_lt sh_179 (by simp)) (Nat.le_of_ble_eq_true rfl) ⟨Nat.le_of_ble_eq_true rfl, Nat.le_of_ble_eq_true rfl⟩ dX10_judged_98 ?_
    refine sv_ifeq_b (tgt := 118) dX10_judged_101 (by decide) (fun c101 => ?_) (fun c101 => ?_)
    · -- jump
      refine sv_iconst (v := 0) dX10_judged_118 (by decide) ?_
      exact se_zret rfl ⟨rfl, rfl⟩ dX10_judged_119 (by rfl) (by rw [jgR, if_neg (by rw [c9]; decide), if_pos c9, if_neg (fun h => c101 h.1)]) (by rw [jgS, if_neg (by rw [c9]; decide), if_pos c9, if_neg (fun h => c101 h.1)])
    · -- fall
      refine sv_aload_n 1 dX10_judged_104 rfl ?_
      refine sg_10_7 sh_179 fl_RX10_25 dX10_judged_105 ?_
      refine sv_bipush (v := 26) dX10_judged_108 (by decide) ?_
      refine sv_iload 0 dX10_judged_110 rfl ?_
      refine sv_iadd dX10_judged_112 ?_
      refine sx_ild sh_185 (26 + tn (10 * b + c)) (ad_tn 26 c101.1) (by have := (hY16 hY.1 c101).2; omega) dX10_judged_113 ?_
      refine sv_iconst (v := 3) dX10_judged_114 (by decide) ?_
      refine sv_icmp_ne (tgt := 120) dX10_judged_115 (by decide) (fun c115 => ?_) (fun c115 => ?_)
      · -- jump
        refine sv_aload_n 1 dX10_judged_120 rfl ?_
        refine sg_10_7 sh_179 fl_RX10_25 dX10_judged_121 ?_
        refine sv_iload 0 dX10_judged_124 rfl ?_
        refine sv_bipush (v := (-9)) dX10_judged_126 (by decide) ?_
        refine sv_iconst (v := 0) dX10_judged_128 (by decide) ?_
        refine sv_iconst (v := 0) dX10_judged_129 (by decide) ?_
        refine sv_iconst (v := 0) dX10_judged_130 (by decide) ?_
        refine cSv6 (e_X10_breakOn G _ _ _ sh_185 _ c101.1 (hY16 hY.1 c101).2 _ _ _ _) ⟨rfl, rfl⟩ (sv_w4 ml_RX10_214 st_X10_breakOn in_RX10 cd_X10_breakOn) nm_X10_breakOn ⟨Nat.le_of_ble_eq_true rfl, Nat.le_of_ble_eq_true rfl⟩ (Nat.le_of_ble_eq_true rfl) ⟨Nat.le_of_ble_eq_true rfl, Nat.le_of_ble_eq_true rfl⟩ dX10_judged_131 ?_
        refine sv_iconst (v := 1) dX10_judged_134 (by decide) ?_
        exact se_zret rfl ⟨rfl, rfl⟩ dX10_judged_135 (by rfl) (by rw [jgR, if_neg (by rw [c9]; decide), if_pos c9, if_pos ⟨c101, c115⟩]) (by rw [jgS, if_neg (by rw [c9]; decide), if_pos c9, if_pos ⟨c101, c115⟩])
      · -- fall
        refine sv_iconst (v := 0) dX10_judged_118 (by decide) ?_
        exact se_zret rfl ⟨rfl, rfl⟩ dX10_judged_119 (by rfl) (by rw [jgR, if_neg (by rw [c9]; decide), if_pos c9, if_neg (fun h => h.2 c115)]) (by rw [jgS, if_neg (by rw [c9]; decide), if_pos c9, if_neg (fun h => h.2 c115)])
  · -- case 3
    refine sv_aload_n 1 dX10_judged_136 rfl ?_
    refine sg_10_7 sh_179 fl_RX10_25 dX10_judged_137 ?_
    refine sv_bipush (v := 21) dX10_judged_140 (by decide) ?_
    refine sx_ild sh_185 21 (by decide) (by decide) dX10_judged_142 ?_
    refine sv_iload 0 dX10_judged_143 rfl ?_
    refine sv_icmp_ne (tgt := 152) dX10_judged_145 (by decide) (fun c145 => ?_) (fun c145 => ?_)
    · -- jump
      refine sv_iconst (v := 0) dX10_judged_152 (by decide) ?_
      exact se_zret rfl ⟨rfl, rfl⟩ dX10_judged_153 (by rfl) (by rw [jgR, if_neg (by rw [c9]; decide), if_neg (by rw [c9]; decide), if_pos c9, if_neg c145]) (by rw [jgS, if_neg (by rw [c9]; decide), if_neg (by rw [c9]; decide), if_neg (by rw [c9]; decide)])
    · -- fall
      refine sv_iconst (v := 1) dX10_judged_148 (by decide) ?_
      refine sv_goto (tgt := 153) dX10_judged_149 (by decide) ?_
      exact se_zret rfl ⟨rfl, rfl⟩ dX10_judged_153 (by rfl) (by rw [jgR, if_neg (by rw [c9]; decide), if_neg (by rw [c9]; decide), if_pos c9, if_pos c145]) (by rw [jgS, if_neg (by rw [c9]; decide), if_neg (by rw [c9]; decide), if_neg (by rw [c9]; decide)])
  · -- case 4
    refine sv_iload_n 3 dX10_judged_154 rfl ?_
    refine sv_iconst (v := 4) dX10_judged_155 (by decide) ?_
    refine sv_icmp_ge (tgt := 173) dX10_judged_156 (by decide) (fun c156 => ?_) (fun c156 => ?_)
    · -- jump
      refine sv_iconst (v := 0) dX10_judged_173 (by decide) ?_
      exact se_zret rfl ⟨rfl, rfl⟩ dX10_judged_174 (by rfl) (by rw [jgR, if_neg (by rw [c9]; decide), if_neg (by rw [c9]; decide), if_neg (by rw [c9]; decide), if_pos c9, if_neg (fun h => (Int32.not_lt.mpr c156) h.1)]) (by rw [jgS, if_neg (by rw [c9]; decide), if_neg (by rw [c9]; decide), if_neg (by rw [c9]; decide)])
    · -- fall
      refine sv_aload_n 1 dX10_judged_159 rfl ?_
      refine sg_10_7 sh_179 fl_RX10_25 dX10_judged_160 ?_
      refine sv_iload_n 3 dX10_judged_163 rfl ?_
      refine sx_ild sh_185 (tn b) (nI_self hb) (by have := tn_lt (M := 4) (k := 4) rfl (by decide) hb c156; omega) dX10_judged_164 ?_
      refine sv_iload_n 4 dX10_judged_165 rfl ?_
      refine sv_icmp_ne (tgt := 173) dX10_judged_166 (by decide) (fun c166 => ?_) (fun c166 => ?_)
      · -- jump
        refine sv_iconst (v := 0) dX10_judged_173 (by decide) ?_
        exact se_zret rfl ⟨rfl, rfl⟩ dX10_judged_174 (by rfl) (by rw [jgR, if_neg (by rw [c9]; decide), if_neg (by rw [c9]; decide), if_neg (by rw [c9]; decide), if_pos c9, if_neg (fun h => c166 h.2)]) (by rw [jgS, if_neg (by rw [c9]; decide), if_neg (by rw [c9]; decide), if_neg (by rw [c9]; decide)])
      · -- fall
        refine sv_iconst (v := 1) dX10_judged_169 (by decide) ?_
        refine sv_goto (tgt := 174) dX10_judged_170 (by decide) ?_
        exact se_zret rfl ⟨rfl, rfl⟩ dX10_judged_174 (by rfl) (by rw [jgR, if_neg (by rw [c9]; decide), if_neg (by rw [c9]; decide), if_neg (by rw [c9]; decide), if_pos c9, if_pos ⟨Int32.not_le.mp c156, c166⟩]) (by rw [jgS, if_neg (by rw [c9]; decide), if_neg (by rw [c9]; decide), if_neg (by rw [c9]; decide)])
  · -- case 5
    refine sv_iload_n 3 dX10_judged_175 rfl ?_
    refine sv_if_ne (tgt := 185) dX10_judged_176 (by decide) (fun c176 => ?_) (fun c176 => ?_)
    · -- jump
      refine sv_iconst (v := 0) dX10_judged_185 (by decide) ?_
      exact se_zret rfl ⟨rfl, rfl⟩ dX10_judged_186 (by rfl) (by rw [jgR, if_neg (by rw [c9]; decide), if_neg (by rw [c9]; decide), if_neg (by rw [c9]; decide), if_neg (by rw [c9]; decide), if_pos c9, if_neg (fun h => c176 h.1)]) (by rw [jgS, if_neg (by rw [c9]; decide), if_neg (by rw [c9]; decide), if_pos c9, if_neg (fun h => c176 h.1)])
    · -- fall
      refine sv_iload_n 4 dX10_judged_179 rfl ?_
      refine sv_bipush (v := 7) dX10_judged_180 (by decide) ?_
      refine sv_icmp_le (tgt := 187) dX10_judged_182 (by decide) (fun c182 => ?_) (fun c182 => ?_)
      · -- jump
        refine sv_aload_n 1 dX10_judged_187 rfl ?_
        refine sg_10_7 sh_179 fl_RX10_25 dX10_judged_188 ?_
        refine sv_bipush (v := 25) dX10_judged_191 (by decide) ?_
        refine sv_dup2_11 dX10_judged_193 rfl rfl ?_
        refine sx_ild sh_185 25 (by decide) (by decide) dX10_judged_194 ?_
        refine sv_iconst (v := 1) dX10_judged_195 (by decide) ?_
        refine sv_iload_n 4 dX10_judged_196 rfl ?_
        refine sv_ishl dX10_judged_197 ?_
        refine sv_ixor dX10_judged_198 ?_
        refine sx_ist sh_185 25 (by decide) (by decide) dX10_judged_199 ?_
        refine sv_iconst (v := 1) dX10_judged_200 (by decide) ?_
        exact se_zret rfl ⟨rfl, rfl⟩ dX10_judged_201 (by rfl) (by rw [jgR, if_neg (by rw [c9]; decide), if_neg (by rw [c9]; decide), if_neg (by rw [c9]; decide), if_neg (by rw [c9]; decide), if_pos c9, if_pos ⟨c176, Int32.not_lt.mpr c182⟩]) (by rw [jgS, if_neg (by rw [c9]; decide), if_neg (by rw [c9]; decide), if_pos c9, if_pos ⟨c176, Int32.not_lt.mpr c182⟩])
      · -- fall
        refine sv_iconst (v := 0) dX10_judged_185 (by decide) ?_
        exact se_zret rfl ⟨rfl, rfl⟩ dX10_judged_186 (by rfl) (by rw [jgR, if_neg (by rw [c9]; decide), if_neg (by rw [c9]; decide), if_neg (by rw [c9]; decide), if_neg (by rw [c9]; decide), if_pos c9, if_neg (fun h => h.2 (Int32.not_le.mp c182))]) (by rw [jgS, if_neg (by rw [c9]; decide), if_neg (by rw [c9]; decide), if_pos c9, if_neg (fun h => h.2 (Int32.not_le.mp c182))])
  · -- case 6
    refine sv_iload_n 3 dX10_judged_202 rfl ?_
    refine sv_if_ne (tgt := 221) dX10_judged_203 (by decide) (fun c203 => ?_) (fun c203 => ?_)
    · -- jump
      refine sv_iconst (v := 0) dX10_judged_221 (by decide) ?_
      exact se_zret rfl ⟨rfl, rfl⟩ dX10_judged_222 (by rfl) (by rw [jgR, if_neg (by rw [c9]; decide), if_neg (by rw [c9]; decide), if_neg (by rw [c9]; decide), if_neg (by rw [c9]; decide), if_neg (by rw [c9]; decide), if_pos c9, if_neg (fun h => c203 h.1)]) (by rw [jgS, if_neg (by rw [c9]; decide), if_neg (by rw [c9]; decide), if_neg (by rw [c9]; decide)])
    · -- fall
      refine sv_aload_n 1 dX10_judged_206 rfl ?_
      refine sg_10_7 sh_179 fl_RX10_25 dX10_judged_207 ?_
      refine sv_bipush (v := 20) dX10_judged_210 (by decide) ?_
      refine sx_ild sh_185 20 (by decide) (by decide) dX10_judged_212 ?_
      refine sv_iload_n 4 dX10_judged_213 rfl ?_
      refine sv_icmp_ne (tgt := 221) dX10_judged_214 (by decide) (fun c214 => ?_) (fun c214 => ?_)
      · -- jump
        refine sv_iconst (v := 0) dX10_judged_221 (by decide) ?_
        exact se_zret rfl ⟨rfl, rfl⟩ dX10_judged_222 (by rfl) (by rw [jgR, if_neg (by rw [c9]; decide), if_neg (by rw [c9]; decide), if_neg (by rw [c9]; decide), if_neg (by rw [c9]; decide), if_neg (by rw [c9]; decide), if_pos c9, if_neg (fun h => c214 h.2)]) (by rw [jgS, if_neg (by rw [c9]; decide), if_neg (by rw [c9]; decide), if_neg (by rw [c9]; decide)])
      · -- fall
        refine sv_iconst (v := 1) dX10_judged_217 (by decide) ?_
        refine sv_goto (tgt := 222) dX10_judged_218 (by decide) ?_
        exact se_zret rfl ⟨rfl, rfl⟩ dX10_judged_222 (by rfl) (by rw [jgR, if_neg (by rw [c9]; decide), if_neg (by rw [c9]; decide), if_neg (by rw [c9]; decide), if_neg (by rw [c9]; decide), if_neg (by rw [c9]; decide), if_pos c9, if_pos ⟨c203, c214⟩]) (by rw [jgS, if_neg (by rw [c9]; decide), if_neg (by rw [c9]; decide), if_neg (by rw [c9]; decide)])
  · -- case 7
    refine sv_aload_n 1 dX10_judged_223 rfl ?_
    refine sg_10_7 sh_179 fl_RX10_25 dX10_judged_224 ?_
    refine sv_bipush (v := 23) dX10_judged_227 (by decide) ?_
    refine sx_ild sh_185 23 (by decide) (by decide) dX10_judged_229 ?_
    refine sv_iload 0 dX10_judged_230 rfl ?_
    refine sv_icmp_ne (tgt := 239) dX10_judged_232 (by decide) (fun c232 => ?_) (fun c232 => ?_)
    · -- jump
      refine sv_iconst (v := 0) dX10_judged_239 (by decide) ?_
      exact se_zret rfl ⟨rfl, rfl⟩ dX10_judged_240 (by rfl) (by rw [jgR, if_neg (by rw [c9]; decide), if_neg (by rw [c9]; decide), if_neg (by rw [c9]; decide), if_neg (by rw [c9]; decide), if_neg (by rw [c9]; decide), if_neg (by rw [c9]; decide), if_pos c9, if_neg c232]) (by rw [jgS, if_neg (by rw [c9]; decide), if_neg (by rw [c9]; decide), if_neg (by rw [c9]; decide)])
    · -- fall
      refine sv_iconst (v := 1) dX10_judged_235 (by decide) ?_
      refine sv_goto (tgt := 240) dX10_judged_236 (by decide) ?_
      exact se_zret rfl ⟨rfl, rfl⟩ dX10_judged_240 (by rfl) (by rw [jgR, if_neg (by rw [c9]; decide), if_neg (by rw [c9]; decide), if_neg (by rw [c9]; decide), if_neg (by rw [c9]; decide), if_neg (by rw [c9]; decide), if_neg (by rw [c9]; decide), if_pos c9, if_pos c232]) (by rw [jgS, if_neg (by rw [c9]; decide), if_neg (by rw [c9]; decide), if_neg (by rw [c9]; decide)])
  · -- case None
    refine sv_iconst (v := 0) dX10_judged_241 (by decide) ?_
    exact se_zret rfl ⟨rfl, rfl⟩ dX10_judged_242 (by rfl) (by obtain ⟨z1, z2, z3, z4, z5, z6, z7⟩ := c9; rw [jgR, if_neg z1, if_neg z2, if_neg z3, if_neg z4, if_neg z5, if_neg z6, if_neg z7]) (by obtain ⟨z1, z2, z3, z4, z5, z6, z7⟩ := c9; rw [jgS, if_neg z1, if_neg z2, if_neg z5])
theorem lN_32 (n : Nat) : (lN n).toInt32 = nI n := by
  apply Int32.toBitVec_inj.mp
  apply BitVec.eq_of_toNat_eq
  show (BitVec.signExtend 32 (BitVec.ofNat 64 n)).toNat = (BitVec.ofNat 32 n).toNat
  rw [BitVec.signExtend_eq_setWidth_of_le _ (by decide)]
  rw [BitVec.toNat_setWidth, BitVec.toNat_ofNat, BitVec.toNat_ofNat, Nat.mod_mod_of_dvd _ (by decide)]
set_option maxRecDepth 100000 in
set_option maxHeartbeats 4000000 in
theorem l_X10_thousands (G : GT) (S : Nat → Nat → Int32) (L : Nat → Int64) (e : Nat) (he : e ≤ 100) : ∀ (m p : Nat), e - p = m → p ≤ e → sv_V G R_X10_thousands RX10 "thousands" cX10_thousands 4 (some .long) (sPo G R_X10_thousands (some (.long (lN (1000 ^ e)))) S L) 0 0 197 (CF G S L) 4 [(3, .int (nI p)), (1, .long (lN (1000 ^ p))), (0, .int (nI e))] [] := by
  intro m
  induction m using Nat.strongRecOn
  rename_i m ih
  intro p hm hp
  refine sv_iload_n 0 dX10_thousands_4 rfl ?_
  refine sv_iload_n 2 dX10_thousands_5 rfl ?_
  refine sv_icmp_ge (tgt := 21) dX10_thousands_6 (by decide) (fun c6 => ?_) (fun c6 => ?_)
  · -- jump
    obtain rfl : p = e := by have := (nI_leI (by omega) (by omega)).mp c6; omega
    refine sv_lload_n 1 dX10_thousands_21 rfl ?_
    exact se_lret rfl ⟨rfl, rfl⟩ dX10_thousands_22 rfl rfl rfl
  · -- fall
    have h8 : p < e := Nat.lt_of_not_le (fun z => c6 (nI_le z (by omega)))
    refine sv_lload_n 1 dX10_thousands_9 rfl ?_
    refine sv_ldc2 ck_RX10_225 dX10_thousands_10 ?_
    refine sv_lmul dX10_thousands_13 ?_
    refine sv_toplE (v' := lN (1000 ^ (p + 1))) (by rw [Nat.pow_succ, ← lN_mul]; rfl) ?_
    refine sv_lstore_n (ls' := [(1, _), (3, _), (0, _)]) dX10_thousands_14 (by decide) rfl ?_
    refine sv_iinc 1 (ls' := [(3, _), (1, _), (0, _)]) dX10_thousands_15 rfl (nI_1 _) (by decide) rfl ?_
    refine sv_goto (tgt := 4) dX10_thousands_18 (by decide) ?_
    exact ih (e - (p + 1)) (by omega) (p + 1) rfl (by omega)
set_option maxRecDepth 100000 in
set_option maxHeartbeats 4000000 in
theorem e_X10_thousands (G : GT) (S : Nat → Nat → Int32) (L : Nat → Int64) (e : Nat) (he : e ≤ 100) : sE G yX10_thousands R_X10_thousands cX10_thousands 4 (some .long) [.int (nI e)] S L (some (.long (lN (1000 ^ e)))) S L := by
  refine sE.of (by decide) (Nat.le_of_ble_eq_true rfl) ?_
  show sv_V G R_X10_thousands RX10 "thousands" cX10_thousands 4 (some .long) (sPo G R_X10_thousands (some (.long (lN (1000 ^ e)))) S L) 0 0 197 (CF G S L) 0 [(0, .int (nI e))] []
  refine sv_lconst (v := 1) dX10_thousands_0 (by decide) ?_
  refine sv_lstore_n (ls' := [(1, _), (0, _)]) dX10_thousands_1 (by decide) rfl ?_
  refine sv_iconst (v := 0) dX10_thousands_2 (by decide) ?_
  refine sv_istore_n (ls' := [(3, _), (1, _), (0, _)]) dX10_thousands_3 (by decide) rfl ?_
  exact l_X10_thousands G S L e he e 0 (by omega) (by omega)
theorem e_thN (G : GT) (S : Nat → Nat → Int32) (L : Nat → Int64) (x : Int32) (e : Nat) (hx : x = nI e) (he : e ≤ 100) : sE G yX10_thousands R_X10_thousands cX10_thousands 4 (some .long) [.int x] S L (some (.long (lN (1000 ^ e)))) S L := by subst hx; exact e_X10_thousands G S L e he
def ydF (row : Int64) (e : Nat) : Int32 := (row / lN (1000 ^ e) - row / lN (1000 ^ e) / 1000 * 1000).toInt32
theorem ydF_nI {row : Int64} {k e : Nat} (hk : k < 2 ^ 63) (h : row = lN k) (he : e ≤ 4) : ydF row e = nI (k / 1000 ^ e % 1000) := by
  have hp : 1000 ^ e ≤ 1000 ^ 4 := Nat.pow_le_pow_right (by decide) he
  have hd : k / 1000 ^ e < 2 ^ 63 := Nat.lt_of_le_of_lt (Nat.div_le_self _ _) hk
  rw [ydF, h, pk_lDiv hk (Nat.pow_pos (by decide)) (by omega), show (1000 : Int64) = lN 1000 from rfl, pk_lRem hd (by decide) (by decide), lN_32]
theorem dig_nn {n : Nat} (h : n < 2147483648) : ¬ (nI n / 10 - nI n / 10 / 10 * 10) < 0 := by
  have h1 : n / 10 < 2147483648 := by omega
  rw [show (10 : Int32) = nI 10 from rfl, pk_div (by omega) (by decide) (by decide), pk_rem (by omega) (by decide) (by decide)]
  exact nI_pos (by omega)
theorem lN_ne0 {e : Nat} (he : e ≤ 4) : ¬ lN (1000 ^ e) = 0 := by
  rcases (show e = 0 ∨ e = 1 ∨ e = 2 ∨ e = 3 ∨ e = 4 by omega) with rfl | rfl | rfl | rfl | rfl <;> decide
abbrev ydA (row : Int64) (e : Nat) : Int32 := ydF row e / 100
abbrev ydB (row : Int64) (e : Nat) : Int32 := ydF row e / 10 - ydF row e / 10 / 10 * 10
abbrev ydC (row : Int64) (e : Nat) : Int32 := ydF row e - ydF row e / 10 * 10
def yjL (row : Int64) (Q : Nat) : Nat → Nat → (Nat → Nat → Int32) → Int32 × (Nat → Nat → Int32)
  | 0, _, S => (-9, S)
  | m + 1, k, S => if jgR S (ydA row (Q - 1 - k)) (ydB row (Q - 1 - k)) (ydC row (Q - 1 - k)) = 0 then (nI k, jgS S (ydA row (Q - 1 - k)) (ydB row (Q - 1 - k)) (ydC row (Q - 1 - k))) else yjL row Q m (k + 1) (jgS S (ydA row (Q - 1 - k)) (ydB row (Q - 1 - k)) (ydC row (Q - 1 - k)))
abbrev yjP (q : Int32) (row : Int64) : Prop := inP q 1 4 ∧ ¬ row < 0 ∧ ¬ (lN (1000 ^ tn q) - 1) < row
def yjudge (S : Nat → Nat → Int32) (q : Int32) (row : Int64) : Int32 × (Nat → Nat → Int32) := if yjP q row then yjL row (tn q) (tn q) 0 (trS S) else (-2, S)
theorem boS_fr {S : Nat → Nat → Int32} {q p : Nat} {r h f b : Int32} (hp : p < 16) {k j : Nat} (hh : k ≠ q ∨ j < 26 ∨ 122 ≤ j) : boS S q p r h f b k j = S k j := by
  have u : ∀ (T : Nat → Nat → Int32) (a : Nat) (w : Int32), 26 ≤ a → a < 122 → up2 T q a w k j = T k j := fun T a w h1 h2 => up2_ne (hh.imp id (fun z => by omega))
  unfold boS
  rw [u _ _ _ (by omega) (by omega), u _ _ _ (by omega) (by omega), u _ _ _ (by omega) (by omega), u _ _ _ (by omega) (by omega), u _ _ _ (by omega) (by omega), u _ _ _ (by omega) (by omega)]
theorem boS_wfR {S : Nat → Nat → Int32} {q p : Nat} {r h f b : Int32} (hp : p < 16) (hr : r = -9 ∨ (¬ r < 0 ∧ ¬ 4 ≤ r)) (hR : wfR S q) : wfR (boS S q p r h f b) q := by
  refine ⟨by rw [boS_fr hp (Or.inr (Or.inl (by decide)))]; exact hR.1, by rw [boS_fr hp (Or.inr (Or.inr (by decide)))]; exact hR.2.1, fun a ha hne => ?_⟩
  have e42 : boS S q p r h f b q (42 + a) = if a = p then r else S q (42 + a) := by
    unfold boS
    rw [up2_ne (Or.inr (by omega)), up2_ne (Or.inr (by omega)), up2_ne (Or.inr (by omega)), up2_at]
    by_cases z : a = p
    · rw [if_pos ⟨rfl, by omega⟩, if_pos z]
    · rw [if_neg (fun w => z (by omega)), if_neg z, up2_ne (Or.inr (by omega)), up2_ne (Or.inr (by omega))]
  rw [e42]
  by_cases z : a = p
  · rw [if_pos z]; exact hr
  · rw [if_neg z]
    refine hR.2.2 a ha (fun w => hne ?_)
    unfold boS
    rw [up2_ne (Or.inr (by omega)), up2_ne (Or.inr (by omega)), up2_ne (Or.inr (by omega)), up2_ne (Or.inr (by omega)), up2_ne (Or.inr (by omega)), up2_ne (Or.inr (by omega))]
    exact w
theorem poL_fr {q : Nat} (hq : shp q = (11, 128)) {k d : Int32} : ∀ (m t : Nat) (S : Nat → Nat → Int32), wfY S → wfR S q → wfY (poL q k d m t S).2 ∧ wfR (poL q k d m t S).2 q ∧ ∀ a j, a ≠ q → a ≠ 191 → (poL q k d m t S).2 a j = S a j
  | 0, t, S, hY, hR => ⟨hY, hR, fun _ _ _ _ => rfl⟩
  | m + 1, t, S, hY, hR => by
    have hY1 : wfY (ccK S q 8) := ccK_wfY hY
    have hR1 : wfR (ccK S q 8) q := ccK_wfR hq hR
    have hY2 := spS_wfY hq hY1 hR1
    have hR2 := spS_wfR hY1 hR1
    have e1 : ∀ a j, a ≠ q → a ≠ 191 → spS (ccK S q 8) q a j = S a j := fun a j h1 h2 => by rw [spS_fr hY1 hR1 (Or.inl h1), ccK_ne h2]
    have e2 : ∀ a j, a ≠ q → a ≠ 191 → rsS (spS (ccK S q 8) q) q a j = S a j := fun a j h1 h2 => by rw [rsS_fr hY2.1 (Or.inl h1), e1 a j h1 h2]
    rw [poL]
    by_cases c1 : bsP (ccK S q 8) q
    · rw [if_pos c1]
      by_cases c2 : rsR (spS (ccK S q 8) q) q k d (nI t) = -9
      · rw [if_pos c2]
        have ih := poL_fr hq (k := k) (d := d) m (t + 1) _ (rsS_wfY hq hY2) (rsS_wfR hY2.1 hR2)
        exact ⟨ih.1, ih.2.1, fun a j h1 h2 => by rw [ih.2.2 a j h1 h2, e2 a j h1 h2]⟩
      · rw [if_neg c2]
        exact ⟨rsS_wfY hq hY2, rsS_wfR hY2.1 hR2, e2⟩
    · rw [if_neg c1]
      exact ⟨hY2, hR2, e1⟩
theorem poF_fr {S : Nat → Nat → Int32} {q : Nat} (hq : shp q = (11, 128)) (k : Int32) (hY : wfY S) (hR : wfR S q) : wfY (poF S q k).2 ∧ wfR (poF S q k).2 q ∧ ∀ a j, a ≠ q → a ≠ 191 → (poF S q k).2 a j = S a j := by
  unfold poF
  by_cases c : S q 22 = 1
  · rw [if_pos c]; exact ⟨hY, hR, fun _ _ _ _ => rfl⟩
  · rw [if_neg c]; exact poL_fr hq _ _ _ hY hR
theorem jgS_fr {S : Nat → Nat → Int32} (a b c : Int32) (hY : wfY S) (hR : wfR S 185) : wfY (jgS S a b c) ∧ wfR (jgS S a b c) 185 ∧ ∀ k j, k ≠ 185 → k ≠ 191 → jgS S a b c k j = S k j := by
  have h0 : wfY S ∧ wfR S 185 ∧ ∀ k j, k ≠ 185 → k ≠ 191 → S k j = S k j := ⟨hY, hR, fun _ _ _ _ => rfl⟩
  unfold jgS
  by_cases c1 : a = 1
  · rw [if_pos c1]
    by_cases c2 : jgA S b c
    · rw [if_pos c2]; exact poF_fr sh_185 c hY hR
    · rw [if_neg c2]; exact h0
  rw [if_neg c1]
  by_cases c2 : a = 2
  · rw [if_pos c2]
    by_cases c3 : hasY S (10 * b + c) ∧ ¬ S 185 (26 + tn (10 * b + c)) = 3
    · rw [if_pos c3]
      have hp := (hY16 hY.1 c3.1).2
      exact ⟨wfY_q sh_185 (fun k j h => boS_fr hp (Or.inl h)) hY, boS_wfR hp (Or.inl rfl) hR, fun k j h _ => boS_fr hp (Or.inl h)⟩
    · rw [if_neg c3]; exact h0
  rw [if_neg c2]
  by_cases c3 : a = 5
  · rw [if_pos c3]
    by_cases c4 : b = 0 ∧ ¬ 7 < c
    · rw [if_pos c4]
      have u : ∀ k j, k ≠ 185 ∨ j ≠ 25 → up2 S 185 25 (S 185 25 ^^^ ((1 : Int32) <<< (c &&& 31))) k j = S k j := fun k j h => up2_ne h
      exact ⟨wfY_q sh_185 (fun k j h => u k j (Or.inl h)) hY, wfR_of (by rw [u _ _ (Or.inr (by decide))]; exact hR.1) (by rw [keP, u _ _ (Or.inr (by decide))]; exact hR.2.1) (fun a h1 _ => u _ _ (Or.inr (by omega))) hR, fun k j h _ => u k j (Or.inl h)⟩
    · rw [if_neg c4]; exact h0
  rw [if_neg c3]; exact h0
set_option maxRecDepth 100000 in
set_option maxHeartbeats 4000000 in
theorem l_X10_judge (G : GT) (L : Nat → Int64) (row : Int64) (n : Nat) (hn : n < 2 ^ 63) (hrow : row = lN n) (Q : Nat) (hQ : Q ≤ 4) : ∀ (m : Nat) (S : Nat → Nat → Int32) (k : Nat), Q - k = m → k ≤ Q → wfY S → wfR S 185 → sv_V G R_X10_judge RX10 "judge" cX10_judge 6 (some .int) (sPo G R_X10_judge (some (.int (yjL row Q m k S).1)) (yjL row Q m k S).2 L) 0 0 197 (CF G S L) 43 [(4, .int (nI k)), (0, .ref (gB G + 179)), (1, .int (nI Q)), (2, .long row)] [] := by
  intro m
  induction m using Nat.strongRecOn
  rename_i m ih
  intro S k hm hk hY hR
  refine sv_iload 0 dX10_judge_43 rfl ?_
  refine sv_iload_n 2 dX10_judge_45 rfl ?_
  refine sv_icmp_ge (tgt := 101) dX10_judge_46 (by decide) (fun c46 => ?_) (fun c46 => ?_)
  · -- jump
    obtain rfl : m = 0 := by have := (nI_leI (by omega) (by omega)).mp c46; omega
    refine sv_bipush (v := (-9)) dX10_judge_101 (by decide) ?_
    exact se_iret rfl ⟨rfl, rfl⟩ dX10_judge_103 rfl (by rfl)
  · -- fall
    have h8 : k < Q := Nat.lt_of_not_le (fun z => c46 (nI_le z (by omega)))
    obtain ⟨m2, rfl⟩ : ∃ j, m = j + 1 := ⟨m - 1, by omega⟩
    rw [yjL]
    have hd := ydF_nI (e := Q - 1 - k) hn hrow (by omega)
    have hlt : n / 1000 ^ (Q - 1 - k) % 1000 < 1000 := Nat.mod_lt _ (by decide)
    have hB : ¬ ydB row (Q - 1 - k) < 0 := by rw [ydB, hd]; exact dig_nn (by omega)
    refine sv_lload_n 3 dX10_judge_49 rfl ?_
    refine sv_iload_n 2 dX10_judge_50 rfl ?_
    refine sv_iconst (v := 1) dX10_judge_51 (by decide) ?_
    refine sv_isub dX10_judge_52 ?_
    refine sv_iload 0 dX10_judge_53 rfl ?_
    refine sv_isub dX10_judge_55 ?_
    refine cSi1 (e_thN G _ _ _ (Q - 1 - k) (by rw [show Q = (Q - 1 - k) + k + 1 by omega, nI_pred, ← nI_add]; simp) (by omega)) ⟨rfl, rfl⟩ (sv_w4 ml_RX10_229 st_X10_thousands in_RX10 cd_X10_thousands) nm_X10_thousands ⟨Nat.le_of_ble_eq_true rfl, Nat.le_of_ble_eq_true rfl⟩ (Nat.le_of_ble_eq_true rfl) ⟨Nat.le_of_ble_eq_true rfl, Nat.le_of_ble_eq_true rfl⟩ dX10_judge_56 ?_
    refine sv_ldiv dX10_judge_59 (lN_ne0 (by omega)) ?_
    refine sv_ldc2 ck_RX10_225 dX10_judge_60 ?_
    refine sv_lrem dX10_judge_63 (by decide) ?_
    refine sv_l2i dX10_judge_64 rfl ?_
    refine sv_topE (v' := ydF row (Q - 1 - k)) rfl ?_
    refine sv_istore (ls' := [(5, _), (4, _), (0, _), (1, _), (2, _)]) dX10_judge_65 (by decide) rfl ?_
    refine sv_aload_n 2 dX10_judge_67 rfl ?_
    refine sv_iload 0 dX10_judge_68 rfl ?_
    refine sv_bipush (v := 100) dX10_judge_70 (by decide) ?_
    refine sv_idiv dX10_judge_72 (by decide) ?_
    refine sv_iload 0 dX10_judge_73 rfl ?_
    refine sv_bipush (v := 10) dX10_judge_75 (by decide) ?_
    refine sv_idiv dX10_judge_77 (by decide) ?_
    refine sv_bipush (v := 10) dX10_judge_78 (by decide) ?_
    refine sv_irem dX10_judge_80 (by decide) ?_
    refine sv_iload 0 dX10_judge_81 rfl ?_
    refine sv_bipush (v := 10) dX10_judge_83 (by decide) ?_
    refine sv_irem dX10_judge_85 (by decide) ?_
    refine cVi3 (e_X10_judged G _ _ hY hR _ _ _ hB) ⟨rfl, rfl⟩ (sv_w5 ml_RX10_233 im_X10_judged sl_X10_judged in_RX10 cd_X10_judged) nm_X10_judged ⟨Nat.le_of_ble_eq_true rfl, Nat.le_of_ble_eq_true rfl⟩ rfl (CF_10 sh_179) (shp_lt sh_179 (by simp)) (Nat.le_of_ble_eq_true rfl) ⟨Nat.le_of_ble_eq_true rfl, Nat.le_of_ble_eq_true rfl⟩ dX10_judge_86 ?_
    refine sv_if_ne (tgt := 95) dX10_judge_89 (by decide) (fun c89 => ?_) (fun c89 => ?_)
    · -- jump
      refine sv_iinc 1 (ls' := [(4, _), (5, _), (0, _), (1, _), (2, _)]) dX10_judge_95 rfl (nI_1 _) (by decide) rfl ?_
      refine sv_goto (tgt := 43) dX10_judge_98 (by decide) ?_
      rw [if_neg c89]
      refine sv_locals [0, 2, 3, 4] rfl ?_
      exact ih m2 (by omega) _ (k + 1) (by omega) (by omega) (jgS_fr _ _ _ hY hR).1 (jgS_fr _ _ _ hY hR).2.1
    · -- fall
      refine sv_iload 1 dX10_judge_92 rfl ?_
      exact se_iret rfl ⟨rfl, rfl⟩ dX10_judge_94 (by rw [if_pos c89]) (by rw [if_pos c89])
theorem nn1 {x : Int32} (h : ¬ x < 1) : ¬ x < 0 := fun z => h (Int32.lt_trans z (by decide))
def ysee (S : Nat → Nat → Int32) (v b : Int32) : Int32 × (Nat → Nat → Int32) := if inP v 0 99 ∧ inP b 0 1 then (if S 179 15 = 6 then (-4, S) else (S 179 15 + 1, up2 (up2 (up2 S 189 (tn (S 179 15)) v) 190 (tn (S 179 15)) b) 179 15 (S 179 15 + 1))) else (-2, S)
def yunsee (S : Nat → Nat → Int32) : Int32 × (Nat → Nat → Int32) := (S 179 15, up2 S 179 15 0)
def wfV (S : Nat → Nat → Int32) : Prop := ¬ S 179 15 < 0 ∧ ¬ 6 < S 179 15
set_option maxRecDepth 100000 in
set_option maxHeartbeats 4000000 in
theorem e_X10_judge (G : GT) (S : Nat → Nat → Int32) (L : Nat → Int64) (hY : wfY S) (hR : wfR S 184) (q : Int32) (row : Int64) : sE G yX10_judge R_X10_judge cX10_judge 6 (some .int) [.ref (gB G + 179), .int q, .long row] S L (some (.int (yjudge S q row).1)) (yjudge S q row).2 L := by
  refine sE.of (by decide) (Nat.le_of_ble_eq_true rfl) ?_
  show sv_V G R_X10_judge RX10 "judge" cX10_judge 6 (some .int) (sPo G R_X10_judge (some (.int (yjudge S q row).1)) (yjudge S q row).2 L) 0 0 197 (CF G S L) 0 [(0, .ref (gB G + 179)), (1, .int q), (2, .long row)] []
  refine sv_iload_n 1 dX10_judge_0 rfl ?_
  refine sv_i2l dX10_judge_1 rfl ?_
  refine sv_lconst (v := 1) dX10_judge_2 (by decide) ?_
  refine sv_ldc2 ck_RX10_227 dX10_judge_3 ?_
  refine cSi3 (e_inI G _ _ q 1 4 _ _ _ rfl (by decide) (by decide)) ⟨rfl, rfl⟩ (sv_w4 ml_RX10_73 st_X10_in in_RX10 cd_X10_in) nm_X10_in ⟨Nat.le_of_ble_eq_true rfl, Nat.le_of_ble_eq_true rfl⟩ (Nat.le_of_ble_eq_true rfl) ⟨Nat.le_of_ble_eq_true rfl, Nat.le_of_ble_eq_true rfl⟩ dX10_judge_6 ?_
  refine sv_ifeq_b (tgt := 26) dX10_judge_9 (by decide) (fun c9 => ?_) (fun c9 => ?_)
  · -- jump
    refine sv_bipush (v := (-2)) dX10_judge_26 (by decide) ?_
    exact se_iret rfl ⟨rfl, rfl⟩ dX10_judge_28 (by rw [yjudge, if_neg (show ¬ yjP q row from fun h => c9 h.1)]) (by rw [yjudge, if_neg (show ¬ yjP q row from fun h => c9 h.1)])
  · -- fall
    refine sv_lload_n 2 dX10_judge_12 rfl ?_
    refine sv_lconst (v := 0) dX10_judge_13 (by decide) ?_
    refine sv_iload_n 1 dX10_judge_14 rfl ?_
    refine cSi1 (e_thN G _ _ _ (tn q) (nI_self (nn1 c9.1)) (by have := tn_le (M := 4) (k := 4) rfl (by decide) (nn1 c9.1) c9.2; omega)) ⟨rfl, rfl⟩ (sv_w4 ml_RX10_229 st_X10_thousands in_RX10 cd_X10_thousands) nm_X10_thousands ⟨Nat.le_of_ble_eq_true rfl, Nat.le_of_ble_eq_true rfl⟩ (Nat.le_of_ble_eq_true rfl) ⟨Nat.le_of_ble_eq_true rfl, Nat.le_of_ble_eq_true rfl⟩ dX10_judge_15 ?_
    refine sv_lconst (v := 1) dX10_judge_18 (by decide) ?_
    refine sv_lsub dX10_judge_19 ?_
    refine cSi3 (e_X10_in G _ _ _ _ _) ⟨rfl, rfl⟩ (sv_w4 ml_RX10_73 st_X10_in in_RX10 cd_X10_in) nm_X10_in ⟨Nat.le_of_ble_eq_true rfl, Nat.le_of_ble_eq_true rfl⟩ (Nat.le_of_ble_eq_true rfl) ⟨Nat.le_of_ble_eq_true rfl, Nat.le_of_ble_eq_true rfl⟩ dX10_judge_20 ?_
    refine sv_ifne_b (tgt := 29) dX10_judge_23 (by decide) (fun c23 => ?_) (fun c23 => ?_)
    · -- jump
      refine sv_aload_n 0 dX10_judge_29 rfl ?_
      refine sg_10_6 sh_179 fl_RX10_22 dX10_judge_30 ?_
      refine sv_aload_n 0 dX10_judge_33 rfl ?_
      refine sg_10_7 sh_179 fl_RX10_25 dX10_judge_34 ?_
      refine cSv2 (e_X10_copyRow G _ _ _ sh_184 _ sh_185 (by decide)) ⟨rfl, rfl⟩ (sv_w4 ml_RX10_218 st_X10_copyRow in_RX10 cd_X10_copyRow) nm_X10_copyRow ⟨Nat.le_of_ble_eq_true rfl, Nat.le_of_ble_eq_true rfl⟩ (Nat.le_of_ble_eq_true rfl) ⟨Nat.le_of_ble_eq_true rfl, Nat.le_of_ble_eq_true rfl⟩ dX10_judge_37 ?_
      show sv_V _ _ _ _ _ _ _ _ _ _ _ (CF G (trS S) L) _ _ _
      refine sv_iconst (v := 0) dX10_judge_40 (by decide) ?_
      refine sv_istore (ls' := [(4, _), (0, _), (1, _), (2, _)]) dX10_judge_41 (by decide) rfl ?_
      obtain ⟨n, hn, hrow⟩ := pk_lOf c23.1
      rw [yjudge, if_pos (show yjP q row from ⟨c9, c23⟩)]
      have h4 := tn_le (M := 4) (k := 4) rfl (by decide) (nn1 c9.1) c9.2
      have h := l_X10_judge G L row n hn hrow (tn q) h4 (tn q) (trS S) 0 rfl (by omega) (trS_wfY hY) (trS_wfR hR)
      rw [← nI_self (nn1 c9.1)] at h
      exact h
    · -- fall
      refine sv_bipush (v := (-2)) dX10_judge_26 (by decide) ?_
      exact se_iret rfl ⟨rfl, rfl⟩ dX10_judge_28 (by rw [yjudge, if_neg (show ¬ yjP q row from fun h => c23 h.2)]) (by rw [yjudge, if_neg (show ¬ yjP q row from fun h => c23 h.2)])
set_option maxRecDepth 100000 in
set_option maxHeartbeats 4000000 in
theorem e_X10_see (G : GT) (S : Nat → Nat → Int32) (L : Nat → Int64) (hV : wfV S) (v b : Int32) : sE G yX10_see R_X10_see cX10_see 3 (some .int) [.ref (gB G + 179), .int v, .int b] S L (some (.int (ysee S v b).1)) (ysee S v b).2 L := by
  refine sE.of (by decide) (Nat.le_of_ble_eq_true rfl) ?_
  show sv_V G R_X10_see RX10 "see" cX10_see 3 (some .int) (sPo G R_X10_see (some (.int (ysee S v b).1)) (ysee S v b).2 L) 0 0 197 (CF G S L) 0 [(0, .ref (gB G + 179)), (1, .int v), (2, .int b)] []
  refine sv_iload_n 1 dX10_see_0 rfl ?_
  refine sv_i2l dX10_see_1 rfl ?_
  refine sv_lconst (v := 0) dX10_see_2 (by decide) ?_
  refine sv_ldc2 ck_RX10_236 dX10_see_3 ?_
  refine cSi3 (e_inI G _ _ v 0 99 _ _ _ rfl (by decide) (by decide)) ⟨rfl, rfl⟩ (sv_w4 ml_RX10_73 st_X10_in in_RX10 cd_X10_in) nm_X10_in ⟨Nat.le_of_ble_eq_true rfl, Nat.le_of_ble_eq_true rfl⟩ (Nat.le_of_ble_eq_true rfl) ⟨Nat.le_of_ble_eq_true rfl, Nat.le_of_ble_eq_true rfl⟩ dX10_see_6 ?_
  refine sv_ifeq_b (tgt := 22) dX10_see_9 (by decide) (fun c9 => ?_) (fun c9 => ?_)
  · -- jump
    refine sv_bipush (v := (-2)) dX10_see_22 (by decide) ?_
    exact se_iret rfl ⟨rfl, rfl⟩ dX10_see_24 (by rw [ysee, if_neg (fun h => c9 h.1)]) (by rw [ysee, if_neg (fun h => c9 h.1)])
  · -- fall
    refine sv_iload_n 2 dX10_see_12 rfl ?_
    refine sv_i2l dX10_see_13 rfl ?_
    refine sv_lconst (v := 0) dX10_see_14 (by decide) ?_
    refine sv_lconst (v := 1) dX10_see_15 (by decide) ?_
    refine cSi3 (e_inI G _ _ b 0 1 _ _ _ rfl (by decide) (by decide)) ⟨rfl, rfl⟩ (sv_w4 ml_RX10_73 st_X10_in in_RX10 cd_X10_in) nm_X10_in ⟨Nat.le_of_ble_eq_true rfl, Nat.le_of_ble_eq_true rfl⟩ (Nat.le_of_ble_eq_true rfl) ⟨Nat.le_of_ble_eq_true rfl, Nat.le_of_ble_eq_true rfl⟩ dX10_see_16 ?_
    refine sv_ifne_b (tgt := 25) dX10_see_19 (by decide) (fun c19 => ?_) (fun c19 => ?_)
    · -- jump
      refine sv_aload_n 0 dX10_see_25 rfl ?_
      refine sg_10_15 sh_179 fl_RX10_195 dX10_see_26 ?_
      refine sv_bipush (v := 6) dX10_see_29 (by decide) ?_
      refine sv_icmp_ne (tgt := 37) dX10_see_31 (by decide) (fun c31 => ?_) (fun c31 => ?_)
      · -- jump
        refine sv_aload_n 0 dX10_see_37 rfl ?_
        refine sg_10_13 sh_179 fl_RX10_38 dX10_see_38 ?_
        refine sv_aload_n 0 dX10_see_41 rfl ?_
        refine sg_10_15 sh_179 fl_RX10_195 dX10_see_42 ?_
        refine sv_iload_n 1 dX10_see_45 rfl ?_
        refine sx_ist sh_189 (tn (S 179 15)) (nI_self hV.1) (by have := tn_le (M := 6) (k := 6) rfl (by decide) hV.1 hV.2; have : tn (S 179 15) ≠ 6 := fun z => c31 (by rw [nI_self hV.1, show (S 179 15).toNatClampNeg = 6 from z]; rfl); omega) dX10_see_46 ?_
        refine sv_aload_n 0 dX10_see_47 rfl ?_
        refine sg_10_14 sh_179 fl_RX10_41 dX10_see_48 ?_
        refine sv_aload_n 0 dX10_see_51 rfl ?_
        refine sg_10_15 sh_179 fl_RX10_195 dX10_see_52 ?_
        refine sv_topE (v' := S 179 15) (by rw [up2_row (by decide)]) ?_
        refine sv_iload_n 2 dX10_see_55 rfl ?_
        refine sx_ist sh_190 (tn (S 179 15)) (nI_self hV.1) (by have := tn_le (M := 6) (k := 6) rfl (by decide) hV.1 hV.2; have : tn (S 179 15) ≠ 6 := fun z => c31 (by rw [nI_self hV.1, show (S 179 15).toNatClampNeg = 6 from z]; rfl); omega) dX10_see_56 ?_
        refine sv_aload_n 0 dX10_see_57 rfl ?_
        refine sv_dup dX10_see_58 rfl ?_
        refine sg_10_15 sh_179 fl_RX10_195 dX10_see_59 ?_
        refine sv_topE (v' := S 179 15) (by rw [up2_row (by decide), up2_row (by decide)]) ?_
        refine sv_iconst (v := 1) dX10_see_62 (by decide) ?_
        refine sv_iadd dX10_see_63 ?_
        refine sp_10_15 sh_179 fl_RX10_195 dX10_see_64 ?_
        refine sv_aload_n 0 dX10_see_67 rfl ?_
        refine sg_10_15 sh_179 fl_RX10_195 dX10_see_68 ?_
        refine sv_topE (v' := S 179 15 + 1) (up2_same _ _ _ _) ?_
        exact se_iret rfl ⟨rfl, rfl⟩ dX10_see_71 (by rw [ysee, if_pos ⟨c9, c19⟩, if_neg c31]) (by rw [ysee, if_pos ⟨c9, c19⟩, if_neg c31])
      · -- fall
        refine sv_bipush (v := (-4)) dX10_see_34 (by decide) ?_
        exact se_iret rfl ⟨rfl, rfl⟩ dX10_see_36 (by rw [ysee, if_pos ⟨c9, c19⟩, if_pos c31]) (by rw [ysee, if_pos ⟨c9, c19⟩, if_pos c31])
    · -- fall
      refine sv_bipush (v := (-2)) dX10_see_22 (by decide) ?_
      exact se_iret rfl ⟨rfl, rfl⟩ dX10_see_24 (by rw [ysee, if_neg (fun h => c19 h.2)]) (by rw [ysee, if_neg (fun h => c19 h.2)])
set_option maxRecDepth 100000 in
set_option maxHeartbeats 4000000 in
theorem e_X10_unsee (G : GT) (S : Nat → Nat → Int32) (L : Nat → Int64)  : sE G yX10_unsee R_X10_unsee cX10_unsee 2 (some .int) [.ref (gB G + 179)] S L (some (.int (yunsee S).1)) (yunsee S).2 L := by
  refine sE.of (by decide) (Nat.le_of_ble_eq_true rfl) ?_
  show sv_V G R_X10_unsee RX10 "unsee" cX10_unsee 2 (some .int) (sPo G R_X10_unsee (some (.int (yunsee S).1)) (yunsee S).2 L) 0 0 197 (CF G S L) 0 [(0, .ref (gB G + 179))] []
  refine sv_aload_n 0 dX10_unsee_0 rfl ?_
  refine sg_10_15 sh_179 fl_RX10_195 dX10_unsee_1 ?_
  refine sv_istore_n (ls' := [(1, _), (0, _)]) dX10_unsee_4 (by decide) rfl ?_
  refine sv_aload_n 1 dX10_unsee_5 rfl ?_
  refine sv_iconst (v := 0) dX10_unsee_6 (by decide) ?_
  refine sp_10_15 sh_179 fl_RX10_195 dX10_unsee_7 ?_
  refine sv_iload_n 0 dX10_unsee_10 rfl ?_
  exact se_iret rfl ⟨rfl, rfl⟩ dX10_unsee_11 rfl rfl
