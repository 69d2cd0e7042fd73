set_option maxRecDepth 100000 in
set_option maxHeartbeats 4000000 in
theorem sw_X9_about_1 {G : GT} {R : Room} {own nm : String} {nL : Nat} {rt : Option FieldType} {Post : Option Value → Nat → Nat → Nat → (Nat → va_E) → Prop} {cells slots n : Nat} {f : Nat → va_E} {ls : List (Nat × Value)} {st : List Value} {x : Int32} (d : decode cX9_about 1 = .ok (.tableswitch 221 0 14 #[75, 83, 94, 105, 124, 135, 146, 157, 165, 173, 181, 189, 197, 205, 213], 75)) (k0 : x = 0 → sv_V G R own nm cX9_about nL rt Post cells slots n f 76 ls st) (k1 : x = 1 → sv_V G R own nm cX9_about nL rt Post cells slots n f 84 ls st) (k2 : x = 2 → sv_V G R own nm cX9_about nL rt Post cells slots n f 95 ls st) (k3 : x = 3 → sv_V G R own nm cX9_about nL rt Post cells slots n f 106 ls st) (k4 : x = 4 → sv_V G R own nm cX9_about nL rt Post cells slots n f 125 ls st) (k5 : x = 5 → sv_V G R own nm cX9_about nL rt Post cells slots n f 136 ls st) (k6 : x = 6 → sv_V G R own nm cX9_about nL rt Post cells slots n f 147 ls st) (k7 : x = 7 → sv_V G R own nm cX9_about nL rt Post cells slots n f 158 ls st) (k8 : x = 8 → sv_V G R own nm cX9_about nL rt Post cells slots n f 166 ls st) (k9 : x = 9 → sv_V G R own nm cX9_about nL rt Post cells slots n f 174 ls st) (k10 : x = 10 → sv_V G R own nm cX9_about nL rt Post cells slots n f 182 ls st) (k11 : x = 11 → sv_V G R own nm cX9_about nL rt Post cells slots n f 190 ls st) (k12 : x = 12 → sv_V G R own nm cX9_about nL rt Post cells slots n f 198 ls st) (k13 : x = 13 → sv_V G R own nm cX9_about nL rt Post cells slots n f 206 ls st) (k14 : x = 14 → sv_V G R own nm cX9_about nL rt Post cells slots n f 214 ls st) (kd : ¬ x = 0 ∧ ¬ x = 1 ∧ ¬ x = 2 ∧ ¬ x = 3 ∧ ¬ x = 4 ∧ ¬ x = 5 ∧ ¬ x = 6 ∧ ¬ x = 7 ∧ ¬ x = 8 ∧ ¬ x = 9 ∧ ¬ x = 10 ∧ ¬ x = 11 ∧ ¬ x = 12 ∧ ¬ x = 13 ∧ ¬ x = 14 → sv_V G R own nm cX9_about nL rt Post cells slots n f 222 ls st) : sv_V G R own nm cX9_about nL rt Post cells slots n f 1 ls (.int x :: st) := by
  by_cases h0 : x = 0
  · subst h0; exact sv_tableIn (tgt := 76) (off := 75) d (by decide) (by decide) (by decide) (by decide) (k0 rfl)
  by_cases h1 : x = 1
  · subst h1; exact sv_tableIn (tgt := 84) (off := 83) d (by decide) (by decide) (by decide) (by decide) (k1 rfl)
  by_cases h2 : x = 2
  · subst h2; exact sv_tableIn (tgt := 95) (off := 94) d (by decide) (by decide) (by decide) (by decide) (k2 rfl)
  by_cases h3 : x = 3
  · subst h3; exact sv_tableIn (tgt := 106) (off := 105) d (by decide) (by decide) (by decide) (by decide) (k3 rfl)
  by_cases h4 : x = 4
  · subst h4; exact sv_tableIn (tgt := 125) (off := 124) d (by decide) (by decide) (by decide) (by decide) (k4 rfl)
  by_cases h5 : x = 5
  · subst h5; exact sv_tableIn (tgt := 136) (off := 135) d (by decide) (by decide) (by decide) (by decide) (k5 rfl)
  by_cases h6 : x = 6
  · subst h6; exact sv_tableIn (tgt := 147) (off := 146) d (by decide) (by decide) (by decide) (by decide) (k6 rfl)
  by_cases h7 : x = 7
  · subst h7; exact sv_tableIn (tgt := 158) (off := 157) d (by decide) (by decide) (by decide) (by decide) (k7 rfl)
  by_cases h8 : x = 8
  · subst h8; exact sv_tableIn (tgt := 166) (off := 165) d (by decide) (by decide) (by decide) (by decide) (k8 rfl)
  by_cases h9 : x = 9
  · subst h9; exact sv_tableIn (tgt := 174) (off := 173) d (by decide) (by decide) (by decide) (by decide) (k9 rfl)
  by_cases h10 : x = 10
  · subst h10; exact sv_tableIn (tgt := 182) (off := 181) d (by decide) (by decide) (by decide) (by decide) (k10 rfl)
  by_cases h11 : x = 11
  · subst h11; exact sv_tableIn (tgt := 190) (off := 189) d (by decide) (by decide) (by decide) (by decide) (k11 rfl)
  by_cases h12 : x = 12
  · subst h12; exact sv_tableIn (tgt := 198) (off := 197) d (by decide) (by decide) (by decide) (by decide) (k12 rfl)
  by_cases h13 : x = 13
  · subst h13; exact sv_tableIn (tgt := 206) (off := 205) d (by decide) (by decide) (by decide) (by decide) (k13 rfl)
  by_cases h14 : x = 14
  · subst h14; exact sv_tableIn (tgt := 214) (off := 213) d (by decide) (by decide) (by decide) (by decide) (k14 rfl)
  refine sv_tableOut (tgt := 222) d ?_ (by decide) (kd ⟨h0, h1, h2, h3, h4, h5, h6, h7, h8, h9, h10, h11, h12, h13, h14⟩)
  have q0 := sw_ne h0 (by decide : (0 : Int32).toInt = 0)
  have q1 := sw_ne h1 (by decide : (1 : Int32).toInt = 1)
  have q2 := sw_ne h2 (by decide : (2 : Int32).toInt = 2)
  have q3 := sw_ne h3 (by decide : (3 : Int32).toInt = 3)
  have q4 := sw_ne h4 (by decide : (4 : Int32).toInt = 4)
  have q5 := sw_ne h5 (by decide : (5 : Int32).toInt = 5)
  have q6 := sw_ne h6 (by decide : (6 : Int32).toInt = 6)
  have q7 := sw_ne h7 (by decide : (7 : Int32).toInt = 7)
  have q8 := sw_ne h8 (by decide : (8 : Int32).toInt = 8)
  have q9 := sw_ne h9 (by decide : (9 : Int32).toInt = 9)
  have q10 := sw_ne h10 (by decide : (10 : Int32).toInt = 10)
  have q11 := sw_ne h11 (by decide : (11 : Int32).toInt = 11)
  have q12 := sw_ne h12 (by decide : (12 : Int32).toInt = 12)
  have q13 := sw_ne h13 (by decide : (13 : Int32).toInt = 13)
  have q14 := sw_ne h14 (by decide : (14 : Int32).toInt = 14)
  omega
set_option maxRecDepth 100000 in
set_option maxHeartbeats 4000000 in
theorem sw_X9_set_1 {G : GT} {R : Room} {own nm : String} {nL : Nat} {rt : Option FieldType} {Post : Option Value → Nat → Nat → Nat → (Nat → va_E) → Prop} {cells slots n : Nat} {f : Nat → va_E} {ls : List (Nat × Value)} {st : List Value} {x : Int32} (d : decode cX9_set 1 = .ok (.tableswitch 108 0 2 #[27, 55, 83], 27)) (k0 : x = 0 → sv_V G R own nm cX9_set nL rt Post cells slots n f 28 ls st) (k1 : x = 1 → sv_V G R own nm cX9_set nL rt Post cells slots n f 56 ls st) (k2 : x = 2 → sv_V G R own nm cX9_set nL rt Post cells slots n f 84 ls st) (kd : ¬ x = 0 ∧ ¬ x = 1 ∧ ¬ x = 2 → sv_V G R own nm cX9_set nL rt Post cells slots n f 109 ls st) : sv_V G R own nm cX9_set nL rt Post cells slots n f 1 ls (.int x :: st) := by
  by_cases h0 : x = 0
  · subst h0; exact sv_tableIn (tgt := 28) (off := 27) d (by decide) (by decide) (by decide) (by decide) (k0 rfl)
  by_cases h1 : x = 1
  · subst h1; exact sv_tableIn (tgt := 56) (off := 55) d (by decide) (by decide) (by decide) (by decide) (k1 rfl)
  by_cases h2 : x = 2
  · subst h2; exact sv_tableIn (tgt := 84) (off := 83) d (by decide) (by decide) (by decide) (by decide) (k2 rfl)
  refine sv_tableOut (tgt := 109) d ?_ (by decide) (kd ⟨h0, h1, h2⟩)
  have q0 := sw_ne h0 (by decide : (0 : Int32).toInt = 0)
  have q1 := sw_ne h1 (by decide : (1 : Int32).toInt = 1)
  have q2 := sw_ne h2 (by decide : (2 : Int32).toInt = 2)
  omega
def wfSt (S : Nat → Nat → Int32) (s : Nat) : Prop := wfM S (s + 1) ∧ wfK S s
/-- what SideStep's own cells keep to -/
def WX (S : Nat → Nat → Int32) : Prop := (¬ S 1 1 < 0 ∧ ¬ 80 < S 1 1) ∧ wfP S 3 ∧ wfSt S 13 ∧ (¬ S 29 1 < 0 ∧ ¬ 14 ≤ S 29 1) ∧ (¬ S 29 2 < 0 ∧ ¬ 14 < S 29 2) ∧ (∀ i, i < 14 → wfSt S (30 + 1 + 8 * i)) ∧ (∀ i, i < 2 → wfSt S (143 + 20 + 8 * i)) ∧ (¬ S 145 2 < 0 ∧ ¬ 6 < S 145 2)
/-- the state now is remembered -/
def ntS (S : Nat → Nat → Int32) : Nat → Nat → Int32 := rmS S (tn (S 29 1)) (tn (S 29 2))
theorem rmS_row {S : Nat → Nat → Int32} {x h k : Nat} (h29 : k ≠ 29) (hk : k < 31 + 8 * x ∨ 39 + 8 * x ≤ k) : rmS S x h k = S k := by
  unfold rmS
  rw [up2_row h29, up2_row h29, cpR_row (by omega)]
theorem ntS_row {S : Nat → Nat → Int32} {k : Nat} (hW : WX S) (h : k < 29 ∨ 143 ≤ k) : ntS S k = S k := by
  have := tn_lt (M := 14) (k := 14) rfl (by decide) hW.2.2.2.1.1 hW.2.2.2.1.2
  exact rmS_row (by omega) (by omega)
theorem wfSt_row {S S' : Nat → Nat → Int32} {s : Nat} (h : wfSt S s) (h0 : S' s = S s) (h1 : S' (s + 1) = S (s + 1)) : wfSt S' s := by
  unfold wfSt wfM wfK at h ⊢
  rw [h0, h1]
  exact h
theorem e_rem (G : GT) (S : Nat → Nat → Int32) (L : Nat → Int64) (hW : WX S) : sE G yX2_remember R_X2_remember cX2_remember 2 none [.ref (gB G + 29), .ref (gB G + 13)] S L none (ntS S) L :=
  e_X2_remember G S L _ _ (tn_lt (M := 14) (k := 14) rfl (by decide) hW.2.2.2.1.1 hW.2.2.2.1.2) (tn_le (M := 14) (k := 14) rfl (by decide) hW.2.2.2.2.1.1 hW.2.2.2.2.1.2) (nI_self hW.2.2.2.1.1) (nI_self hW.2.2.2.2.1.1) hW.2.2.1.1.2.2
def xwrite (S : Nat → Nat → Int32) (c : Int32) : Int32 × (Nat → Nat → Int32) := if c < 0 ∨ ¬ c ≤ 255 then (-2, S) else if ¬ S 1 1 < 80 then (-4, S) else (S 1 1 + 1, up2 (up2 S 2 (tn (S 1 1)) c) 1 1 (S 1 1 + 1))
def xwipe (S : Nat → Nat → Int32) : Int32 × (Nat → Nat → Int32) := (S 1 1, up2 S 1 1 0)
def xabout (S : Nat → Nat → Int32) (w : Int32) : Int32 := if w = 0 then S 3 4 else if w = 1 then S 14 4 else if w = 2 then S 14 3 else if w = 3 then (if S 14 5 = 0 then 0 else 1) else if w = 4 then S 14 6 else if w = 5 then S 14 7 else if w = 6 then armSetF S 18 else if w = 7 then S 13 4 else if w = 8 then S 13 3 else if w = 9 then S 13 5 else if w = 10 then S 13 6 else if w = 11 then diffL S 3 (tn (S 3 4)) 0 0 else if w = 12 then S 29 2 else if w = 13 then S 145 2 else if w = 14 then S 1 1 else -2
set_option maxRecDepth 100000 in
set_option maxHeartbeats 4000000 in
theorem e_X9_write (G : GT) (S : Nat → Nat → Int32) (L : Nat → Int64) (hW : WX S) (c : Int32) : sE G yX9_write R_X9_write cX9_write 2 (some .int) [.ref (gB G + 0), .int c] S L (some (.int (xwrite S c).1)) (xwrite S c).2 L := by
  refine sE.of (by decide) (Nat.le_of_ble_eq_true rfl) ?_
  show sv_V G R_X9_write RX9 "write" cX9_write 2 (some .int) (sPo G R_X9_write (some (.int (xwrite S c).1)) (xwrite S c).2 L) 0 0 197 (CF G S L) 0 [(0, .ref (gB G + 0)), (1, .int c)] []
  refine sv_iload_n 1 dX9_write_0 rfl ?_
  refine sv_if_lt (tgt := 11) dX9_write_1 (by decide) (fun c1 => ?_) (fun c1 => ?_)
  · -- jump
    refine sv_bipush (v := (-2)) dX9_write_11 (by decide) ?_
    exact se_iret rfl ⟨rfl, rfl⟩ dX9_write_13 (by rw [xwrite, if_pos (Or.inl c1)]) (by rw [xwrite, if_pos (Or.inl c1)])
  · -- fall
    refine sv_iload_n 1 dX9_write_4 rfl ?_
    refine sv_sipush (v := 255) dX9_write_5 (by decide) ?_
    refine sv_icmp_le (tgt := 14) dX9_write_8 (by decide) (fun c8 => ?_) (fun c8 => ?_)
    · -- jump
      refine sv_aload_n 0 dX9_write_14 rfl ?_
      refine sg_9_0 sh_0 fl_RX9_10 dX9_write_15 ?_
      refine sg_8_1 sh_1 fl_RX9_72 dX9_write_18 ?_
      refine sv_bipush (v := 80) dX9_write_21 (by decide) ?_
      refine sv_icmp_lt (tgt := 29) dX9_write_23 (by decide) (fun c23 => ?_) (fun c23 => ?_)
      · -- jump
        refine sv_aload_n 0 dX9_write_29 rfl ?_
        refine sg_9_0 sh_0 fl_RX9_10 dX9_write_30 ?_
        refine sg_8_0 sh_1 fl_RX9_76 dX9_write_33 ?_
        refine sv_aload_n 0 dX9_write_36 rfl ?_
        refine sg_9_0 sh_0 fl_RX9_10 dX9_write_37 ?_
        refine sg_8_1 sh_1 fl_RX9_72 dX9_write_40 ?_
        refine sv_iload_n 1 dX9_write_43 rfl ?_
        refine sx_ist sh_2 _ (nI_self hW.1.1) (tn_lt (M := 80) (k := 80) rfl (by decide) hW.1.1 (Int32.not_le.mpr c23)) dX9_write_44 ?_
        refine sv_aload_n 0 dX9_write_45 rfl ?_
        refine sg_9_0 sh_0 fl_RX9_10 dX9_write_46 ?_
        refine sv_dup dX9_write_49 rfl ?_
        refine sg_8_1 sh_1 fl_RX9_72 dX9_write_50 ?_
        refine sv_topE (v' := S 1 1) (by rw [up2_row (by omega)]) ?_
        refine sv_iconst (v := 1) dX9_write_53 (by decide) ?_
        refine sv_iadd dX9_write_54 ?_
        refine sp_8_1 sh_1 fl_RX9_72 dX9_write_55 ?_
        refine sv_aload_n 0 dX9_write_58 rfl ?_
        refine sg_9_0 sh_0 fl_RX9_10 dX9_write_59 ?_
        refine sg_8_1 sh_1 fl_RX9_72 dX9_write_62 ?_
        exact se_iret rfl ⟨rfl, rfl⟩ dX9_write_65 (by rw [xwrite, if_neg (fun h => h.elim c1 (fun z => z c8)), if_neg (fun h => h c23), up2_same]) (by rw [xwrite, if_neg (fun h => h.elim c1 (fun z => z c8)), if_neg (fun h => h c23)])
      · -- fall
        refine sv_bipush (v := (-4)) dX9_write_26 (by decide) ?_
        exact se_iret rfl ⟨rfl, rfl⟩ dX9_write_28 (by rw [xwrite, if_neg (fun h => h.elim c1 (fun z => z c8)), if_pos c23]) (by rw [xwrite, if_neg (fun h => h.elim c1 (fun z => z c8)), if_pos c23])
    · -- fall
      refine sv_bipush (v := (-2)) dX9_write_11 (by decide) ?_
      exact se_iret rfl ⟨rfl, rfl⟩ dX9_write_13 (by rw [xwrite, if_pos (Or.inr c8)]) (by rw [xwrite, if_pos (Or.inr c8)])
set_option maxRecDepth 100000 in
set_option maxHeartbeats 4000000 in
theorem e_X9_wipe (G : GT) (S : Nat → Nat → Int32) (L : Nat → Int64)  : sE G yX9_wipe R_X9_wipe cX9_wipe 2 (some .int) [.ref (gB G + 0)] S L (some (.int (xwipe S).1)) (xwipe S).2 L := by
  refine sE.of (by decide) (Nat.le_of_ble_eq_true rfl) ?_
  show sv_V G R_X9_wipe RX9 "wipe" cX9_wipe 2 (some .int) (sPo G R_X9_wipe (some (.int (xwipe S).1)) (xwipe S).2 L) 0 0 197 (CF G S L) 0 [(0, .ref (gB G + 0))] []
  refine sv_aload_n 0 dX9_wipe_0 rfl ?_
  refine sg_9_0 sh_0 fl_RX9_10 dX9_wipe_1 ?_
  refine sg_8_1 sh_1 fl_RX9_72 dX9_wipe_4 ?_
  refine sv_istore_n (ls' := [(1, _), (0, _)]) dX9_wipe_7 (by decide) rfl ?_
  refine sv_aload_n 1 dX9_wipe_8 rfl ?_
  refine sg_9_0 sh_0 fl_RX9_10 dX9_wipe_9 ?_
  refine sv_iconst (v := 0) dX9_wipe_12 (by decide) ?_
  refine sp_8_1 sh_1 fl_RX9_72 dX9_wipe_13 ?_
  refine sv_iload_n 0 dX9_wipe_16 rfl ?_
  exact se_iret rfl ⟨rfl, rfl⟩ dX9_wipe_17 rfl rfl
set_option maxRecDepth 100000 in
set_option maxHeartbeats 4000000 in
theorem e_X9_about (G : GT) (S : Nat → Nat → Int32) (L : Nat → Int64) (hW : WX S) (w : Int32) : sE G yX9_about R_X9_about cX9_about 2 (some .int) [.ref (gB G + 0), .int w] S L (some (.int (xabout S w))) S L := by
  refine sE.of (by decide) (Nat.le_of_ble_eq_true rfl) ?_
  show sv_V G R_X9_about RX9 "about" cX9_about 2 (some .int) (sPo G R_X9_about (some (.int (xabout S w))) S L) 0 0 197 (CF G S L) 0 [(0, .ref (gB G + 0)), (1, .int w)] []
  refine sv_iload_n 1 dX9_about_0 rfl ?_
  refine sw_X9_about_1 dX9_about_1 (fun c1 => ?_) (fun c1 => ?_) (fun c1 => ?_) (fun c1 => ?_) (fun c1 => ?_) (fun c1 => ?_) (fun c1 => ?_) (fun c1 => ?_) (fun c1 => ?_) (fun c1 => ?_) (fun c1 => ?_) (fun c1 => ?_) (fun c1 => ?_) (fun c1 => ?_) (fun c1 => ?_) (fun c1 => ?_)
  · -- case 0
    refine sv_aload_n 0 dX9_about_76 rfl ?_
    refine sg_9_1 sh_0 fl_RX9_19 dX9_about_77 ?_
    refine sg_4_4 isProg_3.1 fl_RX9_93 dX9_about_80 ?_
    exact se_iret rfl ⟨rfl, rfl⟩ dX9_about_83 (by subst c1; rw [xabout, if_pos rfl]) rfl
  · -- case 1
    refine sv_aload_n 0 dX9_about_84 rfl ?_
    refine sg_9_3 sh_0 fl_RX9_29 dX9_about_85 ?_
    refine sg_6_0 isState_13.1 fl_RX9_96 dX9_about_88 ?_
    refine sg_3_4 isState_13.2.1.1 fl_RX9_100 dX9_about_91 ?_
    exact se_iret rfl ⟨rfl, rfl⟩ dX9_about_94 (by subst c1; rw [xabout, if_neg (by decide), if_pos rfl]) rfl
  · -- case 2
    refine sv_aload_n 0 dX9_about_95 rfl ?_
    refine sg_9_3 sh_0 fl_RX9_29 dX9_about_96 ?_
    refine sg_6_0 isState_13.1 fl_RX9_96 dX9_about_99 ?_
    refine sg_3_3 isState_13.2.1.1 fl_RX9_105 dX9_about_102 ?_
    exact se_iret rfl ⟨rfl, rfl⟩ dX9_about_105 (by subst c1; rw [xabout, if_neg (by decide), if_neg (by decide), if_pos rfl]) rfl
  · -- case 3
    refine sv_aload_n 0 dX9_about_106 rfl ?_
    refine sg_9_3 sh_0 fl_RX9_29 dX9_about_107 ?_
    refine sg_6_0 isState_13.1 fl_RX9_96 dX9_about_110 ?_
    refine sg_3_5 isState_13.2.1.1 fl_RX9_108 dX9_about_113 ?_
    refine sv_if_eq (tgt := 123) dX9_about_116 (by decide) (fun c116 => ?_) (fun c116 => ?_)
    · -- jump
      refine sv_iconst (v := 0) dX9_about_123 (by decide) ?_
      exact se_iret rfl ⟨rfl, rfl⟩ dX9_about_124 (by subst c1; rw [xabout, if_neg (by decide), if_neg (by decide), if_neg (by decide), if_pos rfl, if_pos c116]) rfl
    · -- fall
      refine sv_iconst (v := 1) dX9_about_119 (by decide) ?_
      refine sv_goto (tgt := 124) dX9_about_120 (by decide) ?_
      exact se_iret rfl ⟨rfl, rfl⟩ dX9_about_124 (by subst c1; rw [xabout, if_neg (by decide), if_neg (by decide), if_neg (by decide), if_pos rfl, if_neg c116]) rfl
  · -- case 4
    refine sv_aload_n 0 dX9_about_125 rfl ?_
    refine sg_9_3 sh_0 fl_RX9_29 dX9_about_126 ?_
    refine sg_6_0 isState_13.1 fl_RX9_96 dX9_about_129 ?_
    refine sg_3_6 isState_13.2.1.1 fl_RX9_112 dX9_about_132 ?_
    exact se_iret rfl ⟨rfl, rfl⟩ dX9_about_135 (by subst c1; rw [xabout, if_neg (by decide), if_neg (by decide), if_neg (by decide), if_neg (by decide), if_pos rfl]) rfl
  · -- case 5
    refine sv_aload_n 0 dX9_about_136 rfl ?_
    refine sg_9_3 sh_0 fl_RX9_29 dX9_about_137 ?_
    refine sg_6_0 isState_13.1 fl_RX9_96 dX9_about_140 ?_
    refine sg_3_7 isState_13.2.1.1 fl_RX9_115 dX9_about_143 ?_
    exact se_iret rfl ⟨rfl, rfl⟩ dX9_about_146 (by subst c1; rw [xabout, if_neg (by decide), if_neg (by decide), if_neg (by decide), if_neg (by decide), if_neg (by decide), if_pos rfl]) rfl
  · -- case 6
    refine sv_aload_n 0 dX9_about_147 rfl ?_
    refine sg_9_3 sh_0 fl_RX9_29 dX9_about_148 ?_
    refine sg_6_1 isState_13.1 fl_RX9_118 dX9_about_151 ?_
    refine cVi0 (e_X0_armedSet G _ _ _ isState_13.2.2.1) ⟨rfl, rfl⟩ (sv_w5 ml_RX9_122 im_X0_armedSet sl_X0_armedSet in_RX0 cd_X0_armedSet) nm_X0_armedSet ⟨Nat.le_of_ble_eq_true rfl, Nat.le_of_ble_eq_true rfl⟩ rfl (CF_0 isState_13.2.2.1.1) (shp_lt isState_13.2.2.1.1 (by simp)) (Nat.le_of_ble_eq_true rfl) ⟨Nat.le_of_ble_eq_true rfl, Nat.le_of_ble_eq_true rfl⟩ dX9_about_154 ?_
    exact se_iret rfl ⟨rfl, rfl⟩ dX9_about_157 (by subst c1; rw [xabout, if_neg (by decide), if_neg (by decide), if_neg (by decide), if_neg (by decide), if_neg (by decide), if_neg (by decide), if_pos rfl]) rfl
  · -- case 7
    refine sv_aload_n 0 dX9_about_158 rfl ?_
    refine sg_9_3 sh_0 fl_RX9_29 dX9_about_159 ?_
    refine sg_6_4 isState_13.1 fl_RX9_128 dX9_about_162 ?_
    exact se_iret rfl ⟨rfl, rfl⟩ dX9_about_165 (by subst c1; rw [xabout, if_neg (by decide), if_neg (by decide), if_neg (by decide), if_neg (by decide), if_neg (by decide), if_neg (by decide), if_neg (by decide), if_pos rfl]) rfl
  · -- case 8
    refine sv_aload_n 0 dX9_about_166 rfl ?_
    refine sg_9_3 sh_0 fl_RX9_29 dX9_about_167 ?_
    refine sg_6_3 isState_13.1 fl_RX9_131 dX9_about_170 ?_
    exact se_iret rfl ⟨rfl, rfl⟩ dX9_about_173 (by subst c1; rw [xabout, if_neg (by decide), if_neg (by decide), if_neg (by decide), if_neg (by decide), if_neg (by decide), if_neg (by decide), if_neg (by decide), if_neg (by decide), if_pos rfl]) rfl
  · -- case 9
    refine sv_aload_n 0 dX9_about_174 rfl ?_
    refine sg_9_3 sh_0 fl_RX9_29 dX9_about_175 ?_
    refine sg_6_5 isState_13.1 fl_RX9_134 dX9_about_178 ?_
    exact se_iret rfl ⟨rfl, rfl⟩ dX9_about_181 (by subst c1; rw [xabout, if_neg (by decide), if_neg (by decide), if_neg (by decide), if_neg (by decide), if_neg (by decide), if_neg (by decide), if_neg (by decide), if_neg (by decide), if_neg (by decide), if_pos rfl]) rfl
  · -- case 10
    refine sv_aload_n 0 dX9_about_182 rfl ?_
    refine sg_9_3 sh_0 fl_RX9_29 dX9_about_183 ?_
    refine sg_6_6 isState_13.1 fl_RX9_137 dX9_about_186 ?_
    exact se_iret rfl ⟨rfl, rfl⟩ dX9_about_189 (by subst c1; rw [xabout, if_neg (by decide), if_neg (by decide), if_neg (by decide), if_neg (by decide), if_neg (by decide), if_neg (by decide), if_neg (by decide), if_neg (by decide), if_neg (by decide), if_neg (by decide), if_pos rfl]) rfl
  · -- case 11
    refine sv_aload_n 0 dX9_about_190 rfl ?_
    refine sg_9_1 sh_0 fl_RX9_19 dX9_about_191 ?_
    refine cVi0 (e_X4_different G _ _ _ isProg_3 (tn (S 3 4)) (tn_16 hW.2.1.1 hW.2.1.2.1) (nI_self hW.2.1.1)) ⟨rfl, rfl⟩ (sv_w5 ml_RX9_140 im_X4_different sl_X4_different in_RX4 cd_X4_different) nm_X4_different ⟨Nat.le_of_ble_eq_true rfl, Nat.le_of_ble_eq_true rfl⟩ rfl (CF_4 isProg_3.1) (shp_lt isProg_3.1 (by simp)) (Nat.le_of_ble_eq_true rfl) ⟨Nat.le_of_ble_eq_true rfl, Nat.le_of_ble_eq_true rfl⟩ dX9_about_194 ?_
    exact se_iret rfl ⟨rfl, rfl⟩ dX9_about_197 (by subst c1; rw [xabout, if_neg (by decide), if_neg (by decide), if_neg (by decide), if_neg (by decide), if_neg (by decide), if_neg (by decide), if_neg (by decide), if_neg (by decide), if_neg (by decide), if_neg (by decide), if_neg (by decide), if_pos rfl]) rfl
  · -- case 12
    refine sv_aload_n 0 dX9_about_198 rfl ?_
    refine sg_9_5 sh_0 fl_RX9_39 dX9_about_199 ?_
    refine sg_2_2 sh_29 fl_RX9_143 dX9_about_202 ?_
    exact se_iret rfl ⟨rfl, rfl⟩ dX9_about_205 (by subst c1; rw [xabout, if_neg (by decide), if_neg (by decide), if_neg (by decide), if_neg (by decide), if_neg (by decide), if_neg (by decide), if_neg (by decide), if_neg (by decide), if_neg (by decide), if_neg (by decide), if_neg (by decide), if_neg (by decide), if_pos rfl]) rfl
  · -- case 13
    refine sv_aload_n 0 dX9_about_206 rfl ?_
    refine sg_9_8 sh_0 fl_RX9_54 dX9_about_207 ?_
    refine sg_5_2 sh_145 fl_RX9_146 dX9_about_210 ?_
    exact se_iret rfl ⟨rfl, rfl⟩ dX9_about_213 (by subst c1; rw [xabout, if_neg (by decide), if_neg (by decide), if_neg (by decide), if_neg (by decide), if_neg (by decide), if_neg (by decide), if_neg (by decide), if_neg (by decide), if_neg (by decide), if_neg (by decide), if_neg (by decide), if_neg (by decide), if_neg (by decide), if_pos rfl]) rfl
  · -- case 14
    refine sv_aload_n 0 dX9_about_214 rfl ?_
    refine sg_9_0 sh_0 fl_RX9_10 dX9_about_215 ?_
    refine sg_8_1 sh_1 fl_RX9_72 dX9_about_218 ?_
    exact se_iret rfl ⟨rfl, rfl⟩ dX9_about_221 (by subst c1; rw [xabout, if_neg (by decide), if_neg (by decide), if_neg (by decide), if_neg (by decide), if_neg (by decide), if_neg (by decide), if_neg (by decide), if_neg (by decide), if_neg (by decide), if_neg (by decide), if_neg (by decide), if_neg (by decide), if_neg (by decide), if_neg (by decide), if_pos rfl]) rfl
  · -- case None
    refine sv_bipush (v := (-2)) dX9_about_222 (by decide) ?_
    exact se_iret rfl ⟨rfl, rfl⟩ dX9_about_224 (by obtain ⟨z0, z1, z2, z3, z4, z5, z6, z7, z8, z9, z10, z11, z12, z13, z14⟩ := c1; simp only [xabout, z0, z1, z2, z3, z4, z5, z6, z7, z8, z9, z10, z11, z12, z13, z14, ↓reduceIte]) rfl
def xregister (S : Nat → Nat → Int32) (r : Int32) : Int32 := if (¬ r < 0 ∧ ¬ 4 ≤ r) then S 15 (tn r) else -1
def xcell (S : Nat → Nat → Int32) (r : Int32) : Int32 := if (¬ r < 0 ∧ ¬ 8 ≤ r) then S 16 (tn r) else -1
def xstack (S : Nat → Nat → Int32) (r : Int32) : Int32 := if r < 0 then -9 else if S 14 3 ≤ r then -9 else S 17 (tn r)
def xcopy (S : Nat → Nat → Int32) (r : Int32) : Int32 := if r < 0 then -9 else if S 13 3 ≤ r then -9 else S 20 (tn r)
abbrev hasX (S : Nat → Nat → Int32) (p : Int32) : Prop := ¬ p < 0 ∧ ¬ S 3 4 ≤ p
def xbroken (S : Nat → Nat → Int32) (p w : Int32) : Int32 := if hasX S p then (if w < 0 ∨ ¬ w < 6 then -2 else S 19 (6 * tn p + tn w)) else -1
theorem has16 {S : Nat → Nat → Int32} {p : Int32} (hW : WX S) (h : hasX S p) : tn p < 16 := by
  have h1 := hasI h.1 h.2 hW.2.1.1
  have h2 := tn_16 hW.2.1.1 hW.2.1.2.1
  omega
theorem e_propX (G : GT) (S : Nat → Nat → Int32) (L : Nat → Int64) (q : Nat) (hq : isBrk q) (p w : Int32) (hp0 : ¬ p < 0) (hp : tn p < 16) (hw0 : ¬ w < 0) (hw : tn w < 6) : sE G yX0_property R_X0_property cX0_property 3 (some .int) [.ref (gB G + q), .int p, .int w] S L (some (.int (S (q + 1) (6 * tn p + tn w)))) S L := by
  have h := e_X0_property G S L q hq (tn p) (tn w) hp hw
  rw [← nI_self hp0, ← nI_self hw0] at h
  exact h
set_option maxRecDepth 100000 in
set_option maxHeartbeats 4000000 in
theorem e_X9_register (G : GT) (S : Nat → Nat → Int32) (L : Nat → Int64) (r : Int32) : sE G yX9_register R_X9_register cX9_register 2 (some .int) [.ref (gB G + 0), .int r] S L (some (.int (xregister S r))) S L := by
  refine sE.of (by decide) (Nat.le_of_ble_eq_true rfl) ?_
  show sv_V G R_X9_register RX9 "register" cX9_register 2 (some .int) (sPo G R_X9_register (some (.int (xregister S r))) S L) 0 0 197 (CF G S L) 0 [(0, .ref (gB G + 0)), (1, .int r)] []
  refine sv_iload_n 1 dX9_register_0 rfl ?_
  refine cSi1 (e_X9_isRegister G _ _ _) ⟨rfl, rfl⟩ (sv_w4 ml_RX9_149 st_X9_isRegister in_RX9 cd_X9_isRegister) nm_X9_isRegister ⟨Nat.le_of_ble_eq_true rfl, Nat.le_of_ble_eq_true rfl⟩ (Nat.le_of_ble_eq_true rfl) ⟨Nat.le_of_ble_eq_true rfl, Nat.le_of_ble_eq_true rfl⟩ dX9_register_1 ?_
  refine sv_ifeq_b (tgt := 22) dX9_register_4 (by decide) (fun c4 => ?_) (fun c4 => ?_)
  · -- jump
    refine sv_iconst (v := (-1)) dX9_register_22 (by decide) ?_
    exact se_iret rfl ⟨rfl, rfl⟩ dX9_register_23 (by rw [xregister, if_neg c4]) rfl
  · -- fall
    refine sv_aload_n 0 dX9_register_7 rfl ?_
    refine sg_9_3 sh_0 fl_RX9_29 dX9_register_8 ?_
    refine sg_6_0 isState_13.1 fl_RX9_96 dX9_register_11 ?_
    refine sg_3_0 isState_13.2.1.1 fl_RX9_153 dX9_register_14 ?_
    refine sv_iload_n 1 dX9_register_17 rfl ?_
    refine sx_ild isState_13.2.1.2.1 _ (nI_self c4.1) (tn_lt (M := 4) (k := 4) rfl (by decide) c4.1 c4.2) dX9_register_18 ?_
    refine sv_goto (tgt := 23) dX9_register_19 (by decide) ?_
    exact se_iret rfl ⟨rfl, rfl⟩ dX9_register_23 (by rw [xregister, if_pos c4]) rfl
set_option maxRecDepth 100000 in
set_option maxHeartbeats 4000000 in
theorem e_X9_cell (G : GT) (S : Nat → Nat → Int32) (L : Nat → Int64) (r : Int32) : sE G yX9_cell R_X9_cell cX9_cell 2 (some .int) [.ref (gB G + 0), .int r] S L (some (.int (xcell S r))) S L := by
  refine sE.of (by decide) (Nat.le_of_ble_eq_true rfl) ?_
  show sv_V G R_X9_cell RX9 "cell" cX9_cell 2 (some .int) (sPo G R_X9_cell (some (.int (xcell S r))) S L) 0 0 197 (CF G S L) 0 [(0, .ref (gB G + 0)), (1, .int r)] []
  refine sv_iload_n 1 dX9_cell_0 rfl ?_
  refine cSi1 (e_X9_isCell G _ _ _) ⟨rfl, rfl⟩ (sv_w4 ml_RX9_156 st_X9_isCell in_RX9 cd_X9_isCell) nm_X9_isCell ⟨Nat.le_of_ble_eq_true rfl, Nat.le_of_ble_eq_true rfl⟩ (Nat.le_of_ble_eq_true rfl) ⟨Nat.le_of_ble_eq_true rfl, Nat.le_of_ble_eq_true rfl⟩ dX9_cell_1 ?_
  refine sv_ifeq_b (tgt := 22) dX9_cell_4 (by decide) (fun c4 => ?_) (fun c4 => ?_)
  · -- jump
    refine sv_iconst (v := (-1)) dX9_cell_22 (by decide) ?_
    exact se_iret rfl ⟨rfl, rfl⟩ dX9_cell_23 (by rw [xcell, if_neg c4]) rfl
  · -- fall
    refine sv_aload_n 0 dX9_cell_7 rfl ?_
    refine sg_9_3 sh_0 fl_RX9_29 dX9_cell_8 ?_
    refine sg_6_0 isState_13.1 fl_RX9_96 dX9_cell_11 ?_
    refine sg_3_1 isState_13.2.1.1 fl_RX9_159 dX9_cell_14 ?_
    refine sv_iload_n 1 dX9_cell_17 rfl ?_
    refine sx_ild isState_13.2.1.2.2.1 _ (nI_self c4.1) (tn_lt (M := 8) (k := 8) rfl (by decide) c4.1 c4.2) dX9_cell_18 ?_
    refine sv_goto (tgt := 23) dX9_cell_19 (by decide) ?_
    exact se_iret rfl ⟨rfl, rfl⟩ dX9_cell_23 (by rw [xcell, if_pos c4]) rfl
theorem tn_lt2 {x y : Int32} {k : Nat} (hx : ¬ x < 0) (hxy : ¬ y ≤ x) (hy : ¬ y < 0) (hk : tn y ≤ k) : tn x < k := Nat.lt_of_lt_of_le (hasI hx hxy hy) hk
set_option maxRecDepth 100000 in
set_option maxHeartbeats 4000000 in
theorem e_X9_stack (G : GT) (S : Nat → Nat → Int32) (L : Nat → Int64) (hW : WX S) (r : Int32) : sE G yX9_stack R_X9_stack cX9_stack 2 (some .int) [.ref (gB G + 0), .int r] S L (some (.int (xstack S r))) S L := by
  refine sE.of (by decide) (Nat.le_of_ble_eq_true rfl) ?_
  show sv_V G R_X9_stack RX9 "stack" cX9_stack 2 (some .int) (sPo G R_X9_stack (some (.int (xstack S r))) S L) 0 0 197 (CF G S L) 0 [(0, .ref (gB G + 0)), (1, .int r)] []
  refine sv_iload_n 1 dX9_stack_0 rfl ?_
  refine sv_if_lt (tgt := 33) dX9_stack_1 (by decide) (fun c1 => ?_) (fun c1 => ?_)
  · -- jump
    refine sv_bipush (v := (-9)) dX9_stack_33 (by decide) ?_
    exact se_iret rfl ⟨rfl, rfl⟩ dX9_stack_35 (by rw [xstack, if_pos c1]) rfl
  · -- fall
    refine sv_iload_n 1 dX9_stack_4 rfl ?_
    refine sv_aload_n 0 dX9_stack_5 rfl ?_
    refine sg_9_3 sh_0 fl_RX9_29 dX9_stack_6 ?_
    refine sg_6_0 isState_13.1 fl_RX9_96 dX9_stack_9 ?_
    refine sg_3_3 isState_13.2.1.1 fl_RX9_105 dX9_stack_12 ?_
    refine sv_icmp_ge (tgt := 33) dX9_stack_15 (by decide) (fun c15 => ?_) (fun c15 => ?_)
    · -- jump
      refine sv_bipush (v := (-9)) dX9_stack_33 (by decide) ?_
      exact se_iret rfl ⟨rfl, rfl⟩ dX9_stack_35 (by rw [xstack, if_neg c1, if_pos c15]) rfl
    · -- fall
      refine sv_aload_n 0 dX9_stack_18 rfl ?_
      refine sg_9_3 sh_0 fl_RX9_29 dX9_stack_19 ?_
      refine sg_6_0 isState_13.1 fl_RX9_96 dX9_stack_22 ?_
      refine sg_3_2 isState_13.2.1.1 fl_RX9_162 dX9_stack_25 ?_
      refine sv_iload_n 1 dX9_stack_28 rfl ?_
      refine sx_ild isState_13.2.1.2.2.2 _ (nI_self c1) (tn_lt2 c1 c15 hW.2.2.1.1.1 (tn_le (M := 8) (k := 8) rfl (by decide) hW.2.2.1.1.1 hW.2.2.1.1.2.1)) dX9_stack_29 ?_
      refine sv_goto (tgt := 35) dX9_stack_30 (by decide) ?_
      exact se_iret rfl ⟨rfl, rfl⟩ dX9_stack_35 (by rw [xstack, if_neg c1, if_neg c15]) rfl
set_option maxRecDepth 100000 in
set_option maxHeartbeats 4000000 in
theorem e_X9_copy (G : GT) (S : Nat → Nat → Int32) (L : Nat → Int64) (hW : WX S) (r : Int32) : sE G yX9_copy R_X9_copy cX9_copy 2 (some .int) [.ref (gB G + 0), .int r] S L (some (.int (xcopy S r))) S L := by
  refine sE.of (by decide) (Nat.le_of_ble_eq_true rfl) ?_
  show sv_V G R_X9_copy RX9 "copy" cX9_copy 2 (some .int) (sPo G R_X9_copy (some (.int (xcopy S r))) S L) 0 0 197 (CF G S L) 0 [(0, .ref (gB G + 0)), (1, .int r)] []
  refine sv_iload_n 1 dX9_copy_0 rfl ?_
  refine sv_if_lt (tgt := 27) dX9_copy_1 (by decide) (fun c1 => ?_) (fun c1 => ?_)
  · -- jump
    refine sv_bipush (v := (-9)) dX9_copy_27 (by decide) ?_
    exact se_iret rfl ⟨rfl, rfl⟩ dX9_copy_29 (by rw [xcopy, if_pos c1]) rfl
  · -- fall
    refine sv_iload_n 1 dX9_copy_4 rfl ?_
    refine sv_aload_n 0 dX9_copy_5 rfl ?_
    refine sg_9_3 sh_0 fl_RX9_29 dX9_copy_6 ?_
    refine sg_6_3 isState_13.1 fl_RX9_131 dX9_copy_9 ?_
    refine sv_icmp_ge (tgt := 27) dX9_copy_12 (by decide) (fun c12 => ?_) (fun c12 => ?_)
    · -- jump
      refine sv_bipush (v := (-9)) dX9_copy_27 (by decide) ?_
      exact se_iret rfl ⟨rfl, rfl⟩ dX9_copy_29 (by rw [xcopy, if_neg c1, if_pos c12]) rfl
    · -- fall
      refine sv_aload_n 0 dX9_copy_15 rfl ?_
      refine sg_9_3 sh_0 fl_RX9_29 dX9_copy_16 ?_
      refine sg_6_2 isState_13.1 fl_RX9_172 dX9_copy_19 ?_
      refine sv_iload_n 1 dX9_copy_22 rfl ?_
      refine sx_ild isState_13.2.2.2 _ (nI_self c1) (tn_lt2 c1 c12 hW.2.2.1.2.1 (tn_le (M := 3) (k := 3) rfl (by decide) hW.2.2.1.2.1 hW.2.2.1.2.2)) dX9_copy_23 ?_
      refine sv_goto (tgt := 29) dX9_copy_24 (by decide) ?_
      exact se_iret rfl ⟨rfl, rfl⟩ dX9_copy_29 (by rw [xcopy, if_neg c1, if_neg c12]) rfl
set_option maxRecDepth 100000 in
set_option maxHeartbeats 4000000 in
theorem e_X9_broken (G : GT) (S : Nat → Nat → Int32) (L : Nat → Int64) (hW : WX S) (p w : Int32) : sE G yX9_broken R_X9_broken cX9_broken 3 (some .int) [.ref (gB G + 0), .int p, .int w] S L (some (.int (xbroken S p w))) S L := by
  refine sE.of (by decide) (Nat.le_of_ble_eq_true rfl) ?_
  show sv_V G R_X9_broken RX9 "broken" cX9_broken 3 (some .int) (sPo G R_X9_broken (some (.int (xbroken S p w))) S L) 0 0 197 (CF G S L) 0 [(0, .ref (gB G + 0)), (1, .int p), (2, .int w)] []
  refine sv_aload_n 0 dX9_broken_0 rfl ?_
  refine sg_9_1 sh_0 fl_RX9_19 dX9_broken_1 ?_
  refine sv_iload_n 1 dX9_broken_4 rfl ?_
  refine cVi1 (e_X4_has G _ _ _ isProg_3 _) ⟨rfl, rfl⟩ (sv_w5 ml_RX9_165 im_X4_has sl_X4_has in_RX4 cd_X4_has) nm_X4_has ⟨Nat.le_of_ble_eq_true rfl, Nat.le_of_ble_eq_true rfl⟩ rfl (CF_4 isProg_3.1) (shp_lt isProg_3.1 (by simp)) (Nat.le_of_ble_eq_true rfl) ⟨Nat.le_of_ble_eq_true rfl, Nat.le_of_ble_eq_true rfl⟩ dX9_broken_5 ?_
  refine sv_ifne_b (tgt := 13) dX9_broken_8 (by decide) (fun c8 => ?_) (fun c8 => ?_)
  · -- jump
    refine sv_iload_n 2 dX9_broken_13 rfl ?_
    refine sv_if_lt (tgt := 23) dX9_broken_14 (by decide) (fun c14 => ?_) (fun c14 => ?_)
    · -- jump
      refine sv_bipush (v := (-2)) dX9_broken_23 (by decide) ?_
      exact se_iret rfl ⟨rfl, rfl⟩ dX9_broken_25 (by rw [xbroken, if_pos c8, if_pos (Or.inl c14)]) rfl
    · -- fall
      refine sv_iload_n 2 dX9_broken_17 rfl ?_
      refine sv_bipush (v := 6) dX9_broken_18 (by decide) ?_
      refine sv_icmp_lt (tgt := 26) dX9_broken_20 (by decide) (fun c20 => ?_) (fun c20 => ?_)
      · -- jump
        refine sv_aload_n 0 dX9_broken_26 rfl ?_
        refine sg_9_3 sh_0 fl_RX9_29 dX9_broken_27 ?_
        refine sg_6_1 isState_13.1 fl_RX9_118 dX9_broken_30 ?_
        refine sv_iload_n 1 dX9_broken_33 rfl ?_
        refine sv_iload_n 2 dX9_broken_34 rfl ?_
        refine cVi2 (e_propX G _ _ _ isBrk_18 _ _ c8.1 (has16 hW c8) c14 (tn_lt (M := 6) (k := 6) rfl (by decide) c14 (Int32.not_le.mpr c20))) ⟨rfl, rfl⟩ (sv_w5 ml_RX9_168 im_X0_property sl_X0_property in_RX0 cd_X0_property) nm_X0_property ⟨Nat.le_of_ble_eq_true rfl, Nat.le_of_ble_eq_true rfl⟩ rfl (CF_0 isState_13.2.2.1.1) (shp_lt isState_13.2.2.1.1 (by simp)) (Nat.le_of_ble_eq_true rfl) ⟨Nat.le_of_ble_eq_true rfl, Nat.le_of_ble_eq_true rfl⟩ dX9_broken_35 ?_
        exact se_iret rfl ⟨rfl, rfl⟩ dX9_broken_38 (by rw [xbroken, if_pos c8, if_neg (fun h => h.elim c14 (fun z => z c20))]) rfl
      · -- fall
        refine sv_bipush (v := (-2)) dX9_broken_23 (by decide) ?_
        exact se_iret rfl ⟨rfl, rfl⟩ dX9_broken_25 (by rw [xbroken, if_pos c8, if_pos (Or.inr c20)]) rfl
  · -- fall
    refine sv_iconst (v := (-1)) dX9_broken_11 (by decide) ?_
    exact se_iret rfl ⟨rfl, rfl⟩ dX9_broken_12 (by rw [xbroken, if_neg c8]) rfl
def xplan (S : Nat → Nat → Int32) (p : Int32) : Int32 × (Nat → Nat → Int32) := if p < 0 ∨ ¬ p ≤ 3 then (-2, S) else if allowP S 13 p then pfF (ntS S) 13 3 p else (-3, S)
theorem ntS_wfS {S : Nat → Nat → Int32} (hW : WX S) : wfS (ntS S) 13 3 := by
  have hs := wfSt_row hW.2.2.1 (ntS_row hW (k := 13) (by omega)) (ntS_row hW (k := 14) (by omega))
  exact ⟨hs.1, hs.2, wfP_row hW.2.1 (ntS_row hW (by omega)) (ntS_row hW (by omega)) (ntS_row hW (by omega)) (ntS_row hW (by omega))⟩
set_option maxRecDepth 100000 in
set_option maxHeartbeats 4000000 in
theorem e_X9_plan (G : GT) (S : Nat → Nat → Int32) (L : Nat → Int64) (hW : WX S) (p : Int32) : sE G yX9_plan R_X9_plan cX9_plan 2 (some .int) [.ref (gB G + 0), .int p] S L (some (.int (xplan S p).1)) (xplan S p).2 L := by
  refine sE.of (by decide) (Nat.le_of_ble_eq_true rfl) ?_
  show sv_V G R_X9_plan RX9 "plan" cX9_plan 2 (some .int) (sPo G R_X9_plan (some (.int (xplan S p).1)) (xplan S p).2 L) 0 0 197 (CF G S L) 0 [(0, .ref (gB G + 0)), (1, .int p)] []
  refine sv_iload_n 1 dX9_plan_0 rfl ?_
  refine sv_if_lt (tgt := 9) dX9_plan_1 (by decide) (fun c1 => ?_) (fun c1 => ?_)
  · -- jump
    refine sv_bipush (v := (-2)) dX9_plan_9 (by decide) ?_
    exact se_iret rfl ⟨rfl, rfl⟩ dX9_plan_11 (by rw [xplan, if_pos (Or.inl c1)]) (by rw [xplan, if_pos (Or.inl c1)])
  · -- fall
    refine sv_iload_n 1 dX9_plan_4 rfl ?_
    refine sv_iconst (v := 3) dX9_plan_5 (by decide) ?_
    refine sv_icmp_le (tgt := 12) dX9_plan_6 (by decide) (fun c6 => ?_) (fun c6 => ?_)
    · -- jump
      refine sv_aload_n 0 dX9_plan_12 rfl ?_
      refine sg_9_3 sh_0 fl_RX9_29 dX9_plan_13 ?_
      refine sv_iload_n 1 dX9_plan_16 rfl ?_
      refine cVi1 (e_X6_allows G _ _ _ isState_13 _) ⟨rfl, rfl⟩ (sv_w5 ml_RX9_175 im_X6_allows sl_X6_allows in_RX6 cd_X6_allows) nm_X6_allows ⟨Nat.le_of_ble_eq_true rfl, Nat.le_of_ble_eq_true rfl⟩ rfl (CF_6 isState_13.1) (shp_lt isState_13.1 (by simp)) (Nat.le_of_ble_eq_true rfl) ⟨Nat.le_of_ble_eq_true rfl, Nat.le_of_ble_eq_true rfl⟩ dX9_plan_17 ?_
      refine sv_ifne_b (tgt := 26) dX9_plan_20 (by decide) (fun c20 => ?_) (fun c20 => ?_)
      · -- jump
        refine sv_aload_n 0 dX9_plan_26 rfl ?_
        refine sg_9_5 sh_0 fl_RX9_39 dX9_plan_27 ?_
        refine sv_aload_n 0 dX9_plan_30 rfl ?_
        refine sg_9_3 sh_0 fl_RX9_29 dX9_plan_31 ?_
        refine cVv1 (e_rem G _ _ hW) ⟨rfl, rfl⟩ (sv_w5 ml_RX9_178 im_X2_remember sl_X2_remember in_RX2 cd_X2_remember) nm_X2_remember ⟨Nat.le_of_ble_eq_true rfl, Nat.le_of_ble_eq_true rfl⟩ rfl (CF_2 sh_29) (shp_lt sh_29 (by simp)) (Nat.le_of_ble_eq_true rfl) ⟨Nat.le_of_ble_eq_true rfl, Nat.le_of_ble_eq_true rfl⟩ dX9_plan_34 ?_
        refine sv_aload_n 0 dX9_plan_37 rfl ?_
        refine sg_9_3 sh_0 fl_RX9_29 dX9_plan_38 ?_
        refine sv_iload_n 1 dX9_plan_41 rfl ?_
        refine sv_aload_n 0 dX9_plan_42 rfl ?_
        refine sg_9_1 sh_0 fl_RX9_19 dX9_plan_43 ?_
        refine cVi2 (e_X6_perform G _ _ _ isState_13 _ _ isProg_3 (by decide) (ntS_wfS hW)) ⟨rfl, rfl⟩ (sv_w5 ml_RX9_182 im_X6_perform sl_X6_perform in_RX6 cd_X6_perform) nm_X6_perform ⟨Nat.le_of_ble_eq_true rfl, Nat.le_of_ble_eq_true rfl⟩ rfl (CF_6 isState_13.1) (shp_lt isState_13.1 (by simp)) (Nat.le_of_ble_eq_true rfl) ⟨Nat.le_of_ble_eq_true rfl, Nat.le_of_ble_eq_true rfl⟩ dX9_plan_46 ?_
        exact se_iret rfl ⟨rfl, rfl⟩ dX9_plan_49 (by rw [xplan, if_neg (fun h => h.elim c1 (fun z => z c6)), if_pos c20]) (by rw [xplan, if_neg (fun h => h.elim c1 (fun z => z c6)), if_pos c20])
      · -- fall
        refine sv_bipush (v := (-3)) dX9_plan_23 (by decide) ?_
        exact se_iret rfl ⟨rfl, rfl⟩ dX9_plan_25 (by rw [xplan, if_neg (fun h => h.elim c1 (fun z => z c6)), if_neg c20]) (by rw [xplan, if_neg (fun h => h.elim c1 (fun z => z c6)), if_neg c20])
    · -- fall
      refine sv_bipush (v := (-2)) dX9_plan_9 (by decide) ?_
      exact se_iret rfl ⟨rfl, rfl⟩ dX9_plan_11 (by rw [xplan, if_pos (Or.inr c6)]) (by rw [xplan, if_pos (Or.inr c6)])
def xset (S : Nat → Nat → Int32) (w k v : Int32) : Int32 × (Nat → Nat → Int32) := if w = 0 then (if (¬ k < 0 ∧ ¬ 4 ≤ k) then (S 15 (tn k), up2 (ntS S) 15 (tn k) v) else (-1, S)) else if w = 1 then (if (¬ k < 0 ∧ ¬ 8 ≤ k) then (S 16 (tn k), up2 (ntS S) 16 (tn k) v) else (-1, S)) else if w = 2 then (if k = 0 ∧ hasX S v then (S 14 4, up2 (up2 (ntS S) 14 4 v) 14 5 0) else (-1, S)) else (-2, S)
set_option maxRecDepth 100000 in
set_option maxHeartbeats 4000000 in
theorem e_X9_exchange (G : GT) (S : Nat → Nat → Int32) (L : Nat → Int64) (hW : WX S) (q len : Nat) (hq : shp q = (11, len)) (hq29 : q < 29) (k : Int32) (hk0 : ¬ k < 0) (hk : tn k < len) (v : Int32) : sE G yX9_exchange R_X9_exchange cX9_exchange 5 (some .int) [.ref (gB G + 0), .ref (gB G + q), .int k, .int v] S L (some (.int (S q (tn k)))) (up2 (ntS S) q (tn k) v) L := by
  refine sE.of (by decide) (Nat.le_of_ble_eq_true rfl) ?_
  show sv_V G R_X9_exchange RX9 "exchange" cX9_exchange 5 (some .int) (sPo G R_X9_exchange (some (.int (S q (tn k)))) (up2 (ntS S) q (tn k) v) L) 0 0 197 (CF G S L) 0 [(0, .ref (gB G + 0)), (1, .ref (gB G + q)), (2, .int k), (3, .int v)] []
  refine sv_aload_n 0 dX9_exchange_0 rfl ?_
  refine sg_9_5 sh_0 fl_RX9_39 dX9_exchange_1 ?_
  refine sv_aload_n 0 dX9_exchange_4 rfl ?_
  refine sg_9_3 sh_0 fl_RX9_29 dX9_exchange_5 ?_
  refine cVv1 (e_rem G _ _ hW) ⟨rfl, rfl⟩ (sv_w5 ml_RX9_178 im_X2_remember sl_X2_remember in_RX2 cd_X2_remember) nm_X2_remember ⟨Nat.le_of_ble_eq_true rfl, Nat.le_of_ble_eq_true rfl⟩ rfl (CF_2 sh_29) (shp_lt sh_29 (by simp)) (Nat.le_of_ble_eq_true rfl) ⟨Nat.le_of_ble_eq_true rfl, Nat.le_of_ble_eq_true rfl⟩ dX9_exchange_8 ?_
  refine sv_aload_n 1 dX9_exchange_11 rfl ?_
  refine sv_iload_n 2 dX9_exchange_12 rfl ?_
  refine sx_ild hq _ (nI_self hk0) hk dX9_exchange_13 ?_
  refine sv_topE (v' := S q (tn k)) (by rw [ntS_row hW (by omega)]) ?_
  refine sv_istore (ls' := [(4, _), (0, _), (1, _), (2, _), (3, _)]) dX9_exchange_14 (by decide) rfl ?_
  refine sv_aload_n 2 dX9_exchange_16 rfl ?_
  refine sv_iload_n 3 dX9_exchange_17 rfl ?_
  refine sv_iload_n 4 dX9_exchange_18 rfl ?_
  refine sx_ist hq _ (nI_self hk0) hk dX9_exchange_19 ?_
  refine sv_iload 0 dX9_exchange_20 rfl ?_
  exact se_iret rfl ⟨rfl, rfl⟩ dX9_exchange_22 rfl rfl
set_option maxRecDepth 100000 in
set_option maxHeartbeats 4000000 in
theorem e_X9_moveCounter (G : GT) (S : Nat → Nat → Int32) (L : Nat → Int64) (hW : WX S) (v : Int32) : sE G yX9_moveCounter R_X9_moveCounter cX9_moveCounter 3 (some .int) [.ref (gB G + 0), .int v] S L (some (.int (S 14 4))) (up2 (up2 (ntS S) 14 4 v) 14 5 0) L := by
  refine sE.of (by decide) (Nat.le_of_ble_eq_true rfl) ?_
  show sv_V G R_X9_moveCounter RX9 "moveCounter" cX9_moveCounter 3 (some .int) (sPo G R_X9_moveCounter (some (.int (S 14 4))) (up2 (up2 (ntS S) 14 4 v) 14 5 0) L) 0 0 197 (CF G S L) 0 [(0, .ref (gB G + 0)), (1, .int v)] []
  refine sv_aload_n 0 dX9_moveCounter_0 rfl ?_
  refine sg_9_5 sh_0 fl_RX9_39 dX9_moveCounter_1 ?_
  refine sv_aload_n 0 dX9_moveCounter_4 rfl ?_
  refine sg_9_3 sh_0 fl_RX9_29 dX9_moveCounter_5 ?_
  refine cVv1 (e_rem G _ _ hW) ⟨rfl, rfl⟩ (sv_w5 ml_RX9_178 im_X2_remember sl_X2_remember in_RX2 cd_X2_remember) nm_X2_remember ⟨Nat.le_of_ble_eq_true rfl, Nat.le_of_ble_eq_true rfl⟩ rfl (CF_2 sh_29) (shp_lt sh_29 (by simp)) (Nat.le_of_ble_eq_true rfl) ⟨Nat.le_of_ble_eq_true rfl, Nat.le_of_ble_eq_true rfl⟩ dX9_moveCounter_8 ?_
  refine sv_aload_n 0 dX9_moveCounter_11 rfl ?_
  refine sg_9_3 sh_0 fl_RX9_29 dX9_moveCounter_12 ?_
  refine sg_6_0 isState_13.1 fl_RX9_96 dX9_moveCounter_15 ?_
  refine sg_3_4 isState_13.2.1.1 fl_RX9_100 dX9_moveCounter_18 ?_
  refine sv_topE (v' := S 14 4) (by rw [ntS_row hW (by omega)]) ?_
  refine sv_istore_n (ls' := [(2, _), (0, _), (1, _)]) dX9_moveCounter_21 (by decide) rfl ?_
  refine sv_aload_n 1 dX9_moveCounter_22 rfl ?_
  refine sg_9_3 sh_0 fl_RX9_29 dX9_moveCounter_23 ?_
  refine sg_6_0 isState_13.1 fl_RX9_96 dX9_moveCounter_26 ?_
  refine sv_iload_n 2 dX9_moveCounter_29 rfl ?_
  refine sp_3_4 isState_13.2.1.1 fl_RX9_100 dX9_moveCounter_30 ?_
  refine sv_aload_n 1 dX9_moveCounter_33 rfl ?_
  refine sg_9_3 sh_0 fl_RX9_29 dX9_moveCounter_34 ?_
  refine sg_6_0 isState_13.1 fl_RX9_96 dX9_moveCounter_37 ?_
  refine sv_iconst (v := 0) dX9_moveCounter_40 (by decide) ?_
  refine sp_3_5 isState_13.2.1.1 fl_RX9_108 (Or.inl rfl) dX9_moveCounter_41 ?_
  refine sv_iload_n 0 dX9_moveCounter_44 rfl ?_
  exact se_iret rfl ⟨rfl, rfl⟩ dX9_moveCounter_45 rfl rfl
set_option maxRecDepth 100000 in
set_option maxHeartbeats 4000000 in
theorem e_X9_set (G : GT) (S : Nat → Nat → Int32) (L : Nat → Int64) (hW : WX S) (w k v : Int32) : sE G yX9_set R_X9_set cX9_set 4 (some .int) [.ref (gB G + 0), .int w, .int k, .int v] S L (some (.int (xset S w k v).1)) (xset S w k v).2 L := by
  refine sE.of (by decide) (Nat.le_of_ble_eq_true rfl) ?_
  show sv_V G R_X9_set RX9 "set" cX9_set 4 (some .int) (sPo G R_X9_set (some (.int (xset S w k v).1)) (xset S w k v).2 L) 0 0 197 (CF G S L) 0 [(0, .ref (gB G + 0)), (1, .int w), (2, .int k), (3, .int v)] []
  refine sv_iload_n 1 dX9_set_0 rfl ?_
  refine sw_X9_set_1 dX9_set_1 (fun c1 => ?_) (fun c1 => ?_) (fun c1 => ?_) (fun c1 => ?_)
  · -- case 0
    refine sv_iload_n 2 dX9_set_28 rfl ?_
    refine cSi1 (e_X9_isRegister G _ _ _) ⟨rfl, rfl⟩ (sv_w4 ml_RX9_149 st_X9_isRegister in_RX9 cd_X9_isRegister) nm_X9_isRegister ⟨Nat.le_of_ble_eq_true rfl, Nat.le_of_ble_eq_true rfl⟩ (Nat.le_of_ble_eq_true rfl) ⟨Nat.le_of_ble_eq_true rfl, Nat.le_of_ble_eq_true rfl⟩ dX9_set_29 ?_
    refine sv_ifeq_b (tgt := 54) dX9_set_32 (by decide) (fun c32 => ?_) (fun c32 => ?_)
    · -- jump
      refine sv_iconst (v := (-1)) dX9_set_54 (by decide) ?_
      exact se_iret rfl ⟨rfl, rfl⟩ dX9_set_55 (by subst c1; rw [xset, if_pos rfl, if_neg c32]) (by subst c1; rw [xset, if_pos rfl, if_neg c32])
    · -- fall
      refine sv_aload_n 0 dX9_set_35 rfl ?_
      refine sv_aload_n 0 dX9_set_36 rfl ?_
      refine sg_9_3 sh_0 fl_RX9_29 dX9_set_37 ?_
      refine sg_6_0 isState_13.1 fl_RX9_96 dX9_set_40 ?_
      refine sg_3_0 isState_13.2.1.1 fl_RX9_153 dX9_set_43 ?_
      refine sv_iload_n 2 dX9_set_46 rfl ?_
      refine sv_iload_n 3 dX9_set_47 rfl ?_
      refine cVi3 (e_X9_exchange G _ _ hW _ _ isMach_14.2.1 (by omega) _ c32.1 (tn_lt (M := 4) (k := 4) rfl (by decide) c32.1 c32.2) _) ⟨rfl, rfl⟩ (sv_w5 ml_RX9_186 im_X9_exchange sl_X9_exchange in_RX9 cd_X9_exchange) nm_X9_exchange ⟨Nat.le_of_ble_eq_true rfl, Nat.le_of_ble_eq_true rfl⟩ rfl (CF_9 sh_0) (shp_lt sh_0 (by simp)) (Nat.le_of_ble_eq_true rfl) ⟨Nat.le_of_ble_eq_true rfl, Nat.le_of_ble_eq_true rfl⟩ dX9_set_48 ?_
      refine sv_goto (tgt := 55) dX9_set_51 (by decide) ?_
      exact se_iret rfl ⟨rfl, rfl⟩ dX9_set_55 (by subst c1; rw [xset, if_pos rfl, if_pos c32]) (by subst c1; rw [xset, if_pos rfl, if_pos c32])
  · -- case 1
    refine sv_iload_n 2 dX9_set_56 rfl ?_
    refine cSi1 (e_X9_isCell G _ _ _) ⟨rfl, rfl⟩ (sv_w4 ml_RX9_156 st_X9_isCell in_RX9 cd_X9_isCell) nm_X9_isCell ⟨Nat.le_of_ble_eq_true rfl, Nat.le_of_ble_eq_true rfl⟩ (Nat.le_of_ble_eq_true rfl) ⟨Nat.le_of_ble_eq_true rfl, Nat.le_of_ble_eq_true rfl⟩ dX9_set_57 ?_
    refine sv_ifeq_b (tgt := 82) dX9_set_60 (by decide) (fun c60 => ?_) (fun c60 => ?_)
    · -- jump
      refine sv_iconst (v := (-1)) dX9_set_82 (by decide) ?_
      exact se_iret rfl ⟨rfl, rfl⟩ dX9_set_83 (by subst c1; rw [xset, if_neg (by decide), if_pos rfl, if_neg c60]) (by subst c1; rw [xset, if_neg (by decide), if_pos rfl, if_neg c60])
    · -- fall
      refine sv_aload_n 0 dX9_set_63 rfl ?_
      refine sv_aload_n 0 dX9_set_64 rfl ?_
      refine sg_9_3 sh_0 fl_RX9_29 dX9_set_65 ?_
      refine sg_6_0 isState_13.1 fl_RX9_96 dX9_set_68 ?_
      refine sg_3_1 isState_13.2.1.1 fl_RX9_159 dX9_set_71 ?_
      refine sv_iload_n 2 dX9_set_74 rfl ?_
      refine sv_iload_n 3 dX9_set_75 rfl ?_
      refine cVi3 (e_X9_exchange G _ _ hW _ _ isMach_14.2.2.1 (by omega) _ c60.1 (tn_lt (M := 8) (k := 8) rfl (by decide) c60.1 c60.2) _) ⟨rfl, rfl⟩ (sv_w5 ml_RX9_186 im_X9_exchange sl_X9_exchange in_RX9 cd_X9_exchange) nm_X9_exchange ⟨Nat.le_of_ble_eq_true rfl, Nat.le_of_ble_eq_true rfl⟩ rfl (CF_9 sh_0) (shp_lt sh_0 (by simp)) (Nat.le_of_ble_eq_true rfl) ⟨Nat.le_of_ble_eq_true rfl, Nat.le_of_ble_eq_true rfl⟩ dX9_set_76 ?_
      refine sv_goto (tgt := 83) dX9_set_79 (by decide) ?_
      exact se_iret rfl ⟨rfl, rfl⟩ dX9_set_83 (by subst c1; rw [xset, if_neg (by decide), if_pos rfl, if_pos c60]) (by subst c1; rw [xset, if_neg (by decide), if_pos rfl, if_pos c60])
  · -- case 2
    refine sv_iload_n 2 dX9_set_84 rfl ?_
    refine sv_if_ne (tgt := 107) dX9_set_85 (by decide) (fun c85 => ?_) (fun c85 => ?_)
    · -- jump
      refine sv_iconst (v := (-1)) dX9_set_107 (by decide) ?_
      exact se_iret rfl ⟨rfl, rfl⟩ dX9_set_108 (by subst c1; rw [xset, if_neg (by decide), if_neg (by decide), if_pos rfl, if_neg (fun h => c85 h.1)]) (by subst c1; rw [xset, if_neg (by decide), if_neg (by decide), if_pos rfl, if_neg (fun h => c85 h.1)])
    · -- fall
      refine sv_aload_n 0 dX9_set_88 rfl ?_
      refine sg_9_1 sh_0 fl_RX9_19 dX9_set_89 ?_
      refine sv_iload_n 3 dX9_set_92 rfl ?_
      refine cVi1 (e_X4_has G _ _ _ isProg_3 _) ⟨rfl, rfl⟩ (sv_w5 ml_RX9_165 im_X4_has sl_X4_has in_RX4 cd_X4_has) nm_X4_has ⟨Nat.le_of_ble_eq_true rfl, Nat.le_of_ble_eq_true rfl⟩ rfl (CF_4 isProg_3.1) (shp_lt isProg_3.1 (by simp)) (Nat.le_of_ble_eq_true rfl) ⟨Nat.le_of_ble_eq_true rfl, Nat.le_of_ble_eq_true rfl⟩ dX9_set_93 ?_
      refine sv_ifeq_b (tgt := 107) dX9_set_96 (by decide) (fun c96 => ?_) (fun c96 => ?_)
      · -- jump
        refine sv_iconst (v := (-1)) dX9_set_107 (by decide) ?_
        exact se_iret rfl ⟨rfl, rfl⟩ dX9_set_108 (by subst c1; rw [xset, if_neg (by decide), if_neg (by decide), if_pos rfl, if_neg (fun h => c96 h.2)]) (by subst c1; rw [xset, if_neg (by decide), if_neg (by decide), if_pos rfl, if_neg (fun h => c96 h.2)])
      · -- fall
        refine sv_aload_n 0 dX9_set_99 rfl ?_
        refine sv_iload_n 3 dX9_set_100 rfl ?_
        refine cVi1 (e_X9_moveCounter G _ _ hW _) ⟨rfl, rfl⟩ (sv_w5 ml_RX9_190 im_X9_moveCounter sl_X9_moveCounter in_RX9 cd_X9_moveCounter) nm_X9_moveCounter ⟨Nat.le_of_ble_eq_true rfl, Nat.le_of_ble_eq_true rfl⟩ rfl (CF_9 sh_0) (shp_lt sh_0 (by simp)) (Nat.le_of_ble_eq_true rfl) ⟨Nat.le_of_ble_eq_true rfl, Nat.le_of_ble_eq_true rfl⟩ dX9_set_101 ?_
        refine sv_goto (tgt := 108) dX9_set_104 (by decide) ?_
        exact se_iret rfl ⟨rfl, rfl⟩ dX9_set_108 (by subst c1; rw [xset, if_neg (by decide), if_neg (by decide), if_pos rfl, if_pos ⟨c85, c96⟩]) (by subst c1; rw [xset, if_neg (by decide), if_neg (by decide), if_pos rfl, if_pos ⟨c85, c96⟩])
  · -- case None
    refine sv_bipush (v := (-2)) dX9_set_109 (by decide) ?_
    exact se_iret rfl ⟨rfl, rfl⟩ dX9_set_111 (by obtain ⟨z0, z1, z2⟩ := c1; rw [xset, if_neg z0, if_neg z1, if_neg z2]) (by obtain ⟨z0, z1, z2⟩ := c1; rw [xset, if_neg z0, if_neg z1, if_neg z2])
