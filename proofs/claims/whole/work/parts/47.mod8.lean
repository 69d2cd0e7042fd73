set_option maxRecDepth 100000 in
set_option maxHeartbeats 4000000 in
theorem sw_X10_kindOf_1 {G : GT} {R : Room} {own nm : String} {nL : Nat} {rt : Option FieldType} {Post : Option Value → Nat → Nat → Nat → (Nat → va_E) → Prop} {cells slots n : Nat} {f : Nat → va_E} {ls : List (Nat × Value)} {st : List Value} {x : Int32} (d : decode cX10_kindOf 1 = .ok (.lookupswitch 137 #[(43, 109), (45, 111), (98, 125), (99, 122), (104, 134), (105, 107), (106, 117), (107, 128), (108, 113), (111, 131), (115, 115), (122, 119)], 107)) (k0 : x = 43 → sv_V G R own nm cX10_kindOf nL rt Post cells slots n f 110 ls st) (k1 : x = 45 → sv_V G R own nm cX10_kindOf nL rt Post cells slots n f 112 ls st) (k2 : x = 98 → sv_V G R own nm cX10_kindOf nL rt Post cells slots n f 126 ls st) (k3 : x = 99 → sv_V G R own nm cX10_kindOf nL rt Post cells slots n f 123 ls st) (k4 : x = 104 → sv_V G R own nm cX10_kindOf nL rt Post cells slots n f 135 ls st) (k5 : x = 105 → sv_V G R own nm cX10_kindOf nL rt Post cells slots n f 108 ls st) (k6 : x = 106 → sv_V G R own nm cX10_kindOf nL rt Post cells slots n f 118 ls st) (k7 : x = 107 → sv_V G R own nm cX10_kindOf nL rt Post cells slots n f 129 ls st) (k8 : x = 108 → sv_V G R own nm cX10_kindOf nL rt Post cells slots n f 114 ls st) (k9 : x = 111 → sv_V G R own nm cX10_kindOf nL rt Post cells slots n f 132 ls st) (k10 : x = 115 → sv_V G R own nm cX10_kindOf nL rt Post cells slots n f 116 ls st) (k11 : x = 122 → sv_V G R own nm cX10_kindOf nL rt Post cells slots n f 120 ls st) (kd : ¬ x = 43 ∧ ¬ x = 45 ∧ ¬ x = 98 ∧ ¬ x = 99 ∧ ¬ x = 104 ∧ ¬ x = 105 ∧ ¬ x = 106 ∧ ¬ x = 107 ∧ ¬ x = 108 ∧ ¬ x = 111 ∧ ¬ x = 115 ∧ ¬ x = 122 → sv_V G R own nm cX10_kindOf nL rt Post cells slots n f 138 ls st) : sv_V G R own nm cX10_kindOf nL rt Post cells slots n f 1 ls (.int x :: st) := by
  by_cases h0 : x = 43
  · subst h0; exact sv_lookup (tgt := 110) (off := 109) d (by decide) (by decide) (by decide) (k0 rfl)
  by_cases h1 : x = 45
  · subst h1; exact sv_lookup (tgt := 112) (off := 111) d (by decide) (by decide) (by decide) (k1 rfl)
  by_cases h2 : x = 98
  · subst h2; exact sv_lookup (tgt := 126) (off := 125) d (by decide) (by decide) (by decide) (k2 rfl)
  by_cases h3 : x = 99
  · subst h3; exact sv_lookup (tgt := 123) (off := 122) d (by decide) (by decide) (by decide) (k3 rfl)
  by_cases h4 : x = 104
  · subst h4; exact sv_lookup (tgt := 135) (off := 134) d (by decide) (by decide) (by decide) (k4 rfl)
  by_cases h5 : x = 105
  · subst h5; exact sv_lookup (tgt := 108) (off := 107) d (by decide) (by decide) (by decide) (k5 rfl)
  by_cases h6 : x = 106
  · subst h6; exact sv_lookup (tgt := 118) (off := 117) d (by decide) (by decide) (by decide) (k6 rfl)
  by_cases h7 : x = 107
  · subst h7; exact sv_lookup (tgt := 129) (off := 128) d (by decide) (by decide) (by decide) (k7 rfl)
  by_cases h8 : x = 108
  · subst h8; exact sv_lookup (tgt := 114) (off := 113) d (by decide) (by decide) (by decide) (k8 rfl)
  by_cases h9 : x = 111
  · subst h9; exact sv_lookup (tgt := 132) (off := 131) d (by decide) (by decide) (by decide) (k9 rfl)
  by_cases h10 : x = 115
  · subst h10; exact sv_lookup (tgt := 116) (off := 115) d (by decide) (by decide) (by decide) (k10 rfl)
  by_cases h11 : x = 122
  · subst h11; exact sv_lookup (tgt := 120) (off := 119) d (by decide) (by decide) (by decide) (k11 rfl)
  refine sv_lookup (tgt := 138) (off := 137) d (by decide) ?_ (by decide) (kd ⟨h0, h1, h2, h3, h4, h5, h6, h7, h8, h9, h10, h11⟩)
  show Op.lookupswitch.offset [(43, 109), (45, 111), (98, 125), (99, 122), (104, 134), (105, 107), (106, 117), (107, 128), (108, 113), (111, 131), (115, 115), (122, 119)] 137 x.toInt = _
  rw [lv_osw h0 (by decide), lv_osw h1 (by decide), lv_osw h2 (by decide), lv_osw h3 (by decide), lv_osw h4 (by decide), lv_osw h5 (by decide), lv_osw h6 (by decide), lv_osw h7 (by decide), lv_osw h8 (by decide), lv_osw h9 (by decide), lv_osw h10 (by decide), lv_osw h11 (by decide)]
  rfl
def ykF (c : Int32) : Int32 := if c = 43 then 1 else if c = 45 then 2 else if c = 98 then 8 else if c = 99 then 7 else if c = 104 then 11 else if c = 105 then 0 else if c = 106 then 5 else if c = 107 then 9 else if c = 108 then 3 else if c = 111 then 10 else if c = 115 then 4 else if c = 122 then 6 else -9
set_option maxRecDepth 100000 in
set_option maxHeartbeats 4000000 in
theorem e_X10_kindOf (G : GT) (S : Nat → Nat → Int32) (L : Nat → Int64) (c : Int32) : sE G yX10_kindOf R_X10_kindOf cX10_kindOf 1 (some .int) [.int c] S L (some (.int (ykF c))) S L := by
  refine sE.of (by decide) (Nat.le_of_ble_eq_true rfl) ?_
  show sv_V G R_X10_kindOf RX10 "kindOf" cX10_kindOf 1 (some .int) (sPo G R_X10_kindOf (some (.int (ykF c))) S L) 0 0 197 (CF G S L) 0 [(0, .int c)] []
  refine sv_iload_n 0 dX10_kindOf_0 rfl ?_
  refine sw_X10_kindOf_1 dX10_kindOf_1 (fun c1 => ?_) (fun c1 => ?_) (fun c1 => ?_) (fun c1 => ?_) (fun c1 => ?_) (fun c1 => ?_) (fun c1 => ?_) (fun c1 => ?_) (fun c1 => ?_) (fun c1 => ?_) (fun c1 => ?_) (fun c1 => ?_) (fun c1 => ?_)
  · -- case 43
    refine sv_iconst (v := 1) dX10_kindOf_110 (by decide) ?_
    exact se_iret rfl ⟨rfl, rfl⟩ dX10_kindOf_111 (by rw [ykF, if_pos c1]) rfl
  · -- case 45
    refine sv_iconst (v := 2) dX10_kindOf_112 (by decide) ?_
    exact se_iret rfl ⟨rfl, rfl⟩ dX10_kindOf_113 (by rw [ykF, if_neg (by rw [c1]; decide), if_pos c1]) rfl
  · -- case 98
    refine sv_bipush (v := 8) dX10_kindOf_126 (by decide) ?_
    exact se_iret rfl ⟨rfl, rfl⟩ dX10_kindOf_128 (by rw [ykF, if_neg (by rw [c1]; decide), if_neg (by rw [c1]; decide), if_pos c1]) rfl
  · -- case 99
    refine sv_bipush (v := 7) dX10_kindOf_123 (by decide) ?_
    exact se_iret rfl ⟨rfl, rfl⟩ dX10_kindOf_125 (by rw [ykF, if_neg (by rw [c1]; decide), if_neg (by rw [c1]; decide), if_neg (by rw [c1]; decide), if_pos c1]) rfl
  · -- case 104
    refine sv_bipush (v := 11) dX10_kindOf_135 (by decide) ?_
    exact se_iret rfl ⟨rfl, rfl⟩ dX10_kindOf_137 (by rw [ykF, if_neg (by rw [c1]; decide), if_neg (by rw [c1]; decide), if_neg (by rw [c1]; decide), if_neg (by rw [c1]; decide), if_pos c1]) rfl
  · -- case 105
    refine sv_iconst (v := 0) dX10_kindOf_108 (by decide) ?_
    exact se_iret rfl ⟨rfl, rfl⟩ dX10_kindOf_109 (by rw [ykF, if_neg (by rw [c1]; decide), if_neg (by rw [c1]; decide), if_neg (by rw [c1]; decide), if_neg (by rw [c1]; decide), if_neg (by rw [c1]; decide), if_pos c1]) rfl
  · -- case 106
    refine sv_iconst (v := 5) dX10_kindOf_118 (by decide) ?_
    exact se_iret rfl ⟨rfl, rfl⟩ dX10_kindOf_119 (by rw [ykF, if_neg (by rw [c1]; decide), if_neg (by rw [c1]; decide), if_neg (by rw [c1]; decide), if_neg (by rw [c1]; decide), if_neg (by rw [c1]; decide), if_neg (by rw [c1]; decide), if_pos c1]) rfl
  · -- case 107
    refine sv_bipush (v := 9) dX10_kindOf_129 (by decide) ?_
    exact se_iret rfl ⟨rfl, rfl⟩ dX10_kindOf_131 (by rw [ykF, if_neg (by rw [c1]; decide), if_neg (by rw [c1]; decide), if_neg (by rw [c1]; decide), if_neg (by rw [c1]; decide), if_neg (by rw [c1]; decide), if_neg (by rw [c1]; decide), if_neg (by rw [c1]; decide), if_pos c1]) rfl
  · -- case 108
    refine sv_iconst (v := 3) dX10_kindOf_114 (by decide) ?_
    exact se_iret rfl ⟨rfl, rfl⟩ dX10_kindOf_115 (by rw [ykF, if_neg (by rw [c1]; decide), if_neg (by rw [c1]; decide), if_neg (by rw [c1]; decide), if_neg (by rw [c1]; decide), if_neg (by rw [c1]; decide), if_neg (by rw [c1]; decide), if_neg (by rw [c1]; decide), if_neg (by rw [c1]; decide), if_pos c1]) rfl
  · -- case 111
    refine sv_bipush (v := 10) dX10_kindOf_132 (by decide) ?_
    exact se_iret rfl ⟨rfl, rfl⟩ dX10_kindOf_134 (by rw [ykF, if_neg (by rw [c1]; decide), if_neg (by rw [c1]; decide), if_neg (by rw [c1]; decide), if_neg (by rw [c1]; decide), if_neg (by rw [c1]; decide), if_neg (by rw [c1]; decide), if_neg (by rw [c1]; decide), if_neg (by rw [c1]; decide), if_neg (by rw [c1]; decide), if_pos c1]) rfl
  · -- case 115
    refine sv_iconst (v := 4) dX10_kindOf_116 (by decide) ?_
    exact se_iret rfl ⟨rfl, rfl⟩ dX10_kindOf_117 (by rw [ykF, if_neg (by rw [c1]; decide), if_neg (by rw [c1]; decide), if_neg (by rw [c1]; decide), if_neg (by rw [c1]; decide), if_neg (by rw [c1]; decide), if_neg (by rw [c1]; decide), if_neg (by rw [c1]; decide), if_neg (by rw [c1]; decide), if_neg (by rw [c1]; decide), if_neg (by rw [c1]; decide), if_pos c1]) rfl
  · -- case 122
    refine sv_bipush (v := 6) dX10_kindOf_120 (by decide) ?_
    exact se_iret rfl ⟨rfl, rfl⟩ dX10_kindOf_122 (by rw [ykF, if_neg (by rw [c1]; decide), if_neg (by rw [c1]; decide), if_neg (by rw [c1]; decide), if_neg (by rw [c1]; decide), if_neg (by rw [c1]; decide), if_neg (by rw [c1]; decide), if_neg (by rw [c1]; decide), if_neg (by rw [c1]; decide), if_neg (by rw [c1]; decide), if_neg (by rw [c1]; decide), if_neg (by rw [c1]; decide), if_pos c1]) rfl
  · -- case None
    refine sv_bipush (v := (-9)) dX10_kindOf_138 (by decide) ?_
    exact se_iret rfl ⟨rfl, rfl⟩ dX10_kindOf_140 (by obtain ⟨z0, z1, z2, z3, z4, z5, z6, z7, z8, z9, z10, z11⟩ := c1; rw [ykF, if_neg z0, if_neg z1, if_neg z2, if_neg z3, if_neg z4, if_neg z5, if_neg z6, if_neg z7, if_neg z8, if_neg z9, if_neg z10, if_neg z11]) rfl
abbrev rM (S : Nat → Nat → Int32) : Nat := tn (S 179 23)
def wfZ (S : Nat → Nat → Int32) : Prop := (¬ S 179 23 < 0 ∧ ¬ 16 < S 179 23) ∧ (¬ S 179 22 = 0 → ¬ S 179 23 = 16)
theorem rM_lt {S : Nat → Nat → Int32} (h : ¬ S 179 23 < 0 ∧ ¬ 16 < S 179 23) (h2 : ¬ S 179 23 = 16) : rM S < 16 := by
  have h3 := tn_16 h.1 h.2
  have : tn (S 179 23) ≠ 16 := fun z => h2 (by rw [nI_self h.1, show (S 179 23).toNatClampNeg = 16 from z]; rfl)
  show tn (S 179 23) < 16
  omega
abbrev tsP (S : Nat → Nat → Int32) (c : Int32) : Prop := ¬ ykF c = -9 ∧ ¬ S 179 23 = 16
def ts3 (S : Nat → Nat → Int32) (k : Int32) : Nat → Nat → Int32 := up2 (up2 (up2 S 194 (rM S) k) 195 (rM S) 0) 196 (rM S) 0
def tsS (S : Nat → Nat → Int32) (c : Int32) : Nat → Nat → Int32 := if tsP S c then (if ykF c = 8 ∨ ykF c = 11 then up2 (ts3 S (ykF c)) 179 23 (S 179 23 + 1) else up2 (ts3 S (ykF c)) 179 22 1) else S
def enS (S : Nat → Nat → Int32) : Nat → Nat → Int32 := up2 (up2 S 179 23 (S 179 23 + 1)) 179 22 0
theorem nrB (P : Prop) [Decidable P] : narrow .boolean (.int (if P then 1 else 0)) = .int (if P then 1 else 0) := by split <;> rfl
set_option maxRecDepth 100000 in
set_option maxHeartbeats 4000000 in
theorem e_X10_takeSign (G : GT) (S : Nat → Nat → Int32) (L : Nat → Int64) (hz : ¬ S 179 23 < 0 ∧ ¬ 16 < S 179 23) (c : Int32) : sE G yX10_takeSign R_X10_takeSign cX10_takeSign 3 (some .boolean) [.ref (gB G + 179), .int c] S L (some (.int (if (tsP S c) then 1 else 0))) (tsS S c) L := by
  refine sE.of (by decide) (Nat.le_of_ble_eq_true rfl) ?_
  show sv_V G R_X10_takeSign RX10 "takeSign" cX10_takeSign 3 (some .boolean) (sPo G R_X10_takeSign (some (.int (if (tsP S c) then 1 else 0))) (tsS S c) L) 0 0 197 (CF G S L) 0 [(0, .ref (gB G + 179)), (1, .int c)] []
  refine sv_iload_n 1 dX10_takeSign_0 rfl ?_
  refine cSi1 (e_X10_kindOf G _ _ _) ⟨rfl, rfl⟩ (sv_w4 ml_RX10_82 st_X10_kindOf in_RX10 cd_X10_kindOf) nm_X10_kindOf ⟨Nat.le_of_ble_eq_true rfl, Nat.le_of_ble_eq_true rfl⟩ (Nat.le_of_ble_eq_true rfl) ⟨Nat.le_of_ble_eq_true rfl, Nat.le_of_ble_eq_true rfl⟩ dX10_takeSign_1 ?_
  refine sv_istore_n (ls' := [(2, _), (0, _), (1, _)]) dX10_takeSign_4 (by decide) rfl ?_
  refine sv_iload_n 0 dX10_takeSign_5 rfl ?_
  refine sv_bipush (v := (-9)) dX10_takeSign_6 (by decide) ?_
  refine sv_icmp_eq (tgt := 20) dX10_takeSign_8 (by decide) (fun c8 => ?_) (fun c8 => ?_)
  · -- jump
    refine sv_iconst (v := 0) dX10_takeSign_20 (by decide) ?_
    exact se_zret rfl ⟨rfl, rfl⟩ dX10_takeSign_21 (by rfl) (by rw [if_neg (show ¬ tsP S c from fun h => h.1 c8)]) (by rw [tsS, if_neg (show ¬ tsP S c from fun h => h.1 c8)])
  · -- fall
    refine sv_aload_n 1 dX10_takeSign_11 rfl ?_
    refine sg_10_23 sh_179 fl_RX10_86 dX10_takeSign_12 ?_
    refine sv_bipush (v := 16) dX10_takeSign_15 (by decide) ?_
    refine sv_icmp_ne (tgt := 22) dX10_takeSign_17 (by decide) (fun c17 => ?_) (fun c17 => ?_)
    · -- jump
      have hlt := rM_lt hz c17
      refine sv_aload_n 1 dX10_takeSign_22 rfl ?_
      refine sg_10_24 sh_179 fl_RX10_53 dX10_takeSign_23 ?_
      refine sv_aload_n 1 dX10_takeSign_26 rfl ?_
      refine sg_10_23 sh_179 fl_RX10_86 dX10_takeSign_27 ?_
      refine sv_iload_n 0 dX10_takeSign_30 rfl ?_
      refine sx_ist sh_194 (rM S) (nI_self hz.1) hlt dX10_takeSign_31 ?_
      refine sv_aload_n 1 dX10_takeSign_32 rfl ?_
      refine sg_10_25 sh_179 fl_RX10_56 dX10_takeSign_33 ?_
      refine sv_aload_n 1 dX10_takeSign_36 rfl ?_
      refine sg_10_23 sh_179 fl_RX10_86 dX10_takeSign_37 ?_
      refine sv_topE (v' := S 179 23) (by rw [up2_row (by decide)]) ?_
      refine sv_iconst (v := 0) dX10_takeSign_40 (by decide) ?_
      refine sx_ist sh_195 (rM S) (nI_self hz.1) hlt dX10_takeSign_41 ?_
      refine sv_aload_n 1 dX10_takeSign_42 rfl ?_
      refine sg_10_26 sh_179 fl_RX10_59 dX10_takeSign_43 ?_
      refine sv_aload_n 1 dX10_takeSign_46 rfl ?_
      refine sg_10_23 sh_179 fl_RX10_86 dX10_takeSign_47 ?_
      refine sv_topE (v' := S 179 23) (by rw [up2_row (by decide), up2_row (by decide)]) ?_
      refine sv_iconst (v := 0) dX10_takeSign_50 (by decide) ?_
      refine sx_ist sh_196 (rM S) (nI_self hz.1) hlt dX10_takeSign_51 ?_
      refine sv_iload_n 0 dX10_takeSign_52 rfl ?_
      refine sv_bipush (v := 8) dX10_takeSign_53 (by decide) ?_
      refine sv_icmp_eq (tgt := 64) dX10_takeSign_55 (by decide) (fun c55 => ?_) (fun c55 => ?_)
      · -- jump
        refine sv_aload_n 1 dX10_takeSign_64 rfl ?_
        refine sv_dup dX10_takeSign_65 rfl ?_
        refine sg_10_23 sh_179 fl_RX10_86 dX10_takeSign_66 ?_
        refine sv_topE (v' := S 179 23) (by rw [up2_row (by decide), up2_row (by decide), up2_row (by decide)]) ?_
        refine sv_iconst (v := 1) dX10_takeSign_69 (by decide) ?_
        refine sv_iadd dX10_takeSign_70 ?_
        refine sp_10_23 sh_179 fl_RX10_86 dX10_takeSign_71 ?_
        refine sv_goto (tgt := 82) dX10_takeSign_74 (by decide) ?_
        refine sv_iconst (v := 1) dX10_takeSign_82 (by decide) ?_
        exact se_zret rfl ⟨rfl, rfl⟩ dX10_takeSign_83 (by rfl) (by rw [if_pos (show tsP S c from ⟨c8, c17⟩)]) (by rw [tsS, if_pos (show tsP S c from ⟨c8, c17⟩), if_pos (Or.inl c55)]; rfl)
      · -- fall
        refine sv_iload_n 0 dX10_takeSign_58 rfl ?_
        refine sv_bipush (v := 11) dX10_takeSign_59 (by decide) ?_
        refine sv_icmp_ne (tgt := 77) dX10_takeSign_61 (by decide) (fun c61 => ?_) (fun c61 => ?_)
        · -- jump
          refine sv_aload_n 1 dX10_takeSign_77 rfl ?_
          refine sv_iconst (v := 1) dX10_takeSign_78 (by decide) ?_
          refine sp_10_22 sh_179 fl_RX10_89 dX10_takeSign_79 ?_
          refine sv_iconst (v := 1) dX10_takeSign_82 (by decide) ?_
          exact se_zret rfl ⟨rfl, rfl⟩ dX10_takeSign_83 (by rfl) (by rw [if_pos (show tsP S c from ⟨c8, c17⟩)]) (by rw [tsS, if_pos (show tsP S c from ⟨c8, c17⟩), if_neg (fun h => h.elim c55 c61)]; rfl)
        · -- fall
          refine sv_aload_n 1 dX10_takeSign_64 rfl ?_
          refine sv_dup dX10_takeSign_65 rfl ?_
          refine sg_10_23 sh_179 fl_RX10_86 dX10_takeSign_66 ?_
          refine sv_topE (v' := S 179 23) (by rw [up2_row (by decide), up2_row (by decide), up2_row (by decide)]) ?_
          refine sv_iconst (v := 1) dX10_takeSign_69 (by decide) ?_
          refine sv_iadd dX10_takeSign_70 ?_
          refine sp_10_23 sh_179 fl_RX10_86 dX10_takeSign_71 ?_
          refine sv_goto (tgt := 82) dX10_takeSign_74 (by decide) ?_
          refine sv_iconst (v := 1) dX10_takeSign_82 (by decide) ?_
          exact se_zret rfl ⟨rfl, rfl⟩ dX10_takeSign_83 (by rfl) (by rw [if_pos (show tsP S c from ⟨c8, c17⟩)]) (by rw [tsS, if_pos (show tsP S c from ⟨c8, c17⟩), if_pos (Or.inr c61)]; rfl)
    · -- fall
      refine sv_iconst (v := 0) dX10_takeSign_20 (by decide) ?_
      exact se_zret rfl ⟨rfl, rfl⟩ dX10_takeSign_21 (by rfl) (by rw [if_neg (show ¬ tsP S c from fun h => h.2 c17)]) (by rw [tsS, if_neg (show ¬ tsP S c from fun h => h.2 c17)])
set_option maxRecDepth 100000 in
set_option maxHeartbeats 4000000 in
theorem e_X10_ended (G : GT) (S : Nat → Nat → Int32) (L : Nat → Int64) (P : Prop) [Decidable P] : sE G yX10_ended R_X10_ended cX10_ended 2 (some .boolean) [.ref (gB G + 179), .int (if P then 1 else 0)] S L (some (.int (if (P) then 1 else 0))) (enS S) L := by
  refine sE.of (by decide) (Nat.le_of_ble_eq_true rfl) ?_
  show sv_V G R_X10_ended RX10 "ended" cX10_ended 2 (some .boolean) (sPo G R_X10_ended (some (.int (if (P) then 1 else 0))) (enS S) L) 0 0 197 (CF G S L) 0 [(0, .ref (gB G + 179)), (1, .int (if P then 1 else 0))] []
  refine sv_aload_n 0 dX10_ended_0 rfl ?_
  refine sv_dup dX10_ended_1 rfl ?_
  refine sg_10_23 sh_179 fl_RX10_86 dX10_ended_2 ?_
  refine sv_iconst (v := 1) dX10_ended_5 (by decide) ?_
  refine sv_iadd dX10_ended_6 ?_
  refine sp_10_23 sh_179 fl_RX10_86 dX10_ended_7 ?_
  refine sv_aload_n 0 dX10_ended_10 rfl ?_
  refine sv_iconst (v := 0) dX10_ended_11 (by decide) ?_
  refine sp_10_22 sh_179 fl_RX10_89 dX10_ended_12 ?_
  refine sv_iload_n 1 dX10_ended_15 rfl ?_
  exact se_zret rfl ⟨rfl, rfl⟩ dX10_ended_16 (nrB P) rfl rfl
def tfR (S : Nat → Nat → Int32) (c : Int32) : Int32 := if S 179 27 = 0 then (if c = 43 ∨ c = 45 then 1 else 0) else (if inP c 48 57 then 1 else 0)
def tfS (S : Nat → Nat → Int32) (c : Int32) : Nat → Nat → Int32 := if S 179 27 = 0 then up2 S 179 27 (if c = 43 then 1 else -1) else enS (up2 (up2 S 196 (rM S) (S 179 27 * (c - 48))) 179 27 0)
def tcR (S : Nat → Nat → Int32) (d : Int32) : Int32 := if S 179 22 = 1 then (if inP d 0 1 then 1 else 0) else if S 195 (rM S) = 0 then (if inP d 0 9 then 1 else 0) else (if inP d 0 5 then 1 else 0)
def tcS (S : Nat → Nat → Int32) (d : Int32) : Nat → Nat → Int32 := if S 179 22 = 1 then up2 (up2 S 195 (rM S) d) 179 22 2 else enS (up2 S 195 (rM S) (10 * S 195 (rM S) + d))
def tgS (S : Nat → Nat → Int32) (k d : Int32) : Nat → Nat → Int32 := if k = 9 ∨ k = 10 then enS (up2 S 195 (rM S) d) else up2 (up2 S 195 (rM S) d) 179 22 2
def tgR (d : Int32) : Int32 := if inP d 0 3 then 1 else 0
abbrev toFar (S : Nat → Nat → Int32) : Prop := S 194 (rM S) = 5 ∨ (S 194 (rM S) = 6 ∧ S 179 22 = 2)
def toR (S : Nat → Nat → Int32) (c : Int32) : Int32 := if toFar S then tfR S c else if S 194 (rM S) = 7 then tcR S (c - 48) else if S 179 22 = 1 then tgR (c - 48) else if S 194 (rM S) = 0 then (if inP (c - 48) 0 9 then 1 else 0) else if S 194 (rM S) = 1 ∨ S 194 (rM S) = 2 then (if inP (c - 48) 0 3 then 1 else 0) else (if inP (c - 48) 0 7 then 1 else 0)
def toS (S : Nat → Nat → Int32) (c : Int32) : Nat → Nat → Int32 := if toFar S then tfS S c else if S 194 (rM S) = 7 then tcS S (c - 48) else if S 179 22 = 1 then tgS S (S 194 (rM S)) (c - 48) else enS (up2 S 196 (rM S) (c - 48))
theorem tf_nar (S : Nat → Nat → Int32) (c : Int32) : narrow .boolean (.int (tfR S c)) = .int (tfR S c) := by unfold tfR; split <;> exact nrB _
theorem tc_nar (S : Nat → Nat → Int32) (c : Int32) : narrow .boolean (.int (tcR S c)) = .int (tcR S c) := by
  unfold tcR
  split
  · exact nrB _
  · split <;> exact nrB _
theorem tg_nar (c : Int32) : narrow .boolean (.int (tgR c)) = .int (tgR c) := nrB _
set_option maxRecDepth 100000 in
set_option maxHeartbeats 4000000 in
theorem e_X10_takeFar (G : GT) (S : Nat → Nat → Int32) (L : Nat → Int64) (hz : ¬ S 179 23 < 0 ∧ ¬ 16 < S 179 23) (hlt : rM S < 16) (c : Int32) : sE G yX10_takeFar R_X10_takeFar cX10_takeFar 2 (some .boolean) [.ref (gB G + 179), .int c] S L (some (.int (tfR S c))) (tfS S c) L := by
  refine sE.of (by decide) (Nat.le_of_ble_eq_true rfl) ?_
  show sv_V G R_X10_takeFar RX10 "takeFar" cX10_takeFar 2 (some .boolean) (sPo G R_X10_takeFar (some (.int (tfR S c))) (tfS S c) L) 0 0 197 (CF G S L) 0 [(0, .ref (gB G + 179)), (1, .int c)] []
  refine sv_aload_n 0 dX10_takeFar_0 rfl ?_
  refine sg_10_27 sh_179 fl_RX10_92 dX10_takeFar_1 ?_
  refine sv_if_ne (tgt := 40) dX10_takeFar_4 (by decide) (fun c4 => ?_) (fun c4 => ?_)
  · -- jump
    refine sv_aload_n 0 dX10_takeFar_40 rfl ?_
    refine sg_10_26 sh_179 fl_RX10_59 dX10_takeFar_41 ?_
    refine sv_aload_n 0 dX10_takeFar_44 rfl ?_
    refine sg_10_23 sh_179 fl_RX10_86 dX10_takeFar_45 ?_
    refine sv_aload_n 0 dX10_takeFar_48 rfl ?_
    refine sg_10_27 sh_179 fl_RX10_92 dX10_takeFar_49 ?_
    refine sv_iload_n 1 dX10_takeFar_52 rfl ?_
    refine sv_bipush (v := 48) dX10_takeFar_53 (by decide) ?_
    refine sv_isub dX10_takeFar_55 ?_
    refine sv_imul dX10_takeFar_56 ?_
    refine sx_ist sh_196 (rM S) (nI_self hz.1) hlt dX10_takeFar_57 ?_
    refine sv_aload_n 0 dX10_takeFar_58 rfl ?_
    refine sv_iconst (v := 0) dX10_takeFar_59 (by decide) ?_
    refine sp_10_27 sh_179 fl_RX10_92 dX10_takeFar_60 ?_
    refine sv_aload_n 0 dX10_takeFar_63 rfl ?_
    refine sv_iload_n 1 dX10_takeFar_64 rfl ?_
    refine sv_i2l dX10_takeFar_65 rfl ?_
    refine sv_ldc2 ck_RX10_95 dX10_takeFar_66 ?_
    refine sv_ldc2 ck_RX10_97 dX10_takeFar_69 ?_
    refine cSi3 (e_inI G _ _ c 48 57 _ _ _ rfl (by decide) (by decide)) ⟨rfl, rfl⟩ (sv_w4 ml_RX10_73 st_X10_in in_RX10 cd_X10_in) nm_X10_in ⟨Nat.le_of_ble_eq_true rfl, Nat.le_of_ble_eq_true rfl⟩ (Nat.le_of_ble_eq_true rfl) ⟨Nat.le_of_ble_eq_true rfl, Nat.le_of_ble_eq_true rfl⟩ dX10_takeFar_72 ?_
    refine cVi1 (e_X10_ended G _ _ (inP c 48 57)) ⟨rfl, rfl⟩ (sv_w5 ml_RX10_99 im_X10_ended sl_X10_ended in_RX10 cd_X10_ended) nm_X10_ended ⟨Nat.le_of_ble_eq_true rfl, Nat.le_of_ble_eq_true rfl⟩ rfl (CF_10 sh_179) (shp_lt sh_179 (by simp)) (Nat.le_of_ble_eq_true rfl) ⟨Nat.le_of_ble_eq_true rfl, Nat.le_of_ble_eq_true rfl⟩ dX10_takeFar_75 ?_
    exact se_zret rfl ⟨rfl, rfl⟩ dX10_takeFar_78 (nrB _) (by rw [tfR, if_neg c4]) (by rw [tfS, if_neg c4])
  · -- fall
    refine sv_aload_n 0 dX10_takeFar_7 rfl ?_
    refine sv_iload_n 1 dX10_takeFar_8 rfl ?_
    refine sv_bipush (v := 43) dX10_takeFar_9 (by decide) ?_
    refine sv_icmp_ne (tgt := 18) dX10_takeFar_11 (by decide) (fun c11 => ?_) (fun c11 => ?_)
    · -- jump
      refine sv_iconst (v := (-1)) dX10_takeFar_18 (by decide) ?_
      refine sp_10_27 sh_179 fl_RX10_92 dX10_takeFar_19 ?_
      refine sv_iload_n 1 dX10_takeFar_22 rfl ?_
      refine sv_bipush (v := 43) dX10_takeFar_23 (by decide) ?_
      refine sv_icmp_eq (tgt := 34) dX10_takeFar_25 (by decide) (fun c25 => ?_) (fun c25 => ?_)
      · -- jump
        refine sv_iconst (v := 1) dX10_takeFar_34 (by decide) ?_
        refine sv_goto (tgt := 39) dX10_takeFar_35 (by decide) ?_
        exact se_zret rfl ⟨rfl, rfl⟩ dX10_takeFar_39 (by rfl) (absurd c25 c11) (absurd c25 c11)
      · -- fall
        refine sv_iload_n 1 dX10_takeFar_28 rfl ?_
        refine sv_bipush (v := 45) dX10_takeFar_29 (by decide) ?_
        refine sv_icmp_ne (tgt := 38) dX10_takeFar_31 (by decide) (fun c31 => ?_) (fun c31 => ?_)
        · -- jump
          refine sv_iconst (v := 0) dX10_takeFar_38 (by decide) ?_
          exact se_zret rfl ⟨rfl, rfl⟩ dX10_takeFar_39 (by rfl) (by rw [tfR, if_pos c4, if_neg (fun h => h.elim c25 c31)]) (by rw [tfS, if_pos c4, if_neg c11])
        · -- fall
          refine sv_iconst (v := 1) dX10_takeFar_34 (by decide) ?_
          refine sv_goto (tgt := 39) dX10_takeFar_35 (by decide) ?_
          exact se_zret rfl ⟨rfl, rfl⟩ dX10_takeFar_39 (by rfl) (by rw [tfR, if_pos c4, if_pos (Or.inr c31)]) (by rw [tfS, if_pos c4, if_neg c11])
    · -- fall
      refine sv_iconst (v := 1) dX10_takeFar_14 (by decide) ?_
      refine sv_goto (tgt := 19) dX10_takeFar_15 (by decide) ?_
      refine sp_10_27 sh_179 fl_RX10_92 dX10_takeFar_19 ?_
      refine sv_iload_n 1 dX10_takeFar_22 rfl ?_
      refine sv_bipush (v := 43) dX10_takeFar_23 (by decide) ?_
      refine sv_icmp_eq (tgt := 34) dX10_takeFar_25 (by decide) (fun c25 => ?_) (fun c25 => ?_)
      · -- jump
        refine sv_iconst (v := 1) dX10_takeFar_34 (by decide) ?_
        refine sv_goto (tgt := 39) dX10_takeFar_35 (by decide) ?_
        exact se_zret rfl ⟨rfl, rfl⟩ dX10_takeFar_39 (by rfl) (by rw [tfR, if_pos c4, if_pos (Or.inl c25)]) (by rw [tfS, if_pos c4, if_pos c11])
      · -- fall
        refine sv_iload_n 1 dX10_takeFar_28 rfl ?_
        refine sv_bipush (v := 45) dX10_takeFar_29 (by decide) ?_
        refine sv_icmp_ne (tgt := 38) dX10_takeFar_31 (by decide) (fun c31 => ?_) (fun c31 => ?_)
        · -- jump
          refine sv_iconst (v := 0) dX10_takeFar_38 (by decide) ?_
          exact se_zret rfl ⟨rfl, rfl⟩ dX10_takeFar_39 (by rfl) (absurd c11 c25) (absurd c11 c25)
        · -- fall
          refine sv_iconst (v := 1) dX10_takeFar_34 (by decide) ?_
          refine sv_goto (tgt := 39) dX10_takeFar_35 (by decide) ?_
          exact se_zret rfl ⟨rfl, rfl⟩ dX10_takeFar_39 (by rfl) (absurd c11 c25) (absurd c11 c25)
set_option maxRecDepth 100000 in
set_option maxHeartbeats 4000000 in
theorem e_X10_takeCall (G : GT) (S : Nat → Nat → Int32) (L : Nat → Int64) (hz : ¬ S 179 23 < 0 ∧ ¬ 16 < S 179 23) (hlt : rM S < 16) (d : Int32) : sE G yX10_takeCall R_X10_takeCall cX10_takeCall 3 (some .boolean) [.ref (gB G + 179), .int d] S L (some (.int (tcR S d))) (tcS S d) L := by
  refine sE.of (by decide) (Nat.le_of_ble_eq_true rfl) ?_
  show sv_V G R_X10_takeCall RX10 "takeCall" cX10_takeCall 3 (some .boolean) (sPo G R_X10_takeCall (some (.int (tcR S d))) (tcS S d) L) 0 0 197 (CF G S L) 0 [(0, .ref (gB G + 179)), (1, .int d)] []
  refine sv_aload_n 0 dX10_takeCall_0 rfl ?_
  refine sg_10_22 sh_179 fl_RX10_89 dX10_takeCall_1 ?_
  refine sv_iconst (v := 1) dX10_takeCall_4 (by decide) ?_
  refine sv_icmp_ne (tgt := 31) dX10_takeCall_5 (by decide) (fun c5 => ?_) (fun c5 => ?_)
  · -- jump
    refine sv_aload_n 0 dX10_takeCall_31 rfl ?_
    refine sg_10_25 sh_179 fl_RX10_56 dX10_takeCall_32 ?_
    refine sv_aload_n 0 dX10_takeCall_35 rfl ?_
    refine sg_10_23 sh_179 fl_RX10_86 dX10_takeCall_36 ?_
    refine sx_ild sh_195 (rM S) (nI_self hz.1) hlt dX10_takeCall_39 ?_
    refine sv_istore_n (ls' := [(2, _), (0, _), (1, _)]) dX10_takeCall_40 (by decide) rfl ?_
    refine sv_aload_n 1 dX10_takeCall_41 rfl ?_
    refine sg_10_25 sh_179 fl_RX10_56 dX10_takeCall_42 ?_
    refine sv_aload_n 1 dX10_takeCall_45 rfl ?_
    refine sg_10_23 sh_179 fl_RX10_86 dX10_takeCall_46 ?_
    refine sv_bipush (v := 10) dX10_takeCall_49 (by decide) ?_
    refine sv_iload_n 0 dX10_takeCall_51 rfl ?_
    refine sv_imul dX10_takeCall_52 ?_
    refine sv_iload_n 2 dX10_takeCall_53 rfl ?_
    refine sv_iadd dX10_takeCall_54 ?_
    refine sx_ist sh_195 (rM S) (nI_self hz.1) hlt dX10_takeCall_55 ?_
    refine sv_aload_n 1 dX10_takeCall_56 rfl ?_
    refine sv_iload_n 2 dX10_takeCall_57 rfl ?_
    refine sv_i2l dX10_takeCall_58 rfl ?_
    refine sv_lconst (v := 0) dX10_takeCall_59 (by decide) ?_
    refine sv_iload_n 0 dX10_takeCall_60 rfl ?_
    refine sv_if_ne (tgt := 70) dX10_takeCall_61 (by decide) (fun c61 => ?_) (fun c61 => ?_)
    · -- jump
      refine sv_ldc2 ck_RX10_105 dX10_takeCall_70 ?_
      refine cSi3 (e_inI G _ _ d 0 5 _ _ _ rfl (by decide) (by decide)) ⟨rfl, rfl⟩ (sv_w4 ml_RX10_73 st_X10_in in_RX10 cd_X10_in) nm_X10_in ⟨Nat.le_of_ble_eq_true rfl, Nat.le_of_ble_eq_true rfl⟩ (Nat.le_of_ble_eq_true rfl) ⟨Nat.le_of_ble_eq_true rfl, Nat.le_of_ble_eq_true rfl⟩ dX10_takeCall_73 ?_
      refine cVi1 (e_X10_ended G _ _ (inP d 0 5)) ⟨rfl, rfl⟩ (sv_w5 ml_RX10_99 im_X10_ended sl_X10_ended in_RX10 cd_X10_ended) nm_X10_ended ⟨Nat.le_of_ble_eq_true rfl, Nat.le_of_ble_eq_true rfl⟩ rfl (CF_10 sh_179) (shp_lt sh_179 (by simp)) (Nat.le_of_ble_eq_true rfl) ⟨Nat.le_of_ble_eq_true rfl, Nat.le_of_ble_eq_true rfl⟩ dX10_takeCall_76 ?_
      exact se_zret rfl ⟨rfl, rfl⟩ dX10_takeCall_79 (nrB _) (by rw [tcR, if_neg c5, if_neg c61]) (by rw [tcS, if_neg c5])
    · -- fall
      refine sv_ldc2 ck_RX10_103 dX10_takeCall_64 ?_
      refine sv_goto (tgt := 73) dX10_takeCall_67 (by decide) ?_
      refine cSi3 (e_inI G _ _ d 0 9 _ _ _ rfl (by decide) (by decide)) ⟨rfl, rfl⟩ (sv_w4 ml_RX10_73 st_X10_in in_RX10 cd_X10_in) nm_X10_in ⟨Nat.le_of_ble_eq_true rfl, Nat.le_of_ble_eq_true rfl⟩ (Nat.le_of_ble_eq_true rfl) ⟨Nat.le_of_ble_eq_true rfl, Nat.le_of_ble_eq_true rfl⟩ dX10_takeCall_73 ?_
      refine cVi1 (e_X10_ended G _ _ (inP d 0 9)) ⟨rfl, rfl⟩ (sv_w5 ml_RX10_99 im_X10_ended sl_X10_ended in_RX10 cd_X10_ended) nm_X10_ended ⟨Nat.le_of_ble_eq_true rfl, Nat.le_of_ble_eq_true rfl⟩ rfl (CF_10 sh_179) (shp_lt sh_179 (by simp)) (Nat.le_of_ble_eq_true rfl) ⟨Nat.le_of_ble_eq_true rfl, Nat.le_of_ble_eq_true rfl⟩ dX10_takeCall_76 ?_
      exact se_zret rfl ⟨rfl, rfl⟩ dX10_takeCall_79 (nrB _) (by rw [tcR, if_neg c5, if_pos c61]) (by rw [tcS, if_neg c5])
  · -- fall
    refine sv_aload_n 0 dX10_takeCall_8 rfl ?_
    refine sg_10_25 sh_179 fl_RX10_56 dX10_takeCall_9 ?_
    refine sv_aload_n 0 dX10_takeCall_12 rfl ?_
    refine sg_10_23 sh_179 fl_RX10_86 dX10_takeCall_13 ?_
    refine sv_iload_n 1 dX10_takeCall_16 rfl ?_
    refine sx_ist sh_195 (rM S) (nI_self hz.1) hlt dX10_takeCall_17 ?_
    refine sv_aload_n 0 dX10_takeCall_18 rfl ?_
    refine sv_iconst (v := 2) dX10_takeCall_19 (by decide) ?_
    refine sp_10_22 sh_179 fl_RX10_89 dX10_takeCall_20 ?_
    refine sv_iload_n 1 dX10_takeCall_23 rfl ?_
    refine sv_i2l dX10_takeCall_24 rfl ?_
    refine sv_lconst (v := 0) dX10_takeCall_25 (by decide) ?_
    refine sv_lconst (v := 1) dX10_takeCall_26 (by decide) ?_
    refine cSi3 (e_inI G _ _ d 0 1 _ _ _ rfl (by decide) (by decide)) ⟨rfl, rfl⟩ (sv_w4 ml_RX10_73 st_X10_in in_RX10 cd_X10_in) nm_X10_in ⟨Nat.le_of_ble_eq_true rfl, Nat.le_of_ble_eq_true rfl⟩ (Nat.le_of_ble_eq_true rfl) ⟨Nat.le_of_ble_eq_true rfl, Nat.le_of_ble_eq_true rfl⟩ dX10_takeCall_27 ?_
    exact se_zret rfl ⟨rfl, rfl⟩ dX10_takeCall_30 (nrB _) (by rw [tcR, if_pos c5]) (by rw [tcS, if_pos c5])
set_option maxRecDepth 100000 in
set_option maxHeartbeats 4000000 in
theorem e_X10_takeFirst (G : GT) (S : Nat → Nat → Int32) (L : Nat → Int64) (hz : ¬ S 179 23 < 0 ∧ ¬ 16 < S 179 23) (hlt : rM S < 16) (k d : Int32) : sE G yX10_takeFirst R_X10_takeFirst cX10_takeFirst 3 (some .boolean) [.ref (gB G + 179), .int k, .int d] S L (some (.int (tgR d))) (tgS S k d) L := by
  refine sE.of (by decide) (Nat.le_of_ble_eq_true rfl) ?_
  show sv_V G R_X10_takeFirst RX10 "takeFirst" cX10_takeFirst 3 (some .boolean) (sPo G R_X10_takeFirst (some (.int (tgR d))) (tgS S k d) L) 0 0 197 (CF G S L) 0 [(0, .ref (gB G + 179)), (1, .int k), (2, .int d)] []
  refine sv_aload_n 0 dX10_takeFirst_0 rfl ?_
  refine sg_10_25 sh_179 fl_RX10_56 dX10_takeFirst_1 ?_
  refine sv_aload_n 0 dX10_takeFirst_4 rfl ?_
  refine sg_10_23 sh_179 fl_RX10_86 dX10_takeFirst_5 ?_
  refine sv_iload_n 2 dX10_takeFirst_8 rfl ?_
  refine sx_ist sh_195 (rM S) (nI_self hz.1) hlt dX10_takeFirst_9 ?_
  refine sv_iload_n 1 dX10_takeFirst_10 rfl ?_
  refine sv_bipush (v := 9) dX10_takeFirst_11 (by decide) ?_
  refine sv_icmp_eq (tgt := 22) dX10_takeFirst_13 (by decide) (fun c13 => ?_) (fun c13 => ?_)
  · -- jump
    refine sv_aload_n 0 dX10_takeFirst_22 rfl ?_
    refine sv_iload_n 2 dX10_takeFirst_23 rfl ?_
    refine sv_i2l dX10_takeFirst_24 rfl ?_
    refine sv_lconst (v := 0) dX10_takeFirst_25 (by decide) ?_
    refine sv_ldc2 ck_RX10_107 dX10_takeFirst_26 ?_
    refine cSi3 (e_inI G _ _ d 0 3 _ _ _ rfl (by decide) (by decide)) ⟨rfl, rfl⟩ (sv_w4 ml_RX10_73 st_X10_in in_RX10 cd_X10_in) nm_X10_in ⟨Nat.le_of_ble_eq_true rfl, Nat.le_of_ble_eq_true rfl⟩ (Nat.le_of_ble_eq_true rfl) ⟨Nat.le_of_ble_eq_true rfl, Nat.le_of_ble_eq_true rfl⟩ dX10_takeFirst_29 ?_
    refine cVi1 (e_X10_ended G _ _ (inP d 0 3)) ⟨rfl, rfl⟩ (sv_w5 ml_RX10_99 im_X10_ended sl_X10_ended in_RX10 cd_X10_ended) nm_X10_ended ⟨Nat.le_of_ble_eq_true rfl, Nat.le_of_ble_eq_true rfl⟩ rfl (CF_10 sh_179) (shp_lt sh_179 (by simp)) (Nat.le_of_ble_eq_true rfl) ⟨Nat.le_of_ble_eq_true rfl, Nat.le_of_ble_eq_true rfl⟩ dX10_takeFirst_32 ?_
    exact se_zret rfl ⟨rfl, rfl⟩ dX10_takeFirst_35 (nrB _) rfl (by rw [tgS, if_pos (Or.inl c13)])
  · -- fall
    refine sv_iload_n 1 dX10_takeFirst_16 rfl ?_
    refine sv_bipush (v := 10) dX10_takeFirst_17 (by decide) ?_
    refine sv_icmp_ne (tgt := 36) dX10_takeFirst_19 (by decide) (fun c19 => ?_) (fun c19 => ?_)
    · -- jump
      refine sv_aload_n 0 dX10_takeFirst_36 rfl ?_
      refine sv_iconst (v := 2) dX10_takeFirst_37 (by decide) ?_
      refine sp_10_22 sh_179 fl_RX10_89 dX10_takeFirst_38 ?_
      refine sv_iload_n 2 dX10_takeFirst_41 rfl ?_
      refine sv_i2l dX10_takeFirst_42 rfl ?_
      refine sv_lconst (v := 0) dX10_takeFirst_43 (by decide) ?_
      refine sv_ldc2 ck_RX10_107 dX10_takeFirst_44 ?_
      refine cSi3 (e_inI G _ _ d 0 3 _ _ _ rfl (by decide) (by decide)) ⟨rfl, rfl⟩ (sv_w4 ml_RX10_73 st_X10_in in_RX10 cd_X10_in) nm_X10_in ⟨Nat.le_of_ble_eq_true rfl, Nat.le_of_ble_eq_true rfl⟩ (Nat.le_of_ble_eq_true rfl) ⟨Nat.le_of_ble_eq_true rfl, Nat.le_of_ble_eq_true rfl⟩ dX10_takeFirst_47 ?_
      exact se_zret rfl ⟨rfl, rfl⟩ dX10_takeFirst_50 (nrB _) rfl (by rw [tgS, if_neg (fun h => h.elim c13 c19)])
    · -- fall
      refine sv_aload_n 0 dX10_takeFirst_22 rfl ?_
      refine sv_iload_n 2 dX10_takeFirst_23 rfl ?_
      refine sv_i2l dX10_takeFirst_24 rfl ?_
      refine sv_lconst (v := 0) dX10_takeFirst_25 (by decide) ?_
      refine sv_ldc2 ck_RX10_107 dX10_takeFirst_26 ?_
      refine cSi3 (e_inI G _ _ d 0 3 _ _ _ rfl (by decide) (by decide)) ⟨rfl, rfl⟩ (sv_w4 ml_RX10_73 st_X10_in in_RX10 cd_X10_in) nm_X10_in ⟨Nat.le_of_ble_eq_true rfl, Nat.le_of_ble_eq_true rfl⟩ (Nat.le_of_ble_eq_true rfl) ⟨Nat.le_of_ble_eq_true rfl, Nat.le_of_ble_eq_true rfl⟩ dX10_takeFirst_29 ?_
      refine cVi1 (e_X10_ended G _ _ (inP d 0 3)) ⟨rfl, rfl⟩ (sv_w5 ml_RX10_99 im_X10_ended sl_X10_ended in_RX10 cd_X10_ended) nm_X10_ended ⟨Nat.le_of_ble_eq_true rfl, Nat.le_of_ble_eq_true rfl⟩ rfl (CF_10 sh_179) (shp_lt sh_179 (by simp)) (Nat.le_of_ble_eq_true rfl) ⟨Nat.le_of_ble_eq_true rfl, Nat.le_of_ble_eq_true rfl⟩ dX10_takeFirst_32 ?_
      exact se_zret rfl ⟨rfl, rfl⟩ dX10_takeFirst_35 (nrB _) rfl (by rw [tgS, if_pos (Or.inr c19)])
set_option maxRecDepth 100000 in
set_option maxHeartbeats 4000000 in
theorem e_X10_takeOf (G : GT) (S : Nat → Nat → Int32) (L : Nat → Int64) (hz : ¬ S 179 23 < 0 ∧ ¬ 16 < S 179 23) (hlt : rM S < 16) (c : Int32) : sE G yX10_takeOf R_X10_takeOf cX10_takeOf 4 (some .boolean) [.ref (gB G + 179), .int c] S L (some (.int (toR S c))) (toS S c) L := by
  refine sE.of (by decide) (Nat.le_of_ble_eq_true rfl) ?_
  show sv_V G R_X10_takeOf RX10 "takeOf" cX10_takeOf 4 (some .boolean) (sPo G R_X10_takeOf (some (.int (toR S c))) (toS S c) L) 0 0 197 (CF G S L) 0 [(0, .ref (gB G + 179)), (1, .int c)] []
  refine sv_aload_n 0 dX10_takeOf_0 rfl ?_
  refine sg_10_24 sh_179 fl_RX10_53 dX10_takeOf_1 ?_
  refine sv_aload_n 0 dX10_takeOf_4 rfl ?_
  refine sg_10_23 sh_179 fl_RX10_86 dX10_takeOf_5 ?_
  refine sx_ild sh_194 (rM S) (nI_self hz.1) hlt dX10_takeOf_8 ?_
  refine sv_istore_n (ls' := [(2, _), (0, _), (1, _)]) dX10_takeOf_9 (by decide) rfl ?_
  refine sv_iload_n 2 dX10_takeOf_10 rfl ?_
  refine sv_bipush (v := 48) dX10_takeOf_11 (by decide) ?_
  refine sv_isub dX10_takeOf_13 ?_
  refine sv_istore_n (ls' := [(3, _), (2, _), (0, _), (1, _)]) dX10_takeOf_14 (by decide) rfl ?_
  refine sv_iload_n 1 dX10_takeOf_15 rfl ?_
  refine sv_iconst (v := 5) dX10_takeOf_16 (by decide) ?_
  refine sv_icmp_eq (tgt := 34) dX10_takeOf_17 (by decide) (fun c17 => ?_) (fun c17 => ?_)
  · -- jump
    refine sv_aload_n 2 dX10_takeOf_34 rfl ?_
    refine sv_iload_n 3 dX10_takeOf_35 rfl ?_
    refine cVi1 (e_X10_takeFar G _ _ hz hlt _) ⟨rfl, rfl⟩ (sv_w5 ml_RX10_109 im_X10_takeFar sl_X10_takeFar in_RX10 cd_X10_takeFar) nm_X10_takeFar ⟨Nat.le_of_ble_eq_true rfl, Nat.le_of_ble_eq_true rfl⟩ rfl (CF_10 sh_179) (shp_lt sh_179 (by simp)) (Nat.le_of_ble_eq_true rfl) ⟨Nat.le_of_ble_eq_true rfl, Nat.le_of_ble_eq_true rfl⟩ dX10_takeOf_36 ?_
    exact se_zret rfl ⟨rfl, rfl⟩ dX10_takeOf_39 (tf_nar S c) (by rw [toR, if_pos (show toFar S from Or.inl c17)]) (by rw [toS, if_pos (show toFar S from Or.inl c17)])
  · -- fall
    refine sv_iload_n 1 dX10_takeOf_20 rfl ?_
    refine sv_bipush (v := 6) dX10_takeOf_21 (by decide) ?_
    refine sv_icmp_ne (tgt := 40) dX10_takeOf_23 (by decide) (fun c23 => ?_) (fun c23 => ?_)
    · -- jump
      refine sv_iload_n 1 dX10_takeOf_40 rfl ?_
      refine sv_bipush (v := 7) dX10_takeOf_41 (by decide) ?_
      refine sv_icmp_ne (tgt := 52) dX10_takeOf_43 (by decide) (fun c43 => ?_) (fun c43 => ?_)
      · -- jump
        refine sv_aload_n 2 dX10_takeOf_52 rfl ?_
        refine sg_10_22 sh_179 fl_RX10_89 dX10_takeOf_53 ?_
        refine sv_iconst (v := 1) dX10_takeOf_56 (by decide) ?_
        refine sv_icmp_ne (tgt := 67) dX10_takeOf_57 (by decide) (fun c57 => ?_) (fun c57 => ?_)
        · -- jump
          refine sv_aload_n 2 dX10_takeOf_67 rfl ?_
          refine sg_10_26 sh_179 fl_RX10_59 dX10_takeOf_68 ?_
          refine sv_aload_n 2 dX10_takeOf_71 rfl ?_
          refine sg_10_23 sh_179 fl_RX10_86 dX10_takeOf_72 ?_
          refine sv_iload_n 0 dX10_takeOf_75 rfl ?_
          refine sx_ist sh_196 (rM S) (nI_self hz.1) hlt dX10_takeOf_76 ?_
          refine sv_aload_n 2 dX10_takeOf_77 rfl ?_
          refine sv_iload_n 0 dX10_takeOf_78 rfl ?_
          refine sv_i2l dX10_takeOf_79 rfl ?_
          refine sv_lconst (v := 0) dX10_takeOf_80 (by decide) ?_
          refine sv_iload_n 1 dX10_takeOf_81 rfl ?_
          refine sv_if_ne (tgt := 91) dX10_takeOf_82 (by decide) (fun c82 => ?_) (fun c82 => ?_)
          · -- jump
            refine sv_iload_n 1 dX10_takeOf_91 rfl ?_
            refine sv_iconst (v := 1) dX10_takeOf_92 (by decide) ?_
            refine sv_icmp_eq (tgt := 101) dX10_takeOf_93 (by decide) (fun c93 => ?_) (fun c93 => ?_)
            · -- jump
              refine sv_ldc2 ck_RX10_107 dX10_takeOf_101 ?_
              refine sv_goto (tgt := 110) dX10_takeOf_104 (by decide) ?_
              refine cSi3 (e_inI G _ _ (c - 48) 0 3 _ _ _ rfl (by decide) (by decide)) ⟨rfl, rfl⟩ (sv_w4 ml_RX10_73 st_X10_in in_RX10 cd_X10_in) nm_X10_in ⟨Nat.le_of_ble_eq_true rfl, Nat.le_of_ble_eq_true rfl⟩ (Nat.le_of_ble_eq_true rfl) ⟨Nat.le_of_ble_eq_true rfl, Nat.le_of_ble_eq_true rfl⟩ dX10_takeOf_110 ?_
              refine cVi1 (e_X10_ended G _ _ (inP (c - 48) 0 3)) ⟨rfl, rfl⟩ (sv_w5 ml_RX10_99 im_X10_ended sl_X10_ended in_RX10 cd_X10_ended) nm_X10_ended ⟨Nat.le_of_ble_eq_true rfl, Nat.le_of_ble_eq_true rfl⟩ rfl (CF_10 sh_179) (shp_lt sh_179 (by simp)) (Nat.le_of_ble_eq_true rfl) ⟨Nat.le_of_ble_eq_true rfl, Nat.le_of_ble_eq_true rfl⟩ dX10_takeOf_113 ?_
              exact se_zret rfl ⟨rfl, rfl⟩ dX10_takeOf_116 (nrB _) (by rw [toR, if_neg (show ¬ toFar S from fun h => h.elim c17 (fun z => c23 z.1)), if_neg c43, if_neg c57, if_neg c82, if_pos (Or.inl c93)]) (by rw [toS, if_neg (show ¬ toFar S from fun h => h.elim c17 (fun z => c23 z.1)), if_neg c43, if_neg c57])
            · -- fall
              refine sv_iload_n 1 dX10_takeOf_96 rfl ?_
              refine sv_iconst (v := 2) dX10_takeOf_97 (by decide) ?_
              refine sv_icmp_ne (tgt := 107) dX10_takeOf_98 (by decide) (fun c98 => ?_) (fun c98 => ?_)
              · -- jump
                refine sv_ldc2 ck_RX10_120 dX10_takeOf_107 ?_
                refine cSi3 (e_inI G _ _ (c - 48) 0 7 _ _ _ rfl (by decide) (by decide)) ⟨rfl, rfl⟩ (sv_w4 ml_RX10_73 st_X10_in in_RX10 cd_X10_in) nm_X10_in ⟨Nat.le_of_ble_eq_true rfl, Nat.le_of_ble_eq_true rfl⟩ (Nat.le_of_ble_eq_true rfl) ⟨Nat.le_of_ble_eq_true rfl, Nat.le_of_ble_eq_true rfl⟩ dX10_takeOf_110 ?_
                refine cVi1 (e_X10_ended G _ _ (inP (c - 48) 0 7)) ⟨rfl, rfl⟩ (sv_w5 ml_RX10_99 im_X10_ended sl_X10_ended in_RX10 cd_X10_ended) nm_X10_ended ⟨Nat.le_of_ble_eq_true rfl, Nat.le_of_ble_eq_true rfl⟩ rfl (CF_10 sh_179) (shp_lt sh_179 (by simp)) (Nat.le_of_ble_eq_true rfl) ⟨Nat.le_of_ble_eq_true rfl, Nat.le_of_ble_eq_true rfl⟩ dX10_takeOf_113 ?_
                exact se_zret rfl ⟨rfl, rfl⟩ dX10_takeOf_116 (nrB _) (by rw [toR, if_neg (show ¬ toFar S from fun h => h.elim c17 (fun z => c23 z.1)), if_neg c43, if_neg c57, if_neg c82, if_neg (show ¬ (S 194 (rM S) = 1 ∨ S 194 (rM S) = 2) from fun h => h.elim c93 c98)]) (by rw [toS, if_neg (show ¬ toFar S from fun h => h.elim c17 (fun z => c23 z.1)), if_neg c43, if_neg c57])
              · -- fall
                refine sv_ldc2 ck_RX10_107 dX10_takeOf_101 ?_
                refine sv_goto (tgt := 110) dX10_takeOf_104 (by decide) ?_
                refine cSi3 (e_inI G _ _ (c - 48) 0 3 _ _ _ rfl (by decide) (by decide)) ⟨rfl, rfl⟩ (sv_w4 ml_RX10_73 st_X10_in in_RX10 cd_X10_in) nm_X10_in ⟨Nat.le_of_ble_eq_true rfl, Nat.le_of_ble_eq_true rfl⟩ (Nat.le_of_ble_eq_true rfl) ⟨Nat.le_of_ble_eq_true rfl, Nat.le_of_ble_eq_true rfl⟩ dX10_takeOf_110 ?_
                refine cVi1 (e_X10_ended G _ _ (inP (c - 48) 0 3)) ⟨rfl, rfl⟩ (sv_w5 ml_RX10_99 im_X10_ended sl_X10_ended in_RX10 cd_X10_ended) nm_X10_ended ⟨Nat.le_of_ble_eq_true rfl, Nat.le_of_ble_eq_true rfl⟩ rfl (CF_10 sh_179) (shp_lt sh_179 (by simp)) (Nat.le_of_ble_eq_true rfl) ⟨Nat.le_of_ble_eq_true rfl, Nat.le_of_ble_eq_true rfl⟩ dX10_takeOf_113 ?_
                exact se_zret rfl ⟨rfl, rfl⟩ dX10_takeOf_116 (nrB _) (by rw [toR, if_neg (show ¬ toFar S from fun h => h.elim c17 (fun z => c23 z.1)), if_neg c43, if_neg c57, if_neg c82, if_pos (Or.inr c98)]) (by rw [toS, if_neg (show ¬ toFar S from fun h => h.elim c17 (fun z => c23 z.1)), if_neg c43, if_neg c57])
          · -- fall
            refine sv_ldc2 ck_RX10_103 dX10_takeOf_85 ?_
            refine sv_goto (tgt := 110) dX10_takeOf_88 (by decide) ?_
            refine cSi3 (e_inI G _ _ (c - 48) 0 9 _ _ _ rfl (by decide) (by decide)) ⟨rfl, rfl⟩ (sv_w4 ml_RX10_73 st_X10_in in_RX10 cd_X10_in) nm_X10_in ⟨Nat.le_of_ble_eq_true rfl, Nat.le_of_ble_eq_true rfl⟩ (Nat.le_of_ble_eq_true rfl) ⟨Nat.le_of_ble_eq_true rfl, Nat.le_of_ble_eq_true rfl⟩ dX10_takeOf_110 ?_
            refine cVi1 (e_X10_ended G _ _ (inP (c - 48) 0 9)) ⟨rfl, rfl⟩ (sv_w5 ml_RX10_99 im_X10_ended sl_X10_ended in_RX10 cd_X10_ended) nm_X10_ended ⟨Nat.le_of_ble_eq_true rfl, Nat.le_of_ble_eq_true rfl⟩ rfl (CF_10 sh_179) (shp_lt sh_179 (by simp)) (Nat.le_of_ble_eq_true rfl) ⟨Nat.le_of_ble_eq_true rfl, Nat.le_of_ble_eq_true rfl⟩ dX10_takeOf_113 ?_
            exact se_zret rfl ⟨rfl, rfl⟩ dX10_takeOf_116 (nrB _) (by rw [toR, if_neg (show ¬ toFar S from fun h => h.elim c17 (fun z => c23 z.1)), if_neg c43, if_neg c57, if_pos c82]) (by rw [toS, if_neg (show ¬ toFar S from fun h => h.elim c17 (fun z => c23 z.1)), if_neg c43, if_neg c57])
        · -- fall
          refine sv_aload_n 2 dX10_takeOf_60 rfl ?_
          refine sv_iload_n 1 dX10_takeOf_61 rfl ?_
          refine sv_iload_n 0 dX10_takeOf_62 rfl ?_
          refine cVi2 (e_X10_takeFirst G _ _ hz hlt _ _) ⟨rfl, rfl⟩ (sv_w5 ml_RX10_116 im_X10_takeFirst sl_X10_takeFirst in_RX10 cd_X10_takeFirst) nm_X10_takeFirst ⟨Nat.le_of_ble_eq_true rfl, Nat.le_of_ble_eq_true rfl⟩ rfl (CF_10 sh_179) (shp_lt sh_179 (by simp)) (Nat.le_of_ble_eq_true rfl) ⟨Nat.le_of_ble_eq_true rfl, Nat.le_of_ble_eq_true rfl⟩ dX10_takeOf_63 ?_
          exact se_zret rfl ⟨rfl, rfl⟩ dX10_takeOf_66 (tg_nar _) (by rw [toR, if_neg (show ¬ toFar S from fun h => h.elim c17 (fun z => c23 z.1)), if_neg c43, if_pos c57]) (by rw [toS, if_neg (show ¬ toFar S from fun h => h.elim c17 (fun z => c23 z.1)), if_neg c43, if_pos c57])
      · -- fall
        refine sv_aload_n 2 dX10_takeOf_46 rfl ?_
        refine sv_iload_n 0 dX10_takeOf_47 rfl ?_
        refine cVi1 (e_X10_takeCall G _ _ hz hlt _) ⟨rfl, rfl⟩ (sv_w5 ml_RX10_113 im_X10_takeCall sl_X10_takeCall in_RX10 cd_X10_takeCall) nm_X10_takeCall ⟨Nat.le_of_ble_eq_true rfl, Nat.le_of_ble_eq_true rfl⟩ rfl (CF_10 sh_179) (shp_lt sh_179 (by simp)) (Nat.le_of_ble_eq_true rfl) ⟨Nat.le_of_ble_eq_true rfl, Nat.le_of_ble_eq_true rfl⟩ dX10_takeOf_48 ?_
        exact se_zret rfl ⟨rfl, rfl⟩ dX10_takeOf_51 (tc_nar S _) (by rw [toR, if_neg (show ¬ toFar S from fun h => h.elim c17 (fun z => c23 z.1)), if_pos c43]) (by rw [toS, if_neg (show ¬ toFar S from fun h => h.elim c17 (fun z => c23 z.1)), if_pos c43])
    · -- fall
      refine sv_aload_n 2 dX10_takeOf_26 rfl ?_
      refine sg_10_22 sh_179 fl_RX10_89 dX10_takeOf_27 ?_
      refine sv_iconst (v := 2) dX10_takeOf_30 (by decide) ?_
      refine sv_icmp_ne (tgt := 40) dX10_takeOf_31 (by decide) (fun c31 => ?_) (fun c31 => ?_)
      · -- jump
        refine sv_iload_n 1 dX10_takeOf_40 rfl ?_
        refine sv_bipush (v := 7) dX10_takeOf_41 (by decide) ?_
        refine sv_icmp_ne (tgt := 52) dX10_takeOf_43 (by decide) (fun c43 => ?_) (fun c43 => ?_)
        · -- jump
          refine sv_aload_n 2 dX10_takeOf_52 rfl ?_
          refine sg_10_22 sh_179 fl_RX10_89 dX10_takeOf_53 ?_
          refine sv_iconst (v := 1) dX10_takeOf_56 (by decide) ?_
          refine sv_icmp_ne (tgt := 67) dX10_takeOf_57 (by decide) (fun c57 => ?_) (fun c57 => ?_)
          · -- jump
            refine sv_aload_n 2 dX10_takeOf_67 rfl ?_
            refine sg_10_26 sh_179 fl_RX10_59 dX10_takeOf_68 ?_
            refine sv_aload_n 2 dX10_takeOf_71 rfl ?_
            refine sg_10_23 sh_179 fl_RX10_86 dX10_takeOf_72 ?_
            refine sv_iload_n 0 dX10_takeOf_75 rfl ?_
            refine sx_ist sh_196 (rM S) (nI_self hz.1) hlt dX10_takeOf_76 ?_
            refine sv_aload_n 2 dX10_takeOf_77 rfl ?_
            refine sv_iload_n 0 dX10_takeOf_78 rfl ?_
            refine sv_i2l dX10_takeOf_79 rfl ?_
            refine sv_lconst (v := 0) dX10_takeOf_80 (by decide) ?_
            refine sv_iload_n 1 dX10_takeOf_81 rfl ?_
            refine sv_if_ne (tgt := 91) dX10_takeOf_82 (by decide) (fun c82 => ?_) (fun c82 => ?_)
            · -- jump
              refine sv_iload_n 1 dX10_takeOf_91 rfl ?_
              refine sv_iconst (v := 1) dX10_takeOf_92 (by decide) ?_
              refine sv_icmp_eq (tgt := 101) dX10_takeOf_93 (by decide) (fun c93 => ?_) (fun c93 => ?_)
              · -- jump
                refine sv_ldc2 ck_RX10_107 dX10_takeOf_101 ?_
                refine sv_goto (tgt := 110) dX10_takeOf_104 (by decide) ?_
                refine cSi3 (e_inI G _ _ (c - 48) 0 3 _ _ _ rfl (by decide) (by decide)) ⟨rfl, rfl⟩ (sv_w4 ml_RX10_73 st_X10_in in_RX10 cd_X10_in) nm_X10_in ⟨Nat.le_of_ble_eq_true rfl, Nat.le_of_ble_eq_true rfl⟩ (Nat.le_of_ble_eq_true rfl) ⟨Nat.le_of_ble_eq_true rfl, Nat.le_of_ble_eq_true rfl⟩ dX10_takeOf_110 ?_
                refine cVi1 (e_X10_ended G _ _ (inP (c - 48) 0 3)) ⟨rfl, rfl⟩ (sv_w5 ml_RX10_99 im_X10_ended sl_X10_ended in_RX10 cd_X10_ended) nm_X10_ended ⟨Nat.le_of_ble_eq_true rfl, Nat.le_of_ble_eq_true rfl⟩ rfl (CF_10 sh_179) (shp_lt sh_179 (by simp)) (Nat.le_of_ble_eq_true rfl) ⟨Nat.le_of_ble_eq_true rfl, Nat.le_of_ble_eq_true rfl⟩ dX10_takeOf_113 ?_
                exact se_zret rfl ⟨rfl, rfl⟩ dX10_takeOf_116 (nrB _) (by rw [toR, if_neg (show ¬ toFar S from fun h => h.elim c17 (fun z => c31 z.2)), if_neg c43, if_neg c57, if_neg c82, if_pos (Or.inl c93)]) (by rw [toS, if_neg (show ¬ toFar S from fun h => h.elim c17 (fun z => c31 z.2)), if_neg c43, if_neg c57])
              · -- fall
                refine sv_iload_n 1 dX10_takeOf_96 rfl ?_
                refine sv_iconst (v := 2) dX10_takeOf_97 (by decide) ?_
                refine sv_icmp_ne (tgt := 107) dX10_takeOf_98 (by decide) (fun c98 => ?_) (fun c98 => ?_)
                · -- jump
                  refine sv_ldc2 ck_RX10_120 dX10_takeOf_107 ?_
                  refine cSi3 (e_inI G _ _ (c - 48) 0 7 _ _ _ rfl (by decide) (by decide)) ⟨rfl, rfl⟩ (sv_w4 ml_RX10_73 st_X10_in in_RX10 cd_X10_in) nm_X10_in ⟨Nat.le_of_ble_eq_true rfl, Nat.le_of_ble_eq_true rfl⟩ (Nat.le_of_ble_eq_true rfl) ⟨Nat.le_of_ble_eq_true rfl, Nat.le_of_ble_eq_true rfl⟩ dX10_takeOf_110 ?_
                  refine cVi1 (e_X10_ended G _ _ (inP (c - 48) 0 7)) ⟨rfl, rfl⟩ (sv_w5 ml_RX10_99 im_X10_ended sl_X10_ended in_RX10 cd_X10_ended) nm_X10_ended ⟨Nat.le_of_ble_eq_true rfl, Nat.le_of_ble_eq_true rfl⟩ rfl (CF_10 sh_179) (shp_lt sh_179 (by simp)) (Nat.le_of_ble_eq_true rfl) ⟨Nat.le_of_ble_eq_true rfl, Nat.le_of_ble_eq_true rfl⟩ dX10_takeOf_113 ?_
                  exact se_zret rfl ⟨rfl, rfl⟩ dX10_takeOf_116 (nrB _) (by rw [toR, if_neg (show ¬ toFar S from fun h => h.elim c17 (fun z => c31 z.2)), if_neg c43, if_neg c57, if_neg c82, if_neg (show ¬ (S 194 (rM S) = 1 ∨ S 194 (rM S) = 2) from fun h => h.elim c93 c98)]) (by rw [toS, if_neg (show ¬ toFar S from fun h => h.elim c17 (fun z => c31 z.2)), if_neg c43, if_neg c57])
                · -- fall
                  refine sv_ldc2 ck_RX10_107 dX10_takeOf_101 ?_
                  refine sv_goto (tgt := 110) dX10_takeOf_104 (by decide) ?_
                  refine cSi3 (e_inI G _ _ (c - 48) 0 3 _ _ _ rfl (by decide) (by decide)) ⟨rfl, rfl⟩ (sv_w4 ml_RX10_73 st_X10_in in_RX10 cd_X10_in) nm_X10_in ⟨Nat.le_of_ble_eq_true rfl, Nat.le_of_ble_eq_true rfl⟩ (Nat.le_of_ble_eq_true rfl) ⟨Nat.le_of_ble_eq_true rfl, Nat.le_of_ble_eq_true rfl⟩ dX10_takeOf_110 ?_
                  refine cVi1 (e_X10_ended G _ _ (inP (c - 48) 0 3)) ⟨rfl, rfl⟩ (sv_w5 ml_RX10_99 im_X10_ended sl_X10_ended in_RX10 cd_X10_ended) nm_X10_ended ⟨Nat.le_of_ble_eq_true rfl, Nat.le_of_ble_eq_true rfl⟩ rfl (CF_10 sh_179) (shp_lt sh_179 (by simp)) (Nat.le_of_ble_eq_true rfl) ⟨Nat.le_of_ble_eq_true rfl, Nat.le_of_ble_eq_true rfl⟩ dX10_takeOf_113 ?_
                  exact se_zret rfl ⟨rfl, rfl⟩ dX10_takeOf_116 (nrB _) (by rw [toR, if_neg (show ¬ toFar S from fun h => h.elim c17 (fun z => c31 z.2)), if_neg c43, if_neg c57, if_neg c82, if_pos (Or.inr c98)]) (by rw [toS, if_neg (show ¬ toFar S from fun h => h.elim c17 (fun z => c31 z.2)), if_neg c43, if_neg c57])
            · -- fall
              refine sv_ldc2 ck_RX10_103 dX10_takeOf_85 ?_
              refine sv_goto (tgt := 110) dX10_takeOf_88 (by decide) ?_
              refine cSi3 (e_inI G _ _ (c - 48) 0 9 _ _ _ rfl (by decide) (by decide)) ⟨rfl, rfl⟩ (sv_w4 ml_RX10_73 st_X10_in in_RX10 cd_X10_in) nm_X10_in ⟨Nat.le_of_ble_eq_true rfl, Nat.le_of_ble_eq_true rfl⟩ (Nat.le_of_ble_eq_true rfl) ⟨Nat.le_of_ble_eq_true rfl, Nat.le_of_ble_eq_true rfl⟩ dX10_takeOf_110 ?_
              refine cVi1 (e_X10_ended G _ _ (inP (c - 48) 0 9)) ⟨rfl, rfl⟩ (sv_w5 ml_RX10_99 im_X10_ended sl_X10_ended in_RX10 cd_X10_ended) nm_X10_ended ⟨Nat.le_of_ble_eq_true rfl, Nat.le_of_ble_eq_true rfl⟩ rfl (CF_10 sh_179) (shp_lt sh_179 (by simp)) (Nat.le_of_ble_eq_true rfl) ⟨Nat.le_of_ble_eq_true rfl, Nat.le_of_ble_eq_true rfl⟩ dX10_takeOf_113 ?_
              exact se_zret rfl ⟨rfl, rfl⟩ dX10_takeOf_116 (nrB _) (by rw [toR, if_neg (show ¬ toFar S from fun h => h.elim c17 (fun z => c31 z.2)), if_neg c43, if_neg c57, if_pos c82]) (by rw [toS, if_neg (show ¬ toFar S from fun h => h.elim c17 (fun z => c31 z.2)), if_neg c43, if_neg c57])
          · -- fall
            refine sv_aload_n 2 dX10_takeOf_60 rfl ?_
            refine sv_iload_n 1 dX10_takeOf_61 rfl ?_
            refine sv_iload_n 0 dX10_takeOf_62 rfl ?_
            refine cVi2 (e_X10_takeFirst G _ _ hz hlt _ _) ⟨rfl, rfl⟩ (sv_w5 ml_RX10_116 im_X10_takeFirst sl_X10_takeFirst in_RX10 cd_X10_takeFirst) nm_X10_takeFirst ⟨Nat.le_of_ble_eq_true rfl, Nat.le_of_ble_eq_true rfl⟩ rfl (CF_10 sh_179) (shp_lt sh_179 (by simp)) (Nat.le_of_ble_eq_true rfl) ⟨Nat.le_of_ble_eq_true rfl, Nat.le_of_ble_eq_true rfl⟩ dX10_takeOf_63 ?_
            exact se_zret rfl ⟨rfl, rfl⟩ dX10_takeOf_66 (tg_nar _) (by rw [toR, if_neg (show ¬ toFar S from fun h => h.elim c17 (fun z => c31 z.2)), if_neg c43, if_pos c57]) (by rw [toS, if_neg (show ¬ toFar S from fun h => h.elim c17 (fun z => c31 z.2)), if_neg c43, if_pos c57])
        · -- fall
          refine sv_aload_n 2 dX10_takeOf_46 rfl ?_
          refine sv_iload_n 0 dX10_takeOf_47 rfl ?_
          refine cVi1 (e_X10_takeCall G _ _ hz hlt _) ⟨rfl, rfl⟩ (sv_w5 ml_RX10_113 im_X10_takeCall sl_X10_takeCall in_RX10 cd_X10_takeCall) nm_X10_takeCall ⟨Nat.le_of_ble_eq_true rfl, Nat.le_of_ble_eq_true rfl⟩ rfl (CF_10 sh_179) (shp_lt sh_179 (by simp)) (Nat.le_of_ble_eq_true rfl) ⟨Nat.le_of_ble_eq_true rfl, Nat.le_of_ble_eq_true rfl⟩ dX10_takeOf_48 ?_
          exact se_zret rfl ⟨rfl, rfl⟩ dX10_takeOf_51 (tc_nar S _) (by rw [toR, if_neg (show ¬ toFar S from fun h => h.elim c17 (fun z => c31 z.2)), if_pos c43]) (by rw [toS, if_neg (show ¬ toFar S from fun h => h.elim c17 (fun z => c31 z.2)), if_pos c43])
      · -- fall
        refine sv_aload_n 2 dX10_takeOf_34 rfl ?_
        refine sv_iload_n 3 dX10_takeOf_35 rfl ?_
        refine cVi1 (e_X10_takeFar G _ _ hz hlt _) ⟨rfl, rfl⟩ (sv_w5 ml_RX10_109 im_X10_takeFar sl_X10_takeFar in_RX10 cd_X10_takeFar) nm_X10_takeFar ⟨Nat.le_of_ble_eq_true rfl, Nat.le_of_ble_eq_true rfl⟩ rfl (CF_10 sh_179) (shp_lt sh_179 (by simp)) (Nat.le_of_ble_eq_true rfl) ⟨Nat.le_of_ble_eq_true rfl, Nat.le_of_ble_eq_true rfl⟩ dX10_takeOf_36 ?_
        exact se_zret rfl ⟨rfl, rfl⟩ dX10_takeOf_39 (tf_nar S c) (by rw [toR, if_pos (show toFar S from Or.inr ⟨c23, c31⟩)]) (by rw [toS, if_pos (show toFar S from Or.inr ⟨c23, c31⟩)])
theorem inc16 {x : Int32} (h : ¬ x < 0 ∧ ¬ 16 < x) (h2 : ¬ x = 16) : ¬ x + 1 < 0 ∧ ¬ 16 < x + 1 := by
  obtain ⟨k, hk, rfl⟩ := nI_of h.1
  have h3 : k ≤ 16 := Nat.le_of_not_lt (fun z => h.2 (nI_lt (a := 16) z hk))
  have h4 : k ≠ 16 := fun z => h2 (by rw [z]; rfl)
  rw [nI_1]
  exact ⟨nI_pos (by omega), fun z => absurd ((nI_ltI (a := 16) (by omega) (by omega)).mp z) (by omega)⟩
theorem ts3_ne {S : Nat → Nat → Int32} {v : Int32} {k : Nat} (h : k < 194) : ts3 S v k = S k := by unfold ts3; rw [up2_row (by omega), up2_row (by omega), up2_row (by omega)]
theorem tsS_fr {S : Nat → Nat → Int32} {c : Int32} {k j : Nat} (h : k < 194) (h2 : k ≠ 179 ∨ (j ≠ 22 ∧ j ≠ 23)) : tsS S c k j = S k j := by
  unfold tsS
  split
  · split
    · rw [up2_ne (h2.imp id (fun z => z.2)), ts3_ne h]
    · rw [up2_ne (h2.imp id (fun z => z.1)), ts3_ne h]
  · rfl
theorem tsS_wfZ {S : Nat → Nat → Int32} {c : Int32} (hz : wfZ S) (h0 : S 179 22 = 0) : wfZ (tsS S c) := by
  unfold tsS
  split
  next hp =>
    split
    · unfold wfZ
      rw [up2_same, up2_ne (Or.inr (by decide)), ts3_ne (by decide)]
      exact ⟨inc16 hz.1 hp.2, fun h => absurd h0 h⟩
    · unfold wfZ
      rw [up2_same, up2_ne (Or.inr (by decide)), ts3_ne (by decide)]
      exact ⟨hz.1, fun _ => hp.2⟩
  · exact hz
theorem enS_fr {S : Nat → Nat → Int32} {k j : Nat} (h2 : k ≠ 179 ∨ (j ≠ 22 ∧ j ≠ 23)) : enS S k j = S k j := by
  unfold enS
  rw [up2_ne (h2.imp id (fun z => z.1)), up2_ne (h2.imp id (fun z => z.2))]
theorem enS_wfZ {S : Nat → Nat → Int32} (h : ¬ S 179 23 < 0 ∧ ¬ 16 < S 179 23) (h2 : ¬ S 179 23 = 16) : wfZ (enS S) := by
  unfold wfZ enS
  rw [up2_same, up2_ne (Or.inr (by decide)), up2_same]
  exact ⟨inc16 h h2, fun z => absurd rfl z⟩
theorem toS_fr {S : Nat → Nat → Int32} {c : Int32} {k j : Nat} (h : k < 194) (h2 : k ≠ 179 ∨ (j ≠ 22 ∧ j ≠ 23 ∧ j ≠ 27)) : toS S c k j = S k j := by
  have h3 : k ≠ 179 ∨ (j ≠ 22 ∧ j ≠ 23) := h2.imp id (fun z => ⟨z.1, z.2.1⟩)
  have u : ∀ (T : Nat → Nat → Int32) (a b : Nat) (v : Int32), 194 ≤ a → up2 T a b v k j = T k j := fun T a b v ha => up2_ne (Or.inl (by omega))
  unfold toS
  split
  · unfold tfS
    split
    · exact up2_ne (h2.imp id (fun z => z.2.2))
    · rw [enS_fr h3, up2_ne (h2.imp id (fun z => z.2.2)), u _ _ _ _ (by decide)]
  split
  · unfold tcS
    split
    · rw [up2_ne (h3.imp id (fun z => z.1)), u _ _ _ _ (by decide)]
    · rw [enS_fr h3, u _ _ _ _ (by decide)]
  split
  · unfold tgS
    split
    · rw [enS_fr h3, u _ _ _ _ (by decide)]
    · rw [up2_ne (h3.imp id (fun z => z.1)), u _ _ _ _ (by decide)]
  · rw [enS_fr h3, u _ _ _ _ (by decide)]
theorem toS_wfZ {S : Nat → Nat → Int32} {c : Int32} (hz : wfZ S) (h0 : ¬ S 179 22 = 0) : wfZ (toS S c) := by
  have h16 := hz.2 h0
  have e : ∀ (a b : Nat) (v : Int32), 194 ≤ a → wfZ (enS (up2 S a b v)) := fun a b v ha => enS_wfZ (by rw [up2_ne (Or.inl (by omega))]; exact hz.1) (by rw [up2_ne (Or.inl (by omega))]; exact h16)
  have e2 : ∀ (a b : Nat) (v : Int32), 194 ≤ a → wfZ (up2 (up2 S a b v) 179 22 2) := fun a b v ha => by
    unfold wfZ
    rw [up2_same, up2_ne (Or.inr (by decide)), up2_ne (Or.inl (by omega))]
    exact ⟨hz.1, fun _ => h16⟩
  unfold toS
  split
  · unfold tfS
    split
    · unfold wfZ
      rw [up2_ne (Or.inr (by decide)), up2_ne (Or.inr (by decide))]; exact hz
    · exact enS_wfZ (by rw [up2_ne (Or.inr (by decide)), up2_ne (Or.inl (by decide))]; exact hz.1) (by rw [up2_ne (Or.inr (by decide)), up2_ne (Or.inl (by decide))]; exact h16)
  split
  · unfold tcS
    split
    · exact e2 _ _ _ (by decide)
    · exact e _ _ _ (by decide)
  split
  · unfold tgS
    split
    · exact e _ _ _ (by decide)
    · exact e2 _ _ _ (by decide)
  · exact e _ _ _ (by decide)
def rtE (S : Nat → Nat → Int32) : Int32 := if S 179 22 = 0 then -9 else S 179 1
def rtL : Nat → Nat → (Nat → Nat → Int32) → Int32 × (Nat → Nat → Int32)
  | 0, _, S => (rtE S, S)
  | m + 1, j, S => if S 179 22 = 0 then (if tsP S (S 180 j) then rtL m (j + 1) (tsS S (S 180 j)) else (nI j, tsS S (S 180 j))) else (if toR S (S 180 j) = 0 then (nI j, toS S (S 180 j)) else rtL m (j + 1) (toS S (S 180 j)))
def rt0 (S : Nat → Nat → Int32) : Nat → Nat → Int32 := up2 (up2 (up2 S 179 23 0) 179 22 0) 179 27 0
def rtF (S : Nat → Nat → Int32) : Int32 × (Nat → Nat → Int32) := if S 179 1 = 0 ∨ ¬ S 180 0 = 67 then (0, rt0 S) else rtL (tn (S 179 1) - 1) 1 (rt0 S)
theorem rt0_fr {S : Nat → Nat → Int32} {k j : Nat} (h : k ≠ 179 ∨ (j ≠ 22 ∧ j ≠ 23 ∧ j ≠ 27)) : rt0 S k j = S k j := by
  unfold rt0
  rw [up2_ne (h.imp id (fun z => z.2.2)), up2_ne (h.imp id (fun z => z.1)), up2_ne (h.imp id (fun z => z.2.1))]
theorem rt0_wfZ (S : Nat → Nat → Int32) : wfZ (rt0 S) := by
  unfold wfZ rt0
  rw [up2_ne (Or.inr (by decide)), up2_ne (Or.inr (by decide)), up2_same, up2_ne (Or.inr (by decide)), up2_same]
  exact ⟨by decide, fun z => absurd rfl z⟩
set_option maxRecDepth 100000 in
set_option maxHeartbeats 4000000 in
theorem l_X10_readText (G : GT) (L : Nat → Int64) (N : Nat) (hN : N ≤ 80) : ∀ (m : Nat) (S : Nat → Nat → Int32) (j : Nat), N - j = m → j ≤ N → S 179 1 = nI N → wfZ S → sv_V G R_X10_readText RX10 "readText" cX10_readText 2 (some .int) (sPo G R_X10_readText (some (.int (rtL m j S).1)) (rtL m j S).2 L) 0 0 197 (CF G S L) 37 [(1, .int (nI j)), (0, .ref (gB G + 179))] [] := by
  intro m
  induction m using Nat.strongRecOn
  rename_i m ih
  intro S j hm hj hl hz
  refine sv_iload_n 0 dX10_readText_37 rfl ?_
  refine sv_aload_n 1 dX10_readText_38 rfl ?_
  refine sg_10_1 sh_179 fl_RX10_79 dX10_readText_39 ?_
  refine sv_topE hl ?_
  refine sv_icmp_ge (tgt := 89) dX10_readText_42 (by decide) (fun c42 => ?_) (fun c42 => ?_)
  · -- jump
    obtain rfl : m = 0 := by have := (nI_leI (by omega) (by omega)).mp c42; omega
    refine sv_aload_n 1 dX10_readText_89 rfl ?_
    refine sg_10_22 sh_179 fl_RX10_89 dX10_readText_90 ?_
    refine sv_if_ne (tgt := 101) dX10_readText_93 (by decide) (fun c93 => ?_) (fun c93 => ?_)
    · -- jump
      refine sv_aload_n 1 dX10_readText_101 rfl ?_
      refine sg_10_1 sh_179 fl_RX10_79 dX10_readText_102 ?_
      exact se_iret rfl ⟨rfl, rfl⟩ dX10_readText_105 (by rw [rtL]; dsimp only; rw [rtE, if_neg c93]) (by rw [rtL])
    · -- fall
      refine sv_bipush (v := (-9)) dX10_readText_96 (by decide) ?_
      refine sv_goto (tgt := 105) dX10_readText_98 (by decide) ?_
      exact se_iret rfl ⟨rfl, rfl⟩ dX10_readText_105 (by rw [rtL]; dsimp only; rw [rtE, if_pos c93]) (by rw [rtL])
  · -- fall
    have h7 : j < N := Nat.lt_of_not_le (fun z => c42 (nI_le z (by omega)))
    obtain ⟨m2, rfl⟩ : ∃ k, m = k + 1 := ⟨m - 1, by omega⟩
    rw [rtL]
    refine sv_aload_n 1 dX10_readText_45 rfl ?_
    refine sg_10_22 sh_179 fl_RX10_89 dX10_readText_46 ?_
    refine sv_if_ne (tgt := 68) dX10_readText_49 (by decide) (fun c49 => ?_) (fun c49 => ?_)
    · -- jump
      refine sv_aload_n 1 dX10_readText_68 rfl ?_
      refine sv_aload_n 1 dX10_readText_69 rfl ?_
      refine sg_10_0 sh_179 fl_RX10_7 dX10_readText_70 ?_
      refine sv_iload_n 0 dX10_readText_73 rfl ?_
      refine sx_ild sh_180 j rfl (by omega) dX10_readText_74 ?_
      refine cVi1 (e_X10_takeOf G _ _ hz.1 (rM_lt hz.1 (hz.2 c49)) _) ⟨rfl, rfl⟩ (sv_w5 ml_RX10_125 im_X10_takeOf sl_X10_takeOf in_RX10 cd_X10_takeOf) nm_X10_takeOf ⟨Nat.le_of_ble_eq_true rfl, Nat.le_of_ble_eq_true rfl⟩ rfl (CF_10 sh_179) (shp_lt sh_179 (by simp)) (Nat.le_of_ble_eq_true rfl) ⟨Nat.le_of_ble_eq_true rfl, Nat.le_of_ble_eq_true rfl⟩ dX10_readText_75 ?_
      refine sv_if_ne (tgt := 83) dX10_readText_78 (by decide) (fun c78 => ?_) (fun c78 => ?_)
      · -- jump
        refine sv_iinc 0 (ls' := [(1, _), (0, _)]) dX10_readText_83 rfl (nI_1 _) (by decide) rfl ?_
        refine sv_goto (tgt := 37) dX10_readText_86 (by decide) ?_
        rw [if_neg c49, if_neg c78]
        exact ih m2 (by omega) _ (j + 1) (by omega) (by omega) (by rw [toS_fr (by decide) (Or.inr (by decide))]; exact hl) (toS_wfZ hz c49)
      · -- fall
        refine sv_iload_n 0 dX10_readText_81 rfl ?_
        exact se_iret rfl ⟨rfl, rfl⟩ dX10_readText_82 (by rw [if_neg c49, if_pos c78]) (by rw [if_neg c49, if_pos c78])
    · -- fall
      refine sv_aload_n 1 dX10_readText_52 rfl ?_
      refine sv_aload_n 1 dX10_readText_53 rfl ?_
      refine sg_10_0 sh_179 fl_RX10_7 dX10_readText_54 ?_
      refine sv_iload_n 0 dX10_readText_57 rfl ?_
      refine sx_ild sh_180 j rfl (by omega) dX10_readText_58 ?_
      refine cVi1 (e_X10_takeSign G _ _ hz.1 _) ⟨rfl, rfl⟩ (sv_w5 ml_RX10_122 im_X10_takeSign sl_X10_takeSign in_RX10 cd_X10_takeSign) nm_X10_takeSign ⟨Nat.le_of_ble_eq_true rfl, Nat.le_of_ble_eq_true rfl⟩ rfl (CF_10 sh_179) (shp_lt sh_179 (by simp)) (Nat.le_of_ble_eq_true rfl) ⟨Nat.le_of_ble_eq_true rfl, Nat.le_of_ble_eq_true rfl⟩ dX10_readText_59 ?_
      refine sv_ifeq_b (tgt := 81) dX10_readText_62 (by decide) (fun c62 => ?_) (fun c62 => ?_)
      · -- jump
        refine sv_iload_n 0 dX10_readText_81 rfl ?_
        exact se_iret rfl ⟨rfl, rfl⟩ dX10_readText_82 (by rw [if_pos c49, if_neg c62]) (by rw [if_pos c49, if_neg c62])
      · -- fall
        refine sv_goto (tgt := 83) dX10_readText_65 (by decide) ?_
        refine sv_iinc 0 (ls' := [(1, _), (0, _)]) dX10_readText_83 rfl (nI_1 _) (by decide) rfl ?_
        refine sv_goto (tgt := 37) dX10_readText_86 (by decide) ?_
        rw [if_pos c49, if_pos c62]
        exact ih m2 (by omega) _ (j + 1) (by omega) (by omega) (by rw [tsS_fr (by decide) (Or.inr (by decide))]; exact hl) (tsS_wfZ hz c49)
set_option maxRecDepth 100000 in
set_option maxHeartbeats 4000000 in
theorem e_X10_readText (G : GT) (S : Nat → Nat → Int32) (L : Nat → Int64) (hX : wfX S) : sE G yX10_readText R_X10_readText cX10_readText 2 (some .int) [.ref (gB G + 179)] S L (some (.int (rtF S).1)) (rtF S).2 L := by
  refine sE.of (by decide) (Nat.le_of_ble_eq_true rfl) ?_
  show sv_V G R_X10_readText RX10 "readText" cX10_readText 2 (some .int) (sPo G R_X10_readText (some (.int (rtF S).1)) (rtF S).2 L) 0 0 197 (CF G S L) 0 [(0, .ref (gB G + 179))] []
  refine sv_aload_n 0 dX10_readText_0 rfl ?_
  refine sv_iconst (v := 0) dX10_readText_1 (by decide) ?_
  refine sp_10_23 sh_179 fl_RX10_86 dX10_readText_2 ?_
  refine sv_aload_n 0 dX10_readText_5 rfl ?_
  refine sv_iconst (v := 0) dX10_readText_6 (by decide) ?_
  refine sp_10_22 sh_179 fl_RX10_89 dX10_readText_7 ?_
  refine sv_aload_n 0 dX10_readText_10 rfl ?_
  refine sv_iconst (v := 0) dX10_readText_11 (by decide) ?_
  refine sp_10_27 sh_179 fl_RX10_92 dX10_readText_12 ?_
  show sv_V _ _ _ _ _ _ _ _ _ _ _ (CF G (rt0 S) L) _ _ _
  refine sv_aload_n 0 dX10_readText_15 rfl ?_
  refine sg_10_1 sh_179 fl_RX10_79 dX10_readText_16 ?_
  refine sv_topE (v' := S 179 1) (rt0_fr (Or.inr (by decide))) ?_
  refine sv_if_eq (tgt := 33) dX10_readText_19 (by decide) (fun c19 => ?_) (fun c19 => ?_)
  · -- jump
    refine sv_iconst (v := 0) dX10_readText_33 (by decide) ?_
    exact se_iret rfl ⟨rfl, rfl⟩ dX10_readText_34 (by rw [rtF, if_pos (Or.inl c19)]) (by rw [rtF, if_pos (Or.inl c19)])
  · -- fall
    refine sv_aload_n 0 dX10_readText_22 rfl ?_
    refine sg_10_0 sh_179 fl_RX10_7 dX10_readText_23 ?_
    refine sv_iconst (v := 0) dX10_readText_26 (by decide) ?_
    refine sx_ild sh_180 0 (by decide) (by decide) dX10_readText_27 ?_
    refine sv_topE (v' := S 180 0) (rt0_fr (Or.inl (by decide))) ?_
    refine sv_bipush (v := 67) dX10_readText_28 (by decide) ?_
    refine sv_icmp_eq (tgt := 35) dX10_readText_30 (by decide) (fun c30 => ?_) (fun c30 => ?_)
    · -- jump
      refine sv_iconst (v := 1) dX10_readText_35 (by decide) ?_
      refine sv_istore_n (ls' := [(1, _), (0, _)]) dX10_readText_36 (by decide) rfl ?_
      rw [rtF, if_neg (fun h => h.elim c19 (fun z => z c30))]
      have h80 := tn_le (M := 80) (k := 80) rfl (by decide) hX.1 hX.2
      have h1 : tn (S 179 1) ≠ 0 := fun z => c19 (by rw [nI_self hX.1, show (S 179 1).toNatClampNeg = 0 from z]; rfl)
      exact l_X10_readText G L (tn (S 179 1)) h80 _ (rt0 S) 1 rfl (by omega) (by rw [rt0_fr (Or.inr (by decide))]; exact nI_self hX.1) (rt0_wfZ S)
    · -- fall
      refine sv_iconst (v := 0) dX10_readText_33 (by decide) ?_
      exact se_iret rfl ⟨rfl, rfl⟩ dX10_readText_34 (by rw [rtF, if_pos (Or.inr c30)]) (by rw [rtF, if_pos (Or.inr c30)])
set_option maxRecDepth 100000 in
set_option maxHeartbeats 4000000 in
theorem e_X10_fault (G : GT) (S : Nat → Nat → Int32) (L : Nat → Int64) (hX : wfX S) : sE G yX10_fault R_X10_fault cX10_fault 1 (some .int) [.ref (gB G + 179)] S L (some (.int (rtF S).1)) (rtF S).2 L := by
  refine sE.of (by decide) (Nat.le_of_ble_eq_true rfl) ?_
  show sv_V G R_X10_fault RX10 "fault" cX10_fault 1 (some .int) (sPo G R_X10_fault (some (.int (rtF S).1)) (rtF S).2 L) 0 0 197 (CF G S L) 0 [(0, .ref (gB G + 179))] []
  refine sv_aload_n 0 dX10_fault_0 rfl ?_
  refine cVi0 (e_X10_readText G _ _ hX) ⟨rfl, rfl⟩ (sv_w5 ml_RX10_128 im_X10_readText sl_X10_readText in_RX10 cd_X10_readText) nm_X10_readText ⟨Nat.le_of_ble_eq_true rfl, Nat.le_of_ble_eq_true rfl⟩ rfl (CF_10 sh_179) (shp_lt sh_179 (by simp)) (Nat.le_of_ble_eq_true rfl) ⟨Nat.le_of_ble_eq_true rfl, Nat.le_of_ble_eq_true rfl⟩ dX10_fault_1 ?_
  exact se_iret rfl ⟨rfl, rfl⟩ dX10_fault_4 rfl rfl
theorem rtL_wfZ : ∀ (m j : Nat) (S : Nat → Nat → Int32), wfZ S → wfZ (rtL m j S).2
  | 0, _, _, h => h
  | m + 1, j, S, h => by
    rw [rtL]
    by_cases c1 : S 179 22 = 0
    · rw [if_pos c1]
      by_cases c2 : tsP S (S 180 j)
      · rw [if_pos c2]; exact rtL_wfZ m _ _ (tsS_wfZ h c1)
      · rw [if_neg c2]; exact tsS_wfZ h c1
    · rw [if_neg c1]
      by_cases c2 : toR S (S 180 j) = 0
      · rw [if_pos c2]; exact toS_wfZ h c1
      · rw [if_neg c2]; exact rtL_wfZ m _ _ (toS_wfZ h c1)
theorem rtF_wfZ (S : Nat → Nat → Int32) : wfZ (rtF S).2 := by
  unfold rtF
  split
  · exact rt0_wfZ S
  · exact rtL_wfZ _ _ _ (rt0_wfZ S)
def caK (B : Nat → Nat → Int32) (n : Nat) : Nat → Nat → Int32 := fun q j => if (q = 181 ∨ q = 182 ∨ q = 183) ∧ j < n then B (q + 13) j else B q j
theorem caK_0 (B : Nat → Nat → Int32) : caK B 0 = B := by
  funext q j
  unfold caK
  rw [if_neg (by omega)]
theorem caK_ne {B : Nat → Nat → Int32} {n k : Nat} (h : k ≠ 181 ∧ k ≠ 182 ∧ k ≠ 183) : caK B n k = B k := by
  funext j
  unfold caK
  rw [if_neg (by omega)]
theorem caK_s (B : Nat → Nat → Int32) (p : Nat) : up2 (up2 (up2 (caK B p) 181 p (B 194 p)) 182 p (B 195 p)) 183 p (B 196 p) = caK B (p + 1) := by
  funext q j
  rw [up2_at, up2_at, up2_at]
  unfold caK
  by_cases h1 : q = 183 ∧ j = p
  · obtain ⟨rfl, rfl⟩ := h1; simp
  by_cases h2 : q = 182 ∧ j = p
  · obtain ⟨rfl, rfl⟩ := h2; simp
  by_cases h3 : q = 181 ∧ j = p
  · obtain ⟨rfl, rfl⟩ := h3; simp
  rw [if_neg h1, if_neg h2, if_neg h3]
  by_cases h4 : (q = 181 ∨ q = 182 ∨ q = 183) ∧ j < p
  · rw [if_pos h4, if_pos (by omega)]
  · rw [if_neg h4, if_neg (by omega)]
def coB (T : Nat → Nat → Int32) : Nat → Nat → Int32 := up2 (va_up T 184 (fun _ => 0)) 179 2 (T 179 23)
def coE (B : Nat → Nat → Int32) (n : Nat) : Nat → Nat → Int32 := up2 (up2 (up2 (caK B n) 179 9 0) 188 0 0) 188 1 0
def ycode (S : Nat → Nat → Int32) : Int32 × (Nat → Nat → Int32) := if (rtF S).1 = -9 then ((rtF S).2 179 23, coE (coB (rtF S).2) (tn ((rtF S).2 179 23))) else (-3, (rtF S).2)
set_option maxRecDepth 100000 in
set_option maxHeartbeats 4000000 in
theorem l_X10_code (G : GT) (S : Nat → Nat → Int32) (L : Nat → Int64) (N : Nat) (hN : S 179 2 = nI N) (h16 : N ≤ 16) : ∀ (m p : Nat), N - p = m → p ≤ N → sv_V G R_X10_code RX10 "code" cX10_code 2 (some .int) (sPo G R_X10_code (some (.int (nI N))) (coE S N) L) 0 0 197 (CF G (caK S p) L) 29 [(1, .int (nI p)), (0, .ref (gB G + 179))] [] := by
  intro m
  induction m using Nat.strongRecOn
  rename_i m ih
  intro p hm hp
  refine sv_iload_n 0 dX10_code_29 rfl ?_
  refine sv_aload_n 1 dX10_code_30 rfl ?_
  refine sg_10_2 sh_179 fl_RX10_70 dX10_code_31 ?_
  refine sv_topE (v' := nI N) (by rw [caK_ne (by decide)]; exact hN) ?_
  refine sv_icmp_ge (tgt := 79) dX10_code_34 (by decide) (fun c34 => ?_) (fun c34 => ?_)
  · -- jump
    obtain rfl : p = N := by have := (nI_leI (by omega) (by omega)).mp c34; omega
    refine sv_aload_n 1 dX10_code_79 rfl ?_
    refine sv_iconst (v := 0) dX10_code_80 (by decide) ?_
    refine sp_10_9 sh_179 fl_RX10_132 dX10_code_81 ?_
    refine sv_aload_n 1 dX10_code_84 rfl ?_
    refine sg_10_12 sh_179 fl_RX10_34 dX10_code_85 ?_
    refine sv_iconst (v := 0) dX10_code_88 (by decide) ?_
    refine sv_iconst (v := 0) dX10_code_89 (by decide) ?_
    refine sx_zst sh_188 0 (by decide) (by decide) dX10_code_90 ?_
    rw [show vp_nar .boolean 0 = 0 from rfl]
    refine sv_aload_n 1 dX10_code_91 rfl ?_
    refine sg_10_12 sh_179 fl_RX10_34 dX10_code_92 ?_
    refine sv_iconst (v := 1) dX10_code_95 (by decide) ?_
    refine sv_iconst (v := 0) dX10_code_96 (by decide) ?_
    refine sx_zst sh_188 1 (by decide) (by decide) dX10_code_97 ?_
    rw [show vp_nar .boolean 0 = 0 from rfl]
    refine sv_aload_n 1 dX10_code_98 rfl ?_
    refine sg_10_2 sh_179 fl_RX10_70 dX10_code_99 ?_
    refine sv_topE (v' := nI p) (by rw [up2_row (by decide), up2_row (by decide), up2_ne (Or.inr (by decide)), caK_ne (by decide)]; exact hN) ?_
    exact se_iret rfl ⟨rfl, rfl⟩ dX10_code_102 rfl rfl
  · -- fall
    have h7 : p < N := Nat.lt_of_not_le (fun z => c34 (nI_le z (by omega)))
    refine sv_aload_n 1 dX10_code_37 rfl ?_
    refine sg_10_3 sh_179 fl_RX10_13 dX10_code_38 ?_
    refine sv_iload_n 0 dX10_code_41 rfl ?_
    refine sv_aload_n 1 dX10_code_42 rfl ?_
    refine sg_10_24 sh_179 fl_RX10_53 dX10_code_43 ?_
    refine sv_iload_n 0 dX10_code_46 rfl ?_
    refine sx_ild sh_194 p rfl (by omega) dX10_code_47 ?_
    refine sv_topE (v' := S 194 p) (by rw [caK_ne (by decide)]) ?_
    refine sx_ist sh_181 p rfl (by omega) dX10_code_48 ?_
    refine sv_aload_n 1 dX10_code_49 rfl ?_
    refine sg_10_4 sh_179 fl_RX10_16 dX10_code_50 ?_
    refine sv_iload_n 0 dX10_code_53 rfl ?_
    refine sv_aload_n 1 dX10_code_54 rfl ?_
    refine sg_10_25 sh_179 fl_RX10_56 dX10_code_55 ?_
    refine sv_iload_n 0 dX10_code_58 rfl ?_
    refine sx_ild sh_195 p rfl (by omega) dX10_code_59 ?_
    refine sv_topE (v' := S 195 p) (by rw [up2_row (by decide), caK_ne (by decide)]) ?_
    refine sx_ist sh_182 p rfl (by omega) dX10_code_60 ?_
    refine sv_aload_n 1 dX10_code_61 rfl ?_
    refine sg_10_5 sh_179 fl_RX10_19 dX10_code_62 ?_
    refine sv_iload_n 0 dX10_code_65 rfl ?_
    refine sv_aload_n 1 dX10_code_66 rfl ?_
    refine sg_10_26 sh_179 fl_RX10_59 dX10_code_67 ?_
    refine sv_iload_n 0 dX10_code_70 rfl ?_
    refine sx_ild sh_196 p rfl (by omega) dX10_code_71 ?_
    refine sv_topE (v' := S 196 p) (by rw [up2_row (by decide), up2_row (by decide), caK_ne (by decide)]) ?_
    refine sx_ist sh_183 p rfl (by omega) dX10_code_72 ?_
    refine sv_eqS (caK_s S p) ?_
    refine sv_iinc 0 (ls' := [(1, _), (0, _)]) dX10_code_73 rfl (nI_1 _) (by decide) rfl ?_
    refine sv_goto (tgt := 29) dX10_code_76 (by decide) ?_
    exact ih (N - (p + 1)) (by omega) (p + 1) rfl (by omega)
set_option maxRecDepth 100000 in
set_option maxHeartbeats 4000000 in
theorem e_X10_code (G : GT) (S : Nat → Nat → Int32) (L : Nat → Int64) (hX : wfX S) : sE G yX10_code R_X10_code cX10_code 2 (some .int) [.ref (gB G + 179)] S L (some (.int (ycode S).1)) (ycode S).2 L := by
  refine sE.of (by decide) (Nat.le_of_ble_eq_true rfl) ?_
  show sv_V G R_X10_code RX10 "code" cX10_code 2 (some .int) (sPo G R_X10_code (some (.int (ycode S).1)) (ycode S).2 L) 0 0 197 (CF G S L) 0 [(0, .ref (gB G + 179))] []
  refine sv_aload_n 0 dX10_code_0 rfl ?_
  refine cVi0 (e_X10_readText G _ _ hX) ⟨rfl, rfl⟩ (sv_w5 ml_RX10_128 im_X10_readText sl_X10_readText in_RX10 cd_X10_readText) nm_X10_readText ⟨Nat.le_of_ble_eq_true rfl, Nat.le_of_ble_eq_true rfl⟩ rfl (CF_10 sh_179) (shp_lt sh_179 (by simp)) (Nat.le_of_ble_eq_true rfl) ⟨Nat.le_of_ble_eq_true rfl, Nat.le_of_ble_eq_true rfl⟩ dX10_code_1 ?_
  refine sv_bipush (v := (-9)) dX10_code_4 (by decide) ?_
  refine sv_icmp_eq (tgt := 12) dX10_code_6 (by decide) (fun c6 => ?_) (fun c6 => ?_)
  · -- jump
    refine sv_aload_n 0 dX10_code_12 rfl ?_
    refine sg_10_6 sh_179 fl_RX10_22 dX10_code_13 ?_
    refine cSv1 (e_X10_clear G _ _ _ sh_184) ⟨rfl, rfl⟩ (sv_w4 ml_RX10_66 st_X10_clear in_RX10 cd_X10_clear) nm_X10_clear ⟨Nat.le_of_ble_eq_true rfl, Nat.le_of_ble_eq_true rfl⟩ (Nat.le_of_ble_eq_true rfl) ⟨Nat.le_of_ble_eq_true rfl, Nat.le_of_ble_eq_true rfl⟩ dX10_code_16 ?_
    refine sv_aload_n 0 dX10_code_19 rfl ?_
    refine sv_aload_n 0 dX10_code_20 rfl ?_
    refine sg_10_23 sh_179 fl_RX10_86 dX10_code_21 ?_
    refine sv_topE (v' := (rtF S).2 179 23) (by unfold va_up; rw [if_neg (by decide)]) ?_
    refine sp_10_2 sh_179 fl_RX10_70 dX10_code_24 ?_
    refine sv_iconst (v := 0) dX10_code_27 (by decide) ?_
    refine sv_istore_n (ls' := [(1, _), (0, _)]) dX10_code_28 (by decide) rfl ?_
    rw [ycode, if_pos c6]
    have hz := (rtF_wfZ S).1
    have h := l_X10_code G (coB (rtF S).2) L (tn ((rtF S).2 179 23)) (by unfold coB; rw [up2_same]; exact nI_self hz.1) (tn_16 hz.1 hz.2) _ 0 rfl (by omega)
    rw [caK_0, show nI (tn ((rtF S).2 179 23)) = (rtF S).2 179 23 from (nI_self hz.1).symm] at h
    exact h
  · -- fall
    refine sv_bipush (v := (-3)) dX10_code_9 (by decide) ?_
    exact se_iret rfl ⟨rfl, rfl⟩ dX10_code_11 (by rw [ycode, if_neg c6]) (by rw [ycode, if_neg c6])
