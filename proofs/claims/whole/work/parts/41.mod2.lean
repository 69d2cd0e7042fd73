set_option maxRecDepth 100000 in
set_option maxHeartbeats 4000000 in
theorem sw_X10_perform_22 {G : GT} {R : Room} {own nm : String} {nL : Nat} {rt : Option FieldType} {Post : Option Value → Nat → Nat → Nat → (Nat → va_E) → Prop} {cells slots n : Nat} {f : Nat → va_E} {ls : List (Nat × Value)} {st : List Value} {x : Int32} (d : decode cX10_perform 22 = .ok (.tableswitch 229 0 10 #[58, 68, 83, 98, 112, 126, 131, 149, 172, 190, 201], 58)) (k0 : x = 0 → sv_V G R own nm cX10_perform nL rt Post cells slots n f 80 ls st) (k1 : x = 1 → sv_V G R own nm cX10_perform nL rt Post cells slots n f 90 ls st) (k2 : x = 2 → sv_V G R own nm cX10_perform nL rt Post cells slots n f 105 ls st) (k3 : x = 3 → sv_V G R own nm cX10_perform nL rt Post cells slots n f 120 ls st) (k4 : x = 4 → sv_V G R own nm cX10_perform nL rt Post cells slots n f 134 ls st) (k5 : x = 5 → sv_V G R own nm cX10_perform nL rt Post cells slots n f 148 ls st) (k6 : x = 6 → sv_V G R own nm cX10_perform nL rt Post cells slots n f 153 ls st) (k7 : x = 7 → sv_V G R own nm cX10_perform nL rt Post cells slots n f 171 ls st) (k8 : x = 8 → sv_V G R own nm cX10_perform nL rt Post cells slots n f 194 ls st) (k9 : x = 9 → sv_V G R own nm cX10_perform nL rt Post cells slots n f 212 ls st) (k10 : x = 10 → sv_V G R own nm cX10_perform nL rt Post cells slots n f 223 ls st) (kd : ¬ x = 0 ∧ ¬ x = 1 ∧ ¬ x = 2 ∧ ¬ x = 3 ∧ ¬ x = 4 ∧ ¬ x = 5 ∧ ¬ x = 6 ∧ ¬ x = 7 ∧ ¬ x = 8 ∧ ¬ x = 9 ∧ ¬ x = 10 → sv_V G R own nm cX10_perform nL rt Post cells slots n f 251 ls st) : sv_V G R own nm cX10_perform nL rt Post cells slots n f 22 ls (.int x :: st) := by
  by_cases h0 : x = 0
  · subst h0; exact sv_tableIn (tgt := 80) (off := 58) d (by decide) (by decide) (by decide) (by decide) (k0 rfl)
  by_cases h1 : x = 1
  · subst h1; exact sv_tableIn (tgt := 90) (off := 68) d (by decide) (by decide) (by decide) (by decide) (k1 rfl)
  by_cases h2 : x = 2
  · subst h2; exact sv_tableIn (tgt := 105) (off := 83) d (by decide) (by decide) (by decide) (by decide) (k2 rfl)
  by_cases h3 : x = 3
  · subst h3; exact sv_tableIn (tgt := 120) (off := 98) d (by decide) (by decide) (by decide) (by decide) (k3 rfl)
  by_cases h4 : x = 4
  · subst h4; exact sv_tableIn (tgt := 134) (off := 112) d (by decide) (by decide) (by decide) (by decide) (k4 rfl)
  by_cases h5 : x = 5
  · subst h5; exact sv_tableIn (tgt := 148) (off := 126) d (by decide) (by decide) (by decide) (by decide) (k5 rfl)
  by_cases h6 : x = 6
  · subst h6; exact sv_tableIn (tgt := 153) (off := 131) d (by decide) (by decide) (by decide) (by decide) (k6 rfl)
  by_cases h7 : x = 7
  · subst h7; exact sv_tableIn (tgt := 171) (off := 149) d (by decide) (by decide) (by decide) (by decide) (k7 rfl)
  by_cases h8 : x = 8
  · subst h8; exact sv_tableIn (tgt := 194) (off := 172) d (by decide) (by decide) (by decide) (by decide) (k8 rfl)
  by_cases h9 : x = 9
  · subst h9; exact sv_tableIn (tgt := 212) (off := 190) d (by decide) (by decide) (by decide) (by decide) (k9 rfl)
  by_cases h10 : x = 10
  · subst h10; exact sv_tableIn (tgt := 223) (off := 201) d (by decide) (by decide) (by decide) (by decide) (k10 rfl)
  refine sv_tableOut (tgt := 251) d ?_ (by decide) (kd ⟨h0, h1, h2, h3, h4, h5, h6, h7, h8, h9, h10⟩)
  have q0 := sw_ne h0 (by decide : (0 : Int32).toInt = 0)
  have q1 := sw_ne h1 (by decide : (1 : Int32).toInt = 1)
  have q2 := sw_ne h2 (by decide : (2 : Int32).toInt = 2)
  have q3 := sw_ne h3 (by decide : (3 : Int32).toInt = 3)
  have q4 := sw_ne h4 (by decide : (4 : Int32).toInt = 4)
  have q5 := sw_ne h5 (by decide : (5 : Int32).toInt = 5)
  have q6 := sw_ne h6 (by decide : (6 : Int32).toInt = 6)
  have q7 := sw_ne h7 (by decide : (7 : Int32).toInt = 7)
  have q8 := sw_ne h8 (by decide : (8 : Int32).toInt = 8)
  have q9 := sw_ne h9 (by decide : (9 : Int32).toInt = 9)
  have q10 := sw_ne h10 (by decide : (10 : Int32).toInt = 10)
  omega
/-- an instruction of the reference whose numbers are in their ranges -/
def wfJ (k x y : Int32) : Prop := (¬ k = 7 → ¬ x < 0 ∧ ¬ 4 ≤ x) ∧ ((k = 1 ∨ k = 2) → ¬ y < 0 ∧ ¬ 4 ≤ y) ∧ ((k = 3 ∨ k = 4) → ¬ y < 0 ∧ ¬ 8 ≤ y)
def wfY (S : Nat → Nat → Int32) : Prop := wfN S ∧ ∀ p, p < tn (S 179 2) → wfJ (S 181 p) (S 182 p) (S 183 p)
/-- a row whose stack, copies and conditions are in their ranges -/
def wfR (S : Nat → Nat → Int32) (q : Nat) : Prop := (¬ S q 20 < 0 ∧ ¬ 8 < S q 20) ∧ (¬ S q 122 < 0 ∧ ¬ 3 < S q 122) ∧ ∀ a, a < 16 → ¬ S q (26 + a) = 0 → (S q (42 + a) = -9 ∨ (¬ S q (42 + a) < 0 ∧ ¬ 4 ≤ S q (42 + a)))
theorem hY16 {S : Nat → Nat → Int32} {a : Int32} (hN : wfN S) (h : hasY S a) : tn a < tn (S 179 2) ∧ tn a < 16 := by
  have h1 := hasI h.1 h.2 hN.1
  have h2 := tn_16 hN.1 hN.2
  exact ⟨h1, by omega⟩
abbrev dfP (S : Nat → Nat → Int32) (q : Nat) (a : Int32) : Prop := ¬ hasY S a ∨ (S 181 (tn a) = 7 ∧ S q 20 = 8) ∨ (S 181 (tn a) = 8 ∧ S q 20 = 0)
set_option maxRecDepth 100000 in
set_option maxHeartbeats 4000000 in
theorem e_X10_doesFault (G : GT) (S : Nat → Nat → Int32) (L : Nat → Int64) (hN : wfN S) (q : Nat) (hq : shp q = (11, 128)) (a : Int32) : sE G yX10_doesFault R_X10_doesFault cX10_doesFault 3 (some .boolean) [.ref (gB G + 179), .ref (gB G + q), .int a] S L (some (.int (if (dfP S q a) then 1 else 0))) S L := by
  refine sE.of (by decide) (Nat.le_of_ble_eq_true rfl) ?_
  show sv_V G R_X10_doesFault RX10 "doesFault" cX10_doesFault 3 (some .boolean) (sPo G R_X10_doesFault (some (.int (if (dfP S q a) then 1 else 0))) S L) 0 0 197 (CF G S L) 0 [(0, .ref (gB G + 179)), (1, .ref (gB G + q)), (2, .int a)] []
  refine sv_aload_n 0 dX10_doesFault_0 rfl ?_
  refine sv_iload_n 2 dX10_doesFault_1 rfl ?_
  refine cVi1 (e_X10_isPlace G _ _ hN _) ⟨rfl, rfl⟩ (sv_w5 ml_RX10_135 im_X10_isPlace sl_X10_isPlace in_RX10 cd_X10_isPlace) nm_X10_isPlace ⟨Nat.le_of_ble_eq_true rfl, Nat.le_of_ble_eq_true rfl⟩ rfl (CF_10 sh_179) (shp_lt sh_179 (by simp)) (Nat.le_of_ble_eq_true rfl) ⟨Nat.le_of_ble_eq_true rfl, Nat.le_of_ble_eq_true rfl⟩ dX10_doesFault_2 ?_
  refine sv_ifeq_b (tgt := 46) dX10_doesFault_5 (by decide) (fun c5 => ?_) (fun c5 => ?_)
  · -- jump
    refine sv_iconst (v := 1) dX10_doesFault_46 (by decide) ?_
    refine sv_goto (tgt := 51) dX10_doesFault_47 (by decide) ?_
    exact se_zret rfl ⟨rfl, rfl⟩ dX10_doesFault_51 (by rfl) (by rw [if_pos (show dfP S q a from Or.inl c5)]) rfl
  · -- fall
    refine sv_aload_n 0 dX10_doesFault_8 rfl ?_
    refine sg_10_3 sh_179 fl_RX10_13 dX10_doesFault_9 ?_
    refine sv_iload_n 2 dX10_doesFault_12 rfl ?_
    refine sx_ild sh_181 _ (nI_self c5.1) (hY16 hN c5).2 dX10_doesFault_13 ?_
    refine sv_bipush (v := 7) dX10_doesFault_14 (by decide) ?_
    refine sv_icmp_ne (tgt := 28) dX10_doesFault_16 (by decide) (fun c16 => ?_) (fun c16 => ?_)
    · -- jump
      refine sv_aload_n 0 dX10_doesFault_28 rfl ?_
      refine sg_10_3 sh_179 fl_RX10_13 dX10_doesFault_29 ?_
      refine sv_iload_n 2 dX10_doesFault_32 rfl ?_
      refine sx_ild sh_181 _ (nI_self c5.1) (hY16 hN c5).2 dX10_doesFault_33 ?_
      refine sv_bipush (v := 8) dX10_doesFault_34 (by decide) ?_
      refine sv_icmp_ne (tgt := 50) dX10_doesFault_36 (by decide) (fun c36 => ?_) (fun c36 => ?_)
      · -- jump
        refine sv_iconst (v := 0) dX10_doesFault_50 (by decide) ?_
        exact se_zret rfl ⟨rfl, rfl⟩ dX10_doesFault_51 (by rfl) (by rw [if_neg (show ¬ dfP S q a from fun h => h.elim (fun z => z c5) (fun h => h.elim (fun h => c16 h.1) (fun h => c36 h.1)))]) rfl
      · -- fall
        refine sv_aload_n 1 dX10_doesFault_39 rfl ?_
        refine sv_bipush (v := 20) dX10_doesFault_40 (by decide) ?_
        refine sx_ild hq 20 (by decide) (by decide) dX10_doesFault_42 ?_
        refine sv_if_ne (tgt := 50) dX10_doesFault_43 (by decide) (fun c43 => ?_) (fun c43 => ?_)
        · -- jump
          refine sv_iconst (v := 0) dX10_doesFault_50 (by decide) ?_
          exact se_zret rfl ⟨rfl, rfl⟩ dX10_doesFault_51 (by rfl) (by rw [if_neg (show ¬ dfP S q a from fun h => h.elim (fun z => z c5) (fun h => h.elim (fun h => c16 h.1) (fun h => c43 h.2)))]) rfl
        · -- fall
          refine sv_iconst (v := 1) dX10_doesFault_46 (by decide) ?_
          refine sv_goto (tgt := 51) dX10_doesFault_47 (by decide) ?_
          exact se_zret rfl ⟨rfl, rfl⟩ dX10_doesFault_51 (by rfl) (by rw [if_pos (show dfP S q a from Or.inr (Or.inr ⟨c36, c43⟩))]) rfl
    · -- fall
      refine sv_aload_n 1 dX10_doesFault_19 rfl ?_
      refine sv_bipush (v := 20) dX10_doesFault_20 (by decide) ?_
      refine sx_ild hq 20 (by decide) (by decide) dX10_doesFault_22 ?_
      refine sv_bipush (v := 8) dX10_doesFault_23 (by decide) ?_
      refine sv_icmp_eq (tgt := 46) dX10_doesFault_25 (by decide) (fun c25 => ?_) (fun c25 => ?_)
      · -- jump
        refine sv_iconst (v := 1) dX10_doesFault_46 (by decide) ?_
        refine sv_goto (tgt := 51) dX10_doesFault_47 (by decide) ?_
        exact se_zret rfl ⟨rfl, rfl⟩ dX10_doesFault_51 (by rfl) (by rw [if_pos (show dfP S q a from Or.inr (Or.inl ⟨c16, c25⟩))]) rfl
      · -- fall
        refine sv_aload_n 0 dX10_doesFault_28 rfl ?_
        refine sg_10_3 sh_179 fl_RX10_13 dX10_doesFault_29 ?_
        refine sv_iload_n 2 dX10_doesFault_32 rfl ?_
        refine sx_ild sh_181 _ (nI_self c5.1) (hY16 hN c5).2 dX10_doesFault_33 ?_
        refine sv_bipush (v := 8) dX10_doesFault_34 (by decide) ?_
        refine sv_icmp_ne (tgt := 50) dX10_doesFault_36 (by decide) (fun c36 => ?_) (fun c36 => ?_)
        · -- jump
          refine sv_iconst (v := 0) dX10_doesFault_50 (by decide) ?_
          exact se_zret rfl ⟨rfl, rfl⟩ dX10_doesFault_51 (by rfl) (by rw [if_neg (show ¬ dfP S q a from fun h => h.elim (fun z => z c5) (fun h => h.elim (fun h => c25 h.2) (fun h => c36 h.1)))]) rfl
        · -- fall
          refine sv_aload_n 1 dX10_doesFault_39 rfl ?_
          refine sv_bipush (v := 20) dX10_doesFault_40 (by decide) ?_
          refine sx_ild hq 20 (by decide) (by decide) dX10_doesFault_42 ?_
          refine sv_if_ne (tgt := 50) dX10_doesFault_43 (by decide) (fun c43 => ?_) (fun c43 => ?_)
          · -- jump
            refine sv_iconst (v := 0) dX10_doesFault_50 (by decide) ?_
            exact se_zret rfl ⟨rfl, rfl⟩ dX10_doesFault_51 (by rfl) (by rw [if_neg (show ¬ dfP S q a from fun h => h.elim (fun z => z c5) (fun h => h.elim (fun h => c25 h.2) (fun h => c43 h.2)))]) rfl
          · -- fall
            refine sv_iconst (v := 1) dX10_doesFault_46 (by decide) ?_
            refine sv_goto (tgt := 51) dX10_doesFault_47 (by decide) ?_
            exact se_zret rfl ⟨rfl, rfl⟩ dX10_doesFault_51 (by rfl) (by rw [if_pos (show dfP S q a from Or.inr (Or.inr ⟨c36, c43⟩))]) rfl
def ypR (S : Nat → Nat → Int32) (q p : Nat) (t : Int32) : Int32 :=
  if S 181 p = 0 then t + 1 else if S 181 p = 1 then t + 1 else if S 181 p = 2 then t + 1 else if S 181 p = 3 then t + 1 else if S 181 p = 4 then t + 1 else if S 181 p = 5 then t + S 183 p else if S 181 p = 6 then (if S q (tn (S 182 p)) = 0 then t + S 183 p else t + 1) else if S 181 p = 7 then S 182 p else if S 181 p = 8 then S q (12 + tn (S q 20 - 1)) else if S 181 p = 9 then t + 1 else if S 181 p = 10 then t + 1 else t
def ypS (S : Nat → Nat → Int32) (q p : Nat) (t : Int32) : Nat → Nat → Int32 :=
  if S 181 p = 0 then up2 S q (tn (S 182 p)) (S 183 p) else if S 181 p = 1 then up2 S q (tn (S 182 p)) (S q (tn (S 182 p)) + S q (tn (S 183 p))) else if S 181 p = 2 then up2 S q (tn (S 182 p)) (S q (tn (S 182 p)) - S q (tn (S 183 p))) else if S 181 p = 3 then up2 S q (tn (S 182 p)) (S q (4 + tn (S 183 p))) else if S 181 p = 4 then up2 S q (4 + tn (S 183 p)) (S q (tn (S 182 p))) else if S 181 p = 5 then S else if S 181 p = 6 then S
  else if S 181 p = 7 then up2 (up2 S q (12 + tn (S q 20)) (t + 1)) q 20 (S q 20 + 1) else if S 181 p = 8 then up2 S q 20 (S q 20 - 1) else if S 181 p = 9 then up2 S q (tn (S 182 p)) (t + 1) else if S 181 p = 10 then up2 (up2 S q 23 (S q 23 + 1)) q 24 (31 * S q 24 + S q (tn (S 182 p))) else up2 S q 22 1
set_option maxRecDepth 100000 in
set_option maxHeartbeats 4000000 in
theorem e_X10_perform (G : GT) (S : Nat → Nat → Int32) (L : Nat → Int64) (hY : wfY S) (q : Nat) (hq : shp q = (11, 128)) (hqq : q ≠ 181 ∧ q ≠ 182 ∧ q ≠ 183) (hR : wfR S q) (a t : Int32) (hf : ¬ dfP S q a) : sE G yX10_perform R_X10_perform cX10_perform 6 (some .int) [.ref (gB G + 179), .ref (gB G + q), .int a, .int t] S L (some (.int (ypR S q (tn a) t))) (ypS S q (tn a) t) L := by
  refine sE.of (by decide) (Nat.le_of_ble_eq_true rfl) ?_
  show sv_V G R_X10_perform RX10 "perform" cX10_perform 6 (some .int) (sPo G R_X10_perform (some (.int (ypR S q (tn a) t))) (ypS S q (tn a) t) L) 0 0 197 (CF G S L) 0 [(0, .ref (gB G + 179)), (1, .ref (gB G + q)), (2, .int a), (3, .int t)] []
  have hh : hasY S a := Decidable.byContradiction (fun z => hf (Or.inl z))
  have hp := (hY16 hY.1 hh).2
  have hw := hY.2 _ (hY16 hY.1 hh).1
  have ht8 := tn_le (M := 8) (k := 8) rfl (by decide) hR.1.1 hR.1.2
  refine sv_aload_n 0 dX10_perform_0 rfl ?_
  refine sg_10_4 sh_179 fl_RX10_16 dX10_perform_1 ?_
  refine sv_iload_n 2 dX10_perform_4 rfl ?_
  refine sx_ild sh_182 _ (nI_self hh.1) hp dX10_perform_5 ?_
  refine sv_istore (ls' := [(4, _), (0, _), (1, _), (2, _), (3, _)]) dX10_perform_6 (by decide) rfl ?_
  refine sv_aload_n 1 dX10_perform_8 rfl ?_
  refine sg_10_5 sh_179 fl_RX10_19 dX10_perform_9 ?_
  refine sv_iload_n 3 dX10_perform_12 rfl ?_
  refine sx_ild sh_183 _ (nI_self hh.1) hp dX10_perform_13 ?_
  refine sv_istore (ls' := [(5, _), (4, _), (0, _), (1, _), (2, _), (3, _)]) dX10_perform_14 (by decide) rfl ?_
  refine sv_aload_n 2 dX10_perform_16 rfl ?_
  refine sg_10_3 sh_179 fl_RX10_13 dX10_perform_17 ?_
  refine sv_iload_n 4 dX10_perform_20 rfl ?_
  refine sx_ild sh_181 _ (nI_self hh.1) hp dX10_perform_21 ?_
  refine sw_X10_perform_22 dX10_perform_22 (fun c22 => ?_) (fun c22 => ?_) (fun c22 => ?_) (fun c22 => ?_) (fun c22 => ?_) (fun c22 => ?_) (fun c22 => ?_) (fun c22 => ?_) (fun c22 => ?_) (fun c22 => ?_) (fun c22 => ?_) (fun c22 => ?_)
  · -- case 0
    refine sv_aload_n 3 dX10_perform_80 rfl ?_
    refine sv_iload 1 dX10_perform_81 rfl ?_
    refine sv_iload 0 dX10_perform_83 rfl ?_
    refine sx_ist hq (tn (S 182 (tn a))) (nI_self (hw.1 (by rw [c22]; decide)).1) (by have := tn_lt (M := 4) (k := 4) rfl (by decide) (hw.1 (by rw [c22]; decide)).1 (hw.1 (by rw [c22]; decide)).2; omega) dX10_perform_85 ?_
    refine sv_iload_n 5 dX10_perform_86 rfl ?_
    refine sv_iconst (v := 1) dX10_perform_87 (by decide) ?_
    refine sv_iadd dX10_perform_88 ?_
    exact se_iret rfl ⟨rfl, rfl⟩ dX10_perform_89 (by rw [ypR, if_pos c22]) (by rw [ypS, if_pos c22])
  · -- case 1
    refine sv_aload_n 3 dX10_perform_90 rfl ?_
    refine sv_iload 1 dX10_perform_91 rfl ?_
    refine sv_dup2_11 dX10_perform_93 rfl rfl ?_
    refine sx_ild hq (tn (S 182 (tn a))) (nI_self (hw.1 (by rw [c22]; decide)).1) (by have := tn_lt (M := 4) (k := 4) rfl (by decide) (hw.1 (by rw [c22]; decide)).1 (hw.1 (by rw [c22]; decide)).2; omega) dX10_perform_94 ?_
    refine sv_aload_n 3 dX10_perform_95 rfl ?_
    refine sv_iload 0 dX10_perform_96 rfl ?_
    refine sx_ild hq (tn (S 183 (tn a))) (nI_self (hw.2.1 (Or.inl c22)).1) (by have := tn_lt (M := 4) (k := 4) rfl (by decide) (hw.2.1 (Or.inl c22)).1 (hw.2.1 (Or.inl c22)).2; omega) dX10_perform_98 ?_
    refine sv_iadd dX10_perform_99 ?_
    refine sx_ist hq (tn (S 182 (tn a))) (nI_self (hw.1 (by rw [c22]; decide)).1) (by have := tn_lt (M := 4) (k := 4) rfl (by decide) (hw.1 (by rw [c22]; decide)).1 (hw.1 (by rw [c22]; decide)).2; omega) dX10_perform_100 ?_
    refine sv_iload_n 5 dX10_perform_101 rfl ?_
    refine sv_iconst (v := 1) dX10_perform_102 (by decide) ?_
    refine sv_iadd dX10_perform_103 ?_
    exact se_iret rfl ⟨rfl, rfl⟩ dX10_perform_104 (by rw [ypR, if_neg (by rw [c22]; decide), if_pos c22]) (by rw [ypS, if_neg (by rw [c22]; decide), if_pos c22])
  · -- case 2
    refine sv_aload_n 3 dX10_perform_105 rfl ?_
    refine sv_iload 1 dX10_perform_106 rfl ?_
    refine sv_dup2_11 dX10_perform_108 rfl rfl ?_
    refine sx_ild hq (tn (S 182 (tn a))) (nI_self (hw.1 (by rw [c22]; decide)).1) (by have := tn_lt (M := 4) (k := 4) rfl (by decide) (hw.1 (by rw [c22]; decide)).1 (hw.1 (by rw [c22]; decide)).2; omega) dX10_perform_109 ?_
    refine sv_aload_n 3 dX10_perform_110 rfl ?_
    refine sv_iload 0 dX10_perform_111 rfl ?_
    refine sx_ild hq (tn (S 183 (tn a))) (nI_self (hw.2.1 (Or.inr c22)).1) (by have := tn_lt (M := 4) (k := 4) rfl (by decide) (hw.2.1 (Or.inr c22)).1 (hw.2.1 (Or.inr c22)).2; omega) dX10_perform_113 ?_
    refine sv_isub dX10_perform_114 ?_
    refine sx_ist hq (tn (S 182 (tn a))) (nI_self (hw.1 (by rw [c22]; decide)).1) (by have := tn_lt (M := 4) (k := 4) rfl (by decide) (hw.1 (by rw [c22]; decide)).1 (hw.1 (by rw [c22]; decide)).2; omega) dX10_perform_115 ?_
    refine sv_iload_n 5 dX10_perform_116 rfl ?_
    refine sv_iconst (v := 1) dX10_perform_117 (by decide) ?_
    refine sv_iadd dX10_perform_118 ?_
    exact se_iret rfl ⟨rfl, rfl⟩ dX10_perform_119 (by rw [ypR, if_neg (by rw [c22]; decide), if_neg (by rw [c22]; decide), if_pos c22]) (by rw [ypS, if_neg (by rw [c22]; decide), if_neg (by rw [c22]; decide), if_pos c22])
  · -- case 3
    refine sv_aload_n 3 dX10_perform_120 rfl ?_
    refine sv_iload 1 dX10_perform_121 rfl ?_
    refine sv_aload_n 3 dX10_perform_123 rfl ?_
    refine sv_iconst (v := 4) dX10_perform_124 (by decide) ?_
    refine sv_iload 0 dX10_perform_125 rfl ?_
    refine sv_iadd dX10_perform_127 ?_
    refine sx_ild hq (4 + tn (S 183 (tn a))) (ad_tn 4 (hw.2.2 (Or.inl c22)).1) (by have := tn_lt (M := 8) (k := 8) rfl (by decide) (hw.2.2 (Or.inl c22)).1 (hw.2.2 (Or.inl c22)).2; omega) dX10_perform_128 ?_
    refine sx_ist hq (tn (S 182 (tn a))) (nI_self (hw.1 (by rw [c22]; decide)).1) (by have := tn_lt (M := 4) (k := 4) rfl (by decide) (hw.1 (by rw [c22]; decide)).1 (hw.1 (by rw [c22]; decide)).2; omega) dX10_perform_129 ?_
    refine sv_iload_n 5 dX10_perform_130 rfl ?_
    refine sv_iconst (v := 1) dX10_perform_131 (by decide) ?_
    refine sv_iadd dX10_perform_132 ?_
    exact se_iret rfl ⟨rfl, rfl⟩ dX10_perform_133 (by rw [ypR, if_neg (by rw [c22]; decide), if_neg (by rw [c22]; decide), if_neg (by rw [c22]; decide), if_pos c22]) (by rw [ypS, if_neg (by rw [c22]; decide), if_neg (by rw [c22]; decide), if_neg (by rw [c22]; decide), if_pos c22])
  · -- case 4
    refine sv_aload_n 3 dX10_perform_134 rfl ?_
    refine sv_iconst (v := 4) dX10_perform_135 (by decide) ?_
    refine sv_iload 0 dX10_perform_136 rfl ?_
    refine sv_iadd dX10_perform_138 ?_
    refine sv_aload_n 3 dX10_perform_139 rfl ?_
    refine sv_iload 1 dX10_perform_140 rfl ?_
    refine sx_ild hq (tn (S 182 (tn a))) (nI_self (hw.1 (by rw [c22]; decide)).1) (by have := tn_lt (M := 4) (k := 4) rfl (by decide) (hw.1 (by rw [c22]; decide)).1 (hw.1 (by rw [c22]; decide)).2; omega) dX10_perform_142 ?_
    refine sx_ist hq (4 + tn (S 183 (tn a))) (ad_tn 4 (hw.2.2 (Or.inr c22)).1) (by have := tn_lt (M := 8) (k := 8) rfl (by decide) (hw.2.2 (Or.inr c22)).1 (hw.2.2 (Or.inr c22)).2; omega) dX10_perform_143 ?_
    refine sv_iload_n 5 dX10_perform_144 rfl ?_
    refine sv_iconst (v := 1) dX10_perform_145 (by decide) ?_
    refine sv_iadd dX10_perform_146 ?_
    exact se_iret rfl ⟨rfl, rfl⟩ dX10_perform_147 (by rw [ypR, if_neg (by rw [c22]; decide), if_neg (by rw [c22]; decide), if_neg (by rw [c22]; decide), if_neg (by rw [c22]; decide), if_pos c22]) (by rw [ypS, if_neg (by rw [c22]; decide), if_neg (by rw [c22]; decide), if_neg (by rw [c22]; decide), if_neg (by rw [c22]; decide), if_pos c22])
  · -- case 5
    refine sv_iload_n 5 dX10_perform_148 rfl ?_
    refine sv_iload 0 dX10_perform_149 rfl ?_
    refine sv_iadd dX10_perform_151 ?_
    exact se_iret rfl ⟨rfl, rfl⟩ dX10_perform_152 (by rw [ypR, if_neg (by rw [c22]; decide), if_neg (by rw [c22]; decide), if_neg (by rw [c22]; decide), if_neg (by rw [c22]; decide), if_neg (by rw [c22]; decide), if_pos c22]) (by rw [ypS, if_neg (by rw [c22]; decide), if_neg (by rw [c22]; decide), if_neg (by rw [c22]; decide), if_neg (by rw [c22]; decide), if_neg (by rw [c22]; decide), if_pos c22])
  · -- case 6
    refine sv_aload_n 3 dX10_perform_153 rfl ?_
    refine sv_iload 1 dX10_perform_154 rfl ?_
    refine sx_ild hq (tn (S 182 (tn a))) (nI_self (hw.1 (by rw [c22]; decide)).1) (by have := tn_lt (M := 4) (k := 4) rfl (by decide) (hw.1 (by rw [c22]; decide)).1 (hw.1 (by rw [c22]; decide)).2; omega) dX10_perform_156 ?_
    refine sv_if_ne (tgt := 167) dX10_perform_157 (by decide) (fun c157 => ?_) (fun c157 => ?_)
    · -- jump
      refine sv_iload_n 5 dX10_perform_167 rfl ?_
      refine sv_iconst (v := 1) dX10_perform_168 (by decide) ?_
      refine sv_iadd dX10_perform_169 ?_
      exact se_iret rfl ⟨rfl, rfl⟩ dX10_perform_170 (by rw [ypR, if_neg (by rw [c22]; decide), if_neg (by rw [c22]; decide), if_neg (by rw [c22]; decide), if_neg (by rw [c22]; decide), if_neg (by rw [c22]; decide), if_neg (by rw [c22]; decide), if_pos c22, if_neg c157]) (by rw [ypS, if_neg (by rw [c22]; decide), if_neg (by rw [c22]; decide), if_neg (by rw [c22]; decide), if_neg (by rw [c22]; decide), if_neg (by rw [c22]; decide), if_neg (by rw [c22]; decide), if_pos c22])
    · -- fall
      refine sv_iload_n 5 dX10_perform_160 rfl ?_
      refine sv_iload 0 dX10_perform_161 rfl ?_
      refine sv_iadd dX10_perform_163 ?_
      refine sv_goto (tgt := 170) dX10_perform_164 (by decide) ?_
      exact se_iret rfl ⟨rfl, rfl⟩ dX10_perform_170 (by rw [ypR, if_neg (by rw [c22]; decide), if_neg (by rw [c22]; decide), if_neg (by rw [c22]; decide), if_neg (by rw [c22]; decide), if_neg (by rw [c22]; decide), if_neg (by rw [c22]; decide), if_pos c22, if_pos c157]) (by rw [ypS, if_neg (by rw [c22]; decide), if_neg (by rw [c22]; decide), if_neg (by rw [c22]; decide), if_neg (by rw [c22]; decide), if_neg (by rw [c22]; decide), if_neg (by rw [c22]; decide), if_pos c22])
  · -- case 7
    have h8 : tn (S q 20) ≠ 8 := fun z => hf (Or.inr (Or.inl ⟨c22, by rw [nI_self hR.1.1, show (S q 20).toNatClampNeg = 8 from z]; rfl⟩))
    refine sv_aload_n 3 dX10_perform_171 rfl ?_
    refine sv_bipush (v := 12) dX10_perform_172 (by decide) ?_
    refine sv_aload_n 3 dX10_perform_174 rfl ?_
    refine sv_bipush (v := 20) dX10_perform_175 (by decide) ?_
    refine sx_ild hq 20 (by decide) (by decide) dX10_perform_177 ?_
    refine sv_iadd dX10_perform_178 ?_
    refine sv_iload_n 5 dX10_perform_179 rfl ?_
    refine sv_iconst (v := 1) dX10_perform_180 (by decide) ?_
    refine sv_iadd dX10_perform_181 ?_
    refine sx_ist hq (12 + tn (S q 20)) (ad_tn 12 hR.1.1) (by omega) dX10_perform_182 ?_
    refine sv_aload_n 3 dX10_perform_183 rfl ?_
    refine sv_bipush (v := 20) dX10_perform_184 (by decide) ?_
    refine sv_dup2_11 dX10_perform_186 rfl rfl ?_
    refine sx_ild hq 20 (by decide) (by decide) dX10_perform_187 ?_
    refine sv_topE (v' := S q 20) (up2_ne (Or.inr (by have := h8; omega))) ?_
    refine sv_iconst (v := 1) dX10_perform_188 (by decide) ?_
    refine sv_iadd dX10_perform_189 ?_
    refine sx_ist hq 20 (by decide) (by decide) dX10_perform_190 ?_
    refine sv_iload 1 dX10_perform_191 rfl ?_
    exact se_iret rfl ⟨rfl, rfl⟩ dX10_perform_193 (by rw [ypR, if_neg (by rw [c22]; decide), if_neg (by rw [c22]; decide), if_neg (by rw [c22]; decide), if_neg (by rw [c22]; decide), if_neg (by rw [c22]; decide), if_neg (by rw [c22]; decide), if_neg (by rw [c22]; decide), if_pos c22]) (by rw [ypS, if_neg (by rw [c22]; decide), if_neg (by rw [c22]; decide), if_neg (by rw [c22]; decide), if_neg (by rw [c22]; decide), if_neg (by rw [c22]; decide), if_neg (by rw [c22]; decide), if_neg (by rw [c22]; decide), if_pos c22])
  · -- case 8
    have hpos : 0 < S q 20 := by
      rcases Nat.eq_zero_or_pos (tn (S q 20)) with z | z
      · exact absurd (Or.inr (Or.inr ⟨c22, by rw [nI_self hR.1.1, show (S q 20).toNatClampNeg = 0 from z]; rfl⟩)) hf
      · rw [nI_self hR.1.1]; exact nI_lt (a := 0) z (by show tn (S q 20) < _; omega)
    refine sv_aload_n 3 dX10_perform_194 rfl ?_
    refine sv_bipush (v := 20) dX10_perform_195 (by decide) ?_
    refine sv_dup2_11 dX10_perform_197 rfl rfl ?_
    refine sx_ild hq 20 (by decide) (by decide) dX10_perform_198 ?_
    refine sv_iconst (v := 1) dX10_perform_199 (by decide) ?_
    refine sv_isub dX10_perform_200 ?_
    refine sx_ist hq 20 (by decide) (by decide) dX10_perform_201 ?_
    refine sv_aload_n 3 dX10_perform_202 rfl ?_
    refine sv_bipush (v := 12) dX10_perform_203 (by decide) ?_
    refine sv_aload_n 3 dX10_perform_205 rfl ?_
    refine sv_bipush (v := 20) dX10_perform_206 (by decide) ?_
    refine sx_ild hq 20 (by decide) (by decide) dX10_perform_208 ?_
    refine sv_iadd dX10_perform_209 ?_
    refine sx_ild hq (12 + tn (S q 20 - 1)) (by rw [up2_same]; exact ad_tn 12 (dep_dec hpos hR.1.2).1) (by have := tn_le (M := 8) (k := 8) rfl (by decide) (dep_dec hpos hR.1.2).1 (dep_dec hpos hR.1.2).2; omega) dX10_perform_210 ?_
    refine sv_topE (v' := S q (12 + tn (S q 20 - 1))) (up2_ne (Or.inr (by have := (dep_ix hR.1.1 hpos hR.1.2).2; omega))) ?_
    exact se_iret rfl ⟨rfl, rfl⟩ dX10_perform_211 (by rw [ypR, if_neg (by rw [c22]; decide), if_neg (by rw [c22]; decide), if_neg (by rw [c22]; decide), if_neg (by rw [c22]; decide), if_neg (by rw [c22]; decide), if_neg (by rw [c22]; decide), if_neg (by rw [c22]; decide), if_neg (by rw [c22]; decide), if_pos c22]) (by rw [ypS, if_neg (by rw [c22]; decide), if_neg (by rw [c22]; decide), if_neg (by rw [c22]; decide), if_neg (by rw [c22]; decide), if_neg (by rw [c22]; decide), if_neg (by rw [c22]; decide), if_neg (by rw [c22]; decide), if_neg (by rw [c22]; decide), if_pos c22])
  · -- case 9
    refine sv_aload_n 3 dX10_perform_212 rfl ?_
    refine sv_iload 1 dX10_perform_213 rfl ?_
    refine sv_iload_n 5 dX10_perform_215 rfl ?_
    refine sv_iconst (v := 1) dX10_perform_216 (by decide) ?_
    refine sv_iadd dX10_perform_217 ?_
    refine sx_ist hq (tn (S 182 (tn a))) (nI_self (hw.1 (by rw [c22]; decide)).1) (by have := tn_lt (M := 4) (k := 4) rfl (by decide) (hw.1 (by rw [c22]; decide)).1 (hw.1 (by rw [c22]; decide)).2; omega) dX10_perform_218 ?_
    refine sv_iload_n 5 dX10_perform_219 rfl ?_
    refine sv_iconst (v := 1) dX10_perform_220 (by decide) ?_
    refine sv_iadd dX10_perform_221 ?_
    exact se_iret rfl ⟨rfl, rfl⟩ dX10_perform_222 (by rw [ypR, if_neg (by rw [c22]; decide), if_neg (by rw [c22]; decide), if_neg (by rw [c22]; decide), if_neg (by rw [c22]; decide), if_neg (by rw [c22]; decide), if_neg (by rw [c22]; decide), if_neg (by rw [c22]; decide), if_neg (by rw [c22]; decide), if_neg (by rw [c22]; decide), if_pos c22]) (by rw [ypS, if_neg (by rw [c22]; decide), if_neg (by rw [c22]; decide), if_neg (by rw [c22]; decide), if_neg (by rw [c22]; decide), if_neg (by rw [c22]; decide), if_neg (by rw [c22]; decide), if_neg (by rw [c22]; decide), if_neg (by rw [c22]; decide), if_neg (by rw [c22]; decide), if_pos c22])
  · -- case 10
    refine sv_aload_n 3 dX10_perform_223 rfl ?_
    refine sv_bipush (v := 23) dX10_perform_224 (by decide) ?_
    refine sv_dup2_11 dX10_perform_226 rfl rfl ?_
    refine sx_ild hq 23 (by decide) (by decide) dX10_perform_227 ?_
    refine sv_iconst (v := 1) dX10_perform_228 (by decide) ?_
    refine sv_iadd dX10_perform_229 ?_
    refine sx_ist hq 23 (by decide) (by decide) dX10_perform_230 ?_
    refine sv_aload_n 3 dX10_perform_231 rfl ?_
    refine sv_bipush (v := 24) dX10_perform_232 (by decide) ?_
    refine sv_bipush (v := 31) dX10_perform_234 (by decide) ?_
    refine sv_aload_n 3 dX10_perform_236 rfl ?_
    refine sv_bipush (v := 24) dX10_perform_237 (by decide) ?_
    refine sx_ild hq 24 (by decide) (by decide) dX10_perform_239 ?_
    refine sv_topE (v' := S q 24) (up2_ne (Or.inr (by decide))) ?_
    refine sv_imul dX10_perform_240 ?_
    refine sv_aload_n 3 dX10_perform_241 rfl ?_
    refine sv_iload 1 dX10_perform_242 rfl ?_
    refine sx_ild hq (tn (S 182 (tn a))) (nI_self (hw.1 (by rw [c22]; decide)).1) (by have := tn_lt (M := 4) (k := 4) rfl (by decide) (hw.1 (by rw [c22]; decide)).1 (hw.1 (by rw [c22]; decide)).2; omega) dX10_perform_244 ?_
    refine sv_topE (v' := S q (tn (S 182 (tn a)))) (up2_ne (Or.inr (show ¬ tn (S 182 (tn a)) = 23 from by have := tn_lt (M := 4) (k := 4) rfl (by decide) (hw.1 (by rw [c22]; decide)).1 (hw.1 (by rw [c22]; decide)).2; omega))) ?_
    refine sv_iadd dX10_perform_245 ?_
    refine sx_ist hq 24 (by decide) (by decide) dX10_perform_246 ?_
    refine sv_iload_n 5 dX10_perform_247 rfl ?_
    refine sv_iconst (v := 1) dX10_perform_248 (by decide) ?_
    refine sv_iadd dX10_perform_249 ?_
    exact se_iret rfl ⟨rfl, rfl⟩ dX10_perform_250 (by rw [ypR, if_neg (by rw [c22]; decide), if_neg (by rw [c22]; decide), if_neg (by rw [c22]; decide), if_neg (by rw [c22]; decide), if_neg (by rw [c22]; decide), if_neg (by rw [c22]; decide), if_neg (by rw [c22]; decide), if_neg (by rw [c22]; decide), if_neg (by rw [c22]; decide), if_neg (by rw [c22]; decide), if_pos c22]) (by rw [ypS, if_neg (by rw [c22]; decide), if_neg (by rw [c22]; decide), if_neg (by rw [c22]; decide), if_neg (by rw [c22]; decide), if_neg (by rw [c22]; decide), if_neg (by rw [c22]; decide), if_neg (by rw [c22]; decide), if_neg (by rw [c22]; decide), if_neg (by rw [c22]; decide), if_neg (by rw [c22]; decide), if_pos c22])
  · -- case None
    refine sv_aload_n 3 dX10_perform_251 rfl ?_
    refine sv_bipush (v := 22) dX10_perform_252 (by decide) ?_
    refine sv_iconst (v := 1) dX10_perform_254 (by decide) ?_
    refine sx_ist hq 22 (by decide) (by decide) dX10_perform_255 ?_
    refine sv_iload_n 5 dX10_perform_256 rfl ?_
    exact se_iret rfl ⟨rfl, rfl⟩ dX10_perform_257 (by obtain ⟨z0, z1, z2, z3, z4, z5, z6, z7, z8, z9, z10⟩ := c22; rw [ypR, if_neg z0, if_neg z1, if_neg z2, if_neg z3, if_neg z4, if_neg z5, if_neg z6, if_neg z7, if_neg z8, if_neg z9, if_neg z10]) (by obtain ⟨z0, z1, z2, z3, z4, z5, z6, z7, z8, z9, z10⟩ := c22; rw [ypS, if_neg z0, if_neg z1, if_neg z2, if_neg z3, if_neg z4, if_neg z5, if_neg z6, if_neg z7, if_neg z8, if_neg z9, if_neg z10])
/-- the reference's bare step: whether it does not fault, what it leaves -/
abbrev bsI (S : Nat → Nat → Int32) (q : Nat) : Prop := S q 21 = S 179 17 ∧ hasY S (S q 21)
abbrev bsP (S : Nat → Nat → Int32) (q : Nat) : Prop := bsI S q ∨ ¬ dfP S q (S q 21)
def bsS (S : Nat → Nat → Int32) (q : Nat) : Nat → Nat → Int32 := if bsI S q then up2 S q 21 (S q 21 + 1) else if dfP S q (S q 21) then S else up2 (ypS S q (tn (S q 21)) (S q 21)) q 21 (ypR S q (tn (S q 21)) (S q 21))
set_option maxRecDepth 100000 in
set_option maxHeartbeats 4000000 in
theorem e_X10_bareStep (G : GT) (S : Nat → Nat → Int32) (L : Nat → Int64) (hY : wfY S) (q : Nat) (hq : shp q = (11, 128)) (hqq : q ≠ 181 ∧ q ≠ 182 ∧ q ≠ 183) (hR : wfR S q) : sE G yX10_bareStep R_X10_bareStep cX10_bareStep 3 (some .boolean) [.ref (gB G + 179), .ref (gB G + q)] S L (some (.int (if (bsP S q) then 1 else 0))) (bsS S q) L := by
  refine sE.of (by decide) (Nat.le_of_ble_eq_true rfl) ?_
  show sv_V G R_X10_bareStep RX10 "bareStep" cX10_bareStep 3 (some .boolean) (sPo G R_X10_bareStep (some (.int (if (bsP S q) then 1 else 0))) (bsS S q) L) 0 0 197 (CF G S L) 0 [(0, .ref (gB G + 179)), (1, .ref (gB G + q))] []
  refine sv_aload_n 1 dX10_bareStep_0 rfl ?_
  refine sv_bipush (v := 21) dX10_bareStep_1 (by decide) ?_
  refine sx_ild hq 21 (by decide) (by decide) dX10_bareStep_3 ?_
  refine sv_istore_n (ls' := [(2, _), (0, _), (1, _)]) dX10_bareStep_4 (by decide) rfl ?_
  refine sv_iload_n 0 dX10_bareStep_5 rfl ?_
  refine sv_aload_n 1 dX10_bareStep_6 rfl ?_
  refine sg_10_17 sh_179 fl_RX10_62 dX10_bareStep_7 ?_
  refine sv_icmp_ne (tgt := 30) dX10_bareStep_10 (by decide) (fun c10 => ?_) (fun c10 => ?_)
  · -- jump
    refine sv_aload_n 1 dX10_bareStep_30 rfl ?_
    refine sv_aload_n 2 dX10_bareStep_31 rfl ?_
    refine sv_iload_n 0 dX10_bareStep_32 rfl ?_
    refine cVi2 (e_X10_doesFault G _ _ hY.1 _ hq _) ⟨rfl, rfl⟩ (sv_w5 ml_RX10_138 im_X10_doesFault sl_X10_doesFault in_RX10 cd_X10_doesFault) nm_X10_doesFault ⟨Nat.le_of_ble_eq_true rfl, Nat.le_of_ble_eq_true rfl⟩ rfl (CF_10 sh_179) (shp_lt sh_179 (by simp)) (Nat.le_of_ble_eq_true rfl) ⟨Nat.le_of_ble_eq_true rfl, Nat.le_of_ble_eq_true rfl⟩ dX10_bareStep_33 ?_
    refine sv_ifeq_b (tgt := 41) dX10_bareStep_36 (by decide) (fun c36 => ?_) (fun c36 => ?_)
    · -- jump
      refine sv_aload_n 2 dX10_bareStep_41 rfl ?_
      refine sv_bipush (v := 21) dX10_bareStep_42 (by decide) ?_
      refine sv_aload_n 1 dX10_bareStep_44 rfl ?_
      refine sv_aload_n 2 dX10_bareStep_45 rfl ?_
      refine sv_iload_n 0 dX10_bareStep_46 rfl ?_
      refine sv_iload_n 0 dX10_bareStep_47 rfl ?_
      refine cVi3 (e_X10_perform G _ _ hY _ hq hqq hR _ _ c36) ⟨rfl, rfl⟩ (sv_w5 ml_RX10_142 im_X10_perform sl_X10_perform in_RX10 cd_X10_perform) nm_X10_perform ⟨Nat.le_of_ble_eq_true rfl, Nat.le_of_ble_eq_true rfl⟩ rfl (CF_10 sh_179) (shp_lt sh_179 (by simp)) (Nat.le_of_ble_eq_true rfl) ⟨Nat.le_of_ble_eq_true rfl, Nat.le_of_ble_eq_true rfl⟩ dX10_bareStep_48 ?_
      refine sx_ist hq 21 (by decide) (by decide) dX10_bareStep_51 ?_
      refine sv_iconst (v := 1) dX10_bareStep_52 (by decide) ?_
      exact se_zret rfl ⟨rfl, rfl⟩ dX10_bareStep_53 (by rfl) (by rw [if_pos (Or.inr c36)]) (by rw [bsS, if_neg (fun h => c10 h.1), if_neg c36])
    · -- fall
      refine sv_iconst (v := 0) dX10_bareStep_39 (by decide) ?_
      exact se_zret rfl ⟨rfl, rfl⟩ dX10_bareStep_40 (by rfl) (by rw [if_neg (fun h => h.elim (fun h => c10 h.1) (fun z => z c36))]) (by rw [bsS, if_neg (fun h => c10 h.1), if_pos c36])
  · -- fall
    refine sv_aload_n 1 dX10_bareStep_13 rfl ?_
    refine sv_iload_n 0 dX10_bareStep_14 rfl ?_
    refine cVi1 (e_X10_isPlace G _ _ hY.1 _) ⟨rfl, rfl⟩ (sv_w5 ml_RX10_135 im_X10_isPlace sl_X10_isPlace in_RX10 cd_X10_isPlace) nm_X10_isPlace ⟨Nat.le_of_ble_eq_true rfl, Nat.le_of_ble_eq_true rfl⟩ rfl (CF_10 sh_179) (shp_lt sh_179 (by simp)) (Nat.le_of_ble_eq_true rfl) ⟨Nat.le_of_ble_eq_true rfl, Nat.le_of_ble_eq_true rfl⟩ dX10_bareStep_15 ?_
    refine sv_ifeq_b (tgt := 30) dX10_bareStep_18 (by decide) (fun c18 => ?_) (fun c18 => ?_)
    · -- jump
      refine sv_aload_n 1 dX10_bareStep_30 rfl ?_
      refine sv_aload_n 2 dX10_bareStep_31 rfl ?_
      refine sv_iload_n 0 dX10_bareStep_32 rfl ?_
      refine cVi2 (e_X10_doesFault G _ _ hY.1 _ hq _) ⟨rfl, rfl⟩ (sv_w5 ml_RX10_138 im_X10_doesFault sl_X10_doesFault in_RX10 cd_X10_doesFault) nm_X10_doesFault ⟨Nat.le_of_ble_eq_true rfl, Nat.le_of_ble_eq_true rfl⟩ rfl (CF_10 sh_179) (shp_lt sh_179 (by simp)) (Nat.le_of_ble_eq_true rfl) ⟨Nat.le_of_ble_eq_true rfl, Nat.le_of_ble_eq_true rfl⟩ dX10_bareStep_33 ?_
      refine sv_ifeq_b (tgt := 41) dX10_bareStep_36 (by decide) (fun c36 => ?_) (fun c36 => ?_)
      · -- jump
        refine sv_aload_n 2 dX10_bareStep_41 rfl ?_
        refine sv_bipush (v := 21) dX10_bareStep_42 (by decide) ?_
        refine sv_aload_n 1 dX10_bareStep_44 rfl ?_
        refine sv_aload_n 2 dX10_bareStep_45 rfl ?_
        refine sv_iload_n 0 dX10_bareStep_46 rfl ?_
        refine sv_iload_n 0 dX10_bareStep_47 rfl ?_
        refine cVi3 (e_X10_perform G _ _ hY _ hq hqq hR _ _ c36) ⟨rfl, rfl⟩ (sv_w5 ml_RX10_142 im_X10_perform sl_X10_perform in_RX10 cd_X10_perform) nm_X10_perform ⟨Nat.le_of_ble_eq_true rfl, Nat.le_of_ble_eq_true rfl⟩ rfl (CF_10 sh_179) (shp_lt sh_179 (by simp)) (Nat.le_of_ble_eq_true rfl) ⟨Nat.le_of_ble_eq_true rfl, Nat.le_of_ble_eq_true rfl⟩ dX10_bareStep_48 ?_
        refine sx_ist hq 21 (by decide) (by decide) dX10_bareStep_51 ?_
        refine sv_iconst (v := 1) dX10_bareStep_52 (by decide) ?_
        exact se_zret rfl ⟨rfl, rfl⟩ dX10_bareStep_53 (by rfl) (by rw [if_pos (Or.inr c36)]) (by rw [bsS, if_neg (fun h => c18 h.2), if_neg c36])
      · -- fall
        refine sv_iconst (v := 0) dX10_bareStep_39 (by decide) ?_
        exact se_zret rfl ⟨rfl, rfl⟩ dX10_bareStep_40 (by rfl) (by rw [if_neg (fun h => h.elim (fun h => c18 h.2) (fun z => z c36))]) (by rw [bsS, if_neg (fun h => c18 h.2), if_pos c36])
    · -- fall
      refine sv_aload_n 2 dX10_bareStep_21 rfl ?_
      refine sv_bipush (v := 21) dX10_bareStep_22 (by decide) ?_
      refine sv_iload_n 0 dX10_bareStep_24 rfl ?_
      refine sv_iconst (v := 1) dX10_bareStep_25 (by decide) ?_
      refine sv_iadd dX10_bareStep_26 ?_
      refine sx_ist hq 21 (by decide) (by decide) dX10_bareStep_27 ?_
      refine sv_iconst (v := 1) dX10_bareStep_28 (by decide) ?_
      exact se_zret rfl ⟨rfl, rfl⟩ dX10_bareStep_29 (by rfl) (by rw [if_pos (Or.inl ⟨c10, c18⟩)]) (by rw [bsS, if_pos ⟨c10, c18⟩])
abbrev alP (S : Nat → Nat → Int32) (p b : Nat) : Prop := S 181 p = S 181 b ∧ S 182 p = S 182 b ∧ S 183 p = S 183 b
def laL (S : Nat → Nat → Int32) (p : Nat) : Nat → Int32 → Int32
  | 0, f => f
  | j + 1, f => laL S p j (if alP S p j then nI j else f)
def laF (S : Nat → Nat → Int32) (p : Nat) : Int32 := laL S p p (nI p)
set_option maxRecDepth 100000 in
set_option maxHeartbeats 4000000 in
theorem e_X10_areAlike (G : GT) (S : Nat → Nat → Int32) (L : Nat → Int64) (p b : Nat) (hp : p < 16) (hb : b < 16) : sE G yX10_areAlike R_X10_areAlike cX10_areAlike 3 (some .boolean) [.ref (gB G + 179), .int (nI p), .int (nI b)] S L (some (.int (if (alP S p b) then 1 else 0))) S L := by
  refine sE.of (by decide) (Nat.le_of_ble_eq_true rfl) ?_
  show sv_V G R_X10_areAlike RX10 "areAlike" cX10_areAlike 3 (some .boolean) (sPo G R_X10_areAlike (some (.int (if (alP S p b) then 1 else 0))) S L) 0 0 197 (CF G S L) 0 [(0, .ref (gB G + 179)), (1, .int (nI p)), (2, .int (nI b))] []
  refine sv_aload_n 0 dX10_areAlike_0 rfl ?_
  refine sg_10_3 sh_179 fl_RX10_13 dX10_areAlike_1 ?_
  refine sv_iload_n 1 dX10_areAlike_4 rfl ?_
  refine sx_ild sh_181 p rfl (by omega) dX10_areAlike_5 ?_
  refine sv_aload_n 0 dX10_areAlike_6 rfl ?_
  refine sg_10_3 sh_179 fl_RX10_13 dX10_areAlike_7 ?_
  refine sv_iload_n 2 dX10_areAlike_10 rfl ?_
  refine sx_ild sh_181 b rfl (by omega) dX10_areAlike_11 ?_
  refine sv_icmp_ne (tgt := 49) dX10_areAlike_12 (by decide) (fun c12 => ?_) (fun c12 => ?_)
  · -- jump
    refine sv_iconst (v := 0) dX10_areAlike_49 (by decide) ?_
    exact se_zret rfl ⟨rfl, rfl⟩ dX10_areAlike_50 (by rfl) (by rw [if_neg (fun h => c12 h.1)]) rfl
  · -- fall
    refine sv_aload_n 0 dX10_areAlike_15 rfl ?_
    refine sg_10_4 sh_179 fl_RX10_16 dX10_areAlike_16 ?_
    refine sv_iload_n 1 dX10_areAlike_19 rfl ?_
    refine sx_ild sh_182 p rfl (by omega) dX10_areAlike_20 ?_
    refine sv_aload_n 0 dX10_areAlike_21 rfl ?_
    refine sg_10_4 sh_179 fl_RX10_16 dX10_areAlike_22 ?_
    refine sv_iload_n 2 dX10_areAlike_25 rfl ?_
    refine sx_ild sh_182 b rfl (by omega) dX10_areAlike_26 ?_
    refine sv_icmp_ne (tgt := 49) dX10_areAlike_27 (by decide) (fun c27 => ?_) (fun c27 => ?_)
    · -- jump
      refine sv_iconst (v := 0) dX10_areAlike_49 (by decide) ?_
      exact se_zret rfl ⟨rfl, rfl⟩ dX10_areAlike_50 (by rfl) (by rw [if_neg (fun h => c27 h.2.1)]) rfl
    · -- fall
      refine sv_aload_n 0 dX10_areAlike_30 rfl ?_
      refine sg_10_5 sh_179 fl_RX10_19 dX10_areAlike_31 ?_
      refine sv_iload_n 1 dX10_areAlike_34 rfl ?_
      refine sx_ild sh_183 p rfl (by omega) dX10_areAlike_35 ?_
      refine sv_aload_n 0 dX10_areAlike_36 rfl ?_
      refine sg_10_5 sh_179 fl_RX10_19 dX10_areAlike_37 ?_
      refine sv_iload_n 2 dX10_areAlike_40 rfl ?_
      refine sx_ild sh_183 b rfl (by omega) dX10_areAlike_41 ?_
      refine sv_icmp_ne (tgt := 49) dX10_areAlike_42 (by decide) (fun c42 => ?_) (fun c42 => ?_)
      · -- jump
        refine sv_iconst (v := 0) dX10_areAlike_49 (by decide) ?_
        exact se_zret rfl ⟨rfl, rfl⟩ dX10_areAlike_50 (by rfl) (by rw [if_neg (fun h => c42 h.2.2)]) rfl
      · -- fall
        refine sv_iconst (v := 1) dX10_areAlike_45 (by decide) ?_
        refine sv_goto (tgt := 50) dX10_areAlike_46 (by decide) ?_
        exact se_zret rfl ⟨rfl, rfl⟩ dX10_areAlike_50 (by rfl) (by rw [if_pos ⟨c12, c27, c42⟩]) rfl
theorem e_alN (G : GT) (S : Nat → Nat → Int32) (L : Nat → Int64) (p : Nat) (hp : p < 16) (x : Int32) (b : Nat) (hx : x = nI b) (hb : b < 16) : sE G yX10_areAlike R_X10_areAlike cX10_areAlike 3 (some .boolean) [.ref (gB G + 179), .int (nI p), .int x] S L (some (.int (if alP S p b then 1 else 0))) S L := by subst hx; exact e_X10_areAlike G S L p b hp hb
set_option maxRecDepth 100000 in
set_option maxHeartbeats 4000000 in
theorem l_X10_leastAlike (G : GT) (S : Nat → Nat → Int32) (L : Nat → Int64) (p : Nat) (hp : p < 16) : ∀ (m : Nat) (x f : Int32), x = nI m - 1 → m ≤ p → sv_V G R_X10_leastAlike RX10 "leastAlike" cX10_leastAlike 4 (some .int) (sPo G R_X10_leastAlike (some (.int (laL S p m f))) S L) 0 0 197 (CF G S L) 6 [(3, .int x), (2, .int f), (0, .ref (gB G + 179)), (1, .int (nI p))] [] := by
  intro m
  induction m using Nat.strongRecOn
  rename_i m ih
  intro x f hx hm
  refine sv_iload_n 0 dX10_leastAlike_6 rfl ?_
  refine sv_if_lt (tgt := 31) dX10_leastAlike_7 (by decide) (fun c7 => ?_) (fun c7 => ?_)
  · -- jump
    obtain rfl : m = 0 := by
      cases m with
      | zero => rfl
      | succ j => rw [hx, nI_pred] at c7; exact absurd c7 (nI_pos (by omega))
    refine sv_iload_n 1 dX10_leastAlike_31 rfl ?_
    exact se_iret rfl ⟨rfl, rfl⟩ dX10_leastAlike_32 rfl rfl
  · -- fall
    obtain ⟨j, rfl⟩ : ∃ j, m = j + 1 := Nat.exists_eq_succ_of_ne_zero (fun z => c7 (by rw [hx, z]; decide))
    have hxj : x = nI j := by rw [hx, nI_pred]
    rw [laL]
    refine sv_aload_n 2 dX10_leastAlike_10 rfl ?_
    refine sv_iload_n 3 dX10_leastAlike_11 rfl ?_
    refine sv_iload_n 0 dX10_leastAlike_12 rfl ?_
    refine cVi2 (e_alN G _ _ p hp _ j hxj (by omega)) ⟨rfl, rfl⟩ (sv_w5 ml_RX10_146 im_X10_areAlike sl_X10_areAlike in_RX10 cd_X10_areAlike) nm_X10_areAlike ⟨Nat.le_of_ble_eq_true rfl, Nat.le_of_ble_eq_true rfl⟩ rfl (CF_10 sh_179) (shp_lt sh_179 (by simp)) (Nat.le_of_ble_eq_true rfl) ⟨Nat.le_of_ble_eq_true rfl, Nat.le_of_ble_eq_true rfl⟩ dX10_leastAlike_13 ?_
    refine sv_ifeq_b (tgt := 23) dX10_leastAlike_16 (by decide) (fun c16 => ?_) (fun c16 => ?_)
    · -- jump
      refine sv_iload_n 1 dX10_leastAlike_23 rfl ?_
      refine sv_istore_n (ls' := [(2, _), (3, _), (0, _), (1, _)]) dX10_leastAlike_24 (by decide) rfl ?_
      refine sv_iinc 1 (ls' := [(3, _), (2, _), (0, _), (1, _)]) dX10_leastAlike_25 rfl rfl (by decide) rfl ?_
      refine sv_goto (tgt := 6) dX10_leastAlike_28 (by decide) ?_
      rw [if_neg c16]
      first | exact ih j (by omega) _ _ (by rw [hxj, Int32.sub_eq_add_neg, show Int32.ofInt (-1) = -1 from by decide]) (by omega) | (rw [← hxj]; exact ih j (by omega) _ _ (by rw [hxj, Int32.sub_eq_add_neg, show Int32.ofInt (-1) = -1 from by decide]) (by omega))
    · -- fall
      refine sv_iload_n 0 dX10_leastAlike_19 rfl ?_
      refine sv_goto (tgt := 24) dX10_leastAlike_20 (by decide) ?_
      refine sv_istore_n (ls' := [(2, _), (3, _), (0, _), (1, _)]) dX10_leastAlike_24 (by decide) rfl ?_
      refine sv_iinc 1 (ls' := [(3, _), (2, _), (0, _), (1, _)]) dX10_leastAlike_25 rfl rfl (by decide) rfl ?_
      refine sv_goto (tgt := 6) dX10_leastAlike_28 (by decide) ?_
      rw [if_pos c16]
      first | exact ih j (by omega) _ _ (by rw [hxj, Int32.sub_eq_add_neg, show Int32.ofInt (-1) = -1 from by decide]) (by omega) | (rw [← hxj]; exact ih j (by omega) _ _ (by rw [hxj, Int32.sub_eq_add_neg, show Int32.ofInt (-1) = -1 from by decide]) (by omega))
set_option maxRecDepth 100000 in
set_option maxHeartbeats 4000000 in
theorem e_X10_leastAlike (G : GT) (S : Nat → Nat → Int32) (L : Nat → Int64) (p : Nat) (hp : p < 16) : sE G yX10_leastAlike R_X10_leastAlike cX10_leastAlike 4 (some .int) [.ref (gB G + 179), .int (nI p)] S L (some (.int (laF S p))) S L := by
  refine sE.of (by decide) (Nat.le_of_ble_eq_true rfl) ?_
  show sv_V G R_X10_leastAlike RX10 "leastAlike" cX10_leastAlike 4 (some .int) (sPo G R_X10_leastAlike (some (.int (laF S p))) S L) 0 0 197 (CF G S L) 0 [(0, .ref (gB G + 179)), (1, .int (nI p))] []
  refine sv_iload_n 1 dX10_leastAlike_0 rfl ?_
  refine sv_istore_n (ls' := [(2, _), (0, _), (1, _)]) dX10_leastAlike_1 (by decide) rfl ?_
  refine sv_iload_n 2 dX10_leastAlike_2 rfl ?_
  refine sv_iconst (v := 1) dX10_leastAlike_3 (by decide) ?_
  refine sv_isub dX10_leastAlike_4 ?_
  refine sv_istore_n (ls' := [(3, _), (2, _), (0, _), (1, _)]) dX10_leastAlike_5 (by decide) rfl ?_
  exact l_X10_leastAlike G S L p hp p _ _ rfl (Nat.le_refl _)
