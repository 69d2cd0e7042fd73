theorem iteA {c : Prop} [Decidable c] {f g : Nat → Nat → Int32} {k : Nat} : (if c then f else g) k = if c then f k else g k := by split <;> rfl
theorem up2_row {S : Nat → Nat → Int32} {k j k' : Nat} {v : Int32} (h : k' ≠ k) : up2 S k j v k' = S k' := by simp [up2, va_up, h]
theorem stS_row {S : Nat → Nat → Int32} {mq r k : Nat} (h : k < mq ∨ mq + 4 ≤ k) : stS S mq r k = S k := by
  have h0 : k ≠ mq := by omega
  have h1 : k ≠ mq + 1 := by omega
  have h2 : k ≠ mq + 2 := by omega
  have h3 : k ≠ mq + 3 := by omega
  simp only [stS, putS, iteA, up2_row h0, up2_row h1, up2_row h2, up2_row h3, ite_self]
theorem kcS_row {S : Nat → Nat → Int32} {s k : Nat} {v : Int32} (h : k ≠ s) (h7 : k ≠ s + 7) : kcS S s v k = S k := by
  simp only [kcS, iteA, up2_row h, up2_row h7, ite_self]
theorem chS_row {S : Nat → Nat → Int32} {s r k : Nat} {p : Int32} (h : k ≠ s) (h7 : k ≠ s + 7) : chS S s r p k = S k := by
  simp only [chS, iteA, kcS_row h h7, up2_row h, ite_self]
theorem stopS_row {S : Nat → Nat → Int32} {q mq k : Nat} (h : k ≠ q + 1) : stopS S q mq k = S k := by
  simp only [stopS, iteA, up2_row h, ite_self]
theorem dep_inc {x : Int32} (h0 : ¬ x < 0) (h8 : x < 8) : ¬ x + 1 < 0 ∧ ¬ 8 < x + 1 := by
  obtain ⟨d, hd, rfl⟩ := nI_of h0
  have hd8 : d < 8 := (nI_ltI hd (by decide)).mp (show nI d < nI 8 from h8)
  rw [nI_1]
  exact ⟨nI_pos (by omega), nI_nlt (a := 8) (by omega) (by decide)⟩
theorem dep_dec {x : Int32} (h0 : 0 < x) (h8 : ¬ 8 < x) : ¬ x - 1 < 0 ∧ ¬ 8 < x - 1 := by
  have hn : ¬ x < 0 := fun h => Int32.lt_irrefl (Int32.lt_trans h h0)
  obtain ⟨d, hd, rfl⟩ := nI_of hn
  have hd8 : d ≤ 8 := Nat.le_of_not_lt (fun z => h8 (nI_lt (a := 8) z hd))
  obtain ⟨k, rfl⟩ : ∃ k, d = k + 1 := ⟨d - 1, by have : d ≠ 0 := fun z => by subst z; exact absurd h0 (by decide)
                                                 omega⟩
  rw [nI_pred]
  exact ⟨nI_pos (by omega), nI_nlt (a := 8) (by omega) (by decide)⟩
theorem stS_wfM {S : Nat → Nat → Int32} {mq r : Nat} (h : wfM S mq) (hp : stP S mq r) : wfM (stS S mq r) mq := by
  obtain ⟨h1, h2, h3⟩ := h
  generalize hT : stS S mq r = T
  unfold stS putS at hT
  unfold wfM
  by_cases k43 : S (r + 1) (tn (S mq 4)) = 43
  · rw [if_pos k43] at hT
    subst hT
    simp [up2_at, show ¬ mq = mq + 1 by omega, show ¬ mq = mq + 2 by omega, h1, h2, h3]
  rw [if_neg k43] at hT
  by_cases k45 : S (r + 1) (tn (S mq 4)) = 45
  · rw [if_pos k45] at hT
    subst hT
    simp [up2_at, show ¬ mq = mq + 1 by omega, show ¬ mq = mq + 2 by omega, h1, h2, h3]
  rw [if_neg k45] at hT
  by_cases k98 : S (r + 1) (tn (S mq 4)) = 98
  · rw [if_pos k98] at hT
    have hd : 0 < S mq 3 := Decidable.byContradiction (fun h => hp.2.1 ⟨k98, h⟩)
    have := dep_dec hd h2
    subst hT
    simp [up2_at, this.1, this.2, h3]
  rw [if_neg k98] at hT
  by_cases k99 : S (r + 1) (tn (S mq 4)) = 99
  · rw [if_pos k99] at hT
    have hd : S mq 3 < 8 := Decidable.byContradiction (fun h => hp.2.2 ⟨k99, h⟩)
    have := dep_inc h1 hd
    subst hT
    simp [up2_at, show ¬ mq = mq + 3 by omega, this.1, this.2, h3]
  rw [if_neg k99] at hT
  by_cases k105 : S (r + 1) (tn (S mq 4)) = 105
  · rw [if_pos k105] at hT
    subst hT
    simp [up2_at, show ¬ mq = mq + 1 by omega, show ¬ mq = mq + 2 by omega, h1, h2, h3]
  rw [if_neg k105] at hT
  by_cases k106 : S (r + 1) (tn (S mq 4)) = 106
  · rw [if_pos k106] at hT
    subst hT
    simp [up2_at, show ¬ mq = mq + 1 by omega, show ¬ mq = mq + 2 by omega, h1, h2, h3]
  rw [if_neg k106] at hT
  by_cases k107 : S (r + 1) (tn (S mq 4)) = 107
  · rw [if_pos k107] at hT
    subst hT
    simp [up2_at, show ¬ mq = mq + 1 by omega, show ¬ mq = mq + 2 by omega, h1, h2, h3]
  rw [if_neg k107] at hT
  by_cases k108 : S (r + 1) (tn (S mq 4)) = 108
  · rw [if_pos k108] at hT
    subst hT
    simp [up2_at, show ¬ mq = mq + 1 by omega, show ¬ mq = mq + 2 by omega, h1, h2, h3]
  rw [if_neg k108] at hT
  by_cases k111 : S (r + 1) (tn (S mq 4)) = 111
  · rw [if_pos k111] at hT
    subst hT
    simp [up2_at, show ¬ mq = mq + 1 by omega, show ¬ mq = mq + 2 by omega, h1, h2, h3]
  rw [if_neg k111] at hT
  by_cases k115 : S (r + 1) (tn (S mq 4)) = 115
  · rw [if_pos k115] at hT
    subst hT
    simp [up2_at, show ¬ mq = mq + 1 by omega, show ¬ mq = mq + 2 by omega, h1, h2, h3]
  rw [if_neg k115] at hT
  by_cases k122 : S (r + 1) (tn (S mq 4)) = 122
  · rw [if_pos k122] at hT
    subst hT
    simp [up2_at, show ¬ mq = mq + 1 by omega, show ¬ mq = mq + 2 by omega, h1, h2, h3]
  rw [if_neg k122] at hT
  subst hT
  simp [up2_at, h1, h2]
theorem kcS_wfK {S : Nat → Nat → Int32} {s : Nat} {v : Int32} (h : wfK S s) : wfK (kcS S s v) s := by
  unfold kcS
  split
  · exact h
  · split
    · simpa [wfK, up2_at, show ¬ s = s + 7 by omega] using h
    · rename_i h3
      obtain ⟨c, hc, hk⟩ := wfK_nI h
      have hc3 : c ≠ 3 := fun z => h3 (by rw [hk, z]; decide)
      have e : S s 3 + 1 = nI (c + 1) := by rw [hk, nI_1]
      simp only [wfK, up2_at, true_and, ↓reduceIte]
      rw [e]
      exact ⟨nI_pos (by omega), nI_nlt (a := 3) (by omega) (by decide)⟩
theorem chS_wfK {S : Nat → Nat → Int32} {s r : Nat} {p : Int32} (h : wfK S s) : wfK (chS S s r p) s := by
  unfold chS
  split
  · exact kcS_wfK (by simpa [wfK, up2_at] using h)
  · simpa [wfK, up2_at] using h
def raT (S : Nat → Nat → Int32) (s r : Nat) : Int32 := svF S r (S (s + 1) 4)
def raB (S : Nat → Nat → Int32) (s r : Nat) : Int32 := if (¬ raT S s r < 0 ∧ ¬ 8 ≤ raT S s r) then S (s + 1 + 2) (tn (raT S s r)) else 0
/-- the state behind a step that was made and counted -/
def ra1 (S : Nat → Nat → Int32) (s r : Nat) : Nat → Nat → Int32 := chS (stS S (s + 1) r) s r (S (s + 1) 4)
abbrev raW (S : Nat → Nat → Int32) (s r : Nat) : Prop := isWP (ra1 S s r) s (raT S s r) ∧ ¬ ra1 S s r (s + 1 + 2) (tn (raT S s r)) = raB S s r
def raR (S : Nat → Nat → Int32) (s r : Nat) : Int32 := if stP S (s + 1) r then (if ra1 S s r (s + 1) 5 = 0 then (if raW S s r then 2 else if stopR (ra1 S s r) (s + 5) (s + 1) = 0 then -1 else 1) else 3) else 4
def raS (S : Nat → Nat → Int32) (s r : Nat) : Nat → Nat → Int32 := if stP S (s + 1) r then (if ra1 S s r (s + 1) 5 = 0 then (if raW S s r then ra1 S s r else stopS (ra1 S s r) (s + 5) (s + 1)) else ra1 S s r) else S
/-- what a state's methods stand on -/
def wfS (S : Nat → Nat → Int32) (s r : Nat) : Prop := wfM S (s + 1) ∧ wfK S s ∧ wfP S r
theorem wfP_row {S S' : Nat → Nat → Int32} {r : Nat} (h : wfP S r) (h0 : S' r = S r) (h1 : S' (r + 1) = S (r + 1)) (h2 : S' (r + 2) = S (r + 2)) (h3 : S' (r + 3) = S (r + 3)) : wfP S' r := by
  unfold wfP at h ⊢
  rw [h0, h1, h2, h3]
  exact h
theorem ra1_row {S : Nat → Nat → Int32} {s r k : Nat} (h : k < s ∨ s + 8 ≤ k) : ra1 S s r k = S k := by
  unfold ra1
  rw [chS_row (by omega) (by omega), stS_row (by omega)]
theorem raS_row {S : Nat → Nat → Int32} {s r k : Nat} (h : k < s ∨ s + 8 ≤ k) : raS S s r k = S k := by
  simp only [raS, iteA, ra1_row h, stopS_row (show k ≠ s + 5 + 1 by omega), ite_self]
theorem ra1_wf {S : Nat → Nat → Int32} {s r : Nat} (h : wfS S s r) (hp : stP S (s + 1) r) : wfM (ra1 S s r) (s + 1) ∧ wfK (ra1 S s r) s := by
  obtain ⟨h1, h2, -⟩ := h
  refine ⟨?_, chS_wfK ?_⟩
  · have := stS_wfM h1 hp
    unfold wfM at this ⊢
    unfold ra1
    rw [chS_row (by omega) (by omega)]
    exact this
  · unfold wfK
    rw [stS_row (by omega)]
    exact h2
theorem raS_wf {S : Nat → Nat → Int32} {s r : Nat} (h : wfS S s r) (hd : r + 5 ≤ s ∨ s + 8 ≤ r) : wfS (raS S s r) s r := by
  have hP : wfP (raS S s r) r := wfP_row h.2.2 (raS_row (by omega)) (raS_row (by omega)) (raS_row (by omega)) (raS_row (by omega))
  by_cases hp : stP S (s + 1) r
  · obtain ⟨w1, w2⟩ := ra1_wf h hp
    refine ⟨?_, ?_, hP⟩
    · unfold raS
      rw [if_pos hp]
      repeat' split
      · exact w1
      · unfold wfM; rw [stopS_row (by omega)]; exact w1
      · exact w1
    · unfold raS
      rw [if_pos hp]
      repeat' split
      · exact w2
      · unfold wfK; rw [stopS_row (by omega)]; exact w2
      · exact w2
  · unfold raS at hP ⊢
    rw [if_neg hp] at hP ⊢
    exact ⟨h.1, h.2.1, hP⟩
set_option maxRecDepth 100000 in
set_option maxHeartbeats 4000000 in
theorem e_X6_reasonAfterStep (G : GT) (S : Nat → Nat → Int32) (L : Nat → Int64) (s : Nat) (hs : isState s) (r : Nat) (hr : isProg r) (hw : wfS S s r) (hd : r + 5 ≤ s ∨ s + 8 ≤ r) : sE G yX6_reasonAfterStep R_X6_reasonAfterStep cX6_reasonAfterStep 5 (some .int) [.ref (gB G + s), .ref (gB G + r)] S L (some (.int (raR S s r))) (raS S s r) L := by
  refine sE.of (by decide) (Nat.le_of_ble_eq_true rfl) ?_
  show sv_V G R_X6_reasonAfterStep RX6 "reasonAfterStep" cX6_reasonAfterStep 5 (some .int) (sPo G R_X6_reasonAfterStep (some (.int (raR S s r))) (raS S s r) L) 0 0 197 (CF G S L) 0 [(0, .ref (gB G + s)), (1, .ref (gB G + r))] []
  refine sv_aload_n 0 dX6_reasonAfterStep_0 rfl ?_
  refine sg_6_0 hs.1 fl_RX6_12 dX6_reasonAfterStep_1 ?_
  refine sg_3_4 hs.2.1.1 fl_RX6_81 dX6_reasonAfterStep_4 ?_
  refine sv_istore_n (ls' := [(2, _), (0, _), (1, _)]) dX6_reasonAfterStep_7 (by decide) rfl ?_
  refine sv_aload_n 2 dX6_reasonAfterStep_8 rfl ?_
  refine sv_iload_n 0 dX6_reasonAfterStep_9 rfl ?_
  refine cVi1 (e_X4_savedCell G _ _ _ hr hw.2.2 _) ⟨rfl, rfl⟩ (sv_w5 ml_RX6_84 im_X4_savedCell sl_X4_savedCell in_RX4 cd_X4_savedCell) nm_X4_savedCell ⟨Nat.le_of_ble_eq_true rfl, Nat.le_of_ble_eq_true rfl⟩ rfl (CF_4 hr.1) (shp_lt hr.1 (by simp)) (Nat.le_of_ble_eq_true rfl) ⟨Nat.le_of_ble_eq_true rfl, Nat.le_of_ble_eq_true rfl⟩ dX6_reasonAfterStep_10 ?_
  refine sv_istore_n (ls' := [(3, _), (2, _), (0, _), (1, _)]) dX6_reasonAfterStep_13 (by decide) rfl ?_
  refine sv_iload_n 0 dX6_reasonAfterStep_14 rfl ?_
  refine cNi1 (e_X9_isCell G _ _ _) ⟨rfl, rfl⟩ ml_RX6_59 (sv_w3 st_X9_isCell in_RX9 cd_X9_isCell) nm_X9_isCell ⟨Nat.le_of_ble_eq_true rfl, Nat.le_of_ble_eq_true rfl⟩ (Nat.le_of_ble_eq_true rfl) ⟨Nat.le_of_ble_eq_true rfl, Nat.le_of_ble_eq_true rfl⟩ dX6_reasonAfterStep_15 ?_
  refine sv_ifeq_b (tgt := 33) dX6_reasonAfterStep_18 (by decide) (fun c18 => ?_) (fun c18 => ?_)
  · -- jump
    refine sv_iconst (v := 0) dX6_reasonAfterStep_33 (by decide) ?_
    refine sv_istore (ls' := [(4, _), (3, _), (2, _), (0, _), (1, _)]) dX6_reasonAfterStep_34 (by decide) rfl ?_
    refine sv_aload_n 3 dX6_reasonAfterStep_36 rfl ?_
    refine sg_6_0 hs.1 fl_RX6_12 dX6_reasonAfterStep_37 ?_
    refine sv_aload_n 4 dX6_reasonAfterStep_40 rfl ?_
    refine cVi1 (e_X3_step G _ _ _ hs.2.1 _ hr hw.2.2 hw.1) ⟨rfl, rfl⟩ (sv_w5 ml_RX6_93 im_X3_step sl_X3_step in_RX3 cd_X3_step) nm_X3_step ⟨Nat.le_of_ble_eq_true rfl, Nat.le_of_ble_eq_true rfl⟩ rfl (CF_3 hs.2.1.1) (shp_lt hs.2.1.1 (by simp)) (Nat.le_of_ble_eq_true rfl) ⟨Nat.le_of_ble_eq_true rfl, Nat.le_of_ble_eq_true rfl⟩ dX6_reasonAfterStep_41 ?_
    refine sv_ifne_b (tgt := 49) dX6_reasonAfterStep_44 (by decide) (fun c44 => ?_) (fun c44 => ?_)
    · -- jump
      refine sv_eqS (if_pos c44) ?_
      refine sv_aload_n 3 dX6_reasonAfterStep_49 rfl ?_
      refine sv_iload_n 2 dX6_reasonAfterStep_50 rfl ?_
      refine sv_aload_n 4 dX6_reasonAfterStep_51 rfl ?_
      refine cVv2 (e_X6_charge G _ _ _ hs (by unfold wfK; rw [stS_row (by omega)]; exact hw.2.1) _ _ hr hd) ⟨rfl, rfl⟩ (sv_w5 ml_RX6_97 im_X6_charge sl_X6_charge in_RX6 cd_X6_charge) nm_X6_charge ⟨Nat.le_of_ble_eq_true rfl, Nat.le_of_ble_eq_true rfl⟩ rfl (CF_6 hs.1) (shp_lt hs.1 (by simp)) (Nat.le_of_ble_eq_true rfl) ⟨Nat.le_of_ble_eq_true rfl, Nat.le_of_ble_eq_true rfl⟩ dX6_reasonAfterStep_52 ?_
      refine sv_eqS (show _ = ra1 S s r from rfl) ?_
      refine sv_aload_n 3 dX6_reasonAfterStep_55 rfl ?_
      refine sg_6_0 hs.1 fl_RX6_12 dX6_reasonAfterStep_56 ?_
      refine sg_3_5 hs.2.1.1 fl_RX6_69 dX6_reasonAfterStep_59 ?_
      refine sv_if_eq (tgt := 67) dX6_reasonAfterStep_62 (by decide) (fun c62 => ?_) (fun c62 => ?_)
      · -- jump
        refine sv_aload_n 3 dX6_reasonAfterStep_67 rfl ?_
        refine sv_iload_n 1 dX6_reasonAfterStep_68 rfl ?_
        refine cVi1 (e_X6_isWatched G _ _ _ hs _) ⟨rfl, rfl⟩ (sv_w5 ml_RX6_101 im_X6_isWatched sl_X6_isWatched in_RX6 cd_X6_isWatched) nm_X6_isWatched ⟨Nat.le_of_ble_eq_true rfl, Nat.le_of_ble_eq_true rfl⟩ rfl (CF_6 hs.1) (shp_lt hs.1 (by simp)) (Nat.le_of_ble_eq_true rfl) ⟨Nat.le_of_ble_eq_true rfl, Nat.le_of_ble_eq_true rfl⟩ dX6_reasonAfterStep_69 ?_
        refine sv_ifeq_b (tgt := 91) dX6_reasonAfterStep_72 (by decide) (fun c72 => ?_) (fun c72 => ?_)
        · -- jump
          refine sv_aload_n 3 dX6_reasonAfterStep_91 rfl ?_
          refine sg_6_1 hs.1 fl_RX6_21 dX6_reasonAfterStep_92 ?_
          refine sv_aload_n 3 dX6_reasonAfterStep_95 rfl ?_
          refine sg_6_0 hs.1 fl_RX6_12 dX6_reasonAfterStep_96 ?_
          refine cVi1 (e_X0_stop G _ _ _ hs.2.2.1 _ hs.2.1) ⟨rfl, rfl⟩ (sv_w5 ml_RX6_104 im_X0_stop sl_X0_stop in_RX0 cd_X0_stop) nm_X0_stop ⟨Nat.le_of_ble_eq_true rfl, Nat.le_of_ble_eq_true rfl⟩ rfl (CF_0 hs.2.2.1.1) (shp_lt hs.2.2.1.1 (by simp)) (Nat.le_of_ble_eq_true rfl) ⟨Nat.le_of_ble_eq_true rfl, Nat.le_of_ble_eq_true rfl⟩ dX6_reasonAfterStep_99 ?_
          refine sv_if_eq (tgt := 109) dX6_reasonAfterStep_102 (by decide) (fun c102 => ?_) (fun c102 => ?_)
          · -- jump
            refine sv_iconst (v := (-1)) dX6_reasonAfterStep_109 (by decide) ?_
            exact se_iret rfl ⟨rfl, rfl⟩ dX6_reasonAfterStep_110 (by rw [raR, if_pos c44, if_pos c62, if_neg (fun h => c72 h.1), if_pos c102]) (by rw [raS, if_pos c44, if_pos c62, if_neg (fun h => c72 h.1)])
          · -- fall
            refine sv_iconst (v := 1) dX6_reasonAfterStep_105 (by decide) ?_
            refine sv_goto (tgt := 110) dX6_reasonAfterStep_106 (by decide) ?_
            exact se_iret rfl ⟨rfl, rfl⟩ dX6_reasonAfterStep_110 (by rw [raR, if_pos c44, if_pos c62, if_neg (fun h => c72 h.1), if_neg c102]) (by rw [raS, if_pos c44, if_pos c62, if_neg (fun h => c72 h.1)])
        · -- fall
          refine sv_aload_n 3 dX6_reasonAfterStep_75 rfl ?_
          refine sg_6_0 hs.1 fl_RX6_12 dX6_reasonAfterStep_76 ?_
          refine sg_3_1 hs.2.1.1 fl_RX6_90 dX6_reasonAfterStep_79 ?_
          refine sv_iload_n 1 dX6_reasonAfterStep_82 rfl ?_
          refine sx_ild hs.2.1.2.2.1 _ (nI_self c72.1.1) (tn_lt (M := 8) (k := 8) rfl (by decide) c72.1.1 c72.1.2) dX6_reasonAfterStep_83 ?_
          refine sv_iload 0 dX6_reasonAfterStep_84 rfl ?_
          refine sv_icmp_eq (tgt := 91) dX6_reasonAfterStep_86 (by decide) (fun c86 => ?_) (fun c86 => ?_)
          · -- jump
            refine sv_aload_n 3 dX6_reasonAfterStep_91 rfl ?_
            refine sg_6_1 hs.1 fl_RX6_21 dX6_reasonAfterStep_92 ?_
            refine sv_aload_n 3 dX6_reasonAfterStep_95 rfl ?_
            refine sg_6_0 hs.1 fl_RX6_12 dX6_reasonAfterStep_96 ?_
            refine cVi1 (e_X0_stop G _ _ _ hs.2.2.1 _ hs.2.1) ⟨rfl, rfl⟩ (sv_w5 ml_RX6_104 im_X0_stop sl_X0_stop in_RX0 cd_X0_stop) nm_X0_stop ⟨Nat.le_of_ble_eq_true rfl, Nat.le_of_ble_eq_true rfl⟩ rfl (CF_0 hs.2.2.1.1) (shp_lt hs.2.2.1.1 (by simp)) (Nat.le_of_ble_eq_true rfl) ⟨Nat.le_of_ble_eq_true rfl, Nat.le_of_ble_eq_true rfl⟩ dX6_reasonAfterStep_99 ?_
            refine sv_if_eq (tgt := 109) dX6_reasonAfterStep_102 (by decide) (fun c102 => ?_) (fun c102 => ?_)
            · -- jump
              refine sv_iconst (v := (-1)) dX6_reasonAfterStep_109 (by decide) ?_
              exact se_iret rfl ⟨rfl, rfl⟩ dX6_reasonAfterStep_110 (by rw [raR, if_pos c44, if_pos c62, if_neg (fun h => h.2 (by rw [(show raB S s r = _ from if_neg c18)]; exact c86)), if_pos c102]) (by rw [raS, if_pos c44, if_pos c62, if_neg (fun h => h.2 (by rw [(show raB S s r = _ from if_neg c18)]; exact c86))])
            · -- fall
              refine sv_iconst (v := 1) dX6_reasonAfterStep_105 (by decide) ?_
              refine sv_goto (tgt := 110) dX6_reasonAfterStep_106 (by decide) ?_
              exact se_iret rfl ⟨rfl, rfl⟩ dX6_reasonAfterStep_110 (by rw [raR, if_pos c44, if_pos c62, if_neg (fun h => h.2 (by rw [(show raB S s r = _ from if_neg c18)]; exact c86)), if_neg c102]) (by rw [raS, if_pos c44, if_pos c62, if_neg (fun h => h.2 (by rw [(show raB S s r = _ from if_neg c18)]; exact c86))])
          · -- fall
            refine sv_iconst (v := 2) dX6_reasonAfterStep_89 (by decide) ?_
            exact se_iret rfl ⟨rfl, rfl⟩ dX6_reasonAfterStep_90 (by rw [raR, if_pos c44, if_pos c62, if_pos ⟨c72, by rw [(show raB S s r = _ from if_neg c18)]; exact c86⟩]) (by rw [raS, if_pos c44, if_pos c62, if_pos ⟨c72, by rw [(show raB S s r = _ from if_neg c18)]; exact c86⟩])
      · -- fall
        refine sv_iconst (v := 3) dX6_reasonAfterStep_65 (by decide) ?_
        exact se_iret rfl ⟨rfl, rfl⟩ dX6_reasonAfterStep_66 (by rw [raR, if_pos c44, if_neg c62]) (by rw [raS, if_pos c44, if_neg c62])
    · -- fall
      refine sv_eqS (if_neg c44) ?_
      refine sv_iconst (v := 4) dX6_reasonAfterStep_47 (by decide) ?_
      exact se_iret rfl ⟨rfl, rfl⟩ dX6_reasonAfterStep_48 (by rw [raR, if_neg c44]) (by rw [raS, if_neg c44])
  · -- fall
    refine sv_aload_n 2 dX6_reasonAfterStep_21 rfl ?_
    refine sg_6_0 hs.1 fl_RX6_12 dX6_reasonAfterStep_22 ?_
    refine sg_3_1 hs.2.1.1 fl_RX6_90 dX6_reasonAfterStep_25 ?_
    refine sv_iload_n 0 dX6_reasonAfterStep_28 rfl ?_
    refine sx_ild hs.2.1.2.2.1 _ (nI_self c18.1) (tn_lt (M := 8) (k := 8) rfl (by decide) c18.1 c18.2) dX6_reasonAfterStep_29 ?_
    refine sv_goto (tgt := 34) dX6_reasonAfterStep_30 (by decide) ?_
    refine sv_istore (ls' := [(4, _), (3, _), (2, _), (0, _), (1, _)]) dX6_reasonAfterStep_34 (by decide) rfl ?_
    refine sv_aload_n 3 dX6_reasonAfterStep_36 rfl ?_
    refine sg_6_0 hs.1 fl_RX6_12 dX6_reasonAfterStep_37 ?_
    refine sv_aload_n 4 dX6_reasonAfterStep_40 rfl ?_
    refine cVi1 (e_X3_step G _ _ _ hs.2.1 _ hr hw.2.2 hw.1) ⟨rfl, rfl⟩ (sv_w5 ml_RX6_93 im_X3_step sl_X3_step in_RX3 cd_X3_step) nm_X3_step ⟨Nat.le_of_ble_eq_true rfl, Nat.le_of_ble_eq_true rfl⟩ rfl (CF_3 hs.2.1.1) (shp_lt hs.2.1.1 (by simp)) (Nat.le_of_ble_eq_true rfl) ⟨Nat.le_of_ble_eq_true rfl, Nat.le_of_ble_eq_true rfl⟩ dX6_reasonAfterStep_41 ?_
    refine sv_ifne_b (tgt := 49) dX6_reasonAfterStep_44 (by decide) (fun c44 => ?_) (fun c44 => ?_)
    · -- jump
      refine sv_eqS (if_pos c44) ?_
      refine sv_aload_n 3 dX6_reasonAfterStep_49 rfl ?_
      refine sv_iload_n 2 dX6_reasonAfterStep_50 rfl ?_
      refine sv_aload_n 4 dX6_reasonAfterStep_51 rfl ?_
      refine cVv2 (e_X6_charge G _ _ _ hs (by unfold wfK; rw [stS_row (by omega)]; exact hw.2.1) _ _ hr hd) ⟨rfl, rfl⟩ (sv_w5 ml_RX6_97 im_X6_charge sl_X6_charge in_RX6 cd_X6_charge) nm_X6_charge ⟨Nat.le_of_ble_eq_true rfl, Nat.le_of_ble_eq_true rfl⟩ rfl (CF_6 hs.1) (shp_lt hs.1 (by simp)) (Nat.le_of_ble_eq_true rfl) ⟨Nat.le_of_ble_eq_true rfl, Nat.le_of_ble_eq_true rfl⟩ dX6_reasonAfterStep_52 ?_
      refine sv_eqS (show _ = ra1 S s r from rfl) ?_
      refine sv_aload_n 3 dX6_reasonAfterStep_55 rfl ?_
      refine sg_6_0 hs.1 fl_RX6_12 dX6_reasonAfterStep_56 ?_
      refine sg_3_5 hs.2.1.1 fl_RX6_69 dX6_reasonAfterStep_59 ?_
      refine sv_if_eq (tgt := 67) dX6_reasonAfterStep_62 (by decide) (fun c62 => ?_) (fun c62 => ?_)
      · -- jump
        refine sv_aload_n 3 dX6_reasonAfterStep_67 rfl ?_
        refine sv_iload_n 1 dX6_reasonAfterStep_68 rfl ?_
        refine cVi1 (e_X6_isWatched G _ _ _ hs _) ⟨rfl, rfl⟩ (sv_w5 ml_RX6_101 im_X6_isWatched sl_X6_isWatched in_RX6 cd_X6_isWatched) nm_X6_isWatched ⟨Nat.le_of_ble_eq_true rfl, Nat.le_of_ble_eq_true rfl⟩ rfl (CF_6 hs.1) (shp_lt hs.1 (by simp)) (Nat.le_of_ble_eq_true rfl) ⟨Nat.le_of_ble_eq_true rfl, Nat.le_of_ble_eq_true rfl⟩ dX6_reasonAfterStep_69 ?_
        refine sv_ifeq_b (tgt := 91) dX6_reasonAfterStep_72 (by decide) (fun c72 => ?_) (fun c72 => ?_)
        · -- jump
          refine sv_aload_n 3 dX6_reasonAfterStep_91 rfl ?_
          refine sg_6_1 hs.1 fl_RX6_21 dX6_reasonAfterStep_92 ?_
          refine sv_aload_n 3 dX6_reasonAfterStep_95 rfl ?_
          refine sg_6_0 hs.1 fl_RX6_12 dX6_reasonAfterStep_96 ?_
          refine cVi1 (e_X0_stop G _ _ _ hs.2.2.1 _ hs.2.1) ⟨rfl, rfl⟩ (sv_w5 ml_RX6_104 im_X0_stop sl_X0_stop in_RX0 cd_X0_stop) nm_X0_stop ⟨Nat.le_of_ble_eq_true rfl, Nat.le_of_ble_eq_true rfl⟩ rfl (CF_0 hs.2.2.1.1) (shp_lt hs.2.2.1.1 (by simp)) (Nat.le_of_ble_eq_true rfl) ⟨Nat.le_of_ble_eq_true rfl, Nat.le_of_ble_eq_true rfl⟩ dX6_reasonAfterStep_99 ?_
          refine sv_if_eq (tgt := 109) dX6_reasonAfterStep_102 (by decide) (fun c102 => ?_) (fun c102 => ?_)
          · -- jump
            refine sv_iconst (v := (-1)) dX6_reasonAfterStep_109 (by decide) ?_
            exact se_iret rfl ⟨rfl, rfl⟩ dX6_reasonAfterStep_110 (by rw [raR, if_pos c44, if_pos c62, if_neg (fun h => c72 h.1), if_pos c102]) (by rw [raS, if_pos c44, if_pos c62, if_neg (fun h => c72 h.1)])
          · -- fall
            refine sv_iconst (v := 1) dX6_reasonAfterStep_105 (by decide) ?_
            refine sv_goto (tgt := 110) dX6_reasonAfterStep_106 (by decide) ?_
            exact se_iret rfl ⟨rfl, rfl⟩ dX6_reasonAfterStep_110 (by rw [raR, if_pos c44, if_pos c62, if_neg (fun h => c72 h.1), if_neg c102]) (by rw [raS, if_pos c44, if_pos c62, if_neg (fun h => c72 h.1)])
        · -- fall
          refine sv_aload_n 3 dX6_reasonAfterStep_75 rfl ?_
          refine sg_6_0 hs.1 fl_RX6_12 dX6_reasonAfterStep_76 ?_
          refine sg_3_1 hs.2.1.1 fl_RX6_90 dX6_reasonAfterStep_79 ?_
          refine sv_iload_n 1 dX6_reasonAfterStep_82 rfl ?_
          refine sx_ild hs.2.1.2.2.1 _ (nI_self c72.1.1) (tn_lt (M := 8) (k := 8) rfl (by decide) c72.1.1 c72.1.2) dX6_reasonAfterStep_83 ?_
          refine sv_iload 0 dX6_reasonAfterStep_84 rfl ?_
          refine sv_icmp_eq (tgt := 91) dX6_reasonAfterStep_86 (by decide) (fun c86 => ?_) (fun c86 => ?_)
          · -- jump
            refine sv_aload_n 3 dX6_reasonAfterStep_91 rfl ?_
            refine sg_6_1 hs.1 fl_RX6_21 dX6_reasonAfterStep_92 ?_
            refine sv_aload_n 3 dX6_reasonAfterStep_95 rfl ?_
            refine sg_6_0 hs.1 fl_RX6_12 dX6_reasonAfterStep_96 ?_
            refine cVi1 (e_X0_stop G _ _ _ hs.2.2.1 _ hs.2.1) ⟨rfl, rfl⟩ (sv_w5 ml_RX6_104 im_X0_stop sl_X0_stop in_RX0 cd_X0_stop) nm_X0_stop ⟨Nat.le_of_ble_eq_true rfl, Nat.le_of_ble_eq_true rfl⟩ rfl (CF_0 hs.2.2.1.1) (shp_lt hs.2.2.1.1 (by simp)) (Nat.le_of_ble_eq_true rfl) ⟨Nat.le_of_ble_eq_true rfl, Nat.le_of_ble_eq_true rfl⟩ dX6_reasonAfterStep_99 ?_
            refine sv_if_eq (tgt := 109) dX6_reasonAfterStep_102 (by decide) (fun c102 => ?_) (fun c102 => ?_)
            · -- jump
              refine sv_iconst (v := (-1)) dX6_reasonAfterStep_109 (by decide) ?_
              exact se_iret rfl ⟨rfl, rfl⟩ dX6_reasonAfterStep_110 (by rw [raR, if_pos c44, if_pos c62, if_neg (fun h => h.2 (by rw [(show raB S s r = _ from if_pos c18)]; exact c86)), if_pos c102]) (by rw [raS, if_pos c44, if_pos c62, if_neg (fun h => h.2 (by rw [(show raB S s r = _ from if_pos c18)]; exact c86))])
            · -- fall
              refine sv_iconst (v := 1) dX6_reasonAfterStep_105 (by decide) ?_
              refine sv_goto (tgt := 110) dX6_reasonAfterStep_106 (by decide) ?_
              exact se_iret rfl ⟨rfl, rfl⟩ dX6_reasonAfterStep_110 (by rw [raR, if_pos c44, if_pos c62, if_neg (fun h => h.2 (by rw [(show raB S s r = _ from if_pos c18)]; exact c86)), if_neg c102]) (by rw [raS, if_pos c44, if_pos c62, if_neg (fun h => h.2 (by rw [(show raB S s r = _ from if_pos c18)]; exact c86))])
          · -- fall
            refine sv_iconst (v := 2) dX6_reasonAfterStep_89 (by decide) ?_
            exact se_iret rfl ⟨rfl, rfl⟩ dX6_reasonAfterStep_90 (by rw [raR, if_pos c44, if_pos c62, if_pos ⟨c72, by rw [(show raB S s r = _ from if_pos c18)]; exact c86⟩]) (by rw [raS, if_pos c44, if_pos c62, if_pos ⟨c72, by rw [(show raB S s r = _ from if_pos c18)]; exact c86⟩])
      · -- fall
        refine sv_iconst (v := 3) dX6_reasonAfterStep_65 (by decide) ?_
        exact se_iret rfl ⟨rfl, rfl⟩ dX6_reasonAfterStep_66 (by rw [raR, if_pos c44, if_neg c62]) (by rw [raS, if_pos c44, if_neg c62])
    · -- fall
      refine sv_eqS (if_neg c44) ?_
      refine sv_iconst (v := 4) dX6_reasonAfterStep_47 (by decide) ?_
      exact se_iret rfl ⟨rfl, rfl⟩ dX6_reasonAfterStep_48 (by rw [raR, if_neg c44]) (by rw [raS, if_neg c44])
def pfL (s r : Nat) (plan d0 : Int32) : Nat → (Nat → Nat → Int32) → Int32 × (Nat → Nat → Int32)
  | 0, S => (5, S)
  | m + 1, S => if raR S s r = -1 then (if doneP (raS S s r) s plan d0 then (0, raS S s r) else pfL s r plan d0 m (raS S s r)) else (raR S s r, raS S s r)
/-- a plan is performed: the reason, and the state behind it -/
def pfF (S : Nat → Nat → Int32) (s r : Nat) (plan : Int32) : Int32 × (Nat → Nat → Int32) := if allowP S s plan then (if S (s + 1) 5 = 0 then pfL s r plan (S (s + 1) 3) 99 S else (3, S)) else (-3, S)
set_option maxRecDepth 100000 in
set_option maxHeartbeats 4000000 in
theorem l_X6_perform (G : GT) (L : Nat → Int64) (s : Nat) (hs : isState s) (r : Nat) (hr : isProg r) (hd : r + 5 ≤ s ∨ s + 8 ≤ r) (plan d0 : Int32) : ∀ (m : Nat) (S : Nat → Nat → Int32) (k : Nat) (ls : List (Nat × Value)), 99 - k = m → k ≤ 99 → wfS S s r → sv_V G R_X6_perform RX6 "perform" cX6_perform 6 (some .int) (sPo G R_X6_perform (some (.int (pfL s r plan d0 m S).1)) (pfL s r plan d0 m S).2 L) 0 0 197 (CF G S L) 34 [(4, .int (nI k)), (3, .int d0), (0, .ref (gB G + s)), (1, .int plan), (2, .ref (gB G + r))] [] := by
  intro m
  induction m using Nat.strongRecOn
  rename_i m ih
  intro S k _ hm hk hw
  refine sv_iload 0 dX6_perform_34 rfl ?_
  refine sv_bipush (v := 99) dX6_perform_36 (by decide) ?_
  refine sv_icmp_ge (tgt := 74) dX6_perform_38 (by decide) (fun c38 => ?_) (fun c38 => ?_)
  · -- jump
    obtain rfl : m = 0 := by have := (nI_leI (a := 99) (b := k) (by omega) (by omega)).mp c38; omega
    refine sv_iconst (v := 5) dX6_perform_74 (by decide) ?_
    exact se_iret rfl ⟨rfl, rfl⟩ dX6_perform_75 rfl rfl
  · -- fall
    have h38 : k < 99 := Nat.lt_of_not_le (fun z => c38 (nI_le (a := 99) z (by omega)))
    obtain ⟨m2, rfl⟩ : ∃ j, m = j + 1 := ⟨m - 1, by omega⟩
    rw [pfL]
    refine sv_aload_n 2 dX6_perform_41 rfl ?_
    refine sv_aload_n 4 dX6_perform_42 rfl ?_
    refine cVi1 (e_X6_reasonAfterStep G _ _ _ hs _ hr hw hd) ⟨rfl, rfl⟩ (sv_w5 ml_RX6_73 im_X6_reasonAfterStep sl_X6_reasonAfterStep in_RX6 cd_X6_reasonAfterStep) nm_X6_reasonAfterStep ⟨Nat.le_of_ble_eq_true rfl, Nat.le_of_ble_eq_true rfl⟩ rfl (CF_6 hs.1) (shp_lt hs.1 (by simp)) (Nat.le_of_ble_eq_true rfl) ⟨Nat.le_of_ble_eq_true rfl, Nat.le_of_ble_eq_true rfl⟩ dX6_perform_43 ?_
    refine sv_istore (ls' := [(5, _), (4, _), (3, _), (0, _), (1, _), (2, _)]) dX6_perform_46 (by decide) rfl ?_
    refine sv_iload 0 dX6_perform_48 rfl ?_
    refine sv_iconst (v := (-1)) dX6_perform_50 (by decide) ?_
    refine sv_icmp_eq (tgt := 57) dX6_perform_51 (by decide) (fun c51 => ?_) (fun c51 => ?_)
    · -- jump
      refine sv_aload_n 3 dX6_perform_57 rfl ?_
      refine sv_iload_n 4 dX6_perform_58 rfl ?_
      refine sv_iload_n 2 dX6_perform_59 rfl ?_
      refine cVi2 (e_X6_isDone G _ _ _ hs _ _) ⟨rfl, rfl⟩ (sv_w5 ml_RX6_77 im_X6_isDone sl_X6_isDone in_RX6 cd_X6_isDone) nm_X6_isDone ⟨Nat.le_of_ble_eq_true rfl, Nat.le_of_ble_eq_true rfl⟩ rfl (CF_6 hs.1) (shp_lt hs.1 (by simp)) (Nat.le_of_ble_eq_true rfl) ⟨Nat.le_of_ble_eq_true rfl, Nat.le_of_ble_eq_true rfl⟩ dX6_perform_60 ?_
      refine sv_ifeq_b (tgt := 68) dX6_perform_63 (by decide) (fun c63 => ?_) (fun c63 => ?_)
      · -- jump
        refine sv_iinc 1 (ls' := [(4, _), (5, _), (3, _), (0, _), (1, _), (2, _)]) dX6_perform_68 rfl (nI_1 _) (by decide) rfl ?_
        refine sv_goto (tgt := 34) dX6_perform_71 (by decide) ?_
        rw [if_pos c51, if_neg c63]
        refine sv_locals [0, 2, 3, 4, 5] rfl ?_
        exact ih m2 (by omega) _ (k + 1) [] (by omega) (by omega) (raS_wf hw hd)
      · -- fall
        refine sv_iconst (v := 0) dX6_perform_66 (by decide) ?_
        exact se_iret rfl ⟨rfl, rfl⟩ dX6_perform_67 (by rw [if_pos c51, if_pos c63]) (by rw [if_pos c51, if_pos c63])
    · -- fall
      refine sv_iload 0 dX6_perform_54 rfl ?_
      exact se_iret rfl ⟨rfl, rfl⟩ dX6_perform_56 (by rw [if_neg c51]) (by rw [if_neg c51])
set_option maxRecDepth 100000 in
set_option maxHeartbeats 4000000 in
theorem e_X6_perform (G : GT) (S : Nat → Nat → Int32) (L : Nat → Int64) (s : Nat) (hs : isState s) (plan : Int32) (r : Nat) (hr : isProg r) (hd : r + 5 ≤ s ∨ s + 8 ≤ r) (hw : wfS S s r) : sE G yX6_perform R_X6_perform cX6_perform 6 (some .int) [.ref (gB G + s), .int plan, .ref (gB G + r)] S L (some (.int (pfF S s r plan).1)) (pfF S s r plan).2 L := by
  refine sE.of (by decide) (Nat.le_of_ble_eq_true rfl) ?_
  show sv_V G R_X6_perform RX6 "perform" cX6_perform 6 (some .int) (sPo G R_X6_perform (some (.int (pfF S s r plan).1)) (pfF S s r plan).2 L) 0 0 197 (CF G S L) 0 [(0, .ref (gB G + s)), (1, .int plan), (2, .ref (gB G + r))] []
  refine sv_aload_n 0 dX6_perform_0 rfl ?_
  refine sv_iload_n 1 dX6_perform_1 rfl ?_
  refine cVi1 (e_X6_allows G _ _ _ hs _) ⟨rfl, rfl⟩ (sv_w5 ml_RX6_66 im_X6_allows sl_X6_allows in_RX6 cd_X6_allows) nm_X6_allows ⟨Nat.le_of_ble_eq_true rfl, Nat.le_of_ble_eq_true rfl⟩ rfl (CF_6 hs.1) (shp_lt hs.1 (by simp)) (Nat.le_of_ble_eq_true rfl) ⟨Nat.le_of_ble_eq_true rfl, Nat.le_of_ble_eq_true rfl⟩ dX6_perform_2 ?_
  refine sv_ifne_b (tgt := 11) dX6_perform_5 (by decide) (fun c5 => ?_) (fun c5 => ?_)
  · -- jump
    refine sv_aload_n 0 dX6_perform_11 rfl ?_
    refine sg_6_0 hs.1 fl_RX6_12 dX6_perform_12 ?_
    refine sg_3_5 hs.2.1.1 fl_RX6_69 dX6_perform_15 ?_
    refine sv_if_eq (tgt := 23) dX6_perform_18 (by decide) (fun c18 => ?_) (fun c18 => ?_)
    · -- jump
      refine sv_aload_n 0 dX6_perform_23 rfl ?_
      refine sg_6_0 hs.1 fl_RX6_12 dX6_perform_24 ?_
      refine sg_3_3 hs.2.1.1 fl_RX6_63 dX6_perform_27 ?_
      refine sv_istore_n (ls' := [(3, _), (0, _), (1, _), (2, _)]) dX6_perform_30 (by decide) rfl ?_
      refine sv_iconst (v := 0) dX6_perform_31 (by decide) ?_
      refine sv_istore (ls' := [(4, _), (3, _), (0, _), (1, _), (2, _)]) dX6_perform_32 (by decide) rfl ?_
      rw [pfF, if_pos c5, if_pos c18]
      exact l_X6_perform G L s hs r hr hd plan _ _ S 0 [] rfl (by omega) hw
    · -- fall
      refine sv_iconst (v := 3) dX6_perform_21 (by decide) ?_
      exact se_iret rfl ⟨rfl, rfl⟩ dX6_perform_22 (by rw [pfF, if_pos c5, if_neg c18]) (by rw [pfF, if_pos c5, if_neg c18])
  · -- fall
    refine sv_bipush (v := (-3)) dX6_perform_8 (by decide) ?_
    exact se_iret rfl ⟨rfl, rfl⟩ dX6_perform_10 (by rw [pfF, if_neg c5]) (by rw [pfF, if_neg c5])
