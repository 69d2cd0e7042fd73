theorem foL_fr : ∀ (m : Nat) (S : Nat → Nat → Int32), wfY S → wfR S 185 → wfY (foL m S).2 ∧ wfR (foL m S).2 185 ∧ ∀ k j, k ≠ 185 → (k ≠ 179 ∨ j ≠ 18) → (foL m S).2 k j = S k j
  | 0, S, hY, hR => ⟨hY, hR, fun _ _ _ _ => rfl⟩
  | m + 1, S, hY, hR => by
    rw [foL]
    by_cases c1 : S 185 22 = 0
    · rw [if_pos c1]
      by_cases c2 : bsP S 185
      · rw [if_pos c2]
        have ih := foL_fr m (foA S) (foA_wfY hY hR) (foA_wfR hY hR)
        refine ⟨ih.1, ih.2.1, fun k j h1 h2 => ?_⟩
        rw [ih.2.2 k j h1 h2, foA, up2_ne h2, bsS_hi hY hR (Or.inl h1)]
      · rw [if_neg c2]
        exact ⟨bsS_wfY sh_185 hY hR, bsS_wfR hY hR, fun k j h1 _ => bsS_hi hY hR (Or.inl h1)⟩
    · rw [if_neg c1]; exact ⟨hY, hR, fun _ _ _ _ => rfl⟩
theorem foF_fr {S : Nat → Nat → Int32} (hY : wfY S) (hR : wfR S 185) : wfY (foF S).2 ∧ wfR (foF S).2 185 ∧ ∀ k j, k ≠ 185 → (k ≠ 179 ∨ j ≠ 18) → (foF S).2 k j = S k j := by
  have h := foL_fr 300 (up2 S 179 18 0) (wfY_of (up2_ne (Or.inr (by decide))) (fun k hk => up2_row (by omega)) hY) (wfR_row (up2_row (by decide)) hR)
  exact ⟨h.1, h.2.1, fun k j h1 h2 => by rw [foF, h.2.2 k j h1 h2, up2_ne h2]⟩
def whI (S : Nat → Nat → Int32) (p : Nat) : Nat → Nat → Int32 := up2 (trS S) 179 17 (nI p)
def whT (S : Nat → Nat → Int32) (p : Nat) : Nat → Nat → Int32 := up2 (foF (whI S p)).2 179 17 (-9)
theorem whI_wfY {S : Nat → Nat → Int32} {p : Nat} (h : wfY S) : wfY (whI S p) := wfY_of (show up2 _ 179 17 _ 179 2 = _ from up2_ne (Or.inr (by decide))) (fun k hk => up2_row (by omega)) (trS_wfY h)
theorem whI_wfR {S : Nat → Nat → Int32} {p : Nat} (h : wfR S 184) : wfR (whI S p) 185 := wfR_row (show up2 _ 179 17 _ 185 = _ from up2_row (by decide)) (trS_wfR h)
theorem whT_fr {S : Nat → Nat → Int32} {p : Nat} (hY : wfY S) (hR : wfR S 184) {k j : Nat} (h1 : k ≠ 185) (h2 : k ≠ 179 ∨ (j ≠ 17 ∧ j ≠ 18)) : whT S p k j = S k j := by
  have h := (foF_fr (whI_wfY (p := p) hY) (whI_wfR hR)).2.2
  rw [whT, up2_ne (h2.imp id (fun z => z.1)), h k j h1 (h2.imp id (fun z => z.2)), whI, up2_ne (h2.imp id (fun z => z.1)), trS_ne h1]
theorem whT_wfY {S : Nat → Nat → Int32} {p : Nat} (hY : wfY S) (hR : wfR S 184) : wfY (whT S p) := wfY_of (whT_fr hY hR (by decide) (Or.inr (by decide))) (fun k hk => funext (fun j => whT_fr hY hR (by omega) (Or.inl (by omega)))) hY
theorem whT_wfR {S : Nat → Nat → Int32} {p : Nat} (hY : wfY S) (hR : wfR S 184) : wfR (whT S p) 184 := wfR_row (funext (fun j => whT_fr hY hR (by decide) (Or.inl (by decide)))) hR
def wqB (T : Nat → Nat → Int32) : Nat → Bool
  | 0 => true
  | j + 1 => wqB T j && decide (T 185 23 = T 189 j ↔ T 190 j = 1)
def ywL (c : Nat) : Nat → Nat → Int32 → (Nat → Nat → Int32) → Int32 × (Nat → Nat → Int32)
  | 0, _, x, S => (x, S)
  | m + 1, p, x, S => ywL c m (p + 1) (x ||| (if wqB (whT S p) c = true then (1 : Int32) <<< (nI p &&& 31) else 0)) (whT S p)
def ywhich (S : Nat → Nat → Int32) : Int32 × (Nat → Nat → Int32) := ywL (tn (S 179 15)) (tn (S 179 2)) 0 0 S
set_option maxRecDepth 100000 in
set_option maxHeartbeats 4000000 in
theorem l_X10_whichC (G : GT) (S : Nat → Nat → Int32) (L : Nat → Int64) (p c : Nat) (x r : Int32) (hc : S 179 15 = nI c) (h6 : c ≤ 6) (rr : Option Value) (T : Nat → Nat → Int32) (hk : sv_V G R_X10_which RX10 "which" cX10_which 6 (some .int) (sPo G R_X10_which rr T L) 0 0 197 (CF G S L) 113 [(5, .int (nI c)), (4, .int (if wqB S c = true then 1 else 0)), (3, .int r), (2, .int (nI p)), (1, .int x), (0, .ref (gB G + 179))] []) : ∀ (m j : Nat), c - j = m → j ≤ c → sv_V G R_X10_which RX10 "which" cX10_which 6 (some .int) (sPo G R_X10_which rr T L) 0 0 197 (CF G S L) 45 [(5, .int (nI j)), (4, .int (if wqB S j = true then 1 else 0)), (3, .int r), (2, .int (nI p)), (1, .int x), (0, .ref (gB G + 179))] [] := by
  intro m
  induction m using Nat.strongRecOn
  rename_i m ih
  intro j hm hj
  refine sv_iload 0 dX10_which_45 rfl ?_
  refine sv_aload_n 5 dX10_which_47 rfl ?_
  refine sg_10_15 sh_179 fl_RX10_195 dX10_which_48 ?_
  refine sv_topE hc ?_
  refine sv_icmp_ge (tgt := 113) dX10_which_51 (by decide) (fun c51 => ?_) (fun c51 => ?_)
  · -- jump
    obtain rfl : j = c := by have := (nI_leI (by omega) (by omega)).mp c51; omega
    exact hk
  · -- fall
    have h7 : j < c := Nat.lt_of_not_le (fun z => c51 (nI_le z (by omega)))
    refine sv_iload 1 dX10_which_54 rfl ?_
    refine sv_ifeq_b (tgt := 104) dX10_which_56 (by decide) (fun c56 => ?_) (fun c56 => ?_)
    · -- jump
      refine sv_iconst (v := 0) dX10_which_104 (by decide) ?_
      refine sv_istore (ls' := [(4, _), (5, _), (3, _), (2, _), (1, _), (0, _)]) dX10_which_105 (by decide) rfl ?_
      refine sv_iinc 1 (ls' := [(5, _), (4, _), (3, _), (2, _), (1, _), (0, _)]) dX10_which_107 rfl (nI_1 _) (by decide) rfl ?_
      refine sv_goto (tgt := 45) dX10_which_110 (by decide) ?_
      have e : ¬ wqB S (j + 1) = true := by rw [wqB, Bool.and_eq_true]; exact fun h => c56 h.1
      have h := ih (c - (j + 1)) (by omega) (j + 1) rfl (by omega)
      rw [if_neg e] at h
      exact h
    · -- fall
      refine sv_aload_n 5 dX10_which_59 rfl ?_
      refine sg_10_7 sh_179 fl_RX10_25 dX10_which_60 ?_
      refine sv_bipush (v := 23) dX10_which_63 (by decide) ?_
      refine sx_ild sh_185 23 (by decide) (by decide) dX10_which_65 ?_
      refine sv_aload_n 5 dX10_which_66 rfl ?_
      refine sg_10_13 sh_179 fl_RX10_38 dX10_which_67 ?_
      refine sv_iload 0 dX10_which_70 rfl ?_
      refine sx_ild sh_189 j rfl (by omega) dX10_which_72 ?_
      refine sv_icmp_ne (tgt := 80) dX10_which_73 (by decide) (fun c73 => ?_) (fun c73 => ?_)
      · -- jump
        refine sv_iconst (v := 0) dX10_which_80 (by decide) ?_
        refine sv_aload_n 5 dX10_which_81 rfl ?_
        refine sg_10_14 sh_179 fl_RX10_41 dX10_which_82 ?_
        refine sv_iload 0 dX10_which_85 rfl ?_
        refine sx_ild sh_190 j rfl (by omega) dX10_which_87 ?_
        refine sv_iconst (v := 1) dX10_which_88 (by decide) ?_
        refine sv_icmp_ne (tgt := 96) dX10_which_89 (by decide) (fun c89 => ?_) (fun c89 => ?_)
        · -- jump
          refine sv_iconst (v := 0) dX10_which_96 (by decide) ?_
          refine sv_icmp_ne (tgt := 104) dX10_which_97 (by decide) (fun c97 => ?_) (fun c97 => ?_)
          · -- jump
            refine sv_iconst (v := 0) dX10_which_104 (by decide) ?_
            refine sv_istore (ls' := [(4, _), (5, _), (3, _), (2, _), (1, _), (0, _)]) dX10_which_105 (by decide) rfl ?_
            refine sv_iinc 1 (ls' := [(5, _), (4, _), (3, _), (2, _), (1, _), (0, _)]) dX10_which_107 rfl (nI_1 _) (by decide) rfl ?_
            refine sv_goto (tgt := 45) dX10_which_110 (by decide) ?_
            exact absurd rfl c97
          · -- fall
            refine sv_iconst (v := 1) dX10_which_100 (by decide) ?_
            refine sv_goto (tgt := 105) dX10_which_101 (by decide) ?_
            refine sv_istore (ls' := [(4, _), (5, _), (3, _), (2, _), (1, _), (0, _)]) dX10_which_105 (by decide) rfl ?_
            refine sv_iinc 1 (ls' := [(5, _), (4, _), (3, _), (2, _), (1, _), (0, _)]) dX10_which_107 rfl (nI_1 _) (by decide) rfl ?_
            refine sv_goto (tgt := 45) dX10_which_110 (by decide) ?_
            have e : wqB S (j + 1) = true := by rw [wqB, Bool.and_eq_true, decide_eq_true_eq]; exact ⟨c56, ⟨fun h => absurd h c73, fun h => absurd h c89⟩⟩
            have h := ih (c - (j + 1)) (by omega) (j + 1) rfl (by omega)
            rw [if_pos e] at h
            exact h
        · -- fall
          refine sv_iconst (v := 1) dX10_which_92 (by decide) ?_
          refine sv_goto (tgt := 97) dX10_which_93 (by decide) ?_
          refine sv_icmp_ne (tgt := 104) dX10_which_97 (by decide) (fun c97 => ?_) (fun c97 => ?_)
          · -- jump
            refine sv_iconst (v := 0) dX10_which_104 (by decide) ?_
            refine sv_istore (ls' := [(4, _), (5, _), (3, _), (2, _), (1, _), (0, _)]) dX10_which_105 (by decide) rfl ?_
            refine sv_iinc 1 (ls' := [(5, _), (4, _), (3, _), (2, _), (1, _), (0, _)]) dX10_which_107 rfl (nI_1 _) (by decide) rfl ?_
            refine sv_goto (tgt := 45) dX10_which_110 (by decide) ?_
            have e : ¬ wqB S (j + 1) = true := by rw [wqB, Bool.and_eq_true, decide_eq_true_eq]; exact fun h => c73 (h.2.mpr c89)
            have h := ih (c - (j + 1)) (by omega) (j + 1) rfl (by omega)
            rw [if_neg e] at h
            exact h
          · -- fall
            refine sv_iconst (v := 1) dX10_which_100 (by decide) ?_
            refine sv_goto (tgt := 105) dX10_which_101 (by decide) ?_
            refine sv_istore (ls' := [(4, _), (5, _), (3, _), (2, _), (1, _), (0, _)]) dX10_which_105 (by decide) rfl ?_
            refine sv_iinc 1 (ls' := [(5, _), (4, _), (3, _), (2, _), (1, _), (0, _)]) dX10_which_107 rfl (nI_1 _) (by decide) rfl ?_
            refine sv_goto (tgt := 45) dX10_which_110 (by decide) ?_
            exact absurd c97 (by decide)
      · -- fall
        refine sv_iconst (v := 1) dX10_which_76 (by decide) ?_
        refine sv_goto (tgt := 81) dX10_which_77 (by decide) ?_
        refine sv_aload_n 5 dX10_which_81 rfl ?_
        refine sg_10_14 sh_179 fl_RX10_41 dX10_which_82 ?_
        refine sv_iload 0 dX10_which_85 rfl ?_
        refine sx_ild sh_190 j rfl (by omega) dX10_which_87 ?_
        refine sv_iconst (v := 1) dX10_which_88 (by decide) ?_
        refine sv_icmp_ne (tgt := 96) dX10_which_89 (by decide) (fun c89 => ?_) (fun c89 => ?_)
        · -- jump
          refine sv_iconst (v := 0) dX10_which_96 (by decide) ?_
          refine sv_icmp_ne (tgt := 104) dX10_which_97 (by decide) (fun c97 => ?_) (fun c97 => ?_)
          · -- jump
            refine sv_iconst (v := 0) dX10_which_104 (by decide) ?_
            refine sv_istore (ls' := [(4, _), (5, _), (3, _), (2, _), (1, _), (0, _)]) dX10_which_105 (by decide) rfl ?_
            refine sv_iinc 1 (ls' := [(5, _), (4, _), (3, _), (2, _), (1, _), (0, _)]) dX10_which_107 rfl (nI_1 _) (by decide) rfl ?_
            refine sv_goto (tgt := 45) dX10_which_110 (by decide) ?_
            have e : ¬ wqB S (j + 1) = true := by rw [wqB, Bool.and_eq_true, decide_eq_true_eq]; exact fun h => c89 (h.2.mp c73)
            have h := ih (c - (j + 1)) (by omega) (j + 1) rfl (by omega)
            rw [if_neg e] at h
            exact h
          · -- fall
            refine sv_iconst (v := 1) dX10_which_100 (by decide) ?_
            refine sv_goto (tgt := 105) dX10_which_101 (by decide) ?_
            refine sv_istore (ls' := [(4, _), (5, _), (3, _), (2, _), (1, _), (0, _)]) dX10_which_105 (by decide) rfl ?_
            refine sv_iinc 1 (ls' := [(5, _), (4, _), (3, _), (2, _), (1, _), (0, _)]) dX10_which_107 rfl (nI_1 _) (by decide) rfl ?_
            refine sv_goto (tgt := 45) dX10_which_110 (by decide) ?_
            exact absurd c97 (by decide)
        · -- fall
          refine sv_iconst (v := 1) dX10_which_92 (by decide) ?_
          refine sv_goto (tgt := 97) dX10_which_93 (by decide) ?_
          refine sv_icmp_ne (tgt := 104) dX10_which_97 (by decide) (fun c97 => ?_) (fun c97 => ?_)
          · -- jump
            refine sv_iconst (v := 0) dX10_which_104 (by decide) ?_
            refine sv_istore (ls' := [(4, _), (5, _), (3, _), (2, _), (1, _), (0, _)]) dX10_which_105 (by decide) rfl ?_
            refine sv_iinc 1 (ls' := [(5, _), (4, _), (3, _), (2, _), (1, _), (0, _)]) dX10_which_107 rfl (nI_1 _) (by decide) rfl ?_
            refine sv_goto (tgt := 45) dX10_which_110 (by decide) ?_
            exact absurd rfl c97
          · -- fall
            refine sv_iconst (v := 1) dX10_which_100 (by decide) ?_
            refine sv_goto (tgt := 105) dX10_which_101 (by decide) ?_
            refine sv_istore (ls' := [(4, _), (5, _), (3, _), (2, _), (1, _), (0, _)]) dX10_which_105 (by decide) rfl ?_
            refine sv_iinc 1 (ls' := [(5, _), (4, _), (3, _), (2, _), (1, _), (0, _)]) dX10_which_107 rfl (nI_1 _) (by decide) rfl ?_
            refine sv_goto (tgt := 45) dX10_which_110 (by decide) ?_
            have e : wqB S (j + 1) = true := by rw [wqB, Bool.and_eq_true, decide_eq_true_eq]; exact ⟨c56, ⟨fun _ => c89, fun _ => c73⟩⟩
            have h := ih (c - (j + 1)) (by omega) (j + 1) rfl (by omega)
            rw [if_pos e] at h
            exact h
set_option maxRecDepth 100000 in
set_option maxHeartbeats 4000000 in
theorem l_X10_which (G : GT) (L : Nat → Int64) (N c : Nat) (hN16 : N ≤ 16) (h6 : c ≤ 6) : ∀ (m : Nat) (S : Nat → Nat → Int32) (p : Nat) (x r : Int32), N - (p + 1) = m → p + 1 ≤ N → S 179 2 = nI N → S 179 15 = nI c → wfY S → wfR S 184 → sv_V G R_X10_which RX10 "which" cX10_which 6 (some .int) (sPo G R_X10_which (some (.int (ywL c (m + 1) p x S).1)) (ywL c (m + 1) p x S).2 L) 0 0 197 (CF G (whT S p) L) 113 [(5, .int (nI c)), (4, .int (if wqB (whT S p) c = true then 1 else 0)), (3, .int r), (2, .int (nI p)), (1, .int x), (0, .ref (gB G + 179))] [] := by
  intro m
  induction m using Nat.strongRecOn
  rename_i m ih
  intro S p x r hm hp hN hc hY hR
  have hY1 := whT_wfY (p := p) hY hR
  have hR1 := whT_wfR (p := p) hY hR
  have hN1 : whT S p 179 2 = nI N := by rw [whT_fr hY hR (by decide) (Or.inr (by decide))]; exact hN
  have hc1 : whT S p 179 15 = nI c := by rw [whT_fr hY hR (by decide) (Or.inr (by decide))]; exact hc
  rw [ywL]
  refine sv_iload_n 4 dX10_which_113 rfl ?_
  refine sv_iload 1 dX10_which_114 rfl ?_
  refine sv_ifeq_b (tgt := 125) dX10_which_116 (by decide) (fun c116 => ?_) (fun c116 => ?_)
  · -- jump
    refine sv_iconst (v := 0) dX10_which_125 (by decide) ?_
    refine sv_ior dX10_which_126 ?_
    refine sv_istore_n (ls' := [(1, _), (5, _), (4, _), (3, _), (2, _), (0, _)]) dX10_which_127 (by decide) rfl ?_
    refine sv_iinc 4 (ls' := [(2, _), (1, _), (5, _), (4, _), (3, _), (0, _)]) dX10_which_128 rfl (nI_1 _) (by decide) rfl ?_
    refine sv_goto (tgt := 4) dX10_which_131 (by decide) ?_
    refine sv_iload_n 0 dX10_which_4 rfl ?_
    refine sv_aload_n 5 dX10_which_5 rfl ?_
    refine sg_10_2 sh_179 fl_RX10_70 dX10_which_6 ?_
    refine sv_topE hN1 ?_
    refine sv_icmp_ge (tgt := 134) dX10_which_9 (by decide) (fun c9 => ?_) (fun c9 => ?_)
    · -- jump
      obtain rfl : m = 0 := by have := (nI_leI (by omega) (by omega)).mp c9; omega
      refine sv_iload_n 1 dX10_which_134 rfl ?_
      exact se_iret rfl ⟨rfl, rfl⟩ dX10_which_135 (by rw [if_neg c116, ywL]) (by rw [if_neg c116, ywL])
    · -- fall
      have h7 : p + 1 < N := Nat.lt_of_not_le (fun z => c9 (nI_le z (by omega)))
      obtain ⟨m2, rfl⟩ : ∃ k, m = k + 1 := ⟨m - 1, by omega⟩
      refine sv_aload_n 5 dX10_which_12 rfl ?_
      refine sg_10_6 sh_179 fl_RX10_22 dX10_which_13 ?_
      refine sv_aload_n 5 dX10_which_16 rfl ?_
      refine sg_10_7 sh_179 fl_RX10_25 dX10_which_17 ?_
      refine cSv2 (e_X10_copyRow G _ _ _ sh_184 _ sh_185 (by decide)) ⟨rfl, rfl⟩ (sv_w4 ml_RX10_218 st_X10_copyRow in_RX10 cd_X10_copyRow) nm_X10_copyRow ⟨Nat.le_of_ble_eq_true rfl, Nat.le_of_ble_eq_true rfl⟩ (Nat.le_of_ble_eq_true rfl) ⟨Nat.le_of_ble_eq_true rfl, Nat.le_of_ble_eq_true rfl⟩ dX10_which_20 ?_
      show sv_V _ _ _ _ _ _ _ _ _ _ _ (CF G (trS (whT S p)) L) _ _ _
      refine sv_aload_n 5 dX10_which_23 rfl ?_
      refine sv_iload_n 0 dX10_which_24 rfl ?_
      refine sp_10_17 sh_179 fl_RX10_62 dX10_which_25 ?_
      show sv_V _ _ _ _ _ _ _ _ _ _ _ (CF G (whI (whT S p) (p + 1)) L) _ _ _
      refine sv_aload_n 5 dX10_which_28 rfl ?_
      refine cVi0 (e_X10_freeOn G _ _ (whI_wfY hY1) (whI_wfR hR1)) ⟨rfl, rfl⟩ (sv_w5 ml_RX10_222 im_X10_freeOn sl_X10_freeOn in_RX10 cd_X10_freeOn) nm_X10_freeOn ⟨Nat.le_of_ble_eq_true rfl, Nat.le_of_ble_eq_true rfl⟩ rfl (CF_10 sh_179) (shp_lt sh_179 (by simp)) (Nat.le_of_ble_eq_true rfl) ⟨Nat.le_of_ble_eq_true rfl, Nat.le_of_ble_eq_true rfl⟩ dX10_which_29 ?_
      refine sv_istore_n (ls' := [(3, _), (2, _), (1, _), (5, _), (4, _), (0, _)]) dX10_which_32 (by decide) rfl ?_
      refine sv_aload_n 5 dX10_which_33 rfl ?_
      refine sv_bipush (v := (-9)) dX10_which_34 (by decide) ?_
      refine sp_10_17 sh_179 fl_RX10_62 dX10_which_36 ?_
      refine sv_iconst (v := 1) dX10_which_39 (by decide) ?_
      refine sv_istore (ls' := [(4, _), (3, _), (2, _), (1, _), (5, _), (0, _)]) dX10_which_40 (by decide) rfl ?_
      refine sv_iconst (v := 0) dX10_which_42 (by decide) ?_
      refine sv_istore (ls' := [(5, _), (4, _), (3, _), (2, _), (1, _), (0, _)]) dX10_which_43 (by decide) rfl ?_
      rw [if_neg c116]
      refine sv_locals [0, 1, 2, 3, 4, 5] rfl ?_
      have h := l_X10_whichC G (whT (whT S p) (p + 1)) L (p + 1) c (x ||| 0) (foF (whI (whT S p) (p + 1))).1 (by rw [whT_fr hY1 hR1 (by decide) (Or.inr (by decide))]; exact hc1) h6 _ _ (ih m2 (by omega) (whT S p) (p + 1) (x ||| 0) (foF (whI (whT S p) (p + 1))).1 (by omega) (by omega) hN1 hc1 hY1 hR1) c 0 rfl (by omega)
      rw [if_pos (show wqB (whT (whT S p) (p + 1)) 0 = true from rfl)] at h
      exact h
  · -- fall
    refine sv_iconst (v := 1) dX10_which_119 (by decide) ?_
    refine sv_iload_n 3 dX10_which_120 rfl ?_
    refine sv_ishl dX10_which_121 ?_
    refine sv_goto (tgt := 126) dX10_which_122 (by decide) ?_
    refine sv_ior dX10_which_126 ?_
    refine sv_istore_n (ls' := [(1, _), (5, _), (4, _), (3, _), (2, _), (0, _)]) dX10_which_127 (by decide) rfl ?_
    refine sv_iinc 4 (ls' := [(2, _), (1, _), (5, _), (4, _), (3, _), (0, _)]) dX10_which_128 rfl (nI_1 _) (by decide) rfl ?_
    refine sv_goto (tgt := 4) dX10_which_131 (by decide) ?_
    refine sv_iload_n 0 dX10_which_4 rfl ?_
    refine sv_aload_n 5 dX10_which_5 rfl ?_
    refine sg_10_2 sh_179 fl_RX10_70 dX10_which_6 ?_
    refine sv_topE hN1 ?_
    refine sv_icmp_ge (tgt := 134) dX10_which_9 (by decide) (fun c9 => ?_) (fun c9 => ?_)
    · -- jump
      obtain rfl : m = 0 := by have := (nI_leI (by omega) (by omega)).mp c9; omega
      refine sv_iload_n 1 dX10_which_134 rfl ?_
      exact se_iret rfl ⟨rfl, rfl⟩ dX10_which_135 (by rw [if_pos c116, ywL]) (by rw [if_pos c116, ywL])
    · -- fall
      have h7 : p + 1 < N := Nat.lt_of_not_le (fun z => c9 (nI_le z (by omega)))
      obtain ⟨m2, rfl⟩ : ∃ k, m = k + 1 := ⟨m - 1, by omega⟩
      refine sv_aload_n 5 dX10_which_12 rfl ?_
      refine sg_10_6 sh_179 fl_RX10_22 dX10_which_13 ?_
      refine sv_aload_n 5 dX10_which_16 rfl ?_
      refine sg_10_7 sh_179 fl_RX10_25 dX10_which_17 ?_
      refine cSv2 (e_X10_copyRow G _ _ _ sh_184 _ sh_185 (by decide)) ⟨rfl, rfl⟩ (sv_w4 ml_RX10_218 st_X10_copyRow in_RX10 cd_X10_copyRow) nm_X10_copyRow ⟨Nat.le_of_ble_eq_true rfl, Nat.le_of_ble_eq_true rfl⟩ (Nat.le_of_ble_eq_true rfl) ⟨Nat.le_of_ble_eq_true rfl, Nat.le_of_ble_eq_true rfl⟩ dX10_which_20 ?_
      show sv_V _ _ _ _ _ _ _ _ _ _ _ (CF G (trS (whT S p)) L) _ _ _
      refine sv_aload_n 5 dX10_which_23 rfl ?_
      refine sv_iload_n 0 dX10_which_24 rfl ?_
      refine sp_10_17 sh_179 fl_RX10_62 dX10_which_25 ?_
      show sv_V _ _ _ _ _ _ _ _ _ _ _ (CF G (whI (whT S p) (p + 1)) L) _ _ _
      refine sv_aload_n 5 dX10_which_28 rfl ?_
      refine cVi0 (e_X10_freeOn G _ _ (whI_wfY hY1) (whI_wfR hR1)) ⟨rfl, rfl⟩ (sv_w5 ml_RX10_222 im_X10_freeOn sl_X10_freeOn in_RX10 cd_X10_freeOn) nm_X10_freeOn ⟨Nat.le_of_ble_eq_true rfl, Nat.le_of_ble_eq_true rfl⟩ rfl (CF_10 sh_179) (shp_lt sh_179 (by simp)) (Nat.le_of_ble_eq_true rfl) ⟨Nat.le_of_ble_eq_true rfl, Nat.le_of_ble_eq_true rfl⟩ dX10_which_29 ?_
      refine sv_istore_n (ls' := [(3, _), (2, _), (1, _), (5, _), (4, _), (0, _)]) dX10_which_32 (by decide) rfl ?_
      refine sv_aload_n 5 dX10_which_33 rfl ?_
      refine sv_bipush (v := (-9)) dX10_which_34 (by decide) ?_
      refine sp_10_17 sh_179 fl_RX10_62 dX10_which_36 ?_
      refine sv_iconst (v := 1) dX10_which_39 (by decide) ?_
      refine sv_istore (ls' := [(4, _), (3, _), (2, _), (1, _), (5, _), (0, _)]) dX10_which_40 (by decide) rfl ?_
      refine sv_iconst (v := 0) dX10_which_42 (by decide) ?_
      refine sv_istore (ls' := [(5, _), (4, _), (3, _), (2, _), (1, _), (0, _)]) dX10_which_43 (by decide) rfl ?_
      rw [if_pos c116]
      refine sv_locals [0, 1, 2, 3, 4, 5] rfl ?_
      have h := l_X10_whichC G (whT (whT S p) (p + 1)) L (p + 1) c (x ||| (1 : Int32) <<< (nI p &&& 31)) (foF (whI (whT S p) (p + 1))).1 (by rw [whT_fr hY1 hR1 (by decide) (Or.inr (by decide))]; exact hc1) h6 _ _ (ih m2 (by omega) (whT S p) (p + 1) (x ||| (1 : Int32) <<< (nI p &&& 31)) (foF (whI (whT S p) (p + 1))).1 (by omega) (by omega) hN1 hc1 hY1 hR1) c 0 rfl (by omega)
      rw [if_pos (show wqB (whT (whT S p) (p + 1)) 0 = true from rfl)] at h
      exact h
set_option maxRecDepth 100000 in
set_option maxHeartbeats 4000000 in
theorem e_X10_which (G : GT) (S : Nat → Nat → Int32) (L : Nat → Int64) (hY : wfY S) (hR : wfR S 184) (hV : wfV S) : sE G yX10_which R_X10_which cX10_which 6 (some .int) [.ref (gB G + 179)] S L (some (.int (ywhich S).1)) (ywhich S).2 L := by
  refine sE.of (by decide) (Nat.le_of_ble_eq_true rfl) ?_
  show sv_V G R_X10_which RX10 "which" cX10_which 6 (some .int) (sPo G R_X10_which (some (.int (ywhich S).1)) (ywhich S).2 L) 0 0 197 (CF G S L) 0 [(0, .ref (gB G + 179))] []
  have hN := nI_self hY.1.1
  have hc := nI_self hV.1
  have h16 := tn_16 hY.1.1 hY.1.2
  have h6 := tn_le (M := 6) (k := 6) rfl (by decide) hV.1 hV.2
  refine sv_iconst (v := 0) dX10_which_0 (by decide) ?_
  refine sv_istore_n (ls' := [(1, _), (0, _)]) dX10_which_1 (by decide) rfl ?_
  refine sv_iconst (v := 0) dX10_which_2 (by decide) ?_
  refine sv_istore_n (ls' := [(2, _), (1, _), (0, _)]) dX10_which_3 (by decide) rfl ?_
  refine sv_iload_n 0 dX10_which_4 rfl ?_
  refine sv_aload_n 2 dX10_which_5 rfl ?_
  refine sg_10_2 sh_179 fl_RX10_70 dX10_which_6 ?_
  refine sv_icmp_ge (tgt := 134) dX10_which_9 (by decide) (fun c9 => ?_) (fun c9 => ?_)
  · -- jump
    have hz : tn (S 179 2) = 0 := Nat.eq_zero_of_le_zero (Nat.le_of_not_lt (fun z => absurd c9 (by rw [hN]; exact Int32.not_le.mpr (nI_lt (a := 0) z (by show tn (S 179 2) < _; omega)))))
    refine sv_iload_n 1 dX10_which_134 rfl ?_
    exact se_iret rfl ⟨rfl, rfl⟩ dX10_which_135 (by rw [ywhich, hz, ywL]) (by rw [ywhich, hz, ywL])
  · -- fall
    have h7 : 0 < tn (S 179 2) := Nat.pos_of_ne_zero (fun z => c9 (by rw [hN, show (S 179 2).toNatClampNeg = 0 from z]; exact Int32.le_refl _))
    refine sv_aload_n 2 dX10_which_12 rfl ?_
    refine sg_10_6 sh_179 fl_RX10_22 dX10_which_13 ?_
    refine sv_aload_n 2 dX10_which_16 rfl ?_
    refine sg_10_7 sh_179 fl_RX10_25 dX10_which_17 ?_
    refine cSv2 (e_X10_copyRow G _ _ _ sh_184 _ sh_185 (by decide)) ⟨rfl, rfl⟩ (sv_w4 ml_RX10_218 st_X10_copyRow in_RX10 cd_X10_copyRow) nm_X10_copyRow ⟨Nat.le_of_ble_eq_true rfl, Nat.le_of_ble_eq_true rfl⟩ (Nat.le_of_ble_eq_true rfl) ⟨Nat.le_of_ble_eq_true rfl, Nat.le_of_ble_eq_true rfl⟩ dX10_which_20 ?_
    show sv_V _ _ _ _ _ _ _ _ _ _ _ (CF G (trS S) L) _ _ _
    refine sv_aload_n 2 dX10_which_23 rfl ?_
    refine sv_iload_n 0 dX10_which_24 rfl ?_
    refine sp_10_17 sh_179 fl_RX10_62 dX10_which_25 ?_
    show sv_V _ _ _ _ _ _ _ _ _ _ _ (CF G (whI S 0) L) _ _ _
    refine sv_aload_n 2 dX10_which_28 rfl ?_
    refine cVi0 (e_X10_freeOn G _ _ (whI_wfY (p := 0) hY) (whI_wfR hR)) ⟨rfl, rfl⟩ (sv_w5 ml_RX10_222 im_X10_freeOn sl_X10_freeOn in_RX10 cd_X10_freeOn) nm_X10_freeOn ⟨Nat.le_of_ble_eq_true rfl, Nat.le_of_ble_eq_true rfl⟩ rfl (CF_10 sh_179) (shp_lt sh_179 (by simp)) (Nat.le_of_ble_eq_true rfl) ⟨Nat.le_of_ble_eq_true rfl, Nat.le_of_ble_eq_true rfl⟩ dX10_which_29 ?_
    refine sv_istore_n (ls' := [(3, _), (2, _), (1, _), (0, _)]) dX10_which_32 (by decide) rfl ?_
    refine sv_aload_n 3 dX10_which_33 rfl ?_
    refine sv_bipush (v := (-9)) dX10_which_34 (by decide) ?_
    refine sp_10_17 sh_179 fl_RX10_62 dX10_which_36 ?_
    refine sv_iconst (v := 1) dX10_which_39 (by decide) ?_
    refine sv_istore (ls' := [(4, _), (3, _), (2, _), (1, _), (0, _)]) dX10_which_40 (by decide) rfl ?_
    refine sv_iconst (v := 0) dX10_which_42 (by decide) ?_
    refine sv_istore (ls' := [(5, _), (4, _), (3, _), (2, _), (1, _), (0, _)]) dX10_which_43 (by decide) rfl ?_
    refine sv_locals [0, 1, 2, 3, 4, 5] rfl ?_
    have h := l_X10_whichC G (whT S 0) L 0 (tn (S 179 15)) 0 (foF (whI S 0)).1 (by rw [whT_fr hY hR (by decide) (Or.inr (by decide))]; exact hc) h6 _ _ (l_X10_which G L (tn (S 179 2)) (tn (S 179 15)) h16 h6 (tn (S 179 2) - 1) S 0 0 (foF (whI S 0)).1 (by omega) (by omega) hN hc hY hR) _ 0 rfl (by omega)
    rw [if_pos (show wqB (whT S 0) 0 = true from rfl), show tn (S 179 2) - 1 + 1 = tn (S 179 2) by omega] at h
    exact h
set_option maxRecDepth 100000 in
set_option maxHeartbeats 4000000 in
theorem e_X10_seed (G : GT) (S : Nat → Nat → Int32) (L : Nat → Int64) (v : Int64) : sE G yX10_seed R_X10_seed cX10_seed 5 (some .long) [.ref (gB G + 179), .long v] S L (some (.long (L 179))) S (va_up L 179 v) := by
  refine sE.of (by decide) (Nat.le_of_ble_eq_true rfl) ?_
  show sv_V G R_X10_seed RX10 "seed" cX10_seed 5 (some .long) (sPo G R_X10_seed (some (.long (L 179))) S (va_up L 179 v)) 0 0 197 (CF G S L) 0 [(0, .ref (gB G + 179)), (1, .long v)] []
  refine sv_aload_n 0 dX10_seed_0 rfl ?_
  refine sg_10_16 sh_179 fl_RX10_258 dX10_seed_1 ?_
  refine sv_lstore_n (ls' := [(3, _), (0, _), (1, _)]) dX10_seed_4 (by decide) rfl ?_
  refine sv_aload_n 1 dX10_seed_5 rfl ?_
  refine sv_lload_n 2 dX10_seed_6 rfl ?_
  refine sp_10_16 sh_179 fl_RX10_258 dX10_seed_7 ?_
  refine sv_lload_n 0 dX10_seed_10 rfl ?_
  exact se_lret rfl ⟨rfl, rfl⟩ dX10_seed_11 rfl rfl rfl
def scY (S : Nat → Nat → Int32) (v : Int32) (k : Nat) : Nat → Nat → Int32 := va_up S 185 (fun j => if j < k then (v >>> (4 * nI j &&& 31)) &&& 15 else S 185 j)
theorem scY_0 (S : Nat → Nat → Int32) (v : Int32) : scY S v 0 = S := by
  funext k j
  unfold scY va_up
  by_cases hk : k = 185
  · subst hk; simp
  · simp [hk]
theorem scY_s (S : Nat → Nat → Int32) (v : Int32) (p : Nat) : up2 (scY S v p) 185 p ((v >>> (4 * nI p &&& 31)) &&& 15) = scY S v (p + 1) := by
  funext k j
  rw [up2_at]
  unfold scY va_up
  by_cases hk : k = 185
  · subst hk
    simp only [true_and, if_pos]
    by_cases h1 : j = p
    · subst h1; rw [if_pos rfl, if_pos (by omega)]
    · rw [if_neg h1]
      by_cases h2 : j < p
      · rw [if_pos h2, if_pos (by omega)]
      · rw [if_neg h2, if_neg (by omega)]
  · simp [hk]
theorem scY_ne {S : Nat → Nat → Int32} {v : Int32} {n k : Nat} (h : k ≠ 185) : scY S v n k = S k := by unfold scY va_up; rw [if_neg h]
theorem scY_hi {S : Nat → Nat → Int32} {v : Int32} {n j : Nat} (h : n ≤ j) : scY S v n 185 j = S 185 j := by unfold scY va_up; rw [if_pos rfl, if_neg (by omega)]
theorem scY_wfY {S : Nat → Nat → Int32} {v : Int32} {n : Nat} (h : wfY S) : wfY (scY S v n) := wfY_of (by rw [scY_ne (by decide)]) (fun k hk => scY_ne (by omega)) h
theorem scY_wfR {S : Nat → Nat → Int32} {v : Int32} (h : wfR S 185) : wfR (scY S v 4) 185 := wfR_of (by rw [scY_hi (by decide)]; exact h.1) (by rw [keP, scY_hi (by decide)]; exact h.2.1) (fun a h1 _ => scY_hi (by omega)) h
def sdV (sd : Int64) : Int32 := (sd.toUInt64 >>> ((33 : Int32).toInt64.toUInt64 &&& Int64.toUInt64 63)).toInt64.toInt32
def yrI (S : Nat → Nat → Int32) (sd : Int64) : Nat → Nat → Int32 := scY (trS S) (sdV sd) 4
def yrT (S : Nat → Nat → Int32) (sd : Int64) : Nat → Nat → Int32 := (foF (yrI S sd)).2
theorem yrI_wfY {S : Nat → Nat → Int32} {sd : Int64} (h : wfY S) : wfY (yrI S sd) := scY_wfY (trS_wfY h)
theorem yrI_wfR {S : Nat → Nat → Int32} {sd : Int64} (h : wfR S 184) : wfR (yrI S sd) 185 := scY_wfR (trS_wfR h)
theorem yrT_fr {S : Nat → Nat → Int32} {sd : Int64} (hY : wfY S) (hR : wfR S 184) {k j : Nat} (h1 : k ≠ 185) (h2 : k ≠ 179 ∨ j ≠ 18) : yrT S sd k j = S k j := by
  rw [yrT, (foF_fr (yrI_wfY hY) (yrI_wfR hR)).2.2 k j h1 h2, yrI, scY_ne h1, trS_ne h1]
theorem yrT_wfY {S : Nat → Nat → Int32} {sd : Int64} (hY : wfY S) (hR : wfR S 184) : wfY (yrT S sd) := (foF_fr (yrI_wfY hY) (yrI_wfR hR)).1
theorem yrT_wfR {S : Nat → Nat → Int32} {sd : Int64} (hY : wfY S) (hR : wfR S 184) : wfR (yrT S sd) 184 := wfR_row (funext (fun j => yrT_fr hY hR (by decide) (Or.inl (by decide)))) hR
def yrL : Nat → Int32 → (Nat → Nat → Int32) → (Nat → Int64) → Int32 × (Nat → Nat → Int32) × (Nat → Int64)
  | 0, a, S, L => (a, S, L)
  | m + 1, a, S, L => yrL m (a + yrT S (sdF (L 179)) 179 18) (yrT S (sdF (L 179))) (va_up L 179 (sdF (L 179)))
def ydrawn (S : Nat → Nat → Int32) (L : Nat → Int64) (m : Int32) : Int32 × (Nat → Nat → Int32) × (Nat → Int64) := if inP m 1 10 then yrL (tn m) 0 S L else (-2, S, L)
set_option maxRecDepth 100000 in
set_option maxHeartbeats 4000000 in
theorem l_X10_drawnC (G : GT) (S : Nat → Nat → Int32) (L : Nat → Int64) (v a : Int32) (p z : Nat) (rr : Option Value) (T : Nat → Nat → Int32) (LL : Nat → Int64) (hk : sv_V G R_X10_drawn RX10 "drawn" cX10_drawn 6 (some .int) (sPo G R_X10_drawn rr T LL) 0 0 197 (CF G (scY S v 4) L) 93 [(5, .int (nI 4)), (4, .int v), (3, .int (nI p)), (2, .int a), (0, .ref (gB G + 179)), (1, .int (nI z))] []) : ∀ (m j : Nat), 4 - j = m → j ≤ 4 → sv_V G R_X10_drawn RX10 "drawn" cX10_drawn 6 (some .int) (sPo G R_X10_drawn rr T LL) 0 0 197 (CF G (scY S v j) L) 64 [(5, .int (nI j)), (4, .int v), (3, .int (nI p)), (2, .int a), (0, .ref (gB G + 179)), (1, .int (nI z))] [] := by
  intro m
  induction m using Nat.strongRecOn
  rename_i m ih
  intro j hm hj
  refine sv_iload 0 dX10_drawn_64 rfl ?_
  refine sv_iconst (v := 4) dX10_drawn_66 (by decide) ?_
  refine sv_icmp_ge (tgt := 93) dX10_drawn_67 (by decide) (fun c67 => ?_) (fun c67 => ?_)
  · -- jump
    obtain rfl : j = 4 := by have := (nI_leI (a := 4) (b := j) (by omega) (by omega)).mp c67; omega
    exact hk
  · -- fall
    have h7 : j < 4 := Nat.lt_of_not_le (fun z => c67 (nI_le (a := 4) z (by omega)))
    refine sv_aload_n 4 dX10_drawn_70 rfl ?_
    refine sg_10_7 sh_179 fl_RX10_25 dX10_drawn_71 ?_
    refine sv_iload 0 dX10_drawn_74 rfl ?_
    refine sv_iload 1 dX10_drawn_76 rfl ?_
    refine sv_iconst (v := 4) dX10_drawn_78 (by decide) ?_
    refine sv_iload 0 dX10_drawn_79 rfl ?_
    refine sv_imul dX10_drawn_81 ?_
    refine sv_ishr dX10_drawn_82 ?_
    refine sv_bipush (v := 15) dX10_drawn_83 (by decide) ?_
    refine sv_iand dX10_drawn_85 ?_
    refine sx_ist sh_185 j rfl (by omega) dX10_drawn_86 ?_
    refine sv_eqS (scY_s S v j) ?_
    refine sv_iinc 0 (ls' := [(5, _), (4, _), (3, _), (2, _), (0, _), (1, _)]) dX10_drawn_87 rfl (nI_1 _) (by decide) rfl ?_
    refine sv_goto (tgt := 64) dX10_drawn_90 (by decide) ?_
    exact ih (4 - (j + 1)) (by omega) (j + 1) rfl (by omega)
set_option maxRecDepth 100000 in
set_option maxHeartbeats 4000000 in
theorem l_X10_drawn (G : GT) (z : Nat) (hz : z ≤ 10) : ∀ (m : Nat) (S : Nat → Nat → Int32) (L : Nat → Int64) (p : Nat) (a v : Int32), z - (p + 1) = m → p + 1 ≤ z → v = sdV (sdF (L 179)) → wfY S → wfR S 184 → sv_V G R_X10_drawn RX10 "drawn" cX10_drawn 6 (some .int) (sPo G R_X10_drawn (some (.int (yrL (m + 1) a S L).1)) (yrL (m + 1) a S L).2.1 (yrL (m + 1) a S L).2.2) 0 0 197 (CF G (scY (trS S) v 4) (va_up L 179 (sdF (L 179)))) 93 [(5, .int (nI 4)), (4, .int v), (3, .int (nI p)), (2, .int a), (0, .ref (gB G + 179)), (1, .int (nI z))] [] := by
  intro m
  induction m using Nat.strongRecOn
  rename_i m ih
  intro S L p a v hm hp hv hY hR
  subst hv
  have hY1 := yrT_wfY (sd := sdF (L 179)) hY hR
  have hR1 := yrT_wfR (sd := sdF (L 179)) hY hR
  rw [yrL]
  refine sv_aload_n 4 dX10_drawn_93 rfl ?_
  refine cVi0 (e_X10_freeOn G _ _ (yrI_wfY hY) (yrI_wfR hR)) ⟨rfl, rfl⟩ (sv_w5 ml_RX10_222 im_X10_freeOn sl_X10_freeOn in_RX10 cd_X10_freeOn) nm_X10_freeOn ⟨Nat.le_of_ble_eq_true rfl, Nat.le_of_ble_eq_true rfl⟩ rfl (CF_10 sh_179) (shp_lt sh_179 (by simp)) (Nat.le_of_ble_eq_true rfl) ⟨Nat.le_of_ble_eq_true rfl, Nat.le_of_ble_eq_true rfl⟩ dX10_drawn_94 ?_
  show sv_V _ _ _ _ _ _ _ _ _ _ _ (CF G (yrT S (sdF (L 179))) _) _ _ _
  refine sv_istore (ls' := [(5, _), (4, _), (3, _), (2, _), (0, _), (1, _)]) dX10_drawn_97 (by decide) rfl ?_
  refine sv_iload_n 3 dX10_drawn_99 rfl ?_
  refine sv_aload_n 4 dX10_drawn_100 rfl ?_
  refine sg_10_18 sh_179 fl_RX10_186 dX10_drawn_101 ?_
  refine sv_iadd dX10_drawn_104 ?_
  refine sv_istore_n (ls' := [(2, _), (5, _), (4, _), (3, _), (0, _), (1, _)]) dX10_drawn_105 (by decide) rfl ?_
  refine sv_iinc 3 (ls' := [(3, _), (2, _), (5, _), (4, _), (0, _), (1, _)]) dX10_drawn_106 rfl (nI_1 _) (by decide) rfl ?_
  refine sv_goto (tgt := 19) dX10_drawn_109 (by decide) ?_
  refine sv_iload_n 0 dX10_drawn_19 rfl ?_
  refine sv_iload_n 5 dX10_drawn_20 rfl ?_
  refine sv_icmp_ge (tgt := 112) dX10_drawn_21 (by decide) (fun c21 => ?_) (fun c21 => ?_)
  · -- jump
    obtain rfl : m = 0 := by have := (nI_leI (by omega) (by omega)).mp c21; omega
    refine sv_iload_n 1 dX10_drawn_112 rfl ?_
    exact se_iret rfl ⟨rfl, rfl⟩ dX10_drawn_113 rfl (by rfl)
  · -- fall
    have hlt : p + 1 < z := Nat.lt_of_not_le (fun q => c21 (nI_le q (by omega)))
    obtain ⟨m2, rfl⟩ : ∃ j, m = j + 1 := ⟨m - 1, by omega⟩
    refine sv_aload_n 4 dX10_drawn_24 rfl ?_
    refine sv_aload_n 4 dX10_drawn_25 rfl ?_
    refine sg_10_16 sh_179 fl_RX10_258 dX10_drawn_26 ?_
    refine sv_ldc2 ck_RX10_262 dX10_drawn_29 ?_
    refine sv_lmul dX10_drawn_32 ?_
    refine sv_ldc2 ck_RX10_264 dX10_drawn_33 ?_
    refine sv_ladd dX10_drawn_36 ?_
    refine sv_toplE (v' := sdF (va_up L 179 (sdF (L 179)) 179)) rfl ?_
    refine sp_10_16 sh_179 fl_RX10_258 dX10_drawn_37 ?_
    refine sv_aload_n 4 dX10_drawn_40 rfl ?_
    refine sg_10_16 sh_179 fl_RX10_258 dX10_drawn_41 ?_
    refine sv_toplE (v' := sdF (va_up L 179 (sdF (L 179)) 179)) (by simp [va_up]) ?_
    refine sv_bipush (v := 33) dX10_drawn_44 (by decide) ?_
    refine sv_lushr dX10_drawn_46 rfl ?_
    refine sv_l2i dX10_drawn_47 rfl ?_
    refine sv_topE (v' := sdV (sdF (va_up L 179 (sdF (L 179)) 179))) rfl ?_
    refine sv_istore (ls' := [(4, _), (3, _), (2, _), (5, _), (0, _), (1, _)]) dX10_drawn_48 (by decide) rfl ?_
    refine sv_aload_n 4 dX10_drawn_50 rfl ?_
    refine sg_10_6 sh_179 fl_RX10_22 dX10_drawn_51 ?_
    refine sv_aload_n 4 dX10_drawn_54 rfl ?_
    refine sg_10_7 sh_179 fl_RX10_25 dX10_drawn_55 ?_
    refine cSv2 (e_X10_copyRow G _ _ _ sh_184 _ sh_185 (by decide)) ⟨rfl, rfl⟩ (sv_w4 ml_RX10_218 st_X10_copyRow in_RX10 cd_X10_copyRow) nm_X10_copyRow ⟨Nat.le_of_ble_eq_true rfl, Nat.le_of_ble_eq_true rfl⟩ (Nat.le_of_ble_eq_true rfl) ⟨Nat.le_of_ble_eq_true rfl, Nat.le_of_ble_eq_true rfl⟩ dX10_drawn_58 ?_
    show sv_V _ _ _ _ _ _ _ _ _ _ _ (CF G (trS (yrT S (sdF (L 179)))) _) _ _ _
    refine sv_iconst (v := 0) dX10_drawn_61 (by decide) ?_
    refine sv_istore (ls' := [(5, _), (4, _), (3, _), (2, _), (0, _), (1, _)]) dX10_drawn_62 (by decide) rfl ?_
    have h := l_X10_drawnC G _ _ _ _ _ _ _ _ _ (ih m2 (by omega) (yrT S (sdF (L 179))) (va_up L 179 (sdF (L 179))) (p + 1) (a + yrT S (sdF (L 179)) 179 18) _ (by omega) (by omega) rfl hY1 hR1) 4 0 rfl (by omega)
    rw [scY_0] at h
    exact h
set_option maxRecDepth 100000 in
set_option maxHeartbeats 4000000 in
theorem e_X10_drawn (G : GT) (S : Nat → Nat → Int32) (L : Nat → Int64) (hY : wfY S) (hR : wfR S 184) (m : Int32) : sE G yX10_drawn R_X10_drawn cX10_drawn 6 (some .int) [.ref (gB G + 179), .int m] S L (some (.int (ydrawn S L m).1)) (ydrawn S L m).2.1 (ydrawn S L m).2.2 := by
  refine sE.of (by decide) (Nat.le_of_ble_eq_true rfl) ?_
  show sv_V G R_X10_drawn RX10 "drawn" cX10_drawn 6 (some .int) (sPo G R_X10_drawn (some (.int (ydrawn S L m).1)) (ydrawn S L m).2.1 (ydrawn S L m).2.2) 0 0 197 (CF G S L) 0 [(0, .ref (gB G + 179)), (1, .int m)] []
  refine sv_iload_n 1 dX10_drawn_0 rfl ?_
  refine sv_i2l dX10_drawn_1 rfl ?_
  refine sv_lconst (v := 1) dX10_drawn_2 (by decide) ?_
  refine sv_ldc2 ck_RX10_253 dX10_drawn_3 ?_
  refine cSi3 (e_inI G _ _ m 1 10 _ _ _ rfl (by decide) (by decide)) ⟨rfl, rfl⟩ (sv_w4 ml_RX10_73 st_X10_in in_RX10 cd_X10_in) nm_X10_in ⟨Nat.le_of_ble_eq_true rfl, Nat.le_of_ble_eq_true rfl⟩ (Nat.le_of_ble_eq_true rfl) ⟨Nat.le_of_ble_eq_true rfl, Nat.le_of_ble_eq_true rfl⟩ dX10_drawn_6 ?_
  refine sv_ifne_b (tgt := 15) dX10_drawn_9 (by decide) (fun c9 => ?_) (fun c9 => ?_)
  · -- jump
    have hm0 : ¬ m < 0 := nn1 c9.1
    have hm10 : tn m ≤ 10 := tn_le (M := 10) (k := 10) rfl (by decide) hm0 c9.2
    have hm1 : 0 < tn m := Nat.pos_of_ne_zero (fun z => c9.1 (by rw [nI_self hm0, show m.toNatClampNeg = 0 from z]; decide))
    refine sv_iconst (v := 0) dX10_drawn_15 (by decide) ?_
    refine sv_istore_n (ls' := [(2, _), (0, _), (1, _)]) dX10_drawn_16 (by decide) rfl ?_
    refine sv_iconst (v := 0) dX10_drawn_17 (by decide) ?_
    refine sv_istore_n (ls' := [(3, _), (2, _), (0, _), (1, _)]) dX10_drawn_18 (by decide) rfl ?_
    refine sv_iload_n 0 dX10_drawn_19 rfl ?_
    refine sv_iload_n 3 dX10_drawn_20 rfl ?_
    refine sv_icmp_ge (tgt := 112) dX10_drawn_21 (by decide) (fun c21 => ?_) (fun c21 => ?_)
    · -- jump
      exact absurd c21 (by rw [nI_self hm0]; exact Int32.not_le.mpr (nI_lt (a := 0) hm1 (by show tn m < _; omega)))
    · -- fall
      refine sv_aload_n 2 dX10_drawn_24 rfl ?_
      refine sv_aload_n 2 dX10_drawn_25 rfl ?_
      refine sg_10_16 sh_179 fl_RX10_258 dX10_drawn_26 ?_
      refine sv_ldc2 ck_RX10_262 dX10_drawn_29 ?_
      refine sv_lmul dX10_drawn_32 ?_
      refine sv_ldc2 ck_RX10_264 dX10_drawn_33 ?_
      refine sv_ladd dX10_drawn_36 ?_
      refine sv_toplE (v' := sdF (L 179)) rfl ?_
      refine sp_10_16 sh_179 fl_RX10_258 dX10_drawn_37 ?_
      refine sv_aload_n 2 dX10_drawn_40 rfl ?_
      refine sg_10_16 sh_179 fl_RX10_258 dX10_drawn_41 ?_
      refine sv_toplE (v' := sdF (L 179)) (by simp [va_up]) ?_
      refine sv_bipush (v := 33) dX10_drawn_44 (by decide) ?_
      refine sv_lushr dX10_drawn_46 rfl ?_
      refine sv_l2i dX10_drawn_47 rfl ?_
      refine sv_topE (v' := sdV (sdF (L 179))) rfl ?_
      refine sv_istore (ls' := [(4, _), (3, _), (2, _), (0, _), (1, _)]) dX10_drawn_48 (by decide) rfl ?_
      refine sv_aload_n 3 dX10_drawn_50 rfl ?_
      refine sg_10_6 sh_179 fl_RX10_22 dX10_drawn_51 ?_
      refine sv_aload_n 3 dX10_drawn_54 rfl ?_
      refine sg_10_7 sh_179 fl_RX10_25 dX10_drawn_55 ?_
      refine cSv2 (e_X10_copyRow G _ _ _ sh_184 _ sh_185 (by decide)) ⟨rfl, rfl⟩ (sv_w4 ml_RX10_218 st_X10_copyRow in_RX10 cd_X10_copyRow) nm_X10_copyRow ⟨Nat.le_of_ble_eq_true rfl, Nat.le_of_ble_eq_true rfl⟩ (Nat.le_of_ble_eq_true rfl) ⟨Nat.le_of_ble_eq_true rfl, Nat.le_of_ble_eq_true rfl⟩ dX10_drawn_58 ?_
      show sv_V _ _ _ _ _ _ _ _ _ _ _ (CF G (trS S) _) _ _ _
      refine sv_iconst (v := 0) dX10_drawn_61 (by decide) ?_
      refine sv_istore (ls' := [(5, _), (4, _), (3, _), (2, _), (0, _), (1, _)]) dX10_drawn_62 (by decide) rfl ?_
      rw [ydrawn, if_pos c9]
      have h := l_X10_drawnC G _ _ _ _ _ _ _ _ _ (l_X10_drawn G (tn m) hm10 (tn m - 1) S L 0 0 _ (by omega) (by omega) rfl hY hR) 4 0 rfl (by omega)
      rw [scY_0, show tn m - 1 + 1 = tn m by omega, show nI (tn m) = m from (nI_self hm0).symm] at h
      exact h
  · -- fall
    refine sv_bipush (v := (-2)) dX10_drawn_12 (by decide) ?_
    exact sv_iret rfl dX10_drawn_14 ⟨rfl, rfl, by rw [ydrawn, if_neg c9], rfl, fun _ _ => by rw [ydrawn, if_neg c9]; exact ceq_refl _⟩
def cgK (S : Nat → Nat → Int32) (d s x y k : Nat) : Nat → Nat → Int32 := va_up S d (fun j => if y ≤ j ∧ j < y + k then S s (x + (j - y)) else S d j)
theorem cgK_0 (S : Nat → Nat → Int32) (d s x y : Nat) : cgK S d s x y 0 = S := by
  funext k j
  unfold cgK va_up
  by_cases hk : k = d
  · subst hk; simp only [if_pos]; rw [if_neg (by omega)]
  · simp [hk]
theorem cgK_s (S : Nat → Nat → Int32) {d s : Nat} (hne : s ≠ d) (x y p : Nat) : up2 (cgK S d s x y p) d (y + p) (cgK S d s x y p s (x + p)) = cgK S d s x y (p + 1) := by
  have e : cgK S d s x y p s (x + p) = S s (x + p) := by unfold cgK va_up; rw [if_neg hne]
  rw [e]
  funext k j
  rw [up2_at]
  unfold cgK va_up
  by_cases hk : k = d
  · subst hk
    simp only [true_and, if_pos]
    by_cases h1 : j = y + p
    · subst h1; rw [if_pos rfl, if_pos (by omega), show y + p - y = p by omega]
    · rw [if_neg h1]
      by_cases h2 : y ≤ j ∧ j < y + p
      · rw [if_pos h2, if_pos (by omega)]
      · rw [if_neg h2, if_neg (by omega)]
  · simp [hk]
theorem cgK_ne {S : Nat → Nat → Int32} {d s x y n k : Nat} (h : k ≠ d) : cgK S d s x y n k = S k := by unfold cgK va_up; rw [if_neg h]
def ykeep (S : Nat → Nat → Int32) (q : Int32) : Int32 × (Nat → Nat → Int32) := if inP q 0 1 then (S 184 127, cgK (up2 S 188 (tn q) 1) 187 184 0 (128 * tn q) 128) else (-1, S)
def yagain (S : Nat → Nat → Int32) (q : Int32) : Int32 × (Nat → Nat → Int32) := if inP q 0 1 then (if S 188 (tn q) = 0 then (-3, S) else (S 187 (128 * tn q + 127), up2 (cgK S 184 187 (128 * tn q) 0 128) 179 9 0)) else (-1, S)
theorem cgK_127 (S : Nat → Nat → Int32) (x : Nat) : cgK S 184 187 x 0 128 184 127 = S 187 (x + 127) := by unfold cgK va_up; rw [if_pos rfl, if_pos (by decide)]
set_option maxRecDepth 100000 in
set_option maxHeartbeats 4000000 in
theorem l_X10_keep (G : GT) (S : Nat → Nat → Int32) (L : Nat → Int64) (x : Nat) (hx : x < 2) : ∀ (m p : Nat), 128 - p = m → p ≤ 128 → sv_V G R_X10_keep RX10 "keep" cX10_keep 3 (some .int) (sPo G R_X10_keep (some (.int (S 184 127))) (cgK S 187 184 0 (128 * x) 128) L) 0 0 197 (CF G (cgK S 187 184 0 (128 * x) p) L) 21 [(2, .int (nI p)), (0, .ref (gB G + 179)), (1, .int (nI x))] [] := by
  intro m
  induction m using Nat.strongRecOn
  rename_i m ih
  intro p hm hp
  refine sv_iload_n 0 dX10_keep_21 rfl ?_
  refine sv_sipush (v := 128) dX10_keep_22 (by decide) ?_
  refine sv_icmp_ge (tgt := 52) dX10_keep_25 (by decide) (fun c25 => ?_) (fun c25 => ?_)
  · -- jump
    obtain rfl : p = 128 := by have := (nI_leI (a := 128) (b := p) (by omega) (by omega)).mp c25; omega
    refine sv_aload_n 1 dX10_keep_52 rfl ?_
    refine sg_10_6 sh_179 fl_RX10_22 dX10_keep_53 ?_
    refine sv_bipush (v := 127) dX10_keep_56 (by decide) ?_
    refine sx_ild sh_184 127 (by decide) (by decide) dX10_keep_58 ?_
    refine sv_topE (v' := S 184 127) (by rw [cgK_ne (by decide)]) ?_
    exact se_iret rfl ⟨rfl, rfl⟩ dX10_keep_59 rfl rfl
  · -- fall
    have h7 : p < 128 := Nat.lt_of_not_le (fun z => c25 (nI_le (a := 128) z (by omega)))
    refine sv_aload_n 1 dX10_keep_28 rfl ?_
    refine sg_10_11 sh_179 fl_RX10_31 dX10_keep_29 ?_
    refine sv_sipush (v := 128) dX10_keep_32 (by decide) ?_
    refine sv_iload_n 2 dX10_keep_35 rfl ?_
    refine sv_imul dX10_keep_36 ?_
    refine sv_iload_n 0 dX10_keep_37 rfl ?_
    refine sv_iadd dX10_keep_38 ?_
    refine sv_aload_n 1 dX10_keep_39 rfl ?_
    refine sg_10_6 sh_179 fl_RX10_22 dX10_keep_40 ?_
    refine sv_iload_n 0 dX10_keep_43 rfl ?_
    refine sx_ild sh_184 (0 + p) (by rw [Nat.zero_add]) (by omega) dX10_keep_44 ?_
    refine sx_ist sh_187 (128 * x + p) (by rw [show (128 : Int32) = nI 128 from rfl, pk_mul, nI_add]) (by omega) dX10_keep_45 ?_
    refine sv_eqS (cgK_s S (by decide) 0 (128 * x) p) ?_
    refine sv_iinc 0 (ls' := [(2, _), (0, _), (1, _)]) dX10_keep_46 rfl (nI_1 _) (by decide) rfl ?_
    refine sv_goto (tgt := 21) dX10_keep_49 (by decide) ?_
    exact ih (128 - (p + 1)) (by omega) (p + 1) rfl (by omega)
set_option maxRecDepth 100000 in
set_option maxHeartbeats 4000000 in
theorem e_X10_keep (G : GT) (S : Nat → Nat → Int32) (L : Nat → Int64) (q : Int32) : sE G yX10_keep R_X10_keep cX10_keep 3 (some .int) [.ref (gB G + 179), .int q] S L (some (.int (ykeep S q).1)) (ykeep S q).2 L := by
  refine sE.of (by decide) (Nat.le_of_ble_eq_true rfl) ?_
  show sv_V G R_X10_keep RX10 "keep" cX10_keep 3 (some .int) (sPo G R_X10_keep (some (.int (ykeep S q).1)) (ykeep S q).2 L) 0 0 197 (CF G S L) 0 [(0, .ref (gB G + 179)), (1, .int q)] []
  refine sv_iload_n 1 dX10_keep_0 rfl ?_
  refine sv_i2l dX10_keep_1 rfl ?_
  refine sv_lconst (v := 0) dX10_keep_2 (by decide) ?_
  refine sv_lconst (v := 1) dX10_keep_3 (by decide) ?_
  refine cSi3 (e_inI G _ _ q 0 1 _ _ _ rfl (by decide) (by decide)) ⟨rfl, rfl⟩ (sv_w4 ml_RX10_73 st_X10_in in_RX10 cd_X10_in) nm_X10_in ⟨Nat.le_of_ble_eq_true rfl, Nat.le_of_ble_eq_true rfl⟩ (Nat.le_of_ble_eq_true rfl) ⟨Nat.le_of_ble_eq_true rfl, Nat.le_of_ble_eq_true rfl⟩ dX10_keep_4 ?_
  refine sv_ifne_b (tgt := 12) dX10_keep_7 (by decide) (fun c7 => ?_) (fun c7 => ?_)
  · -- jump
    refine sv_aload_n 0 dX10_keep_12 rfl ?_
    refine sg_10_12 sh_179 fl_RX10_34 dX10_keep_13 ?_
    refine sv_iload_n 1 dX10_keep_16 rfl ?_
    refine sv_iconst (v := 1) dX10_keep_17 (by decide) ?_
    refine sx_zst sh_188 (tn q) (nI_self c7.1) (by have := tn_le (M := 1) (k := 1) rfl (by decide) c7.1 c7.2; omega) dX10_keep_18 ?_
    rw [show vp_nar .boolean 1 = 1 from rfl]
    refine sv_iconst (v := 0) dX10_keep_19 (by decide) ?_
    refine sv_istore_n (ls' := [(2, _), (0, _), (1, _)]) dX10_keep_20 (by decide) rfl ?_
    rw [ykeep, if_pos c7]
    have h := l_X10_keep G (up2 S 188 (tn q) 1) L (tn q) (by have := tn_le (M := 1) (k := 1) rfl (by decide) c7.1 c7.2; omega) _ 0 rfl (by omega)
    rw [cgK_0, show nI (tn q) = q from (nI_self c7.1).symm] at h
    rw [show up2 S 188 (tn q) 1 184 127 = S 184 127 from up2_ne (Or.inl (by decide))] at h
    exact h
  · -- fall
    refine sv_iconst (v := (-1)) dX10_keep_10 (by decide) ?_
    exact se_iret rfl ⟨rfl, rfl⟩ dX10_keep_11 (by rw [ykeep, if_neg c7]) (by rw [ykeep, if_neg c7])
set_option maxRecDepth 100000 in
set_option maxHeartbeats 4000000 in
theorem l_X10_again (G : GT) (S : Nat → Nat → Int32) (L : Nat → Int64) (x : Nat) (hx : x < 2) : ∀ (m p : Nat), 128 - p = m → p ≤ 128 → sv_V G R_X10_again RX10 "again" cX10_again 3 (some .int) (sPo G R_X10_again (some (.int (S 187 (128 * x + 127)))) (up2 (cgK S 184 187 (128 * x) 0 128) 179 9 0) L) 0 0 197 (CF G (cgK S 184 187 (128 * x) 0 p) L) 26 [(2, .int (nI p)), (0, .ref (gB G + 179)), (1, .int (nI x))] [] := by
  intro m
  induction m using Nat.strongRecOn
  rename_i m ih
  intro p hm hp
  refine sv_iload_n 0 dX10_again_26 rfl ?_
  refine sv_sipush (v := 128) dX10_again_27 (by decide) ?_
  refine sv_icmp_ge (tgt := 57) dX10_again_30 (by decide) (fun c30 => ?_) (fun c30 => ?_)
  · -- jump
    obtain rfl : p = 128 := by have := (nI_leI (a := 128) (b := p) (by omega) (by omega)).mp c30; omega
    refine sv_aload_n 1 dX10_again_57 rfl ?_
    refine sv_iconst (v := 0) dX10_again_58 (by decide) ?_
    refine sp_10_9 sh_179 fl_RX10_132 dX10_again_59 ?_
    refine sv_aload_n 1 dX10_again_62 rfl ?_
    refine sg_10_6 sh_179 fl_RX10_22 dX10_again_63 ?_
    refine sv_bipush (v := 127) dX10_again_66 (by decide) ?_
    refine sx_ild sh_184 127 (by decide) (by decide) dX10_again_68 ?_
    refine sv_topE (v' := S 187 (128 * x + 127)) (by rw [up2_row (by decide), cgK_127]) ?_
    exact se_iret rfl ⟨rfl, rfl⟩ dX10_again_69 rfl rfl
  · -- fall
    have h7 : p < 128 := Nat.lt_of_not_le (fun z => c30 (nI_le (a := 128) z (by omega)))
    refine sv_aload_n 1 dX10_again_33 rfl ?_
    refine sg_10_6 sh_179 fl_RX10_22 dX10_again_34 ?_
    refine sv_iload_n 0 dX10_again_37 rfl ?_
    refine sv_aload_n 1 dX10_again_38 rfl ?_
    refine sg_10_11 sh_179 fl_RX10_31 dX10_again_39 ?_
    refine sv_sipush (v := 128) dX10_again_42 (by decide) ?_
    refine sv_iload_n 2 dX10_again_45 rfl ?_
    refine sv_imul dX10_again_46 ?_
    refine sv_iload_n 0 dX10_again_47 rfl ?_
    refine sv_iadd dX10_again_48 ?_
    refine sx_ild sh_187 (128 * x + p) (by rw [show (128 : Int32) = nI 128 from rfl, pk_mul, nI_add]) (by omega) dX10_again_49 ?_
    refine sx_ist sh_184 (0 + p) (by rw [Nat.zero_add]) (by omega) dX10_again_50 ?_
    refine sv_eqS (cgK_s S (by decide) (128 * x) 0 p) ?_
    refine sv_iinc 0 (ls' := [(2, _), (0, _), (1, _)]) dX10_again_51 rfl (nI_1 _) (by decide) rfl ?_
    refine sv_goto (tgt := 26) dX10_again_54 (by decide) ?_
    exact ih (128 - (p + 1)) (by omega) (p + 1) rfl (by omega)
set_option maxRecDepth 100000 in
set_option maxHeartbeats 4000000 in
theorem e_X10_again (G : GT) (S : Nat → Nat → Int32) (L : Nat → Int64) (q : Int32) : sE G yX10_again R_X10_again cX10_again 3 (some .int) [.ref (gB G + 179), .int q] S L (some (.int (yagain S q).1)) (yagain S q).2 L := by
  refine sE.of (by decide) (Nat.le_of_ble_eq_true rfl) ?_
  show sv_V G R_X10_again RX10 "again" cX10_again 3 (some .int) (sPo G R_X10_again (some (.int (yagain S q).1)) (yagain S q).2 L) 0 0 197 (CF G S L) 0 [(0, .ref (gB G + 179)), (1, .int q)] []
  refine sv_iload_n 1 dX10_again_0 rfl ?_
  refine sv_i2l dX10_again_1 rfl ?_
  refine sv_lconst (v := 0) dX10_again_2 (by decide) ?_
  refine sv_lconst (v := 1) dX10_again_3 (by decide) ?_
  refine cSi3 (e_inI G _ _ q 0 1 _ _ _ rfl (by decide) (by decide)) ⟨rfl, rfl⟩ (sv_w4 ml_RX10_73 st_X10_in in_RX10 cd_X10_in) nm_X10_in ⟨Nat.le_of_ble_eq_true rfl, Nat.le_of_ble_eq_true rfl⟩ (Nat.le_of_ble_eq_true rfl) ⟨Nat.le_of_ble_eq_true rfl, Nat.le_of_ble_eq_true rfl⟩ dX10_again_4 ?_
  refine sv_ifne_b (tgt := 12) dX10_again_7 (by decide) (fun c7 => ?_) (fun c7 => ?_)
  · -- jump
    refine sv_aload_n 0 dX10_again_12 rfl ?_
    refine sg_10_12 sh_179 fl_RX10_34 dX10_again_13 ?_
    refine sv_iload_n 1 dX10_again_16 rfl ?_
    refine sx_zld sh_188 (tn q) (nI_self c7.1) (by have := tn_le (M := 1) (k := 1) rfl (by decide) c7.1 c7.2; omega) dX10_again_17 ?_
    refine sv_if_ne (tgt := 24) dX10_again_18 (by decide) (fun c18 => ?_) (fun c18 => ?_)
    · -- jump
      refine sv_iconst (v := 0) dX10_again_24 (by decide) ?_
      refine sv_istore_n (ls' := [(2, _), (0, _), (1, _)]) dX10_again_25 (by decide) rfl ?_
      rw [yagain, if_pos c7, if_neg c18]
      have h := l_X10_again G S L (tn q) (by have := tn_le (M := 1) (k := 1) rfl (by decide) c7.1 c7.2; omega) _ 0 rfl (by omega)
      rw [cgK_0, show nI (tn q) = q from (nI_self c7.1).symm] at h
      exact h
    · -- fall
      refine sv_bipush (v := (-3)) dX10_again_21 (by decide) ?_
      exact se_iret rfl ⟨rfl, rfl⟩ dX10_again_23 (by rw [yagain, if_pos c7, if_pos c18]) (by rw [yagain, if_pos c7, if_pos c18])
  · -- fall
    refine sv_iconst (v := (-1)) dX10_again_10 (by decide) ?_
    exact se_iret rfl ⟨rfl, rfl⟩ dX10_again_11 (by rw [yagain, if_neg c7]) (by rw [yagain, if_neg c7])
def ywrite (S : Nat → Nat → Int32) (c : Int32) : Int32 × (Nat → Nat → Int32) := if inP c 0 255 then (if S 179 1 = 80 then (-4, S) else (S 179 1 + 1, up2 (up2 S 180 (tn (S 179 1)) c) 179 1 (S 179 1 + 1))) else (-2, S)
def ywipe (S : Nat → Nat → Int32) : Int32 × (Nat → Nat → Int32) := (S 179 1, up2 S 179 1 0)
def wfX (S : Nat → Nat → Int32) : Prop := ¬ S 179 1 < 0 ∧ ¬ 80 < S 179 1
set_option maxRecDepth 100000 in
set_option maxHeartbeats 4000000 in
theorem e_X10_write (G : GT) (S : Nat → Nat → Int32) (L : Nat → Int64) (hX : wfX S) (c : Int32) : sE G yX10_write R_X10_write cX10_write 2 (some .int) [.ref (gB G + 179), .int c] S L (some (.int (ywrite S c).1)) (ywrite S c).2 L := by
  refine sE.of (by decide) (Nat.le_of_ble_eq_true rfl) ?_
  show sv_V G R_X10_write RX10 "write" cX10_write 2 (some .int) (sPo G R_X10_write (some (.int (ywrite S c).1)) (ywrite S c).2 L) 0 0 197 (CF G S L) 0 [(0, .ref (gB G + 179)), (1, .int c)] []
  refine sv_iload_n 1 dX10_write_0 rfl ?_
  refine sv_i2l dX10_write_1 rfl ?_
  refine sv_lconst (v := 0) dX10_write_2 (by decide) ?_
  refine sv_ldc2 ck_RX10_77 dX10_write_3 ?_
  refine cSi3 (e_inI G _ _ c 0 255 _ _ _ rfl (by decide) (by decide)) ⟨rfl, rfl⟩ (sv_w4 ml_RX10_73 st_X10_in in_RX10 cd_X10_in) nm_X10_in ⟨Nat.le_of_ble_eq_true rfl, Nat.le_of_ble_eq_true rfl⟩ (Nat.le_of_ble_eq_true rfl) ⟨Nat.le_of_ble_eq_true rfl, Nat.le_of_ble_eq_true rfl⟩ dX10_write_6 ?_
  refine sv_ifne_b (tgt := 15) dX10_write_9 (by decide) (fun c9 => ?_) (fun c9 => ?_)
  · -- jump
    refine sv_aload_n 0 dX10_write_15 rfl ?_
    refine sg_10_1 sh_179 fl_RX10_79 dX10_write_16 ?_
    refine sv_bipush (v := 80) dX10_write_19 (by decide) ?_
    refine sv_icmp_ne (tgt := 27) dX10_write_21 (by decide) (fun c21 => ?_) (fun c21 => ?_)
    · -- jump
      refine sv_aload_n 0 dX10_write_27 rfl ?_
      refine sg_10_0 sh_179 fl_RX10_7 dX10_write_28 ?_
      refine sv_aload_n 0 dX10_write_31 rfl ?_
      refine sg_10_1 sh_179 fl_RX10_79 dX10_write_32 ?_
      refine sv_iload_n 1 dX10_write_35 rfl ?_
      refine sx_ist sh_180 (tn (S 179 1)) (nI_self hX.1) (by have := tn_le (M := 80) (k := 80) rfl (by decide) hX.1 hX.2; have : tn (S 179 1) ≠ 80 := fun z => c21 (by rw [nI_self hX.1, show (S 179 1).toNatClampNeg = 80 from z]; rfl); omega) dX10_write_36 ?_
      refine sv_aload_n 0 dX10_write_37 rfl ?_
      refine sv_dup dX10_write_38 rfl ?_
      refine sg_10_1 sh_179 fl_RX10_79 dX10_write_39 ?_
      refine sv_topE (v' := S 179 1) (by rw [up2_row (by decide)]) ?_
      refine sv_iconst (v := 1) dX10_write_42 (by decide) ?_
      refine sv_iadd dX10_write_43 ?_
      refine sp_10_1 sh_179 fl_RX10_79 dX10_write_44 ?_
      refine sv_aload_n 0 dX10_write_47 rfl ?_
      refine sg_10_1 sh_179 fl_RX10_79 dX10_write_48 ?_
      refine sv_topE (v' := S 179 1 + 1) (up2_same _ _ _ _) ?_
      exact se_iret rfl ⟨rfl, rfl⟩ dX10_write_51 (by rw [ywrite, if_pos c9, if_neg c21]) (by rw [ywrite, if_pos c9, if_neg c21])
    · -- fall
      refine sv_bipush (v := (-4)) dX10_write_24 (by decide) ?_
      exact se_iret rfl ⟨rfl, rfl⟩ dX10_write_26 (by rw [ywrite, if_pos c9, if_pos c21]) (by rw [ywrite, if_pos c9, if_pos c21])
  · -- fall
    refine sv_bipush (v := (-2)) dX10_write_12 (by decide) ?_
    exact se_iret rfl ⟨rfl, rfl⟩ dX10_write_14 (by rw [ywrite, if_neg c9]) (by rw [ywrite, if_neg c9])
set_option maxRecDepth 100000 in
set_option maxHeartbeats 4000000 in
theorem e_X10_wipe (G : GT) (S : Nat → Nat → Int32) (L : Nat → Int64)  : sE G yX10_wipe R_X10_wipe cX10_wipe 2 (some .int) [.ref (gB G + 179)] S L (some (.int (ywipe S).1)) (ywipe S).2 L := by
  refine sE.of (by decide) (Nat.le_of_ble_eq_true rfl) ?_
  show sv_V G R_X10_wipe RX10 "wipe" cX10_wipe 2 (some .int) (sPo G R_X10_wipe (some (.int (ywipe S).1)) (ywipe S).2 L) 0 0 197 (CF G S L) 0 [(0, .ref (gB G + 179))] []
  refine sv_aload_n 0 dX10_wipe_0 rfl ?_
  refine sg_10_1 sh_179 fl_RX10_79 dX10_wipe_1 ?_
  refine sv_istore_n (ls' := [(1, _), (0, _)]) dX10_wipe_4 (by decide) rfl ?_
  refine sv_aload_n 1 dX10_wipe_5 rfl ?_
  refine sv_iconst (v := 0) dX10_wipe_6 (by decide) ?_
  refine sp_10_1 sh_179 fl_RX10_79 dX10_wipe_7 ?_
  refine sv_iload_n 0 dX10_wipe_10 rfl ?_
  exact se_iret rfl ⟨rfl, rfl⟩ dX10_wipe_11 rfl rfl
