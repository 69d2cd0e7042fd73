def lpL : Nat → Nat → Nat → (Nat → Nat → Int32) → Nat × (Nat → Nat → Int32)
  | 0, _, x, S => (x, S)
  | m + 1, p, x, S => if 0 < S 184 (26 + p) then lpL m (p + 1) (x + 1) (up2 S 192 (if x < 6 then x else 5) (nI p)) else lpL m (p + 1) x S
def lpF (S : Nat → Nat → Int32) : Nat × (Nat → Nat → Int32) := lpL (tn (S 179 2)) 0 0 S
set_option maxRecDepth 100000 in
set_option maxHeartbeats 4000000 in
theorem l_X10_layPlaces (G : GT) (L : Nat → Int64) (N : Nat) (h16 : N ≤ 16) : ∀ (m : Nat) (S : Nat → Nat → Int32) (p x : Nat), N - p = m → p ≤ N → x ≤ p → S 179 2 = nI N → sv_V G R_X10_layPlaces RX10 "layPlaces" cX10_layPlaces 3 (some .int) (sPo G R_X10_layPlaces (some (.int (nI (lpL m p x S).1))) (lpL m p x S).2 L) 0 0 197 (CF G S L) 4 [(2, .int (nI p)), (1, .int (nI x)), (0, .ref (gB G + 179))] [] := by
  intro m
  induction m using Nat.strongRecOn
  rename_i m ih
  intro S p x hm hp hx hN
  refine sv_iload_n 0 dX10_layPlaces_4 rfl ?_
  refine sv_aload_n 2 dX10_layPlaces_5 rfl ?_
  refine sg_10_2 sh_179 fl_RX10_70 dX10_layPlaces_6 ?_
  refine sv_topE hN ?_
  refine sv_icmp_ge (tgt := 50) dX10_layPlaces_9 (by decide) (fun c9 => ?_) (fun c9 => ?_)
  · -- jump
    obtain rfl : m = 0 := by have := (nI_leI (by omega) (by omega)).mp c9; omega
    refine sv_iload_n 1 dX10_layPlaces_50 rfl ?_
    exact se_iret rfl ⟨rfl, rfl⟩ dX10_layPlaces_51 rfl rfl
  · -- fall
    have h7 : p < N := Nat.lt_of_not_le (fun z => c9 (nI_le z (by omega)))
    obtain ⟨m2, rfl⟩ : ∃ k, m = k + 1 := ⟨m - 1, by omega⟩
    rw [lpL]
    refine sv_aload_n 2 dX10_layPlaces_12 rfl ?_
    refine sg_10_6 sh_179 fl_RX10_22 dX10_layPlaces_13 ?_
    refine sv_bipush (v := 26) dX10_layPlaces_16 (by decide) ?_
    refine sv_iload_n 0 dX10_layPlaces_18 rfl ?_
    refine sv_iadd dX10_layPlaces_19 ?_
    refine sx_ild sh_184 (26 + p) (nI_add 26 p) (by omega) dX10_layPlaces_20 ?_
    refine sv_if_le (tgt := 44) dX10_layPlaces_21 (by decide) (fun c21 => ?_) (fun c21 => ?_)
    · -- jump
      refine sv_iinc 0 (ls' := [(2, _), (1, _), (0, _)]) dX10_layPlaces_44 rfl (nI_1 _) (by decide) rfl ?_
      refine sv_goto (tgt := 4) dX10_layPlaces_47 (by decide) ?_
      rw [if_neg (Int32.not_lt.mpr c21)]
      exact ih m2 (by omega) S (p + 1) x (by omega) (by omega) (by omega) hN
    · -- fall
      refine sv_aload_n 2 dX10_layPlaces_24 rfl ?_
      refine sg_10_20 sh_179 fl_RX10_47 dX10_layPlaces_25 ?_
      refine sv_iload_n 1 dX10_layPlaces_28 rfl ?_
      refine sv_bipush (v := 6) dX10_layPlaces_29 (by decide) ?_
      refine sv_icmp_ge (tgt := 38) dX10_layPlaces_31 (by decide) (fun c31 => ?_) (fun c31 => ?_)
      · -- jump
        have hx6 : ¬ x < 6 := fun z => absurd ((nI_leI (a := 6) (b := x) (by omega) (by omega)).mp c31) (by omega)
        refine sv_iconst (v := 5) dX10_layPlaces_38 (by decide) ?_
        refine sv_iload_n 0 dX10_layPlaces_39 rfl ?_
        refine sx_ist sh_192 5 (by decide) (by decide) dX10_layPlaces_40 ?_
        refine sv_iinc 1 (ls' := [(1, _), (2, _), (0, _)]) dX10_layPlaces_41 rfl (nI_1 _) (by decide) rfl ?_
        refine sv_iinc 1 (ls' := [(2, _), (1, _), (0, _)]) dX10_layPlaces_44 rfl (nI_1 _) (by decide) rfl ?_
        refine sv_goto (tgt := 4) dX10_layPlaces_47 (by decide) ?_
        rw [if_pos (Int32.not_le.mp c21), if_neg hx6]
        exact ih m2 (by omega) _ (p + 1) (x + 1) (by omega) (by omega) (by omega) (by rw [up2_row (by decide)]; exact hN)
      · -- fall
        have hx6 : x < 6 := Nat.lt_of_not_le (fun z => c31 (nI_le (a := 6) z (by omega)))
        refine sv_iload_n 1 dX10_layPlaces_34 rfl ?_
        refine sv_goto (tgt := 39) dX10_layPlaces_35 (by decide) ?_
        refine sv_iload_n 0 dX10_layPlaces_39 rfl ?_
        refine sx_ist sh_192 x rfl (by omega) dX10_layPlaces_40 ?_
        refine sv_iinc 1 (ls' := [(1, _), (2, _), (0, _)]) dX10_layPlaces_41 rfl (nI_1 _) (by decide) rfl ?_
        refine sv_iinc 1 (ls' := [(2, _), (1, _), (0, _)]) dX10_layPlaces_44 rfl (nI_1 _) (by decide) rfl ?_
        refine sv_goto (tgt := 4) dX10_layPlaces_47 (by decide) ?_
        rw [if_pos (Int32.not_le.mp c21), if_pos hx6]
        exact ih m2 (by omega) _ (p + 1) (x + 1) (by omega) (by omega) (by omega) (by rw [up2_row (by decide)]; exact hN)
set_option maxRecDepth 100000 in
set_option maxHeartbeats 4000000 in
theorem e_X10_layPlaces (G : GT) (S : Nat → Nat → Int32) (L : Nat → Int64) (hN : wfN S) : sE G yX10_layPlaces R_X10_layPlaces cX10_layPlaces 3 (some .int) [.ref (gB G + 179)] S L (some (.int (nI (lpF S).1))) (lpF S).2 L := by
  refine sE.of (by decide) (Nat.le_of_ble_eq_true rfl) ?_
  show sv_V G R_X10_layPlaces RX10 "layPlaces" cX10_layPlaces 3 (some .int) (sPo G R_X10_layPlaces (some (.int (nI (lpF S).1))) (lpF S).2 L) 0 0 197 (CF G S L) 0 [(0, .ref (gB G + 179))] []
  refine sv_iconst (v := 0) dX10_layPlaces_0 (by decide) ?_
  refine sv_istore_n (ls' := [(1, _), (0, _)]) dX10_layPlaces_1 (by decide) rfl ?_
  refine sv_iconst (v := 0) dX10_layPlaces_2 (by decide) ?_
  refine sv_istore_n (ls' := [(2, _), (1, _), (0, _)]) dX10_layPlaces_3 (by decide) rfl ?_
  exact l_X10_layPlaces G L (tn (S 179 2)) (tn_16 hN.1 hN.2) _ S 0 0 (by omega) (by omega) (by omega) (nI_self hN.1)
abbrev sbX (S : Nat → Nat → Int32) (j : Nat) : Nat := 26 + tn (S 192 j)
def sbA (set : Int32) (j : Nat) (S : Nat → Nat → Int32) : Nat → Nat → Int32 := up2 S 185 (sbX S j) (if (set >>> (nI j &&& 31)) &&& 1 = 1 then S 185 (sbX S j) else 0)
def sbL (set : Int32) : Nat → Nat → (Nat → Nat → Int32) → Nat → Nat → Int32
  | 0, _, S => S
  | m + 1, j, S => sbL set m (j + 1) (sbA set j S)
def soL : Nat → Nat → (Nat → Nat → Int32) → Nat × (Nat → Nat → Int32)
  | 0, x, S => (x, S)
  | m + 1, x, S => if (poF S 185 3).1 = 1 then soL m (x + 1) (poF S 185 3).2 else (x, (poF S 185 3).2)
def sbF (S : Nat → Nat → Int32) (set : Int32) (c : Nat) : Nat × (Nat → Nat → Int32) := soL 20 0 (sbL set c 0 (up2 (trS S) 185 25 0))
abbrev plP (S : Nat → Nat → Int32) (c : Nat) : Prop := ∀ j, j < c → ¬ S 192 j < 0 ∧ tn (S 192 j) < 16
theorem sbA_fr {set : Int32} {j : Nat} {S : Nat → Nat → Int32} {k a : Nat} (hj : tn (S 192 j) < 16) (h : k ≠ 185 ∨ a < 26 ∨ 42 ≤ a) : sbA set j S k a = S k a := up2_ne (h.imp id (fun z => by show a ≠ 26 + tn (S 192 j); omega))
theorem sbA_wfR {set : Int32} {j : Nat} {S : Nat → Nat → Int32} (hj : tn (S 192 j) < 16) (hR : wfR S 185) : wfR (sbA set j S) 185 := by
  refine ⟨by rw [sbA_fr hj (Or.inr (Or.inl (by decide)))]; exact hR.1, by rw [sbA_fr hj (Or.inr (Or.inr (by decide)))]; exact hR.2.1, fun a ha hne => ?_⟩
  rw [sbA_fr hj (Or.inr (Or.inr (by omega)))]
  refine hR.2.2 a ha (fun w => hne ?_)
  unfold sbA
  rw [up2_at]
  split
  next z =>
    split
    · rw [← z.2]; exact w
    · rfl
  · exact w
theorem sbA_wfY {set : Int32} {j : Nat} {S : Nat → Nat → Int32} (hj : tn (S 192 j) < 16) (hY : wfY S) : wfY (sbA set j S) := wfY_q sh_185 (fun k a h => sbA_fr hj (Or.inl h)) hY
theorem sbA_pl {set : Int32} {j c : Nat} {S : Nat → Nat → Int32} (hP : plP S c) : plP (sbA set j S) c := by
  intro a ha
  rw [show sbA set j S 192 = S 192 from up2_row (by decide)]
  exact hP a ha
set_option maxRecDepth 100000 in
set_option maxHeartbeats 4000000 in
theorem l_X10_stopsByB (G : GT) (L : Nat → Int64) (set cc : Int32) : ∀ (m : Nat) (S : Nat → Nat → Int32) (x : Nat), 20 - x = m → x ≤ 20 → wfY S → wfR S 185 → sv_V G R_X10_stopsBy RX10 "stopsBy" cX10_stopsBy 4 (some .int) (sPo G R_X10_stopsBy (some (.int (nI (soL m x S).1))) (soL m x S).2 L) 0 0 197 (CF G S L) 74 [(3, .int (nI x)), (0, .ref (gB G + 179)), (1, .int set), (2, .int cc)] [] := by
  intro m
  induction m using Nat.strongRecOn
  rename_i m ih
  intro S x hm hx hY hR
  refine sv_iload_n 0 dX10_stopsBy_74 rfl ?_
  refine sv_bipush (v := 20) dX10_stopsBy_75 (by decide) ?_
  refine sv_icmp_ge (tgt := 99) dX10_stopsBy_77 (by decide) (fun c77 => ?_) (fun c77 => ?_)
  · -- jump
    obtain rfl : m = 0 := by have := (nI_leI (a := 20) (b := x) (by omega) (by omega)).mp c77; omega
    refine sv_iload_n 0 dX10_stopsBy_99 rfl ?_
    exact se_iret rfl ⟨rfl, rfl⟩ dX10_stopsBy_100 (by rw [soL]) (by rw [soL])
  · -- fall
    have h7 : x < 20 := Nat.lt_of_not_le (fun z => c77 (nI_le (a := 20) z (by omega)))
    obtain ⟨m2, rfl⟩ : ∃ k, m = k + 1 := ⟨m - 1, by omega⟩
    rw [soL]
    have hF := poF_fr sh_185 3 hY hR
    refine sv_aload_n 1 dX10_stopsBy_80 rfl ?_
    refine sv_aload_n 1 dX10_stopsBy_81 rfl ?_
    refine sg_10_7 sh_179 fl_RX10_25 dX10_stopsBy_82 ?_
    refine sv_iconst (v := 3) dX10_stopsBy_85 (by decide) ?_
    refine cVi2 (e_X10_planOn G _ _ hY _ sh_185 hR _) ⟨rfl, rfl⟩ (sv_w5 ml_RX10_204 im_X10_planOn sl_X10_planOn in_RX10 cd_X10_planOn) nm_X10_planOn ⟨Nat.le_of_ble_eq_true rfl, Nat.le_of_ble_eq_true rfl⟩ rfl (CF_10 sh_179) (shp_lt sh_179 (by simp)) (Nat.le_of_ble_eq_true rfl) ⟨Nat.le_of_ble_eq_true rfl, Nat.le_of_ble_eq_true rfl⟩ dX10_stopsBy_86 ?_
    refine sv_iconst (v := 1) dX10_stopsBy_89 (by decide) ?_
    refine sv_icmp_ne (tgt := 99) dX10_stopsBy_90 (by decide) (fun c90 => ?_) (fun c90 => ?_)
    · -- jump
      refine sv_iload_n 0 dX10_stopsBy_99 rfl ?_
      exact se_iret rfl ⟨rfl, rfl⟩ dX10_stopsBy_100 (by rw [if_neg c90]) (by rw [if_neg c90])
    · -- fall
      refine sv_iinc 0 (ls' := [(3, _), (0, _), (1, _), (2, _)]) dX10_stopsBy_93 rfl (nI_1 _) (by decide) rfl ?_
      refine sv_goto (tgt := 74) dX10_stopsBy_96 (by decide) ?_
      rw [if_pos c90]
      exact ih m2 (by omega) _ (x + 1) (by omega) (by omega) hF.1 hF.2.1
set_option maxRecDepth 100000 in
set_option maxHeartbeats 4000000 in
theorem l_X10_stopsByA (G : GT) (L : Nat → Int64) (set : Int32) (c : Nat) (h6 : c ≤ 6) : ∀ (m : Nat) (S : Nat → Nat → Int32) (j : Nat), c - j = m → j ≤ c → plP S c → wfY S → wfR S 185 → sv_V G R_X10_stopsBy RX10 "stopsBy" cX10_stopsBy 4 (some .int) (sPo G R_X10_stopsBy (some (.int (nI (soL 20 0 (sbL set m j S)).1))) (soL 20 0 (sbL set m j S)).2 L) 0 0 197 (CF G S L) 21 [(3, .int (nI j)), (0, .ref (gB G + 179)), (1, .int set), (2, .int (nI c))] [] := by
  intro m
  induction m using Nat.strongRecOn
  rename_i m ih
  intro S j hm hj hP hY hR
  refine sv_iload_n 0 dX10_stopsBy_21 rfl ?_
  refine sv_iload_n 3 dX10_stopsBy_22 rfl ?_
  refine sv_icmp_ge (tgt := 72) dX10_stopsBy_23 (by decide) (fun c23 => ?_) (fun c23 => ?_)
  · -- jump
    obtain rfl : m = 0 := by have := (nI_leI (by omega) (by omega)).mp c23; omega
    rw [sbL]
    refine sv_iconst (v := 0) dX10_stopsBy_72 (by decide) ?_
    refine sv_istore_n (ls' := [(3, _), (0, _), (1, _), (2, _)]) dX10_stopsBy_73 (by decide) rfl ?_
    exact l_X10_stopsByB G L set _ 20 S 0 rfl (by omega) hY hR
  · -- fall
    have h7 : j < c := Nat.lt_of_not_le (fun z => c23 (nI_le z (by omega)))
    obtain ⟨m2, rfl⟩ : ∃ k, m = k + 1 := ⟨m - 1, by omega⟩
    rw [sbL]
    refine sv_aload_n 1 dX10_stopsBy_26 rfl ?_
    refine sg_10_7 sh_179 fl_RX10_25 dX10_stopsBy_27 ?_
    refine sv_bipush (v := 26) dX10_stopsBy_30 (by decide) ?_
    refine sv_aload_n 1 dX10_stopsBy_32 rfl ?_
    refine sg_10_20 sh_179 fl_RX10_47 dX10_stopsBy_33 ?_
    refine sv_iload_n 0 dX10_stopsBy_36 rfl ?_
    refine sx_ild sh_192 j rfl (by omega) dX10_stopsBy_37 ?_
    refine sv_iadd dX10_stopsBy_38 ?_
    refine sv_iload_n 2 dX10_stopsBy_39 rfl ?_
    refine sv_iload_n 0 dX10_stopsBy_40 rfl ?_
    refine cSi2 (e_X10_has G _ _ _ _) ⟨rfl, rfl⟩ (sv_w4 ml_RX10_163 st_X10_has in_RX10 cd_X10_has) nm_X10_has ⟨Nat.le_of_ble_eq_true rfl, Nat.le_of_ble_eq_true rfl⟩ (Nat.le_of_ble_eq_true rfl) ⟨Nat.le_of_ble_eq_true rfl, Nat.le_of_ble_eq_true rfl⟩ dX10_stopsBy_41 ?_
    refine sv_ifeq_b (tgt := 64) dX10_stopsBy_44 (by decide) (fun c44 => ?_) (fun c44 => ?_)
    · -- jump
      refine sv_iconst (v := 0) dX10_stopsBy_64 (by decide) ?_
      refine sx_ist sh_185 (sbX S j) (ad_tn 26 (hP j h7).1) (by have := (hP j h7).2; show 26 + tn (S 192 j) < 128; omega) dX10_stopsBy_65 ?_
      refine sv_iinc 0 (ls' := [(3, _), (0, _), (1, _), (2, _)]) dX10_stopsBy_66 rfl (nI_1 _) (by decide) rfl ?_
      refine sv_goto (tgt := 21) dX10_stopsBy_69 (by decide) ?_
      have h := ih m2 (by omega) (sbA set j S) (j + 1) (by omega) (by omega) (sbA_pl hP) (sbA_wfY (hP j h7).2 hY) (sbA_wfR (hP j h7).2 hR)
      unfold sbA at h ⊢
      rw [if_neg c44] at h ⊢
      exact h
    · -- fall
      refine sv_aload_n 1 dX10_stopsBy_47 rfl ?_
      refine sg_10_7 sh_179 fl_RX10_25 dX10_stopsBy_48 ?_
      refine sv_bipush (v := 26) dX10_stopsBy_51 (by decide) ?_
      refine sv_aload_n 1 dX10_stopsBy_53 rfl ?_
      refine sg_10_20 sh_179 fl_RX10_47 dX10_stopsBy_54 ?_
      refine sv_iload_n 0 dX10_stopsBy_57 rfl ?_
      refine sx_ild sh_192 j rfl (by omega) dX10_stopsBy_58 ?_
      refine sv_iadd dX10_stopsBy_59 ?_
      refine sx_ild sh_185 (sbX S j) (ad_tn 26 (hP j h7).1) (by have := (hP j h7).2; show 26 + tn (S 192 j) < 128; omega) dX10_stopsBy_60 ?_
      refine sv_goto (tgt := 65) dX10_stopsBy_61 (by decide) ?_
      refine sx_ist sh_185 (sbX S j) (ad_tn 26 (hP j h7).1) (by have := (hP j h7).2; show 26 + tn (S 192 j) < 128; omega) dX10_stopsBy_65 ?_
      refine sv_iinc 0 (ls' := [(3, _), (0, _), (1, _), (2, _)]) dX10_stopsBy_66 rfl (nI_1 _) (by decide) rfl ?_
      refine sv_goto (tgt := 21) dX10_stopsBy_69 (by decide) ?_
      have h := ih m2 (by omega) (sbA set j S) (j + 1) (by omega) (by omega) (sbA_pl hP) (sbA_wfY (hP j h7).2 hY) (sbA_wfR (hP j h7).2 hR)
      unfold sbA at h ⊢
      rw [if_pos c44] at h ⊢
      exact h
theorem tr0_wfY {S : Nat → Nat → Int32} {v : Int32} (h : wfY S) : wfY (up2 (trS S) 185 25 v) := wfY_q sh_185 (fun k j hk => up2_ne (Or.inl hk)) (trS_wfY h)
theorem tr0_wfR {S : Nat → Nat → Int32} {v : Int32} (h : wfR S 184) : wfR (up2 (trS S) 185 25 v) 185 := wfR_of (by rw [up2_ne (Or.inr (by decide))]; exact (trS_wfR h).1) (by rw [keP, up2_ne (Or.inr (by decide))]; exact (trS_wfR h).2.1) (fun a h1 _ => up2_ne (Or.inr (by omega))) (trS_wfR h)
set_option maxRecDepth 100000 in
set_option maxHeartbeats 4000000 in
theorem e_X10_stopsBy (G : GT) (S : Nat → Nat → Int32) (L : Nat → Int64) (hY : wfY S) (hR : wfR S 184) (set : Int32) (c : Nat) (h6 : c ≤ 6) (hP : plP S c) : sE G yX10_stopsBy R_X10_stopsBy cX10_stopsBy 4 (some .int) [.ref (gB G + 179), .int set, .int (nI c)] S L (some (.int (nI (sbF S set c).1))) (sbF S set c).2 L := by
  refine sE.of (by decide) (Nat.le_of_ble_eq_true rfl) ?_
  show sv_V G R_X10_stopsBy RX10 "stopsBy" cX10_stopsBy 4 (some .int) (sPo G R_X10_stopsBy (some (.int (nI (sbF S set c).1))) (sbF S set c).2 L) 0 0 197 (CF G S L) 0 [(0, .ref (gB G + 179)), (1, .int set), (2, .int (nI c))] []
  refine sv_aload_n 0 dX10_stopsBy_0 rfl ?_
  refine sg_10_6 sh_179 fl_RX10_22 dX10_stopsBy_1 ?_
  refine sv_aload_n 0 dX10_stopsBy_4 rfl ?_
  refine sg_10_7 sh_179 fl_RX10_25 dX10_stopsBy_5 ?_
  refine cSv2 (e_X10_copyRow G _ _ _ sh_184 _ sh_185 (by decide)) ⟨rfl, rfl⟩ (sv_w4 ml_RX10_218 st_X10_copyRow in_RX10 cd_X10_copyRow) nm_X10_copyRow ⟨Nat.le_of_ble_eq_true rfl, Nat.le_of_ble_eq_true rfl⟩ (Nat.le_of_ble_eq_true rfl) ⟨Nat.le_of_ble_eq_true rfl, Nat.le_of_ble_eq_true rfl⟩ dX10_stopsBy_8 ?_
  show sv_V _ _ _ _ _ _ _ _ _ _ _ (CF G (trS S) L) _ _ _
  refine sv_aload_n 0 dX10_stopsBy_11 rfl ?_
  refine sg_10_7 sh_179 fl_RX10_25 dX10_stopsBy_12 ?_
  refine sv_bipush (v := 25) dX10_stopsBy_15 (by decide) ?_
  refine sv_iconst (v := 0) dX10_stopsBy_17 (by decide) ?_
  refine sx_ist sh_185 25 (by decide) (by decide) dX10_stopsBy_18 ?_
  refine sv_iconst (v := 0) dX10_stopsBy_19 (by decide) ?_
  refine sv_istore_n (ls' := [(3, _), (0, _), (1, _), (2, _)]) dX10_stopsBy_20 (by decide) rfl ?_
  exact l_X10_stopsByA G L set c h6 _ (up2 (trS S) 185 25 0) 0 rfl (by omega) (fun j hj => by rw [up2_row (by decide), trS_ne (by decide)]; exact hP j hj) (tr0_wfY hY) (tr0_wfR hR)
theorem sbL_fr (set : Int32) : ∀ (m j : Nat) (S : Nat → Nat → Int32) (c : Nat), j + m ≤ c → plP S c → wfY S → wfR S 185 → wfY (sbL set m j S) ∧ wfR (sbL set m j S) 185 ∧ ∀ k a, k ≠ 185 → sbL set m j S k a = S k a
  | 0, _, S, _, _, _, hY, hR => ⟨hY, hR, fun _ _ _ => rfl⟩
  | m + 1, j, S, c, hc, hP, hY, hR => by
    have hj := (hP j (by omega)).2
    have ih := sbL_fr set m (j + 1) (sbA set j S) c (by omega) (sbA_pl hP) (sbA_wfY hj hY) (sbA_wfR hj hR)
    exact ⟨ih.1, ih.2.1, fun k a h => by rw [sbL, ih.2.2 k a h, sbA_fr hj (Or.inl h)]⟩
theorem soL_fr : ∀ (m x : Nat) (S : Nat → Nat → Int32), wfY S → wfR S 185 → (soL m x S).1 ≤ x + m ∧ wfY (soL m x S).2 ∧ ∀ k a, k ≠ 185 → k ≠ 191 → (soL m x S).2 k a = S k a
  | 0, x, S, hY, _ => ⟨Nat.le_refl _, hY, fun _ _ _ _ => rfl⟩
  | m + 1, x, S, hY, hR => by
    have hF := poF_fr sh_185 3 hY hR
    rw [soL]
    by_cases c : (poF S 185 3).1 = 1
    · rw [if_pos c]
      have ih := soL_fr m (x + 1) _ hF.1 hF.2.1
      exact ⟨by omega, ih.2.1, fun k a h1 h2 => by rw [ih.2.2 k a h1 h2, hF.2.2 k a h1 h2]⟩
    · rw [if_neg c]
      exact ⟨by show x ≤ _; omega, hF.1, hF.2.2⟩
theorem sbF_fr {S : Nat → Nat → Int32} (set : Int32) {c : Nat} (hY : wfY S) (hR : wfR S 184) (hP : plP S c) : (sbF S set c).1 ≤ 20 ∧ wfY (sbF S set c).2 ∧ ∀ k a, k ≠ 185 → k ≠ 191 → (sbF S set c).2 k a = S k a := by
  have h1 := sbL_fr set c 0 (up2 (trS S) 185 25 0) c (by omega) (fun j hj => by rw [up2_row (by decide), trS_ne (by decide)]; exact hP j hj) (tr0_wfY hY) (tr0_wfR hR)
  have h2 := soL_fr 20 0 _ h1.1 h1.2.1
  refine ⟨by have := h2.1; unfold sbF; omega, h2.2.1, fun k a hk h91 => ?_⟩
  rw [sbF, h2.2.2 k a hk h91, h1.2.2 k a hk, up2_row hk, trS_ne hk]
theorem sbF_wfR {S : Nat → Nat → Int32} (set : Int32) {c : Nat} (hY : wfY S) (hR : wfR S 184) (hP : plP S c) : wfR (sbF S set c).2 184 := wfR_row (funext (fun a => (sbF_fr set hY hR hP).2.2 184 a (by decide) (by decide))) hR
theorem lp_st {S : Nat → Nat → Int32} {x p : Nat} (hp : p < 16) (h : ∀ j, j < x → j < 6 → ¬ S 192 j < 0 ∧ tn (S 192 j) < 16) : ∀ j, j < x + 1 → j < 6 → ¬ up2 S 192 (if x < 6 then x else 5) (nI p) 192 j < 0 ∧ tn (up2 S 192 (if x < 6 then x else 5) (nI p) 192 j) < 16 := by
  intro j hj hj6
  have hv : ¬ nI p < 0 ∧ tn (nI p) < 16 := ⟨nI_pos (by omega), by rw [tn_nI (by omega)]; exact hp⟩
  by_cases z : j = (if x < 6 then x else 5)
  · rw [← z, up2_same]; exact hv
  · rw [up2_ne (Or.inr z)]
    refine h j ?_ hj6
    by_cases z2 : x < 6
    · rw [if_pos z2] at z; omega
    · omega
theorem lpL_fr : ∀ (m p x : Nat) (S : Nat → Nat → Int32), p + m ≤ 16 → (∀ j, j < x → j < 6 → ¬ S 192 j < 0 ∧ tn (S 192 j) < 16) → (∀ j, j < (lpL m p x S).1 → j < 6 → ¬ (lpL m p x S).2 192 j < 0 ∧ tn ((lpL m p x S).2 192 j) < 16) ∧ ∀ k, k ≠ 192 → (lpL m p x S).2 k = S k
  | 0, p, x, S, _, h => ⟨h, fun _ _ => rfl⟩
  | m + 1, p, x, S, hp, h => by
    rw [lpL]
    by_cases c : 0 < S 184 (26 + p)
    · rw [if_pos c]
      have ih := lpL_fr m (p + 1) (x + 1) (up2 S 192 (if x < 6 then x else 5) (nI p)) (by omega) (lp_st (by omega) h)
      exact ⟨ih.1, fun k hk => by rw [ih.2 k hk, up2_row hk]⟩
    · rw [if_neg c]
      exact lpL_fr m (p + 1) x S (by omega) h
theorem lpF_fr {S : Nat → Nat → Int32} (hN : wfN S) : ((lpF S).1 ≤ 6 → plP (lpF S).2 (lpF S).1) ∧ ∀ k, k ≠ 192 → (lpF S).2 k = S k := by
  have h := lpL_fr (tn (S 179 2)) 0 0 S (by have := tn_16 hN.1 hN.2; omega) (fun j hj => absurd hj (by omega))
  exact ⟨fun h6 j hj => h.1 j hj (by omega), h.2⟩
