theorem fwL_rw (c : Nat) : ∀ (m k : Nat) (T : Nat → Nat → Int32) (a : Nat), a ≠ 153 → a ≠ 161 → (a < 154 ∨ 158 ≤ a) → fwL c m k T a = T a
  | 0, k, T, a, _, _, _ => rfl
  | m + 1, k, T, a, h1, h2, h3 => by
    rw [fwL]
    by_cases c1 : T 154 5 = 0
    · rw [if_pos c1]
      by_cases c2 : stP T 154 3
      · rw [if_pos c2, fwL_rw c m (k + 1) _ a h1 h2 h3, fwA_rw h1 h2, stS_row (by omega)]
      · rw [if_neg c2]
    · rw [if_neg c1]
theorem fwL_7 (c : Nat) : ∀ (m k : Nat) (T : Nat → Nat → Int32), fwL c m k T 153 7 = T 153 7
  | 0, k, T => rfl
  | m + 1, k, T => by
    rw [fwL]
    by_cases c1 : T 154 5 = 0
    · rw [if_pos c1]
      by_cases c2 : stP T 154 3
      · rw [if_pos c2, fwL_7 c m (k + 1)]
        unfold fwA
        rw [up2_ne (Or.inr (by decide)), up2_ne (Or.inl (by decide)), stS_row (by omega)]
      · rw [if_neg c2]
    · rw [if_neg c1]
theorem fwG_rw {A : Nat → Nat → Int32} {a : Nat} (h1 : a ≠ 153) (h2 : a ≠ 161) (h3 : a < 154 ∨ 158 ≤ a) : fwG A a = lsF A a := by
  unfold fwG fwF
  rw [fwL_rw _ _ _ _ _ h1 h2 h3, up2_row h1, cpR_row (by omega)]
theorem fwG_7 (A : Nat → Nat → Int32) : fwG A 153 7 = lsF A 153 7 := by
  unfold fwG fwF
  rw [fwL_7, up2_ne (Or.inr (by decide)), cpR_row (by omega)]
theorem sb_row (set : Int32) (pl : Nat → Nat) (c : Nat) (h16 : ∀ i, i < c → pl i < 16) (hinj : ∀ i j, i < c → j < c → pl i = pl j → i = j) : ∀ (m j : Nat) (S : Nat → Nat → Int32), j + m ≤ c → (∀ i, i < c → S 192 i = nI (pl i)) → (∀ i, j ≤ i → i < j + m → sbL set m j S 185 (26 + pl i) = if btP set i then S 185 (26 + pl i) else 0) ∧ (∀ a, (∀ i, j ≤ i → i < j + m → a ≠ 26 + pl i) → sbL set m j S 185 a = S 185 a)
  | 0, j, S, _, _ => ⟨fun i h1 h2 => absurd h2 (by omega), fun a _ => rfl⟩
  | m + 1, j, S, hc, hS => by
    rw [sbL]
    have hjc : j < c := by omega
    have ej : tn (S 192 j) = pl j := by rw [hS j hjc, tn_nI (by have := h16 j hjc; omega)]
    have e : sbA set j S = up2 S 185 (26 + pl j) (if btP set j then S 185 (26 + pl j) else 0) := by unfold sbA sbX; rw [ej]
    have hS' : ∀ i, i < c → sbA set j S 192 i = nI (pl i) := fun i hi => by rw [e, up2_row (by decide)]; exact hS i hi
    obtain ⟨i1, i2⟩ := sb_row set pl c h16 hinj m (j + 1) (sbA set j S) (by omega) hS'
    refine ⟨fun i h1 h2 => ?_, fun a ha => ?_⟩
    · by_cases z : i = j
      · rw [z, i2 _ (fun i' a1 a2 w => by have := hinj j i' hjc (by omega) (by omega); omega), e, up2_same]
      · rw [i1 i (by omega) (by omega), e, up2_ne (Or.inr (fun w => z (hinj i j (by omega) hjc (by omega))))]
    · rw [i2 a (fun i a1 a2 => ha i (by omega) (by omega)), e, up2_ne (Or.inr (ha j (by omega) (by omega)))]
/-- a state of the reference in which the stops may be counted -/
def goS (B : Nat → Nat → Int32) (pl : Nat → Nat) (S : Nat → Nat → Int32) : Prop := (∀ k j, (k = 181 ∨ k = 182 ∨ k = 183 ∨ k = 184 ∨ (k = 179 ∧ (j = 2 ∨ j = 17))) → S k j = B k j) ∧ ∀ j, j < (lpF B).1 → S 192 j = nI (pl j)
theorem pl_Q {A B : Nat → Nat → Int32} {pl : Nat → Nat} (h : plR A B pl) (h6 : (lpF B).1 ≤ 6) : plQ (B 184) (lpF B).1 pl := ⟨h6, fun j hj => (h.2.1 j hj).2.2.2, fun i j hi hj e => pl_inj h hi hj e, h.2.2.2⟩
theorem val_rel {A B S V : Nat → Nat → Int32} {pl : Nat → Nat} (h : Rel A B) (h6 : (lpF B).1 ≤ 6) (hp : plR A B pl) (hS : goS B pl S) (hV9 : V 159 = fwG A 159) (hV1 : V 161 = fwG A 161) (set : Int32) : (vaF (lnF A) V set).1 = (sbF S set (lpF B).1).1 := by
  have hq := pl_Q hp h6
  have hc := pl_ct hp h6
  have hR := Rel_S h
  have rS : ∀ k, (k = 181 ∨ k = 182 ∨ k = 183 ∨ k = 184) → S k = B k := fun k hk => funext (fun j => hS.1 k j (by omega))
  have hYS : wfY S := wfY_of (hS.1 179 2 (by omega)) (fun k hk => rS k (by omega)) h.2.1.2.1
  have hRS : wfR S 184 := wfR_row (rS 184 (by omega)) (Rel_wfR h)
  have hpS : plP S (lpF B).1 := fun j hj => by
    rw [hS.2 j hj, tn_nI (by have := (hq.2.1 j hj).1; omega)]
    exact ⟨nI_pos (by have := (hq.2.1 j hj).1; omega), (hq.2.1 j hj).1⟩
  obtain ⟨f1, f2, f3⟩ := sbL_fr set (lpF B).1 0 (up2 (trS S) 185 25 0) (lpF B).1 (by omega) (fun j hj => by rw [up2_row (by decide), trS_ne (by decide)]; exact hpS j hj) (tr0_wfY hYS) (tr0_wfR hRS)
  obtain ⟨s1, s2⟩ := sb_row set pl (lpF B).1 (fun i hi => (hq.2.1 i hi).1) hq.2.2.1 (lpF B).1 0 (up2 (trS S) 185 25 0) (by omega) (fun i hi => by rw [up2_row (by decide), trS_ne (by decide)]; exact hS.2 i hi)
  have row0 : ∀ j, j ≠ 25 → up2 (trS S) 185 25 0 185 j = B 184 j := fun j hj => by rw [up2_ne (Or.inr hj), trS_185, rS 184 (by omega)]
  have rowC : ∀ j, (j < 25 ∨ 42 ≤ j) → sbL set (lpF B).1 0 (up2 (trS S) 185 25 0) 185 j = B 184 j := fun j hj => by
    rw [s2 j (fun i _ hi => by have := (hq.2.1 i (by omega)).1; omega), row0 j (by omega)]
  have rowO : ∀ k, k ≠ 185 → sbL set (lpF B).1 0 (up2 (trS S) 185 25 0) k = S k := fun k hk => funext (fun j => by rw [f3 k j hk, up2_row hk, trS_ne hk])
  have c25 : sbL set (lpF B).1 0 (up2 (trS S) 185 25 0) 185 25 = 0 := by rw [s2 25 (fun i _ hi => by omega), up2_same]
  have cnt : ∀ j, j < (lpF B).1 → sbL set (lpF B).1 0 (up2 (trS S) 185 25 0) 185 (26 + pl j) = if btP set j then B 184 (26 + pl j) else 0 := fun j hj => by
    rw [s1 j (by omega) (by omega), row0 _ (by omega)]
  have cn0 : ∀ p, p < 16 → B 184 (26 + p) = 0 → sbL set (lpF B).1 0 (up2 (trS S) 185 25 0) 185 (26 + p) = 0 := fun p hp hz => by
    rw [s2 (26 + p) (fun i _ hi w => by
      have := (hq.2.1 i (by omega)).2
      rw [show pl i = p by omega, hz] at this
      exact absurd this (by decide)), row0 _ (by omega), hz]
  unfold vaF sbF
  rw [so_yR]
  generalize sbL set (lpF B).1 0 (up2 (trS S) 185 25 0) = C at *
  have hrow : ∀ k, (k < 153 ∨ k = 158 ∨ k = 159) → lsF A k = A k ∨ k = 158 ∨ k = 159 := fun k hk => by
    by_cases z : k = 158 ∨ k = 159
    · exact Or.inr z
    · exact Or.inl (lsF_row (by omega) (by omega) (by omega))
  have lrow : ∀ k, k < 153 → lsF A k = A k := fun k hk => lsF_row (by omega) (by omega) (by omega)
  have t0 : ∀ k, k < 153 → up2 (cpR (lsF A) 154 14 4) 153 6 0 k = A k := fun k hk => by rw [up2_row (by omega), cpR_row (by omega), lrow k hk]
  have tm : mcR (up2 (cpR (lsF A) 154 14 4) 153 6 0) 154 (B 184) := by
    refine mcR_cg (fun k k1 k2 => up2_row (by omega)) (mc_cp ?_)
    exact mcR_cg (fun k k1 k2 => lrow k (by omega)) hR.1.1
  have hm8 := SR_b8 hR
  have hI : sI (B 184) (tn (B 179 2)) (lpF B).1 pl set (up2 (cpR (lsF A) 154 14 4) 153 6 0) C (va_up V 160 (V 159)) := by
    have e2 : C 179 2 = B 179 2 := by rw [rowO 179 (by decide)]; exact hS.1 179 2 (by omega)
    refine ⟨⟨prR_cg (fun k k1 k2 => t0 k (by omega)) e2 (by rw [rowO _ (by decide)]; exact rS _ (by omega)) (by rw [rowO _ (by decide)]; exact rS _ (by omega)) (by rw [rowO _ (by decide)]; exact rS _ (by omega)) h.2.1.1, f1, f2, by rw [rowO 179 (by decide), hS.1 179 17 (by omega)]; exact h.2.1.2.2, by rw [e2]⟩, ⟨mcR_g (fun j hj => rowC j (by omega)) hm8 tm, ?_⟩, c25, fun p hp => ⟨rowC _ (by omega), rowC _ (by omega), rowC _ (by omega)⟩, cnt, cn0, fun j hj _ => ?_, brR_cg (t0 19 (by omega)) (fun _ _ _ => rfl) hR.1.2.2.1, hR.1.2.2.2.1, fun j hj => ?_⟩
    · have : wfM (cpR (lsF A) 154 14 4) 154 := wfM_cp (by unfold wfM; rw [lrow 14 (by omega)]; exact (SR_wfSt hR).1) (by decide)
      unfold wfM; rw [up2_row (by decide)]; exact this
    · have h16 := (hq.2.1 j hj).1
      have e9 : va_up V 160 (V 159) 160 = V 159 := by unfold va_up; rw [if_pos rfl]
      rw [e9, hV9, fwG_rw (by decide) (by decide) (by omega), (hp.2.1 j hj).2.1, rowC _ (by omega)]
      have hb : brp A 18 (B 184) (pl j) := hR.1.2.2.1 _ h16
      exact (hb.2.2.2 ((pos_ne hb.2.1.1).mp (hq.2.1 j hj).2)).2.2.2.1
    · rw [up2_row (by decide), cpR_row (by omega)]; exact (hp.2.1 j hj).1
  have e5 : up2 (cpR (lsF A) 154 14 4) 153 6 0 154 5 = C 185 22 := hI.2.1.1.2.2.2.2.2.1
  have hF : fwG A = fwL (lpF B).1 1980 0 (up2 (cpR (lsF A) 154 14 4) 153 6 0) := by unfold fwG fwF; rw [hc]
  have h61 : va_up V 160 (V 159) 161 = V 161 := row_up (by decide)
  unfold lnF
  by_cases c5 : up2 (cpR (lsF A) 154 14 4) 153 6 0 154 5 = 0
  · have ep : poF C 185 3 = poL 185 3 (C 185 20) (99 - 0) (0 + 1) C := by rw [poF, if_neg (by rw [← e5, c5]; decide)]
    rw [ep, hF]
    have := sim hq 1980 0 (up2 (cpR (lsF A) 154 14 4) 153 6 0) C (va_up V 160 (V 159)) 0 0 19 (C 185 20) rfl rfl (by decide) (by decide) c5 (up2_same _ _ _ _) hI (by rw [h61, hV1, hF])
    rw [Nat.sub_zero] at this
    exact this
  · have ep : poF C 185 3 = (3, C) := by rw [poF, if_pos (by rw [← e5]; exact hI.2.1.2.2.2.resolve_left c5)]
    rw [ep, hF, fw_halt c5, up2_same]
    unfold yR
    rw [if_neg (show ¬ (3 : Int32) = 1 by decide)]
    rfl
