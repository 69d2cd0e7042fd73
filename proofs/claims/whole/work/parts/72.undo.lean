theorem cpR_in {S : Nat → Nat → Int32} {a o n k : Nat} (hk : k < n) : cpR S a o n (a + k) = S (o + k) := by
  unfold cpR; rw [if_pos (by omega), show o + (a + k - a) = o + k by omega]
theorem dix_u {x : Nat} (hx : x < 14) : dix x 1 = (x + 13) % 14 := by unfold dix; omega
theorem dix_v {x d : Nat} (hx : x < 14) (h2 : d < 14) : dix ((x + 13) % 14) d = dix x (d + 1) := by unfold dix; omega
theorem c_undo {A B : Nat → Nat → Int32} (h : Rel A B) : (xundo A).1 = (yundo B).1 ∧ Rel (xundo A).2 (yundo B).2 := by
  obtain ⟨e1, e2, h1r, h2r, hst, hd⟩ := h.2.2.2.1
  have hx : tn (A 29 1) < 14 := tn_lt (M := 14) (k := 14) rfl (by decide) h1r.1 h1r.2
  have hh : tn (A 29 2) ≤ 14 := tn_le (M := 14) (k := 14) rfl (by decide) h2r.1 h2r.2
  unfold xundo yundo
  by_cases c : A 29 2 = 0
  · rw [if_pos c, if_pos (by rw [← e2]; exact c)]
    exact ⟨rfl, h⟩
  · rw [if_neg c, if_neg (by rw [← e2]; exact c)]
    have hp := h_pos h2r.1 c
    have em : nI (tn (A 29 2) - 1) = A 29 2 - 1 := by
      have e0 : A 29 2 = nI (tn (A 29 2) - 1 + 1) := by rw [show tn (A 29 2) - 1 + 1 = tn (A 29 2) by omega]; exact nI_self h2r.1
      rw [← nI_pred, ← e0]
    show tbS A (tn (A 29 1)) (tn (A 29 2)) 29 2 = B 179 9 - 1 ∧ Rel (tbS A (tn (A 29 1)) (tn (A 29 2))) (udK (udT B) ((tn (B 179 10) + 13) % 14) 128)
    rw [← e1]
    have hx2 : (tn (A 29 1) + 13) % 14 < 14 := Nat.mod_lt _ (by decide)
    have dv : ∀ d, d < 14 → dix ((tn (A 29 1) + 13) % 14) d = dix (tn (A 29 1)) (d + 1) := fun d hd => dix_v hx hd
    have d1 := dix_u hx
    have hrow : ∀ k, (k < 13 ∨ 21 ≤ k) → k ≠ 29 → tbS A (tn (A 29 1)) (tn (A 29 2)) k = A k := fun k k1 k2 => by
      unfold tbS; rw [up2_row k2, cpR_row (by omega), up2_row k2]
    have hnow : ∀ k, k < 8 → tbS A (tn (A 29 1)) (tn (A 29 2)) (13 + k) = A (30 + 1 + 8 * ((tn (A 29 1) + 13) % 14) + k) := fun k hk => by
      unfold tbS; rw [up2_row (by omega), cpR_in hk, up2_row (by omega)]
    have a1 : tbS A (tn (A 29 1)) (tn (A 29 2)) 29 1 = nI ((tn (A 29 1) + 13) % 14) := by
      unfold tbS; rw [up2_ne (Or.inr (by decide)), cpR_row (by omega), up2_same]
    have a2 : tbS A (tn (A 29 1)) (tn (A 29 2)) 29 2 = nI (tn (A 29 2) - 1) := by unfold tbS; rw [up2_same]
    have byr : ∀ y k, k ≠ 184 → k ≠ 179 → udK (udT B) y 128 k = B k := fun y k k1 k2 => by
      rw [udK_ne k1]; unfold udT; rw [up2_row k2, up2_row k2]
    have by9 : ∀ y j, j ≠ 9 → j ≠ 10 → udK (udT B) y 128 179 j = B 179 j := fun y j j1 j2 => by
      rw [udK_ne (by decide)]; unfold udT; rw [up2_ne (Or.inr j2), up2_ne (Or.inr j1)]
    have b9 : ∀ y, udK (udT B) y 128 179 9 = B 179 9 - 1 := fun y => by
      rw [udK_ne (by decide)]; unfold udT; rw [up2_ne (Or.inr (by decide)), up2_same]
    have b10 : ∀ y, udK (udT B) y 128 179 10 = nI ((tn (B 179 10) + 13) % 14) := fun y => by
      rw [udK_ne (by decide)]; unfold udT; rw [up2_same]
    have b84 : ∀ y j, j < 128 → udK (udT B) y 128 184 j = B 186 (128 * y + j) := fun y j hj => by
      unfold udK va_up; rw [if_pos rfl, if_pos hj]; unfold udT; rw [up2_row (by decide), up2_row (by decide)]
    refine ⟨by rw [a2, em, e2], ?_⟩
    generalize tbS A (tn (A 29 1)) (tn (A 29 2)) = A' at *
    rw [← e1] at b10
    generalize (tn (A 29 1) + 13) % 14 = y at *
    have hy := byr y
    have hy9 := by9 y
    have c9 := b9 y
    have c10 := b10 y
    have c84 := b84 y
    generalize udK (udT B) y 128 = B' at *
    refine ⟨rT_cg (by rw [hrow 1 (by omega) (by omega)]) (hrow 2 (by omega) (by omega)) (hy9 1 (by decide) (by decide)) (hy 180 (by decide) (by decide)) h.1,
     rP_cg (fun k k1 k2 => hrow k (by omega) (by omega)) (hy9 2 (by decide) (by decide)) (hy9 17 (by decide) (by decide)) (fun k hk => hy k (by omega) (by omega)) h.2.1, ?_, ?_,
     rK_cg (hrow 144 (by omega) (by omega)) (fun k k1 k2 => hrow k (by omega) (by omega)) (hy9 2 (by decide) (by decide)) (hy 187 (by decide) (by decide)) (hy 188 (by decide) (by decide)) h.2.2.2.2.1,
     rV_cg (by rw [hrow 145 (by omega) (by omega)]) (hrow 146 (by omega) (by omega)) (hrow 147 (by omega) (by omega)) (hy9 15 (by decide) (by decide)) (hy 189 (by decide) (by decide)) (hy 190 (by decide) (by decide)) h.2.2.2.2.2⟩
    · unfold rN
      rw [hy9 2 (by decide) (by decide)]
      have hs := hd 1 (by omega) (by omega)
      rw [d1] at hs
      exact SR_cp hnow c84 hs
    · unfold rH
      rw [hy9 2 (by decide) (by decide), a1, a2, c9, c10, tn_nI (by omega), tn_nI (by omega), hy 186 (by decide) (by decide)]
      refine ⟨rfl, by rw [em, e2], ⟨nI_pos (by omega), fun w => by have := (nI_leI (a := 14) (by decide) (by omega)).mp w; omega⟩, ⟨nI_pos (by omega), fun w => by have := (nI_ltI (a := 14) (by decide) (by omega)).mp w; omega⟩, fun i hi => wfSt_cp (hrow _ (by omega) (by omega)) (hrow _ (by omega) (by omega)) (hst i hi), fun d k1 k2 => ?_⟩
      rw [dv d (by omega)]
      have f3 : dix (tn (A 29 1)) (d + 1) < 14 := Nat.mod_lt _ (by decide)
      exact SR_cp (fun k hk => hrow _ (by omega) (by omega)) (fun _ _ => rfl) (hd (d + 1) (by omega) (by omega))
theorem sl_ix {q : Int32} : (¬ q < 0 ∧ ¬ 2 ≤ q) ↔ inP q 0 1 := in_lt (k := 1) (by decide) rfl rfl
theorem c_keep {A B : Nat → Nat → Int32} (h : Rel A B) (q : Int32) : (xkeep A q).1 = (ykeep B q).1 ∧ Rel (xkeep A q).2 (ykeep B q).2 := by
  unfold xkeep ykeep
  by_cases c : inP q 0 1
  · rw [if_pos c, if_pos (sl_ix.mpr c)]
    have hx : tn q < 2 := tn_lt (M := 2) (k := 2) rfl (by decide) (sl_ix.mpr c).1 (sl_ix.mpr c).2
    show A 13 6 = B 184 127 ∧ Rel (up2 (cpR A (143 + 20 + 8 * tn q) 13 8) 144 (tn q) 1) (cgK (up2 B 188 (tn q) 1) 187 184 0 (128 * tn q) 128)
    refine ⟨h.2.2.1.1.2.2.2.2.1.2.2, ?_⟩
    generalize tn q = y at *
    have hrow : ∀ k, k < 163 → k ≠ 144 → up2 (cpR A (143 + 20 + 8 * y) 13 8) 144 y 1 k = A k := fun k k1 k2 => by rw [up2_row k2, cpR_row (by omega)]
    have hrow2 : ∀ i k, i < 2 → k < 8 → up2 (cpR A (143 + 20 + 8 * y) 13 8) 144 y 1 (143 + 20 + 8 * i + k) = if i = y then A (13 + k) else A (143 + 20 + 8 * i + k) := fun i k hi hk => by
      rw [up2_row (by omega)]
      by_cases z : i = y
      · rw [if_pos z, z, cpR_in hk]
      · rw [if_neg z, cpR_row (by omega)]
    have h144 : ∀ i, up2 (cpR A (143 + 20 + 8 * y) 13 8) 144 y 1 144 i = if i = y then 1 else A 144 i := fun i => by rw [up2_q, upd_at, cpR_row (by omega)]
    have hB : ∀ k, k ≠ 187 → k ≠ 188 → cgK (up2 B 188 y 1) 187 184 0 (128 * y) 128 k = B k := fun k k1 k2 => by rw [cgK_ne k1, up2_row k2]
    have h188 : ∀ i, cgK (up2 B 188 y 1) 187 184 0 (128 * y) 128 188 i = if i = y then 1 else B 188 i := fun i => by rw [cgK_ne (by decide), up2_q, upd_at]
    have h187 : ∀ i j, j < 128 → cgK (up2 B 188 y 1) 187 184 0 (128 * y) 128 187 (128 * i + j) = if i = y then B 184 j else B 187 (128 * i + j) := fun i j hj => by
      unfold cgK va_up
      rw [if_pos rfl]
      by_cases z : i = y
      · rw [if_pos (by omega), if_pos z, z, up2_row (by decide), show 0 + (128 * y + j - 128 * y) = j by omega]
      · rw [if_neg (by omega), if_neg z, up2_row (by decide)]
    generalize up2 (cpR A (143 + 20 + 8 * y) 13 8) 144 y 1 = A' at *
    generalize cgK (up2 B 188 y 1) 187 184 0 (128 * y) 128 = B' at *
    have b9 := hB 179 (by decide) (by decide)
    refine ⟨rT_cg (by rw [hrow 1 (by omega) (by omega)]) (hrow 2 (by omega) (by omega)) (by rw [b9]) (hB 180 (by decide) (by decide)) h.1,
     rP_cg (fun k k1 k2 => hrow k (by omega) (by omega)) (by rw [b9]) (by rw [b9]) (fun k hk => hB k (by omega) (by omega)) h.2.1,
     rN_cg (fun k k1 k2 => hrow k (by omega) (by omega)) (by rw [b9]) (hB 184 (by decide) (by decide)) h.2.2.1,
     rH_cg (by rw [hrow 29 (by omega) (by omega)]) (by rw [hrow 29 (by omega) (by omega)]) (fun k k1 k2 => hrow k (by omega) (by omega)) (by rw [b9]) (by rw [b9]) (by rw [b9]) (hB 186 (by decide) (by decide)) h.2.2.2.1, ?_,
     rV_cg (by rw [hrow 145 (by omega) (by omega)]) (hrow 146 (by omega) (by omega)) (hrow 147 (by omega) (by omega)) (by rw [b9]) (hB 189 (by decide) (by decide)) (hB 190 (by decide) (by decide)) h.2.2.2.2.2⟩
    obtain ⟨hs, hk⟩ := h.2.2.2.2.1
    unfold rK
    rw [b9]
    refine ⟨fun i hi => ?_, fun i hi => ?_⟩
    · have r0 := hrow2 i 0 hi (by omega)
      have r1 := hrow2 i 1 hi (by omega)
      by_cases z : i = y
      · rw [if_pos z] at r0 r1
        exact wfSt_cp r0 r1 (SR_wfSt h.2.2.1)
      · rw [if_neg z] at r0 r1
        exact wfSt_cp r0 r1 (hs i hi)
    · rw [h144, h188]
      by_cases z : i = y
      · rw [if_pos z, if_pos z]
        refine ⟨rfl, fun _ => SR_cp (fun k hk => by rw [hrow2 i k hi hk, if_pos z]) (fun j hj => by rw [h187 i j hj, if_pos z]) h.2.2.1⟩
      · rw [if_neg z, if_neg z]
        refine ⟨(hk i hi).1, fun hc => SR_cp (fun k hk => by rw [hrow2 i k hi hk, if_neg z]) (fun j hj => by rw [h187 i j hj, if_neg z]) ((hk i hi).2 hc)⟩
  · rw [if_neg c, if_neg (fun w => c (sl_ix.mp w))]
    exact ⟨rfl, h⟩
theorem c_again {A B : Nat → Nat → Int32} (h : Rel A B) (q : Int32) : (xagain A q).1 = (yagain B q).1 ∧ Rel (xagain A q).2 (yagain B q).2 := by
  unfold xagain yagain
  by_cases c : inP q 0 1
  · rw [if_pos c, if_pos (sl_ix.mpr c)]
    have hx : tn q < 2 := tn_lt (M := 2) (k := 2) rfl (by decide) (sl_ix.mpr c).1 (sl_ix.mpr c).2
    obtain ⟨hs, hk⟩ := h.2.2.2.2.1
    have hq := hk _ hx
    by_cases c0 : A 144 (tn q) = 0
    · rw [if_pos c0, if_pos (by rw [← hq.1]; exact c0)]
      exact ⟨rfl, h⟩
    · rw [if_neg c0, if_neg (by rw [← hq.1]; exact c0)]
      have hS := hq.2 c0
      show A (143 + 20 + 8 * tn q) 6 = B 187 (128 * tn q + 127) ∧ Rel (up2 (cpR A 13 (143 + 20 + 8 * tn q) 8) 29 2 0) (up2 (cgK B 184 187 (128 * tn q) 0 128) 179 9 0)
      refine ⟨hS.1.2.2.2.2.1.2.2, ?_⟩
      generalize tn q = y at *
      have hrow : ∀ k, (k < 13 ∨ 21 ≤ k) → k ≠ 29 → up2 (cpR A 13 (143 + 20 + 8 * y) 8) 29 2 0 k = A k := fun k k1 k2 => by rw [up2_row k2, cpR_row (by omega)]
      have hnow : ∀ k, k < 8 → up2 (cpR A 13 (143 + 20 + 8 * y) 8) 29 2 0 (13 + k) = A (143 + 20 + 8 * y + k) := fun k hk => by rw [up2_row (by omega), cpR_in hk]
      have a1 : up2 (cpR A 13 (143 + 20 + 8 * y) 8) 29 2 0 29 1 = A 29 1 := by rw [up2_ne (Or.inr (by decide)), cpR_row (by omega)]
      have a2 : up2 (cpR A 13 (143 + 20 + 8 * y) 8) 29 2 0 29 2 = 0 := up2_same _ _ _ _
      have hB : ∀ k, k ≠ 184 → k ≠ 179 → up2 (cgK B 184 187 (128 * y) 0 128) 179 9 0 k = B k := fun k k1 k2 => by rw [up2_row k2, cgK_ne k1]
      have h9 : ∀ j, j ≠ 9 → up2 (cgK B 184 187 (128 * y) 0 128) 179 9 0 179 j = B 179 j := fun j hj => by rw [up2_ne (Or.inr hj), cgK_ne (by decide)]
      have c9 : up2 (cgK B 184 187 (128 * y) 0 128) 179 9 0 179 9 = 0 := up2_same _ _ _ _
      have h84 : ∀ j, j < 128 → up2 (cgK B 184 187 (128 * y) 0 128) 179 9 0 184 j = B 187 (128 * y + j) := fun j hj => by
        rw [up2_row (by decide)]; unfold cgK va_up; rw [if_pos rfl, if_pos (by omega), show j - 0 = j by omega]
      generalize up2 (cpR A 13 (143 + 20 + 8 * y) 8) 29 2 0 = A' at *
      generalize up2 (cgK B 184 187 (128 * y) 0 128) 179 9 0 = B' at *
      refine ⟨rT_cg (by rw [hrow 1 (by omega) (by omega)]) (hrow 2 (by omega) (by omega)) (h9 1 (by decide)) (hB 180 (by decide) (by decide)) h.1,
       rP_cg (fun k k1 k2 => hrow k (by omega) (by omega)) (h9 2 (by decide)) (h9 17 (by decide)) (fun k hk => hB k (by omega) (by omega)) h.2.1, ?_, ?_,
       rK_cg (hrow 144 (by omega) (by omega)) (fun k k1 k2 => hrow k (by omega) (by omega)) (h9 2 (by decide)) (hB 187 (by decide) (by decide)) (hB 188 (by decide) (by decide)) h.2.2.2.2.1,
       rV_cg (by rw [hrow 145 (by omega) (by omega)]) (hrow 146 (by omega) (by omega)) (hrow 147 (by omega) (by omega)) (h9 15 (by decide)) (hB 189 (by decide) (by decide)) (hB 190 (by decide) (by decide)) h.2.2.2.2.2⟩
      · unfold rN
        rw [h9 2 (by decide)]
        exact SR_cp hnow h84 hS
      · obtain ⟨e1, e2, h1r, h2r, hst, hd⟩ := h.2.2.2.1
        unfold rH
        rw [a1, a2, c9, h9 10 (by decide)]
        exact ⟨e1, rfl, h1r, by decide, fun i hi => wfSt_cp (hrow _ (by omega) (by omega)) (hrow _ (by omega) (by omega)) (hst i hi), fun d k1 k2 => absurd k2 (by rw [show tn (0 : Int32) = 0 from rfl]; omega)⟩
  · rw [if_neg c, if_neg (fun w => c (sl_ix.mp w))]
    exact ⟨rfl, h⟩
