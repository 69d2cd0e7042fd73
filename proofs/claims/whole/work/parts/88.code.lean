/-- a state that begins stands as an empty row says -/
theorem SR_begin {A : Nat → Nat → Int32} {s n : Nat} {g : Nat → Int32} (h0 : A s = fun _ => 0) (h1 : A (s + 1) = fun _ => 0) (h2 : A (s + 2) = fun _ => 0) (h3 : A (s + 3) = fun _ => 0) (h6 : A (s + 6) = disRow) (hg : ∀ j, j < 128 → g j = 0) : SR A s g n := by
  refine ⟨⟨⟨fun r hr => ?_, fun c hc => ?_, fun d hd => ?_, ?_, ?_, ?_, ?_, ?_⟩, ⟨?_, ?_, fun j hj => ?_⟩, fun p hp => ?_, fun p p1 p2 => hg _ (by omega), ⟨?_, ?_, ?_⟩, 0, by decide, by rw [hg 25 (by omega)]; rfl⟩, ⟨?_, ?_, fun a ha hc => absurd (hg _ (by omega)) hc⟩, Or.inl (by rw [h1])⟩
  · show A (s + 2) r = _
    rw [h2, hg r (by omega)]
  · show A (s + 3) c = _
    rw [h3, hg _ (by omega)]
  · rw [hg 20 (by omega)] at hd; exact absurd hd (by rw [show tn (0 : Int32) = 0 from rfl]; omega)
  · rw [h1, hg 20 (by omega)]
  · rw [h1, hg 21 (by omega)]
  · rw [h1, hg 22 (by omega)]
  · rw [h1, hg 23 (by omega)]
  · rw [h1, hg 24 (by omega)]
  · rw [h0, hg 122 (by omega)]
  · rw [hg 122 (by omega)]; decide
  · rw [hg 122 (by omega)] at hj; exact absurd hj (by rw [show tn (0 : Int32) = 0 from rfl]; omega)
  · unfold brp
    have e6 : A (s + 5 + 1) = disRow := h6
    have hd := dis_k p
    rw [e6, hg (26 + p) (by omega), hd.1]
    exact ⟨rfl, by decide, fun _ => hd.2, fun w => absurd rfl w⟩
  · rw [h0, hg 25 (by omega)]
  · rw [h0, hg 126 (by omega)]
  · rw [h0, hg 127 (by omega)]
  · rw [hg 20 (by omega)]; decide
  · rw [hg 122 (by omega)]; decide
theorem c_code {A B : Nat → Nat → Int32} (h : Rel A B) : (xcode A).1 = (ycode B).1 ∧ Rel (xcode A).2 (ycode B).2 := by
  obtain ⟨r1, -⟩ := rf_rel (r := 8) (by decide) (Rel_tx h)
  unfold xcode ycode
  by_cases c : (rtF B).1 = -9
  · rw [if_pos c, if_pos (by rw [r1]; exact c)]
    have hA1 : ∀ k, (k < 8 ∨ 13 ≤ k) → (rdF A 8).2 k = A k := fun k hk => rdF_row (by omega)
    have htx : txR (rdF A 8).2 B (tn (A 1 1)) := by
      have := Rel_tx h
      unfold txR
      rw [hA1 1 (by omega), hA1 2 (by omega)]
      exact this
    obtain ⟨q1, q2⟩ := rf_rel (r := 3) (by decide) htx
    obtain ⟨n, n16, n1, n2, hp⟩ := q2 (by rw [q1]; exact c)
    have hA3 : ∀ k, (k < 3 ∨ (13 ≤ k)) → (rdF (rdF A 8).2 3).2 k = A k := fun k hk => by rw [rdF_row (by omega), hA1 k (by omega)]
    generalize (rdF (rdF A 8).2 3).2 = A3 at *
    have hT : ∀ k i, k < 194 → (k ≠ 179 ∨ (i ≠ 22 ∧ i ≠ 23 ∧ i ≠ 27)) → (rtF B).2 k i = B k i := fun k i hk hi => rtF_fr hk hi
    generalize (rtF B).2 = T at *
    show A3 3 4 = T 179 23 ∧ Rel (esS (up2 (sbeg A3 13) 29 2 0) 2) (coE (coB T) (tn (T 179 23)))
    have en : tn (T 179 23) = n := by rw [n2, tn_nI (by omega)]
    rw [en]
    refine ⟨by rw [n1, n2], ?_⟩
    have ar : ∀ k, (k < 13 ∨ 21 ≤ k) → k ≠ 29 → k ≠ 144 → esS (up2 (sbeg A3 13) 29 2 0) 2 k = A3 k := fun k k1 k2 k3 => by rw [esS_row k3, up2_row k2, sbeg_row (by omega)]
    have as : ∀ k, 13 ≤ k → k < 21 → esS (up2 (sbeg A3 13) 29 2 0) 2 k = sbeg A3 13 k := fun k k1 k2 => by rw [esS_row (by omega), up2_row (by omega)]
    have a291 : esS (up2 (sbeg A3 13) 29 2 0) 2 29 1 = A 29 1 := by rw [esS_row (by decide), up2_ne (Or.inr (by decide)), sbeg_row (by omega), hA3 29 (by omega)]
    have a292 : esS (up2 (sbeg A3 13) 29 2 0) 2 29 2 = 0 := by rw [esS_row (by decide), up2_same]
    have a144 : ∀ j, j < 2 → esS (up2 (sbeg A3 13) 29 2 0) 2 144 j = 0 := fun j hj => by unfold esS va_up; rw [if_pos rfl, if_pos hj]
    have b9 : ∀ j, j ≠ 2 → j ≠ 9 → coE (coB T) n 179 j = T 179 j := fun j j1 j2 => by
      unfold coE coB
      rw [up2_ne (Or.inl (by decide)), up2_ne (Or.inl (by decide)), up2_ne (Or.inr j2), caK_ne (by decide), up2_ne (Or.inr j1), row_up (by decide)]
    have b2 : coE (coB T) n 179 2 = nI n := by
      unfold coE coB
      rw [up2_ne (Or.inl (by decide)), up2_ne (Or.inl (by decide)), up2_ne (Or.inr (by decide)), caK_ne (by decide), up2_same, n2]
    have b99 : coE (coB T) n 179 9 = 0 := by
      unfold coE; rw [up2_ne (Or.inl (by decide)), up2_ne (Or.inl (by decide)), up2_same]
    have br : ∀ k, k ≠ 179 → k ≠ 181 → k ≠ 182 → k ≠ 183 → k ≠ 184 → k ≠ 188 → coE (coB T) n k = T k := fun k k1 k2 k3 k4 k5 k6 => by
      unfold coE coB
      rw [up2_row k6, up2_row k6, up2_row k1, caK_ne ⟨k2, k3, k4⟩, up2_row k1, row_up k5]
    have b84 : ∀ j, coE (coB T) n 184 j = 0 := fun j => by
      unfold coE coB
      rw [up2_row (by decide), up2_row (by decide), up2_row (by decide), caK_ne (by decide), up2_row (by decide)]
      unfold va_up; rw [if_pos rfl]
    have b88 : ∀ j, j < 2 → coE (coB T) n 188 j = 0 := fun j hj => by
      unfold coE
      by_cases z : j = 1
      · rw [z, up2_same]
      · rw [up2_ne (Or.inr z), show j = 0 by omega, up2_same]
    have b8x : ∀ k j, (k = 181 ∨ k = 182 ∨ k = 183) → j < n → coE (coB T) n k j = T (k + 13) j := fun k j hk hj => by
      unfold coE
      rw [up2_ne (Or.inl (by omega)), up2_ne (Or.inl (by omega)), up2_ne (Or.inl (by omega))]
      unfold caK
      rw [if_pos ⟨hk, hj⟩]
      unfold coB
      rw [up2_ne (Or.inl (by omega)), row_up (by omega)]
    generalize esS (up2 (sbeg A3 13) 29 2 0) 2 = A' at *
    generalize coE (coB T) n = B' at *
    have tB : ∀ k i, k < 194 → (k ≠ 179 ∨ (i ≠ 22 ∧ i ≠ 23 ∧ i ≠ 27)) → T k i = B k i := hT
    have rB : ∀ k, k < 194 → k ≠ 179 → T k = B k := fun k k1 k2 => funext (fun i => tB k i k1 (Or.inl k2))
    have tn2 : tn (B' 179 2) = n := by rw [b2, tn_nI (by omega)]
    refine ⟨rT_cg ?_ ?_ ?_ ?_ h.1, ⟨⟨?_, fun p hpn => ?_⟩, ⟨?_, fun p hpn => ?_⟩, ?_⟩, ?_, ?_, ?_, rV_cg ?_ ?_ ?_ ?_ ?_ ?_ h.2.2.2.2.2⟩
    · rw [ar 1 (by omega) (by omega) (by omega), hA3 1 (by omega)]
    · rw [ar 2 (by omega) (by omega) (by omega), hA3 2 (by omega)]
    · rw [b9 1 (by decide) (by decide), tB 179 1 (by decide) (by decide)]
    · rw [br 180 (by decide) (by decide) (by decide) (by decide) (by decide) (by decide), rB 180 (by decide) (by decide)]
    · rw [ar 3 (by omega) (by omega) (by omega), n1, b2]
    · rw [tn2] at hpn
      obtain ⟨⟨k1, k2, k3, k4, k5⟩, -⟩ := hp p hpn
      rw [ar (3 + 1) (by omega) (by omega) (by omega), ar (3 + 2) (by omega) (by omega) (by omega), ar (3 + 3) (by omega) (by omega) (by omega), ar (3 + 4) (by omega) (by omega) (by omega), b8x 181 p (by omega) hpn, b8x 182 p (by omega) hpn, b8x 183 p (by omega) hpn]
      refine ⟨k1, k2, k3, k4, ?_⟩
      rw [k5]
      exact la_loc p (fun j hj => ⟨(b8x 181 j (by omega) (by omega)).symm, (b8x 182 j (by omega) (by omega)).symm, (b8x 183 j (by omega) (by omega)).symm⟩) p _ (Nat.le_refl _)
    · unfold wfN
      rw [b2]
      exact ⟨nI_pos (by omega), fun w => by have := (nI_ltI (a := 16) (by decide) (by omega)).mp w; omega⟩
    · rw [tn2] at hpn
      rw [b8x 181 p (by omega) hpn, b8x 182 p (by omega) hpn, b8x 183 p (by omega) hpn]
      exact (hp p hpn).2
    · rw [b9 17 (by decide) (by decide), tB 179 17 (by decide) (by decide)]; exact h.2.1.2.2
    · refine SR_begin ?_ ?_ ?_ ?_ ?_ (fun j _ => b84 j)
      · rw [as 13 (by omega) (by omega)]; rfl
      · rw [as (13 + 1) (by omega) (by omega)]; rfl
      · rw [as (13 + 2) (by omega) (by omega)]; rfl
      · rw [as (13 + 3) (by omega) (by omega)]; rfl
      · rw [as (13 + 6) (by omega) (by omega)]; rfl
    · obtain ⟨e1, e2, h1r, h2r, hst, hd⟩ := h.2.2.2.1
      unfold rH
      rw [a291, a292, b99, b9 10 (by decide) (by decide), tB 179 10 (by decide) (by decide)]
      exact ⟨e1, rfl, h1r, by decide, fun i hi => wfSt_cp (by rw [ar _ (by omega) (by omega) (by omega), hA3 _ (by omega)]) (by rw [ar _ (by omega) (by omega) (by omega), hA3 _ (by omega)]) (hst i hi), fun d k1 k2 => absurd k2 (by rw [show tn (0 : Int32) = 0 from rfl]; omega)⟩
    · obtain ⟨hs, hk⟩ := h.2.2.2.2.1
      refine ⟨fun i hi => wfSt_cp (by rw [ar _ (by omega) (by omega) (by omega), hA3 _ (by omega)]) (by rw [ar _ (by omega) (by omega) (by omega), hA3 _ (by omega)]) (hs i hi), fun q hq => ?_⟩
      rw [a144 q hq, b88 q hq]
      exact ⟨rfl, fun w => absurd rfl w⟩
    · rw [ar 145 (by omega) (by omega) (by omega), hA3 145 (by omega)]
    · rw [ar 146 (by omega) (by omega) (by omega), hA3 146 (by omega)]
    · rw [ar 147 (by omega) (by omega) (by omega), hA3 147 (by omega)]
    · rw [b9 15 (by decide) (by decide), tB 179 15 (by decide) (by decide)]
    · rw [br 189 (by decide) (by decide) (by decide) (by decide) (by decide) (by decide), rB 189 (by decide) (by decide)]
    · rw [br 190 (by decide) (by decide) (by decide) (by decide) (by decide) (by decide), rB 190 (by decide) (by decide)]
  · rw [if_neg c, if_neg (by rw [r1]; exact c)]
    exact ⟨rfl, Rel_rd h⟩
