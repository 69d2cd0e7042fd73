theorem ls_6 : ∀ (m p : Nat) (A : Nat → Nat → Int32), lsL m p 6 A = A
  | 0, _, _ => rfl
  | m + 1, p, A => by rw [lsL, if_neg (by decide)]
theorem ls_lp : ∀ (m p x : Nat) (A B : Nat → Nat → Int32) (pl : Nat → Nat), p + m = 16 → x ≤ 6 → A 153 7 = nI x → (∀ q, q < 16 → A 19 (6 * q) = B 184 (26 + q)) → (∀ j, j < x → A 158 j = nI (pl j) ∧ A 159 j = A 19 (6 * pl j + 4) ∧ B 192 j = nI (pl j) ∧ pl j < p ∧ 0 < B 184 (26 + pl j)) → (∀ i j, i < j → j < x → pl i < pl j) → (∀ q, q < p → 0 < B 184 (26 + q) → ∃ j, j < x ∧ pl j = q) → (lpL m p x B).1 ≤ 6 →
    ∃ pl' : Nat → Nat, lsL m p x A 153 7 = nI (lpL m p x B).1 ∧ (∀ j, j < (lpL m p x B).1 → lsL m p x A 158 j = nI (pl' j) ∧ lsL m p x A 159 j = A 19 (6 * pl' j + 4) ∧ (lpL m p x B).2 192 j = nI (pl' j) ∧ pl' j < 16 ∧ 0 < B 184 (26 + pl' j)) ∧ (∀ i j, i < j → j < (lpL m p x B).1 → pl' i < pl' j) ∧ (∀ q, q < 16 → 0 < B 184 (26 + q) → ∃ j, j < (lpL m p x B).1 ∧ pl' j = q)
  | 0, p, x, A, B, pl, hp, _, h7, _, h1, h2, h3, _ => by
    obtain rfl : p = 16 := by omega
    exact ⟨pl, h7, h1, h2, h3⟩
  | m + 1, p, x, A, B, pl, hp, hx6, h7, hc, h1, h2, h3, hf => by
    by_cases c : 0 < B 184 (26 + p)
    · rw [lpL, if_pos c] at hf ⊢
      have hpos := lp_pos m (p + 1) (x + 1) (up2 B 192 (if x < 6 then x else 5) (nI p))
      have hx : x < 6 := by omega
      rw [lsL, if_pos hx, if_pos (show 0 < A 19 (6 * p) from by rw [hc p (by omega)]; exact c)]
      rw [if_pos hx] at hf hpos ⊢
      have e84 : up2 B 192 x (nI p) 184 = B 184 := up2_row (by decide)
      have a19 : lsA A p x 19 = A 19 := by unfold lsA; rw [up2_row (by decide), up2_row (by decide), up2_row (by decide)]
      have a58 : ∀ j, lsA A p x 158 j = if j = x then nI p else A 158 j := fun j => by
        unfold lsA; rw [up2_ne (Or.inl (by decide)), up2_ne (Or.inl (by decide)), up2_q, upd_at]
      have a59 : ∀ j, lsA A p x 159 j = if j = x then A 19 (6 * p + 4) else A 159 j := fun j => by
        unfold lsA; rw [up2_ne (Or.inl (by decide)), up2_q, upd_at, up2_ne (Or.inl (by decide))]
      have b92 : ∀ j, up2 B 192 x (nI p) 192 j = if j = x then nI p else B 192 j := fun j => by rw [up2_q, upd_at]
      have ih := ls_lp m (p + 1) (x + 1) (lsA A p x) (up2 B 192 x (nI p)) (fun j => if j = x then p else pl j) (by omega) (by omega) (by unfold lsA; rw [up2_same]) (fun q hq => by rw [a19, e84]; exact hc q hq) (fun j hj => ?_) (fun i j hij hj => ?_) (fun q hq hb => ?_) hf
      · rw [a19, e84] at ih
        exact ih
      · show lsA A p x 158 j = nI (if j = x then p else pl j) ∧ lsA A p x 159 j = lsA A p x 19 (6 * (if j = x then p else pl j) + 4) ∧ up2 B 192 x (nI p) 192 j = nI (if j = x then p else pl j) ∧ (if j = x then p else pl j) < p + 1 ∧ 0 < up2 B 192 x (nI p) 184 (26 + (if j = x then p else pl j))
        rw [a58, a59, b92, a19, e84]
        by_cases z : j = x
        · simp only [if_pos z]
          exact ⟨trivial, trivial, trivial, by omega, c⟩
        · simp only [if_neg z]
          obtain ⟨q1, q2, q3, q4, q5⟩ := h1 j (by omega)
          exact ⟨q1, q2, q3, by omega, q5⟩
      · show (if i = x then p else pl i) < (if j = x then p else pl j)
        rw [if_neg (show ¬ i = x by omega)]
        by_cases z : j = x
        · rw [if_pos z]; exact (h1 i (by omega)).2.2.2.1
        · rw [if_neg z]; exact h2 i j hij (by omega)
      · rw [e84] at hb
        by_cases z : q = p
        · exact ⟨x, by omega, by show (if x = x then p else pl x) = q; rw [if_pos rfl, z]⟩
        · obtain ⟨j, j1, j2⟩ := h3 q (by omega) hb
          exact ⟨j, by omega, by show (if j = x then p else pl j) = q; rw [if_neg (by omega)]; exact j2⟩
    · rw [lpL, if_neg c] at hf ⊢
      have e : lsL (m + 1) p x A = lsL m (p + 1) x A := by
        by_cases hx : x < 6
        · rw [lsL, if_pos hx, if_neg (show ¬ 0 < A 19 (6 * p) from by rw [hc p (by omega)]; exact c)]
        · obtain rfl : x = 6 := by omega
          rw [ls_6, ls_6]
      rw [e]
      refine ls_lp m (p + 1) x A B pl (by omega) hx6 h7 hc (fun j hj => ?_) h2 (fun q hq hb => ?_) hf
      · obtain ⟨q1, q2, q3, q4, q5⟩ := h1 j hj
        exact ⟨q1, q2, q3, by omega, q5⟩
      · by_cases z : q = p
        · rw [z] at hb; exact absurd hb c
        · exact h3 q (by omega) hb
/-- the armed places of class and reference, listed -/
def plR (A B : Nat → Nat → Int32) (pl : Nat → Nat) : Prop := lsF A 153 7 = nI (lpF B).1 ∧ (∀ j, j < (lpF B).1 → lsF A 158 j = nI (pl j) ∧ lsF A 159 j = A 19 (6 * pl j + 4) ∧ (lpF B).2 192 j = nI (pl j) ∧ pl j < 16 ∧ 0 < B 184 (26 + pl j)) ∧ (∀ i j, i < j → j < (lpF B).1 → pl i < pl j) ∧ (∀ q, q < 16 → 0 < B 184 (26 + q) → ∃ j, j < (lpF B).1 ∧ pl j = q)
theorem pl_rel {A B : Nat → Nat → Int32} (h : Rel A B) (h6 : (lpF B).1 ≤ 6) : ∃ pl, plR A B pl := by
  unfold plR lsF
  rw [lpF_16 h] at h6 ⊢
  have e19 : up2 A 153 7 0 19 = A 19 := up2_row (by decide)
  have := ls_lp 16 0 0 (up2 A 153 7 0) B (fun _ => 0) rfl (by decide) (up2_same _ _ _ _) (fun q hq => by rw [e19]; exact ((Rel_S h).1.2.2.1 q hq).1) (fun j hj => absurd hj (by omega)) (fun i j _ hj => absurd hj (by omega)) (fun q hq => absurd hq (by omega)) h6
  rw [e19] at this
  exact this
theorem pl_ct {A B : Nat → Nat → Int32} {pl : Nat → Nat} (h : plR A B pl) (h6 : (lpF B).1 ≤ 6) : ctF A = (lpF B).1 := by unfold ctF; rw [h.1, tn_nI (by omega)]
theorem pl_inj {A B : Nat → Nat → Int32} {pl : Nat → Nat} (h : plR A B pl) {i j : Nat} (hi : i < (lpF B).1) (hj : j < (lpF B).1) (e : pl i = pl j) : i = j := by
  rcases Nat.lt_trichotomy i j with z | z | z
  · have := h.2.2.1 i j z hj; omega
  · exact z
  · have := h.2.2.1 j i z hi; omega
theorem ix_at {S : Nat → Nat → Int32} {v : Int32} : ∀ (m p j : Nat), p ≤ j → j < p + m → S 158 j = v → (∀ i, p ≤ i → i < j → ¬ S 158 i = v) → ixL S v m p = nI j
  | 0, p, j, h1, h2, _, _ => absurd h2 (by omega)
  | m + 1, p, j, h1, h2, h3, h4 => by
    rw [ixL]
    by_cases z : p = j
    · rw [z, if_pos h3]
    · rw [if_neg (h4 p (by omega) (by omega))]
      exact ix_at m (p + 1) j (by omega) (by omega) h3 (fun i a b => h4 i (by omega) b)
theorem sh_at {S : Nat → Nat → Int32} {v : Int32} : ∀ (m p j x : Nat), p ≤ j → j < p + m → S 192 j = v → (∀ i, p ≤ i → i < p + m → S 192 i = v → i = j) → shA S v m p x = j
  | 0, p, j, x, h1, h2, _, _ => absurd h2 (by omega)
  | m + 1, p, j, x, h1, h2, h3, h4 => by
    rw [shA]
    by_cases z : p = j
    · subst z
      rw [if_pos h3]
      clear h1 h2
      have : ∀ (m q : Nat), p < q → (∀ i, q ≤ i → i < q + m → ¬ S 192 i = v) → shA S v m q p = p := by
        intro m
        induction m with
        | zero => intro q _ _; rfl
        | succ m ih =>
          intro q hq hn
          rw [shA, if_neg (hn q (by omega) (by omega))]
          exact ih (q + 1) (by omega) (fun i a b => hn i (by omega) (by omega))
      exact this m (p + 1) (by omega) (fun i a b w => by have := h4 i (by omega) (by omega) w; omega)
    · exact sh_at m (p + 1) j _ (by omega) (by omega) h3 (fun i a b => h4 i (by omega) (by omega))
