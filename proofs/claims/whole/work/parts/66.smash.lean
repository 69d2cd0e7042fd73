/-- a breakpoint is laid at x -/
theorem brR_add {A : Nat → Nat → Int32} {b : Nat} {g : Nat → Int32} (hb : brR A b g) {x : Nat} (hx : x < 16) (h3 : ¬ g (26 + x) = 3) {r how f by_ : Int32} (hr : r = -9 ∨ (¬ r < 0 ∧ ¬ 4 ≤ r)) : brR (addS A b x r how f by_) b (upd (upd (upd (upd (upd (upd g (106 + x) (if 0 < g (26 + x) then g (106 + x) else 0)) (26 + x) (g (26 + x) + 1)) (42 + x) r) (58 + x) how) (74 + x) f) (90 + x) by_) := by
  intro p hp
  have h := hb p hp
  by_cases z : p = x
  · subst z
    obtain ⟨h1, h2, hz, hn⟩ := h
    have e26 : ¬ g (26 + p) + 1 = 0 ∧ (¬ g (26 + p) + 1 < 0 ∧ ¬ 3 < g (26 + p) + 1) := by
      obtain ⟨k, hk, e⟩ := nI_of h2.1
      rw [e] at h2 h3 ⊢
      have k3 : k ≤ 3 := Nat.le_of_not_lt (fun w => h2.2 (nI_lt (a := 3) w hk))
      have kn : k ≠ 3 := fun w => h3 (by rw [w]; rfl)
      rcases (show k = 0 ∨ k = 1 ∨ k = 2 by omega) with rfl | rfl | rfl <;> decide
    have h106 : A (b + 1) (6 * p + 5) = if 0 < g (26 + p) then g (106 + p) else 0 := by
      by_cases c : g (26 + p) = 0
      · rw [if_neg (by rw [c]; decide)]; exact (hz c).2.2.2.2
      · rw [if_pos ((pos_ne h2.1).mpr c)]; exact (hn c).2.2.2.2
    unfold brp addS
    refine ⟨?_, ?_, ?_, fun _ => ⟨?_, ?_, ?_, ?_, ?_⟩⟩
    · simp [up2_at, upd_at, h1]
    · simpa [upd_at] using e26.2
    · intro w; exact absurd (by simpa [upd_at] using w) e26.1
    · simp [up2_at, upd_at]
    · intro w
      have w2 : r = -9 := by simpa [upd_at] using w
      simp [up2_at, w2]
    · intro w
      have w2 : ¬ r = -9 := by simpa [upd_at] using w
      have := hr.resolve_left w2
      simp [up2_at, upd_at, w2, this]
    · simp [up2_at, upd_at]
    · simp [up2_at, upd_at, h106]
  · have hA : ∀ j, j < 6 → addS A b x r how f by_ (b + 1) (6 * p + j) = A (b + 1) (6 * p + j) := fun j hj => by
      unfold addS
      rw [up2_ne (Or.inr (by omega)), up2_ne (Or.inr (by omega)), up2_ne (Or.inr (by omega)), up2_ne (Or.inr (by omega)), up2_ne (Or.inr (by omega))]
    have hg : ∀ k, k < 6 → upd (upd (upd (upd (upd (upd g (106 + x) (if 0 < g (26 + x) then g (106 + x) else 0)) (26 + x) (g (26 + x) + 1)) (42 + x) r) (58 + x) how) (74 + x) f) (90 + x) by_ (26 + 16 * k + p) = g (26 + 16 * k + p) := fun k hk => by
      rw [upd_at, if_neg (by omega), upd_at, if_neg (by omega), upd_at, if_neg (by omega), upd_at, if_neg (by omega), upd_at, if_neg (by omega), upd_at, if_neg (by omega)]
    have a0 : addS A b x r how f by_ (b + 1) (6 * p) = A (b + 1) (6 * p) := hA 0 (by omega)
    have g0 := hg 0 (by omega)
    have g1 := hg 1 (by omega)
    have g2 := hg 2 (by omega)
    have g3 := hg 3 (by omega)
    have g4 := hg 4 (by omega)
    have g5 := hg 5 (by omega)
    simp only [Nat.mul_zero, Nat.add_zero, Nat.mul_one, Nat.reduceMul, Nat.reduceAdd] at g0 g1 g2 g3 g4 g5
    unfold brp
    rw [a0, hA 1 (by omega), hA 2 (by omega), hA 3 (by omega), hA 4 (by omega), hA 5 (by omega), g0, g1, g2, g3, g4, g5]
    exact h
