theorem dis_k (p : Nat) : disRow (6 * p) = 0 ∧ disRow (6 * p + 1) = -9 ∧ disRow (6 * p + 2) = -9 ∧ disRow (6 * p + 3) = -9 ∧ disRow (6 * p + 4) = 0 ∧ disRow (6 * p + 5) = 0 := by
  unfold disRow
  refine ⟨if_neg (by omega), if_pos (by omega), if_pos (by omega), if_pos (by omega), if_neg (by omega), if_neg (by omega)⟩
/-- a breakpoint is lifted at x -/
theorem brR_lift {A : Nat → Nat → Int32} {b : Nat} {g : Nat → Int32} (hb : brR A b g) {x : Nat} (hx : x < 16) (h0 : ¬ g (26 + x) = 0) : brR (remS A b x) b (upd g (26 + x) (g (26 + x) - 1)) := by
  have hxx := hb x hx
  obtain ⟨k, hk, e⟩ := nI_of hxx.2.1.1
  have k3 : k ≤ 3 := Nat.le_of_not_lt (fun w => hxx.2.1.2 (by rw [e]; exact nI_lt (a := 3) w hk))
  have kn : k ≠ 0 := fun w => h0 (by rw [e, w]; rfl)
  intro p hp
  have h := hb p hp
  by_cases z : p = x
  · subst z
    obtain ⟨h1, h2, hz, hn⟩ := h
    unfold remS brp
    rw [h1]
    by_cases c : 1 < g (26 + p)
    · have kn1 : k ≠ 1 := fun w => by rw [e, w] at c; revert c; decide
      have e2 : ¬ g (26 + p) - 1 = 0 ∧ (¬ g (26 + p) - 1 < 0 ∧ ¬ 3 < g (26 + p) - 1) := by
        rw [e]; rcases (show k = 2 ∨ k = 3 by omega) with rfl | rfl <;> decide
      rw [if_pos c]
      refine ⟨?_, ?_, ?_, fun _ => ?_⟩
      · simp [up2_at, upd_at]
      · simpa [upd_at] using e2.2
      · intro w; exact absurd (by simpa [upd_at] using w) e2.1
      · have := hn h0
        simpa [up2_at, upd_at] using this
    · have k1 : k = 1 := by
        rcases (show k = 1 ∨ k = 2 ∨ k = 3 by omega) with w | w | w
        · exact w
        · exact absurd (by rw [e, w]; decide) c
        · exact absurd (by rw [e, w]; decide) c
      have e2 : g (26 + p) - 1 = 0 := by rw [e, k1]; decide
      have hd := dis_k p
      have hA : ∀ j, j < 6 → disS A b p (b + 1) (6 * p + j) = disRow (6 * p + j) := fun j hj => by
        unfold disS va_up; rw [if_pos rfl, if_pos (by omega)]
      have a0 : disS A b p (b + 1) (6 * p) = disRow (6 * p) := hA 0 (by omega)
      rw [if_neg c, e2]
      refine ⟨?_, ?_, fun _ => ?_, ?_⟩
      · rw [a0, hd.1, upd_at, if_pos rfl]
      · rw [upd_at, if_pos rfl]; decide
      · rw [hA 1 (by omega), hA 2 (by omega), hA 3 (by omega), hA 4 (by omega), hA 5 (by omega)]; exact hd.2
      · intro w; exact absurd (by rw [upd_at, if_pos rfl]) w
  · have hA : ∀ j, j < 6 → remS A b x (b + 1) (6 * p + j) = A (b + 1) (6 * p + j) := fun j hj => by
      unfold remS
      by_cases c : 1 < A (b + 1) (6 * x)
      · rw [if_pos c, up2_ne (Or.inr (by omega))]
      · rw [if_neg c]; unfold disS va_up; rw [if_pos rfl, if_neg (by omega)]
    have a0 : remS A b x (b + 1) (6 * p) = A (b + 1) (6 * p) := hA 0 (by omega)
    have hg : ∀ j, j ≠ 26 + x → upd g (26 + x) (g (26 + x) - 1) j = g j := fun j hj => by rw [upd_at, if_neg hj]
    unfold brp
    rw [a0, hA 1 (by omega), hA 2 (by omega), hA 3 (by omega), hA 4 (by omega), hA 5 (by omega), hg _ (by omega), hg (42 + p) (by omega), hg (58 + p) (by omega), hg (74 + p) (by omega), hg (90 + p) (by omega), hg (106 + p) (by omega)]
    exact h
