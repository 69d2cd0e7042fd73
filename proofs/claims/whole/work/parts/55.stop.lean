/-- the place p of the breakpoints at b is the row's -/
def brp (A : Nat → Nat → Int32) (b : Nat) (g : Nat → Int32) (p : Nat) : Prop := A (b + 1) (6 * p) = g (26 + p) ∧ (¬ g (26 + p) < 0 ∧ ¬ 3 < g (26 + p)) ∧ (g (26 + p) = 0 → A (b + 1) (6 * p + 1) = -9 ∧ A (b + 1) (6 * p + 2) = -9 ∧ A (b + 1) (6 * p + 3) = -9 ∧ A (b + 1) (6 * p + 4) = 0 ∧ A (b + 1) (6 * p + 5) = 0) ∧ (¬ g (26 + p) = 0 → A (b + 1) (6 * p + 1) = g (42 + p) ∧ (g (42 + p) = -9 → A (b + 1) (6 * p + 2) = -9 ∧ A (b + 1) (6 * p + 3) = -9) ∧ (¬ g (42 + p) = -9 → (¬ g (42 + p) < 0 ∧ ¬ 4 ≤ g (42 + p)) ∧ A (b + 1) (6 * p + 2) = g (58 + p) ∧ A (b + 1) (6 * p + 3) = g (74 + p)) ∧ A (b + 1) (6 * p + 4) = g (90 + p) ∧ A (b + 1) (6 * p + 5) = g (106 + p))
def brR (A : Nat → Nat → Int32) (b : Nat) (g : Nat → Int32) : Prop := ∀ p, p < 16 → brp A b g p
/-- no place behind the program is broken -/
def brN (n : Nat) (g : Nat → Int32) : Prop := ∀ p, n ≤ p → p < 16 → g (26 + p) = 0
theorem pos_ne {x : Int32} (h : ¬ x < 0) : 0 < x ↔ ¬ x = 0 := ⟨fun z w => by rw [w] at z; exact absurd z (by decide), fun z => Int32.lt_of_le_of_ne (Int32.not_lt.mp h) (fun w => z w.symm)⟩
theorem arm_rel {A : Nat → Nat → Int32} {b : Nat} {g : Nat → Int32} {n : Nat} {N t : Int32} (hN : ¬ N < 0 ∧ ¬ 16 < N) (hn : tn N = n) (hb : brR A b g) (hz : brN n g) : armP A b t ↔ ((¬ t < 0 ∧ ¬ N ≤ t) ∧ ¬ g (26 + tn t) = 0) := by
  have h16 := tn_16 hN.1 hN.2
  unfold armP
  constructor
  · rintro ⟨h0, h1, h2⟩
    have ht := tn_lt (M := 16) (k := 16) rfl (by decide) h0 h1
    have hp := hb _ ht
    rw [hp.1, pos_ne hp.2.1.1] at h2
    refine ⟨⟨h0, fun h => h2 (hz _ ?_ ht)⟩, h2⟩
    rw [nI_self h0, nI_self hN.1] at h
    have := (nI_leI (show N.toNatClampNeg < 2147483648 by show tn N < _; omega) (show t.toNatClampNeg < 2147483648 by show tn t < _; omega)).mp h
    rw [← hn]; exact this
  · rintro ⟨⟨h0, h1⟩, h2⟩
    have ht : tn t < 16 := Nat.lt_of_lt_of_le (hasI h0 h1 hN.1) h16
    have hp := hb _ ht
    refine ⟨h0, fun h => ?_, by rw [hp.1, pos_ne hp.2.1.1]; exact h2⟩
    rw [nI_self h0] at h
    have := (nI_leI (a := 16) (by decide) (show t.toNatClampNeg < 2147483648 by show tn t < _; omega)).mp h
    have h3 : 16 ≤ tn t := this
    omega
theorem app_rel {A B : Nat → Nat → Int32} {b mq q : Nat} (hN : wfN B) (hb : brR A b (B q)) (hz : brN (tn (B 179 2)) (B q)) (hm : mcR A mq (B q)) : appP A b mq ↔ aplP B q (B q 21) := by
  have e4 : A mq 4 = B q 21 := hm.2.2.2.2.1
  have ha := arm_rel (t := B q 21) hN rfl hb hz
  unfold appP aplP
  rw [e4, ha]
  constructor
  · rintro ⟨⟨hh, hc⟩, h2⟩
    refine ⟨hh, hc, ?_⟩
    have hp := (hb _ (hY16 hN hh).2).2.2.2 hc
    by_cases hr : B q (42 + tn (B q 21)) = -9
    · exact Or.inl hr
    · right
      obtain ⟨hrg, e2, e3⟩ := hp.2.2.1 hr
      have hx := tn_lt (M := 4) (k := 4) rfl (by decide) hrg.1 hrg.2
      rw [hp.1, e2, e3, hm.1 _ hx] at h2
      have h3 := h2.resolve_left (fun z => z hrg)
      by_cases c0 : B q (58 + tn (B q 21)) = 0
      · rw [if_pos c0] at h3; exact Or.inl ⟨c0, h3⟩
      · rw [if_neg c0] at h3
        by_cases c1 : B q (58 + tn (B q 21)) = 1
        · rw [if_pos c1] at h3; exact Or.inr (Or.inl ⟨c0, c1, h3⟩)
        · rw [if_neg c1] at h3; exact Or.inr (Or.inr ⟨c0, c1, h3⟩)
  · rintro ⟨hh, hc, h2⟩
    refine ⟨⟨hh, hc⟩, ?_⟩
    have hp := (hb _ (hY16 hN hh).2).2.2.2 hc
    rw [hp.1]
    by_cases hr : B q (42 + tn (B q 21)) = -9
    · left; rw [hr]; decide
    · right
      obtain ⟨hrg, e2, e3⟩ := hp.2.2.1 hr
      have hx := tn_lt (M := 4) (k := 4) rfl (by decide) hrg.1 hrg.2
      rw [e2, e3, hm.1 _ hx]
      rcases h2.resolve_left hr with ⟨c0, h⟩ | ⟨c0, c1, h⟩ | ⟨c0, c1, h⟩
      · rw [if_pos c0]; exact h
      · rw [if_neg c0, if_pos c1]; exact h
      · rw [if_neg c0, if_neg c1]; exact h
/-- a number of the breakpoint at x is set: BY or HITS -/
theorem brR_set {A : Nat → Nat → Int32} {b : Nat} {g : Nat → Int32} (hb : brR A b g) {x : Nat} (hx : x < 16) (hc : ¬ g (26 + x) = 0) {k : Nat} (hk : k = 4 ∨ k = 5) (v : Int32) : brR (up2 A (b + 1) (6 * x + k) v) b (upd g (26 + 16 * k + x) v) := by
  intro p hp
  have h := hb p hp
  have g1 : ∀ j, j < 90 → upd g (26 + 16 * k + x) v j = g j := fun j hj => by rw [upd_at, if_neg (by omega)]
  have a1 : ∀ j, j < 4 → up2 A (b + 1) (6 * x + k) v (b + 1) (6 * p + j) = A (b + 1) (6 * p + j) := fun j hj => up2_ne (Or.inr (by omega))
  have a0 : up2 A (b + 1) (6 * x + k) v (b + 1) (6 * p) = A (b + 1) (6 * p) := a1 0 (by omega)
  unfold brp
  rw [a0, a1 1 (by omega), a1 2 (by omega), a1 3 (by omega), g1 _ (by omega), g1 _ (by omega), g1 _ (by omega), g1 _ (by omega)]
  obtain ⟨h1, h2, h3, h4⟩ := h
  by_cases z : p = x
  · subst z
    refine ⟨h1, h2, fun w => absurd w hc, fun w => ⟨(h4 w).1, (h4 w).2.1, (h4 w).2.2.1, ?_, ?_⟩⟩
    · rcases hk with rfl | rfl
      · rw [up2_same, upd_at, if_pos (by omega)]
      · rw [up2_ne (Or.inr (by omega)), upd_at, if_neg (by omega)]; exact (h4 w).2.2.2.1
    · rcases hk with rfl | rfl
      · rw [up2_ne (Or.inr (by omega)), upd_at, if_neg (by omega)]; exact (h4 w).2.2.2.2
      · rw [up2_same, upd_at, if_pos (by omega)]
  · rw [up2_ne (Or.inr (by omega)), up2_ne (Or.inr (by omega)), upd_at, if_neg (by omega), upd_at, if_neg (by omega)]
    exact ⟨h1, h2, h3, h4⟩
