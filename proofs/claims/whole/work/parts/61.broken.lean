theorem hasX_Y {A B : Nat → Nat → Int32} (hp : A 3 4 = B 179 2) (p : Int32) : hasX A p ↔ hasY B p := by unfold hasX hasY; rw [hp]
theorem q_broken {A B : Nat → Nat → Int32} {n : Nat} (hN : wfN B) (hp : A 3 4 = B 179 2) (h : stR A 13 (B 184) n) (p w : Int32) : xbroken A p w = ybroken B p w := by
  have e := hasX_Y hp p
  unfold xbroken ybroken
  by_cases hh : hasY B p
  · rw [if_pos hh, if_pos (e.mpr hh)]
    have hb : brp A 18 (B 184) (tn p) := h.2.2.1 _ (hY16 hN hh).2
    by_cases cw : w < 0 ∨ ¬ w < 6
    · rw [if_pos cw, if_neg (fun z => by rw [z] at cw; revert cw; decide), if_neg (fun z => by rw [z] at cw; revert cw; decide), if_neg (fun z => by rw [z] at cw; revert cw; decide), if_neg (fun z => by rw [z] at cw; revert cw; decide), if_neg (fun z => by rw [z] at cw; revert cw; decide), if_neg (fun z => by rw [z] at cw; revert cw; decide)]
    · rw [if_neg cw]
      obtain ⟨j, hj, rfl⟩ := nI_of (fun z => cw (Or.inl z))
      have hj6 : j < 6 := (nI_ltI (b := 6) hj (by decide)).mp (Decidable.byContradiction (fun z => cw (Or.inr z)))
      rw [tn_nI hj]
      obtain ⟨h1, h2, h3, h4⟩ := hb
      rcases (show j = 0 ∨ j = 1 ∨ j = 2 ∨ j = 3 ∨ j = 4 ∨ j = 5 by omega) with rfl | rfl | rfl | rfl | rfl | rfl
      · rw [if_pos (by decide)]; exact h1
      · rw [if_neg (by decide), if_pos (by decide)]
        by_cases c0 : B 184 (26 + tn p) = 0
        · rw [if_pos (Or.inl c0)]; exact (h3 c0).1
        · by_cases c9 : B 184 (42 + tn p) = -9
          · rw [if_pos (Or.inr c9), ← c9]; exact (h4 c0).1
          · rw [if_neg (fun z => z.elim c0 c9)]; exact (h4 c0).1
      · rw [if_neg (by decide), if_neg (by decide), if_pos (by decide)]
        by_cases c0 : B 184 (26 + tn p) = 0
        · rw [if_pos (Or.inl c0)]; exact (h3 c0).2.1
        · by_cases c9 : B 184 (42 + tn p) = -9
          · rw [if_pos (Or.inr c9)]; exact ((h4 c0).2.1 c9).1
          · rw [if_neg (fun z => z.elim c0 c9)]; exact ((h4 c0).2.2.1 c9).2.1
      · rw [if_neg (by decide), if_neg (by decide), if_neg (by decide), if_pos (by decide)]
        by_cases c0 : B 184 (26 + tn p) = 0
        · rw [if_pos (Or.inl c0)]; exact (h3 c0).2.2.1
        · by_cases c9 : B 184 (42 + tn p) = -9
          · rw [if_pos (Or.inr c9)]; exact ((h4 c0).2.1 c9).2
          · rw [if_neg (fun z => z.elim c0 c9)]; exact ((h4 c0).2.2.1 c9).2.2
      · rw [if_neg (by decide), if_neg (by decide), if_neg (by decide), if_neg (by decide), if_pos (by decide)]
        by_cases c0 : B 184 (26 + tn p) = 0
        · rw [if_pos c0]; exact (h3 c0).2.2.2.1
        · rw [if_neg c0]; exact (h4 c0).2.2.2.1
      · rw [if_neg (by decide), if_neg (by decide), if_neg (by decide), if_neg (by decide), if_neg (by decide), if_pos (by decide)]
        by_cases c0 : B 184 (26 + tn p) = 0
        · rw [if_pos c0]; exact (h3 c0).2.2.2.2
        · rw [if_neg c0]; exact (h4 c0).2.2.2.2
  · rw [if_neg hh, if_neg (fun z => hh (e.mp z))]
/-- the sets of armed places -/
theorem co_rel {A B : Nat → Nat → Int32} {n : Nat} (h : stR A 13 (B 184) n) : ∀ (m p : Nat) (x : Int32), p + m ≤ 16 → armL A 18 m p x = coL B m p x
  | 0, _, _, _ => rfl
  | m + 1, p, x, hpm => by
    have hb : brp A 18 (B 184) p := h.2.2.1 _ (by omega)
    rw [armL, coL, hb.1]
    by_cases c : 0 < B 184 (26 + p)
    · rw [if_pos c, if_pos c]; exact co_rel h m (p + 1) _ (by omega)
    · rw [if_neg c, if_neg c, show x ||| (0 : Int32) = x from by simp]; exact co_rel h m (p + 1) _ (by omega)
theorem arm_end {A B : Nat → Nat → Int32} {n : Nat} (h : stR A 13 (B 184) n) : ∀ (m p : Nat) (x : Int32), n ≤ p → p + m ≤ 16 → armL A 18 m p x = x
  | 0, _, _, _, _ => rfl
  | m + 1, p, x, hn, hpm => by
    have hb : brp A 18 (B 184) p := h.2.2.1 _ (by omega)
    rw [armL, hb.1, if_neg (by rw [h.2.2.2.1 p hn (by omega)]; decide)]
    exact arm_end h m (p + 1) x (by omega) (by omega)
theorem arm_split (A : Nat → Nat → Int32) (k : Nat) : ∀ (m p : Nat) (x : Int32), armL A 18 (m + k) p x = armL A 18 k (p + m) (armL A 18 m p x)
  | 0, p, x => by rw [Nat.zero_add, Nat.add_zero, armL]
  | m + 1, p, x => by rw [show m + 1 + k = (m + k) + 1 by omega, armL, arm_split A k m (p + 1) _, armL, show p + 1 + m = p + (m + 1) by omega]
theorem q_counted {A B : Nat → Nat → Int32} (hN : wfN B) (h : stR A 13 (B 184) (tn (B 179 2))) : armSetF A 18 = coF B := by
  have h16 := tn_16 hN.1 hN.2
  unfold armSetF coF
  rw [show (16 : Nat) = tn (B 179 2) + (16 - tn (B 179 2)) by omega, arm_split, arm_end h _ _ _ (by omega) (by omega)]
  exact co_rel h _ _ _ (by omega)
