theorem q_aside {A B : Nat → Nat → Int32} {n : Nat} (hY : wfY B) (hR : wfR B 184) (hp : prR A 3 B) (h : stR A 13 (B 184) n) (a w : Int32) : xaside A a w = (yaside B a w).1 := by
  have e := hasX_Y hp.1 a
  unfold xaside yaside
  by_cases hh : hasY B a
  · rw [if_pos hh, if_pos (e.mpr hh)]
    have hlt := (hY16 hY.1 hh).1
    obtain ⟨hk, ek, -⟩ := hp.2 _ hlt
    have e3 : A 14 3 = B 184 20 := h.1.2.2.2.1
    have hd := df_tr hh
    have z8 : ¬ B 184 20 < 8 ↔ B 184 20 = 8 := ⟨fun h => Int32.le_antisymm (Int32.not_lt.mp hR.1.2) (Int32.not_lt.mp h), fun h => by rw [h]; decide⟩
    by_cases c0 : w = 0
    · rw [if_pos c0, if_pos c0, fo_rel hY hR hp h hh]
      by_cases c : dfP (trS B) 185 a
      · rw [if_pos c, if_pos c]
      · rw [if_neg c, if_neg c]
    rw [if_neg c0, if_neg c0]
    by_cases c1 : w = 1
    · rw [if_pos c1, if_pos c1]
      have ee : (A 4 (tn a) = 99 ∧ A 14 3 < 8) ↔ (B 181 (tn a) = 7 ∧ ¬ dfP (trS B) 185 a) := by
        rw [e3, ek, yk_7 hk, hd, ek, yk_7 hk, yk_8 hk]
        constructor
        · rintro ⟨k9, l8⟩
          refine ⟨k9, fun z => z.elim (fun y => z8.mpr y.2 l8) (fun y => ?_)⟩
          rw [k9] at y
          exact absurd y.1 (by decide)
        · rintro ⟨k9, z⟩
          exact ⟨k9, Decidable.byContradiction (fun y => z (Or.inl ⟨k9, z8.mp y⟩))⟩
      by_cases c : B 181 (tn a) = 7 ∧ ¬ dfP (trS B) 185 a
      · rw [if_pos c, if_pos (ee.mpr c)]
      · rw [if_neg c, if_neg (fun z => c (ee.mp z))]
    rw [if_neg c1, if_neg c1]
    by_cases c2 : w = 2
    · rw [if_pos c2, if_pos c2]
      have ee : A 4 (tn a) = 107 ↔ B 181 (tn a) = 9 := by rw [ek, yk_9 hk]
      by_cases c : B 181 (tn a) = 9
      · rw [if_pos c, if_pos (ee.mpr c)]
      · rw [if_neg c, if_neg (fun z => c (ee.mp z))]
    rw [if_neg c2, if_neg c2]
    by_cases c3 : w = 3
    · rw [if_pos c3, if_pos c3, ek]; exact cr_yco hk
    · rw [if_neg c3, if_neg c3]
  · rw [if_neg hh, if_neg (fun z => hh (e.mp z))]
