theorem shl_16 : ∀ p, p < 16 → (1 : Int32) <<< (nI p &&& 31) = nI (2 ^ p) := by decide +kernel
/-- the set of armed places as a number -/
def soN (g : Nat → Int32) : Nat → Nat → Nat → Nat
  | 0, _, w => w
  | m + 1, p, w => soN g m (p + 1) (if 0 < g (26 + p) then w ||| 2 ^ p else w)
theorem co_soN (S : Nat → Nat → Int32) : ∀ (m p w : Nat), p + m ≤ 16 → coL S m p (nI w) = nI (soN (S 184) m p w)
  | 0, p, w, _ => rfl
  | m + 1, p, w, h => by
    rw [coL, soN]
    by_cases c : 0 < S 184 (26 + p)
    · rw [if_pos c, if_pos c, shl_16 p (by omega), fa_or]
      exact co_soN S m (p + 1) _ (by omega)
    · rw [if_neg c, if_neg c, show nI w ||| (0 : Int32) = nI w from by simp]
      exact co_soN S m (p + 1) _ (by omega)
theorem soN_bits (g : Nat → Int32) : ∀ (m p w : Nat), p + m ≤ 16 → w < 2 ^ p → (∀ k, k < p → w.testBit k = decide (0 < g (26 + k))) → soN g m p w < 2 ^ (p + m) ∧ ∀ k, k < p + m → (soN g m p w).testBit k = decide (0 < g (26 + k))
  | 0, p, w, _, hw, hb => ⟨hw, hb⟩
  | m + 1, p, w, h, hw, hb => by
    rw [soN, show p + (m + 1) = p + 1 + m by omega]
    refine soN_bits g m (p + 1) _ (by omega) ?_ (fun k hk => ?_)
    · have h2 : (2 : Nat) ^ p < 2 ^ (p + 1) := Nat.pow_lt_pow_right (by decide) (by omega)
      split
      · exact Nat.or_lt_two_pow (by omega) h2
      · omega
    · by_cases c : 0 < g (26 + p)
      · rw [if_pos c, fb_bit_set]
        by_cases z : k = p
        · rw [z, decide_eq_true c]; simp
        · rw [hb k (by omega), decide_eq_false z, Bool.or_false]
      · rw [if_neg c]
        by_cases z : k = p
        · rw [z, decide_eq_false c, Nat.testBit_lt_two_pow hw]
        · exact hb k (by omega)
theorem lp_cnt : ∀ (m p x : Nat) (S : Nat → Nat → Int32), (lpL m p x S).1 + fa_cnt (fun k => decide (0 < S 184 (26 + k))) p = x + fa_cnt (fun k => decide (0 < S 184 (26 + k))) (p + m)
  | 0, p, x, S => rfl
  | m + 1, p, x, S => by
    rw [lpL, show p + (m + 1) = p + 1 + m by omega]
    by_cases c : 0 < S 184 (26 + p)
    · rw [if_pos c]
      have ih := lp_cnt m (p + 1) (x + 1) (up2 S 192 (if x < 6 then x else 5) (nI p))
      have e : up2 S 192 (if x < 6 then x else 5) (nI p) 184 = S 184 := up2_row (by decide)
      rw [e, fa_cnt_yes (decide_eq_true c)] at ih
      omega
    · rw [if_neg c]
      have ih := lp_cnt m (p + 1) x S
      rw [fa_cnt_no (decide_eq_false c)] at ih
      omega
theorem lp_none : ∀ (m p x : Nat) (S : Nat → Nat → Int32), (∀ a, p ≤ a → a < p + m → ¬ 0 < S 184 (26 + a)) → lpL m p x S = (x, S)
  | 0, _, _, _, _ => rfl
  | m + 1, p, x, S, h => by
    rw [lpL, if_neg (h p (by omega) (by omega))]
    exact lp_none m (p + 1) x S (fun a h1 h2 => h a (by omega) (by omega))
theorem lp_split (k : Nat) : ∀ (m p x : Nat) (S : Nat → Nat → Int32), lpL (m + k) p x S = lpL k (p + m) (lpL m p x S).1 (lpL m p x S).2
  | 0, p, x, S => by rw [Nat.zero_add, lpL]; rfl
  | m + 1, p, x, S => by
    rw [show m + 1 + k = (m + k) + 1 by omega, lpL, lpL]
    by_cases c : 0 < S 184 (26 + p)
    · rw [if_pos c, if_pos c, lp_split k m (p + 1), show p + 1 + m = p + (m + 1) by omega]
    · rw [if_neg c, if_neg c, lp_split k m (p + 1), show p + 1 + m = p + (m + 1) by omega]
theorem lpF_16 {A B : Nat → Nat → Int32} (h : Rel A B) : lpF B = lpL 16 0 0 B := by
  have hN := h.2.1.2.1.1
  have h16 := tn_16 hN.1 hN.2
  have e := lp_split (16 - tn (B 179 2)) (tn (B 179 2)) 0 0 B
  rw [show tn (B 179 2) + (16 - tn (B 179 2)) = 16 by omega, lp_none (16 - tn (B 179 2)) (0 + tn (B 179 2)) (lpL (tn (B 179 2)) 0 0 B).1 (lpL (tn (B 179 2)) 0 0 B).2 (fun a h1 h2 => ?_)] at e
  · rw [e]; rfl
  · have e84 : (lpF B).2 184 = B 184 := (lpF_fr hN).2 184 (by decide)
    show ¬ 0 < (lpF B).2 184 (26 + a)
    rw [e84, (Rel_S h).1.2.2.2.1 a (by omega) (by omega)]
    decide
/-- the armed places are counted alike -/
theorem bc_lp {A B : Nat → Nat → Int32} (h : Rel A B) : bcF (armSetF A 18) = nI (lpF B).1 := by
  have hN := h.2.1.2.1.1
  have h16 := tn_16 hN.1 hN.2
  have e : armSetF A 18 = nI (soN (B 184) 16 0 0) := by
    unfold armSetF
    rw [co_rel (Rel_S h).1 16 0 0 (by omega)]
    exact co_soN B 16 0 0 (by omega)
  obtain ⟨s1, s2⟩ := soN_bits (B 184) 16 0 0 (by omega) (by decide) (fun k hk => absurd hk (by omega))
  have hc := lp_cnt 16 0 0 B
  rw [← lpF_16 h] at hc
  rw [e, bcF_cnt (by simpa using s1), fa_cnt_cong (fun k hk => s2 k (by omega))]
  have e0 : fa_cnt (fun k => decide (0 < B 184 (26 + k))) 0 = 0 := rfl
  rw [e0] at hc
  rw [show (lpF B).1 = fa_cnt (fun k => decide (0 < B 184 (26 + k))) 16 by simpa using hc]
theorem bc_le {A B : Nat → Nat → Int32} (h : Rel A B) : bcF (armSetF A 18) ≤ 6 ↔ (lpF B).1 ≤ 6 := by
  have := lpF_le (S := B) h.2.1.2.1.1
  rw [bc_lp h, show (6 : Int32) = nI 6 from rfl, nI_leI (by omega) (by decide)]
