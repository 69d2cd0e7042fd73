theorem gd_gcd : ∀ (m x y : Nat), y < m → gdN m x y = Nat.gcd x y
  | 0, x, y, h => absurd h (by omega)
  | m + 1, x, y, h => by
    rw [gdN]
    by_cases c : y = 0
    · rw [if_pos c, c, Nat.gcd_zero_right]
    · have hl : x % y < y := Nat.mod_lt _ (by omega)
      rw [if_neg c, gd_gcd m y (x % y) (by omega), Nat.gcd_comm x y, Nat.gcd_rec y x, Nat.gcd_comm]
theorem cd_step {m x y : Nat} (hx : x < 2147483648) (hy : y < 2147483648) : cdL (m + 1) (nI x) (nI y) = if y = 0 then nI x else cdL m (nI y) (nI (x % y)) := by
  rw [cdL]
  by_cases c : y = 0
  · rw [if_pos c, if_pos (by rw [c]; rfl)]
  · rw [if_neg c, if_neg (nI_ne0 (by omega) hy), rem_nI rfl rfl hx (by omega) hy]
theorem cd_gcd : ∀ (i m x y : Nat), x < 2147483648 → y < 2147483648 → y < 2 ^ i → 2 * i ≤ m → cdL m (nI x) (nI y) = nI (Nat.gcd x y)
  | 0, m, x, y, hx, hy, hi, _ => by
    obtain rfl : y = 0 := by simpa using hi
    rw [Nat.gcd_zero_right]
    cases m with
    | zero => rfl
    | succ m => rw [cd_step hx hy, if_pos rfl]
  | i + 1, m, x, y, hx, hy, hi, hm => by
    obtain ⟨m', rfl⟩ : ∃ m', m = m' + 1 + 1 := ⟨m - 2, by omega⟩
    rw [cd_step hx hy]
    by_cases c : y = 0
    · rw [if_pos c, c, Nat.gcd_zero_right]
    · have h1 : x % y < y := Nat.mod_lt _ (by omega)
      have e1 : Nat.gcd x y = Nat.gcd y (x % y) := by rw [Nat.gcd_comm x y, Nat.gcd_rec y x, Nat.gcd_comm]
      rw [if_neg c, cd_step hy (by omega), e1]
      generalize x % y = r at *
      by_cases c2 : r = 0
      · rw [if_pos c2, c2, Nat.gcd_zero_right]
      · have h2 : y % r < r := Nat.mod_lt _ (by omega)
        have h3 : y % r < 2 ^ i := by
          have h4 : y % r + r ≤ y := by
            have h5 := Nat.div_add_mod y r
            have h6 : 1 ≤ y / r := Nat.div_pos (by omega) (by omega)
            have h7 : r * 1 ≤ r * (y / r) := Nat.mul_le_mul_left _ h6
            omega
          have : (2 : Nat) ^ (i + 1) = 2 * 2 ^ i := by rw [Nat.pow_succ, Nat.mul_comm]
          omega
        have e2 : Nat.gcd y r = Nat.gcd r (y % r) := by rw [Nat.gcd_comm y r, Nat.gcd_rec r y, Nat.gcd_comm]
        rw [if_neg c2, e2]
        exact cd_gcd i m' r (y % r) (by omega) (by omega) h3 (by omega)
theorem abs_eq (a : Int32) : (if 0 ≤ a then a else 0 - a) = if a < 0 then -a else a := by
  by_cases c : a < 0
  · rw [if_pos c, if_neg (fun z => absurd c (Int32.not_lt.mpr z))]; simp
  · rw [if_neg c, if_pos (Int32.not_lt.mp c)]
/-- two ways of laying a fraction in lowest terms -/
theorem pt_fr {s b : Int32} {y : Nat} (up : Int32) (hs : ¬ s = -2147483648) (hb : b = nI y) (h1 : 0 < y) (h2 : y ≤ 1000000) : ptF s b up = frX s b up := by
  obtain ⟨x, hx, e⟩ := abs_nI hs
  have hg : cdL 50 (if 0 ≤ s then s else 0 - s) b = nI (gdN (y + 1) x y) := by
    rw [abs_eq, e, hb, gd_gcd _ _ _ (by omega)]
    exact cd_gcd 20 50 x y hx (by omega) (by omega) (by omega)
  have hpos : 0 < Nat.gcd x y := Nat.gcd_pos_of_pos_right _ h1
  have hle : Nat.gcd x y ≤ y := Nat.gcd_le_right _ h1
  have hg0 : ¬ nI (gdN (y + 1) x y) = 0 := by rw [gd_gcd _ _ _ (by omega)]; exact nI_ne0 hpos (by omega)
  have ex : tn (if s < 0 then -s else s) = x := by rw [e, tn_nI hx]
  have ey : tn b = y := by rw [hb, tn_nI (by omega)]
  unfold ptF frX frF
  rw [hg, if_neg hg0, ex, ey]
