theorem pwL_lN (b : Nat) : ∀ (m a : Nat), pwL (lN b) m (lN a) = lN (a * b ^ m)
  | 0, a => by rw [pwL, Nat.pow_zero, Nat.mul_one]
  | m + 1, a => by rw [pwL, lN_mul, pwL_lN b m, Nat.pow_succ, Nat.mul_assoc, Nat.mul_comm b]
theorem wt_ch {A : Nat → Nat → Int32} {x : Int32} {X c k : Nat} (hx : x = nI X) (hX : X ≤ 10) (hc : c < 7) (hk : k < 2 ^ c) (h7 : A 153 7 = nI c) : ∃ t, t ≤ 1000000 ∧ wlT A x k = lN t ∧ chT x c k = nI t := by
  have h1 := on_ok c hc k hk
  have h64 := pow6 (show c ≤ 6 by omega)
  have e : on16 k = nI (tn (on16 k)) := nI_self h1.1
  have eb : bcF (nI k) = on16 k := bc_on k (by omega)
  generalize ho : tn (on16 k) = o at *
  have e2 : tn (nI c - on16 k) = c - o := by rw [e, nI_sub h1.2, tn_nI (by omega)]
  refine ⟨(10 - X) ^ o * X ^ (c - o), ?_, ?_, ?_⟩
  · have h2 : (10 - X) ^ o ≤ 10 ^ o := Nat.pow_le_pow_left (by omega) _
    have h3 : X ^ (c - o) ≤ 10 ^ (c - o) := Nat.pow_le_pow_left hX _
    have h4 : 10 ^ o * 10 ^ (c - o) = 10 ^ c := by rw [← Nat.pow_add]; congr 1; omega
    have h5 : 10 ^ c ≤ 10 ^ 6 := Nat.pow_le_pow_right (by decide) (by omega)
    have h6 := Nat.mul_le_mul h2 h3
    rw [h4] at h6
    exact Nat.le_trans h6 h5
  · rw [wlT, eb, h7, ho, e2, hx, show (10 : Int32) - nI X = nI (10 - X) from nI_sub (a := 10) hX, nI_l (by omega), nI_l (by omega), show (1 : Int64) = lN 1 from rfl, pwL_lN, pwL_lN, lN_mul, Nat.one_mul, Nat.one_mul]
  · rw [chT, ho, e2, hx, show (10 : Int32) - nI X = nI (10 - X) from nI_sub (a := 10) hX, show (1 : Int32) = nI 1 from rfl, pwI_nI, pwI_nI, pk_mul, Nat.one_mul, Nat.one_mul]
theorem wl_ch {A B : Nat → Nat → Int32} {pl : Nat → Nat} (h : Rel A B) (h6 : (lpF B).1 ≤ 6) (hp : plR A B pl) {E S0 : Nat → Nat → Int32} (hS0 : goS B pl S0) (h7 : E 153 7 = nI (lpF B).1) (hv : ∀ i, i < 2 ^ (lpF B).1 → E 162 i = nI (sbF S0 (nI i) (lpF B).1).1) {v x : Int32} {X : Nat} (hx : x = nI X) (hX : X ≤ 10) : ∀ (m k N : Nat) (s : Int64) (t : Int32) (S : Nat → Nat → Int32), k + m ≤ 2 ^ (lpF B).1 → s = lN N → t = nI N → N ≤ k * 1000000 → goS B pl S → (∃ N', N' ≤ (k + m) * 1000000 ∧ wlL E v x m k s = lN N' ∧ (ychL v x (lpF B).1 m k t S).1 = nI N') ∧ ∀ q a, q ≠ 185 → q ≠ 191 → (ychL v x (lpF B).1 m k t S).2 q a = S q a
  | 0, k, N, s, t, S, _, es, et, hN, _ => ⟨⟨N, hN, es, et⟩, fun _ _ _ _ => rfl⟩
  | m + 1, k, N, s, t, S, hk, es, et, hN, hS => by
    rw [wlL, ychL, hv k (by omega), sb_eq h h6 hp hS0 hS (nI k), show k + (m + 1) = k + 1 + m by omega]
    obtain ⟨g1, g2, g3, g4, g5, g6⟩ := sbF_go h h6 hp hS (nI k)
    by_cases c : nI (sbF S (nI k) (lpF B).1).1 < v
    · rw [if_pos c, if_pos c, show t + (0 : Int32) = t from by simp]
      obtain ⟨i1, i2⟩ := wl_ch h h6 hp hS0 h7 hv hx hX m (k + 1) N s t _ (by omega) es et (Nat.le_trans hN (Nat.mul_le_mul_right _ (Nat.le_succ k))) g4
      exact ⟨i1, fun q a q1 q2 => by rw [i2 q a q1 q2]; exact g6 q a q1 q2⟩
    · rw [if_neg c, if_neg c]
      obtain ⟨w, w1, w2, w3⟩ := wt_ch (c := (lpF B).1) hx hX (by omega) (show k < 2 ^ (lpF B).1 by omega) h7
      obtain ⟨i1, i2⟩ := wl_ch h h6 hp hS0 h7 hv hx hX m (k + 1) (N + w) (s + wlT E x k) (t + chT x (lpF B).1 k) _ (by omega) (by rw [es, w2, lN_add]) (by rw [et, w3, nI_add]) (by rw [Nat.succ_mul]; omega) g4
      exact ⟨i1, fun q a q1 q2 => by rw [i2 q a q1 q2]; exact g6 q a q1 q2⟩
theorem ten_6 : ∀ c, c < 7 → (pwL (10 : Int32).toInt64 c 1).toInt32 = tenP c ∧ tenP c = nI (10 ^ c) := by decide +kernel
theorem nI_nmin {n : Nat} (h : n < 2147483648) : ¬ nI n = -2147483648 := fun w => by
  have := nI_pos (n := n) h
  rw [w] at this
  exact this (by decide)
theorem c_chance {A B : Nat → Nat → Int32} (h : Rel A B) (v x up : Int32) : (xchance A v x up).1 = (ychance B v x up).1 ∧ Rel (xchance A v x up).2 (ychance B v x up).2 := by
  unfold xchance ychance
  by_cases c : inP v 0 20 ∧ inP x 0 10
  · rw [if_pos c, if_neg (fun w => w.elim c.1.1 (fun z => z.elim c.1.2 (fun z => z.elim c.2.1 (fun y => c.2.2 (Int32.not_le.mp y)))))]
    by_cases g : (lpF B).1 ≤ 6
    · rw [if_pos g, if_pos ((bc_le h).mpr g)]
      obtain ⟨pl, hp⟩ := pl_rel h g
      have hct := pl_ct hp g
      have hgo := lp_go h hp
      have m7 : meS A 153 7 = nI (lpF B).1 := by unfold meS; rw [ms_rw _ _ _ _ _ (by decide) (by decide), fwG_7]; exact hp.1
      have v1 : ∀ i, i < 2 ^ (lpF B).1 → meS A 162 i = nI (sbF (lpF B).2 (nI i) (lpF B).1).1 := fun i hi => by
        unfold meS
        rw [hct]
        exact ms_val h g hp hgo _ 0 (fwG A) rfl rfl (fun i hi => absurd hi (by omega)) i (by omega)
      have hX : tn x ≤ 10 := tn_le (M := 10) (k := 10) rfl (by decide) c.2.1 c.2.2
      obtain ⟨⟨N, n1, n2, n3⟩, fr⟩ := wl_ch h g hp hgo m7 v1 (v := v) (nI_self c.2.1) hX (2 ^ (lpF B).1) 0 0 0 0 (lpF B).2 (by omega) rfl rfl (by omega) hgo
      obtain ⟨t1, t2⟩ := ten_6 (lpF B).1 (by omega)
      refine ⟨?_, Rel_q (fun k k1 k2 k3 => meS_rw (by omega)) (fun k a hk _ => by
        show (ychL v x (lpF B).1 (2 ^ (lpF B).1) 0 0 (lpF B).2).2 k a = B k a
        rw [fr k a hk.1 hk.2.1, (lpF_fr h.2.1.2.1.1).2 k hk.2.2.1]) h⟩
      show ptF (wlL (meS A) v x (2 ^ ctF A) 0 0).toInt32 (pwL (10 : Int32).toInt64 (ctF A) 1).toInt32 up = frX (ychL v x (lpF B).1 (2 ^ (lpF B).1) 0 0 (lpF B).2).1 (tenP (lpF B).1) up
      rw [hct, n2, n3, lN_32, t1]
      have h64 := pow6 g
      have h10 : 10 ^ (lpF B).1 ≤ 10 ^ 6 := Nat.pow_le_pow_right (by decide) g
      exact pt_fr up (nI_nmin (by omega)) t2 (Nat.pow_pos (by decide)) h10
    · rw [if_neg g, if_neg (fun w => g ((bc_le h).mp w))]
      exact ⟨rfl, Rel_lp h⟩
  · rw [if_neg c, if_pos (Decidable.byContradiction (fun w => c ⟨⟨fun z => w (Or.inl z), fun z => w (Or.inr (Or.inl z))⟩, fun z => w (Or.inr (Or.inr (Or.inl z))), fun z => w (Or.inr (Or.inr (Or.inr (Int32.not_le.mpr z))))⟩))]
    exact ⟨rfl, h⟩
