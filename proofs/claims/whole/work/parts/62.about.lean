theorem df_rel {A B : Nat → Nat → Int32} (hp : prR A 3 B) : ∀ (m p : Nat) (x : Int32), p + m ≤ tn (B 179 2) → diffL A 3 m p x = ulL B m p x
  | 0, _, _, _ => rfl
  | m + 1, p, x, h => by
    have e : A (3 + 4) p = laF B p := (hp.2 p (by omega)).2.2.2.2
    rw [diffL, ulL, e]
    by_cases c : laF B p = nI p
    · rw [if_pos c, if_pos c]; exact df_rel hp m (p + 1) _ (by omega)
    · rw [if_neg c, if_neg c, show x + (0 : Int32) = x from by simp]; exact df_rel hp m (p + 1) _ (by omega)
theorem q_about {A B : Nat → Nat → Int32} (hY : wfY B) (hp : prR A 3 B) (h : stR A 13 (B 184) (tn (B 179 2))) (hw : wfM A 14) (h1 : A 29 2 = B 179 9) (h2 : A 145 2 = B 179 15) (h3 : A 1 1 = B 179 1) (w : Int32) : xabout A w = yabout B w := by
  have hm := h.1
  have e4 : A 14 4 = B 184 21 := hm.2.2.2.2.1
  have e3 : A 14 3 = B 184 20 := hm.2.2.2.1
  have e6 : A 14 6 = B 184 23 := hm.2.2.2.2.2.2.1
  have e7 : A 14 7 = B 184 24 := hm.2.2.2.2.2.2.2
  have e5 : (if A 14 5 = 0 then (0 : Int32) else 1) = B 184 22 := by
    have z : A 14 5 = B 184 22 := hm.2.2.2.2.2.1
    rw [← z]
    rcases hw.2.2 with c | c <;> rw [c] <;> decide
  have g4 : A 13 4 = B 184 25 := h.2.2.2.2.1.1
  have g5 : A 13 5 = B 184 126 := h.2.2.2.2.1.2.1
  have g6 : A 13 6 = B 184 127 := h.2.2.2.2.1.2.2
  have g3 : A 13 3 = B 184 122 := h.2.1.1
  have hc := q_counted hY.1 h
  have hd : diffL A 3 (tn (A 3 4)) 0 0 = ulF B := by rw [hp.1]; exact df_rel hp _ 0 0 (by omega)
  unfold xabout yabout
  rw [hd, hp.1, e4, e3, e5, e6, e7, hc, g4, g3, g5, g6, h1, h2, h3]
