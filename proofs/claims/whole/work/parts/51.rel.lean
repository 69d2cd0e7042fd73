/-- the machine at mq stands as the row g says -/
def mcR (A : Nat → Nat → Int32) (mq : Nat) (g : Nat → Int32) : Prop := (∀ r, r < 4 → A (mq + 1) r = g r) ∧ (∀ c, c < 8 → A (mq + 2) c = g (4 + c)) ∧ (∀ d, d < tn (g 20) → A (mq + 3) d = g (12 + d)) ∧ A mq 3 = g 20 ∧ A mq 4 = g 21 ∧ A mq 5 = g 22 ∧ A mq 6 = g 23 ∧ A mq 7 = g 24
/-- the program at r is the reference's -/
def prR (A : Nat → Nat → Int32) (r : Nat) (B : Nat → Nat → Int32) : Prop := A r 4 = B 179 2 ∧ ∀ p, p < tn (B 179 2) → kinP (A (r + 1) p) ∧ B 181 p = ykF (A (r + 1) p) ∧ (A (r + 1) p = 99 → A (r + 2) p = 0 ∧ A (r + 3) p = B 182 p ∧ B 183 p = 0) ∧ (¬ A (r + 1) p = 99 → A (r + 2) p = B 182 p ∧ A (r + 3) p = B 183 p) ∧ A (r + 4) p = laF B p
theorem up2_q (S : Nat → Nat → Int32) (q j : Nat) (v : Int32) : up2 S q j v q = upd (S q) j v := by funext i; simp [up2, va_up]
theorem upd_at (g : Nat → Int32) (j : Nat) (v : Int32) (i : Nat) : upd g j v i = if i = j then v else g i := by simp [upd]
theorem mcR_reg {A : Nat → Nat → Int32} {mq : Nat} {g : Nat → Int32} (h : mcR A mq g) {x : Nat} (hx : x < 4) (v : Int32) : mcR (up2 A (mq + 1) x v) mq (upd g x v) := by
  obtain ⟨h1, h2, h3, h4, h5, h6, h7, h8⟩ := h
  refine ⟨fun r hr => ?_, fun c hc => ?_, fun d hd => ?_, ?_, ?_, ?_, ?_, ?_⟩
  · rw [up2_at, upd_at]
    by_cases z : r = x
    · rw [if_pos ⟨rfl, z⟩, if_pos z]
    · rw [if_neg (fun w => z w.2), if_neg z]; exact h1 r hr
  · rw [up2_ne (Or.inl (by omega)), upd_at, if_neg (by omega)]; exact h2 c hc
  · rw [upd_at, if_neg (by omega)] at hd
    rw [up2_ne (Or.inl (by omega)), upd_at, if_neg (by omega)]; exact h3 d hd
  all_goals (rw [up2_ne (Or.inl (by omega)), upd_at, if_neg (by omega)]; assumption)
theorem mcR_cell {A : Nat → Nat → Int32} {mq : Nat} {g : Nat → Int32} (h : mcR A mq g) {x : Nat} (hx : x < 8) (v : Int32) : mcR (up2 A (mq + 2) x v) mq (upd g (4 + x) v) := by
  obtain ⟨h1, h2, h3, h4, h5, h6, h7, h8⟩ := h
  refine ⟨fun r hr => ?_, fun c hc => ?_, fun d hd => ?_, ?_, ?_, ?_, ?_, ?_⟩
  · rw [up2_ne (Or.inl (by omega)), upd_at, if_neg (by omega)]; exact h1 r hr
  · rw [up2_at, upd_at]
    by_cases z : c = x
    · rw [if_pos ⟨rfl, z⟩, if_pos (by omega)]
    · rw [if_neg (fun w => z w.2), if_neg (by omega)]; exact h2 c hc
  · rw [upd_at, if_neg (by omega)] at hd
    rw [up2_ne (Or.inl (by omega)), upd_at, if_neg (by omega)]; exact h3 d hd
  all_goals (rw [up2_ne (Or.inl (by omega)), upd_at, if_neg (by omega)]; assumption)
/-- one of the five plain numbers, but the depth -/
theorem mcR_fld {A : Nat → Nat → Int32} {mq : Nat} {g : Nat → Int32} (h : mcR A mq g) (hb : tn (g 20) ≤ 8) {x : Nat} (hx : 4 ≤ x ∧ x < 8) (v : Int32) : mcR (up2 A mq x v) mq (upd g (17 + x) v) := by
  obtain ⟨h1, h2, h3, h4, h5, h6, h7, h8⟩ := h
  refine ⟨fun r hr => ?_, fun c hc => ?_, fun d hd => ?_, ?_, ?_, ?_, ?_, ?_⟩
  · rw [up2_ne (Or.inl (by omega)), upd_at, if_neg (by omega)]; exact h1 r hr
  · rw [up2_ne (Or.inl (by omega)), upd_at, if_neg (by omega)]; exact h2 c hc
  · rw [upd_at, if_neg (by omega)] at hd
    rw [up2_ne (Or.inl (by omega)), upd_at, if_neg (by omega)]; exact h3 d hd
  · rw [up2_ne (Or.inr (by omega)), upd_at, if_neg (by omega)]; exact h4
  all_goals
    rw [up2_at, upd_at]
    first
      | (rw [if_pos ⟨rfl, by omega⟩, if_pos (by omega)])
      | (rw [if_neg (by omega), if_neg (by omega)]; assumption)
      | (by_cases z : x = 4
         · subst z; first | (rw [if_pos ⟨rfl, rfl⟩, if_pos rfl]) | (rw [if_neg (by omega), if_neg (by omega)]; assumption)
         · by_cases z5 : x = 5
           · subst z5; first | (rw [if_pos ⟨rfl, rfl⟩, if_pos rfl]) | (rw [if_neg (by omega), if_neg (by omega)]; assumption)
           · by_cases z6 : x = 6
             · subst z6; first | (rw [if_pos ⟨rfl, rfl⟩, if_pos rfl]) | (rw [if_neg (by omega), if_neg (by omega)]; assumption)
             · obtain rfl : x = 7 := by omega
               first | (rw [if_pos ⟨rfl, rfl⟩, if_pos rfl]) | (rw [if_neg (by omega), if_neg (by omega)]; assumption))
theorem mcR_push {A : Nat → Nat → Int32} {mq : Nat} {g : Nat → Int32} (h : mcR A mq g) {n : Nat} (hn : g 20 = nI n) (h8 : n < 8) (v : Int32) : mcR (up2 (up2 A (mq + 3) n v) mq 3 (A mq 3 + 1)) mq (upd (upd g (12 + n) v) 20 (g 20 + 1)) := by
  obtain ⟨h1, h2, h3, h4, h5, h6, h7, hd8⟩ := h
  have e : tn (g 20 + 1) = n + 1 := by rw [hn, nI_1, tn_nI (by omega)]
  have e0 : tn (g 20) = n := by rw [hn, tn_nI (by omega)]
  refine ⟨fun r hr => ?_, fun c hc => ?_, fun d hd => ?_, ?_, ?_, ?_, ?_, ?_⟩
  · rw [up2_ne (Or.inl (by omega)), up2_ne (Or.inl (by omega)), upd_at, if_neg (by omega), upd_at, if_neg (by omega)]; exact h1 r hr
  · rw [up2_ne (Or.inl (by omega)), up2_ne (Or.inl (by omega)), upd_at, if_neg (by omega), upd_at, if_neg (by omega)]; exact h2 c hc
  · rw [upd_at, if_pos rfl, e] at hd
    rw [up2_ne (Or.inl (by omega)), show upd (upd g (12 + n) v) 20 (g 20 + 1) (12 + d) = upd g (12 + n) v (12 + d) from by rw [upd_at, if_neg (by omega)], up2_at, upd_at]
    by_cases z : d = n
    · rw [if_pos ⟨rfl, z⟩, if_pos (by omega)]
    · rw [if_neg (fun w => z w.2), if_neg (by omega)]; exact h3 d (by omega)
  · rw [up2_same, upd_at, if_pos rfl, h4]
  all_goals (rw [up2_ne (Or.inr (by omega)), up2_ne (Or.inl (by omega)), upd_at, if_neg (by omega), upd_at, if_neg (by omega)]; assumption)
theorem mcR_pop {A : Nat → Nat → Int32} {mq : Nat} {g : Nat → Int32} (h : mcR A mq g) {n : Nat} (hn : g 20 = nI (n + 1)) (h8 : n < 8) : mcR (up2 A mq 3 (A mq 3 - 1)) mq (upd g 20 (g 20 - 1)) := by
  obtain ⟨h1, h2, h3, h4, h5, h6, h7, hd8⟩ := h
  have e : tn (g 20 - 1) = n := by rw [hn, nI_pred, tn_nI (by omega)]
  have e0 : tn (g 20) = n + 1 := by rw [hn, tn_nI (by omega)]
  refine ⟨fun r hr => ?_, fun c hc => ?_, fun d hd => ?_, ?_, ?_, ?_, ?_, ?_⟩
  · rw [up2_ne (Or.inl (by omega)), upd_at, if_neg (by omega)]; exact h1 r hr
  · rw [up2_ne (Or.inl (by omega)), upd_at, if_neg (by omega)]; exact h2 c hc
  · rw [upd_at, if_pos rfl, e] at hd
    rw [up2_ne (Or.inl (by omega)), upd_at, if_neg (by omega)]; exact h3 d (by omega)
  · rw [up2_same, upd_at, if_pos rfl, h4]
  all_goals (rw [up2_ne (Or.inr (by omega)), upd_at, if_neg (by omega)]; assumption)
