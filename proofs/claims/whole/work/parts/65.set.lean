/-- a change of the machine alone -/
theorem stR_mc {A A' : Nat → Nat → Int32} {s : Nat} {g g' : Nat → Int32} {n : Nat} (hm : mcR A' (s + 1) g') (h0 : A' s = A s) (h6 : A' (s + 5 + 1) = A (s + 5 + 1)) (h7 : A' (s + 7) = A (s + 7)) (hg : ∀ j, 25 ≤ j → g' j = g j) (h : stR A s g n) : stR A' s g' n := by
  obtain ⟨_, hc, hbr, hz, ⟨e4, e5, e6⟩, w, hw, hw2⟩ := h
  refine ⟨hm, cyR_cg (by rw [h0]) h7 (fun j a b => hg j (by omega)) hc, brR_cg h6 (fun j a b => hg j (by omega)) hbr, brN_cg (fun j a b => hg j (by omega)) hz, ⟨?_, ?_, ?_⟩, w, hw, by rw [hg 25 (by omega)]; exact hw2⟩
  · rw [h0, hg 25 (by omega)]; exact e4
  · rw [h0, hg 126 (by omega)]; exact e5
  · rw [h0, hg 127 (by omega)]; exact e6
theorem stR_reg {A : Nat → Nat → Int32} {s : Nat} {g : Nat → Int32} {n : Nat} (h : stR A s g n) {x : Nat} (hx : x < 4) (v : Int32) : stR (up2 A (s + 1 + 1) x v) s (upd g x v) n :=
  stR_mc (mcR_reg h.1 hx v) (up2_row (by omega)) (up2_row (by omega)) (up2_row (by omega)) (fun j hj => by rw [upd_at, if_neg (by omega)]) h
theorem stR_cell {A : Nat → Nat → Int32} {s : Nat} {g : Nat → Int32} {n : Nat} (h : stR A s g n) {x : Nat} (hx : x < 8) (v : Int32) : stR (up2 A (s + 1 + 2) x v) s (upd g (4 + x) v) n :=
  stR_mc (mcR_cell h.1 hx v) (up2_row (by omega)) (up2_row (by omega)) (up2_row (by omega)) (fun j hj => by rw [upd_at, if_neg (by omega)]) h
theorem stR_fld {A : Nat → Nat → Int32} {s : Nat} {g : Nat → Int32} {n : Nat} (h : stR A s g n) (hb : tn (g 20) ≤ 8) {x : Nat} (hx : 4 ≤ x ∧ x < 8) (v : Int32) : stR (up2 A (s + 1) x v) s (upd g (17 + x) v) n :=
  stR_mc (mcR_fld h.1 hb hx v) (up2_row (by omega)) (up2_row (by omega)) (up2_row (by omega)) (fun j hj => by rw [upd_at, if_neg (by omega)]) h
/-- the watched set is changed -/
theorem stR_watch {A : Nat → Nat → Int32} {s : Nat} {g : Nat → Int32} {n : Nat} (h : stR A s g n) (hb : tn (g 20) ≤ 8) {w : Nat} (hw : w < 256) {v : Int32} (hv : v = nI w) : stR (up2 A s 4 v) s (upd g 25 v) n := by
  obtain ⟨hm, hc, hbr, hz, ⟨e4, e5, e6⟩, _⟩ := h
  have hg : ∀ j, j ≠ 25 → upd g 25 v j = g j := fun j hj => by rw [upd_at, if_neg hj]
  refine ⟨mcR_cg (fun a a1 a2 => up2_row (by omega)) (mcR_g (fun j hj => hg j (by omega)) hb hm), cyR_cg (up2_ne (Or.inr (by decide))) (up2_row (by omega)) (fun j a b => hg j (by omega)) hc, brR_cg (up2_row (by omega)) (fun j a b => hg j (by omega)) hbr, brN_cg (fun j a b => hg j (by omega)) hz, ⟨?_, ?_, ?_⟩, w, hw, by rw [upd_at, if_pos rfl]; exact hv⟩
  · rw [up2_same, upd_at, if_pos rfl]
  · rw [up2_ne (Or.inr (by decide)), hg 126 (by decide)]; exact e5
  · rw [up2_ne (Or.inr (by decide)), hg 127 (by decide)]; exact e6
