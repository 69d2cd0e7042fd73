theorem yk_9 {k : Int32} (h : kinP k) : ykF k = 9 ↔ k = 107 := by rcases h with rfl | rfl | rfl | rfl | rfl | rfl | rfl | rfl | rfl | rfl | rfl | rfl <;> decide
theorem cr_yco {k : Int32} (h : kinP k) : crF k = ycoF (ykF k) := by rcases h with rfl | rfl | rfl | rfl | rfl | rfl | rfl | rfl | rfl | rfl | rfl | rfl <;> decide
theorem df_tr {B : Nat → Nat → Int32} {a : Int32} (hh : hasY B a) : dfP (trS B) 185 a ↔ (B 181 (tn a) = 7 ∧ B 184 20 = 8) ∨ (B 181 (tn a) = 8 ∧ B 184 20 = 0) := by
  have e : hasY (trS B) a := by unfold hasY; rw [trS_ne (by decide)]; exact hh
  unfold dfP
  rw [trS_ne (by decide), trS_185]
  exact ⟨fun h => h.resolve_left (fun z => z e), Or.inr⟩
theorem ypR_tr (B : Nat → Nat → Int32) (p : Nat) (t : Int32) : ypR (trS B) 185 p t = ypR B 184 p t := by
  unfold ypR
  rw [show trS B 181 = B 181 from trS_ne (by decide), show trS B 182 = B 182 from trS_ne (by decide), show trS B 183 = B 183 from trS_ne (by decide), trS_185]
theorem fo_rel {A B : Nat → Nat → Int32} {n : Nat} (hY : wfY B) (hR : wfR B 184) (hp : prR A 3 B) (h : stR A 13 (B 184) n) {a : Int32} (hh : hasY B a) : follF A (tn a) = if dfP (trS B) 185 a then -9 else ypR (trS B) 185 (tn a) 20 := by
  have hlt := (hY16 hY.1 hh).1
  have hw := hY.2 _ hlt
  obtain ⟨hk, e, h99, hn, -⟩ := hp.2 _ hlt
  have e3 : A 14 3 = B 184 20 := h.1.2.2.2.1
  have hd := df_tr hh
  have z8 : ¬ B 184 20 < 8 ↔ B 184 20 = 8 := ⟨fun h => Int32.le_antisymm (Int32.not_lt.mp hR.1.2) (Int32.not_lt.mp h), fun h => by rw [h]; decide⟩
  have z0 := pos_ne hR.1.1
  rw [ypR_tr]
  unfold ypR
  rcases hk with z | z | z | z | z | z | z | z | z | z | z | z
  all_goals (have ez : A 4 (tn a) = _ := z)
  · have ek : B 181 (tn a) = 0 := by rw [e, z]; decide
    rw [if_neg (fun w => by rw [hd, ek] at w; revert w; simp), ek, follF, ez]; rfl
  · have ek : B 181 (tn a) = 1 := by rw [e, z]; decide
    rw [if_neg (fun w => by rw [hd, ek] at w; revert w; simp), ek, follF, ez]; rfl
  · have ek : B 181 (tn a) = 2 := by rw [e, z]; decide
    rw [if_neg (fun w => by rw [hd, ek] at w; revert w; simp), ek, follF, ez]; rfl
  · have ek : B 181 (tn a) = 3 := by rw [e, z]; decide
    rw [if_neg (fun w => by rw [hd, ek] at w; revert w; simp), ek, follF, ez]; rfl
  · have ek : B 181 (tn a) = 4 := by rw [e, z]; decide
    rw [if_neg (fun w => by rw [hd, ek] at w; revert w; simp), ek, follF, ez]; rfl
  · have ek : B 181 (tn a) = 5 := by rw [e, z]; decide
    have h6 : A 6 (tn a) = B 183 (tn a) := (hn (by rw [z]; decide)).2
    rw [if_neg (fun w => by rw [hd, ek] at w; revert w; simp), ek, follF, ez, h6]; rfl
  · have ek : B 181 (tn a) = 6 := by rw [e, z]; decide
    have h6 : A 6 (tn a) = B 183 (tn a) := (hn (by rw [z]; decide)).2
    have h5 : A 5 (tn a) = B 182 (tn a) := (hn (by rw [z]; decide)).1
    have hx : tn (B 182 (tn a)) < 4 := tn_lt (M := 4) (k := 4) rfl (by decide) (hw.1 (by rw [ek]; decide)).1 (hw.1 (by rw [ek]; decide)).2
    have h15 : A 15 (tn (B 182 (tn a))) = B 184 (tn (B 182 (tn a))) := h.1.1 _ hx
    rw [if_neg (fun w => by rw [hd, ek] at w; revert w; simp), ek, follF, ez, h6, h5, h15]; rfl
  · have ek : B 181 (tn a) = 7 := by rw [e, z]; decide
    have h6 : A 6 (tn a) = B 182 (tn a) := (h99 z).2.1
    rw [ek, follF, ez, h6, e3]
    by_cases c : B 184 20 < 8
    · rw [if_neg (show ¬ dfP (trS B) 185 a from fun w => (hd.mp w).elim (fun w => z8.mpr w.2 c) (fun w => by rw [ek] at w; exact absurd w.1 (by decide)))]
      rw [if_neg (by decide), if_pos (by decide), if_pos c]; rfl
    · rw [if_pos (show dfP (trS B) 185 a from hd.mpr (Or.inl ⟨ek, z8.mp c⟩)), if_neg (by decide), if_pos (by decide), if_neg c]
  · have ek : B 181 (tn a) = 8 := by rw [e, z]; decide
    rw [ek, follF, ez, e3]
    by_cases c : 0 < B 184 20
    · rw [if_neg (show ¬ dfP (trS B) 185 a from fun w => (hd.mp w).elim (fun w => by rw [ek] at w; exact absurd w.1 (by decide)) (fun w => z0.mp c w.2)), if_pos (by decide), if_pos c]
      have hix := dep_ix hR.1.1 c hR.1.2
      have hlt2 : tn (B 184 20 - 1) < tn (B 184 20) := by
        have hn2 : B 184 20 = nI (tn (B 184 20 - 1) + 1) := by rw [← nI_1, ← hix.1]; simp
        have : tn (B 184 20) = tn (B 184 20 - 1) + 1 := by rw [hn2, tn_nI (by omega), nI_pred, tn_nI (by omega)]
        omega
      exact h.1.2.2.1 _ hlt2
    · rw [if_pos (show dfP (trS B) 185 a from hd.mpr (Or.inr ⟨ek, Decidable.byContradiction (fun w => c (z0.mpr w))⟩)), if_pos (by decide), if_neg c]
  · have ek : B 181 (tn a) = 9 := by rw [e, z]; decide
    rw [if_neg (fun w => by rw [hd, ek] at w; revert w; simp), ek, follF, ez]; rfl
  · have ek : B 181 (tn a) = 10 := by rw [e, z]; decide
    rw [if_neg (fun w => by rw [hd, ek] at w; revert w; simp), ek, follF, ez]; rfl
  · have ek : B 181 (tn a) = 11 := by rw [e, z]; decide
    rw [if_neg (fun w => by rw [hd, ek] at w; revert w; simp), ek, follF, ez]; rfl
