theorem lt_ne {x M : Int32} (h : ¬ M < x) : ¬ x < M ↔ x = M := ⟨fun w => Int32.le_antisymm (Int32.not_lt.mp h) (Int32.not_lt.mp w), fun e z => by rw [e] at z; exact Int32.lt_irrefl z⟩
theorem inc_rg {x M : Int32} {k : Nat} (hM : M = nI k) (hk : k < 2147483647) (h0 : ¬ x < 0) (h1 : ¬ M < x) (h2 : ¬ x = M) : tn (x + 1) = tn x + 1 ∧ tn x < k ∧ (¬ x + 1 < 0 ∧ ¬ M < x + 1) := by
  subst hM
  have hle : tn x ≤ k := tn_le rfl (by omega) h0 h1
  have hne : tn x ≠ k := fun z => h2 (by rw [nI_self h0]; show nI (tn x) = nI k; rw [z])
  rw [← tn_1 h0]
  exact ⟨tn_nI (by omega), by omega, nI_pos (by omega), nI_nlt (by omega) (by omega)⟩
/-- only the text has changed -/
theorem Rel_txt {A A' B B' : Nat → Nat → Int32} (hA : ∀ k, 3 ≤ k → k < 179 → A' k = A k) (hB : ∀ k, 181 ≤ k → B' k = B k) (h9 : ∀ j, j ≠ 1 → B' 179 j = B 179 j) (ht : rT A' B') (h : Rel A B) : Rel A' B' :=
  ⟨ht, rP_cg (fun k k1 k2 => hA k k1 (by omega)) (h9 2 (by decide)) (h9 17 (by decide)) (fun k hk => hB k (by omega)) h.2.1,
   rN_cg (fun k k1 k2 => hA k (by omega) (by omega)) (h9 2 (by decide)) (hB 184 (by omega)) h.2.2.1,
   rH_cg (by rw [hA 29 (by omega) (by omega)]) (by rw [hA 29 (by omega) (by omega)]) (fun k k1 k2 => hA k (by omega) (by omega)) (h9 2 (by decide)) (h9 9 (by decide)) (h9 10 (by decide)) (hB 186 (by omega)) h.2.2.2.1,
   rK_cg (hA 144 (by omega) (by omega)) (fun k k1 k2 => hA k (by omega) (by omega)) (h9 2 (by decide)) (hB 187 (by omega)) (hB 188 (by omega)) h.2.2.2.2.1,
   rV_cg (by rw [hA 145 (by omega) (by omega)]) (hA 146 (by omega) (by omega)) (hA 147 (by omega) (by omega)) (h9 15 (by decide)) (hB 189 (by omega)) (hB 190 (by omega)) h.2.2.2.2.2⟩
theorem c_write {A B : Nat → Nat → Int32} (h : Rel A B) (c : Int32) : (xwrite A c).1 = (ywrite B c).1 ∧ Rel (xwrite A c).2 (ywrite B c).2 := by
  have e1 := h.1.1
  unfold xwrite ywrite
  by_cases hc : inP c 0 255
  · rw [if_pos hc, if_neg (fun w => w.elim hc.1 (fun z => hc.2 (Int32.not_le.mp z)))]
    by_cases h8 : A 1 1 = 80
    · rw [if_pos ((lt_ne h.1.2.1.2).mpr h8), if_pos (by rw [← e1]; exact h8)]
      exact ⟨rfl, h⟩
    · rw [if_neg (fun w => h8 ((lt_ne h.1.2.1.2).mp w)), if_neg (by rw [← e1]; exact h8)]
      obtain ⟨i1, i2, i3⟩ := inc_rg (k := 80) rfl (by decide) h.1.2.1.1 h.1.2.1.2 h8
      refine ⟨by show A 1 1 + 1 = B 179 1 + 1; rw [e1], Rel_txt (fun k k1 k2 => ?_) (fun k hk => ?_) (fun j hj => ?_) ?_ h⟩
      · show up2 (up2 A 2 _ _) 1 1 _ k = _
        rw [up2_row (by omega), up2_row (by omega)]
      · show up2 (up2 B 180 _ _) 179 1 _ k = _
        rw [up2_row (by omega), up2_row (by omega)]
      · show up2 (up2 B 180 _ _) 179 1 _ 179 j = _
        rw [up2_ne (Or.inr hj), up2_ne (Or.inl (by decide))]
      · show rT (up2 (up2 A 2 (tn (A 1 1)) c) 1 1 (A 1 1 + 1)) (up2 (up2 B 180 (tn (B 179 1)) c) 179 1 (B 179 1 + 1))
        rw [← e1]
        have u1 : ∀ j, up2 (up2 A 2 (tn (A 1 1)) c) 1 1 (A 1 1 + 1) 2 j = if j = tn (A 1 1) then c else A 2 j := fun j => by
          rw [up2_ne (Or.inl (by decide)), up2_q, upd_at]
        have u2 : ∀ j, up2 (up2 B 180 (tn (A 1 1)) c) 179 1 (A 1 1 + 1) 180 j = if j = tn (A 1 1) then c else B 180 j := fun j => by
          rw [up2_ne (Or.inl (by decide)), up2_q, upd_at]
        unfold rT
        rw [up2_same, up2_same, i1]
        refine ⟨rfl, i3, fun j hj => ?_⟩
        rw [u1, u2]
        by_cases z : j = tn (A 1 1)
        · rw [if_pos z, if_pos z]; exact ⟨rfl, hc⟩
        · rw [if_neg z, if_neg z]; exact h.1.2.2 j (by omega)
  · rw [if_neg hc, if_pos (Decidable.byContradiction (fun w => hc ⟨fun z => w (Or.inl z), fun z => w (Or.inr (Int32.not_le.mpr z))⟩))]
    exact ⟨rfl, h⟩
theorem c_wipe {A B : Nat → Nat → Int32} (h : Rel A B) : (xwipe A).1 = (ywipe B).1 ∧ Rel (xwipe A).2 (ywipe B).2 := by
  refine ⟨h.1.1, Rel_txt (fun k k1 k2 => ?_) (fun k hk => ?_) (fun j hj => ?_) ?_ h⟩
  · show up2 A 1 1 0 k = _
    rw [up2_row (by omega)]
  · show up2 B 179 1 0 k = _
    rw [up2_row (by omega)]
  · show up2 B 179 1 0 179 j = _
    rw [up2_ne (Or.inr hj)]
  · show rT (up2 A 1 1 0) (up2 B 179 1 0)
    unfold rT
    rw [up2_same, up2_same]
    exact ⟨rfl, by decide, fun j hj => absurd hj (by show ¬ j < tn 0; rw [show tn (0 : Int32) = 0 from rfl]; omega)⟩
/-- only what was seen has changed -/
theorem Rel_sig {A A' B B' : Nat → Nat → Int32} (hA : ∀ k, k < 179 → k ≠ 145 → k ≠ 146 → k ≠ 147 → A' k = A k) (hB : ∀ k, 180 ≤ k → k < 189 → B' k = B k) (h9 : ∀ j, j ≠ 15 → B' 179 j = B 179 j) (ht : rV A' B') (h : Rel A B) : Rel A' B' :=
  ⟨rT_cg (by rw [hA 1 (by omega) (by omega) (by omega) (by omega)]) (hA 2 (by omega) (by omega) (by omega) (by omega)) (h9 1 (by decide)) (hB 180 (by omega) (by omega)) h.1,
   rP_cg (fun k k1 k2 => hA k (by omega) (by omega) (by omega) (by omega)) (h9 2 (by decide)) (h9 17 (by decide)) (fun k hk => hB k (by omega) (by omega)) h.2.1,
   rN_cg (fun k k1 k2 => hA k (by omega) (by omega) (by omega) (by omega)) (h9 2 (by decide)) (hB 184 (by omega) (by omega)) h.2.2.1,
   rH_cg (by rw [hA 29 (by omega) (by omega) (by omega) (by omega)]) (by rw [hA 29 (by omega) (by omega) (by omega) (by omega)]) (fun k k1 k2 => hA k (by omega) (by omega) (by omega) (by omega)) (h9 2 (by decide)) (h9 9 (by decide)) (h9 10 (by decide)) (hB 186 (by omega) (by omega)) h.2.2.2.1,
   rK_cg (hA 144 (by omega) (by omega) (by omega) (by omega)) (fun k k1 k2 => hA k (by omega) (by omega) (by omega) (by omega)) (h9 2 (by decide)) (hB 187 (by omega) (by omega)) (hB 188 (by omega) (by omega)) h.2.2.2.2.1, ht⟩
theorem bit_01 {b : Int32} (h : inP b 0 1) : (if b = 1 then (1 : Int32) else 0) = b ∧ (b = 0 ∨ b = 1) := by
  obtain ⟨j, hj, rfl⟩ := nI_of h.1
  have : j ≤ 1 := Nat.le_of_not_lt (fun w => h.2 (nI_lt (a := 1) w hj))
  rcases (show j = 0 ∨ j = 1 by omega) with rfl | rfl <;> decide
theorem c_see {A B : Nat → Nat → Int32} (h : Rel A B) (v b : Int32) : (xsee A v b).1 = (ysee B v b).1 ∧ Rel (xsee A v b).2 (ysee B v b).2 := by
  obtain ⟨e1, hr, hj⟩ := h.2.2.2.2.2
  unfold xsee ysee
  by_cases hc : inP v 0 99 ∧ inP b 0 1
  · rw [if_pos hc, if_neg (fun w => w.elim hc.1.1 (fun z => z.elim hc.1.2 (fun z => z.elim hc.2.1 (fun y => hc.2.2 (Int32.not_le.mp y)))))]
    by_cases h6 : A 145 2 = 6
    · rw [if_pos ((lt_ne hr.2).mpr h6), if_pos (by rw [← e1]; exact h6)]
      exact ⟨rfl, h⟩
    · rw [if_neg (fun w => h6 ((lt_ne hr.2).mp w)), if_neg (show ¬ B 179 15 = 6 from by rw [← e1]; exact h6)]
      obtain ⟨i1, i2, i3⟩ := inc_rg (k := 6) rfl (by decide) hr.1 hr.2 h6
      obtain ⟨b1, b2⟩ := bit_01 hc.2
      refine ⟨by show A 145 2 + 1 = B 179 15 + 1; rw [e1], Rel_sig (fun k k1 k2 k3 k4 => ?_) (fun k hk hk2 => ?_) (fun j hj => ?_) ?_ h⟩
      · show up2 (up2 (up2 A 146 _ _) 147 _ _) 145 2 _ k = _
        rw [up2_row (by omega), up2_row (by omega), up2_row (by omega)]
      · show up2 (up2 (up2 B 189 _ _) 190 _ _) 179 15 _ k = _
        rw [up2_row (by omega), up2_row (by omega), up2_row (by omega)]
      · show up2 (up2 (up2 B 189 _ _) 190 _ _) 179 15 _ 179 j = _
        rw [up2_ne (Or.inr hj), up2_ne (Or.inl (by decide)), up2_ne (Or.inl (by decide))]
      · show rV (up2 (up2 (up2 A 146 (tn (A 145 2)) v) 147 (tn (A 145 2)) (if b = 1 then 1 else 0)) 145 2 (A 145 2 + 1)) (up2 (up2 (up2 B 189 (tn (B 179 15)) v) 190 (tn (B 179 15)) b) 179 15 (B 179 15 + 1))
        rw [← e1, b1]
        unfold rV
        rw [up2_same, up2_same, i1]
        refine ⟨rfl, i3, fun j hj2 => ?_⟩
        have u1 : up2 (up2 (up2 A 146 (tn (A 145 2)) v) 147 (tn (A 145 2)) b) 145 2 (A 145 2 + 1) 146 j = if j = tn (A 145 2) then v else A 146 j := by
          rw [up2_ne (Or.inl (by decide)), up2_ne (Or.inl (by decide)), up2_q, upd_at]
        have u2 : up2 (up2 (up2 A 146 (tn (A 145 2)) v) 147 (tn (A 145 2)) b) 145 2 (A 145 2 + 1) 147 j = if j = tn (A 145 2) then b else A 147 j := by
          rw [up2_ne (Or.inl (by decide)), up2_q, upd_at, up2_row (by decide)]
        have u3 : up2 (up2 (up2 B 189 (tn (A 145 2)) v) 190 (tn (A 145 2)) b) 179 15 (A 145 2 + 1) 189 j = if j = tn (A 145 2) then v else B 189 j := by
          rw [up2_ne (Or.inl (by decide)), up2_ne (Or.inl (by decide)), up2_q, upd_at]
        have u4 : up2 (up2 (up2 B 189 (tn (A 145 2)) v) 190 (tn (A 145 2)) b) 179 15 (A 145 2 + 1) 190 j = if j = tn (A 145 2) then b else B 190 j := by
          rw [up2_ne (Or.inl (by decide)), up2_q, upd_at, up2_row (by decide)]
        rw [u1, u2, u3, u4]
        by_cases z : j = tn (A 145 2)
        · rw [if_pos z, if_pos z, if_pos z, if_pos z]; exact ⟨rfl, rfl, b2⟩
        · rw [if_neg z, if_neg z, if_neg z, if_neg z]; exact hj j (by omega)
  · rw [if_neg hc, if_pos (Decidable.byContradiction (fun w => hc ⟨⟨fun z => w (Or.inl z), fun z => w (Or.inr (Or.inl z))⟩, fun z => w (Or.inr (Or.inr (Or.inl z))), fun z => w (Or.inr (Or.inr (Or.inr (Int32.not_le.mpr z))))⟩))]
    exact ⟨rfl, h⟩
theorem c_unsee {A B : Nat → Nat → Int32} (h : Rel A B) : (xunsee A).1 = (yunsee B).1 ∧ Rel (xunsee A).2 (yunsee B).2 := by
  refine ⟨h.2.2.2.2.2.1, Rel_sig (fun k k1 k2 k3 k4 => ?_) (fun k hk hk2 => ?_) (fun j hj => ?_) ?_ h⟩
  · show up2 A 145 2 0 k = _
    rw [up2_row (by omega)]
  · show up2 B 179 15 0 k = _
    rw [up2_row (by omega)]
  · show up2 B 179 15 0 179 j = _
    rw [up2_ne (Or.inr hj)]
  · show rV (up2 A 145 2 0) (up2 B 179 15 0)
    unfold rV
    rw [up2_same, up2_same]
    exact ⟨rfl, by decide, fun j hj => absurd hj (by show ¬ j < tn 0; rw [show tn (0 : Int32) = 0 from rfl]; omega)⟩
