/-- the kept copies of the state at s are the row's -/
def cyR (A : Nat → Nat → Int32) (s : Nat) (g : Nat → Int32) : Prop := A s 3 = g 122 ∧ (¬ g 122 < 0 ∧ ¬ 3 < g 122) ∧ ∀ j, j < tn (g 122) → A (s + 7) j = g (123 + j)
def kcG (g : Nat → Int32) (v : Int32) : Nat → Int32 := if amP (fun j => g (123 + j)) (tn (g 122)) v then g else if g 122 = 3 then upd (upd (upd (upd (upd g 123 (g 124)) 124 (g 125)) 122 2) 125 v) 122 3 else upd (upd g (123 + tn (g 122)) v) 122 (g 122 + 1)
theorem kcM_q (B : Nat → Nat → Int32) (q : Nat) (v : Int32) : kcM B q v q = kcG (B q) v := by
  unfold kcM kcG
  by_cases c : amP (fun j => B q (123 + j)) (tn (B q 122)) v
  · rw [if_pos c, if_pos c]
  · rw [if_neg c, if_neg c]
    by_cases c3 : B q 122 = 3
    · rw [if_pos c3, if_pos c3, up2_q, up2_q, up2_q, up2_q, up2_q]
    · rw [if_neg c3, if_neg c3, up2_q, up2_q]
theorem am_cg {f g : Nat → Int32} {c : Nat} {v : Int32} (h : ∀ j, j < c → f j = g j) : amP f c v ↔ amP g c v := by
  unfold amP
  constructor
  · rintro (z | z | z)
    · exact Or.inl ⟨z.1, by rw [← h 0 z.1]; exact z.2⟩
    · exact Or.inr (Or.inl ⟨z.1, by rw [← h 1 z.1]; exact z.2⟩)
    · exact Or.inr (Or.inr ⟨z.1, by rw [← h 2 z.1]; exact z.2⟩)
  · rintro (z | z | z)
    · exact Or.inl ⟨z.1, by rw [h 0 z.1]; exact z.2⟩
    · exact Or.inr (Or.inl ⟨z.1, by rw [h 1 z.1]; exact z.2⟩)
    · exact Or.inr (Or.inr ⟨z.1, by rw [h 2 z.1]; exact z.2⟩)
theorem kc_rel {A : Nat → Nat → Int32} {s : Nat} {g : Nat → Int32} (h : cyR A s g) (v : Int32) : cyR (kcS A s v) s (kcG g v) := by
  obtain ⟨h1, h2, h3⟩ := h
  have ha : amP (A (s + 7)) (tn (A s 3)) v ↔ amP (fun j => g (123 + j)) (tn (g 122)) v := by rw [h1]; exact am_cg h3
  unfold kcS kcG
  by_cases c : amP (fun j => g (123 + j)) (tn (g 122)) v
  · rw [if_pos c, if_pos (ha.mpr c)]; exact ⟨h1, h2, h3⟩
  · rw [if_neg c, if_neg (fun z => c (ha.mp z)), h1]
    by_cases c3 : g 122 = 3
    · rw [if_pos c3, if_pos c3]
      have e3 : tn (g 122) = 3 := by rw [c3]; rfl
      have b1 := h3 1 (by omega)
      have b2 := h3 2 (by omega)
      refine ⟨?_, ?_, fun j hj => ?_⟩
      · rw [up2_ne (Or.inl (by omega)), up2_ne (Or.inl (by omega)), up2_ne (Or.inl (by omega)), h1, c3, upd_at, if_pos rfl]
      · rw [upd_at, if_pos rfl]; decide
      · rw [upd_at, if_pos rfl] at hj
        have hj3 : j < 3 := hj
        rcases (show j = 0 ∨ j = 1 ∨ j = 2 by omega) with rfl | rfl | rfl <;> simp [up2_at, upd_at, b1, b2]
    · rw [if_neg c3, if_neg c3]
      have h33 := tn_le (M := 3) (k := 3) rfl (by decide) h2.1 h2.2
      have hne : tn (g 122) ≠ 3 := fun z => c3 (by rw [nI_self h2.1, show (g 122).toNatClampNeg = 3 from z]; rfl)
      have e1 : tn (g 122 + 1) = tn (g 122) + 1 := by rw [← tn_1 h2.1, tn_nI (by omega)]
      refine ⟨?_, ?_, fun j hj => ?_⟩
      · rw [up2_same, upd_at, if_pos rfl]
      · rw [upd_at, if_pos rfl]
        have e := nI_self h2.1
        rcases (show tn (g 122) = 0 ∨ tn (g 122) = 1 ∨ tn (g 122) = 2 by omega) with z | z | z <;> rw [e, show (g 122).toNatClampNeg = _ from z] <;> decide
      · rw [upd_at, if_pos rfl, e1] at hj
        rw [up2_ne (Or.inl (by omega)), show upd (upd g (123 + tn (g 122)) v) 122 (g 122 + 1) (123 + j) = upd g (123 + tn (g 122)) v (123 + j) from by rw [upd_at, if_neg (by omega)], up2_at, upd_at]
        by_cases z : j = tn (g 122)
        · rw [if_pos ⟨rfl, z⟩, if_pos (by omega)]
        · rw [if_neg (fun w => z w.2), if_neg (by omega)]; exact h3 j (by omega)
/-- the two ways of counting the watched cells -/
theorem bc_on : ∀ w, w < 256 → bcF (nI w) = onL (nI w) 16 0 0 := by decide +kernel
