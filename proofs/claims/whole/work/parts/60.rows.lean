/-- a row whose numbers are in their ranges -/
def wfRo (g : Nat → Int32) : Prop := (¬ g 20 < 0 ∧ ¬ 8 < g 20) ∧ (¬ g 122 < 0 ∧ ¬ 3 < g 122) ∧ ∀ a, a < 16 → ¬ g (26 + a) = 0 → (g (42 + a) = -9 ∨ (¬ g (42 + a) < 0 ∧ ¬ 4 ≤ g (42 + a)))
theorem wfRo_R {B : Nat → Nat → Int32} {q : Nat} : wfR B q ↔ wfRo (B q) := Iff.rfl
/-- the state stands as the row says when both are copied -/
theorem stR_cp {A A' : Nat → Nat → Int32} {s s' : Nat} {g g' : Nat → Int32} {n : Nat} (hA : ∀ k, k < 8 → A' (s' + k) = A (s + k)) (hg : ∀ j, j < 128 → g' j = g j) (hw : wfRo g) (h : stR A s g n) : stR A' s' g' n := by
  obtain ⟨hm, hc, hbr, hz, ⟨e4, e5, e6⟩, w, hw1, hw2⟩ := h
  have hb := tn_le (M := 8) (k := 8) rfl (by decide) hw.1.1 hw.1.2
  have hk := tn_le (M := 3) (k := 3) rfl (by decide) hw.2.1.1 hw.2.1.2
  have a0 : A' s' = A s := hA 0 (by omega)
  have a1 := hA 1 (by omega)
  have a2 : A' (s' + 1 + 1) = A (s + 1 + 1) := hA 2 (by omega)
  have a3 : A' (s' + 1 + 2) = A (s + 1 + 2) := hA 3 (by omega)
  have a4 : A' (s' + 1 + 3) = A (s + 1 + 3) := hA 4 (by omega)
  have a6 : A' (s' + 5 + 1) = A (s + 5 + 1) := hA 6 (by omega)
  have a7 := hA 7 (by omega)
  refine ⟨mcR_g (fun j hj => hg j (by omega)) hb ?_, ?_, ?_, brN_cg (fun j h1 h2 => hg j (by omega)) hz, ⟨?_, ?_, ?_⟩, w, hw1, by rw [hg 25 (by omega)]; exact hw2⟩
  · unfold mcR; rw [a1, a2, a3, a4]; exact hm
  · unfold cyR
    rw [a0, a7, hg 122 (by omega)]
    exact ⟨hc.1, hc.2.1, fun j hj => by rw [hg _ (by omega)]; exact hc.2.2 j hj⟩
  · intro p hp
    unfold brp
    rw [a6, hg _ (by omega), hg (42 + p) (by omega), hg (58 + p) (by omega), hg (74 + p) (by omega), hg (90 + p) (by omega), hg (106 + p) (by omega)]
    exact hbr p hp
  · rw [a0, hg 25 (by omega)]; exact e4
  · rw [a0, hg 126 (by omega)]; exact e5
  · rw [a0, hg 127 (by omega)]; exact e6
/-- two ways of saying a range -/
theorem in_lt {r M K : Int32} {k : Nat} (hk : k + 1 < 2147483648) (hM : M = nI (k + 1)) (hK : K = nI k) : (¬ r < 0 ∧ ¬ M ≤ r) ↔ inP r 0 K := by
  subst hM; subst hK
  constructor
  · rintro ⟨h0, h1⟩
    obtain ⟨j, hj, rfl⟩ := nI_of h0
    exact ⟨h0, fun w => h1 (nI_le (by have := (nI_ltI (by omega) hj).mp w; omega) hj)⟩
  · rintro ⟨h0, h1⟩
    obtain ⟨j, hj, rfl⟩ := nI_of h0
    exact ⟨h0, fun w => h1 (nI_lt (by have := (nI_leI hk hj).mp w; omega) hj)⟩
/-- registers, cells, stack, copies answer alike -/
theorem q_register {A B : Nat → Nat → Int32} {n : Nat} (h : stR A 13 (B 184) n) (r : Int32) : xregister A r = yregister B r := by
  have e := in_lt (r := r) (M := 4) (K := 3) (k := 3) (by decide) rfl rfl
  unfold xregister yregister
  by_cases c : inP r 0 3
  · rw [if_pos c, if_pos (e.mpr c)]
    exact h.1.1 _ (tn_lt (M := 4) (k := 4) rfl (by decide) (e.mpr c).1 (e.mpr c).2)
  · rw [if_neg c, if_neg (fun z => c (e.mp z))]
theorem q_cell {A B : Nat → Nat → Int32} {n : Nat} (h : stR A 13 (B 184) n) (r : Int32) : xcell A r = ycell B r := by
  have e := in_lt (r := r) (M := 8) (K := 7) (k := 7) (by decide) rfl rfl
  unfold xcell ycell
  by_cases c : inP r 0 7
  · rw [if_pos c, if_pos (e.mpr c)]
    exact h.1.2.1 _ (tn_lt (M := 8) (k := 8) rfl (by decide) (e.mpr c).1 (e.mpr c).2)
  · rw [if_neg c, if_neg (fun z => c (e.mp z))]
theorem q_stack {A B : Nat → Nat → Int32} {n : Nat} (hR : wfR B 184) (h : stR A 13 (B 184) n) (r : Int32) : xstack A r = ystack B r := by
  have e : A 14 3 = B 184 20 := h.1.2.2.2.1
  unfold xstack ystack
  rw [e]
  by_cases c : r < 0
  · rw [if_pos c, if_neg (fun z => z.1 c)]
  · rw [if_neg c]
    by_cases c2 : B 184 20 ≤ r
    · rw [if_pos c2, if_neg (fun z => z.2 c2)]
    · rw [if_neg c2, if_pos ⟨c, c2⟩]
      exact h.1.2.2.1 _ (hasI c c2 hR.1.1)
theorem q_copy {A B : Nat → Nat → Int32} {n : Nat} (hR : wfR B 184) (h : stR A 13 (B 184) n) (r : Int32) : xcopy A r = ycopy B r := by
  have e : A 13 3 = B 184 122 := h.2.1.1
  unfold xcopy ycopy
  rw [e]
  by_cases c : r < 0
  · rw [if_pos c, if_neg (fun z => z.1 c)]
  · rw [if_neg c]
    by_cases c2 : B 184 122 ≤ r
    · rw [if_pos c2, if_neg (fun z => z.2 c2)]
    · rw [if_neg c2, if_pos ⟨c, c2⟩]
      exact h.2.1.2.2 _ (hasI c c2 hR.2.1.1)
