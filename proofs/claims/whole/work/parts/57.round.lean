theorem stR_set {A : Nat → Nat → Int32} {s : Nat} {g : Nat → Int32} {n : Nat} (h : stR A s g n) (hb : tn (g 20) ≤ 8) {x : Nat} (hx : x < 16) (hc : ¬ g (26 + x) = 0) {k : Nat} (hk : k = 4 ∨ k = 5) (v : Int32) : stR (up2 A (s + 6) (6 * x + k) v) s (upd g (26 + 16 * k + x) v) n := by
  obtain ⟨hm, hcy, hbr, hz, ⟨e4, e5, e6⟩, w, hw, hw2⟩ := h
  have hg : ∀ j, (j < 90 ∨ 122 ≤ j) → upd g (26 + 16 * k + x) v j = g j := fun j hj => by rw [upd_at, if_neg (by omega)]
  refine ⟨mcR_cg (fun a a1 a2 => up2_row (by omega)) (mcR_g (fun j hj => hg j (by omega)) hb hm), cyR_cg (up2_ne (Or.inl (by omega))) (up2_row (by omega)) (fun j h1 h2 => hg j (by omega)) hcy, brR_set hbr hx hc hk v, brN_cg (fun j h1 h2 => hg j (by omega)) hz, ⟨?_, ?_, ?_⟩, w, hw, by rw [hg 25 (by omega)]; exact hw2⟩
  · rw [up2_ne (Or.inl (by omega)), hg 25 (by omega)]; exact e4
  · rw [up2_ne (Or.inl (by omega)), hg 126 (by omega)]; exact e5
  · rw [up2_ne (Or.inl (by omega)), hg 127 (by omega)]; exact e6
/-- the two stop alike -/
theorem stop_rel {A B : Nat → Nat → Int32} {s q : Nat} (hN : wfN B) (hR : wfR B q) (h : stR A s (B q) (tn (B 179 2))) : stopR A (s + 5) (s + 1) = (if isqP B q then 1 else 0) ∧ stR (stopS A (s + 5) (s + 1)) s (isqS B q q) (tn (B 179 2)) := by
  have hb := tn_le (M := 8) (k := 8) rfl (by decide) hR.1.1 hR.1.2
  have ha := app_rel hN h.2.2.1 h.2.2.2.1 h.1
  have e4 : A (s + 1) 4 = B q 21 := h.1.2.2.2.2.1
  unfold stopR stopS
  by_cases c : aplP B q (B q 21)
  · have hx := (hY16 hN c.1).2
    have hp := (h.2.2.1 _ hx).2.2.2 c.2.1
    rw [if_pos (ha.mpr c), if_pos (ha.mpr c), isqS, if_pos c, e4, hp.2.2.2.1]
    by_cases c2 : 0 < B q (90 + tn (B q 21))
    · rw [if_pos c2, if_pos c2, if_pos c2, if_neg (show ¬ isqP B q from fun z => z.2 c2), up2_q]
      exact ⟨rfl, stR_set h hb hx c.2.1 (Or.inl rfl) _⟩
    · rw [if_neg c2, if_neg c2, if_neg c2, if_pos (show isqP B q from ⟨c, c2⟩), up2_q, hp.2.2.2.2]
      exact ⟨rfl, stR_set h hb hx c.2.1 (Or.inr rfl) _⟩
  · rw [if_neg (fun z => c (ha.mp z)), if_neg (fun z => c (ha.mp z)), if_neg (show ¬ isqP B q from fun z => c z.1), isqS, if_neg c]
    exact ⟨rfl, h⟩
theorem icB_iff (S : Nat → Nat → Int32) (q : Nat) : ∀ n, icB S q n = true ↔ ∃ k, k < n ∧ icP S q k
  | 0 => ⟨fun h => absurd h (by simp [icB]), fun ⟨k, h, _⟩ => absurd h (by omega)⟩
  | n + 1 => by
    rw [icB, Bool.or_eq_true, decide_eq_true_eq, icB_iff S q n]
    constructor
    · rintro (⟨k, h1, h2⟩ | h)
      · exact ⟨k, by omega, h2⟩
      · exact ⟨n, by omega, h⟩
    · rintro ⟨k, h1, h2⟩
      by_cases z : k = n
      · subst z; exact Or.inr h2
      · exact Or.inl ⟨k, by omega, h2⟩
/-- what a bare step makes of the cells -/
theorem bs_cell {B : Nat → Nat → Int32} {q : Nat} (hY : wfY B) (hi : ¬ bsI B q) (hR : wfR B q) (hb : bsP B q) {c : Nat} (hc : c < 8) : bsS B q q (4 + c) = if B 181 (tn (B q 21)) = 4 ∧ c = tn (B 183 (tn (B q 21))) then B q (tn (B 182 (tn (B q 21)))) else B q (4 + c) := by
  have hf := (bsP_iff hi).mp hb
  have hw := hY.2 _ (hY16 hY.1 (bsP_has hb)).1
  have h8 := tn_le (M := 8) (k := 8) rfl (by decide) hR.1.1 hR.1.2
  rw [bsS, if_neg hi, if_neg hf, up2_ne (Or.inr (by omega))]
  generalize B q 21 = t at *
  have hx : ¬ B 181 (tn t) = 7 → tn (B 182 (tn t)) < 4 := fun z => tn_lt (M := 4) (k := 4) rfl (by decide) (hw.1 z).1 (hw.1 z).2
  have u : ∀ (T : Nat → Nat → Int32) (a : Nat) (v : Int32), (a < 4 ∨ 12 ≤ a) → up2 T q a v q (4 + c) = T q (4 + c) := fun T a v ha => up2_ne (Or.inr (by omega))
  by_cases k4 : B 181 (tn t) = 4
  · have hy := tn_lt (M := 8) (k := 8) rfl (by decide) (hw.2.2 (Or.inr k4)).1 (hw.2.2 (Or.inr k4)).2
    rw [ypS, k4, if_neg (by decide), if_neg (by decide), if_neg (by decide), if_neg (by decide), if_pos rfl, up2_at]
    by_cases z : c = tn (B 183 (tn t))
    · rw [if_pos ⟨rfl, by omega⟩, if_pos ⟨rfl, z⟩]
    · rw [if_neg (fun w => z (by omega)), if_neg (fun w => z w.2)]
  · rw [if_neg (fun w => k4 w.1)]
    unfold ypS
    by_cases d : B 181 (tn t) = 0
    · rw [if_pos d, u _ _ _ (Or.inl (hx (by rw [d]; decide)))]
    rw [if_neg d]
    clear d
    by_cases d : B 181 (tn t) = 1
    · rw [if_pos d, u _ _ _ (Or.inl (hx (by rw [d]; decide)))]
    rw [if_neg d]
    clear d
    by_cases d : B 181 (tn t) = 2
    · rw [if_pos d, u _ _ _ (Or.inl (hx (by rw [d]; decide)))]
    rw [if_neg d]
    clear d
    by_cases d : B 181 (tn t) = 3
    · rw [if_pos d, u _ _ _ (Or.inl (hx (by rw [d]; decide)))]
    rw [if_neg d, if_neg k4]
    clear d
    by_cases d : B 181 (tn t) = 5
    · rw [if_pos d]
    rw [if_neg d]
    clear d
    by_cases d : B 181 (tn t) = 6
    · rw [if_pos d]
    rw [if_neg d]
    clear d
    by_cases d : B 181 (tn t) = 7
    · rw [if_pos d, u _ _ _ (Or.inr (by decide)), u _ _ _ (Or.inr (by omega))]
    rw [if_neg d]
    clear d
    by_cases d : B 181 (tn t) = 8
    · rw [if_pos d, u _ _ _ (Or.inr (by decide))]
    rw [if_neg d]
    clear d
    by_cases d : B 181 (tn t) = 9
    · rw [if_pos d, u _ _ _ (Or.inl (hx (by rw [d]; decide)))]
    rw [if_neg d]
    clear d
    by_cases d : B 181 (tn t) = 10
    · rw [if_pos d, u _ _ _ (Or.inr (by decide)), u _ _ _ (Or.inr (by decide))]
    rw [if_neg d]
    exact u _ _ _ (Or.inr (by decide))
