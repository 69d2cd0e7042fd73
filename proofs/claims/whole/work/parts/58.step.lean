theorem hasY_lt {B : Nat → Nat → Int32} {t : Int32} (h : hasY B t) (hN : wfN B) : tn t < tn (B 179 2) := (hY16 hN h).1
/-- a counted step of the one is a counted step of the other -/
theorem step_rel {A B : Nat → Nat → Int32} {s r q : Nat} (hq : shp q = (11, 128)) (hd : r + 5 ≤ s ∨ s + 8 ≤ r) (hp : prR A r B) (h : stR A s (B q) (tn (B 179 2))) (hY : wfY B) (hR : wfR B q) (hi : ¬ bsI B q) (hb : bsP B q) : stR (ra1 A s r) s (spS B q q) (tn (B 179 2)) := by
  obtain ⟨hm, hc, hbr, hz, ⟨e4, e5, e6⟩, w, hw, hw2⟩ := h
  have et : A (s + 1) 4 = B q 21 := hm.2.2.2.2.1
  have hh := bsP_has hb
  have hg : ∀ j, 25 ≤ j → bsS B q q j = B q j := fun j hj => bsS_hi hY hR (Or.inr hj)
  have hrow : ∀ k, (k < s + 1 ∨ s + 1 + 4 ≤ k) → stS A (s + 1) r k = A k := fun k hk => stS_row hk
  have h1 : stR (stS A (s + 1) r) s (bsS B q q) (tn (B 179 2)) := by
    refine ⟨bare_S hp hm hY hR hi hb, cyR_cg (by rw [hrow s (by omega)]) (hrow _ (by omega)) (fun j a b => hg j (by omega)) hc, brR_cg (hrow _ (by omega)) (fun j a b => hg j (by omega)) hbr, brN_cg (fun j a b => hg j (by omega)) hz, ⟨?_, ?_, ?_⟩, w, hw, by rw [hg 25 (by omega)]; exact hw2⟩
    · rw [hrow s (by omega), hg 25 (by omega)]; exact e4
    · rw [hrow s (by omega), hg 126 (by omega)]; exact e5
    · rw [hrow s (by omega), hg 127 (by omega)]; exact e6
  have h20 := bsS_20 hY hR
  rw [ra1, et, spS, if_pos hb]
  refine ch_rel (N := B 179 2) hY.1 rfl hh h1 (tn_le (M := 8) (k := 8) rfl (by decide) h20.1 h20.2) (fun U hU => ?_)
  have hne := hq_ne hq
  have e : ∀ k, k ≠ q → U k = B k := fun k hk => by rw [hU k hk]; funext j; exact bsS_hi hY hR (Or.inl hk)
  rw [hrow (r + 4) (by omega), (hp.2 _ (hasY_lt hh hY.1)).2.2.2.2]
  exact laL_cg (e 181 hne.2.1.symm) (e 182 hne.2.2.1.symm) (e 183 hne.2.2.2.1.symm) _ _ _
theorem sp_cell {B : Nat → Nat → Int32} {q j : Nat} (hY : wfY B) (hR : wfR B q) (hb : bsP B q) (hj : j < 122) : spS B q q j = bsS B q q j := by
  rw [spS, if_pos hb, spU_fr (Or.inr (by omega)), spT_fr (bsS_ke hY hR) (Or.inr hj)]
theorem yk_4 {k : Int32} (h : kinP k) : ykF k = 4 ↔ k = 115 := by rcases h with rfl | rfl | rfl | rfl | rfl | rfl | rfl | rfl | rfl | rfl | rfl | rfl <;> decide
/-- a watched cell is changed for the one where it is for the other; C is B with the cells laid by -/
theorem watch_rel {A C : Nat → Nat → Int32} {s r q : Nat} (hq : shp q = (11, 128)) (hd : r + 5 ≤ s ∨ s + 8 ≤ r) (hp : prR A r C) (h : stR A s (C q) (tn (C 179 2))) (hY : wfY C) (hR : wfR C q) (hi : ¬ bsI C q) (hb : bsP C q) (h91 : ∀ j, j < 8 → C 191 j = C q (4 + j)) : raW A s r ↔ icB (spS C q) q 8 = true := by
  have hs := step_rel hq hd hp h hY hR hi hb
  have et : A (s + 1) 4 = C q 21 := h.1.2.2.2.2.1
  have hh := bsP_has hb
  have hlt := hasY_lt hh hY.1
  obtain ⟨hk, e, _, hn, _⟩ := hp.2 _ hlt
  have hU91 : ∀ j, j < 8 → spS C q 191 j = C q (4 + j) := fun j hj => by rw [spS_fr hY hR (Or.inl (hq_ne hq).2.2.2.2.symm)]; exact h91 j hj
  have hcell : ∀ c, c < 8 → spS C q q (4 + c) = if C 181 (tn (C q 21)) = 4 ∧ c = tn (C 183 (tn (C q 21))) then C q (tn (C 182 (tn (C q 21)))) else C q (4 + c) := fun c hc => by rw [sp_cell hY hR hb (by omega)]; exact bs_cell hY hi hR hb hc
  have hsv : raT A s r = if A (r + 1) (tn (C q 21)) = 115 then A (r + 3) (tn (C q 21)) else -9 := by
    rw [raT, svF, et, hp.1]
    by_cases z : A (r + 1) (tn (C q 21)) = 115
    · rw [if_pos ⟨hh, z⟩, if_pos z]
    · rw [if_neg (fun w => z w.2), if_neg z]
  have ew : ra1 A s r s 4 = spS C q q 25 := hs.2.2.2.2.1.1
  rw [icB_iff]
  constructor
  · rintro ⟨⟨hrg, hwt⟩, hne⟩
    have hx := tn_lt (M := 8) (k := 8) rfl (by decide) hrg.1 hrg.2
    refine ⟨tn (raT A s r), hx, ?_, ?_⟩
    · rw [← ew, show nI (tn (raT A s r)) = raT A s r from (nI_self hrg.1).symm]; exact hwt
    · rw [hU91 _ hx, ← h.1.2.1 _ hx, ← hs.1.2.1 _ hx]
      rw [raB, if_pos hrg] at hne
      exact hne
  · rintro ⟨k, hk8, hwt, hne⟩
    rw [hU91 k hk8] at hne
    have hc : C 181 (tn (C q 21)) = 4 ∧ k = tn (C 183 (tn (C q 21))) := Decidable.byContradiction (fun z => hne (by rw [hcell k hk8, if_neg z]))
    have k115 : A (r + 1) (tn (C q 21)) = 115 := (yk_4 hk).mp (by rw [← e]; exact hc.1)
    have hw := (hY.2 _ hlt).2.2 (Or.inr hc.1)
    have hT : raT A s r = C 183 (tn (C q 21)) := by rw [hsv, if_pos k115]; exact (hn (by rw [k115]; decide)).2
    have hTk : tn (raT A s r) = k := by rw [hT]; exact hc.2.symm
    have hrg : ¬ raT A s r < 0 ∧ ¬ 8 ≤ raT A s r := by rw [hT]; exact hw
    refine ⟨⟨hrg, ?_⟩, ?_⟩
    · rw [ew, nI_self hrg.1, show (raT A s r).toNatClampNeg = k from hTk]; exact hwt
    · rw [raB, if_pos hrg, hTk]
      intro z
      apply hne
      rw [← hs.1.2.1 _ hk8, ← h.1.2.1 _ hk8]
      exact z
