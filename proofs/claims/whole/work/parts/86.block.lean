theorem dg_a : ∀ v, v < 256 → ((¬ nI v < 48 ∧ ¬ 51 < nI v) ↔ inP (nI v - 48) 0 3) ∧ ((¬ nI v < 48 ∧ ¬ 55 < nI v) ↔ inP (nI v - 48) 0 7) := by decide +kernel
theorem dg_b : ∀ v, v < 256 → ((¬ nI v < 48 ∧ ¬ 57 < nI v) ↔ inP (nI v - 48) 0 9) ∧ ((¬ nI v < 48 ∧ ¬ 53 < nI v) ↔ inP (nI v - 48) 0 5) := by decide +kernel
theorem dg_d : ∀ v, v < 256 → ((nI v = 48 ∨ nI v = 49) ↔ inP (nI v - 48) 0 1) ∧ (nI v = 48 → nI v - 48 = 0) ∧ (nI v = 49 → ¬ nI v - 48 = 0) := by decide +kernel
theorem dg_c {c : Int32} (h : ¬ c < 0 ∧ ¬ 255 < c) : ((¬ c < 48 ∧ ¬ 51 < c) ↔ inP (c - 48) 0 3) ∧ ((¬ c < 48 ∧ ¬ 55 < c) ↔ inP (c - 48) 0 7) ∧ ((¬ c < 48 ∧ ¬ 57 < c) ↔ inP (c - 48) 0 9) ∧ ((¬ c < 48 ∧ ¬ 53 < c) ↔ inP (c - 48) 0 5) ∧ ((c = 48 ∨ c = 49) ↔ inP (c - 48) 0 1) ∧ (c = 48 → c - 48 = 0) ∧ (c = 49 → ¬ c - 48 = 0) := by
  obtain ⟨v, hv, rfl⟩ := byteN h
  exact ⟨(dg_a v hv).1, (dg_a v hv).2, (dg_b v hv).1, (dg_b v hv).2, dg_d v hv⟩
theorem fit_m {A : Nat → Nat → Int32} {j : Nat} : fitP A 109 j ↔ (¬ A 2 j < 48 ∧ ¬ 55 < A 2 j) := by unfold fitP; rw [if_pos rfl]
theorem fit_r {A : Nat → Nat → Int32} {j : Nat} : fitP A 114 j ↔ (¬ A 2 j < 48 ∧ ¬ 51 < A 2 j) := by unfold fitP; rw [if_neg (by decide), if_pos rfl]
theorem fit_s {A : Nat → Nat → Int32} {j : Nat} : fitP A 115 j ↔ (A 2 j = 43 ∨ A 2 j = 45) := by unfold fitP; rw [if_neg (by decide), if_neg (by decide), if_pos rfl]
theorem fit_t {A : Nat → Nat → Int32} {j : Nat} : fitP A 116 j ↔ (A 2 j = 48 ∨ A 2 j = 49) := by unfold fitP; rw [if_neg (by decide), if_neg (by decide), if_neg (by decide), if_pos rfl]
theorem fit_u {A : Nat → Nat → Int32} {j : Nat} : fitP A 117 j ↔ (¬ A 2 j < 48 ∧ ¬ (if A 2 (j - 1) = 49 then 53 else 57) < A 2 j) := by unfold fitP; rw [if_neg (by decide), if_neg (by decide), if_neg (by decide), if_neg (by decide), if_pos rfl]
theorem fit_f {A : Nat → Nat → Int32} {j : Nat} : fitP A 102 j ↔ (¬ A 2 j < 48 ∧ ¬ 57 < A 2 j) := by unfold fitP; rw [if_neg (by decide), if_neg (by decide), if_neg (by decide), if_neg (by decide), if_neg (by decide)]
section BLK
variable {A B : Nat → Nat → Int32} {len a fk : Nat}
theorem blk0 (hfk : fkF (A 2 a) = fk) (hst : stL.getD fk 0 = 0) : emF A a = a + 1 := by unfold emF; rw [hfk, hst]; rfl
theorem blk1 {E1 : Nat → Nat → Int32} (hL : tn (A 1 1) = len) (hfk : fkF (A 2 a) = fk) (hst : stL.getD fk 0 = 1) (h0 : rtL (len - a) a B = rtL (len - (a + 1)) (a + 1) E1) (ha : a < len) (h22 : ¬ E1 179 22 = 0) (hl : E1 179 1 = nI len) (f1 : a + 1 < len → (fitP A (chF fk 0) (a + 1) ↔ ¬ toR E1 (E1 180 (a + 1)) = 0)) :
    (emF A a < a + 1 + 1 → (rtL (len - a) a B).1 = nI (emF A a)) ∧ (¬ emF A a < a + 1 + 1 → emF A a = a + 2 ∧ a + 2 ≤ len ∧ fitP A (chF fk 0) (a + 1) ∧ rtL (len - a) a B = rtL (len - (a + 2)) (a + 2) (toS E1 (E1 180 (a + 1)))) := by
  have ee : emF A a = emL A fk (a + 1) 1 0 := by unfold emF; rw [hfk, hst]
  by_cases c : a + 1 < len ∧ fitP A (chF fk 0) (a + 1)
  · have e1 : emF A a = a + 2 := by rw [ee, emL, if_pos (by rw [hL]; exact c)]; rfl
    rw [e1]
    refine ⟨fun z => absurd z (by omega), fun _ => ⟨rfl, by omega, c.2, by rw [h0, op_ok h22 c.1 ((f1 c.1).mp c.2)]⟩⟩
  · have e1 : emF A a = a + 1 := by rw [ee, emL, if_neg (by rw [hL]; exact c)]
    rw [e1]
    refine ⟨fun _ => ?_, fun z => absurd (show a + 1 < a + 1 + 1 by omega) z⟩
    rw [h0]
    exact op_no h22 hl (by omega) (fun hj => Decidable.byContradiction (fun w => c ⟨hj, (f1 hj).mpr w⟩))
theorem blk2 {E1 E2 : Nat → Nat → Int32} (hL : tn (A 1 1) = len) (hfk : fkF (A 2 a) = fk) (hst : stL.getD fk 0 = 2) (h0 : rtL (len - a) a B = rtL (len - (a + 1)) (a + 1) E1) (ha : a < len) (h22 : ¬ E1 179 22 = 0) (hl : E1 179 1 = nI len) (f1 : a + 1 < len → (fitP A (chF fk 0) (a + 1) ↔ ¬ toR E1 (E1 180 (a + 1)) = 0)) (hE2 : toS E1 (E1 180 (a + 1)) = E2) (h22' : ¬ E2 179 22 = 0) (hl' : E2 179 1 = nI len) (f2 : a + 2 < len → fitP A (chF fk 0) (a + 1) → (fitP A (chF fk 1) (a + 2) ↔ ¬ toR E2 (E2 180 (a + 2)) = 0)) :
    (emF A a < a + 1 + 2 → (rtL (len - a) a B).1 = nI (emF A a)) ∧ (¬ emF A a < a + 1 + 2 → emF A a = a + 3 ∧ a + 3 ≤ len ∧ fitP A (chF fk 0) (a + 1) ∧ fitP A (chF fk 1) (a + 2) ∧ rtL (len - a) a B = rtL (len - (a + 3)) (a + 3) (toS E2 (E2 180 (a + 2)))) := by
  have ee : emF A a = emL A fk (a + 1) 2 0 := by unfold emF; rw [hfk, hst]
  by_cases c : a + 1 < len ∧ fitP A (chF fk 0) (a + 1)
  · have h1 : rtL (len - a) a B = rtL (len - (a + 2)) (a + 2) E2 := by rw [h0, op_ok h22 c.1 ((f1 c.1).mp c.2), hE2]
    by_cases d : a + 2 < len ∧ fitP A (chF fk 1) (a + 2)
    · have e1 : emF A a = a + 3 := by rw [ee, emL, if_pos (by rw [hL]; exact c), emL, if_pos (by rw [hL]; exact d)]; rfl
      rw [e1]
      refine ⟨fun z => absurd z (by omega), fun _ => ⟨rfl, by omega, c.2, d.2, by rw [h1, op_ok h22' d.1 ((f2 d.1 c.2).mp d.2)]⟩⟩
    · have e1 : emF A a = a + 2 := by rw [ee, emL, if_pos (by rw [hL]; exact c), emL, if_neg (by rw [hL]; exact d)]
      rw [e1]
      refine ⟨fun _ => ?_, fun z => absurd (show a + 2 < a + 1 + 2 by omega) z⟩
      rw [h1]
      exact op_no h22' hl' (by omega) (fun hj => Decidable.byContradiction (fun w => d ⟨hj, (f2 hj c.2).mpr w⟩))
  · have e1 : emF A a = a + 1 := by rw [ee, emL, if_neg (by rw [hL]; exact c)]
    rw [e1]
    refine ⟨fun _ => ?_, fun z => absurd (show a + 1 < a + 1 + 2 by omega) z⟩
    rw [h0]
    exact op_no h22 hl (by omega) (fun hj => Decidable.byContradiction (fun w => c ⟨hj, (f1 hj).mpr w⟩))
theorem blk3 {E1 E2 E3 : Nat → Nat → Int32} (hL : tn (A 1 1) = len) (hfk : fkF (A 2 a) = fk) (hst : stL.getD fk 0 = 3) (h0 : rtL (len - a) a B = rtL (len - (a + 1)) (a + 1) E1) (ha : a < len) (h22 : ¬ E1 179 22 = 0) (hl : E1 179 1 = nI len) (f1 : a + 1 < len → (fitP A (chF fk 0) (a + 1) ↔ ¬ toR E1 (E1 180 (a + 1)) = 0)) (hE2 : toS E1 (E1 180 (a + 1)) = E2) (h22' : ¬ E2 179 22 = 0) (hl' : E2 179 1 = nI len) (f2 : a + 2 < len → (fitP A (chF fk 1) (a + 2) ↔ ¬ toR E2 (E2 180 (a + 2)) = 0)) (hE3 : toS E2 (E2 180 (a + 2)) = E3) (h23' : ¬ E3 179 22 = 0) (hl3 : E3 179 1 = nI len) (f3 : a + 3 < len → (fitP A (chF fk 2) (a + 3) ↔ ¬ toR E3 (E3 180 (a + 3)) = 0)) :
    (emF A a < a + 1 + 3 → (rtL (len - a) a B).1 = nI (emF A a)) ∧ (¬ emF A a < a + 1 + 3 → emF A a = a + 4 ∧ a + 4 ≤ len ∧ fitP A (chF fk 0) (a + 1) ∧ fitP A (chF fk 1) (a + 2) ∧ fitP A (chF fk 2) (a + 3) ∧ rtL (len - a) a B = rtL (len - (a + 4)) (a + 4) (toS E3 (E3 180 (a + 3)))) := by
  have ee : emF A a = emL A fk (a + 1) 3 0 := by unfold emF; rw [hfk, hst]
  by_cases c : a + 1 < len ∧ fitP A (chF fk 0) (a + 1)
  · have h1 : rtL (len - a) a B = rtL (len - (a + 2)) (a + 2) E2 := by rw [h0, op_ok h22 c.1 ((f1 c.1).mp c.2), hE2]
    by_cases d : a + 2 < len ∧ fitP A (chF fk 1) (a + 2)
    · have h2 : rtL (len - a) a B = rtL (len - (a + 3)) (a + 3) E3 := by rw [h1, op_ok h22' d.1 ((f2 d.1).mp d.2), hE3]
      by_cases e : a + 3 < len ∧ fitP A (chF fk 2) (a + 3)
      · have e1 : emF A a = a + 4 := by rw [ee, emL, if_pos (by rw [hL]; exact c), emL, if_pos (by rw [hL]; exact d), emL, if_pos (by rw [hL]; exact e)]; rfl
        rw [e1]
        refine ⟨fun z => absurd z (by omega), fun _ => ⟨rfl, by omega, c.2, d.2, e.2, by rw [h2, op_ok h23' e.1 ((f3 e.1).mp e.2)]⟩⟩
      · have e1 : emF A a = a + 3 := by rw [ee, emL, if_pos (by rw [hL]; exact c), emL, if_pos (by rw [hL]; exact d), emL, if_neg (by rw [hL]; exact e)]
        rw [e1]
        refine ⟨fun _ => ?_, fun z => absurd (show a + 3 < a + 1 + 3 by omega) z⟩
        rw [h2]
        exact op_no h23' hl3 (by omega) (fun hj => Decidable.byContradiction (fun w => e ⟨hj, (f3 hj).mpr w⟩))
    · have e1 : emF A a = a + 2 := by rw [ee, emL, if_pos (by rw [hL]; exact c), emL, if_neg (by rw [hL]; exact d)]
      rw [e1]
      refine ⟨fun _ => ?_, fun z => absurd (show a + 2 < a + 1 + 3 by omega) z⟩
      rw [h1]
      exact op_no h22' hl' (by omega) (fun hj => Decidable.byContradiction (fun w => d ⟨hj, (f2 hj).mpr w⟩))
  · have e1 : emF A a = a + 1 := by rw [ee, emL, if_neg (by rw [hL]; exact c)]
    rw [e1]
    refine ⟨fun _ => ?_, fun z => absurd (show a + 1 < a + 1 + 3 by omega) z⟩
    rw [h0]
    exact op_no h22 hl (by omega) (fun hj => Decidable.byContradiction (fun w => c ⟨hj, (f1 hj).mpr w⟩))
end BLK
/-- one instruction is read alike -/
def blkP (A B : Nat → Nat → Int32) (len nn a : Nat) : Prop := (emF A a < a + 1 + stL.getD (fkF (A 2 a)) 0 → (rtL (len - a) a B).1 = nI (emF A a)) ∧ (¬ emF A a < a + 1 + stL.getD (fkF (A 2 a)) 0 → ∃ E v1 v2, rtL (len - a) a B = rtL (len - emF A a) (emF A a) E ∧ yE B E nn (ykF (A 2 a)) v1 v2 ∧ a + 1 ≤ emF A a ∧ emF A a ≤ len ∧ (A 2 a = 99 → aiX A (A 2 a) (a + 1) = 0 ∧ aiY A (A 2 a) (a + 1) = v1 ∧ v2 = 0) ∧ (¬ A 2 a = 99 → aiX A (A 2 a) (a + 1) = v1 ∧ aiY A (A 2 a) (a + 1) = v2) ∧ wfJ (ykF (A 2 a)) v1 v2)
/-- what stands when an instruction is begun -/
def hdP (A B : Nat → Nat → Int32) (len nn a : Nat) : Prop := A 1 1 = nI len ∧ len ≤ 80 ∧ B 179 1 = nI len ∧ (∀ j, j < len → A 2 j = B 180 j ∧ ¬ A 2 j < 0 ∧ ¬ 255 < A 2 j) ∧ a < len ∧ nn < 16 ∧ B 179 22 = 0 ∧ B 179 23 = nI nn ∧ B 179 27 = 0
theorem hd_0 {A B : Nat → Nat → Int32} {len nn a : Nat} (h : hdP A B len nn a) {c : Int32} (e : A 2 a = c) (hc : ¬ ykF c = -9) : rtL (len - a) a B = rtL (len - (a + 1)) (a + 1) (tsS B c) := by
  obtain ⟨h1, h2, h3, h4, h5, h6, h7, h8, h9⟩ := h
  have hp := (t_sig h6 h7 h8 h9 hc).1
  have e2 : B 180 a = c := by rw [← (h4 a h5).1]; exact e
  rw [show len - a = (len - (a + 1)) + 1 by omega, rtL, if_pos h7, e2, if_pos hp]
theorem yM_180 {B E : Nat → Nat → Int32} {nn : Nat} {pt sg k v1 v2 : Int32} (h : yM B E nn pt sg k v1 v2) (j : Nat) : E 180 j = B 180 j := h.2.2.2.2.2.2.2 180 j (by decide) (Or.inl (by decide))
theorem yM_len {B E : Nat → Nat → Int32} {nn : Nat} {pt sg k v1 v2 : Int32} (h : yM B E nn pt sg k v1 v2) : E 179 1 = B 179 1 := h.2.2.2.2.2.2.2 179 1 (by decide) (Or.inr (by decide))
theorem pt_1 {B E : Nat → Nat → Int32} {nn : Nat} {sg k v1 v2 : Int32} (h : yM B E nn 1 sg k v1 v2) : ¬ E 179 22 = 0 := by rw [h.1]; decide
theorem pt_2 {B E : Nat → Nat → Int32} {nn : Nat} {sg k v1 v2 : Int32} (h : yM B E nn 2 sg k v1 v2) : ¬ E 179 22 = 0 := by rw [h.1]; decide
theorem wf_rg {x : Int32} (h : inP x 0 3) : ¬ x < 0 ∧ ¬ 4 ≤ x := (in_lt (r := x) (M := 4) (K := 3) (k := 3) (by decide) rfl rfl).mpr h
theorem wf_rg7 {x : Int32} (h : inP x 0 7) : ¬ x < 0 ∧ ¬ 8 ≤ x := (in_lt (r := x) (M := 8) (K := 7) (k := 7) (by decide) rfl rfl).mpr h
theorem bk_98 {A B : Nat → Nat → Int32} {len nn a : Nat} (h : hdP A B len nn a) (e : A 2 a = 98) : blkP A B len nn a := by
  have h0 := hd_0 h e (by decide)
  obtain ⟨h1, h2, h3, h4, h5, h6, h7, h8, h9⟩ := h
  obtain ⟨-, ts8, ts1⟩ := t_sig (c := 98) h6 h7 h8 h9 (by decide)
  have hL : tn (A 1 1) = len := by rw [h1, tn_nI (by omega)]
  have hfk : fkF (A 2 a) = 8 := by rw [e]; rfl
  unfold blkP
  rw [hfk]
  have em := blk0 (A := A) (a := a) hfk rfl
  have hE := ts8 (by decide)
  rw [em]
  refine ⟨fun z => absurd z (by show ¬ a + 1 < a + 1 + 0; omega), fun _ => ⟨tsS B 98, 0, 0, h0, by rw [e]; exact hE, by omega, by omega, fun z => by rw [e] at z; exact absurd z (by decide), fun _ => ?_, ?_⟩⟩
  · rw [e]; exact ⟨rfl, rfl⟩
  · rw [e]; unfold wfJ; decide
theorem bk_104 {A B : Nat → Nat → Int32} {len nn a : Nat} (h : hdP A B len nn a) (e : A 2 a = 104) : blkP A B len nn a := by
  have h0 := hd_0 h e (by decide)
  obtain ⟨h1, h2, h3, h4, h5, h6, h7, h8, h9⟩ := h
  obtain ⟨-, ts8, ts1⟩ := t_sig (c := 104) h6 h7 h8 h9 (by decide)
  have hL : tn (A 1 1) = len := by rw [h1, tn_nI (by omega)]
  have hfk : fkF (A 2 a) = 8 := by rw [e]; rfl
  unfold blkP
  rw [hfk]
  have em := blk0 (A := A) (a := a) hfk rfl
  have hE := ts8 (by decide)
  rw [em]
  refine ⟨fun z => absurd z (by show ¬ a + 1 < a + 1 + 0; omega), fun _ => ⟨tsS B 104, 0, 0, h0, by rw [e]; exact hE, by omega, by omega, fun z => by rw [e] at z; exact absurd z (by decide), fun _ => ?_, ?_⟩⟩
  · rw [e]; exact ⟨rfl, rfl⟩
  · rw [e]; unfold wfJ; decide
theorem bk_107 {A B : Nat → Nat → Int32} {len nn a : Nat} (h : hdP A B len nn a) (e : A 2 a = 107) : blkP A B len nn a := by
  have h0 := hd_0 h e (by decide)
  obtain ⟨h1, h2, h3, h4, h5, h6, h7, h8, h9⟩ := h
  obtain ⟨-, ts8, ts1⟩ := t_sig (c := 107) h6 h7 h8 h9 (by decide)
  have hL : tn (A 1 1) = len := by rw [h1, tn_nI (by omega)]
  have hfk : fkF (A 2 a) = 7 := by rw [e]; rfl
  unfold blkP
  rw [hfk]
  have hM : yM B (tsS B 107) nn 1 0 9 0 0 := ts1 (by decide)
  have hT := t_only hM h6 (by decide)
  have e1 := yM_180 hM
  have fr : a + 1 < len → (fitP A (chF 7 0) (a + 1) ↔ ¬ toR (tsS B 107) (tsS B 107 180 (a + 1)) = 0) := fun hj => by
    rw [e1, ← (h4 _ hj).1, (hT _).1, show chF 7 0 = 114 from rfl, fit_r]
    unfold tgR
    rw [ite01]
    exact (dg_c (h4 _ hj).2).1
  obtain ⟨b1, b2⟩ := blk1 hL hfk rfl h0 h5 (pt_1 hM) (by rw [yM_len hM]; exact h3) fr
  refine ⟨b1, fun z => ?_⟩
  obtain ⟨c1, c2, c3, c4⟩ := b2 z
  have r1 : inP (A 2 (a + 1) - 48) 0 3 := (dg_c (h4 _ (by omega)).2).1.mp (fit_r.mp (by have := c3; rw [show chF 7 0 = 114 from rfl] at this; exact this))
  rw [c1]
  refine ⟨_, _, _, c4, by rw [e]; exact (hT _).2, by omega, c2, fun z => by rw [e] at z; exact absurd z (by decide), fun _ => ?_, ?_⟩
  · rw [e, e1, ← (h4 _ (by omega)).1]; exact ⟨rfl, rfl⟩
  · rw [e, e1, ← (h4 _ (by omega)).1]
    exact ⟨fun _ => wf_rg r1, fun z => absurd z (by decide), fun z => absurd z (by decide)⟩
theorem bk_111 {A B : Nat → Nat → Int32} {len nn a : Nat} (h : hdP A B len nn a) (e : A 2 a = 111) : blkP A B len nn a := by
  have h0 := hd_0 h e (by decide)
  obtain ⟨h1, h2, h3, h4, h5, h6, h7, h8, h9⟩ := h
  obtain ⟨-, ts8, ts1⟩ := t_sig (c := 111) h6 h7 h8 h9 (by decide)
  have hL : tn (A 1 1) = len := by rw [h1, tn_nI (by omega)]
  have hfk : fkF (A 2 a) = 7 := by rw [e]; rfl
  unfold blkP
  rw [hfk]
  have hM : yM B (tsS B 111) nn 1 0 10 0 0 := ts1 (by decide)
  have hT := t_only hM h6 (by decide)
  have e1 := yM_180 hM
  have fr : a + 1 < len → (fitP A (chF 7 0) (a + 1) ↔ ¬ toR (tsS B 111) (tsS B 111 180 (a + 1)) = 0) := fun hj => by
    rw [e1, ← (h4 _ hj).1, (hT _).1, show chF 7 0 = 114 from rfl, fit_r]
    unfold tgR
    rw [ite01]
    exact (dg_c (h4 _ hj).2).1
  obtain ⟨b1, b2⟩ := blk1 hL hfk rfl h0 h5 (pt_1 hM) (by rw [yM_len hM]; exact h3) fr
  refine ⟨b1, fun z => ?_⟩
  obtain ⟨c1, c2, c3, c4⟩ := b2 z
  have r1 : inP (A 2 (a + 1) - 48) 0 3 := (dg_c (h4 _ (by omega)).2).1.mp (fit_r.mp (by have := c3; rw [show chF 7 0 = 114 from rfl] at this; exact this))
  rw [c1]
  refine ⟨_, _, _, c4, by rw [e]; exact (hT _).2, by omega, c2, fun z => by rw [e] at z; exact absurd z (by decide), fun _ => ?_, ?_⟩
  · rw [e, e1, ← (h4 _ (by omega)).1]; exact ⟨rfl, rfl⟩
  · rw [e, e1, ← (h4 _ (by omega)).1]
    exact ⟨fun _ => wf_rg r1, fun z => absurd z (by decide), fun z => absurd z (by decide)⟩
theorem bk_105 {A B : Nat → Nat → Int32} {len nn a : Nat} (h : hdP A B len nn a) (e : A 2 a = 105) : blkP A B len nn a := by
  have h0 := hd_0 h e (by decide)
  obtain ⟨h1, h2, h3, h4, h5, h6, h7, h8, h9⟩ := h
  obtain ⟨-, ts8, ts1⟩ := t_sig (c := 105) h6 h7 h8 h9 (by decide)
  have hL : tn (A 1 1) = len := by rw [h1, tn_nI (by omega)]
  have hfk : fkF (A 2 a) = 1 := by rw [e]; rfl
  unfold blkP
  rw [hfk]
  have hM : yM B (tsS B 105) nn 1 0 0 0 0 := ts1 (by decide)
  have hT := t_first hM h6 (by decide) (by decide) (by decide) (by decide)
  have e1 := yM_180 hM
  have fr : a + 1 < len → (fitP A (chF 1 0) (a + 1) ↔ ¬ toR (tsS B 105) (tsS B 105 180 (a + 1)) = 0) := fun hj => by
    rw [e1, ← (h4 _ hj).1, (hT _).1, show chF 1 0 = 114 from rfl, fit_r]
    unfold tgR
    rw [ite01]
    exact (dg_c (h4 _ hj).2).1
  have hM2 := (hT (tsS B 105 180 (a + 1))).2
  generalize hE2 : toS (tsS B 105) (tsS B 105 180 (a + 1)) = E2 at hM2
  have hT2 := t_second hM2 h6 (by decide) (by decide) (by decide)
  have e2 := yM_180 hM2
  have fr2 : a + 2 < len → (fitP A (chF 1 1) (a + 2) ↔ ¬ toR E2 (E2 180 (a + 2)) = 0) := fun hj => by
    rw [e2, ← (h4 _ hj).1, (hT2 _).1, show chF 1 1 = 102 from rfl, fit_f, if_pos rfl, ite01]
    exact (dg_c (h4 _ hj).2).2.2.1
  obtain ⟨b1, b2⟩ := blk2 hL hfk rfl h0 h5 (pt_1 hM) (by rw [yM_len hM]; exact h3) fr hE2 (pt_2 hM2) (by rw [yM_len hM2]; exact h3) (fun hj _ => fr2 hj)
  refine ⟨b1, fun z => ?_⟩
  obtain ⟨c1, c2, c3, c3', c4⟩ := b2 z
  have r1 : inP (A 2 (a + 1) - 48) 0 3 := (dg_c (h4 _ (by omega)).2).1.mp (fit_r.mp (by have := c3; rw [show chF 1 0 = 114 from rfl] at this; exact this))
  have r2 := (dg_c (h4 (a + 2) (by omega)).2).2.2.1.mp (fit_f.mp (by have := c3'; rw [show chF 1 1 = 102 from rfl] at this; exact this))
  rw [c1]
  refine ⟨_, _, _, c4, by rw [e]; exact (hT2 _).2, by omega, c2, fun z => by rw [e] at z; exact absurd z (by decide), fun _ => ?_, ?_⟩
  · rw [e, e1, e2, ← (h4 _ (by omega)).1, ← (h4 _ (by omega)).1]; exact ⟨rfl, rfl⟩
  · rw [e, e1, e2, ← (h4 _ (by omega)).1, ← (h4 _ (by omega)).1]
    exact ⟨fun _ => wf_rg r1, fun z => absurd z (by decide), fun z => absurd z (by decide)⟩
theorem bk_43 {A B : Nat → Nat → Int32} {len nn a : Nat} (h : hdP A B len nn a) (e : A 2 a = 43) : blkP A B len nn a := by
  have h0 := hd_0 h e (by decide)
  obtain ⟨h1, h2, h3, h4, h5, h6, h7, h8, h9⟩ := h
  obtain ⟨-, ts8, ts1⟩ := t_sig (c := 43) h6 h7 h8 h9 (by decide)
  have hL : tn (A 1 1) = len := by rw [h1, tn_nI (by omega)]
  have hfk : fkF (A 2 a) = 2 := by rw [e]; rfl
  unfold blkP
  rw [hfk]
  have hM : yM B (tsS B 43) nn 1 0 1 0 0 := ts1 (by decide)
  have hT := t_first hM h6 (by decide) (by decide) (by decide) (by decide)
  have e1 := yM_180 hM
  have fr : a + 1 < len → (fitP A (chF 2 0) (a + 1) ↔ ¬ toR (tsS B 43) (tsS B 43 180 (a + 1)) = 0) := fun hj => by
    rw [e1, ← (h4 _ hj).1, (hT _).1, show chF 2 0 = 114 from rfl, fit_r]
    unfold tgR
    rw [ite01]
    exact (dg_c (h4 _ hj).2).1
  have hM2 := (hT (tsS B 43 180 (a + 1))).2
  generalize hE2 : toS (tsS B 43) (tsS B 43 180 (a + 1)) = E2 at hM2
  have hT2 := t_second hM2 h6 (by decide) (by decide) (by decide)
  have e2 := yM_180 hM2
  have fr2 : a + 2 < len → (fitP A (chF 2 1) (a + 2) ↔ ¬ toR E2 (E2 180 (a + 2)) = 0) := fun hj => by
    rw [e2, ← (h4 _ hj).1, (hT2 _).1, show chF 2 1 = 114 from rfl, fit_r, if_neg (by decide), if_pos (by decide), ite01]
    exact (dg_c (h4 _ hj).2).1
  obtain ⟨b1, b2⟩ := blk2 hL hfk rfl h0 h5 (pt_1 hM) (by rw [yM_len hM]; exact h3) fr hE2 (pt_2 hM2) (by rw [yM_len hM2]; exact h3) (fun hj _ => fr2 hj)
  refine ⟨b1, fun z => ?_⟩
  obtain ⟨c1, c2, c3, c3', c4⟩ := b2 z
  have r1 : inP (A 2 (a + 1) - 48) 0 3 := (dg_c (h4 _ (by omega)).2).1.mp (fit_r.mp (by have := c3; rw [show chF 2 0 = 114 from rfl] at this; exact this))
  have r2 := (dg_c (h4 (a + 2) (by omega)).2).1.mp (fit_r.mp (by have := c3'; rw [show chF 2 1 = 114 from rfl] at this; exact this))
  rw [c1]
  refine ⟨_, _, _, c4, by rw [e]; exact (hT2 _).2, by omega, c2, fun z => by rw [e] at z; exact absurd z (by decide), fun _ => ?_, ?_⟩
  · rw [e, e1, e2, ← (h4 _ (by omega)).1, ← (h4 _ (by omega)).1]; exact ⟨rfl, rfl⟩
  · rw [e, e1, e2, ← (h4 _ (by omega)).1, ← (h4 _ (by omega)).1]
    exact ⟨fun _ => wf_rg r1, fun _ => wf_rg r2, fun z => absurd z (by decide)⟩
theorem bk_45 {A B : Nat → Nat → Int32} {len nn a : Nat} (h : hdP A B len nn a) (e : A 2 a = 45) : blkP A B len nn a := by
  have h0 := hd_0 h e (by decide)
  obtain ⟨h1, h2, h3, h4, h5, h6, h7, h8, h9⟩ := h
  obtain ⟨-, ts8, ts1⟩ := t_sig (c := 45) h6 h7 h8 h9 (by decide)
  have hL : tn (A 1 1) = len := by rw [h1, tn_nI (by omega)]
  have hfk : fkF (A 2 a) = 2 := by rw [e]; rfl
  unfold blkP
  rw [hfk]
  have hM : yM B (tsS B 45) nn 1 0 2 0 0 := ts1 (by decide)
  have hT := t_first hM h6 (by decide) (by decide) (by decide) (by decide)
  have e1 := yM_180 hM
  have fr : a + 1 < len → (fitP A (chF 2 0) (a + 1) ↔ ¬ toR (tsS B 45) (tsS B 45 180 (a + 1)) = 0) := fun hj => by
    rw [e1, ← (h4 _ hj).1, (hT _).1, show chF 2 0 = 114 from rfl, fit_r]
    unfold tgR
    rw [ite01]
    exact (dg_c (h4 _ hj).2).1
  have hM2 := (hT (tsS B 45 180 (a + 1))).2
  generalize hE2 : toS (tsS B 45) (tsS B 45 180 (a + 1)) = E2 at hM2
  have hT2 := t_second hM2 h6 (by decide) (by decide) (by decide)
  have e2 := yM_180 hM2
  have fr2 : a + 2 < len → (fitP A (chF 2 1) (a + 2) ↔ ¬ toR E2 (E2 180 (a + 2)) = 0) := fun hj => by
    rw [e2, ← (h4 _ hj).1, (hT2 _).1, show chF 2 1 = 114 from rfl, fit_r, if_neg (by decide), if_pos (by decide), ite01]
    exact (dg_c (h4 _ hj).2).1
  obtain ⟨b1, b2⟩ := blk2 hL hfk rfl h0 h5 (pt_1 hM) (by rw [yM_len hM]; exact h3) fr hE2 (pt_2 hM2) (by rw [yM_len hM2]; exact h3) (fun hj _ => fr2 hj)
  refine ⟨b1, fun z => ?_⟩
  obtain ⟨c1, c2, c3, c3', c4⟩ := b2 z
  have r1 : inP (A 2 (a + 1) - 48) 0 3 := (dg_c (h4 _ (by omega)).2).1.mp (fit_r.mp (by have := c3; rw [show chF 2 0 = 114 from rfl] at this; exact this))
  have r2 := (dg_c (h4 (a + 2) (by omega)).2).1.mp (fit_r.mp (by have := c3'; rw [show chF 2 1 = 114 from rfl] at this; exact this))
  rw [c1]
  refine ⟨_, _, _, c4, by rw [e]; exact (hT2 _).2, by omega, c2, fun z => by rw [e] at z; exact absurd z (by decide), fun _ => ?_, ?_⟩
  · rw [e, e1, e2, ← (h4 _ (by omega)).1, ← (h4 _ (by omega)).1]; exact ⟨rfl, rfl⟩
  · rw [e, e1, e2, ← (h4 _ (by omega)).1, ← (h4 _ (by omega)).1]
    exact ⟨fun _ => wf_rg r1, fun _ => wf_rg r2, fun z => absurd z (by decide)⟩
theorem bk_108 {A B : Nat → Nat → Int32} {len nn a : Nat} (h : hdP A B len nn a) (e : A 2 a = 108) : blkP A B len nn a := by
  have h0 := hd_0 h e (by decide)
  obtain ⟨h1, h2, h3, h4, h5, h6, h7, h8, h9⟩ := h
  obtain ⟨-, ts8, ts1⟩ := t_sig (c := 108) h6 h7 h8 h9 (by decide)
  have hL : tn (A 1 1) = len := by rw [h1, tn_nI (by omega)]
  have hfk : fkF (A 2 a) = 3 := by rw [e]; rfl
  unfold blkP
  rw [hfk]
  have hM : yM B (tsS B 108) nn 1 0 3 0 0 := ts1 (by decide)
  have hT := t_first hM h6 (by decide) (by decide) (by decide) (by decide)
  have e1 := yM_180 hM
  have fr : a + 1 < len → (fitP A (chF 3 0) (a + 1) ↔ ¬ toR (tsS B 108) (tsS B 108 180 (a + 1)) = 0) := fun hj => by
    rw [e1, ← (h4 _ hj).1, (hT _).1, show chF 3 0 = 114 from rfl, fit_r]
    unfold tgR
    rw [ite01]
    exact (dg_c (h4 _ hj).2).1
  have hM2 := (hT (tsS B 108 180 (a + 1))).2
  generalize hE2 : toS (tsS B 108) (tsS B 108 180 (a + 1)) = E2 at hM2
  have hT2 := t_second hM2 h6 (by decide) (by decide) (by decide)
  have e2 := yM_180 hM2
  have fr2 : a + 2 < len → (fitP A (chF 3 1) (a + 2) ↔ ¬ toR E2 (E2 180 (a + 2)) = 0) := fun hj => by
    rw [e2, ← (h4 _ hj).1, (hT2 _).1, show chF 3 1 = 109 from rfl, fit_m, if_neg (by decide), if_neg (by decide), ite01]
    exact (dg_c (h4 _ hj).2).2.1
  obtain ⟨b1, b2⟩ := blk2 hL hfk rfl h0 h5 (pt_1 hM) (by rw [yM_len hM]; exact h3) fr hE2 (pt_2 hM2) (by rw [yM_len hM2]; exact h3) (fun hj _ => fr2 hj)
  refine ⟨b1, fun z => ?_⟩
  obtain ⟨c1, c2, c3, c3', c4⟩ := b2 z
  have r1 : inP (A 2 (a + 1) - 48) 0 3 := (dg_c (h4 _ (by omega)).2).1.mp (fit_r.mp (by have := c3; rw [show chF 3 0 = 114 from rfl] at this; exact this))
  have r2 := (dg_c (h4 (a + 2) (by omega)).2).2.1.mp (fit_m.mp (by have := c3'; rw [show chF 3 1 = 109 from rfl] at this; exact this))
  rw [c1]
  refine ⟨_, _, _, c4, by rw [e]; exact (hT2 _).2, by omega, c2, fun z => by rw [e] at z; exact absurd z (by decide), fun _ => ?_, ?_⟩
  · rw [e, e1, e2, ← (h4 _ (by omega)).1, ← (h4 _ (by omega)).1]; exact ⟨rfl, rfl⟩
  · rw [e, e1, e2, ← (h4 _ (by omega)).1, ← (h4 _ (by omega)).1]
    exact ⟨fun _ => wf_rg r1, fun z => absurd z (by decide), fun _ => wf_rg7 r2⟩
theorem bk_115 {A B : Nat → Nat → Int32} {len nn a : Nat} (h : hdP A B len nn a) (e : A 2 a = 115) : blkP A B len nn a := by
  have h0 := hd_0 h e (by decide)
  obtain ⟨h1, h2, h3, h4, h5, h6, h7, h8, h9⟩ := h
  obtain ⟨-, ts8, ts1⟩ := t_sig (c := 115) h6 h7 h8 h9 (by decide)
  have hL : tn (A 1 1) = len := by rw [h1, tn_nI (by omega)]
  have hfk : fkF (A 2 a) = 3 := by rw [e]; rfl
  unfold blkP
  rw [hfk]
  have hM : yM B (tsS B 115) nn 1 0 4 0 0 := ts1 (by decide)
  have hT := t_first hM h6 (by decide) (by decide) (by decide) (by decide)
  have e1 := yM_180 hM
  have fr : a + 1 < len → (fitP A (chF 3 0) (a + 1) ↔ ¬ toR (tsS B 115) (tsS B 115 180 (a + 1)) = 0) := fun hj => by
    rw [e1, ← (h4 _ hj).1, (hT _).1, show chF 3 0 = 114 from rfl, fit_r]
    unfold tgR
    rw [ite01]
    exact (dg_c (h4 _ hj).2).1
  have hM2 := (hT (tsS B 115 180 (a + 1))).2
  generalize hE2 : toS (tsS B 115) (tsS B 115 180 (a + 1)) = E2 at hM2
  have hT2 := t_second hM2 h6 (by decide) (by decide) (by decide)
  have e2 := yM_180 hM2
  have fr2 : a + 2 < len → (fitP A (chF 3 1) (a + 2) ↔ ¬ toR E2 (E2 180 (a + 2)) = 0) := fun hj => by
    rw [e2, ← (h4 _ hj).1, (hT2 _).1, show chF 3 1 = 109 from rfl, fit_m, if_neg (by decide), if_neg (by decide), ite01]
    exact (dg_c (h4 _ hj).2).2.1
  obtain ⟨b1, b2⟩ := blk2 hL hfk rfl h0 h5 (pt_1 hM) (by rw [yM_len hM]; exact h3) fr hE2 (pt_2 hM2) (by rw [yM_len hM2]; exact h3) (fun hj _ => fr2 hj)
  refine ⟨b1, fun z => ?_⟩
  obtain ⟨c1, c2, c3, c3', c4⟩ := b2 z
  have r1 : inP (A 2 (a + 1) - 48) 0 3 := (dg_c (h4 _ (by omega)).2).1.mp (fit_r.mp (by have := c3; rw [show chF 3 0 = 114 from rfl] at this; exact this))
  have r2 := (dg_c (h4 (a + 2) (by omega)).2).2.1.mp (fit_m.mp (by have := c3'; rw [show chF 3 1 = 109 from rfl] at this; exact this))
  rw [c1]
  refine ⟨_, _, _, c4, by rw [e]; exact (hT2 _).2, by omega, c2, fun z => by rw [e] at z; exact absurd z (by decide), fun _ => ?_, ?_⟩
  · rw [e, e1, e2, ← (h4 _ (by omega)).1, ← (h4 _ (by omega)).1]; exact ⟨rfl, rfl⟩
  · rw [e, e1, e2, ← (h4 _ (by omega)).1, ← (h4 _ (by omega)).1]
    exact ⟨fun _ => wf_rg r1, fun z => absurd z (by decide), fun _ => wf_rg7 r2⟩
theorem bk_99 {A B : Nat → Nat → Int32} {len nn a : Nat} (h : hdP A B len nn a) (e : A 2 a = 99) : blkP A B len nn a := by
  have h0 := hd_0 h e (by decide)
  obtain ⟨h1, h2, h3, h4, h5, h6, h7, h8, h9⟩ := h
  obtain ⟨-, ts8, ts1⟩ := t_sig (c := 99) h6 h7 h8 h9 (by decide)
  have hL : tn (A 1 1) = len := by rw [h1, tn_nI (by omega)]
  have hfk : fkF (A 2 a) = 6 := by rw [e]; rfl
  unfold blkP
  rw [hfk]
  have hM : yM B (tsS B 99) nn 1 0 7 0 0 := ts1 (by decide)
  have hT := t_call1 hM h6
  have e1 := yM_180 hM
  have fr : a + 1 < len → (fitP A (chF 6 0) (a + 1) ↔ ¬ toR (tsS B 99) (tsS B 99 180 (a + 1)) = 0) := fun hj => by
    rw [e1, ← (h4 _ hj).1, (hT _).1, show chF 6 0 = 116 from rfl, fit_t, ite01]
    exact (dg_c (h4 _ hj).2).2.2.2.2.1
  have hM2 := (hT (tsS B 99 180 (a + 1))).2
  generalize hE2 : toS (tsS B 99) (tsS B 99 180 (a + 1)) = E2 at hM2
  have hT2 := t_call2 hM2 h6
  have e2 := yM_180 hM2
  have fr2 : a + 2 < len → fitP A (chF 6 0) (a + 1) → (fitP A (chF 6 1) (a + 2) ↔ ¬ toR E2 (E2 180 (a + 2)) = 0) := fun hj hf => by
    rw [show chF 6 0 = 116 from rfl, fit_t] at hf
    have hd := dg_c (h4 (a + 1) (by omega)).2
    have hd2 := dg_c (h4 (a + 2) hj).2
    rw [e2, ← (h4 _ hj).1, (hT2 _).1, show chF 6 1 = 117 from rfl, fit_u, e1, ← (h4 (a + 1) (by omega)).1, show a + 2 - 1 = a + 1 by omega]
    rcases hf with w | w
    · rw [if_pos (hd.2.2.2.2.2.1 w), if_neg (show ¬ A 2 (a + 1) = 49 from by rw [w]; decide), ite01]
      exact hd2.2.2.1
    · rw [if_neg (hd.2.2.2.2.2.2 w), if_pos w, ite01]
      exact hd2.2.2.2.1
  obtain ⟨b1, b2⟩ := blk2 hL hfk rfl h0 h5 (pt_1 hM) (by rw [yM_len hM]; exact h3) fr hE2 (pt_2 hM2) (by rw [yM_len hM2]; exact h3) fr2
  refine ⟨b1, fun z => ?_⟩
  obtain ⟨c1, c2, c3, c3', c4⟩ := b2 z
  rw [c1]
  refine ⟨_, _, _, c4, by rw [e]; exact (hT2 _).2, by omega, c2, fun _ => ?_, fun z => absurd e z, ?_⟩
  · rw [e, e1, e2, ← (h4 _ (by omega)).1, ← (h4 _ (by omega)).1]; exact ⟨rfl, rfl, rfl⟩
  · rw [e]
    exact ⟨fun z => absurd (by decide) z, fun z => absurd z (by decide), fun z => absurd z (by decide)⟩
theorem sgn_ne (d : Int32) : ¬ (if d = 43 then (1 : Int32) else -1) = 0 := by split <;> decide
theorem sgn_mul {d x : Int32} (h : d = 43 ∨ d = 45) : (if d = 45 then - x else x) = (if d = 43 then (1 : Int32) else -1) * x := by
  rcases h with z | z <;> rw [z]
  · rw [if_neg (by decide), if_pos rfl, Int32.one_mul]
  · rw [if_pos rfl, if_neg (by decide), Int32.neg_mul, Int32.one_mul]
theorem fit_d {A : Nat → Nat → Int32} {j : Nat} : fitP A 102 j ↔ inP (A 2 j) 48 57 := fit_f
theorem bk_106 {A B : Nat → Nat → Int32} {len nn a : Nat} (h : hdP A B len nn a) (e : A 2 a = 106) : blkP A B len nn a := by
  have h0 := hd_0 h e (by decide)
  obtain ⟨h1, h2, h3, h4, h5, h6, h7, h8, h9⟩ := h
  obtain ⟨-, ts8, ts1⟩ := t_sig (c := 106) h6 h7 h8 h9 (by decide)
  have hL : tn (A 1 1) = len := by rw [h1, tn_nI (by omega)]
  have hfk : fkF (A 2 a) = 4 := by rw [e]; rfl
  unfold blkP
  rw [hfk]
  have hM : yM B (tsS B 106) nn 1 0 5 0 0 := ts1 (by decide)
  have hT := t_sign hM h6 (by decide)
  have e1 := yM_180 hM
  have fr : a + 1 < len → (fitP A (chF 4 0) (a + 1) ↔ ¬ toR (tsS B 106) (tsS B 106 180 (a + 1)) = 0) := fun hj => by
    rw [e1, ← (h4 _ hj).1, (hT _).1, show chF 4 0 = 115 from rfl, fit_s, ite01]
  have hM2 := (hT (tsS B 106 180 (a + 1))).2
  generalize hE2 : toS (tsS B 106) (tsS B 106 180 (a + 1)) = E2 at hM2
  have hT2 := t_far hM2 h6 (sgn_ne _) (by decide)
  have e2 := yM_180 hM2
  have fr2 : a + 2 < len → (fitP A (chF 4 1) (a + 2) ↔ ¬ toR E2 (E2 180 (a + 2)) = 0) := fun hj => by
    rw [e2, ← (h4 _ hj).1, (hT2 _).1, show chF 4 1 = 102 from rfl, fit_d, ite01]
  obtain ⟨b1, b2⟩ := blk2 hL hfk rfl h0 h5 (pt_1 hM) (by rw [yM_len hM]; exact h3) fr hE2 (pt_1 hM2) (by rw [yM_len hM2]; exact h3) (fun hj _ => fr2 hj)
  refine ⟨b1, fun z => ?_⟩
  obtain ⟨c1, c2, c3, c3', c4⟩ := b2 z
  have r1 : A 2 (a + 1) = 43 ∨ A 2 (a + 1) = 45 := fit_s.mp (by have := c3; rw [show chF 4 0 = 115 from rfl] at this; exact this)
  rw [c1]
  refine ⟨_, _, _, c4, by rw [e]; exact (hT2 _).2, by omega, c2, fun z => by rw [e] at z; exact absurd z (by decide), fun _ => ?_, ?_⟩
  · rw [e, e1, e2, ← (h4 _ (by omega)).1, ← (h4 _ (by omega)).1]; exact ⟨rfl, sgn_mul r1⟩
  · rw [e]
    exact ⟨fun _ => by decide, fun z => absurd z (by decide), fun z => absurd z (by decide)⟩
theorem bk_122 {A B : Nat → Nat → Int32} {len nn a : Nat} (h : hdP A B len nn a) (e : A 2 a = 122) : blkP A B len nn a := by
  have h0 := hd_0 h e (by decide)
  obtain ⟨h1, h2, h3, h4, h5, h6, h7, h8, h9⟩ := h
  obtain ⟨-, ts8, ts1⟩ := t_sig (c := 122) h6 h7 h8 h9 (by decide)
  have hL : tn (A 1 1) = len := by rw [h1, tn_nI (by omega)]
  have hfk : fkF (A 2 a) = 5 := by rw [e]; rfl
  unfold blkP
  rw [hfk]
  have hM : yM B (tsS B 122) nn 1 0 6 0 0 := ts1 (by decide)
  have hT := t_first hM h6 (by decide) (by decide) (by decide) (by decide)
  have e1 := yM_180 hM
  have fr : a + 1 < len → (fitP A (chF 5 0) (a + 1) ↔ ¬ toR (tsS B 122) (tsS B 122 180 (a + 1)) = 0) := fun hj => by
    rw [e1, ← (h4 _ hj).1, (hT _).1, show chF 5 0 = 114 from rfl, fit_r]
    unfold tgR
    rw [ite01]
    exact (dg_c (h4 _ hj).2).1
  have hM2 := (hT (tsS B 122 180 (a + 1))).2
  generalize hE2 : toS (tsS B 122) (tsS B 122 180 (a + 1)) = E2 at hM2
  have hT2 := t_sign hM2 h6 (by decide)
  have e2 := yM_180 hM2
  have fr2 : a + 2 < len → (fitP A (chF 5 1) (a + 2) ↔ ¬ toR E2 (E2 180 (a + 2)) = 0) := fun hj => by
    rw [e2, ← (h4 _ hj).1, (hT2 _).1, show chF 5 1 = 115 from rfl, fit_s, ite01]
  have hM3 := (hT2 (E2 180 (a + 2))).2
  generalize hE3 : toS E2 (E2 180 (a + 2)) = E3 at hM3
  have hT3 := t_far hM3 h6 (sgn_ne _) (by decide)
  have e3 := yM_180 hM3
  have fr3 : a + 3 < len → (fitP A (chF 5 2) (a + 3) ↔ ¬ toR E3 (E3 180 (a + 3)) = 0) := fun hj => by
    rw [e3, ← (h4 _ hj).1, (hT3 _).1, show chF 5 2 = 102 from rfl, fit_d, ite01]
  obtain ⟨b1, b2⟩ := blk3 hL hfk rfl h0 h5 (pt_1 hM) (by rw [yM_len hM]; exact h3) fr hE2 (pt_2 hM2) (by rw [yM_len hM2]; exact h3) fr2 hE3 (pt_2 hM3) (by rw [yM_len hM3]; exact h3) fr3
  refine ⟨b1, fun z => ?_⟩
  obtain ⟨c1, c2, c3, c3', c3'', c4⟩ := b2 z
  have r1 : inP (A 2 (a + 1) - 48) 0 3 := (dg_c (h4 _ (by omega)).2).1.mp (fit_r.mp (by have := c3; rw [show chF 5 0 = 114 from rfl] at this; exact this))
  have r2 : A 2 (a + 2) = 43 ∨ A 2 (a + 2) = 45 := fit_s.mp (by have := c3'; rw [show chF 5 1 = 115 from rfl] at this; exact this)
  rw [c1]
  refine ⟨_, _, _, c4, by rw [e]; exact (hT3 _).2, by omega, c2, fun z => by rw [e] at z; exact absurd z (by decide), fun _ => ?_, ?_⟩
  · rw [e, e1, e2, e3, ← (h4 _ (by omega)).1, ← (h4 _ (by omega)).1, ← (h4 _ (by omega)).1]; exact ⟨rfl, sgn_mul r2⟩
  · rw [e, e1, ← (h4 _ (by omega)).1]
    exact ⟨fun _ => wf_rg r1, fun z => absurd z (by decide), fun z => absurd z (by decide)⟩
theorem bk_all {A B : Nat → Nat → Int32} {len nn a : Nat} (h : hdP A B len nn a) (hk : kinP (A 2 a)) : blkP A B len nn a := by
  rcases hk with e | e | e | e | e | e | e | e | e | e | e | e
  · exact bk_105 h e
  · exact bk_43 h e
  · exact bk_45 h e
  · exact bk_108 h e
  · exact bk_115 h e
  · exact bk_106 h e
  · exact bk_122 h e
  · exact bk_99 h e
  · exact bk_98 h e
  · exact bk_107 h e
  · exact bk_111 h e
  · exact bk_104 h e
