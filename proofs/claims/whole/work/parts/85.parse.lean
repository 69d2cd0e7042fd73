/-- the reference in the midst of an instruction that it reads -/
def yM (B E : Nat → Nat → Int32) (nn : Nat) (pt sg k v1 v2 : Int32) : Prop := E 179 22 = pt ∧ E 179 23 = nI nn ∧ E 179 27 = sg ∧ E 194 nn = k ∧ E 195 nn = v1 ∧ E 196 nn = v2 ∧ (∀ p, p < nn → E 194 p = B 194 p ∧ E 195 p = B 195 p ∧ E 196 p = B 196 p) ∧ ∀ a j, a < 194 → (a ≠ 179 ∨ (j ≠ 22 ∧ j ≠ 23 ∧ j ≠ 27)) → E a j = B a j
/-- the reference behind an instruction -/
def yE (B E : Nat → Nat → Int32) (nn : Nat) (k v1 v2 : Int32) : Prop := E 179 22 = 0 ∧ E 179 23 = nI (nn + 1) ∧ E 179 27 = 0 ∧ E 194 nn = k ∧ E 195 nn = v1 ∧ E 196 nn = v2 ∧ (∀ p, p < nn → E 194 p = B 194 p ∧ E 195 p = B 195 p ∧ E 196 p = B 196 p) ∧ ∀ a j, a < 194 → (a ≠ 179 ∨ (j ≠ 22 ∧ j ≠ 23 ∧ j ≠ 27)) → E a j = B a j
theorem yM_rM {B E : Nat → Nat → Int32} {nn : Nat} {pt sg k v1 v2 : Int32} (h : yM B E nn pt sg k v1 v2) (hn : nn < 16) : rM E = nn := by unfold rM; rw [h.2.1, tn_nI (by omega)]
/-- one of the two rows is set, and the part -/
theorem yM_5 {B E : Nat → Nat → Int32} {nn : Nat} {pt sg k v1 v2 : Int32} (h : yM B E nn pt sg k v1 v2) (v : Int32) : yM B (up2 E 195 nn v) nn pt sg k v v2 := by
  obtain ⟨h1, h2, h3, h4, h5, h6, h7, h8⟩ := h
  refine ⟨by rw [up2_row (by decide)]; exact h1, by rw [up2_row (by decide)]; exact h2, by rw [up2_row (by decide)]; exact h3, by rw [up2_row (by decide)]; exact h4, up2_same _ _ _ _, by rw [up2_row (by decide)]; exact h6, fun p hp => ?_, fun a j ha hj => by rw [up2_row (by omega)]; exact h8 a j ha hj⟩
  rw [up2_row (by decide), up2_ne (Or.inr (by omega)), up2_row (by decide)]
  exact h7 p hp
theorem yM_6 {B E : Nat → Nat → Int32} {nn : Nat} {pt sg k v1 v2 : Int32} (h : yM B E nn pt sg k v1 v2) (v : Int32) : yM B (up2 E 196 nn v) nn pt sg k v1 v := by
  obtain ⟨h1, h2, h3, h4, h5, h6, h7, h8⟩ := h
  refine ⟨by rw [up2_row (by decide)]; exact h1, by rw [up2_row (by decide)]; exact h2, by rw [up2_row (by decide)]; exact h3, by rw [up2_row (by decide)]; exact h4, by rw [up2_row (by decide)]; exact h5, up2_same _ _ _ _, fun p hp => ?_, fun a j ha hj => by rw [up2_row (by omega)]; exact h8 a j ha hj⟩
  rw [up2_row (by decide), up2_row (by decide), up2_ne (Or.inr (by omega))]
  exact h7 p hp
theorem yM_pt {B E : Nat → Nat → Int32} {nn : Nat} {pt sg k v1 v2 : Int32} (h : yM B E nn pt sg k v1 v2) (v : Int32) : yM B (up2 E 179 22 v) nn v sg k v1 v2 := by
  obtain ⟨h1, h2, h3, h4, h5, h6, h7, h8⟩ := h
  refine ⟨up2_same _ _ _ _, by rw [up2_ne (Or.inr (by decide))]; exact h2, by rw [up2_ne (Or.inr (by decide))]; exact h3, by rw [up2_row (by decide)]; exact h4, by rw [up2_row (by decide)]; exact h5, by rw [up2_row (by decide)]; exact h6, fun p hp => ?_, fun a j ha hj => by rw [up2_ne (by omega)]; exact h8 a j ha hj⟩
  rw [up2_row (by decide), up2_row (by decide), up2_row (by decide)]
  exact h7 p hp
theorem yM_sg {B E : Nat → Nat → Int32} {nn : Nat} {pt sg k v1 v2 : Int32} (h : yM B E nn pt sg k v1 v2) (v : Int32) : yM B (up2 E 179 27 v) nn pt v k v1 v2 := by
  obtain ⟨h1, h2, h3, h4, h5, h6, h7, h8⟩ := h
  refine ⟨by rw [up2_ne (Or.inr (by decide))]; exact h1, by rw [up2_ne (Or.inr (by decide))]; exact h2, up2_same _ _ _ _, by rw [up2_row (by decide)]; exact h4, by rw [up2_row (by decide)]; exact h5, by rw [up2_row (by decide)]; exact h6, fun p hp => ?_, fun a j ha hj => by rw [up2_ne (by omega)]; exact h8 a j ha hj⟩
  rw [up2_row (by decide), up2_row (by decide), up2_row (by decide)]
  exact h7 p hp
theorem yM_en {B E : Nat → Nat → Int32} {nn : Nat} {pt k v1 v2 : Int32} (h : yM B E nn pt 0 k v1 v2) : yE B (enS E) nn k v1 v2 := by
  obtain ⟨h1, h2, h3, h4, h5, h6, h7, h8⟩ := h
  have r : ∀ a, a ≠ 179 → enS E a = E a := fun a ha => by unfold enS; rw [up2_row ha, up2_row ha]
  refine ⟨by unfold enS; rw [up2_same], by unfold enS; rw [up2_ne (Or.inr (by decide)), up2_same, h2, nI_1], by rw [enS_fr (Or.inr (by decide))]; exact h3, by rw [r 194 (by decide)]; exact h4, by rw [r 195 (by decide)]; exact h5, by rw [r 196 (by decide)]; exact h6, fun p hp => ?_, fun a j ha hj => by rw [enS_fr (by omega)]; exact h8 a j ha hj⟩
  rw [r 194 (by decide), r 195 (by decide), r 196 (by decide)]
  exact h7 p hp
section PT
variable {B E : Nat → Nat → Int32} {nn : Nat} {pt sg k v1 v2 : Int32}
theorem t_first (h : yM B E nn 1 sg k v1 v2) (hn : nn < 16) (k5 : ¬ k = 5) (k7 : ¬ k = 7) (k9 : ¬ k = 9) (k10 : ¬ k = 10) (d : Int32) : toR E d = tgR (d - 48) ∧ yM B (toS E d) nn 2 sg k (d - 48) v2 := by
  have er := yM_rM h hn
  have nf : ¬ toFar E := by
    unfold toFar
    rw [er, h.2.2.2.1, h.1]
    rintro (z | z)
    · exact k5 z
    · exact absurd z.2 (by decide)
  unfold toR toS tgS
  rw [if_neg nf, if_neg nf, er, h.2.2.2.1, h.1, if_neg k7, if_neg k7, if_pos rfl, if_pos rfl, if_neg (fun z => z.elim k9 k10)]
  exact ⟨rfl, yM_pt (yM_5 h _) _⟩
theorem t_only (h : yM B E nn 1 0 k v1 v2) (hn : nn < 16) (hk : k = 9 ∨ k = 10) (d : Int32) : toR E d = tgR (d - 48) ∧ yE B (toS E d) nn k (d - 48) v2 := by
  have er := yM_rM h hn
  have k5 : ¬ k = 5 := by rcases hk with z | z <;> rw [z] <;> decide
  have k7 : ¬ k = 7 := by rcases hk with z | z <;> rw [z] <;> decide
  have nf : ¬ toFar E := by
    unfold toFar
    rw [er, h.2.2.2.1, h.1]
    rintro (z | z)
    · exact k5 z
    · exact absurd z.2 (by decide)
  unfold toR toS tgS
  rw [if_neg nf, if_neg nf, er, h.2.2.2.1, h.1, if_neg k7, if_neg k7, if_pos rfl, if_pos rfl, if_pos hk]
  exact ⟨rfl, yM_en (yM_5 h _)⟩
theorem t_second (h : yM B E nn 2 0 k v1 v2) (hn : nn < 16) (k5 : ¬ k = 5) (k6 : ¬ k = 6) (k7 : ¬ k = 7) (d : Int32) : toR E d = (if k = 0 then (if inP (d - 48) 0 9 then 1 else 0) else if k = 1 ∨ k = 2 then (if inP (d - 48) 0 3 then 1 else 0) else (if inP (d - 48) 0 7 then 1 else 0)) ∧ yE B (toS E d) nn k v1 (d - 48) := by
  have er := yM_rM h hn
  have nf : ¬ toFar E := by
    unfold toFar
    rw [er, h.2.2.2.1]
    rintro (z | z)
    · exact k5 z
    · exact k6 z.1
  unfold toR toS
  rw [if_neg nf, if_neg nf, er, h.2.2.2.1, h.1, if_neg k7, if_neg k7, if_neg (show ¬ (2 : Int32) = 1 by decide), if_neg (show ¬ (2 : Int32) = 1 by decide)]
  exact ⟨rfl, yM_en (yM_6 h _)⟩
theorem t_call1 (h : yM B E nn 1 0 7 v1 v2) (hn : nn < 16) (d : Int32) : toR E d = (if inP (d - 48) 0 1 then 1 else 0) ∧ yM B (toS E d) nn 2 0 7 (d - 48) v2 := by
  have er := yM_rM h hn
  have nf : ¬ toFar E := by
    unfold toFar
    rw [er, h.2.2.2.1, h.1]
    rintro (z | z)
    · exact absurd z (by decide)
    · exact absurd z.2 (by decide)
  unfold toR toS tcR tcS
  rw [if_neg nf, if_neg nf, er, h.2.2.2.1, h.1, if_pos rfl, if_pos rfl, if_pos rfl, if_pos rfl]
  exact ⟨rfl, yM_pt (yM_5 h _) _⟩
theorem t_call2 (h : yM B E nn 2 0 7 v1 v2) (hn : nn < 16) (d : Int32) : toR E d = (if v1 = 0 then (if inP (d - 48) 0 9 then 1 else 0) else (if inP (d - 48) 0 5 then 1 else 0)) ∧ yE B (toS E d) nn 7 (10 * v1 + (d - 48)) v2 := by
  have er := yM_rM h hn
  have nf : ¬ toFar E := by
    unfold toFar
    rw [er, h.2.2.2.1]
    rintro (z | z)
    · exact absurd z (by decide)
    · exact absurd z.1 (by decide)
  unfold toR toS tcR tcS
  rw [if_neg nf, if_neg nf, er, h.2.2.2.1, h.1, if_pos rfl, if_pos rfl, if_neg (show ¬ (2 : Int32) = 1 by decide), if_neg (show ¬ (2 : Int32) = 1 by decide), h.2.2.2.2.1]
  exact ⟨rfl, yM_en (yM_5 h _)⟩
theorem t_sign (h : yM B E nn pt 0 k v1 v2) (hn : nn < 16) (hf : k = 5 ∨ (k = 6 ∧ pt = 2)) (d : Int32) : toR E d = (if d = 43 ∨ d = 45 then 1 else 0) ∧ yM B (toS E d) nn pt (if d = 43 then 1 else -1) k v1 v2 := by
  have er := yM_rM h hn
  have nf : toFar E := by unfold toFar; rw [er, h.2.2.2.1, h.1]; exact hf
  unfold toR toS tfR tfS
  rw [if_pos nf, if_pos nf, h.2.2.1, if_pos rfl, if_pos rfl]
  exact ⟨rfl, yM_sg h _⟩
theorem t_far (h : yM B E nn pt sg k v1 v2) (hn : nn < 16) (hs : ¬ sg = 0) (hf : k = 5 ∨ (k = 6 ∧ pt = 2)) (d : Int32) : toR E d = (if inP d 48 57 then 1 else 0) ∧ yE B (toS E d) nn k v1 (sg * (d - 48)) := by
  have er := yM_rM h hn
  have nf : toFar E := by unfold toFar; rw [er, h.2.2.2.1, h.1]; exact hf
  unfold toR toS tfR tfS
  rw [if_pos nf, if_pos nf, h.2.2.1, if_neg hs, if_neg hs, er]
  exact ⟨rfl, yM_en (yM_sg (yM_6 h _) 0)⟩
end PT
/-- the letter of an instruction is taken -/
theorem t_sig {B : Nat → Nat → Int32} {nn : Nat} (hn : nn < 16) (h22 : B 179 22 = 0) (h23 : B 179 23 = nI nn) (h27 : B 179 27 = 0) {c : Int32} (hc : ¬ ykF c = -9) : tsP B c ∧ (ykF c = 8 ∨ ykF c = 11 → yE B (tsS B c) nn (ykF c) 0 0) ∧ (¬ (ykF c = 8 ∨ ykF c = 11) → yM B (tsS B c) nn 1 0 (ykF c) 0 0) := by
  have hp : tsP B c := ⟨hc, fun w => by rw [h23] at w; have := (nI_eq (b := 16) (by omega) (by decide)).mp w; omega⟩
  have er : rM B = nn := by unfold rM; rw [h23, tn_nI (by omega)]
  have hm : yM B (ts3 B (ykF c)) nn 0 0 (ykF c) 0 0 := by
    unfold ts3
    rw [er]
    refine ⟨by rw [up2_row (by decide), up2_row (by decide), up2_row (by decide)]; exact h22, by rw [up2_row (by decide), up2_row (by decide), up2_row (by decide)]; exact h23, by rw [up2_row (by decide), up2_row (by decide), up2_row (by decide)]; exact h27, by rw [up2_row (by decide), up2_row (by decide), up2_same], by rw [up2_row (by decide), up2_same], up2_same _ _ _ _, fun p hp => ⟨?_, ?_, ?_⟩, fun a j ha hj => by rw [up2_row (by omega), up2_row (by omega), up2_row (by omega)]⟩
    · rw [up2_row (by decide), up2_row (by decide), up2_ne (Or.inr (by omega))]
    · rw [up2_row (by decide), up2_ne (Or.inr (by omega)), up2_row (by decide)]
    · rw [up2_ne (Or.inr (by omega)), up2_row (by decide), up2_row (by decide)]
  refine ⟨hp, fun h8 => ?_, fun h8 => ?_⟩
  · have e : tsS B c = up2 (ts3 B (ykF c)) 179 23 (B 179 23 + 1) := by rw [tsS, if_pos hp, if_pos h8]
    rw [e]
    obtain ⟨h1, h2, h3, h4, h5, h6, h7, h9⟩ := hm
    refine ⟨by rw [up2_ne (Or.inr (by decide))]; exact h1, by rw [up2_same, h23, nI_1], by rw [up2_ne (Or.inr (by decide))]; exact h3, by rw [up2_row (by decide)]; exact h4, by rw [up2_row (by decide)]; exact h5, by rw [up2_row (by decide)]; exact h6, fun p hp => ?_, fun a j ha hj => by rw [up2_ne (by omega)]; exact h9 a j ha hj⟩
    rw [up2_row (by decide), up2_row (by decide), up2_row (by decide)]
    exact h7 p hp
  · have e : tsS B c = up2 (ts3 B (ykF c)) 179 22 1 := by rw [tsS, if_pos hp, if_neg h8]
    rw [e]
    exact yM_pt hm 1
theorem op_ok {E : Nat → Nat → Int32} {len j : Nat} (h22 : ¬ E 179 22 = 0) (hj : j < len) (hr : ¬ toR E (E 180 j) = 0) : rtL (len - j) j E = rtL (len - (j + 1)) (j + 1) (toS E (E 180 j)) := by
  rw [show len - j = (len - (j + 1)) + 1 by omega, rtL, if_neg h22, if_neg hr]
theorem op_no {E : Nat → Nat → Int32} {len j : Nat} (h22 : ¬ E 179 22 = 0) (hl : E 179 1 = nI len) (hj : j ≤ len) (hr : j < len → toR E (E 180 j) = 0) : (rtL (len - j) j E).1 = nI j := by
  by_cases c : j < len
  · rw [show len - j = (len - (j + 1)) + 1 by omega, rtL, if_neg h22, if_pos (hr c)]
  · rw [show len - j = 0 by omega, rtL, rtE, if_neg h22, hl, show len = j by omega]
