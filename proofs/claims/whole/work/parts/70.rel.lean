/-- a state stands as a row says, both in their ranges -/
def SR (A : Nat → Nat → Int32) (s : Nat) (g : Nat → Int32) (n : Nat) : Prop := stR A s g n ∧ wfRo g ∧ (A (s + 1) 5 = 0 ∨ A (s + 1) 5 = 1)
theorem SR_wfSt {A : Nat → Nat → Int32} {s : Nat} {g : Nat → Int32} {n : Nat} (h : SR A s g n) : wfSt A s := by
  obtain ⟨h1, h2, h3⟩ := h
  have e : A (s + 1) 3 = g 20 := h1.1.2.2.2.1
  have e3 : A s 3 = g 122 := h1.2.1.1
  refine ⟨⟨?_, ?_, h3⟩, ?_⟩
  · rw [e]; exact h2.1.1
  · rw [e]; exact h2.1.2
  · unfold wfK; rw [e3]; exact h2.2.1
theorem wfRo_cp {g g' : Nat → Int32} (hg : ∀ j, j < 128 → g' j = g j) (h : wfRo g) : wfRo g' := by
  unfold wfRo
  rw [hg 20 (by omega), hg 122 (by omega)]
  refine ⟨h.1, h.2.1, fun a ha hc => ?_⟩
  rw [hg (26 + a) (by omega)] at hc
  rw [hg (42 + a) (by omega)]
  exact h.2.2 a ha hc
theorem SR_cp {A A' : Nat → Nat → Int32} {s s' : Nat} {g g' : Nat → Int32} {n : Nat} (hA : ∀ k, k < 8 → A' (s' + k) = A (s + k)) (hg : ∀ j, j < 128 → g' j = g j) (h : SR A s g n) : SR A' s' g' n :=
  ⟨stR_cp hA hg h.2.1 h.1, wfRo_cp hg h.2.1, by rw [hA 1 (by omega)]; exact h.2.2⟩
theorem wfSt_cp {A A' : Nat → Nat → Int32} {s s' : Nat} (h0 : A' s' = A s) (h1 : A' (s' + 1) = A (s + 1)) (h : wfSt A s) : wfSt A' s' := by
  unfold wfSt wfM wfK
  rw [h0, h1]
  exact h
/-- the d-th of the latest acts lies at this place of the ring -/
def dix (x d : Nat) : Nat := (x + 14 - d) % 14
def rT (A B : Nat → Nat → Int32) : Prop := A 1 1 = B 179 1 ∧ (¬ A 1 1 < 0 ∧ ¬ 80 < A 1 1) ∧ ∀ j, j < tn (A 1 1) → A 2 j = B 180 j ∧ ¬ A 2 j < 0 ∧ ¬ 255 < A 2 j
def rP (A B : Nat → Nat → Int32) : Prop := prR A 3 B ∧ wfY B ∧ B 179 17 = -9
def rN (A B : Nat → Nat → Int32) : Prop := SR A 13 (B 184) (tn (B 179 2))
def rH (A B : Nat → Nat → Int32) : Prop := A 29 1 = B 179 10 ∧ A 29 2 = B 179 9 ∧ (¬ A 29 1 < 0 ∧ ¬ 14 ≤ A 29 1) ∧ (¬ A 29 2 < 0 ∧ ¬ 14 < A 29 2) ∧ (∀ i, i < 14 → wfSt A (30 + 1 + 8 * i)) ∧ ∀ d, 1 ≤ d → d ≤ tn (A 29 2) → SR A (30 + 1 + 8 * dix (tn (A 29 1)) d) (fun j => B 186 (128 * dix (tn (A 29 1)) d + j)) (tn (B 179 2))
def rK (A B : Nat → Nat → Int32) : Prop := (∀ i, i < 2 → wfSt A (143 + 20 + 8 * i)) ∧ ∀ q, q < 2 → A 144 q = B 188 q ∧ (¬ A 144 q = 0 → SR A (143 + 20 + 8 * q) (fun j => B 187 (128 * q + j)) (tn (B 179 2)))
def rV (A B : Nat → Nat → Int32) : Prop := A 145 2 = B 179 15 ∧ (¬ A 145 2 < 0 ∧ ¬ 6 < A 145 2) ∧ ∀ j, j < tn (A 145 2) → A 146 j = B 189 j ∧ A 147 j = B 190 j ∧ (A 147 j = 0 ∨ A 147 j = 1)
/-- class and reference stand alike; A is read below 179, B from 179 on -/
def Rel (A B : Nat → Nat → Int32) : Prop := rT A B ∧ rP A B ∧ rN A B ∧ rH A B ∧ rK A B ∧ rV A B
theorem rT_cg {A A' B B' : Nat → Nat → Int32} (h1 : A' 1 1 = A 1 1) (h2 : A' 2 = A 2) (b1 : B' 179 1 = B 179 1) (b2 : B' 180 = B 180) (h : rT A B) : rT A' B' := by
  unfold rT; rw [h1, h2, b1, b2]; exact h
theorem rP_cg {A A' B B' : Nat → Nat → Int32} (hA : ∀ k, 3 ≤ k → k < 8 → A' k = A k) (h2 : B' 179 2 = B 179 2) (h17 : B' 179 17 = B 179 17) (hB : ∀ k, (k = 181 ∨ k = 182 ∨ k = 183) → B' k = B k) (h : rP A B) : rP A' B' :=
  ⟨prR_cg (fun k k1 k2 => hA k k1 (by omega)) h2 (hB _ (by omega)) (hB _ (by omega)) (hB _ (by omega)) h.1, wfY_of h2 hB h.2.1, by rw [h17]; exact h.2.2⟩
theorem rN_cg {A A' B B' : Nat → Nat → Int32} (hA : ∀ k, 13 ≤ k → k < 21 → A' k = A k) (h2 : B' 179 2 = B 179 2) (hB : B' 184 = B 184) (h : rN A B) : rN A' B' := by
  unfold rN; rw [h2, hB]
  exact SR_cp (fun k hk => hA _ (by omega) (by omega)) (fun _ _ => rfl) h
theorem rH_cg {A A' B B' : Nat → Nat → Int32} (h1 : A' 29 1 = A 29 1) (h2 : A' 29 2 = A 29 2) (hA : ∀ k, 31 ≤ k → k < 143 → A' k = A k) (b2 : B' 179 2 = B 179 2) (b9 : B' 179 9 = B 179 9) (b10 : B' 179 10 = B 179 10) (hB : B' 186 = B 186) (h : rH A B) : rH A' B' := by
  unfold rH
  rw [h1, h2, b2, b9, b10, hB]
  refine ⟨h.1, h.2.1, h.2.2.1, h.2.2.2.1, fun i hi => wfSt_cp (hA _ (by omega) (by omega)) (hA _ (by omega) (by omega)) (h.2.2.2.2.1 i hi), fun d d1 d2 => ?_⟩
  have hx : dix (tn (A 29 1)) d < 14 := Nat.mod_lt _ (by decide)
  exact SR_cp (fun k hk => hA _ (by omega) (by omega)) (fun _ _ => rfl) (h.2.2.2.2.2 d d1 d2)
theorem rK_cg {A A' B B' : Nat → Nat → Int32} (h1 : A' 144 = A 144) (hA : ∀ k, 163 ≤ k → k < 179 → A' k = A k) (b2 : B' 179 2 = B 179 2) (hB : B' 187 = B 187) (hB8 : B' 188 = B 188) (h : rK A B) : rK A' B' := by
  unfold rK
  rw [h1, b2, hB, hB8]
  refine ⟨fun i hi => wfSt_cp (hA _ (by omega) (by omega)) (hA _ (by omega) (by omega)) (h.1 i hi), fun q hq => ⟨(h.2 q hq).1, fun hc => ?_⟩⟩
  exact SR_cp (fun k hk => hA _ (by omega) (by omega)) (fun _ _ => rfl) ((h.2 q hq).2 hc)
theorem rV_cg {A A' B B' : Nat → Nat → Int32} (h1 : A' 145 2 = A 145 2) (h2 : A' 146 = A 146) (h3 : A' 147 = A 147) (b1 : B' 179 15 = B 179 15) (b2 : B' 189 = B 189) (b3 : B' 190 = B 190) (h : rV A B) : rV A' B' := by
  unfold rV; rw [h1, h2, h3, b1, b2, b3]; exact h
theorem Rel_cg {A A' B B' : Nat → Nat → Int32} (hA : ∀ k, ((1 ≤ k ∧ k < 8) ∨ (13 ≤ k ∧ k < 21) ∨ (29 ≤ k ∧ k < 148) ∨ (163 ≤ k ∧ k < 179)) → A' k = A k) (hB : ∀ k, ((180 ≤ k ∧ k < 185) ∨ (186 ≤ k ∧ k < 191)) → B' k = B k) (h9 : ∀ j, (j = 1 ∨ j = 2 ∨ j = 9 ∨ j = 10 ∨ j = 15 ∨ j = 17) → B' 179 j = B 179 j) (h : Rel A B) : Rel A' B' :=
  ⟨rT_cg (by rw [hA 1 (by omega)]) (hA 2 (by omega)) (h9 1 (by omega)) (hB 180 (by omega)) h.1,
   rP_cg (fun k k1 k2 => hA k (by omega)) (h9 2 (by omega)) (h9 17 (by omega)) (fun k hk => hB k (by omega)) h.2.1,
   rN_cg (fun k k1 k2 => hA k (by omega)) (h9 2 (by omega)) (hB 184 (by omega)) h.2.2.1,
   rH_cg (by rw [hA 29 (by omega)]) (by rw [hA 29 (by omega)]) (fun k k1 k2 => hA k (by omega)) (h9 2 (by omega)) (h9 9 (by omega)) (h9 10 (by omega)) (hB 186 (by omega)) h.2.2.2.1,
   rK_cg (hA 144 (by omega)) (fun k k1 k2 => hA k (by omega)) (h9 2 (by omega)) (hB 187 (by omega)) (hB 188 (by omega)) h.2.2.2.2.1,
   rV_cg (by rw [hA 145 (by omega)]) (hA 146 (by omega)) (hA 147 (by omega)) (h9 15 (by omega)) (hB 189 (by omega)) (hB 190 (by omega)) h.2.2.2.2.2⟩
/-- only the state that stands has changed -/
theorem Rel_now {A A' B B' : Nat → Nat → Int32} (hA : ∀ k, (k < 13 ∨ 21 ≤ k) → k < 179 → A' k = A k) (hB : ∀ k, 179 ≤ k → k ≠ 184 → k ≠ 191 → B' k = B k) (hs : SR A' 13 (B' 184) (tn (B 179 2))) (h : Rel A B) : Rel A' B' := by
  have b9 : B' 179 = B 179 := hB 179 (by omega) (by omega) (by omega)
  exact ⟨rT_cg (by rw [hA 1 (by omega) (by omega)]) (hA 2 (by omega) (by omega)) (by rw [b9]) (hB 180 (by omega) (by omega) (by omega)) h.1,
   rP_cg (fun k k1 k2 => hA k (by omega) (by omega)) (by rw [b9]) (by rw [b9]) (fun k hk => hB k (by omega) (by omega) (by omega)) h.2.1,
   by unfold rN; rw [b9]; exact hs,
   rH_cg (by rw [hA 29 (by omega) (by omega)]) (by rw [hA 29 (by omega) (by omega)]) (fun k k1 k2 => hA k (by omega) (by omega)) (by rw [b9]) (by rw [b9]) (by rw [b9]) (hB 186 (by omega) (by omega) (by omega)) h.2.2.2.1,
   rK_cg (hA 144 (by omega) (by omega)) (fun k k1 k2 => hA k (by omega) (by omega)) (by rw [b9]) (hB 187 (by omega) (by omega) (by omega)) (hB 188 (by omega) (by omega) (by omega)) h.2.2.2.2.1,
   rV_cg (by rw [hA 145 (by omega) (by omega)]) (hA 146 (by omega) (by omega)) (hA 147 (by omega) (by omega)) (by rw [b9]) (hB 189 (by omega) (by omega) (by omega)) (hB 190 (by omega) (by omega) (by omega)) h.2.2.2.2.2⟩
theorem prR_wfP {A B : Nat → Nat → Int32} {r : Nat} (hp : prR A r B) (hY : wfY B) : wfP A r := by
  unfold wfP
  rw [hp.1]
  refine ⟨hY.1.1, hY.1.2, fun p hlt => ?_⟩
  obtain ⟨hk, e, h99, hn, -⟩ := hp.2 p hlt
  have hw := hY.2 p hlt
  by_cases z : A (r + 1) p = 99
  · obtain ⟨a1, a2, a3⟩ := h99 z
    unfold wfI
    rw [z, a1]
    exact ⟨by decide, by decide, fun w => absurd w (by decide), fun w => absurd w (by decide)⟩
  · obtain ⟨a1, a2⟩ := hn z
    have k7 : ¬ B 181 p = 7 := fun w => z ((yk_7 hk).mp (by rw [← e]; exact w))
    unfold wfI
    rw [a1, a2]
    refine ⟨(hw.1 k7).1, (hw.1 k7).2, fun w => hw.2.1 ?_, fun w => hw.2.2 ?_⟩
    · rw [e]; rcases w with w | w <;> rw [w] <;> decide
    · rw [e]; rcases w with w | w <;> rw [w] <;> decide
theorem Rel_WX {A B : Nat → Nat → Int32} (h : Rel A B) : WX A :=
  ⟨h.1.2.1, prR_wfP h.2.1.1 h.2.1.2.1, SR_wfSt h.2.2.1, h.2.2.2.1.2.2.1, h.2.2.2.1.2.2.2.1, h.2.2.2.1.2.2.2.2.1, h.2.2.2.2.1.1, h.2.2.2.2.2.2.1⟩
theorem Rel_wfL {A B : Nat → Nat → Int32} (h : Rel A B) : wfL A := ⟨h.1.2.1, fun j hj => (h.1.2.2 j hj).2⟩
theorem Rel_wfR {A B : Nat → Nat → Int32} (h : Rel A B) : wfR B 184 := h.2.2.1.2.1
theorem Rel_wfD {A B : Nat → Nat → Int32} (h : Rel A B) : wfD B := by unfold wfD; rw [← h.2.2.2.1.1]; exact h.2.2.2.1.2.2.1
theorem Rel_wfV {A B : Nat → Nat → Int32} (h : Rel A B) : wfV B := by unfold wfV; rw [← h.2.2.2.2.2.1]; exact h.2.2.2.2.2.2.1
theorem Rel_wfX {A B : Nat → Nat → Int32} (h : Rel A B) : wfX B := by unfold wfX; rw [← h.1.1]; exact h.1.2.1
theorem Rel_hK {A B : Nat → Nat → Int32} (h : Rel A B) : ∀ p, p < 16 → ¬ B 184 (26 + p) < 0 := fun p hp => (h.2.2.1.1.2.2.1 p hp).2.1.1
theorem dix_1 {x : Nat} (hx : x < 14) : dix ((x + 1) % 14) 1 = x := by unfold dix; omega
theorem dix_s {x d : Nat} (hx : x < 14) (h1 : 1 ≤ d) (h2 : d < 14) : dix ((x + 1) % 14) (d + 1) = dix x d ∧ dix x d ≠ x := by unfold dix; omega
theorem ndK_in {B : Nat → Nat → Int32} {x i j : Nat} (hj : j < 128) : ndK B x 128 186 (128 * i + j) = if i = x then B 184 j else B 186 (128 * i + j) := by
  unfold ndK va_up
  rw [if_pos rfl]
  by_cases z : i = x
  · subst z
    rw [if_pos (by omega), if_pos rfl, show 128 * i + j - 128 * i = j by omega]
  · rw [if_neg (by omega), if_neg z]
theorem Rel_note {A B : Nat → Nat → Int32} (h : Rel A B) : Rel (ntS A) (ynote B) := by
  have hW := Rel_WX h
  have hrow : ∀ k, (k < 29 ∨ 143 ≤ k) → ntS A k = A k := fun k hk => ntS_row hW hk
  have hyr : ∀ k, k ≠ 186 → k ≠ 179 → ynote B k = B k := fun k a b => ynote_ne a b
  have hy9 : ∀ j, j ≠ 9 → j ≠ 10 → ynote B 179 j = B 179 j := fun j a b => by unfold ynote; rw [up2_ne (Or.inr a), up2_ne (Or.inr b), ndK_ne (by decide)]
  have hx : tn (A 29 1) < 14 := tn_lt (M := 14) (k := 14) rfl (by decide) h.2.2.2.1.2.2.1.1 h.2.2.2.1.2.2.1.2
  have hh : tn (A 29 2) ≤ 14 := tn_le (M := 14) (k := 14) rfl (by decide) h.2.2.2.1.2.2.2.1.1 h.2.2.2.1.2.2.2.1.2
  refine ⟨rT_cg (by rw [hrow 1 (by omega)]) (hrow 2 (by omega)) (hy9 1 (by decide) (by decide)) (hyr 180 (by decide) (by decide)) h.1,
   rP_cg (fun k k1 k2 => hrow k (by omega)) (hy9 2 (by decide) (by decide)) (hy9 17 (by decide) (by decide)) (fun k hk => hyr k (by omega) (by omega)) h.2.1,
   rN_cg (fun k k1 k2 => hrow k (by omega)) (hy9 2 (by decide) (by decide)) (hyr 184 (by decide) (by decide)) h.2.2.1, ?_,
   rK_cg (hrow 144 (by omega)) (fun k k1 k2 => hrow k (by omega)) (hy9 2 (by decide) (by decide)) (hyr 187 (by decide) (by decide)) (hyr 188 (by decide) (by decide)) h.2.2.2.2.1,
   rV_cg (by rw [hrow 145 (by omega)]) (hrow 146 (by omega)) (hrow 147 (by omega)) (hy9 15 (by decide) (by decide)) (hyr 189 (by decide) (by decide)) (hyr 190 (by decide) (by decide)) h.2.2.2.2.2⟩
  obtain ⟨e1, e2, -, h2r, hst, hd⟩ := h.2.2.2.1
  have hN := h.2.2.1
  have a1 : ntS A 29 1 = nI ((tn (A 29 1) + 1) % 14) := by unfold ntS rmS; rw [up2_ne (Or.inr (by decide)), up2_same]
  have a2 : ntS A 29 2 = nI (if tn (A 29 2) < 14 then tn (A 29 2) + 1 else 14) := by unfold ntS rmS; rw [up2_same]
  have ring : ∀ i k, i < 14 → k < 8 → ntS A (30 + 1 + 8 * i + k) = if i = tn (A 29 1) then A (13 + k) else A (30 + 1 + 8 * i + k) := fun i k hi hk => by
    unfold ntS rmS
    rw [up2_row (by omega), up2_row (by omega)]
    unfold cpR
    by_cases z : i = tn (A 29 1)
    · rw [if_pos (by omega), if_pos z, show 13 + (30 + 1 + 8 * i + k - (30 + 1 + 8 * tn (A 29 1))) = 13 + k by omega]
    · rw [if_neg (by omega), if_neg z]
  have dia : ∀ i j, j < 128 → ynote B 186 (128 * i + j) = if i = tn (A 29 1) then B 184 j else B 186 (128 * i + j) := fun i j hj => by
    unfold ynote
    rw [up2_row (by decide), up2_row (by decide), ← e1]
    exact ndK_in hj
  have h2' : (if tn (A 29 2) < 14 then tn (A 29 2) + 1 else 14) ≤ 14 := by split <;> omega
  unfold rH
  rw [hy9 2 (by decide) (by decide), a1, a2, tn_nI (by omega), tn_nI (by omega)]
  refine ⟨?_, ?_, ?_, ?_, ?_, ?_⟩
  · unfold ynote; rw [up2_ne (Or.inr (by decide)), up2_same, e1]
  · unfold ynote
    rw [up2_same, ← e2]
    by_cases c : tn (A 29 2) < 14
    · rw [if_pos c, if_pos (show A 29 2 < 14 from by rw [nI_self h2r.1]; exact nI_lt (b := 14) c (by decide)), tn_1 h2r.1]
    · rw [if_neg c, if_neg (show ¬ A 29 2 < 14 from fun w => c (by rw [nI_self h2r.1] at w; exact (nI_ltI (b := 14) (by show tn (A 29 2) < _; omega) (by decide)).mp w))]; rfl
  · exact ⟨nI_pos (by omega), fun w => by have := (nI_leI (a := 14) (by decide) (by omega)).mp w; omega⟩
  · exact ⟨nI_pos (by omega), fun w => by have := (nI_ltI (a := 14) (by decide) (by omega)).mp w; omega⟩
  · intro i hi
    have r0 := ring i 0 hi (by omega)
    have r1 := ring i 1 hi (by omega)
    by_cases z : i = tn (A 29 1)
    · rw [if_pos z] at r0 r1
      exact wfSt_cp r0 r1 (SR_wfSt hN)
    · rw [if_neg z] at r0 r1
      exact wfSt_cp r0 r1 (hst i hi)
  · intro d d1 d2
    by_cases z : d = 1
    · subst z
      rw [dix_1 hx]
      exact SR_cp (fun k hk => by rw [ring _ k hx hk, if_pos rfl]) (fun j hj => by rw [dia _ j hj, if_pos rfl]) hN
    · obtain ⟨d', rfl⟩ : ∃ d', d = d' + 1 := ⟨d - 1, by omega⟩
      have hd' : d' ≤ tn (A 29 2) ∧ d' < 14 := by split at d2 <;> omega
      obtain ⟨f1, f2⟩ := dix_s hx (show 1 ≤ d' by omega) hd'.2
      have f3 : dix (tn (A 29 1)) d' < 14 := Nat.mod_lt _ (by decide)
      rw [f1]
      exact SR_cp (fun k hk => by rw [ring _ k f3 hk, if_neg f2]) (fun j hj => by rw [dia _ j hj, if_neg f2]) (hd d' (by omega) hd'.1)
