theorem laL_cg {S T : Nat → Nat → Int32} (h1 : T 181 = S 181) (h2 : T 182 = S 182) (h3 : T 183 = S 183) (p : Nat) : ∀ (n : Nat) (f : Int32), laL T p n f = laL S p n f
  | 0, _ => rfl
  | n + 1, f => by
    have e : alP T p n = alP S p n := by unfold alP; rw [h1, h2, h3]
    rw [laL, laL]
    by_cases c : alP S p n
    · rw [if_pos c, if_pos (show alP T p n from by rw [e]; exact c)]; exact laL_cg h1 h2 h3 p n _
    · rw [if_neg c, if_neg (show ¬ alP T p n from by rw [e]; exact c)]; exact laL_cg h1 h2 h3 p n _
theorem prR_cg {A A' B B' : Nat → Nat → Int32} {r : Nat} (hA : ∀ k, r ≤ k → k < r + 5 → A' k = A k) (h0 : B' 179 2 = B 179 2) (h1 : B' 181 = B 181) (h2 : B' 182 = B 182) (h3 : B' 183 = B 183) (h : prR A r B) : prR A' r B' := by
  unfold prR
  rw [hA r (by omega) (by omega), hA (r + 1) (by omega) (by omega), hA (r + 2) (by omega) (by omega), hA (r + 3) (by omega) (by omega), hA (r + 4) (by omega) (by omega), h0, h1, h2, h3]
  refine ⟨h.1, fun p hp => ?_⟩
  have e : laF B' p = laF B p := laL_cg h1 h2 h3 p p _
  rw [e]
  exact h.2 p hp
theorem mcR_cg {A A' : Nat → Nat → Int32} {mq : Nat} {g : Nat → Int32} (hA : ∀ k, mq ≤ k → k < mq + 4 → A' k = A k) (h : mcR A mq g) : mcR A' mq g := by
  unfold mcR
  rw [hA mq (by omega) (by omega), hA (mq + 1) (by omega) (by omega), hA (mq + 2) (by omega) (by omega), hA (mq + 3) (by omega) (by omega)]
  exact h
theorem goA_rw {S : Nat → Nat → Int32} {k : Nat} (h : k ≠ 148) : goA S k = S k := by unfold goA; rw [up2_row h, up2_row h]
theorem go_one {i : Int32} {A X B : Nat → Nat → Int32} (hX : ∀ k, (k < 149 ∨ 153 ≤ k) → X k = A k) (hp : prR A 3 B) (hm : mcR X 149 (bsS B 185 185)) (hY : wfY B) (hR : wfR B 185) (hi : B 179 17 = i) (h1 : A 148 1 = B 179 18) : prR (goA X) 3 (foA B) ∧ mcR (goA X) 149 (foA B 185) ∧ foA B 179 17 = i ∧ goA X 148 1 = foA B 179 18 ∧ goA X 148 2 = (if goA X 149 5 = 0 then -1 else 3) := by
  have hB : ∀ k, k ≠ 185 → k ≠ 179 → foA B k = B k := fun k h k2 => by unfold foA; rw [up2_row k2]; funext j; exact bsS_hi hY hR (Or.inl h)
  refine ⟨prR_cg (fun k k1 k2 => by rw [goA_rw (by omega), hX k (by omega)]) ?_ (hB _ (by decide) (by decide)) (hB _ (by decide) (by decide)) (hB _ (by decide) (by decide)) hp, mcR_cg (fun k k1 k2 => goA_rw (by omega)) ?_, ?_, ?_, ?_⟩
  · unfold foA; rw [up2_ne (Or.inr (by decide))]; exact bsS_hi hY hR (Or.inl (by decide))
  · rw [show foA B 185 = bsS B 185 185 from up2_row (by decide)]; exact hm
  · unfold foA; rw [up2_ne (Or.inr (by decide)), bsS_hi hY hR (Or.inl (by decide))]; exact hi
  · unfold goA foA; rw [up2_ne (Or.inr (by decide)), up2_same, up2_same, bsS_hi hY hR (Or.inl (by decide)), hX 148 (by omega), h1]
  · rw [show goA X 149 = X 149 from goA_rw (by decide)]; unfold goA; rw [up2_same]
theorem goE_ok {A B : Nat → Nat → Int32} (hm : mcR A 149 (B 185)) (h1 : A 148 1 = B 179 18) (h2 : A 148 2 = (if A 149 5 = 0 then -1 else 3)) (hw : wfM A 149) : goE A 148 2 = foE B ∧ goE A 148 1 = B 179 18 ∧ mcR (goE A) 149 (B 185) := by
  refine ⟨?_, ?_, mcR_cg (fun k k1 k2 => up2_row (by omega)) hm⟩
  · have e : A 149 5 = B 185 22 := hm.2.2.2.2.2.1
    unfold goE foE
    rw [up2_same, h2, ← e]
    rcases hw.2.2 with z | z <;> rw [z] <;> decide
  · unfold goE; rw [up2_ne (Or.inr (by decide))]; exact h1
/-- the free runs of the two are one -/
theorem go_rel (i : Int32) : ∀ (m : Nat) (A B : Nat → Nat → Int32), prR A 3 B → mcR A 149 (B 185) → wfY B → wfR B 185 → B 179 17 = i → A 148 1 = B 179 18 → A 148 2 = (if A 149 5 = 0 then -1 else 3) → wfM A 149 → goL i m A 148 2 = (foL m B).1 ∧ goL i m A 148 1 = (foL m B).2 179 18 ∧ mcR (goL i m A) 149 ((foL m B).2 185)
  | 0, A, B, hp, hm, hY, hR, hi, h1, h2, hw => by rw [goL, foL]; exact goE_ok hm h1 h2 hw
  | m + 1, A, B, hp, hm, hY, hR, hi, h1, h2, hw => by
    have e5 : A 149 5 = B 185 22 := hm.2.2.2.2.2.1
    have e4 : A 149 4 = B 185 21 := hm.2.2.2.2.1
    rw [goL, foL]
    by_cases c : A 149 5 = 0
    · rw [if_pos (show A 148 2 = -1 from by rw [h2, if_pos c]), if_pos (show B 185 22 = 0 from by rw [← e5]; exact c)]
      by_cases hI : bsI B 185
      · have hid : idP A i := ⟨by rw [e4, hI.1]; exact hi, by rw [← hi, ← hI.1, hp.1]; exact hI.2⟩
        rw [if_pos hid, if_pos (show bsP B 185 from Or.inl hI)]
        have hm1 : mcR (up2 A 149 4 (A 149 4 + 1)) 149 (bsS B 185 185) := by
          rw [bsS, if_pos hI, up2_q, e4]
          exact mcR_fld hm (tn_le (M := 8) (k := 8) rfl (by decide) hR.1.1 hR.1.2) (x := 4) ⟨by decide, by decide⟩ _
        obtain ⟨a1, a2, a3, a4, a5⟩ := go_one (fun k hk => up2_row (by omega)) hp hm1 hY hR hi h1
        exact go_rel i m _ _ a1 a2 (foA_wfY hY hR) (foA_wfR hY hR) a3 a4 a5 (by unfold wfM; rw [goA_rw (by decide), up2_ne (Or.inr (by decide)), up2_ne (Or.inr (by decide))]; exact hw)
      · have hid : ¬ idP A i := fun h => hI ⟨by rw [← e4, h.1]; exact hi.symm, by rw [← e4, h.1]; have h2 := h.2; rw [hp.1] at h2; exact h2⟩
        rw [if_neg hid]
        have hst := bare_P hp hm hY hR hI
        by_cases hs : stP A 149 3
        · rw [if_pos hs, if_pos (hst.mp hs)]
          obtain ⟨a1, a2, a3, a4, a5⟩ := go_one (fun k hk => stS_row (by omega)) hp (bare_S hp hm hY hR hI (hst.mp hs)) hY hR hi h1
          exact go_rel i m _ _ a1 a2 (foA_wfY hY hR) (foA_wfR hY hR) a3 a4 a5 (by unfold wfM; rw [goA_rw (by decide)]; exact stS_wfM hw hs)
        · have hb : ¬ bsP B 185 := fun z => hs (hst.mpr z)
          rw [if_neg hs, if_neg hb]
          have e : bsS B 185 = B := by rw [bsS, if_neg hI, if_pos (Decidable.byContradiction (fun z => hb (Or.inr z)))]
          rw [e]
          exact ⟨up2_same _ _ _ _, by rw [up2_ne (Or.inr (by decide))]; exact h1, mcR_cg (fun k k1 k2 => up2_row (by omega)) hm⟩
    · rw [if_neg (show ¬ A 148 2 = -1 from by rw [h2, if_neg c]; decide), if_neg (show ¬ B 185 22 = 0 from by rw [← e5]; exact c)]
      exact goE_ok hm h1 h2 hw
