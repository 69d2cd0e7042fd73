theorem ra1_rw {A : Nat → Nat → Int32} {s r k : Nat} (h : k < s ∨ s + 8 ≤ k) : ra1 A s r k = A k := by unfold ra1; rw [chS_row (by omega) (by omega), stS_row (by omega)]
/-- the plans of the two are one -/
theorem plan_rel {s r q n : Nat} (hq : shp q = (11, 128)) (hd : r + 5 ≤ s ∨ s + 8 ≤ r) (k d : Int32) : ∀ (m t : Nat) (A B : Nat → Nat → Int32), t + m = 100 → prR A r B → stR A s (B q) n → wfY B → wfR B q → B 179 17 = -9 → tn (B 179 2) = n → wfS A s r → (pfL s r k d m A).1 = (poL q k d m t B).1 ∧ stR (pfL s r k d m A).2 s ((poL q k d m t B).2 q) n
  | 0, t, A, B, _, hp, h, _, _, _, _, _ => ⟨rfl, h⟩
  | m + 1, t, A, B, htm, hp, h, hY, hR, hi, hn, hw => by
    have hne := hq_ne hq
    have hCq : ccK B q 8 q = B q := ccK_ne hne.2.2.2.2
    have hC2 : ccK B q 8 179 = B 179 := ccK_ne (by decide)
    have hpC : prR A r (ccK B q 8) := prR_cg (fun _ _ _ => rfl) (by rw [hC2]) (ccK_ne (by decide)) (ccK_ne (by decide)) (ccK_ne (by decide)) hp
    have hYC : wfY (ccK B q 8) := ccK_wfY hY
    have hRC : wfR (ccK B q 8) q := ccK_wfR hq hR
    have hnC : tn (ccK B q 8 179 2) = n := by rw [hC2]; exact hn
    have hsC : stR A s (ccK B q 8 q) (tn (ccK B q 8 179 2)) := by rw [hnC, hCq]; exact h
    have hiC : ¬ bsI (ccK B q 8) q := no_idle (by rw [hC2]; exact hi)
    have h91 : ∀ j, j < 8 → ccK B q 8 191 j = ccK B q 8 q (4 + j) := fun j hj => by rw [hCq]; unfold ccK va_up; rw [if_pos rfl, if_pos hj]
    have hst := bare_P hpC hsC.1 hYC hRC hiC
    have h17 : ccK B q 8 179 17 = -9 := by rw [hC2]; exact hi
    rw [pfL, poL]
    generalize ccK B q 8 = C at *
    by_cases hb : bsP C q
    · have hs := hst.mpr hb
      have hsU := step_rel hq hd hpC hsC hYC hRC hiC hb
      have hwr := watch_rel hq hd hpC hsC hYC hRC hiC hb h91
      have hYU := spS_wfY hq hYC hRC
      have hRU := spS_wfR hYC hRC
      have hU2 : spS C q 179 = C 179 := funext (fun j => spS_fr hYC hRC (Or.inl hne.1.symm))
      have e5 : ra1 A s r (s + 1) 5 = spS C q q 22 := hsU.1.2.2.2.2.2.1
      have h01 : spS C q q 22 = 0 ∨ spS C q q 22 = 1 := by
        rw [← e5]; unfold ra1; rw [chS_row (by omega) (by omega)]; exact (stS_wfM hw.1 hs).2.2
      rw [if_pos hb]
      by_cases c22 : spS C q q 22 = 1
      · have e1 : rsR (spS C q) q k d (nI t) = 3 := by rw [rsR, if_pos c22]
        have e2 : rsS (spS C q) q = spS C q := by rw [rsS, if_pos c22]
        have f0 : ¬ ra1 A s r (s + 1) 5 = 0 := by rw [e5, c22]; decide
        have f1 : raR A s r = 3 := by rw [raR, if_pos hs, if_neg f0]
        have f2 : raS A s r = ra1 A s r := by rw [raS, if_pos hs, if_neg f0]
        rw [e1, e2, f1, f2, if_neg (by decide), if_neg (by decide)]
        exact ⟨rfl, by rw [← hnC]; exact hsU⟩
      · have f0 : ra1 A s r (s + 1) 5 = 0 := by rw [e5]; exact h01.resolve_right c22
        by_cases cw : icB (spS C q) q 8 = true
        · have e1 : rsR (spS C q) q k d (nI t) = 2 := by rw [rsR, if_neg c22, if_pos cw]
          have e2 : rsS (spS C q) q = spS C q := by rw [rsS, if_neg c22, if_pos cw]
          have f1 : raR A s r = 2 := by rw [raR, if_pos hs, if_pos f0, if_pos (hwr.mpr cw)]
          have f2 : raS A s r = ra1 A s r := by rw [raS, if_pos hs, if_pos f0, if_pos (hwr.mpr cw)]
          rw [e1, e2, f1, f2, if_neg (by decide), if_neg (by decide)]
          exact ⟨rfl, by rw [← hnC]; exact hsU⟩
        · have hnw : ¬ raW A s r := fun z => cw (hwr.mp z)
          have hnU : tn (spS C q 179 2) = n := by rw [hU2]; exact hnC
          have hsU2 : stR (ra1 A s r) s (spS C q q) (tn (spS C q 179 2)) := by rw [hU2]; exact hsU
          have hsp := stop_rel hYU.1 hRU hsU2
          have e2 : rsS (spS C q) q = isqS (spS C q) q := by rw [rsS, if_neg c22, if_neg cw]
          have f2 : raS A s r = stopS (ra1 A s r) (s + 5) (s + 1) := by rw [raS, if_pos hs, if_pos f0, if_neg hnw]
          have hs2 : stR (raS A s r) s (rsS (spS C q) q q) n := by rw [e2, f2, ← hnU]; exact hsp.2
          by_cases cs : isqP (spS C q) q
          · have e1 : rsR (spS C q) q k d (nI t) = 1 := by rw [rsR, if_neg c22, if_neg cw, if_pos cs]
            have f1 : raR A s r = 1 := by rw [raR, if_pos hs, if_pos f0, if_neg hnw, hsp.1, if_pos cs]; rfl
            rw [e1, f1, if_neg (by decide), if_neg (by decide)]
            exact ⟨rfl, hs2⟩
          · have f1 : raR A s r = -1 := by rw [raR, if_pos hs, if_pos f0, if_neg hnw, hsp.1, if_neg cs]; rfl
            have ed : raS A s r (s + 1) 3 = spS C q q 20 := by
              have z : raS A s r (s + 1) 3 = rsS (spS C q) q q 20 := hs2.1.2.2.2.1
              rw [z, rsS_fr hYU.1 (Or.inr (Or.inl (by decide)))]
            have hdt : doneP (raS A s r) s k d ↔ thP k d (spS C q q 20) := by unfold doneP thP; rw [ed]
            rw [f1, if_pos rfl]
            by_cases ct : thP k d (spS C q q 20)
            · have e1 : rsR (spS C q) q k d (nI t) = 0 := by rw [rsR, if_neg c22, if_neg cw, if_neg cs, if_pos ct]
              rw [if_pos (hdt.mpr ct), e1, if_neg (by decide)]
              exact ⟨rfl, hs2⟩
            · rw [if_neg (fun z => ct (hdt.mp z))]
              by_cases c99 : nI t = 99
              · have e1 : rsR (spS C q) q k d (nI t) = 5 := by rw [rsR, if_neg c22, if_neg cw, if_neg cs, if_neg ct, if_pos c99]
                have ht : t = 99 := (nI_eq (b := 99) (by omega) (by decide)).mp c99
                obtain rfl : m = 0 := by omega
                rw [e1, if_neg (by decide), pfL]
                exact ⟨rfl, hs2⟩
              · have e1 : rsR (spS C q) q k d (nI t) = -9 := by rw [rsR, if_neg c22, if_neg cw, if_neg cs, if_neg ct, if_neg c99]
                rw [e1, if_pos rfl]
                refine plan_rel hq hd k d m (t + 1) (raS A s r) (rsS (spS C q) q) (by omega) ?_ hs2 (rsS_wfY hq hYU) (rsS_wfR hYU.1 hRU) ?_ ?_ (raS_wf hw hd)
                · have hBr : ∀ a, a ≠ q → rsS (spS C q) q a = C a := fun a ha => funext (fun j => by rw [rsS_fr hYU.1 (Or.inl ha), spS_fr hYC hRC (Or.inl ha)])
                  refine prR_cg (fun a a1 a2 => ?_) (by rw [hBr 179 hne.1.symm]) (hBr 181 hne.2.1.symm) (hBr 182 hne.2.2.1.symm) (hBr 183 hne.2.2.2.1.symm) hpC
                  rw [f2, stopS_row (by omega), ra1_rw (by omega)]
                · rw [rsS_fr hYU.1 (Or.inl hne.1.symm), hU2]; exact h17
                · rw [rsS_fr hYU.1 (Or.inl hne.1.symm)]; exact hnU
    · have hs : ¬ stP A (s + 1) r := fun z => hb (hst.mp z)
      have f1 : raR A s r = 4 := by rw [raR, if_neg hs]
      have f2 : raS A s r = A := by rw [raS, if_neg hs]
      have e : spS C q = C := by rw [spS, if_neg hb, bsS, if_neg hiC, if_pos (Decidable.byContradiction (fun z => hb (Or.inr z)))]
      rw [if_neg hb, f1, f2, e, if_neg (by decide)]
      exact ⟨rfl, by rw [← hnC]; exact hsC⟩
