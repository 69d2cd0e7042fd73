theorem sI_T {g : Nat → Int32} {n c : Nat} {pl : Nat → Nat} {set : Int32} {T T' C V : Nat → Nat → Int32} (hT : ∀ k, (k < 8 ∨ k = 19 ∨ (154 ≤ k ∧ k < 159)) → T' k = T k) (h : sI g n c pl set T C V) : sI g n c pl set T' C V := by
  obtain ⟨⟨h1, h2, h3, h4, h5⟩, ⟨h6, h7⟩, h8, h9, h10, h11, h12, h13, h14, h15⟩ := h
  refine ⟨⟨prR_cg (fun k k1 k2 => hT k (by omega)) rfl rfl rfl rfl h1, h2, h3, h4, h5⟩, ⟨mcR_cg (fun k k1 k2 => hT k (by omega)) h6, ?_⟩, h8, h9, h10, h11, h12, brR_cg (hT 19 (by omega)) (fun _ _ _ => rfl) h13, h14, fun j hj => ?_⟩
  · unfold wfM; rw [hT 154 (by omega)]; exact h7
  · rw [hT 158 (by omega)]; exact h15 j hj
theorem sI_col {g : Nat → Int32} {n c : Nat} {pl : Nat → Nat} {set : Int32} {T C C' V V' : Nat → Nat → Int32} (hpl : plQ g c pl) (hrow : ∀ a, a ≠ 185 → C' a = C a) (hlo : ∀ j, (j < 90 ∨ 122 ≤ j) → C' 185 j = C 185 j) (hV : ∀ j, j < c → btP set j → V' 160 j = C' 185 (90 + pl j)) (h : sI g n c pl set T C V) : sI g n c pl set T C' V' := by
  obtain ⟨⟨h1, h2, h3, h4, h5⟩, ⟨h6, h7⟩, h8, h9, h10, h11, h12, h13⟩ := h
  have h9' := hrow 179 (by decide)
  have hb := tn_le (M := 8) (k := 8) rfl (by decide) h3.1.1 h3.1.2
  refine ⟨⟨prR_cg (fun _ _ _ => rfl) (by rw [h9']) (hrow _ (by decide)) (hrow _ (by decide)) (hrow _ (by decide)) h1, wfY_of (by rw [h9']) (fun k hk => hrow k (by omega)) h2, wfR_of (by rw [hlo 20 (by omega)]; exact h3.1) (by rw [keP, hlo 122 (by omega)]; exact h3.2.1) (fun a a1 a2 => hlo a (by omega)) h3, by rw [h9']; exact h4, by rw [h9']; exact h5⟩, ⟨mcR_g (fun j hj => hlo j (by omega)) hb h6, h7⟩, by rw [hlo 25 (by omega)]; exact h8, fun p hp => ?_, fun j hj => ?_, fun p hp hg => ?_, hV, h13⟩
  · rw [hlo (42 + p) (by omega), hlo (58 + p) (by omega), hlo (74 + p) (by omega)]; exact h9 p hp
  · have := (hpl.2.1 j hj).1
    rw [hlo (26 + pl j) (by omega)]; exact h10 j hj
  · rw [hlo (26 + p) (by omega)]; exact h11 p hp hg
theorem sI_step {g : Nat → Int32} {n c : Nat} {pl : Nat → Nat} {set : Int32} {T C V : Nat → Nat → Int32} (hpl : plQ g c pl) (h : sI g n c pl set T C V) : (stP T 154 3 ↔ bsP (ccK C 185 8) 185) ∧ (stP T 154 3 → sI g n c pl set (stS T 154 3) (spS (ccK C 185 8) 185) V ∧ (spS (ccK C 185 8) 185 185 22 = 0 ∨ spS (ccK C 185 8) 185 185 22 = 1) ∧ ∀ a, a ≠ 185 → a ≠ 191 → spS (ccK C 185 8) 185 a = C a) := by
  obtain ⟨⟨h1, h2, h3, h4, h5⟩, ⟨h6, h7⟩, h8, h9, h10, h11, h12, h13, h14, h15⟩ := h
  have hDq : ccK C 185 8 185 = C 185 := ccK_ne (by decide)
  have hDr : ∀ a, a ≠ 191 → ccK C 185 8 a = C a := fun a ha => ccK_ne ha
  have hpD : prR T 3 (ccK C 185 8) := prR_cg (fun _ _ _ => rfl) (by rw [hDr 179 (by decide)]) (hDr _ (by decide)) (hDr _ (by decide)) (hDr _ (by decide)) h1
  have hYD : wfY (ccK C 185 8) := ccK_wfY h2
  have hRD : wfR (ccK C 185 8) 185 := ccK_wfR sh_185 h3
  have hmD : mcR T 154 (ccK C 185 8 185) := by rw [hDq]; exact h6
  have hiD : ¬ bsI (ccK C 185 8) 185 := no_idle (by rw [hDr 179 (by decide)]; exact h4)
  have hst := bare_P hpD hmD hYD hRD hiD
  refine ⟨hst, fun hs => ?_⟩
  have hb := hst.mp hs
  generalize ccK C 185 8 = D at *
  have hUr : ∀ a, a ≠ 185 → a ≠ 191 → spS D 185 a = C a := fun a a1 a2 => by rw [← hDr a a2]; exact funext (fun j => spS_fr hYD hRD (Or.inl a1))
  have hUl : ∀ j, 25 ≤ j → j < 122 → spS D 185 185 j = C 185 j := fun j j1 j2 => by rw [spS_fr hYD hRD (Or.inr ⟨j1, j2⟩), hDq]
  have hUb : ∀ j, j < 122 → spS D 185 185 j = bsS D 185 185 j := fun j hj => sp_cell hYD hRD hb hj
  have h20 := bsS_20 hYD hRD
  have hmU : mcR (stS T 154 3) 154 (spS D 185 185) := mcR_g (fun j hj => hUb j (by omega)) (tn_le (M := 8) (k := 8) rfl (by decide) h20.1 h20.2) (bare_S hpD hmD hYD hRD hiD hb)
  have hwU : wfM (stS T 154 3) 154 := stS_wfM h7 hs
  have e22 : stS T 154 3 154 5 = spS D 185 185 22 := hmU.2.2.2.2.2.1
  refine ⟨⟨⟨prR_cg (fun k k1 k2 => stS_row (by omega)) (by rw [hUr 179 (by decide) (by decide)]) (hUr _ (by decide) (by decide)) (hUr _ (by decide) (by decide)) (hUr _ (by decide) (by decide)) h1, spS_wfY sh_185 hYD hRD, spS_wfR hYD hRD, by rw [hUr 179 (by decide) (by decide)]; exact h4, by rw [hUr 179 (by decide) (by decide)]; exact h5⟩, ⟨hmU, hwU⟩, by rw [hUl 25 (by omega) (by omega)]; exact h8, fun p hp => ?_, fun j hj => ?_, fun p hp hg => ?_, fun j hj hbj => ?_, brR_cg (stS_row (by omega)) (fun _ _ _ => rfl) h13, h14, fun j hj => ?_⟩, by rw [← e22]; exact hwU.2.2, hUr⟩
  · rw [hUl (42 + p) (by omega) (by omega), hUl (58 + p) (by omega) (by omega), hUl (74 + p) (by omega) (by omega)]; exact h9 p hp
  · have := (hpl.2.1 j hj).1
    rw [hUl (26 + pl j) (by omega) (by omega)]; exact h10 j hj
  · rw [hUl (26 + p) (by omega) (by omega)]; exact h11 p hp hg
  · have := (hpl.2.1 j hj).1
    rw [hUl (90 + pl j) (by omega) (by omega)]; exact h12 j hj hbj
  · rw [stS_row (by omega)]; exact h15 j hj
def yR (r fn : Nat) (z : Int32 × (Nat → Nat → Int32)) : Nat × (Nat → Nat → Int32) := if z.1 = 1 then soL r (fn + 1) z.2 else (fn, z.2)
theorem so_yR (r fn : Nat) (C : Nat → Nat → Int32) : soL (r + 1) fn C = yR r fn (poF C 185 3) := by rw [soL, yR]
theorem th_3 (d x : Int32) : ¬ thP 3 d x := by
  rintro (z | z | z)
  · exact absurd z (by decide)
  · exact absurd z.1 (by decide)
  · exact absurd z.1 (by decide)
theorem sim {g : Nat → Int32} {n c : Nat} {pl : Nat → Nat} {set : Int32} (hpl : plQ g c pl) : ∀ (m k : Nat) (T C V : Nat → Nat → Int32) (fn sn r : Nat) (d : Int32), k + m = 1980 → fn + r = 19 → sn < 99 → k ≤ 99 * fn + sn → T 154 5 = 0 → T 153 6 = nI k → sI g n c pl set T C V → V 161 = (fwL c m k T) 161 → (vaL set (tn (fwL c m k T 153 6) - k) k fn sn V).1 = (yR r fn (poL 185 3 d (99 - sn) (sn + 1) C)).1
  | 0, k, T, C, V, fn, sn, r, d, hk, hr, hs, hb, _, _, _, _ => absurd hk (by omega)
  | m + 1, k, T, C, V, fn, sn, r, d, hk, hr, hs, hb, h5, h6, hI, hV => by
    obtain ⟨hst, hstep⟩ := sI_step hpl hI
    rw [show 99 - sn = (98 - sn) + 1 by omega, poL]
    rw [fwL, if_pos h5] at hV ⊢
    by_cases hs1 : stP T 154 3
    · rw [if_pos hs1] at hV ⊢
      rw [if_pos (hst.mp hs1)]
      obtain ⟨hI1, h22, hUr⟩ := hstep hs1
      generalize spS (ccK C 185 8) 185 = U at *
      generalize hT1 : stS T 154 3 = T1 at *
      have e22 : T1 154 5 = U 185 22 := hI1.2.1.1.2.2.2.2.2.1
      have hlen := fw_len c m (k + 1) (fwA T1 c k) (by omega) (by unfold fwA; rw [up2_same])
      have hVk : V 161 k = fwV T1 c := by
        rw [hV, fw_tr c m (k + 1) k _ (by omega)]
        unfold fwA
        rw [up2_ne (Or.inl (by decide)), up2_same]
      have hT' : sI g n c pl set (fwA T1 c k) U V := sI_T (fun a ha => fwA_rw (by omega) (by omega)) hI1
      have h6' : fwA T1 c k 153 6 = nI (k + 1) := by unfold fwA; rw [up2_same]
      have h5' : fwA T1 c k 154 5 = T1 154 5 := by rw [fwA_rw (by decide) (by decide)]
      rw [show tn (fwL c m (k + 1) (fwA T1 c k) 153 6) - k = (tn (fwL c m (k + 1) (fwA T1 c k) 153 6) - (k + 1)) + 1 by omega, vaL, if_pos (show fn < 20 ∧ sn < 99 from ⟨by omega, hs⟩)]
      by_cases c22 : U 185 22 = 1
      · have e1 : rsR U 185 3 d (nI (sn + 1)) = 3 := by rw [rsR, if_pos c22]
        have hv : fwV T1 c = -9 := by unfold fwV; rw [if_neg (fun z => by rw [e22, c22] at z; exact absurd z.1 (by decide))]
        rw [e1, if_pos (show skP V set k from Or.inl (by rw [hVk, hv]; decide)), if_neg (show ¬ (3 : Int32) = -9 by decide)]
        rw [fw_halt (show ¬ fwA T1 c k 154 5 = 0 from by rw [h5', e22, c22]; decide), h6', tn_nI (by omega), Nat.sub_self]
        unfold yR
        rw [if_neg (show ¬ (3 : Int32) = 1 by decide)]
        rfl
      · have c0 : U 185 22 = 0 := h22.resolve_right c22
        have hnw := ic_0 (S := U) (q := 185) hI1.2.2.1
        have e2 : rsS U 185 = isqS U 185 := by rw [rsS, if_neg c22, if_neg hnw]
        have hs3 : T1 154 5 = 0 := by rw [e22]; exact c0
        have hap := ap_rel hpl hI1.1.2.1 hI1.1.2.2.1 hI1.1.2.2.2.2 hI1.2.1.1 hI1.2.2.2.1 hI1.2.2.2.2.1 hI1.2.2.2.2.2.1 hI1.2.2.2.2.2.2.2.1 hI1.2.2.2.2.2.2.2.2.1 hI1.2.2.2.2.2.2.2.2.2
        rcases hap with ⟨na, hno⟩ | ⟨ya, yap, j, hj, hix, hbt, hpj⟩
        · -- no stop
          have e3 : isqS U 185 = U := by rw [isqS, if_neg na]
          have e1 : rsR U 185 3 d (nI (sn + 1)) = if nI (sn + 1) = 99 then 5 else -9 := by rw [rsR, if_neg c22, if_neg hnw, if_neg (fun z => na z.1), if_neg (th_3 _ _)]
          have hsk : skP V set k := by
            unfold skP
            rw [hVk]
            unfold fwV
            rcases hno with w | ⟨j, hj, hix, hbt⟩
            · rw [if_neg (fun z => w z.2)]; exact Or.inl (by decide)
            · by_cases w : appP T1 18 154
              · rw [if_pos ⟨hs3, w⟩, hix]
                exact Or.inr ((and1 _).resolve_right hbt)
              · rw [if_neg (fun z => w z.2)]; exact Or.inl (by decide)
          rw [if_pos hsk, e1, e2, e3]
          by_cases c99 : sn + 1 = 99
          · rw [if_pos (show nI (sn + 1) = 99 from by rw [c99]; rfl), if_neg (by decide), c99, va_99]
            unfold yR
            rw [if_neg (show ¬ (5 : Int32) = 1 by decide)]
          · rw [if_neg (show ¬ nI (sn + 1) = 99 from fun w => c99 ((nI_eq (b := 99) (by omega) (by decide)).mp w)), if_pos rfl]
            have ih := sim hpl m (k + 1) (fwA T1 c k) U V fn (sn + 1) r d (by omega) hr (by omega) (by omega) (by rw [h5']; exact hs3) h6' hT' hV
            rw [show 99 - (sn + 1) = 98 - sn by omega] at ih
            exact ih
        · have hj6 : j < 6 := Nat.lt_of_lt_of_le hj hpl.1
          have hp16 : pl j < 16 := (hpl.2.1 j hj).1
          have hv : fwV T1 c = nI j := by unfold fwV; rw [if_pos ⟨hs3, yap⟩, hix]
          have hsk : ¬ skP V set k := by
            unfold skP
            rw [hVk, hv]
            rintro (w | w)
            · exact nI_pos (by omega) w
            · rw [hbt] at w; exact absurd w (by decide)
          have e60 : V 160 (tn (V 161 k)) = U 185 (90 + pl j) := by rw [hVk, hv, tn_nI (by omega)]; exact hI1.2.2.2.2.2.2.1 j hj hbt
          have ej : tn (V 161 k) = j := by rw [hVk, hv, tn_nI (by omega)]
          rw [if_neg hsk, e60, ej, e2]
          by_cases cb : 0 < U 185 (90 + pl j)
          · have e3 : isqS U 185 = up2 U 185 (90 + pl j) (U 185 (90 + pl j) - 1) := by rw [isqS, if_pos ya, hpj, if_pos cb]
            have e1 : rsR U 185 3 d (nI (sn + 1)) = if nI (sn + 1) = 99 then 5 else -9 := by rw [rsR, if_neg c22, if_neg hnw, if_neg (fun z => z.2 (by rw [hpj]; exact cb)), if_neg (th_3 _ _)]
            rw [if_pos cb, e1, e3]
            by_cases c99 : sn + 1 = 99
            · rw [if_pos (show nI (sn + 1) = 99 from by rw [c99]; rfl), if_neg (by decide), c99, va_99]
              unfold yR
              rw [if_neg (show ¬ (5 : Int32) = 1 by decide)]
            · rw [if_neg (show ¬ nI (sn + 1) = 99 from fun w => c99 ((nI_eq (b := 99) (by omega) (by decide)).mp w)), if_pos rfl]
              have hI2 : sI g n c pl set (fwA T1 c k) (up2 U 185 (90 + pl j) (U 185 (90 + pl j) - 1)) (up2 V 160 j (U 185 (90 + pl j) - 1)) := by
                refine sI_col hpl (fun a ha => up2_row ha) (fun i hi => up2_ne (Or.inr (by omega))) (fun i hi hbi => ?_) hT'
                by_cases z : i = j
                · rw [z, up2_same, up2_same]
                · rw [up2_ne (Or.inr z), up2_ne (Or.inr (fun w => z (hpl.2.2.1 i j hi hj (by omega))))]
                  exact hI1.2.2.2.2.2.2.1 i hi hbi
              have ih := sim hpl m (k + 1) (fwA T1 c k) _ _ fn (sn + 1) r d (by omega) hr (by omega) (by omega) (by rw [h5']; exact hs3) h6' hI2 (by rw [up2_row (by decide)]; exact hV)
              rw [show 99 - (sn + 1) = 98 - sn by omega] at ih
              exact ih
          · have e3 : isqS U 185 = up2 U 185 (106 + pl j) (U 185 (106 + pl j) + 1) := by rw [isqS, if_pos ya, hpj, if_neg cb]
            have e1 : rsR U 185 3 d (nI (sn + 1)) = 1 := by rw [rsR, if_neg c22, if_neg hnw, if_pos (show isqP U 185 from ⟨ya, by rw [hpj]; exact cb⟩)]
            rw [if_neg cb, e1, if_neg (by decide), e3]
            have hI2 : sI g n c pl set (fwA T1 c k) (up2 U 185 (106 + pl j) (U 185 (106 + pl j) + 1)) V := by
              refine sI_col hpl (fun a ha => up2_row ha) (fun i hi => up2_ne (Or.inr (by omega))) (fun i hi hbi => ?_) hT'
              have := (hpl.2.1 i hi).1
              rw [up2_ne (Or.inr (by omega))]
              exact hI1.2.2.2.2.2.2.1 i hi hbi
            unfold yR
            rw [if_pos rfl]
            by_cases r0 : r = 0
            · subst r0
              obtain rfl : fn = 19 := by omega
              rw [va_20]
              rfl
            · obtain ⟨r', rfl⟩ : ∃ r', r = r' + 1 := ⟨r - 1, by omega⟩
              have ih := sim hpl m (k + 1) (fwA T1 c k) _ _ (fn + 1) 0 r' (up2 U 185 (106 + pl j) (U 185 (106 + pl j) + 1) 185 20) (by omega) (by omega) (by omega) (by omega) (by rw [h5']; exact hs3) h6' hI2 hV
              have ep : poF (up2 U 185 (106 + pl j) (U 185 (106 + pl j) + 1)) 185 3 = poL 185 3 (up2 U 185 (106 + pl j) (U 185 (106 + pl j) + 1) 185 20) (99 - 0) (0 + 1) (up2 U 185 (106 + pl j) (U 185 (106 + pl j) + 1)) := by
                rw [poF, if_neg (show ¬ up2 U 185 (106 + pl j) (U 185 (106 + pl j) + 1) 185 22 = 1 from by rw [up2_ne (Or.inr (by omega))]; exact c22)]
              show _ = (soL (r' + 1) (fn + 1) (up2 U 185 (106 + pl j) (U 185 (106 + pl j) + 1))).1
              rw [so_yR, ep]
              exact ih
    · rw [if_neg hs1]
      rw [if_neg (fun z => hs1 (hst.mpr z)), h6, tn_nI (by omega), Nat.sub_self]
      unfold yR
      rw [if_neg (show ¬ (4 : Int32) = 1 by decide)]
      rfl
