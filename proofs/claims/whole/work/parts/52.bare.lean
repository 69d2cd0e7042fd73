theorem hb_upd {g : Nat → Int32} {j : Nat} {v : Int32} (h : tn (g 20) ≤ 8) (hj : 20 ≠ j) : tn (upd g j v 20) ≤ 8 := by rw [upd_at, if_neg hj]; exact h
theorem yk_7 {k : Int32} (h : kinP k) : ykF k = 7 ↔ k = 99 := by rcases h with rfl | rfl | rfl | rfl | rfl | rfl | rfl | rfl | rfl | rfl | rfl | rfl <;> decide
theorem yk_8 {k : Int32} (h : kinP k) : ykF k = 8 ↔ k = 98 := by rcases h with rfl | rfl | rfl | rfl | rfl | rfl | rfl | rfl | rfl | rfl | rfl | rfl <;> decide
theorem no_idle {B : Nat → Nat → Int32} {q : Nat} (hi : B 179 17 = -9) : ¬ bsI B q := fun h => h.2.1 (by rw [h.1, hi]; decide)
theorem bsP_iff {B : Nat → Nat → Int32} {q : Nat} (hi : ¬ bsI B q) : bsP B q ↔ ¬ dfP B q (B q 21) := ⟨fun h => h.elim (fun z => absurd z hi) id, Or.inr⟩
theorem bare_P {A B : Nat → Nat → Int32} {mq r q : Nat} (hp : prR A r B) (hm : mcR A mq (B q)) (hY : wfY B) (hR : wfR B q) (hi : ¬ bsI B q) : stP A mq r ↔ bsP B q := by
  rw [bsP_iff hi]
  have ht : A mq 4 = B q 21 := hm.2.2.2.2.1
  have hd : A mq 3 = B q 20 := hm.2.2.2.1
  unfold stP dfP
  rw [ht, hd, hp.1]
  by_cases hh : hasY B (B q 21)
  · obtain ⟨hk, e, -⟩ := hp.2 _ (hY16 hY.1 hh).1
    rw [e, yk_7 hk, yk_8 hk]
    have z8 : ¬ B q 20 < 8 ↔ B q 20 = 8 := ⟨fun h => Int32.le_antisymm (Int32.not_lt.mp hR.1.2) (Int32.not_lt.mp h), fun h => by rw [h]; decide⟩
    have z0 : ¬ 0 < B q 20 ↔ B q 20 = 0 := ⟨fun h => Int32.le_antisymm (Int32.not_lt.mp h) (Int32.not_lt.mp hR.1.1), fun h => by rw [h]; decide⟩
    rw [z8, z0]
    constructor
    · rintro ⟨_, h1, h2⟩ (h | h | h)
      · exact h hh
      · exact h2 h
      · exact h1 h
    · intro h
      exact ⟨hh, fun z => h (Or.inr (Or.inr z)), fun z => h (Or.inr (Or.inl z))⟩
  · exact ⟨fun h => absurd h.1 hh, fun h => absurd (Or.inl hh) h⟩
theorem bare_43 {A B : Nat → Nat → Int32} {mq r q : Nat} (hm : mcR A mq (B q)) (hR : wfR B q) {p : Nat} {t : Int32} (ht : A mq 4 = t) (hpt : tn t = p) (hk : A (r + 1) p = 43) (e : B 181 p = 1) (hw : wfJ (B 181 p) (B 182 p) (B 183 p)) (h2 : A (r + 2) p = B 182 p) (h3 : A (r + 3) p = B 183 p) : mcR (stS A mq r) mq (upd (ypS B q p t q) 21 (ypR B q p t)) := by
  have hb := tn_le (M := 8) (k := 8) rfl (by decide) hR.1.1 hR.1.2
  have hd : A mq 3 = B q 20 := hm.2.2.2.1
  have hx : tn (B 182 p) < 4 := tn_lt (M := 4) (k := 4) rfl (by decide) (hw.1 (by rw [e]; decide)).1 (hw.1 (by rw [e]; decide)).2
  have hy : tn (B 183 p) < 4 := tn_lt (M := 4) (k := 4) rfl (by decide) (hw.2.1 (by rw [e]; decide)).1 (hw.2.1 (by rw [e]; decide)).2
  rw [stS, ht, hpt, hk, if_pos rfl]
  rw [ypS, ypR, e, if_neg (by decide), if_pos rfl, if_neg (by decide), if_pos rfl]
  rw [h2, h3, hm.1 _ hx, hm.1 _ hy, up2_q]
  exact mcR_fld (mcR_reg hm hx _) (hb_upd hb (by omega)) (x := 4) ⟨by decide, by decide⟩ _
theorem bare_45 {A B : Nat → Nat → Int32} {mq r q : Nat} (hm : mcR A mq (B q)) (hR : wfR B q) {p : Nat} {t : Int32} (ht : A mq 4 = t) (hpt : tn t = p) (hk : A (r + 1) p = 45) (e : B 181 p = 2) (hw : wfJ (B 181 p) (B 182 p) (B 183 p)) (h2 : A (r + 2) p = B 182 p) (h3 : A (r + 3) p = B 183 p) : mcR (stS A mq r) mq (upd (ypS B q p t q) 21 (ypR B q p t)) := by
  have hb := tn_le (M := 8) (k := 8) rfl (by decide) hR.1.1 hR.1.2
  have hd : A mq 3 = B q 20 := hm.2.2.2.1
  have hx : tn (B 182 p) < 4 := tn_lt (M := 4) (k := 4) rfl (by decide) (hw.1 (by rw [e]; decide)).1 (hw.1 (by rw [e]; decide)).2
  have hy : tn (B 183 p) < 4 := tn_lt (M := 4) (k := 4) rfl (by decide) (hw.2.1 (by rw [e]; decide)).1 (hw.2.1 (by rw [e]; decide)).2
  rw [stS, ht, hpt, hk, if_neg (by decide), if_pos rfl]
  rw [ypS, ypR, e, if_neg (by decide), if_neg (by decide), if_pos rfl, if_neg (by decide), if_neg (by decide), if_pos rfl]
  rw [h2, h3, hm.1 _ hx, hm.1 _ hy, up2_q]
  exact mcR_fld (mcR_reg hm hx _) (hb_upd hb (by omega)) (x := 4) ⟨by decide, by decide⟩ _
theorem bare_98 {A B : Nat → Nat → Int32} {mq r q : Nat} (hm : mcR A mq (B q)) (hR : wfR B q) {p : Nat} {t : Int32} (ht : A mq 4 = t) (hpt : tn t = p) (hk : A (r + 1) p = 98) (e : B 181 p = 8) (hw : wfJ (B 181 p) (B 182 p) (B 183 p)) (h2 : A (r + 2) p = B 182 p) (h3 : A (r + 3) p = B 183 p) (hf : ¬ B q 20 = 0) : mcR (stS A mq r) mq (upd (ypS B q p t q) 21 (ypR B q p t)) := by
  have hb := tn_le (M := 8) (k := 8) rfl (by decide) hR.1.1 hR.1.2
  have hd : A mq 3 = B q 20 := hm.2.2.2.1
  have hx : tn (B 182 p) < 4 := tn_lt (M := 4) (k := 4) rfl (by decide) (hw.1 (by rw [e]; decide)).1 (hw.1 (by rw [e]; decide)).2
  rw [stS, ht, hpt, hk, if_neg (by decide), if_neg (by decide), if_pos rfl]
  rw [ypS, ypR, e, if_neg (by decide), if_neg (by decide), if_neg (by decide), if_neg (by decide), if_neg (by decide), if_neg (by decide), if_neg (by decide), if_neg (by decide), if_pos rfl, if_neg (by decide), if_neg (by decide), if_neg (by decide), if_neg (by decide), if_neg (by decide), if_neg (by decide), if_neg (by decide), if_neg (by decide), if_pos rfl]
  have hpos : 0 < B q 20 := Int32.lt_of_le_of_ne (Int32.not_lt.mp hR.1.1) (fun z => hf z.symm)
  have hix := dep_ix hR.1.1 hpos hR.1.2
  have hn : B q 20 = nI (tn (B q 20 - 1) + 1) := by rw [← nI_1, ← hix.1]; simp
  have hv : A (mq + 3) (tn (A mq 3 - 1)) = B q (12 + tn (B q 20 - 1)) := by
    rw [hd]; exact hm.2.2.1 _ (by rw [hn, tn_nI (by omega), nI_pred, tn_nI (by omega)]; omega)
  rw [hv, up2_q]
  exact mcR_fld (mcR_pop hm hn hix.2) (by rw [upd_at, if_pos rfl]; omega) (x := 4) ⟨by decide, by decide⟩ _
theorem bare_99 {A B : Nat → Nat → Int32} {mq r q : Nat} (hm : mcR A mq (B q)) (hR : wfR B q) {p : Nat} {t : Int32} (ht : A mq 4 = t) (hpt : tn t = p) (hk : A (r + 1) p = 99) (e : B 181 p = 7) (hw : wfJ (B 181 p) (B 182 p) (B 183 p)) (h3 : A (r + 3) p = B 182 p) (hf : ¬ B q 20 = 8) : mcR (stS A mq r) mq (upd (ypS B q p t q) 21 (ypR B q p t)) := by
  have hb := tn_le (M := 8) (k := 8) rfl (by decide) hR.1.1 hR.1.2
  have hd : A mq 3 = B q 20 := hm.2.2.2.1
  rw [stS, ht, hpt, hk, if_neg (by decide), if_neg (by decide), if_neg (by decide), if_pos rfl]
  rw [ypS, ypR, e, if_neg (by decide), if_neg (by decide), if_neg (by decide), if_neg (by decide), if_neg (by decide), if_neg (by decide), if_neg (by decide), if_pos rfl, if_neg (by decide), if_neg (by decide), if_neg (by decide), if_neg (by decide), if_neg (by decide), if_neg (by decide), if_neg (by decide), if_pos rfl]
  have hne : tn (B q 20) ≠ 8 := fun z => hf (by rw [nI_self hR.1.1, show (B q 20).toNatClampNeg = 8 from z]; rfl)
  have hP := mcR_push hm (n := tn (B q 20)) (nI_self hR.1.1) (by omega) (t + 1)
  have h8 : tn (B q 20 + 1) ≤ 8 := by rw [← tn_1 hR.1.1, tn_nI (by omega)]; omega
  rw [h3, up2_q, up2_q]
  rw [hd] at hP ⊢
  exact mcR_fld hP (by rw [upd_at, if_pos rfl]; exact h8) (x := 4) ⟨by decide, by decide⟩ _
theorem bare_105 {A B : Nat → Nat → Int32} {mq r q : Nat} (hm : mcR A mq (B q)) (hR : wfR B q) {p : Nat} {t : Int32} (ht : A mq 4 = t) (hpt : tn t = p) (hk : A (r + 1) p = 105) (e : B 181 p = 0) (hw : wfJ (B 181 p) (B 182 p) (B 183 p)) (h2 : A (r + 2) p = B 182 p) (h3 : A (r + 3) p = B 183 p) : mcR (stS A mq r) mq (upd (ypS B q p t q) 21 (ypR B q p t)) := by
  have hb := tn_le (M := 8) (k := 8) rfl (by decide) hR.1.1 hR.1.2
  have hd : A mq 3 = B q 20 := hm.2.2.2.1
  have hx : tn (B 182 p) < 4 := tn_lt (M := 4) (k := 4) rfl (by decide) (hw.1 (by rw [e]; decide)).1 (hw.1 (by rw [e]; decide)).2
  rw [stS, ht, hpt, hk, if_neg (by decide), if_neg (by decide), if_neg (by decide), if_neg (by decide), if_pos rfl]
  rw [ypS, ypR, e, if_pos rfl, if_pos rfl]
  rw [h2, h3, up2_q]
  exact mcR_fld (mcR_reg hm hx _) (hb_upd hb (by omega)) (x := 4) ⟨by decide, by decide⟩ _
theorem bare_106 {A B : Nat → Nat → Int32} {mq r q : Nat} (hm : mcR A mq (B q)) (hR : wfR B q) {p : Nat} {t : Int32} (ht : A mq 4 = t) (hpt : tn t = p) (hk : A (r + 1) p = 106) (e : B 181 p = 5) (hw : wfJ (B 181 p) (B 182 p) (B 183 p)) (h2 : A (r + 2) p = B 182 p) (h3 : A (r + 3) p = B 183 p) : mcR (stS A mq r) mq (upd (ypS B q p t q) 21 (ypR B q p t)) := by
  have hb := tn_le (M := 8) (k := 8) rfl (by decide) hR.1.1 hR.1.2
  have hd : A mq 3 = B q 20 := hm.2.2.2.1
  have hx : tn (B 182 p) < 4 := tn_lt (M := 4) (k := 4) rfl (by decide) (hw.1 (by rw [e]; decide)).1 (hw.1 (by rw [e]; decide)).2
  rw [stS, ht, hpt, hk, if_neg (by decide), if_neg (by decide), if_neg (by decide), if_neg (by decide), if_neg (by decide), if_pos rfl]
  rw [ypS, ypR, e, if_neg (by decide), if_neg (by decide), if_neg (by decide), if_neg (by decide), if_neg (by decide), if_pos rfl, if_neg (by decide), if_neg (by decide), if_neg (by decide), if_neg (by decide), if_neg (by decide), if_pos rfl]
  rw [h3]
  exact mcR_fld hm hb (x := 4) ⟨by decide, by decide⟩ _
theorem bare_107 {A B : Nat → Nat → Int32} {mq r q : Nat} (hm : mcR A mq (B q)) (hR : wfR B q) {p : Nat} {t : Int32} (ht : A mq 4 = t) (hpt : tn t = p) (hk : A (r + 1) p = 107) (e : B 181 p = 9) (hw : wfJ (B 181 p) (B 182 p) (B 183 p)) (h2 : A (r + 2) p = B 182 p) (h3 : A (r + 3) p = B 183 p) : mcR (stS A mq r) mq (upd (ypS B q p t q) 21 (ypR B q p t)) := by
  have hb := tn_le (M := 8) (k := 8) rfl (by decide) hR.1.1 hR.1.2
  have hd : A mq 3 = B q 20 := hm.2.2.2.1
  have hx : tn (B 182 p) < 4 := tn_lt (M := 4) (k := 4) rfl (by decide) (hw.1 (by rw [e]; decide)).1 (hw.1 (by rw [e]; decide)).2
  rw [stS, ht, hpt, hk, if_neg (by decide), if_neg (by decide), if_neg (by decide), if_neg (by decide), if_neg (by decide), if_neg (by decide), if_pos rfl]
  rw [ypS, ypR, e, if_neg (by decide), if_neg (by decide), if_neg (by decide), if_neg (by decide), if_neg (by decide), if_neg (by decide), if_neg (by decide), if_neg (by decide), if_neg (by decide), if_pos rfl, if_neg (by decide), if_neg (by decide), if_neg (by decide), if_neg (by decide), if_neg (by decide), if_neg (by decide), if_neg (by decide), if_neg (by decide), if_neg (by decide), if_pos rfl]
  rw [h2, up2_q]
  exact mcR_fld (mcR_reg hm hx _) (hb_upd hb (by omega)) (x := 4) ⟨by decide, by decide⟩ _
theorem bare_108 {A B : Nat → Nat → Int32} {mq r q : Nat} (hm : mcR A mq (B q)) (hR : wfR B q) {p : Nat} {t : Int32} (ht : A mq 4 = t) (hpt : tn t = p) (hk : A (r + 1) p = 108) (e : B 181 p = 3) (hw : wfJ (B 181 p) (B 182 p) (B 183 p)) (h2 : A (r + 2) p = B 182 p) (h3 : A (r + 3) p = B 183 p) : mcR (stS A mq r) mq (upd (ypS B q p t q) 21 (ypR B q p t)) := by
  have hb := tn_le (M := 8) (k := 8) rfl (by decide) hR.1.1 hR.1.2
  have hd : A mq 3 = B q 20 := hm.2.2.2.1
  have hx : tn (B 182 p) < 4 := tn_lt (M := 4) (k := 4) rfl (by decide) (hw.1 (by rw [e]; decide)).1 (hw.1 (by rw [e]; decide)).2
  have hy : tn (B 183 p) < 8 := tn_lt (M := 8) (k := 8) rfl (by decide) (hw.2.2 (by rw [e]; decide)).1 (hw.2.2 (by rw [e]; decide)).2
  rw [stS, ht, hpt, hk, if_neg (by decide), if_neg (by decide), if_neg (by decide), if_neg (by decide), if_neg (by decide), if_neg (by decide), if_neg (by decide), if_pos rfl]
  rw [ypS, ypR, e, if_neg (by decide), if_neg (by decide), if_neg (by decide), if_pos rfl, if_neg (by decide), if_neg (by decide), if_neg (by decide), if_pos rfl]
  rw [h2, h3, hm.2.1 _ hy, up2_q]
  exact mcR_fld (mcR_reg hm hx _) (hb_upd hb (by omega)) (x := 4) ⟨by decide, by decide⟩ _
theorem bare_111 {A B : Nat → Nat → Int32} {mq r q : Nat} (hm : mcR A mq (B q)) (hR : wfR B q) {p : Nat} {t : Int32} (ht : A mq 4 = t) (hpt : tn t = p) (hk : A (r + 1) p = 111) (e : B 181 p = 10) (hw : wfJ (B 181 p) (B 182 p) (B 183 p)) (h2 : A (r + 2) p = B 182 p) (h3 : A (r + 3) p = B 183 p) : mcR (stS A mq r) mq (upd (ypS B q p t q) 21 (ypR B q p t)) := by
  have hb := tn_le (M := 8) (k := 8) rfl (by decide) hR.1.1 hR.1.2
  have hd : A mq 3 = B q 20 := hm.2.2.2.1
  have hx : tn (B 182 p) < 4 := tn_lt (M := 4) (k := 4) rfl (by decide) (hw.1 (by rw [e]; decide)).1 (hw.1 (by rw [e]; decide)).2
  rw [stS, ht, hpt, hk, if_neg (by decide), if_neg (by decide), if_neg (by decide), if_neg (by decide), if_neg (by decide), if_neg (by decide), if_neg (by decide), if_neg (by decide), if_pos rfl]
  rw [ypS, ypR, e, if_neg (by decide), if_neg (by decide), if_neg (by decide), if_neg (by decide), if_neg (by decide), if_neg (by decide), if_neg (by decide), if_neg (by decide), if_neg (by decide), if_neg (by decide), if_pos rfl, if_neg (by decide), if_neg (by decide), if_neg (by decide), if_neg (by decide), if_neg (by decide), if_neg (by decide), if_neg (by decide), if_neg (by decide), if_neg (by decide), if_neg (by decide), if_pos rfl]
  rw [h2, hm.1 _ hx, putS, hm.2.2.2.2.2.2.1, hm.2.2.2.2.2.2.2, up2_q, up2_q]
  exact mcR_fld (mcR_fld (mcR_fld hm hb (x := 6) ⟨by decide, by decide⟩ _) (hb_upd hb (by omega)) (x := 7) ⟨by decide, by decide⟩ _) (hb_upd (hb_upd hb (by omega)) (by omega)) (x := 4) ⟨by decide, by decide⟩ _
theorem bare_115 {A B : Nat → Nat → Int32} {mq r q : Nat} (hm : mcR A mq (B q)) (hR : wfR B q) {p : Nat} {t : Int32} (ht : A mq 4 = t) (hpt : tn t = p) (hk : A (r + 1) p = 115) (e : B 181 p = 4) (hw : wfJ (B 181 p) (B 182 p) (B 183 p)) (h2 : A (r + 2) p = B 182 p) (h3 : A (r + 3) p = B 183 p) : mcR (stS A mq r) mq (upd (ypS B q p t q) 21 (ypR B q p t)) := by
  have hb := tn_le (M := 8) (k := 8) rfl (by decide) hR.1.1 hR.1.2
  have hd : A mq 3 = B q 20 := hm.2.2.2.1
  have hx : tn (B 182 p) < 4 := tn_lt (M := 4) (k := 4) rfl (by decide) (hw.1 (by rw [e]; decide)).1 (hw.1 (by rw [e]; decide)).2
  have hy : tn (B 183 p) < 8 := tn_lt (M := 8) (k := 8) rfl (by decide) (hw.2.2 (by rw [e]; decide)).1 (hw.2.2 (by rw [e]; decide)).2
  rw [stS, ht, hpt, hk, if_neg (by decide), if_neg (by decide), if_neg (by decide), if_neg (by decide), if_neg (by decide), if_neg (by decide), if_neg (by decide), if_neg (by decide), if_neg (by decide), if_pos rfl]
  rw [ypS, ypR, e, if_neg (by decide), if_neg (by decide), if_neg (by decide), if_neg (by decide), if_pos rfl, if_neg (by decide), if_neg (by decide), if_neg (by decide), if_neg (by decide), if_pos rfl]
  rw [h2, h3, hm.1 _ hx, up2_q]
  exact mcR_fld (mcR_cell hm hy _) (hb_upd hb (by omega)) (x := 4) ⟨by decide, by decide⟩ _
theorem bare_122 {A B : Nat → Nat → Int32} {mq r q : Nat} (hm : mcR A mq (B q)) (hR : wfR B q) {p : Nat} {t : Int32} (ht : A mq 4 = t) (hpt : tn t = p) (hk : A (r + 1) p = 122) (e : B 181 p = 6) (hw : wfJ (B 181 p) (B 182 p) (B 183 p)) (h2 : A (r + 2) p = B 182 p) (h3 : A (r + 3) p = B 183 p) : mcR (stS A mq r) mq (upd (ypS B q p t q) 21 (ypR B q p t)) := by
  have hb := tn_le (M := 8) (k := 8) rfl (by decide) hR.1.1 hR.1.2
  have hd : A mq 3 = B q 20 := hm.2.2.2.1
  have hx : tn (B 182 p) < 4 := tn_lt (M := 4) (k := 4) rfl (by decide) (hw.1 (by rw [e]; decide)).1 (hw.1 (by rw [e]; decide)).2
  rw [stS, ht, hpt, hk, if_neg (by decide), if_neg (by decide), if_neg (by decide), if_neg (by decide), if_neg (by decide), if_neg (by decide), if_neg (by decide), if_neg (by decide), if_neg (by decide), if_neg (by decide), if_pos rfl]
  have e1 : ypS B q p t = B := by rw [ypS, e, if_neg (by decide), if_neg (by decide), if_neg (by decide), if_neg (by decide), if_neg (by decide), if_neg (by decide), if_pos rfl]
  have e2 : ypR B q p t = (if B q (tn (B 182 p)) = 0 then t + B 183 p else t + 1) := by rw [ypR, e, if_neg (by decide), if_neg (by decide), if_neg (by decide), if_neg (by decide), if_neg (by decide), if_neg (by decide), if_pos rfl]
  rw [e1, e2]
  rw [h2, h3, hm.1 _ hx]
  exact mcR_fld hm hb (x := 4) ⟨by decide, by decide⟩ _
theorem bare_104 {A B : Nat → Nat → Int32} {mq r q : Nat} (hm : mcR A mq (B q)) (hR : wfR B q) {p : Nat} {t : Int32} (ht : A mq 4 = t) (hpt : tn t = p) (hk : A (r + 1) p = 104) (e : B 181 p = 11) (hw : wfJ (B 181 p) (B 182 p) (B 183 p)) (h2 : A (r + 2) p = B 182 p) (h3 : A (r + 3) p = B 183 p) : mcR (stS A mq r) mq (upd (ypS B q p t q) 21 (ypR B q p t)) := by
  have hb := tn_le (M := 8) (k := 8) rfl (by decide) hR.1.1 hR.1.2
  have hd : A mq 3 = B q 20 := hm.2.2.2.1
  have hx : tn (B 182 p) < 4 := tn_lt (M := 4) (k := 4) rfl (by decide) (hw.1 (by rw [e]; decide)).1 (hw.1 (by rw [e]; decide)).2
  rw [stS, ht, hpt, hk, if_neg (by decide), if_neg (by decide), if_neg (by decide), if_neg (by decide), if_neg (by decide), if_neg (by decide), if_neg (by decide), if_neg (by decide), if_neg (by decide), if_neg (by decide), if_neg (by decide)]
  rw [ypS, ypR, e, if_neg (by decide), if_neg (by decide), if_neg (by decide), if_neg (by decide), if_neg (by decide), if_neg (by decide), if_neg (by decide), if_neg (by decide), if_neg (by decide), if_neg (by decide), if_neg (by decide), if_neg (by decide), if_neg (by decide), if_neg (by decide), if_neg (by decide), if_neg (by decide), if_neg (by decide), if_neg (by decide), if_neg (by decide), if_neg (by decide), if_neg (by decide), if_neg (by decide)]
  rw [up2_q]
  exact mcR_fld (mcR_fld hm hb (x := 5) ⟨by decide, by decide⟩ _) (hb_upd hb (by omega)) (x := 4) ⟨by decide, by decide⟩ _
theorem bare_S {A B : Nat → Nat → Int32} {mq r q : Nat} (hp : prR A r B) (hm : mcR A mq (B q)) (hY : wfY B) (hR : wfR B q) (hi : ¬ bsI B q) (hb : bsP B q) : mcR (stS A mq r) mq (bsS B q q) := by
  have hf := (bsP_iff hi).mp hb
  have hh := bsP_has hb
  have ht : A mq 4 = B q 21 := hm.2.2.2.2.1
  obtain ⟨hk, e, h99, hn, -⟩ := hp.2 _ (hY16 hY.1 hh).1
  have hw := hY.2 _ (hY16 hY.1 hh).1
  rw [bsS, if_neg hi, if_neg hf, up2_q]
  rcases hk with z | z | z | z | z | z | z | z | z | z | z | z
  · exact bare_105 hm hR ht rfl z (by rw [e, z]; decide) hw (hn (by rw [z]; decide)).1 (hn (by rw [z]; decide)).2
  · exact bare_43 hm hR ht rfl z (by rw [e, z]; decide) hw (hn (by rw [z]; decide)).1 (hn (by rw [z]; decide)).2
  · exact bare_45 hm hR ht rfl z (by rw [e, z]; decide) hw (hn (by rw [z]; decide)).1 (hn (by rw [z]; decide)).2
  · exact bare_108 hm hR ht rfl z (by rw [e, z]; decide) hw (hn (by rw [z]; decide)).1 (hn (by rw [z]; decide)).2
  · exact bare_115 hm hR ht rfl z (by rw [e, z]; decide) hw (hn (by rw [z]; decide)).1 (hn (by rw [z]; decide)).2
  · exact bare_106 hm hR ht rfl z (by rw [e, z]; decide) hw (hn (by rw [z]; decide)).1 (hn (by rw [z]; decide)).2
  · exact bare_122 hm hR ht rfl z (by rw [e, z]; decide) hw (hn (by rw [z]; decide)).1 (hn (by rw [z]; decide)).2
  · exact bare_99 hm hR ht rfl z (by rw [e, z]; decide) hw (h99 z).2.1 (fun w => hf (Or.inr (Or.inl ⟨by rw [e, z]; decide, w⟩)))
  · exact bare_98 hm hR ht rfl z (by rw [e, z]; decide) hw (hn (by rw [z]; decide)).1 (hn (by rw [z]; decide)).2 (fun w => hf (Or.inr (Or.inr ⟨by rw [e, z]; decide, w⟩)))
  · exact bare_107 hm hR ht rfl z (by rw [e, z]; decide) hw (hn (by rw [z]; decide)).1 (hn (by rw [z]; decide)).2
  · exact bare_111 hm hR ht rfl z (by rw [e, z]; decide) hw (hn (by rw [z]; decide)).1 (hn (by rw [z]; decide)).2
  · exact bare_104 hm hR ht rfl z (by rw [e, z]; decide) hw (hn (by rw [z]; decide)).1 (hn (by rw [z]; decide)).2
