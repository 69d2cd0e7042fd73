def ro (B : Nat → Nat → Int32) : Nat → Nat → Int32 := fun k => if k = 181 then B 194 else if k = 182 then B 195 else if k = 183 then B 196 else B k
theorem ro_1 (B : Nat → Nat → Int32) : ro B 181 = B 194 := rfl
theorem ro_2 (B : Nat → Nat → Int32) : ro B 182 = B 195 := rfl
theorem ro_3 (B : Nat → Nat → Int32) : ro B 183 = B 196 := rfl
theorem la_loc {S T : Nat → Nat → Int32} (p : Nat) (h : ∀ j, j ≤ p → T 181 j = S 181 j ∧ T 182 j = S 182 j ∧ T 183 j = S 183 j) : ∀ (n : Nat) (f : Int32), n ≤ p → laL T p n f = laL S p n f
  | 0, _, _ => rfl
  | n + 1, f, hn => by
    have e : alP T p n ↔ alP S p n := by
      obtain ⟨a1, a2, a3⟩ := h p (by omega)
      obtain ⟨b1, b2, b3⟩ := h n (by omega)
      unfold alP; rw [a1, a2, a3, b1, b2, b3]
    rw [laL, laL]
    by_cases c : alP S p n
    · rw [if_pos c, if_pos (e.mpr c)]; exact la_loc p h n _ (by omega)
    · rw [if_neg c, if_neg (fun z => c (e.mp z))]; exact la_loc p h n _ (by omega)
theorem la_none (X : Nat → Nat → Int32) (p : Nat) : ∀ (n : Nat) (f : Int32), (∀ j, j < n → ¬ alP X p j) → laL X p n f = f
  | 0, _, _ => rfl
  | n + 1, f, h => by rw [laL, if_neg (h n (by omega))]; exact la_none X p n f (fun j hj => h j (by omega))
theorem la_at (X : Nat → Nat → Int32) (p : Nat) : ∀ (n : Nat) (f : Int32) (j : Nat), j < n → alP X p j → (∀ i, i < j → ¬ alP X p i) → laL X p n f = nI j
  | 0, _, j, hj, _, _ => absurd hj (by omega)
  | n + 1, f, j, hj, ha, hn => by
    rw [laL]
    by_cases z : j = n
    · subst z
      rw [if_pos ha]
      exact la_none X p j _ hn
    · exact la_at X p n _ j (by omega) ha hn
theorem md_none (S : Nat → Nat → Int32) (q a : Nat) : ∀ (m p : Nat), p + m = a → (∀ j, p ≤ j → j < a → ¬ eqI S q j a) → modelF S q a p = nI a
  | 0, p, h, _ => by rw [modelF, dif_neg (by omega)]
  | m + 1, p, h, hn => by
    rw [modelF, dif_pos (by omega), if_neg (hn p (by omega) (by omega))]
    exact md_none S q a m (p + 1) (by omega) (fun j h1 h2 => hn j (by omega) h2)
theorem md_at (S : Nat → Nat → Int32) (q a : Nat) : ∀ (m p j : Nat), p + m = j → j < a → eqI S q j a → (∀ i, p ≤ i → i < j → ¬ eqI S q i a) → modelF S q a p = nI j
  | 0, p, j, h, hj, he, _ => by
    obtain rfl : p = j := by omega
    rw [modelF, dif_pos hj, if_pos he]
  | m + 1, p, j, h, hj, he, hn => by
    rw [modelF, dif_pos (by omega), if_neg (hn p (by omega) (by omega))]
    exact md_at S q a m (p + 1) j (by omega) hj he (fun i h1 h2 => hn i (by omega) h2)
/-- the smallest place with an equal instruction, found from either end -/
theorem md_la {T X : Nat → Nat → Int32} {q a : Nat} (h : ∀ j, j < a → (eqI T q j a ↔ alP X a j)) : modelF T q a 0 = laF X a := by
  unfold laF
  by_cases c : ∃ j, j < a ∧ alP X a j
  · obtain ⟨j, ⟨j1, j2⟩, j3⟩ := pk_least (fun j => j < a ∧ alP X a j) c
    have hn : ∀ i, i < j → ¬ alP X a i := fun i hi w => j3 i hi ⟨by omega, w⟩
    rw [la_at X a a _ j j1 j2 hn]
    exact md_at T q a j 0 j (by omega) j1 ((h j j1).mpr j2) (fun i _ hi w => hn i hi ((h i (by omega)).mp w))
  · have hn : ∀ i, i < a → ¬ alP X a i := fun i hi w => c ⟨i, hi, w⟩
    rw [la_none X a a _ hn]
    exact md_none T q a a 0 (by omega) (fun i _ hi w => hn i hi ((h i hi).mp w))
def ivF (k : Int32) : Int32 := if k = 0 then 105 else if k = 1 then 43 else if k = 2 then 45 else if k = 3 then 108 else if k = 4 then 115 else if k = 5 then 106 else if k = 6 then 122 else if k = 7 then 99 else if k = 8 then 98 else if k = 9 then 107 else if k = 10 then 111 else 104
theorem iv_yk {c : Int32} (h : kinP c) : ivF (ykF c) = c := by rcases h with rfl | rfl | rfl | rfl | rfl | rfl | rfl | rfl | rfl | rfl | rfl | rfl <;> decide
theorem yk_inj {c d : Int32} (hc : kinP c) (hd : kinP d) : ykF c = ykF d ↔ c = d := ⟨fun e => by rw [← iv_yk hc, e, iv_yk hd], fun e => by rw [e]⟩
theorem ki_yk : ∀ v, v < 256 → (kiF (nI v) < 0 ↔ ykF (nI v) = -9) := by decide +kernel
/-- the instructions that were read so far -/
def pfX (A : Nat → Nat → Int32) (r : Nat) (B : Nat → Nat → Int32) (n : Nat) : Prop := ∀ p, p < n → (kinP (A (r + 1) p) ∧ B 194 p = ykF (A (r + 1) p) ∧ (A (r + 1) p = 99 → A (r + 2) p = 0 ∧ A (r + 3) p = B 195 p ∧ B 196 p = 0) ∧ (¬ A (r + 1) p = 99 → A (r + 2) p = B 195 p ∧ A (r + 3) p = B 196 p) ∧ A (r + 4) p = laF (ro B) p) ∧ wfJ (B 194 p) (B 195 p) (B 196 p)
theorem pfX_s {A B E : Nat → Nat → Int32} {r nn : Nat} {c x y v1 v2 : Int32} (h : pfX A r B nn) (hE : yE B E nn (ykF c) v1 v2) (hc : kinP c) (h99 : c = 99 → x = 0 ∧ y = v1 ∧ v2 = 0) (hn : ¬ c = 99 → x = v1 ∧ y = v2) (hw : wfJ (ykF c) v1 v2) : pfX (paS A r nn c x y) r E (nn + 1) := by
  obtain ⟨e1, e2, e3, e4, e5, e6, e7, e8⟩ := hE
  have t1 : ∀ p, up2 (up2 (up2 A (r + 1) nn c) (r + 2) nn x) (r + 3) nn y (r + 1) p = if p = nn then c else A (r + 1) p := fun p => by rw [up2_ne (Or.inl (by omega)), up2_ne (Or.inl (by omega)), up2_q, upd_at]
  have t2 : ∀ p, up2 (up2 (up2 A (r + 1) nn c) (r + 2) nn x) (r + 3) nn y (r + 2) p = if p = nn then x else A (r + 2) p := fun p => by rw [up2_ne (Or.inl (by omega)), up2_q, upd_at, up2_row (by omega)]
  have t3 : ∀ p, up2 (up2 (up2 A (r + 1) nn c) (r + 2) nn x) (r + 3) nn y (r + 3) p = if p = nn then y else A (r + 3) p := fun p => by rw [up2_q, upd_at, up2_row (by omega), up2_row (by omega)]
  have t4 : up2 (up2 (up2 A (r + 1) nn c) (r + 2) nn x) (r + 3) nn y (r + 4) = A (r + 4) := by rw [up2_row (by omega), up2_row (by omega), up2_row (by omega)]
  unfold paS
  generalize up2 (up2 (up2 A (r + 1) nn c) (r + 2) nn x) (r + 3) nn y = T at *
  have u : ∀ i, (i = 1 ∨ i = 2 ∨ i = 3) → up2 (up2 T (r + 4) nn (modelF T r nn 0)) r 4 (nI (nn + 1)) (r + i) = T (r + i) := fun i hi => by rw [up2_row (by omega), up2_row (by omega)]
  have u4 : ∀ p, up2 (up2 T (r + 4) nn (modelF T r nn 0)) r 4 (nI (nn + 1)) (r + 4) p = if p = nn then modelF T r nn 0 else A (r + 4) p := fun p => by rw [up2_ne (Or.inl (by omega)), up2_q, upd_at, t4]
  have hold : ∀ j, j < nn → laF (ro E) j = laF (ro B) j := fun j hj => la_loc j (fun i hi => by rw [ro_1, ro_2, ro_3, ro_1, ro_2, ro_3]; exact e7 i (by omega)) j _ (Nat.le_refl _)
  intro p hp
  show (kinP (up2 (up2 T (r + 4) nn (modelF T r nn 0)) r 4 (nI (nn + 1)) (r + 1) p) ∧ E 194 p = ykF (up2 (up2 T (r + 4) nn (modelF T r nn 0)) r 4 (nI (nn + 1)) (r + 1) p) ∧ (up2 (up2 T (r + 4) nn (modelF T r nn 0)) r 4 (nI (nn + 1)) (r + 1) p = 99 → up2 (up2 T (r + 4) nn (modelF T r nn 0)) r 4 (nI (nn + 1)) (r + 2) p = 0 ∧ up2 (up2 T (r + 4) nn (modelF T r nn 0)) r 4 (nI (nn + 1)) (r + 3) p = E 195 p ∧ E 196 p = 0) ∧ (¬ up2 (up2 T (r + 4) nn (modelF T r nn 0)) r 4 (nI (nn + 1)) (r + 1) p = 99 → up2 (up2 T (r + 4) nn (modelF T r nn 0)) r 4 (nI (nn + 1)) (r + 2) p = E 195 p ∧ up2 (up2 T (r + 4) nn (modelF T r nn 0)) r 4 (nI (nn + 1)) (r + 3) p = E 196 p) ∧ up2 (up2 T (r + 4) nn (modelF T r nn 0)) r 4 (nI (nn + 1)) (r + 4) p = laF (ro E) p) ∧ wfJ (E 194 p) (E 195 p) (E 196 p)
  rw [u 1 (by omega), u 2 (by omega), u 3 (by omega), u4, t1, t2, t3]
  by_cases z : p = nn
  · subst z
    rw [if_pos rfl, if_pos rfl, if_pos rfl, if_pos rfl, e4, e5, e6]
    refine ⟨⟨hc, rfl, fun w => h99 w, fun w => hn w, md_la (fun j hj => ?_)⟩, hw⟩
    obtain ⟨⟨k1, k2, k3, k4, k5⟩, -⟩ := h j hj
    obtain ⟨f1, f2, f3⟩ := e7 j hj
    unfold eqI alP
    rw [t1, t1, t2, t2, t3, t3, if_neg (by omega), if_pos rfl, if_neg (by omega), if_pos rfl, if_neg (by omega), if_pos rfl, ro_1, ro_2, ro_3, e4, e5, e6, f1, f2, f3, k2, yk_inj hc k1]
    constructor
    · rintro ⟨w1, w2, w3⟩
      refine ⟨w1.symm, ?_⟩
      by_cases w : c = 99
      · obtain ⟨y1, y2, y3⟩ := h99 w
        obtain ⟨z1, z2, z3⟩ := k3 (by rw [w1]; exact w)
        exact ⟨by rw [← y2, ← w3, z2], by rw [y3, z3]⟩
      · obtain ⟨y1, y2⟩ := hn w
        obtain ⟨z1, z2⟩ := k4 (by rw [w1]; exact w)
        exact ⟨by rw [← y1, ← w2, z1], by rw [← y2, ← w3, z2]⟩
    · rintro ⟨w1, w2, w3⟩
      refine ⟨w1.symm, ?_⟩
      by_cases w : c = 99
      · obtain ⟨y1, y2, y3⟩ := h99 w
        obtain ⟨z1, z2, z3⟩ := k3 (by rw [← w1]; exact w)
        exact ⟨by rw [z1, y1], by rw [z2, ← w2, y2]⟩
      · obtain ⟨y1, y2⟩ := hn w
        obtain ⟨z1, z2⟩ := k4 (by rw [← w1]; exact w)
        exact ⟨by rw [z1, ← w2, y1], by rw [z2, ← w3, y2]⟩
  · rw [if_neg z, if_neg z, if_neg z, if_neg z]
    obtain ⟨f1, f2, f3⟩ := e7 p (by omega)
    rw [f1, f2, f3, hold p (by omega)]
    exact h p (by omega)
theorem rt_fr : ∀ (m j : Nat) (S : Nat → Nat → Int32) (k i : Nat), k < 194 → (k ≠ 179 ∨ (i ≠ 22 ∧ i ≠ 23 ∧ i ≠ 27)) → (rtL m j S).2 k i = S k i
  | 0, j, S, k, i, _, _ => rfl
  | m + 1, j, S, k, i, hk, hi => by
    rw [rtL]
    split
    · split
      · rw [rt_fr m (j + 1) _ k i hk hi, tsS_fr hk (by omega)]
      · exact tsS_fr hk (by omega)
    · split
      · exact toS_fr hk hi
      · rw [rt_fr m (j + 1) _ k i hk hi, toS_fr hk hi]
def txR (A B : Nat → Nat → Int32) (len : Nat) : Prop := A 1 1 = nI len ∧ len ≤ 80 ∧ B 179 1 = nI len ∧ ∀ j, j < len → A 2 j = B 180 j ∧ ¬ A 2 j < 0 ∧ ¬ 255 < A 2 j
theorem nI_n9 {a : Nat} (h : a < 2147483648) : ¬ nI a = -9 := fun w => by
  have := nI_pos (n := a) h
  rw [w] at this
  exact this (by decide)
theorem rd_rel {r : Nat} (hr : 3 ≤ r) {len : Nat} : ∀ (m nn a : Nat) (A B : Nat → Nat → Int32), nn + m = 17 → nn ≤ 16 → a ≤ len → txR A B len → (B 179 22 = 0 ∧ B 179 23 = nI nn ∧ B 179 27 = 0) → A r 4 = nI nn → pfX A r B nn → (rdL r m nn a A).1 = (rtL (len - a) a B).1 ∧ ((rdL r m nn a A).1 = -9 → ∃ n, n ≤ 16 ∧ (rdL r m nn a A).2 r 4 = nI n ∧ (rtL (len - a) a B).2 179 23 = nI n ∧ pfX (rdL r m nn a A).2 r (rtL (len - a) a B).2 n)
  | 0, nn, a, A, B, h, hn, _, _, _, _, _ => absurd h (by omega)
  | m + 1, nn, a, A, B, h, hn, ha, ht, hb, h4, hp => by
    have hL : tn (A 1 1) = len := by rw [ht.1, tn_nI (by have := ht.2.1; omega)]
    rw [rdL, hL]
    by_cases hlt : a < len
    · rw [if_pos hlt]
      have hbyte := (ht.2.2.2 a hlt).2
      obtain ⟨v, hv, ev⟩ := byteN hbyte
      have hki : kiF (A 2 a) < 0 ↔ ykF (A 2 a) = -9 := by rw [ev]; exact ki_yk v hv
      have eB : B 180 a = A 2 a := (ht.2.2.2 a hlt).1.symm
      have h80 := ht.2.1
      by_cases c : nn = 16 ∨ kiF (A 2 a) < 0
      · have hts : ¬ tsP B (B 180 a) := fun w => by
          rcases c with z | z
          · exact w.2 (by rw [hb.2.1, z]; rfl)
          · rw [eB] at w; exact w.1 (hki.mp z)
        rw [if_pos c, show len - a = (len - (a + 1)) + 1 by omega, rtL, if_pos hb.1, if_neg hts]
        exact ⟨rfl, fun w => absurd w (nI_n9 (by omega))⟩
      · have hkin : kinP (A 2 a) := kiF_in hbyte (fun w => c (Or.inr w))
        have hd : hdP A B len nn a := ⟨ht.1, h80, ht.2.2.1, ht.2.2.2, hlt, by omega, hb.1, hb.2.1, hb.2.2⟩
        obtain ⟨b1, b2⟩ := bk_all hd hkin
        rw [if_neg c]
        by_cases ce : emF A a < a + 1 + stL.getD (fkF (A 2 a)) 0
        · rw [if_pos ce]
          have := stL_lt (fkF (A 2 a))
          exact ⟨(b1 ce).symm, fun w => absurd w (nI_n9 (by omega))⟩
        · rw [if_neg ce]
          obtain ⟨E, v1, v2, c1, c2, c3, c4, c5, c6, c7⟩ := b2 ce
          rw [c1]
          have c2' := c2
          obtain ⟨e1, e2, e3, -, -, -, -, e8⟩ := c2'
          refine rd_rel hr m (nn + 1) (emF A a) _ E (by omega) (by omega) c4 ⟨?_, h80, ?_, fun j hj => ?_⟩ ⟨e1, e2, e3⟩ ?_ ?_
          · rw [aiS_row (by omega)]; exact ht.1
          · rw [e8 179 1 (by decide) (by decide)]; exact ht.2.2.1
          · rw [aiS_row (by omega), e8 180 j (by decide) (Or.inl (by decide))]; exact ht.2.2.2 j hj
          · unfold aiS paS; rw [up2_same]
          · exact pfX_s hp c2 hkin c5 c6 c7
    · rw [if_neg hlt, show len - a = 0 by omega, rtL, rtE, if_pos hb.1]
      exact ⟨rfl, fun _ => ⟨nn, hn, h4, hb.2.1, hp⟩⟩
theorem rf_rel {A B : Nat → Nat → Int32} {r len : Nat} (hr : 3 ≤ r) (h : txR A B len) : (rdF A r).1 = (rtF B).1 ∧ ((rdF A r).1 = -9 → ∃ n, n ≤ 16 ∧ (rdF A r).2 r 4 = nI n ∧ (rtF B).2 179 23 = nI n ∧ pfX (rdF A r).2 r (rtF B).2 n) := by
  have h80 := h.2.1
  have hiff : (A 1 1 = 0 ∨ ¬ A 2 0 = 67) ↔ (B 179 1 = 0 ∨ ¬ B 180 0 = 67) := by
    rw [h.1, h.2.2.1]
    by_cases z : len = 0
    · rw [z]; exact ⟨fun _ => Or.inl rfl, fun _ => Or.inl rfl⟩
    · rw [(h.2.2.2 0 (by omega)).1]
  unfold rdF rtF
  by_cases c : A 1 1 = 0 ∨ ¬ A 2 0 = 67
  · rw [if_pos c, if_pos (hiff.mp c)]
    exact ⟨rfl, fun w => absurd w (show ¬ (0 : Int32) = -9 by decide)⟩
  · rw [if_neg c, if_neg (fun w => c (hiff.mpr w))]
    have hl0 : 0 < len := Nat.pos_of_ne_zero (fun z => c (Or.inl (by rw [h.1, z]; rfl)))
    have e1 : tn (B 179 1) = len := by rw [h.2.2.1, tn_nI (by omega)]
    rw [e1]
    refine rd_rel hr 17 0 1 _ _ rfl (by omega) (by omega) ⟨?_, h80, ?_, fun j hj => ?_⟩ ⟨?_, ?_, ?_⟩ (up2_same _ _ _ _) (fun p hp => absurd hp (by omega))
    · rw [up2_row (by omega)]; exact h.1
    · rw [rt0_fr (Or.inr (by decide))]; exact h.2.2.1
    · rw [up2_row (by omega), rt0_fr (Or.inl (by decide))]; exact h.2.2.2 j hj
    · unfold rt0; rw [up2_ne (Or.inr (by decide)), up2_same]
    · unfold rt0; rw [up2_ne (Or.inr (by decide)), up2_ne (Or.inr (by decide)), up2_same]; rfl
    · unfold rt0; rw [up2_same]
theorem rtF_fr {S : Nat → Nat → Int32} {k i : Nat} (hk : k < 194) (hi : k ≠ 179 ∨ (i ≠ 22 ∧ i ≠ 23 ∧ i ≠ 27)) : (rtF S).2 k i = S k i := by
  unfold rtF
  split
  · exact rt0_fr hi
  · rw [rt_fr _ _ _ _ _ hk hi, rt0_fr hi]
theorem Rel_tx {A B : Nat → Nat → Int32} (h : Rel A B) : txR A B (tn (A 1 1)) := ⟨nI_self h.1.2.1.1, tn_le (M := 80) (k := 80) rfl (by decide) h.1.2.1.1 h.1.2.1.2, by rw [← h.1.1]; exact nI_self h.1.2.1.1, h.1.2.2⟩
theorem Rel_rd {A B : Nat → Nat → Int32} (h : Rel A B) : Rel (rdF A 8).2 (rtF B).2 :=
  Rel_cg (fun k hk => rdF_row (by omega)) (fun k hk => funext (fun j => rtF_fr (by omega) (Or.inl (by omega)))) (fun j hj => rtF_fr (by decide) (Or.inr (by omega))) h
theorem c_fault {A B : Nat → Nat → Int32} (h : Rel A B) : (xfault A).1 = (rtF B).1 ∧ Rel (xfault A).2 (rtF B).2 := ⟨(rf_rel (by decide) (Rel_tx h)).1, Rel_rd h⟩
