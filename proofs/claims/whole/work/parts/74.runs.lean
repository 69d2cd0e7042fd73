theorem gf_rel (i : Int32) {A B : Nat → Nat → Int32} (hp : prR A 3 B) (hm : mcR A 149 (B 185)) (hY : wfY B) (hR : wfR B 185) (hi : B 179 17 = i) (hw : wfM A 149) : goF A i 148 2 = (foF B).1 ∧ goF A i 148 1 = (foF B).2 179 18 ∧ mcR (goF A i) 149 ((foF B).2 185) := by
  unfold goF foF
  have r1 : ∀ k, k ≠ 148 → up2 (up2 A 148 1 0) 148 2 (if A 149 5 = 0 then -1 else 3) k = A k := fun k hk => by rw [up2_row hk, up2_row hk]
  refine go_rel i 300 _ _ (prR_cg (fun k k1 k2 => r1 k (by omega)) (up2_ne (Or.inr (by decide))) (up2_row (by decide)) (up2_row (by decide)) (up2_row (by decide)) hp) ?_ (wfY_of (up2_ne (Or.inr (by decide))) (fun k hk => up2_row (by omega)) hY) (wfR_row (up2_row (by decide)) hR) (by rw [up2_ne (Or.inr (by decide))]; exact hi) ?_ ?_ ?_
  · rw [up2_row (by decide)]; exact mcR_cg (fun k k1 k2 => r1 k (by omega)) hm
  · rw [up2_ne (Or.inr (by decide)), up2_same, up2_same]
  · rw [up2_same, r1 149 (by decide)]
  · unfold wfM; rw [r1 149 (by decide)]; exact hw
theorem mc_cp {A : Nat → Nat → Int32} {g : Nat → Int32} {a o : Nat} (h : mcR A o g) : mcR (cpR A a o 4) a g := by
  have c0 : cpR A a o 4 a = A o := cpR_in (k := 0) (by decide)
  unfold mcR
  rw [c0, cpR_in (by decide), cpR_in (by decide), cpR_in (by decide)]
  exact h
/-- what a free run is begun from -/
theorem fr_pre {A B : Nat → Nat → Int32} (h : Rel A B) : prR (cpR A 149 14 4) 3 (trS B) ∧ mcR (cpR A 149 14 4) 149 (trS B 185) ∧ wfY (trS B) ∧ wfR (trS B) 185 ∧ trS B 179 17 = -9 ∧ wfM (cpR A 149 14 4) 149 := by
  have hS := Rel_S h
  refine ⟨prR_cg (fun k k1 k2 => cpR_row (by omega)) (by rw [trS_ne (by decide)]) (trS_ne (by decide)) (trS_ne (by decide)) (trS_ne (by decide)) h.2.1.1, ?_, trS_wfY h.2.1.2.1, trS_wfR (Rel_wfR h), by rw [trS_ne (by decide)]; exact h.2.1.2.2, wfM_cp (SR_wfSt hS).1 (by decide)⟩
  rw [trS_185]
  exact mc_cp hS.1.1
theorem tr_fo {B : Nat → Nat → Int32} (hY : wfY B) (hR : wfR B 184) {k j : Nat} (h1 : k ≠ 185) (h2 : k ≠ 179 ∨ j ≠ 18) : (foF (trS B)).2 k j = B k j := by
  rw [(foF_fr (trS_wfY hY) (trS_wfR hR)).2.2 k j h1 h2, trS_ne h1]
theorem Rel_q {A A' B B' : Nat → Nat → Int32} (hA : ∀ k, (k < 148 ∨ 163 ≤ k) → (k < 8 ∨ 13 ≤ k) → (k < 21 ∨ 29 ≤ k) → A' k = A k) (hB : ∀ k j, (k ≠ 185 ∧ k ≠ 191 ∧ k ≠ 192 ∧ k ≠ 193 ∧ k ≠ 194 ∧ k ≠ 195 ∧ k ≠ 196) → (k ≠ 179 ∨ (j ≠ 18 ∧ j ≠ 22 ∧ j ≠ 23 ∧ j ≠ 27)) → B' k j = B k j) (h : Rel A B) : Rel A' B' :=
  Rel_cg (fun k hk => hA k (by omega) (by omega) (by omega)) (fun k hk => funext (fun j => hB k j (by omega) (Or.inl (by omega)))) (fun j hj => hB 179 j (by omega) (Or.inr (by omega))) h
theorem c_free {A B : Nat → Nat → Int32} (h : Rel A B) (w : Int32) : (xfree A w).1 = (yfree B w).1 ∧ Rel (xfree A w).2 (yfree B w).2 := by
  obtain ⟨p1, p2, p3, p4, p5, p6⟩ := fr_pre h
  obtain ⟨g1, g2, g3⟩ := gf_rel (-9) p1 p2 p3 p4 p5 p6
  have hr : Rel (frS A) (foF (trS B)).2 := Rel_q (fun k k1 k2 k3 => fg_row (by omega)) (fun k j hk hj => tr_fo h.2.1.2.1 (Rel_wfR h) hk.1 (by omega)) h
  have e6 : frS A 149 6 = (foF (trS B)).2 185 23 := g3.2.2.2.2.2.2.1
  have e7 : frS A 149 7 = (foF (trS B)).2 185 24 := g3.2.2.2.2.2.2.2
  unfold xfree yfree
  by_cases c : inP w 0 3
  · rw [if_pos c, if_neg (fun y => y.elim c.1 (fun z => c.2 (Int32.not_le.mp z)))]
    by_cases w0 : w = 0
    · rw [if_pos w0, if_pos w0]; exact ⟨g1, hr⟩
    rw [if_neg w0, if_neg w0]
    by_cases w1 : w = 1
    · rw [if_pos w1, if_pos w1]; exact ⟨g2, hr⟩
    rw [if_neg w1, if_neg w1]
    by_cases w2 : w = 2
    · rw [if_pos w2, if_pos w2]; exact ⟨e6, hr⟩
    rw [if_neg w2, if_neg w2]
    exact ⟨e7, hr⟩
  · rw [if_neg c, if_pos (Decidable.byContradiction (fun y => c ⟨fun z => y (Or.inl z), fun z => y (Or.inr (Int32.not_le.mpr z))⟩))]
    exact ⟨rfl, h⟩
theorem c_aside {A B : Nat → Nat → Int32} (h : Rel A B) (a w : Int32) : xaside A a w = (yaside B a w).1 ∧ Rel A (yaside B a w).2 := by
  refine ⟨q_aside h.2.1.2.1 (Rel_wfR h) h.2.1.1 (Rel_S h).1 a w, ?_⟩
  have ht : Rel A (trS B) := Rel_q (fun _ _ _ _ => rfl) (fun k j hk _ => by rw [trS_ne hk.1]) h
  unfold yaside
  by_cases hh : hasY B a
  · rw [if_pos hh]
    by_cases w0 : w = 0
    · rw [if_pos w0]
      by_cases hd : dfP (trS B) 185 a
      · rw [if_pos hd]; exact ht
      · rw [if_neg hd]
        have hlt := (hY16 h.2.1.2.1.1 hh).1
        have hw := h.2.1.2.1.2 _ hlt
        have h8 := SR_b8 (Rel_S h)
        refine Rel_q (fun _ _ _ _ => rfl) (fun k j hk _ => ypS_hi ?_ ?_ (Or.inl hk.1)) ht
        · rw [trS_ne (by decide), trS_ne (by decide), trS_ne (by decide)]; exact hw
        · rw [trS_185]; exact h8
    rw [if_neg w0]
    by_cases w1 : w = 1
    · rw [if_pos w1]; split <;> exact ht
    rw [if_neg w1]
    by_cases w2 : w = 2
    · rw [if_pos w2]; split <;> exact ht
    rw [if_neg w2]
    by_cases w3 : w = 3
    · rw [if_pos w3]; exact ht
    · rw [if_neg w3]; exact ht
  · rw [if_neg hh]; exact h
/-- registers set from a number -/
theorem sc_rel {A B : Nat → Nat → Int32} (v : Int32) (h : mcR A 149 (B 185)) : mcR (scS A 149 v 4) 149 (scY B v 4 185) := by
  have r1 : ∀ k, k ≠ 150 → scS A 149 v 4 k = A k := fun k hk => sc_row hk
  have r2 : ∀ j, 4 ≤ j → scY B v 4 185 j = B 185 j := fun j hj => scY_hi hj
  obtain ⟨h1, h2, h3, h4, h5, h6, h7, h8⟩ := h
  refine ⟨fun r hr => ?_, fun c hc => ?_, fun d hd => ?_, ?_, ?_, ?_, ?_, ?_⟩
  · show scS A 149 v 4 (149 + 1) r = _
    unfold scS scY va_up
    rw [if_pos rfl, if_pos rfl, if_pos hr, if_pos hr]
  · rw [r1 _ (by omega), r2 _ (by omega)]; exact h2 c hc
  · rw [r2 _ (by omega)] at hd
    rw [r1 _ (by omega), r2 _ (by omega)]; exact h3 d hd
  all_goals (rw [r1 _ (by omega), r2 _ (by omega)]; assumption)
theorem dr_one {A B : Nat → Nat → Int32} (sd : Int64) (h : Rel A B) : drT A sd 148 1 = yrT B sd 179 18 ∧ Rel (drT A sd) (yrT B sd) := by
  obtain ⟨p1, p2, p3, p4, p5, p6⟩ := fr_pre h
  have q1 : prR (scS (cpR A 149 14 4) 149 (sdV sd) 4) 3 (yrI B sd) := prR_cg (fun k k1 k2 => sc_row (by omega)) (by unfold yrI; rw [scY_ne (by decide)]) (scY_ne (by decide)) (scY_ne (by decide)) (scY_ne (by decide)) p1
  have q2 : mcR (scS (cpR A 149 14 4) 149 (sdV sd) 4) 149 (yrI B sd 185) := sc_rel (sdV sd) p2
  obtain ⟨g1, g2, g3⟩ := gf_rel (-9) q1 q2 (yrI_wfY h.2.1.2.1) (yrI_wfR (Rel_wfR h)) (by unfold yrI; rw [scY_ne (by decide)]; exact p5) (by unfold wfM; rw [sc_row (by decide)]; exact p6)
  refine ⟨g2, Rel_q (fun k k1 k2 k3 => drT_row (by omega)) (fun k j hk hj => yrT_fr h.2.1.2.1 (Rel_wfR h) hk.1 (by omega)) h⟩
theorem dr_rel : ∀ (m : Nat) (a : Int32) (A B : Nat → Nat → Int32) (L M : Nat → Int64), Rel A B → L 0 = M 179 → (drL m a A L).1 = (yrL m a B M).1 ∧ Rel (drL m a A L).2.1 (yrL m a B M).2.1 ∧ (drL m a A L).2.2 0 = (yrL m a B M).2.2 179
  | 0, a, A, B, L, M, h, hL => ⟨rfl, h, hL⟩
  | m + 1, a, A, B, L, M, h, hL => by
    rw [drL, yrL, hL]
    obtain ⟨o1, o2⟩ := dr_one (sdF (M 179)) h
    rw [o1]
    exact dr_rel m _ _ _ _ _ o2 (by unfold va_up; rw [if_pos rfl, if_pos rfl])
theorem c_drawn {A B : Nat → Nat → Int32} {L M : Nat → Int64} (h : Rel A B) (hL : L 0 = M 179) (m : Int32) : (xdrawn A L m).1 = (ydrawn B M m).1 ∧ Rel (xdrawn A L m).2.1 (ydrawn B M m).2.1 ∧ (xdrawn A L m).2.2 0 = (ydrawn B M m).2.2 179 := by
  unfold xdrawn ydrawn
  by_cases c : inP m 1 10
  · rw [if_pos c, if_neg (fun y => y.elim c.1 (fun z => c.2 (Int32.not_le.mp z)))]
    exact dr_rel _ _ _ _ _ _ h hL
  · rw [if_neg c, if_pos (Decidable.byContradiction (fun y => c ⟨fun z => y (Or.inl z), fun z => y (Or.inr (Int32.not_le.mpr z))⟩))]
    exact ⟨rfl, h, hL⟩
theorem at_iff (S : Nat → Nat → Int32) (x : Int32) : ∀ (m p : Nat), ¬ atL S x m p = 0 ↔ ∀ j, p ≤ j → j < p + m → (if x = S 146 j then (1 : Int32) else 0) = S 147 j
  | 0, p => ⟨fun _ j h1 h2 => absurd h2 (by omega), fun _ => by rw [atL]; decide⟩
  | m + 1, p => by
    rw [atL]
    by_cases c : (if x = S 146 p then (1 : Int32) else 0) = S 147 p
    · rw [if_pos c, at_iff S x m (p + 1)]
      constructor
      · intro h j h1 h2
        by_cases z : j = p
        · rw [z]; exact c
        · exact h j (by omega) (by omega)
      · intro h j h1 h2
        exact h j (by omega) (by omega)
    · rw [if_neg c]
      exact ⟨fun z => absurd rfl z, fun z => absurd (z p (by omega) (by omega)) c⟩
theorem wq_iff (T : Nat → Nat → Int32) : ∀ (c : Nat), wqB T c = true ↔ ∀ j, j < c → (T 185 23 = T 189 j ↔ T 190 j = 1)
  | 0 => ⟨fun _ j h => absurd h (by omega), fun _ => rfl⟩
  | c + 1 => by
    rw [wqB, Bool.and_eq_true, wq_iff T c, decide_eq_true_eq]
    constructor
    · rintro ⟨h1, h2⟩ j hj
      by_cases z : j = c
      · rw [z]; exact h2
      · exact h1 j (by omega)
    · intro h
      exact ⟨fun j hj => h j (by omega), h c (by omega)⟩
theorem wh_one {A B : Nat → Nat → Int32} (p : Nat) (h : Rel A B) : (¬ atL (goF (cpR A 149 14 4) (nI p)) (goF (cpR A 149 14 4) (nI p) 149 6) (tn (A 145 2)) 0 = 0 ↔ wqB (whT B p) (tn (A 145 2)) = true) ∧ Rel (goF (cpR A 149 14 4) (nI p)) (whT B p) := by
  obtain ⟨p1, p2, p3, p4, p5, p6⟩ := fr_pre h
  have q1 : prR (cpR A 149 14 4) 3 (whI B p) := prR_cg (fun _ _ _ => rfl) (by unfold whI; rw [up2_ne (Or.inr (by decide))]) (up2_row (by decide)) (up2_row (by decide)) (up2_row (by decide)) p1
  have q2 : mcR (cpR A 149 14 4) 149 (whI B p 185) := by unfold whI; rw [up2_row (by decide)]; exact p2
  obtain ⟨g1, g2, g3⟩ := gf_rel (nI p) q1 q2 (whI_wfY h.2.1.2.1) (whI_wfR (Rel_wfR h)) (by unfold whI; rw [up2_same]) p6
  have e6 : goF (cpR A 149 14 4) (nI p) 149 6 = whT B p 185 23 := by unfold whT; rw [up2_row (by decide)]; exact g3.2.2.2.2.2.2.1
  have a6 : goF (cpR A 149 14 4) (nI p) 146 = A 146 := fg_row (by omega)
  have a7 : goF (cpR A 149 14 4) (nI p) 147 = A 147 := fg_row (by omega)
  have b6 : ∀ j, whT B p 189 j = B 189 j := fun j => whT_fr h.2.1.2.1 (Rel_wfR h) (by decide) (Or.inl (by decide))
  have b7 : ∀ j, whT B p 190 j = B 190 j := fun j => whT_fr h.2.1.2.1 (Rel_wfR h) (by decide) (Or.inl (by decide))
  obtain ⟨v1, v2, v3⟩ := h.2.2.2.2.2
  constructor
  · rw [at_iff, wq_iff, a6, a7, e6]
    constructor
    · intro z j hj
      obtain ⟨y1, y2, y3⟩ := v3 j hj
      have := z j (by omega) (by omega)
      rw [b6, b7, ← y1, ← y2]
      rw [← this]
      by_cases c : whT B p 185 23 = A 146 j
      · rw [if_pos c]; exact ⟨fun _ => rfl, fun _ => c⟩
      · rw [if_neg c]; exact ⟨fun w => absurd w c, fun w => absurd w (by decide)⟩
    · intro z j _ hj
      obtain ⟨y1, y2, y3⟩ := v3 j (by omega)
      have := z j (by omega)
      rw [b6, b7, ← y1, ← y2] at this
      by_cases c : whT B p 185 23 = A 146 j
      · rw [if_pos c]; exact (this.mp c).symm
      · rw [if_neg c]; exact (y3.resolve_right (fun w => c (this.mpr w))).symm
  · refine Rel_cg (fun k hk => fg_row (by omega)) (fun k hk => funext (fun j => whT_fr h.2.1.2.1 (Rel_wfR h) (by omega) (Or.inl (by omega)))) (fun j hj => ?_) h
    by_cases z : j = 17
    · subst z; unfold whT; rw [up2_same]; exact h.2.1.2.2.symm
    · exact whT_fr h.2.1.2.1 (Rel_wfR h) (by decide) (Or.inr ⟨z, by omega⟩)
theorem wh_rel (c : Nat) : ∀ (m p : Nat) (x : Int32) (A B : Nat → Nat → Int32), Rel A B → tn (A 145 2) = c → (whL c m p x A).1 = (ywL c m p x B).1 ∧ Rel (whL c m p x A).2 (ywL c m p x B).2
  | 0, p, x, A, B, h, hc => ⟨rfl, h⟩
  | m + 1, p, x, A, B, h, hc => by
    rw [whL, ywL]
    obtain ⟨o1, o2⟩ := wh_one p h
    rw [hc] at o1
    have h2 : tn (goF (cpR A 149 14 4) (nI p) 145 2) = c := by rw [fg_row (by omega)]; exact hc
    have ih := wh_rel c m (p + 1) (if atL (goF (cpR A 149 14 4) (nI p)) (goF (cpR A 149 14 4) (nI p) 149 6) c 0 = 0 then x else x ||| ((1 : Int32) <<< (nI p &&& 31))) _ _ o2 h2
    have e : (if atL (goF (cpR A 149 14 4) (nI p)) (goF (cpR A 149 14 4) (nI p) 149 6) c 0 = 0 then x else x ||| ((1 : Int32) <<< (nI p &&& 31))) = x ||| (if wqB (whT B p) c = true then (1 : Int32) <<< (nI p &&& 31) else 0) := by
      by_cases z : wqB (whT B p) c = true
      · rw [if_pos z, if_neg (o1.mpr z)]
      · rw [if_neg z, if_pos (Decidable.byContradiction (fun y => z (o1.mp y))), show x ||| (0 : Int32) = x from by simp]
    rw [← e]
    exact ih
theorem c_which {A B : Nat → Nat → Int32} (h : Rel A B) : (xwhich A).1 = (ywhich B).1 ∧ Rel (xwhich A).2 (ywhich B).2 := by
  unfold xwhich ywhich
  have e1 : A 3 4 = B 179 2 := h.2.1.1.1
  have e2 : A 145 2 = B 179 15 := h.2.2.2.2.2.1
  rw [← e1, ← e2]
  exact wh_rel _ _ _ _ _ _ h rfl
