theorem Rel_hi {A B B' : Nat → Nat → Int32} (h : Rel A B) (hx : ∀ k, 179 ≤ k → B' k = B k) : Rel A B' := Rel_cg (fun _ _ => rfl) (fun k hk => hx k (by omega)) (fun j _ => by rw [hx 179 (by omega)]) h
theorem Rel_lo {A A' B : Nat → Nat → Int32} (h : Rel A B) (hy : ∀ k, k < 179 → A' k = A k) : Rel A' B := Rel_cg (fun k hk => hy k (by omega)) (fun _ _ => rfl) (fun _ _ => rfl) h
/-- what a pair of calls leaves -/
def kP (S S1 S2 : Nat → Nat → Int32) (a b : Int32) : Prop := a = b ∧ Rel S2 S2 ∧ Rel S S1
theorem kP_of {S S1 S2 : Nat → Nat → Int32} {a b : Int32} (h1 : Rel S S1) (c : a = b ∧ Rel S1 S2) (hy : ∀ k, k < 179 → S2 k = S1 k) : kP S S1 S2 a b := ⟨c.1, Rel_lo c.2 hy, h1⟩
theorem nt_hi {A B : Nat → Nat → Int32} (h : Rel A B) {k : Nat} (hk : 143 ≤ k) : ntS A k = A k := ntS_row (Rel_WX h) (Or.inr hk)
theorem yn_lo {B : Nat → Nat → Int32} {k : Nat} (hk : k < 179) : ynote B k = B k := ynote_ne (by omega) (by omega)
theorem jdL_row (row : Int64) (Q : Nat) : ∀ (m k : Nat) (A : Nat → Nat → Int32) (a : Nat), (a < 21 ∨ 29 ≤ a) → (jdL row Q m k A).2 a = A a
  | 0, _, _, _, _ => rfl
  | m + 1, k, A, a, ha => by
    rw [jdL]
    split
    · rw [jdL_row row Q m (k + 1) _ a ha, hoS_row ha]
    · exact hoS_row ha
theorem whL_row (c : Nat) : ∀ (m p : Nat) (x : Int32) (A : Nat → Nat → Int32) (a : Nat), (a < 148 ∨ 153 ≤ a) → (whL c m p x A).2 a = A a
  | 0, _, _, _, _, _ => rfl
  | m + 1, p, x, A, a, ha => by rw [whL, whL_row c m (p + 1) _ _ a ha, fg_row ha]
theorem drL_row : ∀ (m : Nat) (x : Int32) (A : Nat → Nat → Int32) (L : Nat → Int64) (a : Nat), (a < 148 ∨ 153 ≤ a) → (drL m x A L).2.1 a = A a
  | 0, _, _, _, _, _ => rfl
  | m + 1, x, A, L, a, ha => by rw [drL, drL_row m _ _ _ a ha, drT_row ha]
theorem drL_L : ∀ (m : Nat) (x : Int32) (A : Nat → Nat → Int32) (L : Nat → Int64) (a : Nat), a ≠ 0 → (drL m x A L).2.2 a = L a
  | 0, _, _, _, _, _ => rfl
  | m + 1, x, A, L, a, ha => by rw [drL, drL_L m _ _ _ a ha]; unfold va_up; rw [if_neg ha]
theorem yjL_row (row : Int64) (Q : Nat) : ∀ (m k : Nat) (B : Nat → Nat → Int32), wfY B → wfR B 185 → ∀ a, a < 179 → (yjL row Q m k B).2 a = B a
  | 0, _, _, _, _, _, _ => rfl
  | m + 1, k, B, hY, hR, a, ha => by
    obtain ⟨f1, f2, f3⟩ := jgS_fr (ydA row (Q - 1 - k)) (ydB row (Q - 1 - k)) (ydC row (Q - 1 - k)) hY hR
    have e : jgS B (ydA row (Q - 1 - k)) (ydB row (Q - 1 - k)) (ydC row (Q - 1 - k)) a = B a := funext (fun j => f3 a j (by omega) (by omega))
    rw [yjL]
    split
    · exact e
    · rw [yjL_row row Q m (k + 1) _ f1 f2 a ha, e]
theorem ywL_row (c : Nat) : ∀ (m p : Nat) (x : Int32) (B : Nat → Nat → Int32), wfY B → wfR B 184 → ∀ a, a < 179 → (ywL c m p x B).2 a = B a
  | 0, _, _, _, _, _, _, _ => rfl
  | m + 1, p, x, B, hY, hR, a, ha => by
    rw [ywL, ywL_row c m (p + 1) _ _ (whT_wfY hY hR) (whT_wfR hY hR) a ha]
    exact funext (fun j => whT_fr hY hR (by omega) (Or.inl (by omega)))
theorem yrL_row : ∀ (m : Nat) (x : Int32) (B : Nat → Nat → Int32) (L : Nat → Int64), wfY B → wfR B 184 → ∀ a, a < 179 → (yrL m x B L).2.1 a = B a
  | 0, _, _, _, _, _, _, _ => rfl
  | m + 1, x, B, L, hY, hR, a, ha => by
    rw [yrL, yrL_row m _ _ _ (yrT_wfY hY hR) (yrT_wfR hY hR) a ha]
    exact funext (fun j => yrT_fr hY hR (by omega) (Or.inl (by omega)))
theorem yrL_L : ∀ (m : Nat) (x : Int32) (B : Nat → Nat → Int32) (L : Nat → Int64) (a : Nat), a ≠ 179 → (yrL m x B L).2.2 a = L a
  | 0, _, _, _, _, _ => rfl
  | m + 1, x, B, L, a, ha => by rw [yrL, yrL_L m _ _ _ a ha]; unfold va_up; rw [if_neg ha]
theorem swL_row {c : Nat} : ∀ (m k : Nat) (B : Nat → Nat → Int32), wfY B → wfR B 184 → plP B c → ∀ a, a < 179 → swL c m k B a = B a
  | 0, _, _, _, _, _, _, _ => rfl
  | m + 1, k, B, hY, hR, hP, a, ha => by
    rw [swL, swL_row m (k + 1) _ (swA_wfY hY hR hP) (swA_wfR hY hR hP) (swA_pl hY hR hP) a ha]
    exact funext (fun j => swA_fr hY hR hP ⟨by omega, by omega⟩ (Or.inl (by omega)))
theorem ychL_row {v x : Int32} {c : Nat} : ∀ (m k : Nat) (t : Int32) (B : Nat → Nat → Int32), wfY B → wfR B 184 → plP B c → ∀ a, a < 179 → (ychL v x c m k t B).2 a = B a
  | 0, _, _, _, _, _, _, _, _ => rfl
  | m + 1, k, t, B, hY, hR, hP, a, ha => by
    obtain ⟨f1, f2, f3⟩ := sbF_fr (nI k) hY hR hP
    rw [ychL, ychL_row m (k + 1) _ _ f2 (sbF_wfR (nI k) hY hR hP) (fun j hj => by rw [f3 192 j (by decide) (by decide)]; exact hP j hj) a ha]
    exact funext (fun j => f3 a j (by omega) (by omega))
theorem k_write {S : Nat → Nat → Int32} (h : Rel S S) (c : Int32) : kP S (xwrite S c).2 (ywrite (xwrite S c).2 c).2 (xwrite S c).1 (ywrite (xwrite S c).2 c).1 := by
  have h1 : Rel S (xwrite S c).2 := Rel_hi h (fun k hk => by
    unfold xwrite
    split
    · rfl
    · split
      · rfl
      · show up2 (up2 _ _ _ _) _ _ _ k = _
        rw [up2_row (by omega), up2_row (by omega)])
  refine kP_of h1 (c_write h1 c) ?_
  generalize (xwrite S c).2 = B at *
  intro k hk
  unfold ywrite
  split
  · split
    · rfl
    · show up2 (up2 _ _ _ _) _ _ _ k = _
      rw [up2_row (by omega), up2_row (by omega)]
  · rfl
theorem k_wipe {S : Nat → Nat → Int32} (h : Rel S S) : kP S (xwipe S).2 (ywipe (xwipe S).2).2 (xwipe S).1 (ywipe (xwipe S).2).1 := by
  have h1 : Rel S (xwipe S).2 := Rel_hi h (fun k hk => by
    unfold xwipe
    show up2 _ _ _ _ k = _
    rw [up2_row (by omega)])
  refine kP_of h1 (c_wipe h1 ) ?_
  generalize (xwipe S).2 = B at *
  intro k hk
  unfold ywipe
  show up2 _ _ _ _ k = _
  rw [up2_row (by omega)]
theorem k_fault {S : Nat → Nat → Int32} (h : Rel S S) : kP S (xfault S).2 (rtF (xfault S).2).2 (xfault S).1 (rtF (xfault S).2).1 := by
  have h1 : Rel S (xfault S).2 := Rel_hi h (fun k hk => by
    unfold xfault
    exact rdF_row (by omega))
  refine kP_of h1 (c_fault h1 ) ?_
  generalize (xfault S).2 = B at *
  intro k hk
  exact funext (fun j => rtF_fr (by omega) (Or.inl (by omega)))
theorem k_code {S : Nat → Nat → Int32} (h : Rel S S) : kP S (xcode S).2 (ycode (xcode S).2).2 (xcode S).1 (ycode (xcode S).2).1 := by
  have h1 : Rel S (xcode S).2 := Rel_hi h (fun k hk => by
    unfold xcode
    split
    · show esS (up2 (sbeg (rdF (rdF S 8).2 3).2 13) 29 2 0) 2 k = _
      rw [esS_row (by omega), up2_row (by omega), sbeg_row (by omega), rdF_row (by omega), rdF_row (by omega)]
    · exact rdF_row (by omega))
  refine kP_of h1 (c_code h1 ) ?_
  generalize (xcode S).2 = B at *
  intro k hk
  unfold ycode
  have e : (rtF B).2 k = B k := funext (fun j => rtF_fr (by omega) (Or.inl (by omega)))
  split
  · show coE (coB (rtF B).2) _ k = _
    unfold coE coB
    rw [up2_row (by omega), up2_row (by omega), up2_row (by omega), caK_ne (by omega), up2_row (by omega), row_up (by omega), e]
  · exact e
theorem k_plan {S : Nat → Nat → Int32} (h : Rel S S) (p : Int32) : kP S (xplan S p).2 (yplan (xplan S p).2 p).2 (xplan S p).1 (yplan (xplan S p).2 p).1 := by
  have h1 : Rel S (xplan S p).2 := Rel_hi h (fun k hk => by
    unfold xplan
    split
    · rfl
    · split
      · rw [pfF_row (by omega), nt_hi h (by omega)]
      · rfl)
  refine kP_of h1 (c_plan h1 p) ?_
  generalize (xplan S p).2 = B at *
  intro k hk
  unfold yplan
  split
  · split
    · rfl
    · rw [← yn_lo (B := B) hk]
      exact funext (fun j => (poF_fr sh_184 p (ynote_wfY h1.2.1.2.1) (ynote_wfR (Rel_wfR h1))).2.2 k j (by omega) (by omega))
  · rfl
theorem k_set {S : Nat → Nat → Int32} (h : Rel S S) (w m v : Int32) : kP S (xset S w m v).2 (yset (xset S w m v).2 w m v).2 (xset S w m v).1 (yset (xset S w m v).2 w m v).1 := by
  have h1 : Rel S (xset S w m v).2 := Rel_hi h (fun k hk => by
    unfold xset
    split
    · split
      · show up2 _ _ _ _ k = _
        rw [up2_row (by omega), nt_hi h (by omega)]
      · rfl
    · split
      · split
        · show up2 _ _ _ _ k = _
          rw [up2_row (by omega), nt_hi h (by omega)]
        · rfl
      · split
        · split
          · show up2 (up2 _ _ _ _) _ _ _ k = _
            rw [up2_row (by omega), up2_row (by omega), nt_hi h (by omega)]
          · rfl
        · rfl)
  refine kP_of h1 (c_set h1 w m v) ?_
  generalize (xset S w m v).2 = B at *
  intro k hk
  unfold yset
  split
  · split
    · split
      · show ytell B _ _ k = _
        unfold ytell
        rw [up2_row (by omega), yn_lo hk]
      · rfl
    · split
      · split
        · show ytell B _ _ k = _
          unfold ytell
          rw [up2_row (by omega), yn_lo hk]
        · rfl
      · split
        · show up2 (ytell B _ _) _ _ _ k = _
          unfold ytell
          rw [up2_row (by omega), up2_row (by omega), yn_lo hk]
        · rfl
  · rfl
theorem k_smash {S : Nat → Nat → Int32} (h : Rel S S) (p r how f b : Int32) : kP S (xsmash S p r how f b).2 (ysmash (xsmash S p r how f b).2 p r how f b).2 (xsmash S p r how f b).1 (ysmash (xsmash S p r how f b).2 p r how f b).1 := by
  have h1 : Rel S (xsmash S p r how f b).2 := Rel_hi h (fun k hk => by
    unfold xsmash
    split
    · split
      · split
        · rfl
        · show addS _ _ _ _ _ _ _ k = _
          rw [addS_row (by omega), nt_hi h (by omega)]
      · rfl
    · rfl)
  refine kP_of h1 (c_smash h1 p r how f b) ?_
  generalize (xsmash S p r how f b).2 = B at *
  intro k hk
  unfold ysmash
  split
  · rename_i c
    split
    · split
      · rfl
      · show boS _ _ _ _ _ _ _ k = _
        rw [← yn_lo (B := B) hk]
        exact funext (fun j => boS_fr (hY16 h1.2.1.2.1.1 c).2 (Or.inl (by omega)))
    · rfl
  · rfl
theorem k_lift {S : Nat → Nat → Int32} (h : Rel S S) (p : Int32) : kP S (xlift S p).2 (ylift (xlift S p).2 p).2 (xlift S p).1 (ylift (xlift S p).2 p).1 := by
  have h1 : Rel S (xlift S p).2 := Rel_hi h (fun k hk => by
    unfold xlift
    split
    · split
      · show remS _ _ _ k = _
        rw [remS_row (by omega), nt_hi h (by omega)]
      · rfl
    · rfl)
  refine kP_of h1 (c_lift h1 p) ?_
  generalize (xlift S p).2 = B at *
  intro k hk
  unfold ylift
  split
  · split
    · rfl
    · show up2 _ _ _ _ k = _
      rw [up2_row (by omega), yn_lo hk]
  · rfl
theorem k_watch {S : Nat → Nat → Int32} (h : Rel S S) (m : Int32) : kP S (xwatch S m).2 (ywatch (xwatch S m).2 m).2 (xwatch S m).1 (ywatch (xwatch S m).2 m).1 := by
  have h1 : Rel S (xwatch S m).2 := Rel_hi h (fun k hk => by
    unfold xwatch
    split
    · show wtS S m k = _
      unfold wtS
      rw [up2_row (by omega), nt_hi h (by omega)]
    · rfl)
  refine kP_of h1 (c_watch h1 m) ?_
  generalize (xwatch S m).2 = B at *
  intro k hk
  unfold ywatch
  split
  · show up2 _ _ _ _ k = _
    rw [up2_row (by omega), yn_lo hk]
  · rfl
theorem k_undo {S : Nat → Nat → Int32} (h : Rel S S) : kP S (xundo S).2 (yundo (xundo S).2).2 (xundo S).1 (yundo (xundo S).2).1 := by
  have h1 : Rel S (xundo S).2 := Rel_hi h (fun k hk => by
    unfold xundo
    split
    · rfl
    · show tbS S _ _ k = _
      unfold tbS
      rw [up2_row (by omega), cpR_row (by omega), up2_row (by omega)])
  refine kP_of h1 (c_undo h1 ) ?_
  generalize (xundo S).2 = B at *
  intro k hk
  unfold yundo
  split
  · rfl
  · show udK (udT B) _ _ k = _
    rw [udK_ne (by omega)]
    unfold udT
    rw [up2_row (by omega), up2_row (by omega)]
theorem k_free {S : Nat → Nat → Int32} (h : Rel S S) (w : Int32) : kP S (xfree S w).2 (yfree (xfree S w).2 w).2 (xfree S w).1 (yfree (xfree S w).2 w).1 := by
  have h1 : Rel S (xfree S w).2 := Rel_hi h (fun k hk => by
    unfold xfree
    have e : frS S k = S k := fg_row (by omega)
    split
    · rfl
    · split
      · exact e
      · split
        · exact e
        · split <;> exact e)
  refine kP_of h1 (c_free h1 w) ?_
  generalize (xfree S w).2 = B at *
  intro k hk
  unfold yfree
  split
  · exact funext (fun j => tr_fo h1.2.1.2.1 (Rel_wfR h1) (by omega) (Or.inl (by omega)))
  · rfl
theorem k_judge {S : Nat → Nat → Int32} (h : Rel S S) (q : Int32) (row : Int64) : kP S (xjudge S q row).2 (yjudge (xjudge S q row).2 q row).2 (xjudge S q row).1 (yjudge (xjudge S q row).2 q row).1 := by
  have h1 : Rel S (xjudge S q row).2 := Rel_hi h (fun k hk => by
    unfold xjudge
    split
    · rfl
    · rw [jdL_row _ _ _ _ _ _ (by omega), cpR_row (by omega)])
  refine kP_of h1 (c_judge h1 q row) ?_
  generalize (xjudge S q row).2 = B at *
  intro k hk
  unfold yjudge
  split
  · rw [yjL_row _ _ _ _ _ (trS_wfY h1.2.1.2.1) (trS_wfR (Rel_wfR h1)) k hk, trS_ne (by omega)]
  · rfl
theorem k_see {S : Nat → Nat → Int32} (h : Rel S S) (v b : Int32) : kP S (xsee S v b).2 (ysee (xsee S v b).2 v b).2 (xsee S v b).1 (ysee (xsee S v b).2 v b).1 := by
  have h1 : Rel S (xsee S v b).2 := Rel_hi h (fun k hk => by
    unfold xsee
    split
    · rfl
    · split
      · rfl
      · show up2 (up2 (up2 _ _ _ _) _ _ _) _ _ _ k = _
        rw [up2_row (by omega), up2_row (by omega), up2_row (by omega)])
  refine kP_of h1 (c_see h1 v b) ?_
  generalize (xsee S v b).2 = B at *
  intro k hk
  unfold ysee
  split
  · split
    · rfl
    · show up2 (up2 (up2 _ _ _ _) _ _ _) _ _ _ k = _
      rw [up2_row (by omega), up2_row (by omega), up2_row (by omega)]
  · rfl
theorem k_unsee {S : Nat → Nat → Int32} (h : Rel S S) : kP S (xunsee S).2 (yunsee (xunsee S).2).2 (xunsee S).1 (yunsee (xunsee S).2).1 := by
  have h1 : Rel S (xunsee S).2 := Rel_hi h (fun k hk => by
    unfold xunsee
    show up2 _ _ _ _ k = _
    rw [up2_row (by omega)])
  refine kP_of h1 (c_unsee h1 ) ?_
  generalize (xunsee S).2 = B at *
  intro k hk
  unfold yunsee
  show up2 _ _ _ _ k = _
  rw [up2_row (by omega)]
theorem k_which {S : Nat → Nat → Int32} (h : Rel S S) : kP S (xwhich S).2 (ywhich (xwhich S).2).2 (xwhich S).1 (ywhich (xwhich S).2).1 := by
  have h1 : Rel S (xwhich S).2 := Rel_hi h (fun k hk => by
    unfold xwhich
    exact whL_row _ _ _ _ _ _ (by omega))
  refine kP_of h1 (c_which h1 ) ?_
  generalize (xwhich S).2 = B at *
  intro k hk
  unfold ywhich
  exact ywL_row _ _ _ _ _ h1.2.1.2.1 (Rel_wfR h1) k hk
theorem k_share {S : Nat → Nat → Int32} (h : Rel S S) (p up : Int32) : kP S (xshare S p up).2 (yshare (xshare S p up).2 p up).2 (xshare S p up).1 (yshare (xshare S p up).2 p up).1 := by
  have h1 : Rel S (xshare S p up).2 := Rel_hi h (fun k hk => by
    unfold xshare
    split
    · split
      · exact meS_rw (by omega)
      · rfl
    · rfl)
  refine kP_of h1 (c_share h1 p up) ?_
  generalize (xshare S p up).2 = B at *
  intro k hk
  unfold yshare
  have hN := h1.2.1.2.1.1
  have e : (lpF B).2 k = B k := (lpF_fr hN).2 k (by omega)
  split
  · split
    · rename_i g
      show yshW B k = _
      unfold yshW
      rw [swL_row _ _ _ (lpF_wfY h1.2.1.2.1) (lpF_wfR hN (Rel_wfR h1)) ((lpF_fr hN).1 g.2) k hk, e]
    · exact e
  · rfl
theorem k_chance {S : Nat → Nat → Int32} (h : Rel S S) (v x up : Int32) : kP S (xchance S v x up).2 (ychance (xchance S v x up).2 v x up).2 (xchance S v x up).1 (ychance (xchance S v x up).2 v x up).1 := by
  have h1 : Rel S (xchance S v x up).2 := Rel_hi h (fun k hk => by
    unfold xchance
    split
    · rfl
    · split
      · exact meS_rw (by omega)
      · rfl)
  refine kP_of h1 (c_chance h1 v x up) ?_
  generalize (xchance S v x up).2 = B at *
  intro k hk
  unfold ychance
  have hN := h1.2.1.2.1.1
  have e : (lpF B).2 k = B k := (lpF_fr hN).2 k (by omega)
  split
  · split
    · rename_i g
      show (ychL v x (lpF B).1 (2 ^ (lpF B).1) 0 0 (lpF B).2).2 k = _
      rw [ychL_row _ _ _ _ (lpF_wfY h1.2.1.2.1) (lpF_wfR hN (Rel_wfR h1)) ((lpF_fr hN).1 g) k hk, e]
    · exact e
  · rfl
theorem k_keep {S : Nat → Nat → Int32} (h : Rel S S) (q : Int32) : kP S (xkeep S q).2 (ykeep (xkeep S q).2 q).2 (xkeep S q).1 (ykeep (xkeep S q).2 q).1 := by
  have h1 : Rel S (xkeep S q).2 := Rel_hi h (fun k hk => by
    unfold xkeep
    split
    · rename_i c
      have hx := tn_lt (M := 2) (k := 2) rfl (by decide) c.1 c.2
      show up2 _ _ _ _ k = _
      rw [up2_row (by omega), cpR_row (by omega)]
    · rfl)
  refine kP_of h1 (c_keep h1 q) ?_
  generalize (xkeep S q).2 = B at *
  intro k hk
  unfold ykeep
  split
  · show cgK _ _ _ _ _ _ k = _
    rw [cgK_ne (by omega), up2_row (by omega)]
  · rfl
theorem k_again {S : Nat → Nat → Int32} (h : Rel S S) (q : Int32) : kP S (xagain S q).2 (yagain (xagain S q).2 q).2 (xagain S q).1 (yagain (xagain S q).2 q).1 := by
  have h1 : Rel S (xagain S q).2 := Rel_hi h (fun k hk => by
    unfold xagain
    split
    · split
      · rfl
      · show up2 _ _ _ _ k = _
        rw [up2_row (by omega), cpR_row (by omega)]
    · rfl)
  refine kP_of h1 (c_again h1 q) ?_
  generalize (xagain S q).2 = B at *
  intro k hk
  unfold yagain
  split
  · split
    · rfl
    · show up2 _ _ _ _ k = _
      rw [up2_row (by omega), cgK_ne (by omega)]
  · rfl
theorem k_aside {S : Nat → Nat → Int32} (h : Rel S S) (a w : Int32) : kP S S (yaside S a w).2 (xaside S a w) (yaside S a w).1 := by
  refine kP_of h (c_aside h a w) (fun k hk => ?_)
  have e : trS S k = S k := trS_ne (by omega)
  unfold yaside
  split
  · rename_i hh
    split
    · split
      · exact e
      · rw [← e]
        have hlt := (hY16 h.2.1.2.1.1 hh).1
        have hw := h.2.1.2.1.2 _ hlt
        exact funext (fun j => ypS_hi (by rw [trS_ne (by decide), trS_ne (by decide), trS_ne (by decide)]; exact hw) (by rw [trS_185]; exact SR_b8 (Rel_S h)) (Or.inl (by omega)))
    · split
      · split <;> exact e
      · split
        · split <;> exact e
        · split <;> exact e
  · rfl
theorem k_drawn {S : Nat → Nat → Int32} {L : Nat → Int64} (h : Rel S S) (hL : L 0 = L 179) (m : Int32) : kP S (xdrawn S L m).2.1 (ydrawn (xdrawn S L m).2.1 (xdrawn S L m).2.2 m).2.1 (xdrawn S L m).1 (ydrawn (xdrawn S L m).2.1 (xdrawn S L m).2.2 m).1 ∧ (ydrawn (xdrawn S L m).2.1 (xdrawn S L m).2.2 m).2.2 0 = (ydrawn (xdrawn S L m).2.1 (xdrawn S L m).2.2 m).2.2 179 := by
  have h1 : Rel S (xdrawn S L m).2.1 := Rel_hi h (fun k hk => by
    unfold xdrawn
    split
    · rfl
    · exact drL_row _ _ _ _ _ (by omega))
  have hM : L 0 = (xdrawn S L m).2.2 179 := by
    rw [hL]
    unfold xdrawn
    split
    · rfl
    · exact (drL_L _ _ _ _ _ (by decide)).symm
  obtain ⟨e, r, l⟩ := c_drawn h1 hM m
  generalize (xdrawn S L m).2.1 = B at *
  generalize (xdrawn S L m).2.2 = M at *
  refine ⟨kP_of h1 ⟨e, r⟩ (fun k hk => ?_), ?_⟩
  · unfold ydrawn
    split
    · exact yrL_row _ _ _ _ h1.2.1.2.1 (Rel_wfR h1) k hk
    · rfl
  · rw [← l]
    unfold ydrawn
    split
    · exact yrL_L _ _ _ _ _ (by decide)
    · rfl
theorem k_register {S : Nat → Nat → Int32} (h : Rel S S) (r : Int32) : xregister S r = yregister S r := q_register (Rel_S h).1 r
theorem k_cell {S : Nat → Nat → Int32} (h : Rel S S) (r : Int32) : xcell S r = ycell S r := q_cell (Rel_S h).1 r
theorem k_stack {S : Nat → Nat → Int32} (h : Rel S S) (r : Int32) : xstack S r = ystack S r := q_stack (Rel_wfR h) (Rel_S h).1 r
theorem k_copy {S : Nat → Nat → Int32} (h : Rel S S) (r : Int32) : xcopy S r = ycopy S r := q_copy (Rel_wfR h) (Rel_S h).1 r
theorem k_broken {S : Nat → Nat → Int32} (h : Rel S S) (p w : Int32) : xbroken S p w = ybroken S p w := q_broken h.2.1.2.1.1 h.2.1.1.1 (Rel_S h).1 p w
theorem k_about {S : Nat → Nat → Int32} (h : Rel S S) (w : Int32) : xabout S w = yabout S w := q_about h.2.1.2.1 h.2.1.1 (Rel_S h).1 (SR_wfSt (Rel_S h)).1 h.2.2.2.1.2.1 h.2.2.2.2.2.1 h.1.1 w
