theorem and1 (x : Int32) : x &&& 1 = 0 ∨ x &&& 1 = 1 := by
  obtain ⟨j, hj, e⟩ := pk_andE x (m := 1) 1 (by decide)
  rw [e]
  rcases (show j = 0 ∨ j = 1 by omega) with rfl | rfl
  · exact Or.inl rfl
  · exact Or.inr rfl
abbrev btP (set : Int32) (j : Nat) : Prop := (set >>> (nI j &&& 31)) &&& 1 = 1
/-- what the run of the reference's trial row keeps against the class's trail -/
def sI (g : Nat → Int32) (n c : Nat) (pl : Nat → Nat) (set : Int32) (T C V : Nat → Nat → Int32) : Prop :=
  (prR T 3 C ∧ wfY C ∧ wfR C 185 ∧ C 179 17 = -9 ∧ tn (C 179 2) = n) ∧ (mcR T 154 (C 185) ∧ wfM T 154) ∧ C 185 25 = 0 ∧
  (∀ p, p < 16 → C 185 (42 + p) = g (42 + p) ∧ C 185 (58 + p) = g (58 + p) ∧ C 185 (74 + p) = g (74 + p)) ∧
  (∀ j, j < c → C 185 (26 + pl j) = if btP set j then g (26 + pl j) else 0) ∧ (∀ p, p < 16 → g (26 + p) = 0 → C 185 (26 + p) = 0) ∧
  (∀ j, j < c → btP set j → V 160 j = C 185 (90 + pl j)) ∧ (brR T 18 g ∧ brN n g ∧ ∀ j, j < c → T 158 j = nI (pl j))
def plQ (g : Nat → Int32) (c : Nat) (pl : Nat → Nat) : Prop := c ≤ 6 ∧ (∀ j, j < c → pl j < 16 ∧ 0 < g (26 + pl j)) ∧ (∀ i j, i < c → j < c → pl i = pl j → i = j) ∧ (∀ q, q < 16 → 0 < g (26 + q) → ∃ j, j < c ∧ pl j = q)
theorem fw_tr (c : Nat) : ∀ (m k i : Nat) (T : Nat → Nat → Int32), i < k → fwL c m k T 161 i = T 161 i
  | 0, k, i, T, _ => rfl
  | m + 1, k, i, T, h => by
    rw [fwL]
    by_cases c1 : T 154 5 = 0
    · rw [if_pos c1]
      by_cases c2 : stP T 154 3
      · rw [if_pos c2, fw_tr c m (k + 1) i _ (by omega)]
        unfold fwA
        rw [up2_ne (Or.inl (by decide)), up2_ne (Or.inr (by omega)), stS_row (by omega)]
      · rw [if_neg c2]
    · rw [if_neg c1]
theorem fw_len (c : Nat) : ∀ (m k : Nat) (T : Nat → Nat → Int32), k + m ≤ 1980 → T 153 6 = nI k → k ≤ tn (fwL c m k T 153 6)
  | 0, k, T, h, e => by rw [fwL, e, tn_nI (by omega)]; omega
  | m + 1, k, T, h, e => by
    rw [fwL]
    by_cases c1 : T 154 5 = 0
    · rw [if_pos c1]
      by_cases c2 : stP T 154 3
      · rw [if_pos c2]
        have := fw_len c m (k + 1) (fwA (stS T 154 3) c k) (by omega) (by unfold fwA; rw [up2_same])
        omega
      · rw [if_neg c2, e, tn_nI (by omega)]; omega
    · rw [if_neg c1, e, tn_nI (by omega)]; omega
theorem fw_halt {c m k : Nat} {T : Nat → Nat → Int32} (h : ¬ T 154 5 = 0) : fwL c m k T = T := by
  cases m with
  | zero => rfl
  | succ m => rw [fwL, if_neg h]
theorem va_99 (set : Int32) (m k fn : Nat) (V : Nat → Nat → Int32) : (vaL set m k fn 99 V).1 = fn := by
  cases m with
  | zero => rfl
  | succ m => rw [vaL, if_neg (fun z => absurd z.2 (by omega))]
theorem va_20 (set : Int32) (m k sn : Nat) (V : Nat → Nat → Int32) : (vaL set m k 20 sn V).1 = 20 := by
  cases m with
  | zero => rfl
  | succ m => rw [vaL, if_neg (fun z => absurd z.1 (by omega))]
theorem fwA_rw {T : Nat → Nat → Int32} {c k a : Nat} (h : a ≠ 153) (h2 : a ≠ 161) : fwA T c k a = T a := by unfold fwA; rw [up2_row h, up2_row h2]
theorem ic_0 {S : Nat → Nat → Int32} {q : Nat} (h : S q 25 = 0) : ¬ icB S q 8 = true := by
  rw [icB_iff]
  rintro ⟨k, hk, h1, -⟩
  rw [h] at h1
  revert h1
  have : ∀ k, k < 8 → ¬ ((0 : Int32) >>> (nI k &&& 31)) &&& 1 = 1 := by decide +kernel
  exact this k hk
/-- the applying of a breakpoint, told twice -/
theorem ap_rel {g : Nat → Int32} {n c : Nat} {pl : Nat → Nat} {set : Int32} (hpl : plQ g c pl) {T U : Nat → Nat → Int32} (hY : wfY U) (hR : wfR U 185) (hn : tn (U 179 2) = n) (hm : mcR T 154 (U 185)) (hcol : ∀ p, p < 16 → U 185 (42 + p) = g (42 + p) ∧ U 185 (58 + p) = g (58 + p) ∧ U 185 (74 + p) = g (74 + p)) (hct : ∀ j, j < c → U 185 (26 + pl j) = if btP set j then g (26 + pl j) else 0) (hc0 : ∀ p, p < 16 → g (26 + p) = 0 → U 185 (26 + p) = 0) (hbr : brR T 18 g) (hz : brN n g) (h58 : ∀ j, j < c → T 158 j = nI (pl j)) :
    (¬ aplP U 185 (U 185 21) ∧ (¬ appP T 18 154 ∨ ∃ j, j < c ∧ ixL T (T 154 4) c 0 = nI j ∧ ¬ btP set j)) ∨ (aplP U 185 (U 185 21) ∧ appP T 18 154 ∧ ∃ j, j < c ∧ ixL T (T 154 4) c 0 = nI j ∧ btP set j ∧ tn (U 185 21) = pl j) := by
  have e21 : T 154 4 = U 185 21 := hm.2.2.2.2.1
  have ha := arm_rel (t := U 185 21) hY.1 hn hbr hz
  by_cases hap : appP T 18 154
  · have hap2 := hap
    unfold appP at hap
    rw [e21] at hap
    obtain ⟨har, hcond⟩ := hap
    obtain ⟨hh, hne⟩ := ha.mp har
    have h16 : tn (U 185 21) < 16 := (hY16 hY.1 hh).2
    have hp := hbr _ h16
    have hgp : 0 < g (26 + tn (U 185 21)) := (pos_ne hp.2.1.1).mpr hne
    obtain ⟨j, hj, ej⟩ := hpl.2.2.2 _ h16 hgp
    have ht : U 185 21 = nI (pl j) := by rw [ej]; exact nI_self hh.1
    have hix : ixL T (T 154 4) c 0 = nI j := by
      rw [e21, ht]
      refine ix_at c 0 j (by omega) (by omega) (h58 j hj) (fun i _ hi w => ?_)
      rw [h58 i (by omega), nI_eq (by have := (hpl.2.1 i (by omega)).1; omega) (by have := (hpl.2.1 j hj).1; omega)] at w
      have := hpl.2.2.1 i j (by omega) hj w
      omega
    by_cases hb : btP set j
    · right
      refine ⟨⟨hh, ?_, ?_⟩, hap2, j, hj, hix, hb, ej.symm⟩
      · rw [← ej, hct j hj, if_pos hb, ej]; exact hne
      · obtain ⟨c1, c2, c3⟩ := hcol _ h16
        rw [c1, c2, c3]
        have hq := hp.2.2.2 hne
        by_cases hr : g (42 + tn (U 185 21)) = -9
        · exact Or.inl hr
        · right
          obtain ⟨hrg, e2, e3⟩ := hq.2.2.1 hr
          have hx := tn_lt (M := 4) (k := 4) rfl (by decide) hrg.1 hrg.2
          have f1 : T (18 + 1) (6 * tn (U 185 21) + 1) = g (42 + tn (U 185 21)) := hq.1
          rw [f1, e2, e3, hm.1 _ hx] at hcond
          have h3 := hcond.resolve_left (fun z => z hrg)
          by_cases d0 : g (58 + tn (U 185 21)) = 0
          · rw [if_pos d0] at h3; exact Or.inl ⟨d0, h3⟩
          · rw [if_neg d0] at h3
            by_cases d1 : g (58 + tn (U 185 21)) = 1
            · rw [if_pos d1] at h3; exact Or.inr (Or.inl ⟨d0, d1, h3⟩)
            · rw [if_neg d1] at h3; exact Or.inr (Or.inr ⟨d0, d1, h3⟩)
    · left
      refine ⟨fun z => ?_, Or.inr ⟨j, hj, hix, hb⟩⟩
      apply z.2.1
      rw [← ej, hct j hj, if_neg hb]
  · left
    refine ⟨fun z => hap ?_, Or.inl hap⟩
    obtain ⟨hh, hne, hcond⟩ := z
    have h16 : tn (U 185 21) < 16 := (hY16 hY.1 hh).2
    have hg : ¬ g (26 + tn (U 185 21)) = 0 := fun w => hne (hc0 _ h16 w)
    have hp := hbr _ h16
    have hq := hp.2.2.2 hg
    obtain ⟨c1, c2, c3⟩ := hcol _ h16
    rw [c1, c2, c3] at hcond
    unfold appP
    rw [e21]
    refine ⟨ha.mpr ⟨hh, hg⟩, ?_⟩
    have f1 : T (18 + 1) (6 * tn (U 185 21) + 1) = g (42 + tn (U 185 21)) := hq.1
    rw [f1]
    by_cases hr : g (42 + tn (U 185 21)) = -9
    · left; rw [hr]; decide
    · right
      obtain ⟨hrg, e2, e3⟩ := hq.2.2.1 hr
      have hx := tn_lt (M := 4) (k := 4) rfl (by decide) hrg.1 hrg.2
      rw [e2, e3, hm.1 _ hx]
      rcases hcond.resolve_left hr with ⟨d0, h⟩ | ⟨d0, d1, h⟩ | ⟨d0, d1, h⟩
      · rw [if_pos d0]; exact h
      · rw [if_neg d0, if_pos d1]; exact h
      · rw [if_neg d0, if_neg d1]; exact h
