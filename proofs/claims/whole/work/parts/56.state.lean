/-- the state at s stands as the row g says; the program has n places -/
def stR (A : Nat → Nat → Int32) (s : Nat) (g : Nat → Int32) (n : Nat) : Prop := mcR A (s + 1) g ∧ cyR A s g ∧ brR A (s + 5) g ∧ brN n g ∧ (A s 4 = g 25 ∧ A s 5 = g 126 ∧ A s 6 = g 127) ∧ ∃ w, w < 256 ∧ g 25 = nI w
theorem mcR_g {A : Nat → Nat → Int32} {mq : Nat} {g g' : Nat → Int32} (hg : ∀ j, j < 25 → g' j = g j) (hb : tn (g 20) ≤ 8) (h : mcR A mq g) : mcR A mq g' := by
  obtain ⟨h1, h2, h3, h4, h5, h6, h7, h8⟩ := h
  refine ⟨fun r hr => ?_, fun c hc => ?_, fun d hd => ?_, ?_, ?_, ?_, ?_, ?_⟩
  · rw [hg _ (by omega)]; exact h1 r hr
  · rw [hg _ (by omega)]; exact h2 c hc
  · rw [hg 20 (by omega)] at hd
    rw [hg _ (by omega)]; exact h3 d hd
  all_goals (rw [hg _ (by omega)]; assumption)
theorem cyR_cg {A A' : Nat → Nat → Int32} {s : Nat} {g g' : Nat → Int32} (h3 : A' s 3 = A s 3) (h7 : A' (s + 7) = A (s + 7)) (hg : ∀ j, 122 ≤ j → j < 126 → g' j = g j) (h : cyR A s g) : cyR A' s g' := by
  obtain ⟨a, b, c⟩ := h
  have hk := tn_le (M := 3) (k := 3) rfl (by decide) b.1 b.2
  unfold cyR
  rw [h3, h7, hg 122 (by omega) (by omega)]
  exact ⟨a, b, fun j hj => by rw [hg _ (by omega) (by omega)]; exact c j hj⟩
theorem brR_cg {A A' : Nat → Nat → Int32} {b : Nat} {g g' : Nat → Int32} (hA : A' (b + 1) = A (b + 1)) (hg : ∀ j, 26 ≤ j → j < 122 → g' j = g j) (h : brR A b g) : brR A' b g' := by
  intro p hp
  unfold brp
  rw [hA, hg _ (by omega) (by omega), hg (42 + p) (by omega) (by omega), hg (58 + p) (by omega) (by omega), hg (74 + p) (by omega) (by omega), hg (90 + p) (by omega) (by omega), hg (106 + p) (by omega) (by omega)]
  exact h p hp
theorem brN_cg {n : Nat} {g g' : Nat → Int32} (hg : ∀ j, 26 ≤ j → j < 42 → g' j = g j) (h : brN n g) : brN n g' := fun p h1 h2 => by rw [hg _ (by omega) (by omega)]; exact h p h1 h2
theorem kcG_fr {g : Nat → Int32} {v : Int32} {j : Nat} (hk : ¬ g 122 < 0 ∧ ¬ 3 < g 122) (h : j < 122 ∨ 126 ≤ j) : kcG g v j = g j := by
  have := kcM_fr (S := fun _ => g) (q := 0) (v := v) (k := 0) (j := j) hk (Or.inr h)
  rw [kcM_q] at this
  exact this
theorem kcS_fr {A : Nat → Nat → Int32} {s : Nat} {v : Int32} {k j : Nat} (h : k ≠ s + 7) (h2 : k ≠ s ∨ j ≠ 3) : kcS A s v k j = A k j := by
  unfold kcS
  by_cases c : amP (A (s + 7)) (tn (A s 3)) v
  · rw [if_pos c]
  · rw [if_neg c]
    by_cases c3 : A s 3 = 3
    · rw [if_pos c3, up2_ne (Or.inl h), up2_ne (Or.inl h), up2_ne (Or.inl h)]
    · rw [if_neg c3, up2_ne h2, up2_ne (Or.inl h)]
theorem x_eq {a b : Int32} {w : Nat} (hw : w < 256) (ha : a = nI w) (hb : b = nI w) : (if 2 < bcF a then (10 : Int32) else 1) = if 2 < onL b 16 0 0 then 10 else 1 := by rw [ha, hb, bc_on w hw]
/-- a step that was made is counted alike -/
theorem ch_rel {A T : Nat → Nat → Int32} {s r q n : Nat} {N t : Int32} (hN : ¬ N < 0 ∧ ¬ 16 < N) (hn : tn N = n) (ht : ¬ t < 0 ∧ ¬ N ≤ t) (h : stR A s (T q) n) (hb : tn (T q 20) ≤ 8) (hl : ∀ (U : Nat → Nat → Int32), (∀ k, k ≠ q → U k = T k) → laF U (tn t) = A (r + 4) (tn t)) : stR (chS A s r t) s (spU (spT T q t) q q) n := by
  obtain ⟨hm, hc, hbr, hz, ⟨e4, e5, e6⟩, w, hw, hw2⟩ := h
  have ha := arm_rel (t := t) hN hn hbr hz
  have hp := hbr _ (Nat.lt_of_lt_of_le (hasI ht.1 ht.2 hN.1) (tn_16 hN.1 hN.2))
  have hx : (if 2 < bcF (A s 4) then (10 : Int32) else 1) = if 2 < onL (T q 25) 16 0 0 then 10 else 1 := x_eq hw (by rw [e4]; exact hw2) hw2
  unfold chS
  by_cases c : armP A (s + 5) t
  · have c2 : 0 < T q (26 + tn t) := (pos_ne hp.2.1.1).mpr (ha.mp c).2
    rw [if_pos c, spT, if_pos c2, hl _ (fun k hk => up2_row hk), hx]
    generalize A (r + 4) (tn t) = v
    have hg0 : up2 T q 126 (T q 126 + 3) q = upd (T q) 126 (T q 126 + 3) := up2_q _ _ _ _
    have hkc : ¬ upd (T q) 126 (T q 126 + 3) 122 < 0 ∧ ¬ 3 < upd (T q) 126 (T q 126 + 3) 122 := by rw [upd_at, if_neg (by decide)]; exact hc.2.1
    have hG : kcM (up2 T q 126 (T q 126 + 3)) q v q = kcG (upd (T q) 126 (T q 126 + 3)) v := by rw [kcM_q, hg0]
    have h25 : kcM (up2 T q 126 (T q 126 + 3)) q v q 25 = T q 25 := by rw [hG, kcG_fr hkc (Or.inl (by decide)), upd_at, if_neg (by decide)]
    have hgl : ∀ j, j < 122 → spU (kcM (up2 T q 126 (T q 126 + 3)) q v) q q j = T q j := fun j hj => by
      rw [spU_fr (Or.inr (by omega)), hG, kcG_fr hkc (Or.inl hj), upd_at, if_neg (by omega)]
    have hgm : ∀ j, 122 ≤ j → j < 126 → spU (kcM (up2 T q 126 (T q 126 + 3)) q v) q q j = kcG (upd (T q) 126 (T q 126 + 3)) v j := fun j h1 h2 => by rw [spU_fr (Or.inr (by omega)), hG]
    refine ⟨mcR_cg (fun k k1 k2 => funext (fun j => ?_)) (mcR_g (fun j hj => hgl j (by omega)) hb hm), cyR_cg rfl rfl hgm (kc_rel (cyR_cg (A := A) ?_ ?_ (fun j h1 h2 => by rw [upd_at, if_neg (by omega)]) hc) v), brR_cg (funext (fun j => ?_)) (fun j h1 h2 => hgl j (by omega)) hbr, brN_cg (fun j h1 h2 => hgl j (by omega)) hz, ⟨?_, ?_, ?_⟩, w, hw, by rw [hgl 25 (by omega)]; exact hw2⟩
    · rw [kcS_fr (by omega) (Or.inl (by omega)), up2_ne (Or.inl (by omega)), up2_ne (Or.inl (by omega))]
    · rw [up2_ne (Or.inr (by decide)), up2_ne (Or.inr (by decide))]
    · rw [up2_row (by omega), up2_row (by omega)]
    · rw [kcS_fr (by omega) (Or.inl (by omega)), up2_ne (Or.inl (by omega)), up2_ne (Or.inl (by omega))]
    · rw [kcS_fr (by omega) (Or.inr (by decide)), up2_ne (Or.inr (by decide)), up2_ne (Or.inr (by decide)), hgl 25 (by omega)]; exact e4
    · rw [kcS_fr (by omega) (Or.inr (by decide)), up2_same, spU, up2_ne (Or.inr (by decide)), up2_same, h25, hG, kcG_fr hkc (Or.inr (by decide)), upd_at, if_pos rfl, e5, Int32.add_assoc, Int32.add_comm _ 3, ← Int32.add_assoc]
    · rw [kcS_fr (by omega) (Or.inr (by decide)), up2_ne (Or.inr (by decide)), up2_same, spU, up2_same, up2_ne (Or.inr (by decide)), hG, kcG_fr hkc (Or.inr (by decide)), upd_at, if_neg (by decide), e6]
  · have c2 : ¬ 0 < T q (26 + tn t) := fun z => c (ha.mpr ⟨ht, (pos_ne hp.2.1.1).mp z⟩)
    rw [if_neg c, spT, if_neg c2, hx]
    have hgl : ∀ j, j < 126 → spU T q q j = T q j := fun j hj => spU_fr (Or.inr hj)
    refine ⟨mcR_cg (fun k k1 k2 => by rw [up2_row (by omega), up2_row (by omega)]) (mcR_g (fun j hj => hgl j (by omega)) hb hm), cyR_cg ?_ ?_ (fun j h1 h2 => hgl j h2) hc, brR_cg (by rw [up2_row (by omega), up2_row (by omega)]) (fun j h1 h2 => hgl j (by omega)) hbr, brN_cg (fun j h1 h2 => hgl j (by omega)) hz, ⟨?_, ?_, ?_⟩, w, hw, by rw [hgl 25 (by omega)]; exact hw2⟩
    · rw [up2_ne (Or.inr (by decide)), up2_ne (Or.inr (by decide))]
    · rw [up2_row (by omega), up2_row (by omega)]
    · rw [up2_ne (Or.inr (by decide)), up2_ne (Or.inr (by decide)), hgl 25 (by omega)]; exact e4
    · rw [up2_same, spU, up2_ne (Or.inr (by decide)), up2_same, e5]
    · rw [up2_ne (Or.inr (by decide)), up2_same, spU, up2_same, up2_ne (Or.inr (by decide)), e6]
