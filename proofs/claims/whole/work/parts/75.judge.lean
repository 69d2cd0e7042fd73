def jR (A B : Nat → Nat → Int32) : Prop := prR A 3 B ∧ wfY B ∧ B 179 17 = -9 ∧ SR A 21 (B 185) (tn (B 179 2))
theorem rs_rg (S : Nat → Nat → Int32) (q : Nat) (k d t : Int32) : rsR S q k d t = -9 ∨ (0 ≤ rsR S q k d t) := by
  unfold rsR
  repeat' split
  all_goals decide
theorem po_rg (q : Nat) (k d : Int32) : ∀ (m t : Nat) (S : Nat → Nat → Int32), 0 ≤ (poL q k d m t S).1
  | 0, t, S => by rw [poL]; show (0 : Int32) ≤ 5; decide
  | m + 1, t, S => by
    rw [poL]
    split
    · split
      · exact po_rg q k d m _ _
      · rename_i c
        exact (rs_rg _ _ _ _ _).resolve_left c
    · show (0 : Int32) ≤ 4; decide
theorem pof_rg (S : Nat → Nat → Int32) (q : Nat) (k : Int32) : 0 ≤ (poF S q k).1 := by
  unfold poF
  split
  · show (0 : Int32) ≤ 3; decide
  · exact po_rg _ _ _ _ _ _
theorem le1_iff {x : Int32} (h : 0 ≤ x) : x ≤ 1 ↔ x = 0 ∨ x = 1 := by
  obtain ⟨j, hj, rfl⟩ := nI_of (Int32.not_lt.mpr h)
  constructor
  · intro w
    have := (nI_leI (b := 1) hj (by decide)).mp w
    rcases (show j = 0 ∨ j = 1 by omega) with rfl | rfl
    · exact Or.inl rfl
    · exact Or.inr rfl
  · rintro (w | w) <;> rw [w] <;> decide
theorem lt4_iff {x : Int32} (h : ¬ x < 0) : x < 4 ↔ ¬ 3 < x := by
  obtain ⟨j, hj, rfl⟩ := nI_of h
  rw [show (4 : Int32) = nI 4 from rfl, show (3 : Int32) = nI 3 from rfl, nI_ltI hj (by decide), nI_ltI (by decide) hj]
  omega
theorem ge4_iff {x : Int32} (h : ¬ x < 0) : x < 4 ↔ ¬ 4 ≤ x := ⟨fun w => Int32.not_le.mpr w, fun w => Int32.not_le.mp w⟩
theorem ge8_iff {x : Int32} (h : ¬ x < 0) : ¬ 8 ≤ x ↔ ¬ 7 < x := by
  obtain ⟨j, hj, rfl⟩ := nI_of h
  rw [show (8 : Int32) = nI 8 from rfl, show (7 : Int32) = nI 7 from rfl, nI_leI (by decide) hj, nI_ltI (by decide) hj]
  omega
theorem ite01 {P : Prop} [Decidable P] : ¬ (if P then (1 : Int32) else 0) = 0 ↔ P := by
  by_cases c : P
  · rw [if_pos c]; exact ⟨fun _ => c, fun _ => by decide⟩
  · rw [if_neg c]; exact ⟨fun z => absurd rfl z, fun z => absurd z c⟩
theorem jR_set {A A' B B' : Nat → Nat → Int32} (h : jR A B) (hA : ∀ k, k < 8 → A' k = A k) (hB : ∀ k, k ≠ 185 → k ≠ 191 → B' k = B k) (hs : SR A' 21 (B' 185) (tn (B 179 2))) : jR A' B' := by
  have b9 := hB 179 (by decide) (by decide)
  refine ⟨prR_cg (fun k k1 k2 => hA k (by omega)) (by rw [b9]) (hB _ (by decide) (by decide)) (hB _ (by decide) (by decide)) (hB _ (by decide) (by decide)) h.1, wfY_of (by rw [b9]) (fun k hk => hB k (by omega) (by omega)) h.2.1, by rw [b9]; exact h.2.2.1, by rw [b9]; exact hs⟩
theorem add_9 (A : Nat → Nat → Int32) (q p : Nat) (how f how' f' b : Int32) : addS A q p (-9) how f b = addS A q p (-9) how' f' b := by
  unfold addS
  rw [if_pos rfl, if_pos rfl, if_pos rfl, if_pos rfl]
theorem hoS_row {A : Nat → Nat → Int32} {a b c : Int32} {k : Nat} (h : k < 21 ∨ 29 ≤ k) : hoS A a b c k = A k := by
  unfold hoS
  split
  · split
    · exact pfF_row (by omega)
    · rfl
  · split
    · split
      · unfold tkS; exact addS_row (by omega)
      · rfl
    · split
      · split
        · exact up2_row (by omega)
        · rfl
      · rfl
theorem ho_rel {A B : Nat → Nat → Int32} (h : jR A B) {a b c : Int32} (hb : ¬ b < 0) (hc : ¬ c < 0) : (hoP A a b c ↔ ¬ jgR B a b c = 0) ∧ jR (hoS A a b c) (jgS B a b c) := by
  have hS := h.2.2.2
  have e4 : A 22 4 = B 185 21 := hS.1.1.2.2.2.2.1
  have e3 : A 22 3 = B 185 20 := hS.1.1.2.2.2.1
  have e6 : A 22 6 = B 185 23 := hS.1.1.2.2.2.2.2.2.1
  have z0 := pos_ne hS.2.1.1.1
  unfold hoP hoS jgR jgS
  by_cases a1 : a = 1
  · rw [if_pos a1, if_pos a1, if_pos a1, if_pos a1]
    by_cases g : jgA B b c
    · have g2 : b = 0 ∧ ¬ 3 < c := ⟨g.1, (lt4_iff hc).mp g.2.1⟩
      have ha : allowP A 21 c := by
        by_cases y : c = 2
        · exact Or.inr (Decidable.byContradiction (fun z => g.2.2 ⟨y, by rw [← e3]; exact z⟩))
        · exact Or.inl y
      rw [if_pos g, if_pos g, if_pos g2]
      have hr := pf_rel (s := 21) sh_185 (Or.inl (by decide)) h.1 h.2.1 h.2.2.1 rfl hS c ha
      refine ⟨?_, jR_set h (fun k hk => pfF_row (by omega)) (fun k k1 k2 => funext (fun j => (poF_fr sh_185 c h.2.1 hS.2.1).2.2 k j k1 k2)) hr.2⟩
      rw [ite01, le1_iff (pof_rg _ _ _), ← hr.1]
      exact ⟨fun z => z.2.2, fun z => ⟨g2.1, g2.2, z⟩⟩
    · rw [if_neg g, if_neg g]
      by_cases g2 : b = 0 ∧ ¬ 3 < c
      · have ha : ¬ allowP A 21 c := fun z => g ⟨g2.1, (lt4_iff hc).mpr g2.2, fun y => z.elim (fun w => w y.1) (fun w => y.2 (by rw [← e3]; exact w))⟩
        have e : pfF A 21 3 c = (-3, A) := by unfold pfF; rw [if_neg ha]
        rw [if_pos g2, e]
        exact ⟨⟨fun z => absurd z.2.2 (show ¬ ((-3 : Int32) = 0 ∨ (-3 : Int32) = 1) by decide), fun z => absurd rfl z⟩, h⟩
      · rw [if_neg g2]
        exact ⟨⟨fun z => absurd ⟨z.1, z.2.1⟩ g2, fun z => absurd rfl z⟩, h⟩
  rw [if_neg a1, if_neg a1, if_neg a1, if_neg a1]
  by_cases a2 : a = 2
  · rw [if_pos a2, if_pos a2, if_pos a2, if_pos a2]
    have hh := hasX_Y h.1.1 (10 * b + c)
    have e : (hasX A (10 * b + c) ∧ ¬ 3 ≤ A 27 (6 * tn (10 * b + c))) ↔ (hasY B (10 * b + c) ∧ ¬ B 185 (26 + tn (10 * b + c)) = 3) := by
      rw [hh]
      refine and_congr_right (fun y => ?_)
      have hb : brp A 26 (B 185) (tn (10 * b + c)) := hS.1.2.2.1 _ (hY16 h.2.1.1 y).2
      rw [hb.1, ge3 hb.2.1.2]
    refine ⟨by rw [ite01]; exact e, ?_⟩
    by_cases g : hasY B (10 * b + c) ∧ ¬ B 185 (26 + tn (10 * b + c)) = 3
    · rw [if_pos g, if_pos (e.mpr g)]
      have hx := hY16 h.2.1.1 g.1
      refine jR_set h (fun k hk => by unfold tkS; exact addS_row (by omega)) (fun k k1 k2 => funext (fun j => boS_fr hx.2 (Or.inl k1))) ?_
      unfold tkS
      rw [add_9 A 26 _ _ _ 0 0]
      exact SR_add hS hx.2 hx.1 g.2 (Or.inl rfl)
    · rw [if_neg g, if_neg (fun z => g (e.mp z))]; exact h
  rw [if_neg a2, if_neg a2, if_neg a2, if_neg a2]
  by_cases a5 : a = 5
  · have a3 : ¬ a = 3 := by rw [a5]; decide
    have a4 : ¬ a = 4 := by rw [a5]; decide
    rw [if_pos a5, if_pos a5, if_neg a3, if_neg a3, if_neg a4, if_neg a4, if_pos a5, if_pos a5]
    have e : (b = 0 ∧ (¬ c < 0 ∧ ¬ 8 ≤ c)) ↔ (b = 0 ∧ ¬ 7 < c) := by
      rw [ge8_iff hc]
      exact ⟨fun z => ⟨z.1, z.2.2⟩, fun z => ⟨z.1, hc, z.2⟩⟩
    refine ⟨by rw [ite01]; exact e, ?_⟩
    by_cases g : b = 0 ∧ ¬ 7 < c
    · rw [if_pos g, if_pos (e.mpr g)]
      have hx := tn_lt (M := 8) (k := 8) rfl (by decide) hc ((ge8_iff hc).mpr g.2)
      have hW := SR_watch hS hx
      rw [show nI (tn c) = c from (nI_self hc).symm] at hW
      refine jR_set h (fun k hk => up2_row (by omega)) (fun k k1 k2 => up2_row k1) ?_
      rw [up2_q]
      exact hW
    · rw [if_neg g, if_neg (fun z => g (e.mp z))]; exact h
  rw [if_neg a5, if_neg a5, if_neg a5, if_neg a5]
  refine ⟨?_, h⟩
  by_cases a3 : a = 3
  · rw [if_pos a3, if_pos a3, ite01, e4]
  rw [if_neg a3, if_neg a3]
  by_cases a4 : a = 4
  · rw [if_pos a4, if_pos a4, ite01]
    constructor
    · rintro ⟨⟨y1, y2⟩, y3⟩
      refine ⟨(ge4_iff hb).mpr y2, ?_⟩
      rw [← hS.1.1.1 _ (tn_lt (M := 4) (k := 4) rfl (by decide) y1 y2)]
      exact y3
    · rintro ⟨y2, y3⟩
      refine ⟨⟨hb, (ge4_iff hb).mp y2⟩, ?_⟩
      rw [← hS.1.1.1 _ (tn_lt (M := 4) (k := 4) rfl (by decide) hb ((ge4_iff hb).mp y2))] at y3
      exact y3
  rw [if_neg a4, if_neg a4]
  by_cases a6 : a = 6
  · rw [if_pos a6, if_pos a6, ite01, e3]
  rw [if_neg a6, if_neg a6]
  by_cases a7 : a = 7
  · rw [if_pos a7, if_pos a7, ite01, e6]
  rw [if_neg a7, if_neg a7]
  exact ⟨fun z => absurd z id, fun z => absurd rfl z⟩
theorem dv_lN : ∀ (p k : Nat), k < 2 ^ 63 → dvL p (lN k) = lN (k / 1000 ^ p)
  | 0, k, _ => by rw [dvL, Nat.pow_zero, Nat.div_one]
  | p + 1, k, hk => by
    rw [dvL, show (1000 : Int64) = lN 1000 from rfl, pk_lDiv hk (by decide) (by decide), dv_lN p _ (Nat.lt_of_le_of_lt (Nat.div_le_self _ _) hk), Nat.div_div_eq_div_mul, Nat.pow_succ, Nat.mul_comm]
theorem sa_nI {row : Int64} {k p : Nat} (hk : k < 2 ^ 63) (h : row = lN k) : saF row p = nI (k / 1000 ^ p % 1000) := by
  have hd : k / 1000 ^ p < 2 ^ 63 := Nat.lt_of_le_of_lt (Nat.div_le_self _ _) hk
  rw [saF, h, dv_lN p k hk, show (1000 : Int64) = lN 1000 from rfl, pk_lRem hd (by decide) (by decide), lN_32]
theorem jd_rel {row : Int64} {K : Nat} (hK : K < 2 ^ 63) (hr : row = lN K) {Q : Nat} (hQ : Q ≤ 4) : ∀ (m k : Nat) (A B : Nat → Nat → Int32), jR A B → (jdL row Q m k A).1 = (yjL row Q m k B).1 ∧ (∀ a, (a < 21 ∨ 29 ≤ a) → (jdL row Q m k A).2 a = A a) ∧ (∀ a j, a ≠ 185 → a ≠ 191 → (yjL row Q m k B).2 a j = B a j)
  | 0, k, A, B, h => ⟨rfl, fun _ _ => rfl, fun _ _ _ _ => rfl⟩
  | m + 1, k, A, B, h => by
    rw [jdL, yjL]
    have e : saF row (Q - 1 - k) = ydF row (Q - 1 - k) := by rw [sa_nI hK hr, ydF_nI hK hr (by omega)]
    have en := ydF_nI (e := Q - 1 - k) hK hr (by omega)
    have hlt : K / 1000 ^ (Q - 1 - k) % 1000 < 1000 := Nat.mod_lt _ (by decide)
    have hb : ¬ ydB row (Q - 1 - k) < 0 := by unfold ydB; rw [en]; exact dig_nn (by omega)
    have hc : ¬ ydC row (Q - 1 - k) < 0 := by
      unfold ydC; rw [rem_nI (d := 10) (y := 10) en rfl (by omega) (by decide) (by decide)]; exact nI_pos (by omega)
    rw [e]
    obtain ⟨o1, o2⟩ := ho_rel (a := ydA row (Q - 1 - k)) h hb hc
    have fr := (jgS_fr (ydA row (Q - 1 - k)) (ydB row (Q - 1 - k)) (ydC row (Q - 1 - k)) h.2.1 h.2.2.2.2.1).2.2
    by_cases c : jgR B (ydA row (Q - 1 - k)) (ydB row (Q - 1 - k)) (ydC row (Q - 1 - k)) = 0
    · rw [if_pos c, if_neg (fun z => o1.mp z c)]
      exact ⟨rfl, fun a ha => hoS_row ha, fr⟩
    · rw [if_neg c, if_pos (o1.mpr c)]
      obtain ⟨i1, i2, i3⟩ := jd_rel hK hr hQ m (k + 1) _ _ o2
      exact ⟨i1, fun a ha => by rw [i2 a ha]; exact hoS_row ha, fun a j a1 a2 => by rw [i3 a j a1 a2]; exact fr a j a1 a2⟩
theorem pw_4 : ∀ t, t < 5 → pwL (1000 : Int32).toInt64 t 1 = lN (1000 ^ t) ∧ lN (1000 ^ t) - 1 = lN (1000 ^ t - 1) := by decide +kernel
theorem jg_iff {q : Int32} {row : Int64} : (q < 1 ∨ 4 < q ∨ row < 0 ∨ ¬ row < pwL (1000 : Int32).toInt64 (tn q) 1) ↔ ¬ yjP q row := by
  unfold yjP
  by_cases c : inP q 1 4
  · have ht : tn q ≤ 4 := tn_le (M := 4) (k := 4) rfl (by decide) (nn1 c.1) c.2
    obtain ⟨p1, p2⟩ := pw_4 (tn q) (by omega)
    rw [p1, p2]
    by_cases c0 : row < 0
    · exact ⟨fun _ z => z.2.1 c0, fun _ => Or.inr (Or.inr (Or.inl c0))⟩
    · obtain ⟨k, hk, rfl⟩ := pk_lOf c0
      have hp : 1000 ^ tn q ≤ 1000 ^ 4 := Nat.pow_le_pow_right (by decide) ht
      have hpos : 0 < 1000 ^ tn q := Nat.pow_pos (by decide)
      rw [pk_lLT hk (by omega), pk_lLT (by omega) hk]
      constructor
      · rintro (z | z | z | z)
        · exact absurd z c.1
        · exact absurd z c.2
        · exact absurd z c0
        · intro y; exact z (by omega)
      · intro y
        refine Or.inr (Or.inr (Or.inr (fun z => y ⟨c, c0, by omega⟩)))
  · constructor
    · intro _ z; exact c z.1
    · intro _
      by_cases c1 : q < 1
      · exact Or.inl c1
      · exact Or.inr (Or.inl (Decidable.byContradiction (fun z => c ⟨c1, z⟩)))
theorem c_judge {A B : Nat → Nat → Int32} (h : Rel A B) (q : Int32) (row : Int64) : (xjudge A q row).1 = (yjudge B q row).1 ∧ Rel (xjudge A q row).2 (yjudge B q row).2 := by
  unfold xjudge yjudge
  by_cases c : yjP q row
  · rw [if_pos c, if_neg (fun z => jg_iff.mp z c)]
    obtain ⟨k, hk, hr⟩ := pk_lOf c.2.1
    have ht : tn q ≤ 4 := tn_le (M := 4) (k := 4) rfl (by decide) (nn1 c.1.1) c.1.2
    have hj : jR (cpR A 21 13 8) (trS B) := by
      refine ⟨prR_cg (fun k k1 k2 => cpR_row (by omega)) (by rw [trS_ne (by decide)]) (trS_ne (by decide)) (trS_ne (by decide)) (trS_ne (by decide)) h.2.1.1, trS_wfY h.2.1.2.1, by rw [trS_ne (by decide)]; exact h.2.1.2.2, ?_⟩
      rw [trS_185, trS_ne (by decide)]
      exact SR_cp (fun k hk => cpR_in hk) (fun _ _ => rfl) (Rel_S h)
    obtain ⟨o1, o2, o3⟩ := jd_rel hk hr ht (tn q) 0 _ _ hj
    refine ⟨o1, Rel_q (fun k k1 k2 k3 => by rw [o2 k k3, cpR_row (by omega)]) (fun k j hk hj => by rw [o3 k j hk.1 hk.2.1, trS_ne hk.1]) h⟩
  · rw [if_neg c, if_pos (jg_iff.mpr c)]
    exact ⟨rfl, h⟩
