theorem SR_upd {A A' : Nat → Nat → Int32} {s : Nat} {g g' : Nat → Int32} {n : Nat} (h : SR A s g n) (st : stR A' s g' n) (hg : ∀ j, (j = 20 ∨ j = 122 ∨ (26 ≤ j ∧ j < 58)) → g' j = g j) (h5 : A' (s + 1) 5 = 0 ∨ A' (s + 1) 5 = 1) : SR A' s g' n := by
  refine ⟨st, ?_, h5⟩
  unfold wfRo
  rw [hg 20 (by omega), hg 122 (by omega)]
  refine ⟨h.2.1.1, h.2.1.2.1, fun a ha hc => ?_⟩
  rw [hg (26 + a) (by omega)] at hc
  rw [hg (42 + a) (by omega)]
  exact h.2.1.2.2 a ha hc
theorem SR_b8 {A : Nat → Nat → Int32} {s : Nat} {g : Nat → Int32} {n : Nat} (h : SR A s g n) : tn (g 20) ≤ 8 := tn_le (M := 8) (k := 8) rfl (by decide) h.2.1.1.1 h.2.1.1.2
theorem Rel_S {A B : Nat → Nat → Int32} (h : Rel A B) : SR A 13 (B 184) (tn (B 179 2)) := h.2.2.1
theorem nt_13 {A B : Nat → Nat → Int32} (h : Rel A B) {k : Nat} (hk : k < 29) : ntS A k = A k := ntS_row (Rel_WX h) (Or.inl hk)
theorem yn_84 (B : Nat → Nat → Int32) : ynote B 184 = B 184 := ynote_ne (by decide) (by decide)
theorem yn_2 (B : Nat → Nat → Int32) : ynote B 179 2 = B 179 2 := by unfold ynote; rw [up2_ne (Or.inr (by decide)), up2_ne (Or.inr (by decide)), ndK_ne (by decide)]
theorem c_set {A B : Nat → Nat → Int32} (h : Rel A B) (w k v : Int32) : (xset A w k v).1 = (yset B w k v).1 ∧ Rel (xset A w k v).2 (yset B w k v).2 := by
  have hn := Rel_note h
  have hS := Rel_S hn
  have i4 := in_lt (r := k) (M := 4) (K := 3) (k := 3) (by decide) rfl rfl
  have i8 := in_lt (r := k) (M := 8) (K := 7) (k := 7) (by decide) rfl rfl
  have hh := hasX_Y h.2.1.1.1 v
  unfold xset yset
  by_cases w0 : w = 0
  · rw [if_pos w0, if_pos (show inP w 0 2 from by rw [w0]; decide), if_pos w0]
    by_cases c : inP k 0 3
    · have hx := tn_lt (M := 4) (k := 4) rfl (by decide) (i4.mpr c).1 (i4.mpr c).2
      rw [if_pos c, if_pos (i4.mpr c)]
      refine ⟨(Rel_S h).1.1.1 _ hx, Rel_now (fun a a1 a2 => up2_row (by omega)) (fun a a1 a2 a3 => up2_row a2) ?_ hn⟩
      show SR (up2 (ntS A) 15 (tn k) v) 13 (up2 (ynote B) 184 (tn k) v 184) _
      rw [up2_q]
      exact SR_upd hS (stR_reg hS.1 hx v) (fun j hj => by rw [upd_at, if_neg (by omega)]) (by rw [up2_ne (Or.inl (by decide))]; exact hS.2.2)
    · rw [if_neg c, if_neg (fun z => c (i4.mp z))]; exact ⟨rfl, h⟩
  rw [if_neg w0]
  by_cases w1 : w = 1
  · rw [if_pos w1, if_pos (show inP w 0 2 from by rw [w1]; decide), if_neg w0, if_pos w1]
    by_cases c : inP k 0 7
    · have hx := tn_lt (M := 8) (k := 8) rfl (by decide) (i8.mpr c).1 (i8.mpr c).2
      rw [if_pos c, if_pos (i8.mpr c)]
      refine ⟨(Rel_S h).1.1.2.1 _ hx, Rel_now (fun a a1 a2 => up2_row (by omega)) (fun a a1 a2 a3 => up2_row a2) ?_ hn⟩
      show SR (up2 (ntS A) 16 (tn k) v) 13 (up2 (ynote B) 184 (4 + tn k) v 184) _
      rw [up2_q]
      exact SR_upd hS (stR_cell hS.1 hx v) (fun j hj => by rw [upd_at, if_neg (by omega)]) (by rw [up2_ne (Or.inl (by decide))]; exact hS.2.2)
    · rw [if_neg c, if_neg (fun z => c (i8.mp z))]; exact ⟨rfl, h⟩
  rw [if_neg w1]
  by_cases w2 : w = 2
  · rw [if_pos w2, if_pos (show inP w 0 2 from by rw [w2]; decide), if_neg w0, if_neg w1]
    by_cases c : k = 0 ∧ hasY B v
    · rw [if_pos c, if_pos (show k = 0 ∧ hasX A v from ⟨c.1, hh.mpr c.2⟩)]
      refine ⟨(Rel_S h).1.1.2.2.2.2.1, Rel_now (fun a a1 a2 => ?_) (fun a a1 a2 a3 => ?_) ?_ hn⟩
      · show up2 (up2 (ntS A) 14 4 v) 14 5 0 a = _
        rw [up2_row (by omega), up2_row (by omega)]
      · show up2 (up2 (ynote B) 184 21 v) 184 22 0 a = _
        rw [up2_row a2, up2_row a2]
      · show SR (up2 (up2 (ntS A) 14 4 v) 14 5 0) 13 (up2 (up2 (ynote B) 184 21 v) 184 22 0 184) _
        rw [up2_q, up2_q]
        have hb := SR_b8 hS
        exact SR_upd hS (stR_fld (stR_fld hS.1 hb (x := 4) ⟨by decide, by decide⟩ v) (hb_upd hb (by decide)) (x := 5) ⟨by decide, by decide⟩ 0) (fun j hj => by rw [upd_at, if_neg (by omega), upd_at, if_neg (by omega)]) (Or.inl (up2_same _ _ _ _))
    · rw [if_neg c, if_neg (fun z => c ⟨z.1, hh.mp z.2⟩)]; exact ⟨rfl, h⟩
  · have : ¬ inP w 0 2 := fun z => by
      obtain ⟨j, hj, rfl⟩ := nI_of z.1
      have : j ≤ 2 := Nat.le_of_not_lt (fun y => z.2 (nI_lt (a := 2) y hj))
      rcases (show j = 0 ∨ j = 1 ∨ j = 2 by omega) with rfl | rfl | rfl
      · exact w0 rfl
      · exact w1 rfl
      · exact w2 rfl
    rw [if_neg w2, if_neg this]
    exact ⟨rfl, h⟩
theorem wx_ok : ∀ w, w < 256 → ∀ k, k < 8 → tn (nI w ^^^ ((1 : Int32) <<< (nI k &&& 31))) < 256 ∧ nI w ^^^ ((1 : Int32) <<< (nI k &&& 31)) = nI (tn (nI w ^^^ ((1 : Int32) <<< (nI k &&& 31)))) ∧ (if ((nI w ^^^ ((1 : Int32) <<< (nI k &&& 31))) >>> (nI k &&& 31)) &&& 1 = 1 then (1 : Int32) else 0) = ((nI w ^^^ ((1 : Int32) <<< (nI k &&& 31))) >>> (nI k &&& 31)) &&& 1 := by decide +kernel
theorem SR_watch {A : Nat → Nat → Int32} {s : Nat} {g : Nat → Int32} {n : Nat} (h : SR A s g n) {k : Nat} (hk : k < 8) : SR (up2 A s 4 (A s 4 ^^^ ((1 : Int32) <<< (nI k &&& 31)))) s (upd g 25 (g 25 ^^^ ((1 : Int32) <<< (nI k &&& 31)))) n := by
  obtain ⟨w, hw, hw2⟩ := h.1.2.2.2.2.2
  have e4 : A s 4 = g 25 := h.1.2.2.2.2.1.1
  obtain ⟨o1, o2, -⟩ := wx_ok w hw k hk
  rw [e4]
  refine SR_upd h (stR_watch h.1 (SR_b8 h) o1 (by rw [hw2]; exact o2)) (fun j hj => by rw [upd_at, if_neg (by omega)]) ?_
  rw [up2_ne (Or.inl (by omega))]
  exact h.2.2
theorem c_watch {A B : Nat → Nat → Int32} (h : Rel A B) (m : Int32) : (xwatch A m).1 = (ywatch B m).1 ∧ Rel (xwatch A m).2 (ywatch B m).2 := by
  have hn := Rel_note h
  have hS := Rel_S hn
  have i8 := in_lt (r := m) (M := 8) (K := 7) (k := 7) (by decide) rfl rfl
  unfold xwatch ywatch
  by_cases c : inP m 0 7
  · rw [if_pos c, if_pos (i8.mpr c)]
    have hx := tn_lt (M := 8) (k := 8) rfl (by decide) (i8.mpr c).1 (i8.mpr c).2
    have em : m = nI (tn m) := nI_self c.1
    have hW := SR_watch hS hx
    rw [← em, yn_84] at hW
    have e4 : ntS A 13 4 = B 184 25 := by rw [nt_13 h (by decide)]; exact (Rel_S h).1.2.2.2.2.1.1
    refine ⟨?_, Rel_now (fun a a1 a2 => ?_) (fun a a1 a2 a3 => ?_) ?_ hn⟩
    · show (if isWP (wtS A m) 13 m then (1 : Int32) else 0) = _
      obtain ⟨w, hw, hw2⟩ := (Rel_S h).1.2.2.2.2.2
      obtain ⟨-, -, o3⟩ := wx_ok w hw _ hx
      rw [← em, ← hw2] at o3
      have e : isWP (wtS A m) 13 m ↔ ((B 184 25 ^^^ ((1 : Int32) <<< (m &&& 31))) >>> (m &&& 31)) &&& 1 = 1 := by
        unfold isWP wtS
        rw [up2_same, e4]
        exact ⟨fun z => z.2, fun z => ⟨i8.mpr c, z⟩⟩
      by_cases z : ((B 184 25 ^^^ ((1 : Int32) <<< (m &&& 31))) >>> (m &&& 31)) &&& 1 = 1
      · rw [if_pos (e.mpr z)]
        rw [if_pos z] at o3
        exact o3
      · rw [if_neg (fun y => z (e.mp y))]
        rw [if_neg z] at o3
        exact o3
    · show up2 (ntS A) 13 4 _ a = _
      exact up2_row (by omega)
    · show up2 (ynote B) 184 25 _ a = _
      exact up2_row a2
    · show SR (up2 (ntS A) 13 4 _) 13 (up2 (ynote B) 184 25 _ 184) _
      rw [up2_q, yn_84]
      exact hW
  · rw [if_neg c, if_neg (fun z => c (i8.mp z))]; exact ⟨rfl, h⟩
/-- a change of the breakpoints alone -/
theorem SR_brk {A A' : Nat → Nat → Int32} {s : Nat} {g g' : Nat → Int32} {n : Nat} (h : SR A s g n) (hA : ∀ k, k < 8 → k ≠ 6 → A' (s + k) = A (s + k)) (hg : ∀ j, (j < 26 ∨ 122 ≤ j) → g' j = g j) (hb : brR A' (s + 5) g') (hz : brN n g') (hr : ∀ a, a < 16 → ¬ g' (26 + a) = 0 → (g' (42 + a) = -9 ∨ (¬ g' (42 + a) < 0 ∧ ¬ 4 ≤ g' (42 + a)))) : SR A' s g' n := by
  obtain ⟨⟨hm, hcy, -, -, ⟨e4, e5, e6⟩, w, hw, hw2⟩, hwf, h5⟩ := h
  have h0 : A' s = A s := hA 0 (by omega) (by omega)
  have hb8 := tn_le (M := 8) (k := 8) rfl (by decide) hwf.1.1 hwf.1.2
  refine ⟨⟨mcR_cg (fun a a1 a2 => ?_) (mcR_g (fun j hj => hg j (by omega)) hb8 hm), cyR_cg (by rw [h0]) (hA 7 (by omega) (by omega)) (fun j h1 h2 => hg j (by omega)) hcy, hb, hz, ⟨?_, ?_, ?_⟩, w, hw, by rw [hg 25 (by omega)]; exact hw2⟩, ⟨?_, ?_, hr⟩, ?_⟩
  · obtain ⟨k, rfl⟩ : ∃ k, a = s + k := ⟨a - s, by omega⟩
    exact hA k (by omega) (by omega)
  · rw [h0, hg 25 (by omega)]; exact e4
  · rw [h0, hg 126 (by omega)]; exact e5
  · rw [h0, hg 127 (by omega)]; exact e6
  · rw [hg 20 (by omega)]; exact hwf.1
  · rw [hg 122 (by omega)]; exact hwf.2.1
  · rw [hA 1 (by omega) (by omega)]; exact h5
theorem SR_add {A : Nat → Nat → Int32} {s : Nat} {B : Nat → Nat → Int32} {q n : Nat} (h : SR A s (B q) n) {x : Nat} (hx : x < 16) (hxn : x < n) (h3 : ¬ B q (26 + x) = 3) {r how f b : Int32} (hr : r = -9 ∨ (¬ r < 0 ∧ ¬ 4 ≤ r)) : SR (addS A (s + 5) x r how f b) s (boS B q x r how f b q) n := by
  have hbr := brR_add h.1.2.2.1 hx h3 (how := how) (f := f) (by_ := b) hr
  have e : boS B q x r how f b q = upd (upd (upd (upd (upd (upd (B q) (106 + x) (if 0 < B q (26 + x) then B q (106 + x) else 0)) (26 + x) (B q (26 + x) + 1)) (42 + x) r) (58 + x) how) (74 + x) f) (90 + x) b := by
    unfold boS; rw [up2_q, up2_q, up2_q, up2_q, up2_q, up2_q]
  refine SR_brk h (fun k k1 k2 => addS_row (by omega)) (fun j hj => boS_fr hx (Or.inr hj)) (by rw [e]; exact hbr) (fun p p1 p2 => ?_) (boS_wfR hx hr h.2.1).2.2
  rw [e, upd_at, if_neg (by omega), upd_at, if_neg (by omega), upd_at, if_neg (by omega), upd_at, if_neg (by omega), upd_at, if_neg (by omega), upd_at, if_neg (by omega)]
  exact h.1.2.2.2.1 p p1 p2
theorem ge3 {x : Int32} (h : ¬ 3 < x) : 3 ≤ x ↔ x = 3 := ⟨fun w => Int32.le_antisymm (Int32.not_lt.mp h) w, fun e => by rw [e]; exact Int32.le_refl _⟩
theorem fit_iff {r how f b : Int32} : (fitC r how f ∧ ¬ b < 0 ∧ b ≤ 9) ↔ fitY r how f b := by
  have i4 := in_lt (r := r) (M := 4) (K := 3) (k := 3) (by decide) rfl rfl
  unfold fitC fitY
  rw [i4]
  constructor
  · rintro ⟨h1, h2, h3⟩
    exact ⟨h1.imp id (fun z => ⟨z.1, ⟨z.2.1, z.2.2.1⟩, z.2.2.2.1, z.2.2.2.2⟩), h2, Int32.not_lt.mpr h3⟩
  · rintro ⟨h1, h2, h3⟩
    exact ⟨h1.imp id (fun z => ⟨z.1, z.2.1.1, z.2.1.2, z.2.2.1, z.2.2.2⟩), h2, Int32.not_lt.mp h3⟩
theorem c_smash {A B : Nat → Nat → Int32} (h : Rel A B) (p r how f b : Int32) : (xsmash A p r how f b).1 = (ysmash B p r how f b).1 ∧ Rel (xsmash A p r how f b).2 (ysmash B p r how f b).2 := by
  have hn := Rel_note h
  have hS := Rel_S hn
  have hh := hasX_Y h.2.1.1.1 p
  unfold xsmash ysmash
  by_cases c : hasY B p
  · rw [if_pos c, if_pos (hh.mpr c)]
    have hx := hY16 h.2.1.2.1.1 c
    have hb : brp A 18 (B 184) (tn p) := (Rel_S h).1.2.2.1 _ hx.2
    by_cases cf : fitY r how f b
    · rw [if_pos cf, if_pos (fit_iff.mpr cf), hb.1]
      by_cases c3 : B 184 (26 + tn p) = 3
      · rw [if_pos c3, if_pos ((ge3 hb.2.1.2).mpr c3)]; exact ⟨rfl, h⟩
      · rw [if_neg c3, if_neg (fun z => c3 ((ge3 hb.2.1.2).mp z))]
        refine ⟨rfl, Rel_now (fun a a1 a2 => addS_row (by omega)) (fun a a1 a2 a3 => funext (fun j => boS_fr hx.2 (Or.inl a2))) ?_ hn⟩
        have i4 := in_lt (r := r) (M := 4) (K := 3) (k := 3) (by decide) rfl rfl
        exact SR_add hS hx.2 (by rw [yn_2]; exact hx.1) (by rw [yn_84]; exact c3) (cf.1.imp id (fun z => i4.mpr z.1))
    · rw [if_neg cf, if_neg (fun z => cf (fit_iff.mp z))]; exact ⟨rfl, h⟩
  · rw [if_neg c, if_neg (fun z => c (hh.mp z))]; exact ⟨rfl, h⟩
theorem remS_row {S : Nat → Nat → Int32} {q p k : Nat} (h : k ≠ q + 1) : remS S q p k = S k := by
  unfold remS
  by_cases c : 1 < S (q + 1) (6 * p)
  · rw [if_pos c, up2_row h]
  · rw [if_neg c]; unfold disS; rw [row_up h]
theorem c_lift {A B : Nat → Nat → Int32} (h : Rel A B) (p : Int32) : (xlift A p).1 = (ylift B p).1 ∧ Rel (xlift A p).2 (ylift B p).2 := by
  have hn := Rel_note h
  have hS := Rel_S hn
  have hh := hasX_Y h.2.1.1.1 p
  unfold xlift ylift
  by_cases c : hasY B p
  · rw [if_pos c, if_pos (hh.mpr c)]
    have hx := hY16 h.2.1.2.1.1 c
    have ha := arm_rel (t := p) h.2.1.2.1.1 rfl (Rel_S h).1.2.2.1 (Rel_S h).1.2.2.2.1
    by_cases c0 : B 184 (26 + tn p) = 0
    · rw [if_pos c0, if_neg (fun z => (ha.mp z).2 c0)]; exact ⟨rfl, h⟩
    · rw [if_neg c0, if_pos (ha.mpr ⟨c, c0⟩)]
      have hbr := brR_lift hS.1.2.2.1 hx.2 (by rw [yn_84]; exact c0)
      rw [yn_84] at hbr
      have e0 : remS (ntS A) 18 (tn p) 19 (6 * tn p) = B 184 (26 + tn p) - 1 := by
        have := (hbr _ hx.2).1
        rw [upd_at, if_pos rfl] at this
        exact this
      refine ⟨e0, Rel_now (fun a a1 a2 => remS_row (by omega)) (fun a a1 a2 a3 => up2_row a2) ?_ hn⟩
      show SR (remS (ntS A) 18 (tn p)) 13 (up2 (ynote B) 184 (26 + tn p) _ 184) _
      rw [up2_q, yn_84]
      rw [yn_84] at hS
      refine SR_brk hS (fun k k1 k2 => remS_row (by omega)) (fun j hj => by rw [upd_at, if_neg (by omega)]) hbr (fun a a1 a2 => ?_) (fun a a1 a2 => ?_)
      · rw [yn_2] at a1
        rw [upd_at, if_neg (by omega)]
        exact (Rel_S h).1.2.2.2.1 a a1 a2
      · rw [upd_at, if_neg (by omega)]
        refine hS.2.1.2.2 a a1 (fun z => ?_)
        rw [upd_at] at a2
        by_cases y : a = tn p
        · rw [y] at z; exact c0 z
        · rw [if_neg (by omega)] at a2; exact a2 z
  · rw [if_neg c, if_neg (fun z => c (hh.mp z))]; exact ⟨rfl, h⟩
/-- a plan on a state and on its row -/
theorem pf_rel {A B : Nat → Nat → Int32} {s q n : Nat} (hq : shp q = (11, 128)) (hd : 3 + 5 ≤ s ∨ s + 8 ≤ 3) (hp : prR A 3 B) (hY : wfY B) (hi : B 179 17 = -9) (hn : tn (B 179 2) = n) (h : SR A s (B q) n) (k : Int32) (ha : allowP A s k) : (pfF A s 3 k).1 = (poF B q k).1 ∧ SR (pfF A s 3 k).2 s ((poF B q k).2 q) n := by
  have e5 : A (s + 1) 5 = B q 22 := h.1.1.2.2.2.2.2.1
  have e3 : A (s + 1) 3 = B q 20 := h.1.1.2.2.2.1
  have hwf : wfS A s 3 := ⟨(SR_wfSt h).1, (SR_wfSt h).2, prR_wfP hp hY⟩
  have hw2 := pfF_wf (plan := k) hd hwf
  have hR2 := (poF_fr hq k hY h.2.1).2.1
  have main : (pfF A s 3 k).1 = (poF B q k).1 ∧ stR (pfF A s 3 k).2 s ((poF B q k).2 q) n := by
    unfold pfF poF
    rw [if_pos ha]
    by_cases c : A (s + 1) 5 = 0
    · rw [if_pos c, if_neg (show ¬ B q 22 = 1 from fun z => by rw [← e5, c] at z; revert z; decide), e3]
      exact plan_rel hq hd k _ 99 1 A B rfl hp h.1 hY h.2.1 hi hn hwf
    · rw [if_neg c, if_pos (show B q 22 = 1 from by rw [← e5]; exact h.2.2.resolve_left c)]
      exact ⟨rfl, h.1⟩
  exact ⟨main.1, main.2, hR2, hw2.1.2.2⟩
theorem c_plan {A B : Nat → Nat → Int32} (h : Rel A B) (k : Int32) : (xplan A k).1 = (yplan B k).1 ∧ Rel (xplan A k).2 (yplan B k).2 := by
  have hn := Rel_note h
  have hS := Rel_S hn
  unfold xplan yplan
  by_cases c : inP k 0 3
  · rw [if_pos c, if_neg (fun w => w.elim c.1 (fun z => c.2 (Int32.not_le.mp z)))]
    have e3 : A 14 3 = B 184 20 := (Rel_S h).1.1.2.2.2.1
    have z0 := pos_ne (Rel_S h).2.1.1.1
    by_cases c2 : k = 2 ∧ B 184 20 = 0
    · rw [if_pos c2, if_neg (show ¬ allowP A 13 k from fun z => z.elim (fun y => y c2.1) (fun y => by rw [show A (13 + 1) 3 = B 184 20 from e3] at y; exact z0.mp y c2.2))]
      exact ⟨rfl, h⟩
    · have ha : allowP A 13 k := by
        by_cases y : k = 2
        · exact Or.inr (by rw [show A (13 + 1) 3 = B 184 20 from e3]; exact z0.mpr (fun z => c2 ⟨y, z⟩))
        · exact Or.inl y
      have ha2 : allowP (ntS A) 13 k := by unfold allowP; rw [nt_13 h (by decide)]; exact ha
      rw [if_neg c2, if_pos ha]
      have hr := pf_rel (n := tn (ynote B 179 2)) sh_184 (Or.inl (by decide)) hn.2.1.1 hn.2.1.2.1 hn.2.1.2.2 rfl hS k ha2
      refine ⟨hr.1, Rel_now (fun a a1 a2 => pfF_row (by omega)) (fun a a1 a2 a3 => funext (fun j => (poF_fr sh_184 k hn.2.1.2.1 hS.2.1).2.2 a j a2 a3)) hr.2 hn⟩
  · rw [if_neg c, if_pos (Decidable.byContradiction (fun w => c ⟨fun z => w (Or.inl z), fun z => w (Or.inr (Int32.not_le.mpr z))⟩))]
    exact ⟨rfl, h⟩
