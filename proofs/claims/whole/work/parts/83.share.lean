theorem ms_rw (len : Nat) : ∀ (m k : Nat) (S : Nat → Nat → Int32) (a : Nat), a ≠ 160 → a ≠ 162 → msL len m k S a = S a
  | 0, _, _, _, _, _ => rfl
  | m + 1, k, S, a, h1, h2 => by rw [msL, ms_rw len m (k + 1) _ a h1 h2, up2_row h2, vaF_row h1]
theorem meS_rw {A : Nat → Nat → Int32} {a : Nat} (h : a < 153 ∨ 163 ≤ a) : meS A a = A a := by
  unfold meS
  rw [ms_rw _ _ _ _ _ (by omega) (by omega), fwG_rw (by omega) (by omega) (by omega), lsF_row (by omega) (by omega) (by omega)]
theorem ms_val {A B : Nat → Nat → Int32} {pl : Nat → Nat} (h : Rel A B) (h6 : (lpF B).1 ≤ 6) (hp : plR A B pl) {S0 : Nat → Nat → Int32} (hS : goS B pl S0) : ∀ (m k : Nat) (S : Nat → Nat → Int32), S 159 = fwG A 159 → S 161 = fwG A 161 → (∀ j, j < k → S 162 j = nI (sbF S0 (nI j) (lpF B).1).1) → ∀ j, j < k + m → msL (lnF A) m k S 162 j = nI (sbF S0 (nI j) (lpF B).1).1
  | 0, k, S, _, _, hv, j, hj => hv j (by omega)
  | m + 1, k, S, h9, h1, hv, j, hj => by
    rw [msL]
    refine ms_val h h6 hp hS m (k + 1) _ (by rw [up2_row (by decide), vaF_row (by decide)]; exact h9) (by rw [up2_row (by decide), vaF_row (by decide)]; exact h1) (fun i hi => ?_) j (by omega)
    rw [up2_q, upd_at]
    by_cases z : i = k
    · rw [if_pos z, z, val_rel h h6 hp hS h9 h1]
    · rw [if_neg z, vaF_row (by decide)]; exact hv i (by omega)
/-- what the counting of stops leaves as it was -/
theorem sbF_go {B S : Nat → Nat → Int32} {pl : Nat → Nat} {A : Nat → Nat → Int32} (h : Rel A B) (h6 : (lpF B).1 ≤ 6) (hp : plR A B pl) (hS : goS B pl S) (set : Int32) : wfY S ∧ wfR S 184 ∧ plP S (lpF B).1 ∧ goS B pl (sbF S set (lpF B).1).2 ∧ (sbF S set (lpF B).1).1 ≤ 20 ∧ ∀ k a, k ≠ 185 → k ≠ 191 → (sbF S set (lpF B).1).2 k a = S k a := by
  have hq := pl_Q hp h6
  have rS : ∀ k, (k = 181 ∨ k = 182 ∨ k = 183 ∨ k = 184) → S k = B k := fun k hk => funext (fun j => hS.1 k j (by omega))
  have hYS : wfY S := wfY_of (hS.1 179 2 (by omega)) (fun k hk => rS k (by omega)) h.2.1.2.1
  have hRS : wfR S 184 := wfR_row (rS 184 (by omega)) (Rel_wfR h)
  have hpS : plP S (lpF B).1 := fun j hj => by
    rw [hS.2 j hj, tn_nI (by have := (hq.2.1 j hj).1; omega)]
    exact ⟨nI_pos (by have := (hq.2.1 j hj).1; omega), (hq.2.1 j hj).1⟩
  obtain ⟨f1, f2, f3⟩ := sbF_fr set hYS hRS hpS
  exact ⟨hYS, hRS, hpS, ⟨fun k j hk => by rw [f3 k j (by omega) (by omega)]; exact hS.1 k j hk, fun j hj => by rw [f3 192 j (by decide) (by decide)]; exact hS.2 j hj⟩, f1, f3⟩
theorem sb_eq {A B S S' : Nat → Nat → Int32} {pl : Nat → Nat} (h : Rel A B) (h6 : (lpF B).1 ≤ 6) (hp : plR A B pl) (hS : goS B pl S) (hS' : goS B pl S') (set : Int32) : (sbF S set (lpF B).1).1 = (sbF S' set (lpF B).1).1 := by
  rw [← val_rel h h6 hp hS (V := fwG A) rfl rfl set, val_rel h h6 hp hS' rfl rfl set]
theorem sw_val {A B : Nat → Nat → Int32} {pl : Nat → Nat} (h : Rel A B) (h6 : (lpF B).1 ≤ 6) (hp : plR A B pl) {S0 : Nat → Nat → Int32} (hS0 : goS B pl S0) : ∀ (m k : Nat) (S : Nat → Nat → Int32), goS B pl S → (∀ j, j < k → S 193 j = nI (sbF S0 (nI j) (lpF B).1).1) → (∀ j, j < k + m → swL (lpF B).1 m k S 193 j = nI (sbF S0 (nI j) (lpF B).1).1) ∧ ∀ q a, q ≠ 185 → q ≠ 191 → q ≠ 193 → swL (lpF B).1 m k S q a = S q a
  | 0, k, S, _, hv => ⟨fun j hj => hv j (by omega), fun _ _ _ _ _ => rfl⟩
  | m + 1, k, S, hS, hv => by
    rw [swL]
    obtain ⟨g1, g2, g3, g4, g5, g6⟩ := sbF_go h h6 hp hS (nI k)
    have hS' : goS B pl (swA (lpF B).1 k S) := ⟨fun q j hq => by unfold swA; rw [up2_ne (Or.inl (by omega))]; exact g4.1 q j hq, fun j hj => by unfold swA; rw [up2_row (by decide)]; exact g4.2 j hj⟩
    obtain ⟨i1, i2⟩ := sw_val h h6 hp hS0 m (k + 1) (swA (lpF B).1 k S) hS' (fun j hj => by
      unfold swA
      rw [up2_q, upd_at]
      by_cases z : j = k
      · rw [if_pos z, z, sb_eq h h6 hp hS hS0]
      · rw [if_neg z, g6 193 j (by decide) (by decide)]; exact hv j (by omega))
    refine ⟨fun j hj => i1 j (by omega), fun q a q1 q2 q3 => ?_⟩
    rw [i2 q a q1 q2 q3]
    unfold swA
    rw [up2_ne (Or.inl q3), g6 q a q1 q2]
theorem bit_iff : ∀ k, k < 64 → ∀ a, a < 6 → (nI k &&& nI (2 ^ a) = 0 ↔ ¬ (nI k >>> (nI a &&& 31)) &&& 1 = 1) := by decide +kernel
theorem wg_sg {A B : Nat → Nat → Int32} {c at_ : Nat} (hc : c ≤ 6) (ha : at_ < c) (h7 : A 153 7 = nI c) (hv : ∀ j, j < 2 ^ c → A 162 j = B 193 j) : ∀ (m k : Nat) (s : Int32), k + m ≤ 2 ^ c → wgL A (2 ^ at_) m k s = sgL B c at_ m k s
  | 0, k, s, _ => rfl
  | m + 1, k, s, hk => by
    have h64 := pow6 hc
    rw [wgL, sgL]
    have eT : wgT A (2 ^ at_) k = sgT B c at_ k := by
      unfold wgT sgT
      rw [h7, hv k (by omega), hv (k ||| 2 ^ at_) (or_lt (by omega) ha), bc_on k (by omega)]
    by_cases z : (nI k >>> (nI at_ &&& 31)) &&& 1 = 1
    · rw [if_pos z, if_neg (fun w => (bit_iff k (by omega) at_ (by omega)).mp w z)]
      exact wg_sg hc ha h7 hv m (k + 1) s (by omega)
    · rw [if_neg z, if_pos ((bit_iff k (by omega) at_ (by omega)).mpr z), eT]
      exact wg_sg hc ha h7 hv m (k + 1) _ (by omega)
theorem sg_of {S : Nat → Nat → Int32} {c at_ : Nat} (hc : c < 7) (ha : at_ < c) (hw : woP S (2 ^ c)) : ∀ (m k : Nat) (s : Int32) (z : Int), k + m ≤ 2 ^ c → s = Int32.ofInt z → z.natAbs ≤ k * 10368000 → ∃ z' : Int, z'.natAbs ≤ (k + m) * 10368000 ∧ sgL S c at_ m k s = Int32.ofInt z'
  | 0, k, s, z, _, e, hz => ⟨z, hz, e⟩
  | m + 1, k, s, z, hk, e, hz => by
    rw [sgL, show k + (m + 1) = k + 1 + m by omega]
    by_cases w : (nI k >>> (nI at_ &&& 31)) &&& 1 = 1
    · rw [if_pos w]
      exact sg_of hc ha hw m (k + 1) s z (by omega) e (Nat.le_trans hz (Nat.mul_le_mul_right _ (Nat.le_succ k)))
    · rw [if_neg w]
      obtain ⟨t, t1, t2⟩ := sgT_of hc ha (show k < 2 ^ c by omega) hw
      refine sg_of hc ha hw m (k + 1) _ (z + t) (by omega) (by rw [e, t2, Int32.ofInt_add]) ?_
      have := Int.natAbs_add_le z t
      omega
theorem fc_6 : ∀ c, c < 7 → ∃ y, 0 < y ∧ y ≤ 1000000 ∧ fcL (c - 1) 2 1 = nI y := by
  intro c hc
  rcases (show c = 0 ∨ c = 1 ∨ c = 2 ∨ c = 3 ∨ c = 4 ∨ c = 5 ∨ c = 6 by omega) with rfl | rfl | rfl | rfl | rfl | rfl | rfl
  · exact ⟨1, by decide, by decide, by decide⟩
  · exact ⟨1, by decide, by decide, by decide⟩
  · exact ⟨2, by decide, by decide, by decide⟩
  · exact ⟨6, by decide, by decide, by decide⟩
  · exact ⟨24, by decide, by decide, by decide⟩
  · exact ⟨120, by decide, by decide, by decide⟩
  · exact ⟨720, by decide, by decide, by decide⟩
theorem lp_go {A B : Nat → Nat → Int32} {pl : Nat → Nat} (h : Rel A B) (hp : plR A B pl) : goS B pl (lpF B).2 := ⟨fun k j hk => by rw [(lpF_fr h.2.1.2.1.1).2 k (by omega)], fun j hj => (hp.2.1 j hj).2.2.1⟩
theorem Rel_lp {A B : Nat → Nat → Int32} (h : Rel A B) : Rel A (lpF B).2 := Rel_q (fun _ _ _ _ => rfl) (fun k j hk _ => by rw [(lpF_fr h.2.1.2.1.1).2 k hk.2.2.1]) h
theorem c_share {A B : Nat → Nat → Int32} (h : Rel A B) (p up : Int32) : (xshare A p up).1 = (yshare B p up).1 ∧ Rel (xshare A p up).2 (yshare B p up).2 := by
  have hh := hasX_Y h.2.1.1.1 p
  unfold xshare yshare
  by_cases c : hasY B p
  · rw [if_pos c, if_pos (hh.mpr c)]
    have hx := hY16 h.2.1.2.1.1 c
    have ha := arm_rel (t := p) h.2.1.2.1.1 rfl (Rel_S h).1.2.2.1 (Rel_S h).1.2.2.2.1
    by_cases g : ¬ B 184 (26 + tn p) = 0 ∧ (lpF B).1 ≤ 6
    · rw [if_pos g, if_pos (show armP A 18 p ∧ bcF (armSetF A 18) ≤ 6 from ⟨ha.mpr ⟨c, g.1⟩, (bc_le h).mpr g.2⟩)]
      obtain ⟨pl, hp⟩ := pl_rel h g.2
      have hq := pl_Q hp g.2
      have hct := pl_ct hp g.2
      have hb : brp A 18 (B 184) (tn p) := (Rel_S h).1.2.2.1 _ hx.2
      obtain ⟨j, hj, ej⟩ := hq.2.2.2 _ hx.2 ((pos_ne hb.2.1.1).mpr g.1)
      have et : p = nI (pl j) := by rw [ej]; exact nI_self c.1
      have hgo := lp_go h hp
      have hneq : ∀ i, i < (lpF B).1 → nI (pl i) = nI (pl j) → i = j := fun i hi w => hq.2.2.1 i j hi hj ((nI_eq (by have := (hq.2.1 i hi).1; omega) (by have := (hq.2.1 j hj).1; omega)).mp w)
      have m58 : meS A 158 = lsF A 158 := by unfold meS; rw [ms_rw _ _ _ _ _ (by decide) (by decide), fwG_rw (by decide) (by decide) (by omega)]
      have m7 : meS A 153 7 = nI (lpF B).1 := by unfold meS; rw [ms_rw _ _ _ _ _ (by decide) (by decide), fwG_7]; exact hp.1
      have hix : ixL (meS A) p (lpF B).1 0 = nI j := by
        rw [et]
        refine ix_at _ 0 j (by omega) (by omega) (by rw [m58]; exact (hp.2.1 j hj).1) (fun i _ hi w => ?_)
        rw [m58, (hp.2.1 i (by omega)).1] at w
        have := hneq i (by omega) w
        omega
      have hsh : shA (lpF B).2 p (lpF B).1 0 0 = j := by
        rw [et]
        refine sh_at _ 0 j 0 (by omega) (by omega) (hp.2.1 j hj).2.2.1 (fun i _ hi w => ?_)
        rw [(hp.2.1 i (by omega)).2.2.1] at w
        exact hneq i (by omega) w
      have v1 : ∀ i, i < 2 ^ (lpF B).1 → meS A 162 i = nI (sbF (lpF B).2 (nI i) (lpF B).1).1 := fun i hi => by
        unfold meS
        rw [hct]
        exact ms_val h g.2 hp hgo _ 0 (fwG A) rfl rfl (fun i hi => absurd hi (by omega)) i (by omega)
      obtain ⟨v2, v3⟩ := sw_val h g.2 hp hgo (2 ^ (lpF B).1) 0 (lpF B).2 hgo (fun i hi => absurd hi (by omega))
      have hwo : woP (yshW B) (2 ^ (lpF B).1) := fun i hi => ⟨_, (sbF_go h g.2 hp hgo (nI i)).2.2.2.2.1, v2 i (by omega)⟩
      have hwg : wgF (meS A) (ctF A) p = sgL (yshW B) (lpF B).1 (shA (lpF B).2 p (lpF B).1 0 0) (2 ^ (lpF B).1) 0 0 := by
        unfold wgF
        rw [hct, hix, if_pos (nI_pos' (by have := hq.1; omega)), tn_nI (by have := hq.1; omega), hsh]
        exact wg_sg g.2 hj m7 (fun i hi => by rw [v1 i hi]; exact (v2 i (by omega)).symm) _ 0 0 (by omega)
      refine ⟨?_, Rel_q (fun k k1 k2 k3 => meS_rw (by omega)) (fun k a hk _ => by show yshW B k a = B k a; rw [show yshW B k a = _ from v3 k a hk.1 hk.2.1 hk.2.2.2.1, (lpF_fr h.2.1.2.1.1).2 k hk.2.2.1]) h⟩
      show ptF (wgF (meS A) (ctF A) p) (fcL (ctF A - 1) 2 1) up = frX (sgL (yshW B) (lpF B).1 (shA (lpF B).2 p (lpF B).1 0 0) (2 ^ (lpF B).1) 0 0) (fcL (tn (nI (lpF B).1) - 1) 2 1) up
      rw [hwg, hct, tn_nI (by have := g.2; omega)]
      obtain ⟨y, y1, y2, y3⟩ := fc_6 (lpF B).1 (by have := g.2; omega)
      have hat : shA (lpF B).2 p (lpF B).1 0 0 < (lpF B).1 := by rw [hsh]; exact hj
      obtain ⟨z, z1, z2⟩ := sg_of (S := yshW B) (by have := g.2; omega) hat hwo (2 ^ (lpF B).1) 0 0 0 (by omega) rfl (by decide)
      refine pt_fr up (by rw [z2]; exact of_ne (by have := pow6 g.2; omega)) y3 y1 y2
    · rw [if_neg g, if_neg (show ¬ (armP A 18 p ∧ bcF (armSetF A 18) ≤ 6) from fun w => g ⟨(ha.mp w.1).2, (bc_le h).mp w.2⟩)]
      exact ⟨rfl, Rel_lp h⟩
  · rw [if_neg c, if_neg (fun z => c (hh.mp z))]; exact ⟨rfl, h⟩
