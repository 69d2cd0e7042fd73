theorem ad_tn (c : Nat) {y : Int32} (h : ¬ y < 0) : nI c + y = nI (c + tn y) := by rw [← nI_add, ← nI_self h]
set_option maxRecDepth 100000 in
set_option maxHeartbeats 4000000 in
theorem l_X10_clear (G : GT) (S : Nat → Nat → Int32) (L : Nat → Int64) (q : Nat) (hq : shp q = (11, 128)) : ∀ (m p : Nat), 128 - p = m → p ≤ 128 → sv_V G R_X10_clear RX10 "clear" cX10_clear 2 none (sPo G R_X10_clear none (va_up S q (fun _ => 0)) L) 0 0 197 (CF G (fillS S q 0 p) L) 2 [(1, .int (nI p)), (0, .ref (gB G + q))] [] := by
  intro m
  induction m using Nat.strongRecOn
  rename_i m ih
  intro p hm hp
  refine sv_iload_n 0 dX10_clear_2 rfl ?_
  refine sv_sipush (v := 128) dX10_clear_3 (by decide) ?_
  refine sv_icmp_ge (tgt := 19) dX10_clear_6 (by decide) (fun c6 => ?_) (fun c6 => ?_)
  · -- jump
    obtain rfl : p = 128 := by have := (nI_leI (a := 128) (b := p) (by omega) (by omega)).mp c6; omega
    exact se_vret rfl ⟨rfl, rfl⟩ dX10_clear_19 (fillS_all hq)
  · -- fall
    have h7 : p < 128 := Nat.lt_of_not_le (fun z => c6 (nI_le (a := 128) z (by omega)))
    refine sv_aload_n 1 dX10_clear_9 rfl ?_
    refine sv_iload_n 0 dX10_clear_10 rfl ?_
    refine sv_iconst (v := 0) dX10_clear_11 (by decide) ?_
    refine sx_ist hq p rfl (by omega) dX10_clear_12 ?_
    refine sv_eqS (fillS_s S q 0 p) ?_
    refine sv_iinc 0 (ls' := [(1, _), (0, _)]) dX10_clear_13 rfl (nI_1 _) (by decide) rfl ?_
    refine sv_goto (tgt := 2) dX10_clear_16 (by decide) ?_
    exact ih (128 - (p + 1)) (by omega) (p + 1) rfl (by omega)
set_option maxRecDepth 100000 in
set_option maxHeartbeats 4000000 in
theorem e_X10_clear (G : GT) (S : Nat → Nat → Int32) (L : Nat → Int64) (q : Nat) (hq : shp q = (11, 128)) : sE G yX10_clear R_X10_clear cX10_clear 2 none [.ref (gB G + q)] S L none (va_up S q (fun _ => 0)) L := by
  refine sE.of (by decide) (Nat.le_of_ble_eq_true rfl) ?_
  show sv_V G R_X10_clear RX10 "clear" cX10_clear 2 none (sPo G R_X10_clear none (va_up S q (fun _ => 0)) L) 0 0 197 (CF G S L) 0 [(0, .ref (gB G + q))] []
  refine sv_iconst (v := 0) dX10_clear_0 (by decide) ?_
  refine sv_istore_n (ls' := [(1, _), (0, _)]) dX10_clear_1 (by decide) rfl ?_
  have h := l_X10_clear G S L q hq _ 0 rfl (by omega)
  rw [fillS_0] at h
  exact h
def crS (S : Nat → Nat → Int32) (o q : Nat) (k : Nat) : Nat → Nat → Int32 := va_up S q (fun j => if j < k then S o j else S q j)
theorem crS_0 (S : Nat → Nat → Int32) (o q : Nat) : crS S o q 0 = S := by
  funext k j
  unfold crS va_up
  by_cases hk : k = q
  · subst hk; simp
  · simp [hk]
theorem crS_s (S : Nat → Nat → Int32) {o q : Nat} (ho : o ≠ q) (p : Nat) : up2 (crS S o q p) q p (crS S o q p o p) = crS S o q (p + 1) := by
  have e : crS S o q p o p = S o p := by unfold crS va_up; rw [if_neg ho]
  rw [e]
  funext k j
  rw [up2_at]
  unfold crS va_up
  by_cases hk : k = q
  · subst hk
    simp only [true_and, if_pos]
    by_cases h1 : j = p
    · subst h1; rw [if_pos rfl, if_pos (by omega)]
    · rw [if_neg h1]
      by_cases h2 : j < p
      · rw [if_pos h2, if_pos (by omega)]
      · rw [if_neg h2, if_neg (by omega)]
  · simp [hk]
theorem crS_all {S : Nat → Nat → Int32} {o q : Nat} (hq : shp q = (11, 128)) : sEq (crS S o q 128) (va_up S q (S o)) := by
  intro k _ j hj
  unfold crS va_up
  by_cases hk : k = q
  · subst hk
    have := relI hq hj
    simp [this]
  · simp [hk]
set_option maxRecDepth 100000 in
set_option maxHeartbeats 4000000 in
theorem l_X10_copyRow (G : GT) (S : Nat → Nat → Int32) (L : Nat → Int64) (o : Nat) (ho : shp o = (11, 128)) (q : Nat) (hq : shp q = (11, 128)) (hne : o ≠ q) : ∀ (m p : Nat), 128 - p = m → p ≤ 128 → sv_V G R_X10_copyRow RX10 "copyRow" cX10_copyRow 3 none (sPo G R_X10_copyRow none (va_up S q (S o)) L) 0 0 197 (CF G (crS S o q p) L) 2 [(2, .int (nI p)), (0, .ref (gB G + o)), (1, .ref (gB G + q))] [] := by
  intro m
  induction m using Nat.strongRecOn
  rename_i m ih
  intro p hm hp
  refine sv_iload_n 0 dX10_copyRow_2 rfl ?_
  refine sv_sipush (v := 128) dX10_copyRow_3 (by decide) ?_
  refine sv_icmp_ge (tgt := 21) dX10_copyRow_6 (by decide) (fun c6 => ?_) (fun c6 => ?_)
  · -- jump
    obtain rfl : p = 128 := by have := (nI_leI (a := 128) (b := p) (by omega) (by omega)).mp c6; omega
    exact se_vret rfl ⟨rfl, rfl⟩ dX10_copyRow_21 (crS_all hq)
  · -- fall
    have h7 : p < 128 := Nat.lt_of_not_le (fun z => c6 (nI_le (a := 128) z (by omega)))
    refine sv_aload_n 2 dX10_copyRow_9 rfl ?_
    refine sv_iload_n 0 dX10_copyRow_10 rfl ?_
    refine sv_aload_n 1 dX10_copyRow_11 rfl ?_
    refine sv_iload_n 0 dX10_copyRow_12 rfl ?_
    refine sx_ild ho p rfl (by omega) dX10_copyRow_13 ?_
    refine sx_ist hq p rfl (by omega) dX10_copyRow_14 ?_
    refine sv_eqS (crS_s S hne p) ?_
    refine sv_iinc 0 (ls' := [(2, _), (0, _), (1, _)]) dX10_copyRow_15 rfl (nI_1 _) (by decide) rfl ?_
    refine sv_goto (tgt := 2) dX10_copyRow_18 (by decide) ?_
    exact ih (128 - (p + 1)) (by omega) (p + 1) rfl (by omega)
set_option maxRecDepth 100000 in
set_option maxHeartbeats 4000000 in
theorem e_X10_copyRow (G : GT) (S : Nat → Nat → Int32) (L : Nat → Int64) (o : Nat) (ho : shp o = (11, 128)) (q : Nat) (hq : shp q = (11, 128)) (hne : o ≠ q) : sE G yX10_copyRow R_X10_copyRow cX10_copyRow 3 none [.ref (gB G + o), .ref (gB G + q)] S L none (va_up S q (S o)) L := by
  refine sE.of (by decide) (Nat.le_of_ble_eq_true rfl) ?_
  show sv_V G R_X10_copyRow RX10 "copyRow" cX10_copyRow 3 none (sPo G R_X10_copyRow none (va_up S q (S o)) L) 0 0 197 (CF G S L) 0 [(0, .ref (gB G + o)), (1, .ref (gB G + q))] []
  refine sv_iconst (v := 0) dX10_copyRow_0 (by decide) ?_
  refine sv_istore_n (ls' := [(2, _), (0, _), (1, _)]) dX10_copyRow_1 (by decide) rfl ?_
  have h := l_X10_copyRow G S L o ho q hq hne _ 0 rfl (by omega)
  rw [crS_0] at h
  exact h
set_option maxRecDepth 100000 in
set_option maxHeartbeats 4000000 in
theorem e_X10_in (G : GT) (S : Nat → Nat → Int32) (L : Nat → Int64) (a b c : Int64) : sE G yX10_in R_X10_in cX10_in 6 (some .boolean) [.long a, .long b, .long c] S L (some (.int (if (¬ a < b ∧ ¬ c < a) then 1 else 0))) S L := by
  refine sE.of (by decide) (Nat.le_of_ble_eq_true rfl) ?_
  show sv_V G R_X10_in RX10 "in" cX10_in 6 (some .boolean) (sPo G R_X10_in (some (.int (if (¬ a < b ∧ ¬ c < a) then 1 else 0))) S L) 0 0 197 (CF G S L) 0 [(0, .long a), (2, .long b), (4, .long c)] []
  refine sv_lload_n 0 dX10_in_0 rfl ?_
  refine sv_lload_n 1 dX10_in_1 rfl ?_
  refine sv_lcmp dX10_in_2 ?_
  refine sv_if_lt (tgt := 17) dX10_in_3 (by decide) (fun c3 => ?_) (fun c3 => ?_)
  · -- jump
    refine sv_iconst (v := 0) dX10_in_17 (by decide) ?_
    exact se_zret rfl ⟨rfl, rfl⟩ dX10_in_18 (by rfl) (by rw [if_neg (fun h => h.1 ((lg_cmp_lt _ _).mp c3))]) rfl
  · -- fall
    refine sv_lload_n 0 dX10_in_6 rfl ?_
    refine sv_lload 2 dX10_in_7 rfl ?_
    refine sv_lcmp dX10_in_9 ?_
    refine sv_if_gt (tgt := 17) dX10_in_10 (by decide) (fun c10 => ?_) (fun c10 => ?_)
    · -- jump
      refine sv_iconst (v := 0) dX10_in_17 (by decide) ?_
      exact se_zret rfl ⟨rfl, rfl⟩ dX10_in_18 (by rfl) (by rw [if_neg (fun h => h.2 ((lg_cmp_gt _ _).mp c10))]) rfl
    · -- fall
      refine sv_iconst (v := 1) dX10_in_13 (by decide) ?_
      refine sv_goto (tgt := 18) dX10_in_14 (by decide) ?_
      exact se_zret rfl ⟨rfl, rfl⟩ dX10_in_18 (by rfl) (by rw [if_pos ⟨fun h => c3 ((lg_cmp_lt _ _).mpr h), fun h => c10 ((lg_cmp_gt _ _).mpr h)⟩]) rfl
theorem e_inI (G : GT) (S : Nat → Nat → Int32) (L : Nat → Int64) (x lo hi : Int32) (a b c : Int64) (ha : a = x.toInt64) (hb : b = lo.toInt64) (hc : c = hi.toInt64) : sE G yX10_in R_X10_in cX10_in 6 (some .boolean) [.long a, .long b, .long c] S L (some (.int (if (¬ x < lo ∧ ¬ hi < x) then 1 else 0))) S L := by
  subst ha; subst hb; subst hc
  refine (e_X10_in G S L x.toInt64 lo.toInt64 hi.toInt64).eq ?_ (sEq.rf _)
  simp only [fa_wide_lt]
def wfN (S : Nat → Nat → Int32) : Prop := ¬ S 179 2 < 0 ∧ ¬ 16 < S 179 2
abbrev hasY (S : Nat → Nat → Int32) (a : Int32) : Prop := ¬ a < 0 ∧ ¬ S 179 2 ≤ a
theorem pl_iff {m a : Int32} (hm : ¬ m < 0) : (¬ a < 0 ∧ ¬ (m - 1) < a) ↔ (¬ a < 0 ∧ ¬ m ≤ a) := by
  obtain ⟨k, hk, rfl⟩ := nI_of hm
  constructor
  · rintro ⟨h1, h2⟩
    refine ⟨h1, fun h3 => h2 ?_⟩
    obtain ⟨j, hj, rfl⟩ := nI_of h1
    have hkj : k ≤ j := (nI_leI hk hj).mp h3
    cases k with
    | zero => exact Int32.lt_of_lt_of_le (by decide) (nI_pos' hj)
    | succ k => rw [nI_pred]; exact nI_lt (by omega) hj
  · rintro ⟨h1, h2⟩
    refine ⟨h1, fun h3 => h2 ?_⟩
    obtain ⟨j, hj, rfl⟩ := nI_of h1
    cases k with
    | zero => exact nI_le (by omega) hj
    | succ k => rw [nI_pred] at h3; exact nI_le (by have := (nI_ltI (by omega) hj).mp h3; omega) hj
set_option maxRecDepth 100000 in
set_option maxHeartbeats 4000000 in
theorem e_X10_isPlace (G : GT) (S : Nat → Nat → Int32) (L : Nat → Int64) (hN : wfN S) (a : Int32) : sE G yX10_isPlace R_X10_isPlace cX10_isPlace 2 (some .boolean) [.ref (gB G + 179), .int a] S L (some (.int (if (hasY S a) then 1 else 0))) S L := by
  refine sE.of (by decide) (Nat.le_of_ble_eq_true rfl) ?_
  show sv_V G R_X10_isPlace RX10 "isPlace" cX10_isPlace 2 (some .boolean) (sPo G R_X10_isPlace (some (.int (if (hasY S a) then 1 else 0))) S L) 0 0 197 (CF G S L) 0 [(0, .ref (gB G + 179)), (1, .int a)] []
  refine sv_iload_n 1 dX10_isPlace_0 rfl ?_
  refine sv_i2l dX10_isPlace_1 rfl ?_
  refine sv_lconst (v := 0) dX10_isPlace_2 (by decide) ?_
  refine sv_aload_n 0 dX10_isPlace_3 rfl ?_
  refine sg_10_2 sh_179 fl_RX10_70 dX10_isPlace_4 ?_
  refine sv_iconst (v := 1) dX10_isPlace_7 (by decide) ?_
  refine sv_isub dX10_isPlace_8 ?_
  refine sv_i2l dX10_isPlace_9 rfl ?_
  refine cSi3 (e_inI G _ _ a 0 (S 179 2 - 1) _ _ _ rfl (by decide) rfl) ⟨rfl, rfl⟩ (sv_w4 ml_RX10_73 st_X10_in in_RX10 cd_X10_in) nm_X10_in ⟨Nat.le_of_ble_eq_true rfl, Nat.le_of_ble_eq_true rfl⟩ (Nat.le_of_ble_eq_true rfl) ⟨Nat.le_of_ble_eq_true rfl, Nat.le_of_ble_eq_true rfl⟩ dX10_isPlace_10 ?_
  exact se_zret rfl ⟨rfl, rfl⟩ dX10_isPlace_13 (by first | rfl | (split <;> rfl)) (by simp only [pl_iff hN.1]) rfl
set_option maxRecDepth 100000 in
set_option maxHeartbeats 4000000 in
theorem e_X10_has (G : GT) (S : Nat → Nat → Int32) (L : Nat → Int64) (x k : Int32) : sE G yX10_has R_X10_has cX10_has 2 (some .boolean) [.int x, .int k] S L (some (.int (if ((x >>> (k &&& 31)) &&& 1 = 1) then 1 else 0))) S L := by
  refine sE.of (by decide) (Nat.le_of_ble_eq_true rfl) ?_
  show sv_V G R_X10_has RX10 "has" cX10_has 2 (some .boolean) (sPo G R_X10_has (some (.int (if ((x >>> (k &&& 31)) &&& 1 = 1) then 1 else 0))) S L) 0 0 197 (CF G S L) 0 [(0, .int x), (1, .int k)] []
  refine sv_iload_n 0 dX10_has_0 rfl ?_
  refine sv_iload_n 1 dX10_has_1 rfl ?_
  refine sv_ishr dX10_has_2 ?_
  refine sv_iconst (v := 1) dX10_has_3 (by decide) ?_
  refine sv_iand dX10_has_4 ?_
  refine sv_iconst (v := 1) dX10_has_5 (by decide) ?_
  refine sv_icmp_ne (tgt := 13) dX10_has_6 (by decide) (fun c6 => ?_) (fun c6 => ?_)
  · -- jump
    refine sv_iconst (v := 0) dX10_has_13 (by decide) ?_
    exact se_zret rfl ⟨rfl, rfl⟩ dX10_has_14 (by rfl) (by simp [c6]) rfl
  · -- fall
    refine sv_iconst (v := 1) dX10_has_9 (by decide) ?_
    refine sv_goto (tgt := 14) dX10_has_10 (by decide) ?_
    exact se_zret rfl ⟨rfl, rfl⟩ dX10_has_14 (by rfl) (by simp [c6]) rfl
def onL (x : Int32) : Nat → Nat → Int32 → Int32
  | 0, _, a => a
  | m + 1, k, a => onL x m (k + 1) (a + ((x >>> (nI k &&& 31)) &&& 1))
def pwI (b : Int32) : Nat → Int32 → Int32
  | 0, a => a
  | m + 1, a => pwI b m (a * b)
set_option maxRecDepth 100000 in
set_option maxHeartbeats 4000000 in
theorem l_X10_ones (G : GT) (S : Nat → Nat → Int32) (L : Nat → Int64) (x : Int32) : ∀ (m k : Nat) (a : Int32), 16 - k = m → k ≤ 16 → sv_V G R_X10_ones RX10 "ones" cX10_ones 3 (some .int) (sPo G R_X10_ones (some (.int (onL x m k a))) S L) 0 0 197 (CF G S L) 4 [(2, .int (nI k)), (1, .int a), (0, .int x)] [] := by
  intro m
  induction m using Nat.strongRecOn
  rename_i m ih
  intro k a hm hk
  refine sv_iload_n 0 dX10_ones_4 rfl ?_
  refine sv_bipush (v := 16) dX10_ones_5 (by decide) ?_
  refine sv_icmp_ge (tgt := 24) dX10_ones_7 (by decide) (fun c7 => ?_) (fun c7 => ?_)
  · -- jump
    obtain rfl : m = 0 := by have := (nI_leI (a := 16) (b := k) (by omega) (by omega)).mp c7; omega
    refine sv_iload_n 1 dX10_ones_24 rfl ?_
    exact se_iret rfl ⟨rfl, rfl⟩ dX10_ones_25 rfl rfl
  · -- fall
    have h7 : k < 16 := Nat.lt_of_not_le (fun z => c7 (nI_le (a := 16) z (by omega)))
    obtain ⟨m2, rfl⟩ : ∃ j, m = j + 1 := ⟨m - 1, by omega⟩
    rw [onL]
    refine sv_iload_n 1 dX10_ones_10 rfl ?_
    refine sv_iload_n 2 dX10_ones_11 rfl ?_
    refine sv_iload_n 0 dX10_ones_12 rfl ?_
    refine sv_ishr dX10_ones_13 ?_
    refine sv_iconst (v := 1) dX10_ones_14 (by decide) ?_
    refine sv_iand dX10_ones_15 ?_
    refine sv_iadd dX10_ones_16 ?_
    refine sv_istore_n (ls' := [(1, _), (2, _), (0, _)]) dX10_ones_17 (by decide) rfl ?_
    refine sv_iinc 1 (ls' := [(2, _), (1, _), (0, _)]) dX10_ones_18 rfl (nI_1 _) (by decide) rfl ?_
    refine sv_goto (tgt := 4) dX10_ones_21 (by decide) ?_
    exact ih m2 (by omega) (k + 1) _ (by omega) (by omega)
set_option maxRecDepth 100000 in
set_option maxHeartbeats 4000000 in
theorem e_X10_ones (G : GT) (S : Nat → Nat → Int32) (L : Nat → Int64) (x : Int32) : sE G yX10_ones R_X10_ones cX10_ones 3 (some .int) [.int x] S L (some (.int (onL x 16 0 0))) S L := by
  refine sE.of (by decide) (Nat.le_of_ble_eq_true rfl) ?_
  show sv_V G R_X10_ones RX10 "ones" cX10_ones 3 (some .int) (sPo G R_X10_ones (some (.int (onL x 16 0 0))) S L) 0 0 197 (CF G S L) 0 [(0, .int x)] []
  refine sv_iconst (v := 0) dX10_ones_0 (by decide) ?_
  refine sv_istore_n (ls' := [(1, _), (0, _)]) dX10_ones_1 (by decide) rfl ?_
  refine sv_iconst (v := 0) dX10_ones_2 (by decide) ?_
  refine sv_istore_n (ls' := [(2, _), (1, _), (0, _)]) dX10_ones_3 (by decide) rfl ?_
  exact l_X10_ones G S L x 16 0 0 rfl (by omega)
set_option maxRecDepth 100000 in
set_option maxHeartbeats 4000000 in
theorem l_X10_power (G : GT) (S : Nat → Nat → Int32) (L : Nat → Int64) (b e : Int32) (he : tn e ≤ 100) : ∀ (m p : Nat) (a : Int32), tn e - p = m → p ≤ tn e → sv_V G R_X10_power RX10 "power" cX10_power 4 (some .int) (sPo G R_X10_power (some (.int (pwI b m a))) S L) 0 0 197 (CF G S L) 4 [(3, .int (nI p)), (2, .int a), (0, .int b), (1, .int e)] [] := by
  intro m
  induction m using Nat.strongRecOn
  rename_i m ih
  intro p a hm hp
  refine sv_iload_n 0 dX10_power_4 rfl ?_
  refine sv_iload_n 3 dX10_power_5 rfl ?_
  refine sv_icmp_ge (tgt := 19) dX10_power_6 (by decide) (fun c6 => ?_) (fun c6 => ?_)
  · -- jump
    obtain rfl : m = 0 := by have := (le_tn (by omega)).mp c6; omega
    refine sv_iload_n 1 dX10_power_19 rfl ?_
    exact se_iret rfl ⟨rfl, rfl⟩ dX10_power_20 rfl rfl
  · -- fall
    have h8 : p < tn e := Nat.lt_of_not_le (fun z => c6 ((le_tn (by omega)).mpr z))
    obtain ⟨m2, rfl⟩ : ∃ j, m = j + 1 := ⟨m - 1, by omega⟩
    rw [pwI]
    refine sv_iload_n 1 dX10_power_9 rfl ?_
    refine sv_iload_n 2 dX10_power_10 rfl ?_
    refine sv_imul dX10_power_11 ?_
    refine sv_istore_n (ls' := [(2, _), (3, _), (0, _), (1, _)]) dX10_power_12 (by decide) rfl ?_
    refine sv_iinc 1 (ls' := [(3, _), (2, _), (0, _), (1, _)]) dX10_power_13 rfl (nI_1 _) (by decide) rfl ?_
    refine sv_goto (tgt := 4) dX10_power_16 (by decide) ?_
    exact ih m2 (by omega) (p + 1) _ (by omega) (by omega)
set_option maxRecDepth 100000 in
set_option maxHeartbeats 4000000 in
theorem e_X10_power (G : GT) (S : Nat → Nat → Int32) (L : Nat → Int64) (b e : Int32) (he : tn e ≤ 100) : sE G yX10_power R_X10_power cX10_power 4 (some .int) [.int b, .int e] S L (some (.int (pwI b (tn e) 1))) S L := by
  refine sE.of (by decide) (Nat.le_of_ble_eq_true rfl) ?_
  show sv_V G R_X10_power RX10 "power" cX10_power 4 (some .int) (sPo G R_X10_power (some (.int (pwI b (tn e) 1))) S L) 0 0 197 (CF G S L) 0 [(0, .int b), (1, .int e)] []
  refine sv_iconst (v := 1) dX10_power_0 (by decide) ?_
  refine sv_istore_n (ls' := [(2, _), (0, _), (1, _)]) dX10_power_1 (by decide) rfl ?_
  refine sv_iconst (v := 0) dX10_power_2 (by decide) ?_
  refine sv_istore_n (ls' := [(3, _), (2, _), (0, _), (1, _)]) dX10_power_3 (by decide) rfl ?_
  exact l_X10_power G S L b e he _ 0 1 (by omega) (by omega)
set_option maxRecDepth 100000 in
set_option maxHeartbeats 4000000 in
theorem l_X10_factorial (G : GT) (S : Nat → Nat → Int32) (L : Nat → Int64) (e : Int32) (he : tn e ≤ 100) : ∀ (m p : Nat) (a : Int32), tn e + 1 - p = m → 2 ≤ p → (p ≤ tn e + 1 ∨ p = 2) → sv_V G R_X10_factorial RX10 "factorial" cX10_factorial 3 (some .int) (sPo G R_X10_factorial (some (.int (fcL m p a))) S L) 0 0 197 (CF G S L) 4 [(2, .int (nI p)), (1, .int a), (0, .int e)] [] := by
  intro m
  induction m using Nat.strongRecOn
  rename_i m ih
  intro p a hm h2 hp
  refine sv_iload_n 0 dX10_factorial_4 rfl ?_
  refine sv_iload_n 2 dX10_factorial_5 rfl ?_
  refine sv_icmp_gt (tgt := 19) dX10_factorial_6 (by decide) (fun c6 => ?_) (fun c6 => ?_)
  · -- jump
    obtain rfl : m = 0 := by have := (lt_tn (by omega) (by omega)).mp c6; omega
    refine sv_iload_n 1 dX10_factorial_19 rfl ?_
    exact se_iret rfl ⟨rfl, rfl⟩ dX10_factorial_20 rfl rfl
  · -- fall
    have h6 : p ≤ tn e := Nat.le_of_not_lt (fun z => c6 ((lt_tn (by omega) (by omega)).mpr z))
    obtain ⟨m2, rfl⟩ : ∃ j, m = j + 1 := ⟨m - 1, by omega⟩
    rw [fcL]
    refine sv_iload_n 1 dX10_factorial_9 rfl ?_
    refine sv_iload_n 0 dX10_factorial_10 rfl ?_
    refine sv_imul dX10_factorial_11 ?_
    refine sv_istore_n (ls' := [(1, _), (2, _), (0, _)]) dX10_factorial_12 (by decide) rfl ?_
    refine sv_iinc 1 (ls' := [(2, _), (1, _), (0, _)]) dX10_factorial_13 rfl (nI_1 _) (by decide) rfl ?_
    refine sv_goto (tgt := 4) dX10_factorial_16 (by decide) ?_
    exact ih m2 (by omega) (p + 1) _ (by omega) (by omega) (by omega)
set_option maxRecDepth 100000 in
set_option maxHeartbeats 4000000 in
theorem e_X10_factorial (G : GT) (S : Nat → Nat → Int32) (L : Nat → Int64) (e : Int32) (he : tn e ≤ 100) : sE G yX10_factorial R_X10_factorial cX10_factorial 3 (some .int) [.int e] S L (some (.int (fcL (tn e - 1) 2 1))) S L := by
  refine sE.of (by decide) (Nat.le_of_ble_eq_true rfl) ?_
  show sv_V G R_X10_factorial RX10 "factorial" cX10_factorial 3 (some .int) (sPo G R_X10_factorial (some (.int (fcL (tn e - 1) 2 1))) S L) 0 0 197 (CF G S L) 0 [(0, .int e)] []
  refine sv_iconst (v := 1) dX10_factorial_0 (by decide) ?_
  refine sv_istore_n (ls' := [(1, _), (0, _)]) dX10_factorial_1 (by decide) rfl ?_
  refine sv_iconst (v := 2) dX10_factorial_2 (by decide) ?_
  refine sv_istore_n (ls' := [(2, _), (1, _), (0, _)]) dX10_factorial_3 (by decide) rfl ?_
  exact l_X10_factorial G S L e he _ 2 1 (by omega) (by omega) (by omega)
/-- Euclid's rule on numbers -/
def gdN : Nat → Nat → Nat → Nat
  | 0, x, _ => x
  | m + 1, x, y => if y = 0 then x else gdN m y (x % y)
theorem gdN_pos : ∀ (m x y : Nat), 0 < x → 0 < gdN m x y
  | 0, _, _, h => h
  | m + 1, x, y, h => by
    rw [gdN]
    by_cases h0 : y = 0
    · rw [if_pos h0]; exact h
    · rw [if_neg h0]; exact gdN_pos m y (x % y) (by omega)
theorem gdN_lt : ∀ (m x y : Nat), x < 2147483648 → y < 2147483648 → gdN m x y < 2147483648
  | 0, _, _, h, _ => h
  | m + 1, x, y, h, h2 => by
    rw [gdN]
    by_cases h0 : y = 0
    · rw [if_pos h0]; exact h
    · rw [if_neg h0]; exact gdN_lt m y (x % y) h2 (Nat.lt_of_lt_of_le (Nat.mod_lt _ (by omega)) (by omega))
def frF (above below up : Int32) (x y : Nat) : Int32 := if up = 0 then below / nI (gdN (y + 1) x y) else above / nI (gdN (y + 1) x y)
set_option maxRecDepth 100000 in
set_option maxHeartbeats 4000000 in
theorem l_X10_fraction (G : GT) (S : Nat → Nat → Int32) (L : Nat → Int64) (above below up : Int32) (x0 y0 : Nat) : ∀ (m x y : Nat) (ls : List (Nat × Value)), y + 1 ≤ m → x < 2147483648 → y < 2147483648 → (0 < x ∨ 0 < y) → gdN m x y = gdN (y0 + 1) x0 y0 → sv_V G R_X10_fraction RX10 "fraction" cX10_fraction 6 (some .int) (sPo G R_X10_fraction (some (.int (frF above below up x0 y0))) S L) 0 0 197 (CF G S L) 14 [(4, .int (nI y)), (3, .int (nI x)), (0, .int above), (1, .int below), (2, .int up)] [] := by
  intro m
  induction m using Nat.strongRecOn
  rename_i m ih
  intro x y _ hm hx hy hxy hg
  obtain ⟨m2, rfl⟩ : ∃ j, m = j + 1 := ⟨m - 1, by omega⟩
  rw [gdN] at hg
  refine sv_iload 0 dX10_fraction_14 rfl ?_
  refine sv_if_eq (tgt := 35) dX10_fraction_16 (by decide) (fun c16 => ?_) (fun c16 => ?_)
  · -- jump
    have hy0 : y = 0 := (nI_eq (b := 0) hy (by decide)).mp c16
    rw [if_pos hy0] at hg
    have hxp : ¬ nI x = 0 := nI_ne0 (by omega) hx
    refine sv_iload_n 4 dX10_fraction_35 rfl ?_
    refine sv_if_eq (tgt := 45) dX10_fraction_36 (by decide) (fun c36 => ?_) (fun c36 => ?_)
    · -- jump
      refine sv_iload_n 3 dX10_fraction_45 rfl ?_
      refine sv_iload_n 1 dX10_fraction_46 rfl ?_
      refine sv_idiv dX10_fraction_47 hxp ?_
      exact se_iret rfl ⟨rfl, rfl⟩ dX10_fraction_48 (by rw [frF, if_pos c36, ← hg]) rfl
    · -- fall
      refine sv_iload_n 2 dX10_fraction_39 rfl ?_
      refine sv_iload_n 1 dX10_fraction_40 rfl ?_
      refine sv_idiv dX10_fraction_41 hxp ?_
      refine sv_goto (tgt := 48) dX10_fraction_42 (by decide) ?_
      exact se_iret rfl ⟨rfl, rfl⟩ dX10_fraction_48 (by rw [frF, if_neg c36, ← hg]) rfl
  · -- fall
    have hy0 : y ≠ 0 := fun z => c16 (by rw [z]; rfl)
    rw [if_neg hy0] at hg
    refine sv_iload_n 1 dX10_fraction_19 rfl ?_
    refine sv_iload 0 dX10_fraction_20 rfl ?_
    refine sv_irem dX10_fraction_22 c16 ?_
    refine sv_topE (v' := nI (x % y)) (pk_rem hx (by omega) hy) ?_
    refine sv_istore (ls' := [(5, _), (4, _), (3, _), (0, _), (1, _), (2, _)]) dX10_fraction_23 (by decide) rfl ?_
    refine sv_iload 1 dX10_fraction_25 rfl ?_
    refine sv_istore_n (ls' := [(3, _), (5, _), (4, _), (0, _), (1, _), (2, _)]) dX10_fraction_27 (by decide) rfl ?_
    refine sv_iload 1 dX10_fraction_28 rfl ?_
    refine sv_istore (ls' := [(4, _), (3, _), (5, _), (0, _), (1, _), (2, _)]) dX10_fraction_30 (by decide) rfl ?_
    refine sv_goto (tgt := 14) dX10_fraction_32 (by decide) ?_
    refine sv_locals [0, 1, 3, 4, 5] rfl ?_
    exact ih m2 (by omega) y (x % y) [] (by have := Nat.mod_lt x (show 0 < y by omega); omega) hy (Nat.lt_trans (Nat.mod_lt _ (by omega)) hy) (Or.inl (by omega)) hg
theorem abs_nI {a : Int32} (h : ¬ a = -2147483648) : ∃ x, x < 2147483648 ∧ (if a < 0 then -a else a) = nI x := by
  by_cases h0 : a < 0
  · rw [if_pos h0]
    have h1 := fb_negI (x := a) (fun z => h (by rw [← fb_asI a, z]; rfl))
    have h2 := fb_rng a
    have h3 : a.toInt < 0 := by simpa using Int32.lt_iff_toInt_lt.mp h0
    have h4 : ¬ (-a) < 0 := by
      intro q
      have : (-a).toInt < 0 := by simpa using Int32.lt_iff_toInt_lt.mp q
      omega
    exact ⟨tn (-a), by have := nI_of h4; obtain ⟨j, hj, e⟩ := this; rw [e, tn_nI hj]; exact hj, nI_self h4⟩
  · rw [if_neg h0]
    obtain ⟨j, hj, e⟩ := nI_of h0
    exact ⟨j, hj, e⟩
set_option maxRecDepth 100000 in
set_option maxHeartbeats 4000000 in
theorem e_X10_fraction (G : GT) (S : Nat → Nat → Int32) (L : Nat → Int64) (above below up : Int32) (x y : Nat) (hx : x < 2147483648) (hax : (if above < 0 then -above else above) = nI x) (hy : y < 2147483648) (hby : below = nI y) (hy0 : 0 < y) : sE G yX10_fraction R_X10_fraction cX10_fraction 6 (some .int) [.int above, .int below, .int up] S L (some (.int (frF above below up x y))) S L := by
  refine sE.of (by decide) (Nat.le_of_ble_eq_true rfl) ?_
  show sv_V G R_X10_fraction RX10 "fraction" cX10_fraction 6 (some .int) (sPo G R_X10_fraction (some (.int (frF above below up x y))) S L) 0 0 197 (CF G S L) 0 [(0, .int above), (1, .int below), (2, .int up)] []
  refine sv_iload_n 0 dX10_fraction_0 rfl ?_
  refine sv_if_ge (tgt := 9) dX10_fraction_1 (by decide) (fun c1 => ?_) (fun c1 => ?_)
  · -- jump
    refine sv_iload_n 0 dX10_fraction_9 rfl ?_
    refine sv_topE (v' := nI x) (by rw [← hax, if_neg (Int32.not_lt.mpr c1)]) ?_
    refine sv_istore_n (ls' := [(3, _), (0, _), (1, _), (2, _)]) dX10_fraction_10 (by decide) rfl ?_
    refine sv_iload_n 2 dX10_fraction_11 rfl ?_
    refine sv_topE (v' := nI y) hby ?_
    refine sv_istore (ls' := [(4, _), (3, _), (0, _), (1, _), (2, _)]) dX10_fraction_12 (by decide) rfl ?_
    exact l_X10_fraction G S L above below up x y _ x y [] (Nat.le_refl _) hx hy (Or.inr hy0) rfl
  · -- fall
    refine sv_iload_n 0 dX10_fraction_4 rfl ?_
    refine sv_ineg dX10_fraction_5 ?_
    refine sv_goto (tgt := 10) dX10_fraction_6 (by decide) ?_
    refine sv_topE (v' := nI x) (by rw [← hax, if_pos (Int32.not_le.mp c1)]) ?_
    refine sv_istore_n (ls' := [(3, _), (0, _), (1, _), (2, _)]) dX10_fraction_10 (by decide) rfl ?_
    refine sv_iload_n 2 dX10_fraction_11 rfl ?_
    refine sv_topE (v' := nI y) hby ?_
    refine sv_istore (ls' := [(4, _), (3, _), (0, _), (1, _), (2, _)]) dX10_fraction_12 (by decide) rfl ?_
    exact l_X10_fraction G S L above below up x y _ x y [] (Nat.le_refl _) hx hy (Or.inr hy0) rfl
