set_option maxRecDepth 100000 in
set_option maxHeartbeats 4000000 in
theorem sw_X9_corrections_1 {G : GT} {R : Room} {own nm : String} {nL : Nat} {rt : Option FieldType} {Post : Option Value → Nat → Nat → Nat → (Nat → va_E) → Prop} {cells slots n : Nat} {f : Nat → va_E} {ls : List (Nat × Value)} {st : List Value} {x : Int32} (d : decode cX9_corrections 1 = .ok (.tableswitch 63 98 107 #[57, 55, 63, 63, 63, 63, 59, 63, 63, 61], 55)) (k0 : x = 98 → sv_V G R own nm cX9_corrections nL rt Post cells slots n f 58 ls st) (k1 : x = 99 → sv_V G R own nm cX9_corrections nL rt Post cells slots n f 56 ls st) (k2 : x = 104 → sv_V G R own nm cX9_corrections nL rt Post cells slots n f 60 ls st) (k3 : x = 107 → sv_V G R own nm cX9_corrections nL rt Post cells slots n f 62 ls st) (kd : ¬ x = 98 ∧ ¬ x = 99 ∧ ¬ x = 104 ∧ ¬ x = 107 → sv_V G R own nm cX9_corrections nL rt Post cells slots n f 64 ls st) : sv_V G R own nm cX9_corrections nL rt Post cells slots n f 1 ls (.int x :: st) := by
  by_cases h0 : x = 98
  · subst h0; exact sv_tableIn (tgt := 58) (off := 57) d (by decide) (by decide) (by decide) (by decide) (k0 rfl)
  by_cases h1 : x = 99
  · subst h1; exact sv_tableIn (tgt := 56) (off := 55) d (by decide) (by decide) (by decide) (by decide) (k1 rfl)
  by_cases h2 : x = 104
  · subst h2; exact sv_tableIn (tgt := 60) (off := 59) d (by decide) (by decide) (by decide) (by decide) (k2 rfl)
  by_cases h3 : x = 107
  · subst h3; exact sv_tableIn (tgt := 62) (off := 61) d (by decide) (by decide) (by decide) (by decide) (k3 rfl)
  by_cases g100 : x = 100
  · subst g100; exact sv_tableIn (tgt := 64) (off := 63) d (by decide) (by decide) (by decide) (by decide) (kd ⟨by decide, by decide, by decide, by decide⟩)
  by_cases g101 : x = 101
  · subst g101; exact sv_tableIn (tgt := 64) (off := 63) d (by decide) (by decide) (by decide) (by decide) (kd ⟨by decide, by decide, by decide, by decide⟩)
  by_cases g102 : x = 102
  · subst g102; exact sv_tableIn (tgt := 64) (off := 63) d (by decide) (by decide) (by decide) (by decide) (kd ⟨by decide, by decide, by decide, by decide⟩)
  by_cases g103 : x = 103
  · subst g103; exact sv_tableIn (tgt := 64) (off := 63) d (by decide) (by decide) (by decide) (by decide) (kd ⟨by decide, by decide, by decide, by decide⟩)
  by_cases g105 : x = 105
  · subst g105; exact sv_tableIn (tgt := 64) (off := 63) d (by decide) (by decide) (by decide) (by decide) (kd ⟨by decide, by decide, by decide, by decide⟩)
  by_cases g106 : x = 106
  · subst g106; exact sv_tableIn (tgt := 64) (off := 63) d (by decide) (by decide) (by decide) (by decide) (kd ⟨by decide, by decide, by decide, by decide⟩)
  refine sv_tableOut (tgt := 64) d ?_ (by decide) (kd ⟨h0, h1, h2, h3⟩)
  have p100 := sw_ne g100 (by decide : (100 : Int32).toInt = 100)
  have p101 := sw_ne g101 (by decide : (101 : Int32).toInt = 101)
  have p102 := sw_ne g102 (by decide : (102 : Int32).toInt = 102)
  have p103 := sw_ne g103 (by decide : (103 : Int32).toInt = 103)
  have p105 := sw_ne g105 (by decide : (105 : Int32).toInt = 105)
  have p106 := sw_ne g106 (by decide : (106 : Int32).toInt = 106)
  have q0 := sw_ne h0 (by decide : (98 : Int32).toInt = 98)
  have q1 := sw_ne h1 (by decide : (99 : Int32).toInt = 99)
  have q2 := sw_ne h2 (by decide : (104 : Int32).toInt = 104)
  have q3 := sw_ne h3 (by decide : (107 : Int32).toInt = 107)
  omega
theorem tn_neg {x : Int32} (h : x < 0) : tn x = 0 := by
  have h1 : x.toInt < 0 := by simpa using Int32.lt_iff_toInt_lt.mp h
  show x.toInt.toNat = 0
  omega
theorem le_tn {e : Int32} {p : Nat} (hp : p < 2147483648) : e ≤ nI p ↔ tn e ≤ p := by
  by_cases h : e < 0
  · rw [tn_neg h]
    exact ⟨fun _ => Nat.zero_le _, fun _ => Int32.le_trans (Int32.le_of_lt h) (nI_pos' hp)⟩
  · obtain ⟨j, hj, rfl⟩ := nI_of h
    rw [tn_nI hj, nI_leI hj hp]
theorem lt_tn {e : Int32} {p : Nat} (h0 : 0 < p) (hp : p < 2147483648) : e < nI p ↔ tn e < p := by
  by_cases h : e < 0
  · rw [tn_neg h]
    exact ⟨fun _ => h0, fun _ => by have := nI_pos' hp; exact Int32.lt_of_lt_of_le h this⟩
  · obtain ⟨j, hj, rfl⟩ := nI_of h
    rw [tn_nI hj, nI_ltI hj hp]
def pwL (b : Int64) : Nat → Int64 → Int64
  | 0, a => a
  | m + 1, a => pwL b m (a * b)
def fcL : Nat → Nat → Int32 → Int32
  | 0, _, a => a
  | m + 1, k, a => fcL m (k + 1) (a * nI k)
def cdL : Nat → Int32 → Int32 → Int32
  | 0, x, _ => x
  | m + 1, x, y => if y = 0 then x else cdL m y (x - x / y * y)
def dvL : Nat → Int64 → Int64
  | 0, x => x
  | m + 1, x => dvL m (x / 1000)
def ptF (a b up : Int32) : Int32 := if cdL 50 (if 0 ≤ a then a else 0 - a) b = 0 then 0 else if up = 0 then b / cdL 50 (if 0 ≤ a then a else 0 - a) b else a / cdL 50 (if 0 ≤ a then a else 0 - a) b
def crF (k : Int32) : Int32 := if k = 98 then 0 else if k = 99 then 2 else if k = 104 then 0 else if k = 107 then 5 else 1
def saF (row : Int64) (p : Nat) : Int32 := (dvL p row - dvL p row / 1000 * 1000).toInt32
set_option maxRecDepth 100000 in
set_option maxHeartbeats 4000000 in
theorem l_X9_power (G : GT) (S : Nat → Nat → Int32) (L : Nat → Int64) (b e : Int32) (he : tn e ≤ 100) : ∀ (m p : Nat) (a : Int64), tn e - p = m → p ≤ tn e → sv_V G R_X9_power RX9 "power" cX9_power 5 (some .long) (sPo G R_X9_power (some (.long (pwL b.toInt64 m a))) S L) 0 0 197 (CF G S L) 5 [(4, .int (nI p)), (2, .long a), (0, .int b), (1, .int e)] [] := by
  intro m
  induction m using Nat.strongRecOn
  rename_i m ih
  intro p a hm hp
  refine sv_iload 0 dX9_power_5 rfl ?_
  refine sv_iload_n 3 dX9_power_7 rfl ?_
  refine sv_icmp_ge (tgt := 22) dX9_power_8 (by decide) (fun c8 => ?_) (fun c8 => ?_)
  · -- jump
    obtain rfl : m = 0 := by have := (le_tn (by omega)).mp c8; omega
    refine sv_lload_n 1 dX9_power_22 rfl ?_
    exact se_lret rfl ⟨rfl, rfl⟩ dX9_power_23 rfl rfl rfl
  · -- fall
    have h8 : p < tn e := Nat.lt_of_not_le (fun z => c8 ((le_tn (by omega)).mpr z))
    obtain ⟨m2, rfl⟩ : ∃ j, m = j + 1 := ⟨m - 1, by omega⟩
    rw [pwL]
    refine sv_lload_n 1 dX9_power_11 rfl ?_
    refine sv_iload_n 2 dX9_power_12 rfl ?_
    refine sv_i2l dX9_power_13 rfl ?_
    refine sv_lmul dX9_power_14 ?_
    refine sv_lstore_n (ls' := [(2, _), (4, _), (0, _), (1, _)]) dX9_power_15 (by decide) rfl ?_
    refine sv_iinc 1 (ls' := [(4, _), (2, _), (0, _), (1, _)]) dX9_power_16 rfl (nI_1 _) (by decide) rfl ?_
    refine sv_goto (tgt := 5) dX9_power_19 (by decide) ?_
    exact ih m2 (by omega) (p + 1) _ (by omega) (by omega)
set_option maxRecDepth 100000 in
set_option maxHeartbeats 4000000 in
theorem e_X9_power (G : GT) (S : Nat → Nat → Int32) (L : Nat → Int64) (b e : Int32) (he : tn e ≤ 100) : sE G yX9_power R_X9_power cX9_power 5 (some .long) [.int b, .int e] S L (some (.long (pwL b.toInt64 (tn e) 1))) S L := by
  refine sE.of (by decide) (Nat.le_of_ble_eq_true rfl) ?_
  show sv_V G R_X9_power RX9 "power" cX9_power 5 (some .long) (sPo G R_X9_power (some (.long (pwL b.toInt64 (tn e) 1))) S L) 0 0 197 (CF G S L) 0 [(0, .int b), (1, .int e)] []
  refine sv_lconst (v := 1) dX9_power_0 (by decide) ?_
  refine sv_lstore_n (ls' := [(2, _), (0, _), (1, _)]) dX9_power_1 (by decide) rfl ?_
  refine sv_iconst (v := 0) dX9_power_2 (by decide) ?_
  refine sv_istore (ls' := [(4, _), (2, _), (0, _), (1, _)]) dX9_power_3 (by decide) rfl ?_
  exact l_X9_power G S L b e he _ 0 1 (by omega) (by omega)
set_option maxRecDepth 100000 in
set_option maxHeartbeats 4000000 in
theorem l_X9_factorial (G : GT) (S : Nat → Nat → Int32) (L : Nat → Int64) (e : Int32) (he : tn e ≤ 100) : ∀ (m p : Nat) (a : Int32), tn e + 1 - p = m → 2 ≤ p → (p ≤ tn e + 1 ∨ p = 2) → sv_V G R_X9_factorial RX9 "factorial" cX9_factorial 3 (some .int) (sPo G R_X9_factorial (some (.int (fcL m p a))) S L) 0 0 197 (CF G S L) 4 [(2, .int (nI p)), (1, .int a), (0, .int e)] [] := by
  intro m
  induction m using Nat.strongRecOn
  rename_i m ih
  intro p a hm h2 hp
  refine sv_iload_n 0 dX9_factorial_4 rfl ?_
  refine sv_iload_n 2 dX9_factorial_5 rfl ?_
  refine sv_icmp_gt (tgt := 19) dX9_factorial_6 (by decide) (fun c6 => ?_) (fun c6 => ?_)
  · -- jump
    obtain rfl : m = 0 := by have := (lt_tn (by omega) (by omega)).mp c6; omega
    refine sv_iload_n 1 dX9_factorial_19 rfl ?_
    exact se_iret rfl ⟨rfl, rfl⟩ dX9_factorial_20 rfl rfl
  · -- fall
    have h6 : p ≤ tn e := Nat.le_of_not_lt (fun z => c6 ((lt_tn (by omega) (by omega)).mpr z))
    obtain ⟨m2, rfl⟩ : ∃ j, m = j + 1 := ⟨m - 1, by omega⟩
    rw [fcL]
    refine sv_iload_n 1 dX9_factorial_9 rfl ?_
    refine sv_iload_n 0 dX9_factorial_10 rfl ?_
    refine sv_imul dX9_factorial_11 ?_
    refine sv_istore_n (ls' := [(1, _), (2, _), (0, _)]) dX9_factorial_12 (by decide) rfl ?_
    refine sv_iinc 1 (ls' := [(2, _), (1, _), (0, _)]) dX9_factorial_13 rfl (nI_1 _) (by decide) rfl ?_
    refine sv_goto (tgt := 4) dX9_factorial_16 (by decide) ?_
    exact ih m2 (by omega) (p + 1) _ (by omega) (by omega) (by omega)
set_option maxRecDepth 100000 in
set_option maxHeartbeats 4000000 in
theorem e_X9_factorial (G : GT) (S : Nat → Nat → Int32) (L : Nat → Int64) (e : Int32) (he : tn e ≤ 100) : sE G yX9_factorial R_X9_factorial cX9_factorial 3 (some .int) [.int e] S L (some (.int (fcL (tn e - 1) 2 1))) S L := by
  refine sE.of (by decide) (Nat.le_of_ble_eq_true rfl) ?_
  show sv_V G R_X9_factorial RX9 "factorial" cX9_factorial 3 (some .int) (sPo G R_X9_factorial (some (.int (fcL (tn e - 1) 2 1))) S L) 0 0 197 (CF G S L) 0 [(0, .int e)] []
  refine sv_iconst (v := 1) dX9_factorial_0 (by decide) ?_
  refine sv_istore_n (ls' := [(1, _), (0, _)]) dX9_factorial_1 (by decide) rfl ?_
  refine sv_iconst (v := 2) dX9_factorial_2 (by decide) ?_
  refine sv_istore_n (ls' := [(2, _), (1, _), (0, _)]) dX9_factorial_3 (by decide) rfl ?_
  exact l_X9_factorial G S L e he _ 2 1 (by omega) (by omega) (by omega)
set_option maxRecDepth 100000 in
set_option maxHeartbeats 4000000 in
theorem l_X9_commonDivisor (G : GT) (S : Nat → Nat → Int32) (L : Nat → Int64)  : ∀ (m p : Nat) (x y a b : Int32) (ls : List (Nat × Value)), 50 - p = m → p ≤ 50 → sv_V G R_X9_commonDivisor RX9 "commonDivisor" cX9_commonDivisor 6 (some .int) (sPo G R_X9_commonDivisor (some (.int (cdL m x y))) S L) 0 0 197 (CF G S L) 7 [(4, .int (nI p)), (3, .int y), (2, .int x)] [] := by
  intro m
  induction m using Nat.strongRecOn
  rename_i m ih
  intro p x y a b _ hm hp
  refine sv_iload 0 dX9_commonDivisor_7 rfl ?_
  refine sv_bipush (v := 50) dX9_commonDivisor_9 (by decide) ?_
  refine sv_icmp_ge (tgt := 34) dX9_commonDivisor_11 (by decide) (fun c11 => ?_) (fun c11 => ?_)
  · -- jump
    obtain rfl : m = 0 := by have := (nI_leI (a := 50) (b := p) (by omega) (by omega)).mp c11; omega
    refine sv_iload_n 2 dX9_commonDivisor_34 rfl ?_
    exact se_iret rfl ⟨rfl, rfl⟩ dX9_commonDivisor_35 rfl rfl
  · -- fall
    have h11 : p < 50 := Nat.lt_of_not_le (fun z => c11 (nI_le (a := 50) z (by omega)))
    obtain ⟨m2, rfl⟩ : ∃ j, m = j + 1 := ⟨m - 1, by omega⟩
    rw [cdL]
    refine sv_iload_n 1 dX9_commonDivisor_14 rfl ?_
    refine sv_if_eq (tgt := 34) dX9_commonDivisor_15 (by decide) (fun c15 => ?_) (fun c15 => ?_)
    · -- jump
      rw [if_pos c15]
      refine sv_iload_n 2 dX9_commonDivisor_34 rfl ?_
      exact se_iret rfl ⟨rfl, rfl⟩ dX9_commonDivisor_35 rfl rfl
    · -- fall
      refine sv_iload_n 2 dX9_commonDivisor_18 rfl ?_
      refine sv_iload_n 1 dX9_commonDivisor_19 rfl ?_
      refine sv_irem dX9_commonDivisor_20 c15 ?_
      refine sv_istore (ls' := [(5, _), (4, _), (3, _), (2, _)]) dX9_commonDivisor_21 (by decide) rfl ?_
      refine sv_iload_n 2 dX9_commonDivisor_23 rfl ?_
      refine sv_istore_n (ls' := [(2, _), (5, _), (4, _), (3, _)]) dX9_commonDivisor_24 (by decide) rfl ?_
      refine sv_iload 1 dX9_commonDivisor_25 rfl ?_
      refine sv_istore_n (ls' := [(3, _), (2, _), (5, _), (4, _)]) dX9_commonDivisor_27 (by decide) rfl ?_
      refine sv_iinc 3 (ls' := [(4, _), (3, _), (2, _), (5, _)]) dX9_commonDivisor_28 rfl (nI_1 _) (by decide) rfl ?_
      refine sv_goto (tgt := 7) dX9_commonDivisor_31 (by decide) ?_
      rw [if_neg c15]
      refine sv_locals [0, 1, 2] rfl ?_
      exact ih m2 (by omega) (p + 1) _ _ 0 0 [] (by omega) (by omega)
set_option maxRecDepth 100000 in
set_option maxHeartbeats 4000000 in
theorem e_X9_commonDivisor (G : GT) (S : Nat → Nat → Int32) (L : Nat → Int64) (x y : Int32) : sE G yX9_commonDivisor R_X9_commonDivisor cX9_commonDivisor 6 (some .int) [.int x, .int y] S L (some (.int (cdL 50 x y))) S L := by
  refine sE.of (by decide) (Nat.le_of_ble_eq_true rfl) ?_
  show sv_V G R_X9_commonDivisor RX9 "commonDivisor" cX9_commonDivisor 6 (some .int) (sPo G R_X9_commonDivisor (some (.int (cdL 50 x y))) S L) 0 0 197 (CF G S L) 0 [(0, .int x), (1, .int y)] []
  refine sv_iload_n 0 dX9_commonDivisor_0 rfl ?_
  refine sv_istore_n (ls' := [(2, _), (0, _), (1, _)]) dX9_commonDivisor_1 (by decide) rfl ?_
  refine sv_iload_n 2 dX9_commonDivisor_2 rfl ?_
  refine sv_istore_n (ls' := [(3, _), (2, _), (0, _), (1, _)]) dX9_commonDivisor_3 (by decide) rfl ?_
  refine sv_iconst (v := 0) dX9_commonDivisor_4 (by decide) ?_
  refine sv_istore (ls' := [(4, _), (3, _), (2, _), (0, _), (1, _)]) dX9_commonDivisor_5 (by decide) rfl ?_
  refine sv_locals [0, 1, 2] rfl ?_
  exact l_X9_commonDivisor G S L 50 0 x y 0 0 [] rfl (by omega)
set_option maxRecDepth 100000 in
set_option maxHeartbeats 4000000 in
theorem e_X9_partOf (G : GT) (S : Nat → Nat → Int32) (L : Nat → Int64) (a b up : Int32) : sE G yX9_partOf R_X9_partOf cX9_partOf 4 (some .int) [.int a, .int b, .int up] S L (some (.int (ptF a b up))) S L := by
  refine sE.of (by decide) (Nat.le_of_ble_eq_true rfl) ?_
  show sv_V G R_X9_partOf RX9 "partOf" cX9_partOf 4 (some .int) (sPo G R_X9_partOf (some (.int (ptF a b up))) S L) 0 0 197 (CF G S L) 0 [(0, .int a), (1, .int b), (2, .int up)] []
  refine sv_iload_n 0 dX9_partOf_0 rfl ?_
  refine sx_abs ml_RX9_311 (by decide) (Nat.le_of_ble_eq_true rfl) ⟨Nat.le_of_ble_eq_true rfl, Nat.le_of_ble_eq_true rfl⟩ dX9_partOf_1 ?_
  refine sv_iload_n 1 dX9_partOf_4 rfl ?_
  refine cSi2 (e_X9_commonDivisor G _ _ _ _) ⟨rfl, rfl⟩ (sv_w4 ml_RX9_316 st_X9_commonDivisor in_RX9 cd_X9_commonDivisor) nm_X9_commonDivisor ⟨Nat.le_of_ble_eq_true rfl, Nat.le_of_ble_eq_true rfl⟩ (Nat.le_of_ble_eq_true rfl) ⟨Nat.le_of_ble_eq_true rfl, Nat.le_of_ble_eq_true rfl⟩ dX9_partOf_5 ?_
  refine sv_istore_n (ls' := [(3, _), (0, _), (1, _), (2, _)]) dX9_partOf_8 (by decide) rfl ?_
  refine sv_iload_n 0 dX9_partOf_9 rfl ?_
  refine sv_if_ne (tgt := 15) dX9_partOf_10 (by decide) (fun c10 => ?_) (fun c10 => ?_)
  · -- jump
    refine sv_iload_n 3 dX9_partOf_15 rfl ?_
    refine sv_if_eq (tgt := 25) dX9_partOf_16 (by decide) (fun c16 => ?_) (fun c16 => ?_)
    · -- jump
      refine sv_iload_n 2 dX9_partOf_25 rfl ?_
      refine sv_iload_n 0 dX9_partOf_26 rfl ?_
      refine sv_idiv dX9_partOf_27 c10 ?_
      exact se_iret rfl ⟨rfl, rfl⟩ dX9_partOf_28 (by rw [ptF, if_neg c10, if_pos c16]) rfl
    · -- fall
      refine sv_iload_n 1 dX9_partOf_19 rfl ?_
      refine sv_iload_n 0 dX9_partOf_20 rfl ?_
      refine sv_idiv dX9_partOf_21 c10 ?_
      refine sv_goto (tgt := 28) dX9_partOf_22 (by decide) ?_
      exact se_iret rfl ⟨rfl, rfl⟩ dX9_partOf_28 (by rw [ptF, if_neg c10, if_neg c16]) rfl
  · -- fall
    refine sv_iconst (v := 0) dX9_partOf_13 (by decide) ?_
    exact se_iret rfl ⟨rfl, rfl⟩ dX9_partOf_14 (by rw [ptF, if_pos c10]) rfl
set_option maxRecDepth 100000 in
set_option maxHeartbeats 4000000 in
theorem e_X9_corrections (G : GT) (S : Nat → Nat → Int32) (L : Nat → Int64) (k : Int32) : sE G yX9_corrections R_X9_corrections cX9_corrections 1 (some .int) [.int k] S L (some (.int (crF k))) S L := by
  refine sE.of (by decide) (Nat.le_of_ble_eq_true rfl) ?_
  show sv_V G R_X9_corrections RX9 "corrections" cX9_corrections 1 (some .int) (sPo G R_X9_corrections (some (.int (crF k))) S L) 0 0 197 (CF G S L) 0 [(0, .int k)] []
  refine sv_iload_n 0 dX9_corrections_0 rfl ?_
  refine sw_X9_corrections_1 dX9_corrections_1 (fun c1 => ?_) (fun c1 => ?_) (fun c1 => ?_) (fun c1 => ?_) (fun c1 => ?_)
  · -- case 98
    refine sv_iconst (v := 0) dX9_corrections_58 (by decide) ?_
    exact se_iret rfl ⟨rfl, rfl⟩ dX9_corrections_59 (by subst c1; rfl) rfl
  · -- case 99
    refine sv_iconst (v := 2) dX9_corrections_56 (by decide) ?_
    exact se_iret rfl ⟨rfl, rfl⟩ dX9_corrections_57 (by subst c1; rfl) rfl
  · -- case 104
    refine sv_iconst (v := 0) dX9_corrections_60 (by decide) ?_
    exact se_iret rfl ⟨rfl, rfl⟩ dX9_corrections_61 (by subst c1; rfl) rfl
  · -- case 107
    refine sv_iconst (v := 5) dX9_corrections_62 (by decide) ?_
    exact se_iret rfl ⟨rfl, rfl⟩ dX9_corrections_63 (by subst c1; rfl) rfl
  · -- case None
    refine sv_iconst (v := 1) dX9_corrections_64 (by decide) ?_
    exact se_iret rfl ⟨rfl, rfl⟩ dX9_corrections_65 (by obtain ⟨z1, z2, z3, z4⟩ := c1; rw [crF, if_neg z1, if_neg z2, if_neg z3, if_neg z4]) rfl
set_option maxRecDepth 100000 in
set_option maxHeartbeats 4000000 in
theorem e_X9_isGood (G : GT) (S : Nat → Nat → Int32) (L : Nat → Int64) (x : Int32) : sE G yX9_isGood R_X9_isGood cX9_isGood 1 (some .boolean) [.int x] S L (some (.int (if (x = 0 ∨ x = 1) then 1 else 0))) S L := by
  refine sE.of (by decide) (Nat.le_of_ble_eq_true rfl) ?_
  show sv_V G R_X9_isGood RX9 "isGood" cX9_isGood 1 (some .boolean) (sPo G R_X9_isGood (some (.int (if (x = 0 ∨ x = 1) then 1 else 0))) S L) 0 0 197 (CF G S L) 0 [(0, .int x)] []
  refine sv_iload_n 0 dX9_isGood_0 rfl ?_
  refine sv_if_eq (tgt := 9) dX9_isGood_1 (by decide) (fun c1 => ?_) (fun c1 => ?_)
  · -- jump
    refine sv_iconst (v := 1) dX9_isGood_9 (by decide) ?_
    refine sv_goto (tgt := 14) dX9_isGood_10 (by decide) ?_
    exact se_zret rfl ⟨rfl, rfl⟩ dX9_isGood_14 (by rfl) (by simp [c1]) rfl
  · -- fall
    refine sv_iload_n 0 dX9_isGood_4 rfl ?_
    refine sv_iconst (v := 1) dX9_isGood_5 (by decide) ?_
    refine sv_icmp_ne (tgt := 13) dX9_isGood_6 (by decide) (fun c6 => ?_) (fun c6 => ?_)
    · -- jump
      refine sv_iconst (v := 0) dX9_isGood_13 (by decide) ?_
      exact se_zret rfl ⟨rfl, rfl⟩ dX9_isGood_14 (by rfl) (by simp [c1, c6]) rfl
    · -- fall
      refine sv_iconst (v := 1) dX9_isGood_9 (by decide) ?_
      refine sv_goto (tgt := 14) dX9_isGood_10 (by decide) ?_
      exact se_zret rfl ⟨rfl, rfl⟩ dX9_isGood_14 (by rfl) (by simp [c1, c6]) rfl
set_option maxRecDepth 100000 in
set_option maxHeartbeats 4000000 in
theorem l_X9_statementAt (G : GT) (S : Nat → Nat → Int32) (L : Nat → Int64) (k : Nat) (hk : k ≤ 100) : ∀ (m p : Nat) (x : Int64) (ls : List (Nat × Value)), k - p = m → p ≤ k → sv_V G R_X9_statementAt RX9 "statementAt" cX9_statementAt 6 (some .int) (sPo G R_X9_statementAt (some (.int (dvL m x - dvL m x / 1000 * 1000).toInt32)) S L) 0 0 197 (CF G S L) 5 [(5, .int (nI p)), (3, .long x), (2, .int (nI k))] [] := by
  intro m
  induction m using Nat.strongRecOn
  rename_i m ih
  intro p x _ hm hp
  refine sv_iload 0 dX9_statementAt_5 rfl ?_
  refine sv_iload_n 2 dX9_statementAt_7 rfl ?_
  refine sv_icmp_ge (tgt := 23) dX9_statementAt_8 (by decide) (fun c8 => ?_) (fun c8 => ?_)
  · -- jump
    obtain rfl : m = 0 := by have := (nI_leI (by omega) (by omega)).mp c8; omega
    refine sv_lload_n 1 dX9_statementAt_23 rfl ?_
    refine sv_ldc2 ck_RX9_262 dX9_statementAt_24 ?_
    refine sv_lrem dX9_statementAt_27 (by decide) ?_
    refine sv_l2i dX9_statementAt_28 rfl ?_
    exact se_iret rfl ⟨rfl, rfl⟩ dX9_statementAt_29 rfl rfl
  · -- fall
    have h8 : p < k := Nat.lt_of_not_le (fun z => c8 (nI_le z (by omega)))
    obtain ⟨m2, rfl⟩ : ∃ j, m = j + 1 := ⟨m - 1, by omega⟩
    rw [dvL]
    refine sv_lload_n 1 dX9_statementAt_11 rfl ?_
    refine sv_ldc2 ck_RX9_262 dX9_statementAt_12 ?_
    refine sv_ldiv dX9_statementAt_15 (by decide) ?_
    refine sv_lstore_n (ls' := [(3, _), (5, _), (2, _)]) dX9_statementAt_16 (by decide) rfl ?_
    refine sv_iinc 1 (ls' := [(5, _), (3, _), (2, _)]) dX9_statementAt_17 rfl (nI_1 _) (by decide) rfl ?_
    refine sv_goto (tgt := 5) dX9_statementAt_20 (by decide) ?_
    exact ih m2 (by omega) (p + 1) _ [] (by omega) (by omega)
set_option maxRecDepth 100000 in
set_option maxHeartbeats 4000000 in
theorem e_X9_statementAt (G : GT) (S : Nat → Nat → Int32) (L : Nat → Int64) (row : Int64) (k : Nat) (hk : k ≤ 100) : sE G yX9_statementAt R_X9_statementAt cX9_statementAt 6 (some .int) [.long row, .int (nI k)] S L (some (.int (saF row k))) S L := by
  refine sE.of (by decide) (Nat.le_of_ble_eq_true rfl) ?_
  show sv_V G R_X9_statementAt RX9 "statementAt" cX9_statementAt 6 (some .int) (sPo G R_X9_statementAt (some (.int (saF row k))) S L) 0 0 197 (CF G S L) 0 [(0, .long row), (2, .int (nI k))] []
  refine sv_lload_n 0 dX9_statementAt_0 rfl ?_
  refine sv_lstore_n (ls' := [(3, _), (0, _), (2, _)]) dX9_statementAt_1 (by decide) rfl ?_
  refine sv_iconst (v := 0) dX9_statementAt_2 (by decide) ?_
  refine sv_istore (ls' := [(5, _), (3, _), (0, _), (2, _)]) dX9_statementAt_3 (by decide) rfl ?_
  refine sv_locals [0, 1, 3] rfl ?_
  exact l_X9_statementAt G S L k hk k 0 row [] (by omega) (by omega)
