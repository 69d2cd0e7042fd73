theorem bcF_in (x : Int32) : ∃ j, j < 64 ∧ bcF x = nI j := by
  unfold bcF
  exact pk_andE _ 6 (by decide)
theorem tn_bc (x : Int32) : tn (bcF x) ≤ 100 := by
  obtain ⟨j, hj, h⟩ := bcF_in x
  rw [h, tn_nI (by omega)]
  omega
theorem tn_sub {a b : Nat} (ha : a ≤ 100) (hb : b ≤ 100) : tn (nI a - nI b) ≤ 100 := by
  by_cases h : b ≤ a
  · rw [pk_sub h, tn_nI (by omega)]; omega
  · rw [tn_neg (pk_sneg (by omega) (by omega))]; omega
theorem tn_sub1 {a b : Nat} (ha : a ≤ 100) (hb : b ≤ 99) : tn (nI a - 1 - nI b) ≤ 100 := by
  have e : nI a - 1 - nI b = nI a - nI (b + 1) := by
    rw [← nI_add, show nI 1 = (1 : Int32) from rfl]
    rw [Int32.sub_eq_add_neg, Int32.sub_eq_add_neg, Int32.sub_eq_add_neg, Int32.neg_add, Int32.add_assoc]
    congr 1
  rw [e]
  exact tn_sub ha (by omega)
theorem or64 {a b : Nat} (ha : a < 64) (hb : b < 64) : nI a ||| nI b = nI (a ||| b) ∧ (a ||| b) < 64 := by
  refine ⟨?_, Nat.or_lt_two_pow (n := 6) ha hb⟩
  exact fa_or a b
/-- what a set adds to the sum -/
def wgT (S : Nat → Nat → Int32) (b k : Nat) : Int32 := fcL (tn (bcF (nI k)) - 1) 2 1 * fcL (tn (S 153 7 - 1 - bcF (nI k)) - 1) 2 1 * (S 162 (k ||| b) - S 162 k)
def wgL (S : Nat → Nat → Int32) (b : Nat) : Nat → Nat → Int32 → Int32
  | 0, _, a => a
  | m + 1, k, a => wgL S b m (k + 1) (if nI k &&& nI b = 0 then a + wgT S b k else a)
def wgF (S : Nat → Nat → Int32) (c : Nat) (p : Int32) : Int32 := if 0 ≤ ixL S p c 0 then wgL S (2 ^ tn (ixL S p c 0)) (2 ^ c) 0 0 else 0
def wlT (S : Nat → Nat → Int32) (x : Int32) (k : Nat) : Int64 := pwL (10 - x).toInt64 (tn (bcF (nI k))) 1 * pwL x.toInt64 (tn (S 153 7 - bcF (nI k))) 1
def wlL (S : Nat → Nat → Int32) (v x : Int32) : Nat → Nat → Int64 → Int64
  | 0, _, a => a
  | m + 1, k, a => wlL S v x m (k + 1) (if S 162 k < v then a else a + wlT S x k)
set_option maxRecDepth 100000 in
set_option maxHeartbeats 4000000 in
theorem l_X7_weightedGain (G : GT) (S : Nat → Nat → Int32) (L : Nat → Int64) (c : Nat) (hc : c ≤ 6) (h7 : S 153 7 = nI c) (b : Nat) (hb : b < 64) : ∀ (m k : Nat) (a : Int32) (ls : List (Nat × Value)), 2 ^ c - k = m → k ≤ 2 ^ c → sv_V G R_X7_weightedGain RX7 "weightedGain" cX7_weightedGain 8 (some .int) (sPo G R_X7_weightedGain (some (.int (wgL S b m k a))) S L) 0 0 197 (CF G S L) 22 [(5, .int (nI k)), (4, .int a), (3, .int (nI b)), (0, .ref (gB G + 153))] [] := by
  have h64 := pow6 hc
  intro m
  induction m using Nat.strongRecOn
  rename_i m ih
  intro k a _ hm hk
  refine sv_iload 0 dX7_weightedGain_22 rfl ?_
  refine sv_iconst (v := 1) dX7_weightedGain_24 (by decide) ?_
  refine sv_aload_n 3 dX7_weightedGain_25 rfl ?_
  refine sg_7_7 sh_153 fl_RX7_48 dX7_weightedGain_26 ?_
  refine sv_ishl dX7_weightedGain_29 ?_
  refine sv_topE (v' := nI (2 ^ c)) (by rw [h7]; exact shl1 c hc) ?_
  refine sv_icmp_ge (tgt := 98) dX7_weightedGain_30 (by decide) (fun c30 => ?_) (fun c30 => ?_)
  · -- jump
    obtain rfl : m = 0 := by have := (nI_leI (by omega) (by omega)).mp c30; omega
    refine sv_iload 1 dX7_weightedGain_98 rfl ?_
    exact se_iret rfl ⟨rfl, rfl⟩ dX7_weightedGain_100 rfl rfl
  · -- fall
    have hlt : k < 2 ^ c := Nat.lt_of_not_le (fun z => c30 (nI_le z (by omega)))
    obtain ⟨m2, rfl⟩ : ∃ j, m = j + 1 := ⟨m - 1, by omega⟩
    rw [wgL]
    refine sv_iload 0 dX7_weightedGain_33 rfl ?_
    refine sv_iload_n 2 dX7_weightedGain_35 rfl ?_
    refine sv_iand dX7_weightedGain_36 ?_
    refine sv_if_ne (tgt := 92) dX7_weightedGain_37 (by decide) (fun c37 => ?_) (fun c37 => ?_)
    · -- jump
      refine sv_iinc 0 (ls' := [(5, _), (4, _), (3, _), (0, _)]) dX7_weightedGain_92 rfl (nI_1 _) (by decide) rfl ?_
      refine sv_goto (tgt := 22) dX7_weightedGain_95 (by decide) ?_
      rw [if_neg c37]
      exact ih m2 (by omega) (k + 1) a [] (by omega) (by omega)
    · -- fall
      refine sv_iload 0 dX7_weightedGain_40 rfl ?_
      refine cSi1 (e_J6_bitCount_0f7a4 G _ _ _) ⟨rfl, rfl⟩ (sv_w4 ml_RX7_98 st_J6_bitCount_0f7a4 in_RJ6 cd_J6_bitCount_0f7a4) nm_J6_bitCount_0f7a4 ⟨Nat.le_of_ble_eq_true rfl, Nat.le_of_ble_eq_true rfl⟩ (Nat.le_of_ble_eq_true rfl) ⟨Nat.le_of_ble_eq_true rfl, Nat.le_of_ble_eq_true rfl⟩ dX7_weightedGain_42 ?_
      refine sv_istore (ls' := [(6, _), (5, _), (4, _), (3, _), (0, _)]) dX7_weightedGain_45 (by decide) rfl ?_
      refine sv_iload 0 dX7_weightedGain_47 rfl ?_
      refine cNi1 (e_X9_factorial G _ _ _ (tn_bc _)) ⟨rfl, rfl⟩ ml_RX7_103 (sv_w3 st_X9_factorial in_RX9 cd_X9_factorial) nm_X9_factorial ⟨Nat.le_of_ble_eq_true rfl, Nat.le_of_ble_eq_true rfl⟩ (Nat.le_of_ble_eq_true rfl) ⟨Nat.le_of_ble_eq_true rfl, Nat.le_of_ble_eq_true rfl⟩ dX7_weightedGain_49 ?_
      refine sv_aload_n 4 dX7_weightedGain_52 rfl ?_
      refine sg_7_7 sh_153 fl_RX7_48 dX7_weightedGain_53 ?_
      refine sv_iconst (v := 1) dX7_weightedGain_56 (by decide) ?_
      refine sv_isub dX7_weightedGain_57 ?_
      refine sv_iload 0 dX7_weightedGain_58 rfl ?_
      refine sv_isub dX7_weightedGain_60 ?_
      refine cNi1 (e_X9_factorial G _ _ _ (by obtain ⟨j, hj, h⟩ := bcF_in (nI k); rw [h7, h]; exact tn_sub1 (by omega) (by omega))) ⟨rfl, rfl⟩ ml_RX7_103 (sv_w3 st_X9_factorial in_RX9 cd_X9_factorial) nm_X9_factorial ⟨Nat.le_of_ble_eq_true rfl, Nat.le_of_ble_eq_true rfl⟩ (Nat.le_of_ble_eq_true rfl) ⟨Nat.le_of_ble_eq_true rfl, Nat.le_of_ble_eq_true rfl⟩ dX7_weightedGain_61 ?_
      refine sv_imul dX7_weightedGain_64 ?_
      refine sv_istore (ls' := [(7, _), (6, _), (5, _), (4, _), (3, _), (0, _)]) dX7_weightedGain_65 (by decide) rfl ?_
      refine sv_iload 3 dX7_weightedGain_67 rfl ?_
      refine sv_iload 0 dX7_weightedGain_69 rfl ?_
      refine sv_aload_n 5 dX7_weightedGain_71 rfl ?_
      refine sg_7_5 sh_153 fl_RX7_31 dX7_weightedGain_72 ?_
      refine sv_iload 2 dX7_weightedGain_75 rfl ?_
      refine sv_iload_n 4 dX7_weightedGain_77 rfl ?_
      refine sv_ior dX7_weightedGain_78 ?_
      refine sx_ild sh_162 (k ||| b) (or64 (by omega) hb).1 (or64 (by omega) hb).2 dX7_weightedGain_79 ?_
      refine sv_aload_n 5 dX7_weightedGain_80 rfl ?_
      refine sg_7_5 sh_153 fl_RX7_31 dX7_weightedGain_81 ?_
      refine sv_iload 2 dX7_weightedGain_84 rfl ?_
      refine sx_ild sh_162 k rfl (by omega) dX7_weightedGain_86 ?_
      refine sv_isub dX7_weightedGain_87 ?_
      refine sv_imul dX7_weightedGain_88 ?_
      refine sv_iadd dX7_weightedGain_89 ?_
      refine sv_istore (ls' := [(4, _), (7, _), (6, _), (5, _), (3, _), (0, _)]) dX7_weightedGain_90 (by decide) rfl ?_
      refine sv_iinc 3 (ls' := [(5, _), (4, _), (7, _), (6, _), (3, _), (0, _)]) dX7_weightedGain_92 rfl (nI_1 _) (by decide) rfl ?_
      refine sv_goto (tgt := 22) dX7_weightedGain_95 (by decide) ?_
      rw [if_pos c37]
      refine sv_locals [0, 1, 4, 5] rfl ?_
      exact ih m2 (by omega) (k + 1) _ [] (by omega) (by omega)
set_option maxRecDepth 100000 in
set_option maxHeartbeats 4000000 in
theorem e_X7_weightedGain (G : GT) (S : Nat → Nat → Int32) (L : Nat → Int64) (c : Nat) (hc : c ≤ 6) (h7 : S 153 7 = nI c) (p : Int32) : sE G yX7_weightedGain R_X7_weightedGain cX7_weightedGain 8 (some .int) [.ref (gB G + 153), .int p] S L (some (.int (wgF S c p))) S L := by
  refine sE.of (by decide) (Nat.le_of_ble_eq_true rfl) ?_
  show sv_V G R_X7_weightedGain RX7 "weightedGain" cX7_weightedGain 8 (some .int) (sPo G R_X7_weightedGain (some (.int (wgF S c p))) S L) 0 0 197 (CF G S L) 0 [(0, .ref (gB G + 153)), (1, .int p)] []
  refine sv_aload_n 0 dX7_weightedGain_0 rfl ?_
  refine sv_iload_n 1 dX7_weightedGain_1 rfl ?_
  refine cVi1 (e_X7_indexOf G _ _ _ c hc h7) ⟨rfl, rfl⟩ (sv_w5 ml_RX7_89 im_X7_indexOf sl_X7_indexOf in_RX7 cd_X7_indexOf) nm_X7_indexOf ⟨Nat.le_of_ble_eq_true rfl, Nat.le_of_ble_eq_true rfl⟩ rfl (CF_7 sh_153) (shp_lt sh_153 (by simp)) (Nat.le_of_ble_eq_true rfl) ⟨Nat.le_of_ble_eq_true rfl, Nat.le_of_ble_eq_true rfl⟩ dX7_weightedGain_2 ?_
  refine sv_istore_n (ls' := [(2, _), (0, _), (1, _)]) dX7_weightedGain_5 (by decide) rfl ?_
  refine sv_iload_n 0 dX7_weightedGain_6 rfl ?_
  refine sv_if_ge (tgt := 12) dX7_weightedGain_7 (by decide) (fun c7 => ?_) (fun c7 => ?_)
  · -- jump
    obtain ⟨j, hj, hj2⟩ : ∃ j, j < c ∧ ixL S p c 0 = nI j := by
      rcases ixL_in S p c 0 with h | ⟨j, h1, h2⟩
      · exact absurd c7 (Int32.not_le.mpr h)
      · exact ⟨j, by omega, h2⟩
    refine sv_iconst (v := 1) dX7_weightedGain_12 (by decide) ?_
    refine sv_iload_n 0 dX7_weightedGain_13 rfl ?_
    refine sv_ishl dX7_weightedGain_14 ?_
    refine sv_topE (v' := nI (2 ^ j)) (by rw [hj2]; exact shl1 j (by omega)) ?_
    refine sv_istore_n (ls' := [(3, _), (2, _), (0, _), (1, _)]) dX7_weightedGain_15 (by decide) rfl ?_
    refine sv_iconst (v := 0) dX7_weightedGain_16 (by decide) ?_
    refine sv_istore (ls' := [(4, _), (3, _), (2, _), (0, _), (1, _)]) dX7_weightedGain_17 (by decide) rfl ?_
    refine sv_iconst (v := 0) dX7_weightedGain_19 (by decide) ?_
    refine sv_istore (ls' := [(5, _), (4, _), (3, _), (2, _), (0, _), (1, _)]) dX7_weightedGain_20 (by decide) rfl ?_
    have e : wgF S c p = wgL S (2 ^ j) (2 ^ c) 0 0 := by rw [wgF, if_pos c7, hj2, tn_nI (by omega)]
    rw [e]
    refine sv_locals [0, 1, 2, 4] rfl ?_
    exact l_X7_weightedGain G S L c hc h7 (2 ^ j) (Nat.lt_of_lt_of_le (Nat.pow_lt_pow_right (by decide) (show j < 6 by omega)) (by decide)) _ 0 0 [] (Nat.sub_zero _) (Nat.zero_le _)
  · -- fall
    refine sv_iconst (v := 0) dX7_weightedGain_10 (by decide) ?_
    exact se_iret rfl ⟨rfl, rfl⟩ dX7_weightedGain_11 (by rw [wgF, if_neg c7]) rfl
set_option maxRecDepth 100000 in
set_option maxHeartbeats 4000000 in
theorem l_X7_weightOfAtLeast (G : GT) (S : Nat → Nat → Int32) (L : Nat → Int64) (c : Nat) (hc : c ≤ 6) (h7 : S 153 7 = nI c) (v x : Int32) : ∀ (m k : Nat) (a : Int64), 2 ^ c - k = m → k ≤ 2 ^ c → sv_V G R_X7_weightOfAtLeast RX7 "weightOfAtLeast" cX7_weightOfAtLeast 7 (some .int) (sPo G R_X7_weightOfAtLeast (some (.int (wlL S v x m k a).toInt32)) S L) 0 0 197 (CF G S L) 5 [(5, .int (nI k)), (3, .long a), (0, .ref (gB G + 153)), (1, .int v), (2, .int x)] [] := by
  have h64 := pow6 hc
  intro m
  induction m using Nat.strongRecOn
  rename_i m ih
  intro k a hm hk
  refine sv_iload 0 dX7_weightOfAtLeast_5 rfl ?_
  refine sv_iconst (v := 1) dX7_weightOfAtLeast_7 (by decide) ?_
  refine sv_aload_n 2 dX7_weightOfAtLeast_8 rfl ?_
  refine sg_7_7 sh_153 fl_RX7_48 dX7_weightOfAtLeast_9 ?_
  refine sv_ishl dX7_weightOfAtLeast_12 ?_
  refine sv_topE (v' := nI (2 ^ c)) (by rw [h7]; exact shl1 c hc) ?_
  refine sv_icmp_ge (tgt := 64) dX7_weightOfAtLeast_13 (by decide) (fun c13 => ?_) (fun c13 => ?_)
  · -- jump
    obtain rfl : m = 0 := by have := (nI_leI (by omega) (by omega)).mp c13; omega
    refine sv_lload_n 1 dX7_weightOfAtLeast_64 rfl ?_
    refine sv_l2i dX7_weightOfAtLeast_65 rfl ?_
    exact se_iret rfl ⟨rfl, rfl⟩ dX7_weightOfAtLeast_66 rfl rfl
  · -- fall
    have hlt : k < 2 ^ c := Nat.lt_of_not_le (fun z => c13 (nI_le z (by omega)))
    obtain ⟨m2, rfl⟩ : ∃ j, m = j + 1 := ⟨m - 1, by omega⟩
    rw [wlL]
    refine sv_aload_n 2 dX7_weightOfAtLeast_16 rfl ?_
    refine sg_7_5 sh_153 fl_RX7_31 dX7_weightOfAtLeast_17 ?_
    refine sv_iload 0 dX7_weightOfAtLeast_20 rfl ?_
    refine sx_ild sh_162 k rfl (by omega) dX7_weightOfAtLeast_22 ?_
    refine sv_iload_n 3 dX7_weightOfAtLeast_23 rfl ?_
    refine sv_icmp_lt (tgt := 58) dX7_weightOfAtLeast_24 (by decide) (fun c24 => ?_) (fun c24 => ?_)
    · -- jump
      refine sv_iinc 0 (ls' := [(5, _), (3, _), (0, _), (1, _), (2, _)]) dX7_weightOfAtLeast_58 rfl (nI_1 _) (by decide) rfl ?_
      refine sv_goto (tgt := 5) dX7_weightOfAtLeast_61 (by decide) ?_
      rw [if_pos c24]
      exact ih m2 (by omega) (k + 1) a (by omega) (by omega)
    · -- fall
      refine sv_iload 0 dX7_weightOfAtLeast_27 rfl ?_
      refine cSi1 (e_J6_bitCount_0f7a4 G _ _ _) ⟨rfl, rfl⟩ (sv_w4 ml_RX7_98 st_J6_bitCount_0f7a4 in_RJ6 cd_J6_bitCount_0f7a4) nm_J6_bitCount_0f7a4 ⟨Nat.le_of_ble_eq_true rfl, Nat.le_of_ble_eq_true rfl⟩ (Nat.le_of_ble_eq_true rfl) ⟨Nat.le_of_ble_eq_true rfl, Nat.le_of_ble_eq_true rfl⟩ dX7_weightOfAtLeast_29 ?_
      refine sv_istore (ls' := [(6, _), (5, _), (3, _), (0, _), (1, _), (2, _)]) dX7_weightOfAtLeast_32 (by decide) rfl ?_
      refine sv_lload_n 2 dX7_weightOfAtLeast_34 rfl ?_
      refine sv_bipush (v := 10) dX7_weightOfAtLeast_35 (by decide) ?_
      refine sv_iload_n 5 dX7_weightOfAtLeast_37 rfl ?_
      refine sv_isub dX7_weightOfAtLeast_38 ?_
      refine sv_iload 0 dX7_weightOfAtLeast_39 rfl ?_
      refine cNi2 (e_X9_power G _ _ _ _ (tn_bc _)) ⟨rfl, rfl⟩ ml_RX7_106 (sv_w3 st_X9_power in_RX9 cd_X9_power) nm_X9_power ⟨Nat.le_of_ble_eq_true rfl, Nat.le_of_ble_eq_true rfl⟩ (Nat.le_of_ble_eq_true rfl) ⟨Nat.le_of_ble_eq_true rfl, Nat.le_of_ble_eq_true rfl⟩ dX7_weightOfAtLeast_41 ?_
      refine sv_iload_n 5 dX7_weightOfAtLeast_44 rfl ?_
      refine sv_aload_n 3 dX7_weightOfAtLeast_45 rfl ?_
      refine sg_7_7 sh_153 fl_RX7_48 dX7_weightOfAtLeast_46 ?_
      refine sv_iload 0 dX7_weightOfAtLeast_49 rfl ?_
      refine sv_isub dX7_weightOfAtLeast_51 ?_
      refine cNi2 (e_X9_power G _ _ _ _ (by obtain ⟨j, hj, h⟩ := bcF_in (nI k); rw [h7, h]; exact tn_sub (by omega) (by omega))) ⟨rfl, rfl⟩ ml_RX7_106 (sv_w3 st_X9_power in_RX9 cd_X9_power) nm_X9_power ⟨Nat.le_of_ble_eq_true rfl, Nat.le_of_ble_eq_true rfl⟩ (Nat.le_of_ble_eq_true rfl) ⟨Nat.le_of_ble_eq_true rfl, Nat.le_of_ble_eq_true rfl⟩ dX7_weightOfAtLeast_52 ?_
      refine sv_lmul dX7_weightOfAtLeast_55 ?_
      refine sv_ladd dX7_weightOfAtLeast_56 ?_
      refine sv_lstore_n (ls' := [(3, _), (6, _), (5, _), (0, _), (1, _), (2, _)]) dX7_weightOfAtLeast_57 (by decide) rfl ?_
      refine sv_iinc 2 (ls' := [(5, _), (3, _), (6, _), (0, _), (1, _), (2, _)]) dX7_weightOfAtLeast_58 rfl (nI_1 _) (by decide) rfl ?_
      refine sv_goto (tgt := 5) dX7_weightOfAtLeast_61 (by decide) ?_
      rw [if_neg c24]
      refine sv_locals [0, 1, 3, 4, 5] rfl ?_
      exact ih m2 (by omega) (k + 1) _ (by omega) (by omega)
set_option maxRecDepth 100000 in
set_option maxHeartbeats 4000000 in
theorem e_X7_weightOfAtLeast (G : GT) (S : Nat → Nat → Int32) (L : Nat → Int64) (c : Nat) (hc : c ≤ 6) (h7 : S 153 7 = nI c) (v x : Int32) : sE G yX7_weightOfAtLeast R_X7_weightOfAtLeast cX7_weightOfAtLeast 7 (some .int) [.ref (gB G + 153), .int v, .int x] S L (some (.int (wlL S v x (2 ^ c) 0 0).toInt32)) S L := by
  refine sE.of (by decide) (Nat.le_of_ble_eq_true rfl) ?_
  show sv_V G R_X7_weightOfAtLeast RX7 "weightOfAtLeast" cX7_weightOfAtLeast 7 (some .int) (sPo G R_X7_weightOfAtLeast (some (.int (wlL S v x (2 ^ c) 0 0).toInt32)) S L) 0 0 197 (CF G S L) 0 [(0, .ref (gB G + 153)), (1, .int v), (2, .int x)] []
  refine sv_lconst (v := 0) dX7_weightOfAtLeast_0 (by decide) ?_
  refine sv_lstore_n (ls' := [(3, _), (0, _), (1, _), (2, _)]) dX7_weightOfAtLeast_1 (by decide) rfl ?_
  refine sv_iconst (v := 0) dX7_weightOfAtLeast_2 (by decide) ?_
  refine sv_istore (ls' := [(5, _), (3, _), (0, _), (1, _), (2, _)]) dX7_weightOfAtLeast_3 (by decide) rfl ?_
  exact l_X7_weightOfAtLeast G S L c hc h7 v x _ 0 0 (Nat.sub_zero _) (Nat.zero_le _)
