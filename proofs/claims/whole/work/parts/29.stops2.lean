/-- the place of the k-th step of the trail doesn't count for the set -/
abbrev skP (S : Nat → Nat → Int32) (set : Int32) (k : Nat) : Prop := S 161 k < 0 ∨ (set >>> (S 161 k &&& 31)) &&& 1 = 0
def vaL (set : Int32) : Nat → Nat → Nat → Nat → (Nat → Nat → Int32) → Nat × (Nat → Nat → Int32)
  | 0, _, fn, _, S => (fn, S)
  | m + 1, k, fn, sn, S => if fn < 20 ∧ sn < 99 then (if skP S set k then vaL set m (k + 1) fn (sn + 1) S else if 0 < S 160 (tn (S 161 k)) then vaL set m (k + 1) fn (sn + 1) (up2 S 160 (tn (S 161 k)) (S 160 (tn (S 161 k)) - 1)) else vaL set m (k + 1) (fn + 1) 0 S) else (fn, S)
def trOK (S : Nat → Nat → Int32) (len : Nat) : Prop := ∀ j, j < len → S 161 j < 0 ∨ tn (S 161 j) < 6
theorem vaL_row (set : Int32) : ∀ (m k fn sn : Nat) (S : Nat → Nat → Int32) (a : Nat), a ≠ 160 → (vaL set m k fn sn S).2 a = S a
  | 0, _, _, _, _, _, _ => rfl
  | m + 1, k, fn, sn, S, a, h => by
    rw [vaL]
    by_cases h1 : fn < 20 ∧ sn < 99
    · rw [if_pos h1]
      by_cases h2 : skP S set k
      · rw [if_pos h2]; exact vaL_row set m _ _ _ _ a h
      · rw [if_neg h2]
        by_cases h3 : 0 < S 160 (tn (S 161 k))
        · rw [if_pos h3, vaL_row set m _ _ _ _ a h, up2_row h]
        · rw [if_neg h3]; exact vaL_row set m _ _ _ _ a h
    · rw [if_neg h1]
set_option maxRecDepth 100000 in
set_option maxHeartbeats 4000000 in
theorem l_X7_valueOf (G : GT) (L : Nat → Int64) (set : Int32) (len : Nat) (hlen : len ≤ 1980) : ∀ (m : Nat) (S : Nat → Nat → Int32) (k fn sn : Nat), len - k = m → k ≤ len → fn ≤ 20 → sn ≤ 99 → S 153 6 = nI len → trOK S len → sv_V G R_X7_valueOf RX7 "valueOf" cX7_valueOf 6 (some .int) (sPo G R_X7_valueOf (some (.int (nI (vaL set m k fn sn S).1))) (vaL set m k fn sn S).2 L) 0 0 197 (CF G S L) 22 [(4, .int (nI k)), (3, .int (nI sn)), (2, .int (nI fn)), (0, .ref (gB G + 153)), (1, .int set)] [] := by
  intro m
  induction m using Nat.strongRecOn
  rename_i m ih
  intro S k fn sn hm hk hf hs h6 htr
  refine sv_iload 0 dX7_valueOf_22 rfl ?_
  refine sv_aload_n 3 dX7_valueOf_24 rfl ?_
  refine sg_7_6 sh_153 fl_RX7_71 dX7_valueOf_25 ?_
  refine sv_topE h6 ?_
  refine sv_icmp_ge (tgt := 107) dX7_valueOf_28 (by decide) (fun c28 => ?_) (fun c28 => ?_)
  · -- jump
    obtain rfl : m = 0 := by have := (nI_leI (by omega) (by omega)).mp c28; omega
    refine sv_iload_n 2 dX7_valueOf_107 rfl ?_
    exact se_iret rfl ⟨rfl, rfl⟩ dX7_valueOf_108 rfl rfl
  · -- fall
    have hlt : k < len := Nat.lt_of_not_le (fun z => c28 (nI_le z (by omega)))
    obtain ⟨m2, rfl⟩ : ∃ j, m = j + 1 := ⟨m - 1, by omega⟩
    rw [vaL]
    refine sv_iload_n 2 dX7_valueOf_31 rfl ?_
    refine sv_bipush (v := 20) dX7_valueOf_32 (by decide) ?_
    refine sv_icmp_ge (tgt := 107) dX7_valueOf_34 (by decide) (fun c34 => ?_) (fun c34 => ?_)
    · -- jump
      have hno : ¬ (fn < 20 ∧ sn < 99) := fun h => absurd ((nI_leI (a := 20) (b := fn) (by omega) (by omega)).mp c34) (by omega)
      refine sv_iload_n 2 dX7_valueOf_107 rfl ?_
      exact se_iret rfl ⟨rfl, rfl⟩ dX7_valueOf_108 (by rw [if_neg hno]) (by rw [if_neg hno])
    · -- fall
      have h34 : fn < 20 := Nat.lt_of_not_le (fun z => c34 (nI_le (a := 20) z (by omega)))
      refine sv_iload_n 1 dX7_valueOf_37 rfl ?_
      refine sv_bipush (v := 99) dX7_valueOf_38 (by decide) ?_
      refine sv_icmp_ge (tgt := 107) dX7_valueOf_40 (by decide) (fun c40 => ?_) (fun c40 => ?_)
      · -- jump
        have hno : ¬ (fn < 20 ∧ sn < 99) := fun h => absurd ((nI_leI (a := 99) (b := sn) (by omega) (by omega)).mp c40) (by omega)
        refine sv_iload_n 2 dX7_valueOf_107 rfl ?_
        exact se_iret rfl ⟨rfl, rfl⟩ dX7_valueOf_108 (by rw [if_neg hno]) (by rw [if_neg hno])
      · -- fall
        have h40 : sn < 99 := Nat.lt_of_not_le (fun z => c40 (nI_le (a := 99) z (by omega)))
        refine sv_iinc 1 (ls' := [(3, _), (4, _), (2, _), (0, _), (1, _)]) dX7_valueOf_43 rfl (nI_1 _) (by decide) rfl ?_
        refine sv_aload_n 3 dX7_valueOf_46 rfl ?_
        refine sg_7_4 sh_153 fl_RX7_28 dX7_valueOf_47 ?_
        refine sv_iload 1 dX7_valueOf_50 rfl ?_
        refine sx_ild sh_161 k rfl (by omega) dX7_valueOf_52 ?_
        refine sv_istore (ls' := [(5, _), (3, _), (4, _), (2, _), (0, _), (1, _)]) dX7_valueOf_53 (by decide) rfl ?_
        refine sv_iload 0 dX7_valueOf_55 rfl ?_
        refine sv_if_lt (tgt := 101) dX7_valueOf_57 (by decide) (fun c57 => ?_) (fun c57 => ?_)
        · -- jump
          refine sv_iinc 2 (ls' := [(4, _), (5, _), (3, _), (2, _), (0, _), (1, _)]) dX7_valueOf_101 rfl (nI_1 _) (by decide) rfl ?_
          refine sv_goto (tgt := 22) dX7_valueOf_104 (by decide) ?_
          rw [if_pos ⟨h34, h40⟩, if_pos (Or.inl c57)]
          refine sv_locals [0, 2, 3, 4, 5] rfl ?_
          exact ih m2 (by omega) S (k + 1) fn (sn + 1) (by omega) (by omega) (by omega) (by omega) h6 htr
        · -- fall
          refine sv_iload_n 5 dX7_valueOf_60 rfl ?_
          refine sv_iload 0 dX7_valueOf_61 rfl ?_
          refine sv_ishr dX7_valueOf_63 ?_
          refine sv_iconst (v := 1) dX7_valueOf_64 (by decide) ?_
          refine sv_iand dX7_valueOf_65 ?_
          refine sv_if_ne (tgt := 72) dX7_valueOf_66 (by decide) (fun c66 => ?_) (fun c66 => ?_)
          · -- jump
            refine sv_aload_n 4 dX7_valueOf_72 rfl ?_
            refine sg_7_3 sh_153 fl_RX7_25 dX7_valueOf_73 ?_
            refine sv_iload 0 dX7_valueOf_76 rfl ?_
            refine sx_ild sh_160 _ (nI_self c57) ((htr k hlt).elim (fun h => absurd h c57) (fun h => h)) dX7_valueOf_78 ?_
            refine sv_if_le (tgt := 96) dX7_valueOf_79 (by decide) (fun c79 => ?_) (fun c79 => ?_)
            · -- jump
              refine sv_iinc 3 (ls' := [(2, _), (5, _), (3, _), (4, _), (0, _), (1, _)]) dX7_valueOf_96 rfl (nI_1 _) (by decide) rfl ?_
              refine sv_iconst (v := 0) dX7_valueOf_99 (by decide) ?_
              refine sv_istore_n (ls' := [(3, _), (2, _), (5, _), (4, _), (0, _), (1, _)]) dX7_valueOf_100 (by decide) rfl ?_
              refine sv_iinc 3 (ls' := [(4, _), (3, _), (2, _), (5, _), (0, _), (1, _)]) dX7_valueOf_101 rfl (nI_1 _) (by decide) rfl ?_
              refine sv_goto (tgt := 22) dX7_valueOf_104 (by decide) ?_
              rw [if_pos ⟨h34, h40⟩, if_neg (fun h => h.elim c57 c66), if_neg (Int32.not_lt.mpr c79)]
              refine sv_locals [0, 1, 2, 4, 5] rfl ?_
              exact ih m2 (by omega) S (k + 1) (fn + 1) 0 (by omega) (by omega) (by omega) (by omega) h6 htr
            · -- fall
              refine sv_aload_n 4 dX7_valueOf_82 rfl ?_
              refine sg_7_3 sh_153 fl_RX7_25 dX7_valueOf_83 ?_
              refine sv_iload 0 dX7_valueOf_86 rfl ?_
              refine sv_dup2_11 dX7_valueOf_88 rfl rfl ?_
              refine sx_ild sh_160 _ (nI_self c57) ((htr k hlt).elim (fun h => absurd h c57) (fun h => h)) dX7_valueOf_89 ?_
              refine sv_iconst (v := 1) dX7_valueOf_90 (by decide) ?_
              refine sv_isub dX7_valueOf_91 ?_
              refine sx_ist sh_160 _ (nI_self c57) ((htr k hlt).elim (fun h => absurd h c57) (fun h => h)) dX7_valueOf_92 ?_
              refine sv_goto (tgt := 101) dX7_valueOf_93 (by decide) ?_
              refine sv_iinc 2 (ls' := [(4, _), (5, _), (3, _), (2, _), (0, _), (1, _)]) dX7_valueOf_101 rfl (nI_1 _) (by decide) rfl ?_
              refine sv_goto (tgt := 22) dX7_valueOf_104 (by decide) ?_
              rw [if_pos ⟨h34, h40⟩, if_neg (fun h => h.elim c57 c66), if_pos (Int32.not_le.mp c79)]
              refine sv_locals [0, 2, 3, 4, 5] rfl ?_
              exact ih m2 (by omega) _ (k + 1) fn (sn + 1) (by omega) (by omega) (by omega) (by omega) (by rw [up2_row (by omega)]; exact h6) (by unfold trOK; rw [up2_row (by omega)]; exact htr)
          · -- fall
            refine sv_goto (tgt := 101) dX7_valueOf_69 (by decide) ?_
            refine sv_iinc 2 (ls' := [(4, _), (5, _), (3, _), (2, _), (0, _), (1, _)]) dX7_valueOf_101 rfl (nI_1 _) (by decide) rfl ?_
            refine sv_goto (tgt := 22) dX7_valueOf_104 (by decide) ?_
            rw [if_pos ⟨h34, h40⟩, if_pos (Or.inr c66)]
            refine sv_locals [0, 2, 3, 4, 5] rfl ?_
            exact ih m2 (by omega) S (k + 1) fn (sn + 1) (by omega) (by omega) (by omega) (by omega) h6 htr
def vaF (len : Nat) (S : Nat → Nat → Int32) (set : Int32) : Nat × (Nat → Nat → Int32) := vaL set len 0 0 0 (va_up S 160 (S 159))
theorem row_up {S : Nat → Nat → Int32} {k k' : Nat} {g : Nat → Int32} (h : k' ≠ k) : va_up S k g k' = S k' := by unfold va_up; rw [if_neg h]
set_option maxRecDepth 100000 in
set_option maxHeartbeats 4000000 in
theorem e_X7_valueOf (G : GT) (S : Nat → Nat → Int32) (L : Nat → Int64) (set : Int32) (len : Nat) (hlen : len ≤ 1980) (h6 : S 153 6 = nI len) (htr : trOK S len) : sE G yX7_valueOf R_X7_valueOf cX7_valueOf 6 (some .int) [.ref (gB G + 153), .int set] S L (some (.int (nI (vaF len S set).1))) (vaF len S set).2 L := by
  refine sE.of (by decide) (Nat.le_of_ble_eq_true rfl) ?_
  show sv_V G R_X7_valueOf RX7 "valueOf" cX7_valueOf 6 (some .int) (sPo G R_X7_valueOf (some (.int (nI (vaF len S set).1))) (vaF len S set).2 L) 0 0 197 (CF G S L) 0 [(0, .ref (gB G + 153)), (1, .int set)] []
  refine sv_aload_n 0 dX7_valueOf_0 rfl ?_
  refine sg_7_2 sh_153 fl_RX7_22 dX7_valueOf_1 ?_
  refine sv_iconst (v := 0) dX7_valueOf_4 (by decide) ?_
  refine sv_aload_n 0 dX7_valueOf_5 rfl ?_
  refine sg_7_3 sh_153 fl_RX7_25 dX7_valueOf_6 ?_
  refine sv_iconst (v := 0) dX7_valueOf_9 (by decide) ?_
  refine sv_bipush (v := 6) dX7_valueOf_10 (by decide) ?_
  refine sx_copy ml_RX7_92 sh_159 sh_160 (by decide) (by decide) (Nat.le_of_ble_eq_true rfl) dX7_valueOf_12 ?_
  refine sv_iconst (v := 0) dX7_valueOf_15 (by decide) ?_
  refine sv_istore_n (ls' := [(2, _), (0, _), (1, _)]) dX7_valueOf_16 (by decide) rfl ?_
  refine sv_iconst (v := 0) dX7_valueOf_17 (by decide) ?_
  refine sv_istore_n (ls' := [(3, _), (2, _), (0, _), (1, _)]) dX7_valueOf_18 (by decide) rfl ?_
  refine sv_iconst (v := 0) dX7_valueOf_19 (by decide) ?_
  refine sv_istore (ls' := [(4, _), (3, _), (2, _), (0, _), (1, _)]) dX7_valueOf_20 (by decide) rfl ?_
  exact l_X7_valueOf G L set len hlen len _ 0 0 0 (by omega) (by omega) (by omega) (by omega) (by rw [row_up (by omega)]; exact h6) (by unfold trOK; rw [row_up (by omega)]; exact htr)
theorem shl1 : ∀ c, c ≤ 6 → (1 : Int32) <<< (nI c &&& 31) = nI (2 ^ c) := by
  intro c hc
  have : ∀ c, c < 7 → (1 : Int32) <<< (nI c &&& 31) = nI (2 ^ c) := by decide +kernel
  exact this c (by omega)
theorem pow6 {c : Nat} (hc : c ≤ 6) : 2 ^ c ≤ 64 := by
  have : ∀ c, c < 7 → 2 ^ c ≤ 64 := by decide
  exact this c (by omega)
def msL (len : Nat) : Nat → Nat → (Nat → Nat → Int32) → Nat → Nat → Int32
  | 0, _, S => S
  | m + 1, k, S => msL len m (k + 1) (up2 (vaF len S (nI k)).2 162 k (nI (vaF len S (nI k)).1))
theorem vaF_row {len : Nat} {S : Nat → Nat → Int32} {set : Int32} {a : Nat} (h : a ≠ 160) : (vaF len S set).2 a = S a := by
  unfold vaF; rw [vaL_row _ _ _ _ _ _ _ h, row_up h]
def wfE (S : Nat → Nat → Int32) (c len : Nat) : Prop := S 153 7 = nI c ∧ S 153 6 = nI len ∧ trOK S len
theorem wfE_s {S : Nat → Nat → Int32} {c len k : Nat} {set v : Int32} (h : wfE S c len) : wfE (up2 (vaF len S set).2 162 k v) c len := by
  obtain ⟨h1, h2, h3⟩ := h
  refine ⟨?_, ?_, ?_⟩
  · rw [up2_row (by omega), vaF_row (by omega)]; exact h1
  · rw [up2_row (by omega), vaF_row (by omega)]; exact h2
  · unfold trOK; rw [up2_row (by omega), vaF_row (by omega)]; exact h3
theorem ixL_in (S : Nat → Nat → Int32) (v : Int32) : ∀ m p, ixL S v m p < 0 ∨ ∃ j, j < p + m ∧ ixL S v m p = nI j
  | 0, _ => Or.inl (show (-9 : Int32) < 0 by decide)
  | m + 1, p => by
    rw [ixL]
    by_cases h : S 158 p = v
    · rw [if_pos h]; exact Or.inr ⟨p, by omega, rfl⟩
    · rw [if_neg h]
      rcases ixL_in S v m (p + 1) with h1 | ⟨j, h1, h2⟩
      · exact Or.inl h1
      · exact Or.inr ⟨j, by omega, h2⟩
theorem fwV_in {T : Nat → Nat → Int32} {c : Nat} (hc : c ≤ 6) : fwV T c < 0 ∨ tn (fwV T c) < 6 := by
  unfold fwV
  by_cases h : T 154 5 = 0 ∧ appP T 18 154
  · rw [if_pos h]
    rcases ixL_in T (T 154 4) c 0 with h1 | ⟨j, h1, h2⟩
    · exact Or.inl h1
    · right; rw [h2, tn_nI (by omega)]; omega
  · rw [if_neg h]; exact Or.inl (by decide)
theorem fwL_E {c : Nat} (hc : c ≤ 6) : ∀ (m k : Nat) (S : Nat → Nat → Int32), k + m ≤ 1980 → S 153 7 = nI c → S 153 6 = nI k → trOK S k → ∃ len, len ≤ 1980 ∧ wfE (fwL c m k S) c len
  | 0, k, S, hk, h7, h6, ht => ⟨k, by omega, h7, h6, ht⟩
  | m + 1, k, S, hk, h7, h6, ht => by
    rw [fwL]
    by_cases h1 : S 154 5 = 0
    · rw [if_pos h1]
      by_cases h2 : stP S 154 3
      · rw [if_pos h2]
        refine fwL_E hc m (k + 1) _ (by omega) ?_ ?_ ?_
        · unfold fwA; rw [up2_ne (Or.inr (by decide)), up2_row (by omega), stS_row (by omega)]; exact h7
        · unfold fwA; rw [up2_same]
        · intro j hj
          unfold fwA
          rw [up2_row (by omega)]
          by_cases hjk : j = k
          · subst hjk; rw [up2_same]; exact fwV_in hc
          · rw [up2_ne (Or.inr hjk), stS_row (by omega)]; exact ht j (by omega)
      · rw [if_neg h2]; exact ⟨k, by omega, h7, h6, ht⟩
    · rw [if_neg h1]; exact ⟨k, by omega, h7, h6, ht⟩
theorem lsL_row : ∀ (m p c : Nat) (S : Nat → Nat → Int32) (a : Nat), a ≠ 153 → a ≠ 158 → a ≠ 159 → lsL m p c S a = S a
  | 0, _, _, _, _, _, _, _ => rfl
  | m + 1, p, c, S, a, h1, h2, h3 => by
    rw [lsL]
    by_cases q1 : c < 6
    · rw [if_pos q1]
      by_cases q2 : 0 < S 19 (6 * p)
      · rw [if_pos q2, lsL_row m _ _ _ a h1 h2 h3]; unfold lsA; rw [up2_row h1, up2_row h3, up2_row h2]
      · rw [if_neg q2]; exact lsL_row m _ _ _ a h1 h2 h3
    · rw [if_neg q1]
theorem lsL_ct : ∀ (m p c : Nat) (S : Nat → Nat → Int32), c ≤ 6 → S 153 7 = nI c → ∃ c', c' ≤ 6 ∧ lsL m p c S 153 7 = nI c'
  | 0, _, c, _, hc, h => ⟨c, hc, h⟩
  | m + 1, p, c, S, hc, h => by
    rw [lsL]
    by_cases q1 : c < 6
    · rw [if_pos q1]
      by_cases q2 : 0 < S 19 (6 * p)
      · rw [if_pos q2]; exact lsL_ct m _ _ _ (by omega) (up2_same _ _ _ _)
      · rw [if_neg q2]; exact lsL_ct m _ _ _ hc h
    · rw [if_neg q1]; exact ⟨c, hc, h⟩
def lsF (S : Nat → Nat → Int32) : Nat → Nat → Int32 := lsL 16 0 0 (up2 S 153 7 0)
def ctF (S : Nat → Nat → Int32) : Nat := tn (lsF S 153 7)
def fwG (S : Nat → Nat → Int32) : Nat → Nat → Int32 := fwF (lsF S) (ctF S)
def lnF (S : Nat → Nat → Int32) : Nat := tn (fwG S 153 6)
/-- the values of all sets of the armed places are found -/
def meS (S : Nat → Nat → Int32) : Nat → Nat → Int32 := msL (lnF S) (2 ^ ctF S) 0 (fwG S)
theorem ctF_ok (S : Nat → Nat → Int32) : ctF S ≤ 6 ∧ lsF S 153 7 = nI (ctF S) := by
  obtain ⟨c, hc, h⟩ := lsL_ct 16 0 0 (up2 S 153 7 0) (by decide) (up2_same _ _ _ _)
  have h : lsF S 153 7 = nI c := h
  unfold ctF
  rw [h, tn_nI (by omega)]
  exact ⟨hc, rfl⟩
theorem lsF_row {S : Nat → Nat → Int32} {a : Nat} (h1 : a ≠ 153) (h2 : a ≠ 158) (h3 : a ≠ 159) : lsF S a = S a := by unfold lsF; rw [lsL_row _ _ _ _ _ h1 h2 h3, up2_row h1]
theorem fwG_ok (S : Nat → Nat → Int32) : lnF S ≤ 1980 ∧ wfE (fwG S) (ctF S) (lnF S) := by
  obtain ⟨hc, h7⟩ := ctF_ok S
  obtain ⟨len, hl, h⟩ := fwL_E hc 1980 0 (up2 (cpR (lsF S) 154 14 4) 153 6 0) (by decide) (by rw [up2_ne (Or.inr (by decide)), cpR_row (by omega)]; exact h7) (up2_same _ _ _ _) (fun j hj => absurd hj (Nat.not_lt_zero j))
  have h : wfE (fwG S) (ctF S) len := h
  have e : lnF S = len := by unfold lnF; rw [h.2.1, tn_nI (by omega)]
  rw [e]
  exact ⟨hl, h⟩
set_option maxRecDepth 100000 in
set_option maxHeartbeats 4000000 in
theorem l_X7_measure (G : GT) (L : Nat → Int64) (c len : Nat) (hc : c ≤ 6) (hlen : len ≤ 1980) : ∀ (m : Nat) (S : Nat → Nat → Int32) (k : Nat), 2 ^ c - k = m → k ≤ 2 ^ c → wfE S c len → sv_V G R_X7_measure RX7 "measure" cX7_measure 4 none (sPo G R_X7_measure none (msL len m k S) L) 0 0 197 (CF G S L) 16 [(3, .int (nI k)), (0, .ref (gB G + 153)), (1, .ref (gB G + 13)), (2, .ref (gB G + 3))] [] := by
  have h64 := pow6 hc
  intro m
  induction m using Nat.strongRecOn
  rename_i m ih
  intro S k hm hk hw
  refine sv_iload_n 0 dX7_measure_16 rfl ?_
  refine sv_iconst (v := 1) dX7_measure_17 (by decide) ?_
  refine sv_aload_n 1 dX7_measure_18 rfl ?_
  refine sg_7_7 sh_153 fl_RX7_48 dX7_measure_19 ?_
  refine sv_ishl dX7_measure_22 ?_
  refine sv_topE (v' := nI (2 ^ c)) (by rw [hw.1]; exact shl1 c hc) ?_
  refine sv_icmp_ge (tgt := 43) dX7_measure_23 (by decide) (fun c23 => ?_) (fun c23 => ?_)
  · -- jump
    obtain rfl : m = 0 := by have := (nI_leI (by omega) (by omega)).mp c23; omega
    exact se_vret rfl ⟨rfl, rfl⟩ dX7_measure_43 (sEq.rf _)
  · -- fall
    have hlt : k < 2 ^ c := Nat.lt_of_not_le (fun z => c23 (nI_le z (by omega)))
    obtain ⟨m2, rfl⟩ : ∃ j, m = j + 1 := ⟨m - 1, by omega⟩
    rw [msL]
    refine sv_aload_n 1 dX7_measure_26 rfl ?_
    refine sg_7_5 sh_153 fl_RX7_31 dX7_measure_27 ?_
    refine sv_iload_n 0 dX7_measure_30 rfl ?_
    refine sv_aload_n 1 dX7_measure_31 rfl ?_
    refine sv_iload_n 0 dX7_measure_32 rfl ?_
    refine cVi1 (e_X7_valueOf G _ _ _ len hlen hw.2.1 hw.2.2) ⟨rfl, rfl⟩ (sv_w5 ml_RX7_52 im_X7_valueOf sl_X7_valueOf in_RX7 cd_X7_valueOf) nm_X7_valueOf ⟨Nat.le_of_ble_eq_true rfl, Nat.le_of_ble_eq_true rfl⟩ rfl (CF_7 sh_153) (shp_lt sh_153 (by simp)) (Nat.le_of_ble_eq_true rfl) ⟨Nat.le_of_ble_eq_true rfl, Nat.le_of_ble_eq_true rfl⟩ dX7_measure_33 ?_
    refine sx_ist sh_162 k rfl (by omega) dX7_measure_36 ?_
    refine sv_iinc 0 (ls' := [(3, _), (0, _), (1, _), (2, _)]) dX7_measure_37 rfl (nI_1 _) (by decide) rfl ?_
    refine sv_goto (tgt := 16) dX7_measure_40 (by decide) ?_
    exact ih m2 (by omega) _ (k + 1) (by omega) (by omega) (wfE_s hw)
set_option maxRecDepth 100000 in
set_option maxHeartbeats 4000000 in
theorem e_X7_measure (G : GT) (S : Nat → Nat → Int32) (L : Nat → Int64) (hm : wfM S 14) (hp : wfP S 3) : sE G yX7_measure R_X7_measure cX7_measure 4 none [.ref (gB G + 153), .ref (gB G + 13), .ref (gB G + 3)] S L none (meS S) L := by
  refine sE.of (by decide) (Nat.le_of_ble_eq_true rfl) ?_
  show sv_V G R_X7_measure RX7 "measure" cX7_measure 4 none (sPo G R_X7_measure none (meS S) L) 0 0 197 (CF G S L) 0 [(0, .ref (gB G + 153)), (1, .ref (gB G + 13)), (2, .ref (gB G + 3))] []
  refine sv_aload_n 0 dX7_measure_0 rfl ?_
  refine sv_aload_n 1 dX7_measure_1 rfl ?_
  refine sg_6_1 isState_13.1 fl_RX7_34 dX7_measure_2 ?_
  refine cVv1 (e_X7_list G _ _) ⟨rfl, rfl⟩ (sv_w5 ml_RX7_40 im_X7_list sl_X7_list in_RX7 cd_X7_list) nm_X7_list ⟨Nat.le_of_ble_eq_true rfl, Nat.le_of_ble_eq_true rfl⟩ rfl (CF_7 sh_153) (shp_lt sh_153 (by simp)) (Nat.le_of_ble_eq_true rfl) ⟨Nat.le_of_ble_eq_true rfl, Nat.le_of_ble_eq_true rfl⟩ dX7_measure_5 ?_
  refine sv_aload_n 0 dX7_measure_8 rfl ?_
  refine sv_aload_n 1 dX7_measure_9 rfl ?_
  refine sv_aload_n 2 dX7_measure_10 rfl ?_
  refine cVv2 (e_X7_follow G _ _ (ctF S) (ctF_ok S).1 (by unfold wfM; rw [lsL_row _ _ _ _ _ (by omega) (by omega) (by omega), up2_row (by omega)]; exact hm) (wfP_row hp (lsF_row (by omega) (by omega) (by omega)) (lsF_row (by omega) (by omega) (by omega)) (lsF_row (by omega) (by omega) (by omega)) (lsF_row (by omega) (by omega) (by omega))) (ctF_ok S).2) ⟨rfl, rfl⟩ (sv_w5 ml_RX7_44 im_X7_follow sl_X7_follow in_RX7 cd_X7_follow) nm_X7_follow ⟨Nat.le_of_ble_eq_true rfl, Nat.le_of_ble_eq_true rfl⟩ rfl (CF_7 sh_153) (shp_lt sh_153 (by simp)) (Nat.le_of_ble_eq_true rfl) ⟨Nat.le_of_ble_eq_true rfl, Nat.le_of_ble_eq_true rfl⟩ dX7_measure_11 ?_
  refine sv_iconst (v := 0) dX7_measure_14 (by decide) ?_
  refine sv_istore_n (ls' := [(3, _), (0, _), (1, _), (2, _)]) dX7_measure_15 (by decide) rfl ?_
  exact l_X7_measure G L (ctF S) (lnF S) (ctF_ok S).1 (fwG_ok S).1 _ (fwG S) 0 (Nat.sub_zero _) (Nat.zero_le _) (fwG_ok S).2
