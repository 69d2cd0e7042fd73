abbrev on16 (k : Nat) : Int32 := onL (nI k) 16 0 0
theorem on_ok : ∀ c, c < 7 → ∀ k, k < 2 ^ c → ¬ on16 k < 0 ∧ tn (on16 k) ≤ c := by decide +kernel
theorem fc_ok : ∀ n, n < 7 → ¬ fcL (n - 1) 2 1 < 0 ∧ tn (fcL (n - 1) 2 1) ≤ 720 ∧ ¬ tn (fcL (n - 1) 2 1) = 0 := by decide +kernel
theorem cm_ok : ∀ c, c < 7 → ∀ o, o < 7 → tn (nI c - 1 - nI o) < 7 := by decide +kernel
theorem of_nI (n : Nat) : nI n = Int32.ofInt (n : Int) := (Int32.ofInt_eq_ofNat).symm
theorem tm_of (a b u v : Nat) : nI a * nI b * (nI u - nI v) = Int32.ofInt ((a * b : Nat) * ((u : Int) - (v : Int))) := by
  rw [pk_mul, of_nI (a * b), of_nI u, of_nI v, ← Int32.ofInt_sub, ← Int32.ofInt_mul]
theorem tm_bd {a b u v : Nat} (ha : a ≤ 720) (hb : b ≤ 720) (hu : u ≤ 20) (hv : v ≤ 20) : (((a * b : Nat) : Int) * ((u : Int) - (v : Int))).natAbs ≤ 10368000 := by
  rw [Int.natAbs_mul]
  have h1 : a * b ≤ 720 * 720 := Nat.mul_le_mul ha hb
  have h2 : ((u : Int) - (v : Int)).natAbs ≤ 20 := by omega
  have h3 : ((a * b : Nat) : Int).natAbs ≤ 518400 := by rw [Int.natAbs_natCast]; exact h1
  exact Nat.mul_le_mul h3 h2
theorem of_ne {z : Int} (h : z.natAbs ≤ 663552000) : ¬ Int32.ofInt z = -2147483648 := by
  intro e
  have h1 : (Int32.ofInt z).toInt = z := Int32.toInt_ofInt_of_le (by omega) (by omega)
  rw [e] at h1
  have : (-2147483648 : Int32).toInt = -2147483648 := by decide
  omega
def frX (s below up : Int32) : Int32 := frF s below up (tn (if s < 0 then -s else s)) (tn below)
def sgT (S : Nat → Nat → Int32) (c at_ k : Nat) : Int32 := fcL (tn (on16 k) - 1) 2 1 * fcL (tn (nI c - 1 - on16 k) - 1) 2 1 * (S 193 (k ||| 2 ^ at_) - S 193 k)
def sgL (S : Nat → Nat → Int32) (c at_ : Nat) : Nat → Nat → Int32 → Int32
  | 0, _, a => a
  | m + 1, k, a => sgL S c at_ m (k + 1) (if (nI k >>> (nI at_ &&& 31)) &&& 1 = 1 then a else a + sgT S c at_ k)
def woP (S : Nat → Nat → Int32) (k : Nat) : Prop := ∀ j, j < k → ∃ w, w ≤ 20 ∧ S 193 j = nI w
theorem or_lt {k at_ c : Nat} (hk : k < 2 ^ c) (ha : at_ < c) : k ||| 2 ^ at_ < 2 ^ c := Nat.or_lt_two_pow hk (Nat.pow_lt_pow_right (by decide) ha)
theorem sgT_of {S : Nat → Nat → Int32} {c at_ k : Nat} (hc : c < 7) (ha : at_ < c) (hk : k < 2 ^ c) (hw : woP S (2 ^ c)) : ∃ z : Int, z.natAbs ≤ 10368000 ∧ sgT S c at_ k = Int32.ofInt z := by
  obtain ⟨u, hu, eu⟩ := hw _ (or_lt hk ha)
  obtain ⟨v, hv, ev⟩ := hw _ hk
  have h1 := on_ok c hc k hk
  have f1 := fc_ok (tn (on16 k)) (by omega)
  have e1 : tn (nI c - 1 - on16 k) < 7 := by rw [nI_self h1.1]; exact cm_ok c hc _ (by show tn (on16 k) < 7; omega)
  have f2 := fc_ok (tn (nI c - 1 - on16 k)) e1
  refine ⟨_, tm_bd f1.2.1 f2.2.1 hu hv, ?_⟩
  rw [sgT, eu, ev, ← tm_of, ← nI_self f1.1, ← nI_self f2.1]
set_option maxRecDepth 100000 in
set_option maxHeartbeats 4000000 in
theorem l_X10_shareC (G : GT) (S : Nat → Nat → Int32) (L : Nat → Int64) (c : Nat) (hc : c < 7) (at_ : Nat) (ha : at_ < c) (a up : Int32) (hw : woP S (2 ^ c)) : ∀ (m k : Nat) (z : Int), 2 ^ c - k = m → k ≤ 2 ^ c → z.natAbs ≤ k * 10368000 → sv_V G R_X10_share RX10 "share" cX10_share 8 (some .int) (sPo G R_X10_share (some (.int (frX (sgL S c at_ m k (Int32.ofInt z)) (fcL (tn (nI c) - 1) 2 1) up))) S L) 0 0 197 (CF G S L) 111 [(6, .int (nI k)), (5, .int (Int32.ofInt z)), (4, .int (nI at_)), (3, .int (nI c)), (0, .ref (gB G + 179)), (1, .int a), (2, .int up)] [] := by
  have h64 := pow6 (show c ≤ 6 by omega)
  intro m
  induction m using Nat.strongRecOn
  rename_i m ih
  intro k z hm hk hz
  refine sv_iload 0 dX10_share_111 rfl ?_
  refine sv_iconst (v := 1) dX10_share_113 (by decide) ?_
  refine sv_iload_n 3 dX10_share_114 rfl ?_
  refine sv_ishl dX10_share_115 ?_
  refine sv_topE (v' := nI (2 ^ c)) (shl1 c (by omega)) ?_
  refine sv_icmp_ge (tgt := 183) dX10_share_116 (by decide) (fun c116 => ?_) (fun c116 => ?_)
  · -- jump
    obtain rfl : m = 0 := by have := (nI_leI (by omega) (by omega)).mp c116; omega
    have hzz : ¬ Int32.ofInt z = -2147483648 := of_ne (by omega)
    obtain ⟨x, hx, hax⟩ := abs_nI hzz
    have hxx : tn (if Int32.ofInt z < 0 then -Int32.ofInt z else Int32.ofInt z) = x := by rw [hax, tn_nI hx]
    have hcc : tn (nI c) = c := tn_nI (by omega)
    have f0 := fc_ok (tn (nI c)) (by omega)
    refine sv_iload 1 dX10_share_183 rfl ?_
    refine sv_iload_n 3 dX10_share_185 rfl ?_
    refine cSi1 (e_X10_factorial G _ _ _ (by omega)) ⟨rfl, rfl⟩ (sv_w4 ml_RX10_244 st_X10_factorial in_RX10 cd_X10_factorial) nm_X10_factorial ⟨Nat.le_of_ble_eq_true rfl, Nat.le_of_ble_eq_true rfl⟩ (Nat.le_of_ble_eq_true rfl) ⟨Nat.le_of_ble_eq_true rfl, Nat.le_of_ble_eq_true rfl⟩ dX10_share_186 ?_
    refine sv_iload_n 6 dX10_share_189 rfl ?_
    refine cSi3 (e_X10_fraction G _ _ _ _ _ x (tn (fcL (tn (nI c) - 1) 2 1)) hx hax (by omega) (nI_self f0.1) (by omega)) ⟨rfl, rfl⟩ (sv_w4 ml_RX10_247 st_X10_fraction in_RX10 cd_X10_fraction) nm_X10_fraction ⟨Nat.le_of_ble_eq_true rfl, Nat.le_of_ble_eq_true rfl⟩ (Nat.le_of_ble_eq_true rfl) ⟨Nat.le_of_ble_eq_true rfl, Nat.le_of_ble_eq_true rfl⟩ dX10_share_190 ?_
    exact se_iret rfl ⟨rfl, rfl⟩ dX10_share_193 (by rw [sgL, frX, hxx]) rfl
  · -- fall
    have h7 : k < 2 ^ c := Nat.lt_of_not_le (fun q => c116 (nI_le q (by omega)))
    obtain ⟨m2, rfl⟩ : ∃ j, m = j + 1 := ⟨m - 1, by omega⟩
    rw [sgL]
    have h1 := on_ok c hc k h7
    have e1 : tn (nI c - 1 - on16 k) < 7 := by rw [nI_self h1.1]; exact cm_ok c hc _ (by show tn (on16 k) < 7; omega)
    refine sv_iload 0 dX10_share_119 rfl ?_
    refine sv_iload 2 dX10_share_121 rfl ?_
    refine cSi2 (e_X10_has G _ _ _ _) ⟨rfl, rfl⟩ (sv_w4 ml_RX10_163 st_X10_has in_RX10 cd_X10_has) nm_X10_has ⟨Nat.le_of_ble_eq_true rfl, Nat.le_of_ble_eq_true rfl⟩ (Nat.le_of_ble_eq_true rfl) ⟨Nat.le_of_ble_eq_true rfl, Nat.le_of_ble_eq_true rfl⟩ dX10_share_123 ?_
    refine sv_ifne_b (tgt := 177) dX10_share_126 (by decide) (fun c126 => ?_) (fun c126 => ?_)
    · -- jump
      refine sv_iinc 0 (ls' := [(6, _), (5, _), (4, _), (3, _), (0, _), (1, _), (2, _)]) dX10_share_177 rfl (nI_1 _) (by decide) rfl ?_
      refine sv_goto (tgt := 111) dX10_share_180 (by decide) ?_
      rw [if_pos c126]
      exact ih m2 (by omega) (k + 1) z (by omega) (by omega) (Nat.le_trans hz (Nat.mul_le_mul_right _ (Nat.le_succ k)))
    · -- fall
      refine sv_iload 0 dX10_share_129 rfl ?_
      refine cSi1 (e_X10_ones G _ _ _) ⟨rfl, rfl⟩ (sv_w4 ml_RX10_160 st_X10_ones in_RX10 cd_X10_ones) nm_X10_ones ⟨Nat.le_of_ble_eq_true rfl, Nat.le_of_ble_eq_true rfl⟩ (Nat.le_of_ble_eq_true rfl) ⟨Nat.le_of_ble_eq_true rfl, Nat.le_of_ble_eq_true rfl⟩ dX10_share_131 ?_
      refine sv_istore (ls' := [(7, _), (6, _), (5, _), (4, _), (3, _), (0, _), (1, _), (2, _)]) dX10_share_134 (by decide) rfl ?_
      refine sv_iload 2 dX10_share_136 rfl ?_
      refine sv_iload 0 dX10_share_138 rfl ?_
      refine cSi1 (e_X10_factorial G _ _ _ (Nat.le_trans (show tn (onL (nI k) 16 0 0) ≤ c from h1.2) (by omega))) ⟨rfl, rfl⟩ (sv_w4 ml_RX10_244 st_X10_factorial in_RX10 cd_X10_factorial) nm_X10_factorial ⟨Nat.le_of_ble_eq_true rfl, Nat.le_of_ble_eq_true rfl⟩ (Nat.le_of_ble_eq_true rfl) ⟨Nat.le_of_ble_eq_true rfl, Nat.le_of_ble_eq_true rfl⟩ dX10_share_140 ?_
      refine sv_iload_n 4 dX10_share_143 rfl ?_
      refine sv_iconst (v := 1) dX10_share_144 (by decide) ?_
      refine sv_isub dX10_share_145 ?_
      refine sv_iload 0 dX10_share_146 rfl ?_
      refine sv_isub dX10_share_148 ?_
      refine cSi1 (e_X10_factorial G _ _ _ (Nat.le_of_lt (Nat.lt_of_lt_of_le (show tn (nI c - 1 - onL (nI k) 16 0 0) < 7 from e1) (by omega)))) ⟨rfl, rfl⟩ (sv_w4 ml_RX10_244 st_X10_factorial in_RX10 cd_X10_factorial) nm_X10_factorial ⟨Nat.le_of_ble_eq_true rfl, Nat.le_of_ble_eq_true rfl⟩ (Nat.le_of_ble_eq_true rfl) ⟨Nat.le_of_ble_eq_true rfl, Nat.le_of_ble_eq_true rfl⟩ dX10_share_149 ?_
      refine sv_imul dX10_share_152 ?_
      refine sv_aload_n 5 dX10_share_153 rfl ?_
      refine sg_10_21 sh_179 fl_RX10_50 dX10_share_154 ?_
      refine sv_iload 1 dX10_share_157 rfl ?_
      refine sv_iconst (v := 1) dX10_share_159 (by decide) ?_
      refine sv_iload 3 dX10_share_160 rfl ?_
      refine sv_ishl dX10_share_162 ?_
      refine sv_ior dX10_share_163 ?_
      refine sx_ild sh_193 (k ||| 2 ^ at_) (by rw [shl1 at_ (by omega), fa_or]) (by have := or_lt h7 ha; omega) dX10_share_164 ?_
      refine sv_aload_n 5 dX10_share_165 rfl ?_
      refine sg_10_21 sh_179 fl_RX10_50 dX10_share_166 ?_
      refine sv_iload 1 dX10_share_169 rfl ?_
      refine sx_ild sh_193 k rfl (by omega) dX10_share_171 ?_
      refine sv_isub dX10_share_172 ?_
      refine sv_imul dX10_share_173 ?_
      refine sv_iadd dX10_share_174 ?_
      refine sv_istore (ls' := [(5, _), (7, _), (6, _), (4, _), (3, _), (0, _), (1, _), (2, _)]) dX10_share_175 (by decide) rfl ?_
      refine sv_iinc 2 (ls' := [(6, _), (5, _), (7, _), (4, _), (3, _), (0, _), (1, _), (2, _)]) dX10_share_177 rfl (nI_1 _) (by decide) rfl ?_
      refine sv_goto (tgt := 111) dX10_share_180 (by decide) ?_
      rw [if_neg c126]
      obtain ⟨t, ht, et⟩ := sgT_of hc ha h7 hw
      have h := ih m2 (by omega) (k + 1) (z + t) (by omega) (by omega) (Nat.le_trans (Int.natAbs_add_le z t) (by rw [Nat.succ_mul]; exact Nat.add_le_add hz ht))
      rw [Int32.ofInt_add, ← et] at h
      refine sv_locals [0, 1, 3, 4, 5, 6, 7] rfl ?_
      exact h
def swA (c k : Nat) (S : Nat → Nat → Int32) : Nat → Nat → Int32 := up2 (sbF S (nI k) c).2 193 k (nI (sbF S (nI k) c).1)
def swL (c : Nat) : Nat → Nat → (Nat → Nat → Int32) → Nat → Nat → Int32
  | 0, _, S => S
  | m + 1, k, S => swL c m (k + 1) (swA c k S)
theorem swA_fr {c k : Nat} {S : Nat → Nat → Int32} (hY : wfY S) (hR : wfR S 184) (hP : plP S c) {q a : Nat} (h : q ≠ 185 ∧ q ≠ 191) (h2 : q ≠ 193 ∨ a ≠ k) : swA c k S q a = S q a := by
  rw [swA, up2_ne h2, (sbF_fr (nI k) hY hR hP).2.2 q a h.1 h.2]
theorem swA_wfY {c k : Nat} {S : Nat → Nat → Int32} (hY : wfY S) (hR : wfR S 184) (hP : plP S c) : wfY (swA c k S) := wfY_of (swA_fr hY hR hP (by decide) (Or.inl (by decide))) (fun q hq => funext (fun a => swA_fr hY hR hP (by omega) (Or.inl (by omega)))) hY
theorem swA_wfR {c k : Nat} {S : Nat → Nat → Int32} (hY : wfY S) (hR : wfR S 184) (hP : plP S c) : wfR (swA c k S) 184 := wfR_row (funext (fun a => swA_fr hY hR hP (by decide) (Or.inl (by decide)))) hR
theorem swA_pl {c k : Nat} {S : Nat → Nat → Int32} (hY : wfY S) (hR : wfR S 184) (hP : plP S c) : plP (swA c k S) c := fun j hj => by
  rw [swA_fr hY hR hP (by decide) (Or.inl (by decide))]; exact hP j hj
theorem swA_wo {c k : Nat} {S : Nat → Nat → Int32} (hY : wfY S) (hR : wfR S 184) (hP : plP S c) (hw : woP S k) : woP (swA c k S) (k + 1) := fun j hj => by
  by_cases z : j = k
  · subst z; exact ⟨_, (sbF_fr (nI j) hY hR hP).1, by rw [swA, up2_same]⟩
  · obtain ⟨w, h1, h2⟩ := hw j (by omega)
    exact ⟨w, h1, by rw [swA_fr hY hR hP (by decide) (Or.inr z)]; exact h2⟩
set_option maxRecDepth 100000 in
set_option maxHeartbeats 4000000 in
theorem l_X10_shareB (G : GT) (L : Nat → Int64) (c : Nat) (hc : c < 7) (at_ : Nat) (ha : at_ < c) (a up : Int32) : ∀ (m : Nat) (S : Nat → Nat → Int32) (k : Nat), 2 ^ c - k = m → k ≤ 2 ^ c → wfY S → wfR S 184 → plP S c → woP S k → sv_V G R_X10_share RX10 "share" cX10_share 8 (some .int) (sPo G R_X10_share (some (.int (frX (sgL (swL c m k S) c at_ (2 ^ c) 0 0) (fcL (tn (nI c) - 1) 2 1) up))) (swL c m k S) L) 0 0 197 (CF G S L) 77 [(5, .int (nI k)), (4, .int (nI at_)), (3, .int (nI c)), (0, .ref (gB G + 179)), (1, .int a), (2, .int up)] [] := by
  have h64 := pow6 (show c ≤ 6 by omega)
  intro m
  induction m using Nat.strongRecOn
  rename_i m ih
  intro S k hm hk hY hR hP hw
  refine sv_iload 0 dX10_share_77 rfl ?_
  refine sv_iconst (v := 1) dX10_share_79 (by decide) ?_
  refine sv_iload_n 2 dX10_share_80 rfl ?_
  refine sv_ishl dX10_share_81 ?_
  refine sv_topE (v' := nI (2 ^ c)) (shl1 c (by omega)) ?_
  refine sv_icmp_ge (tgt := 105) dX10_share_82 (by decide) (fun c82 => ?_) (fun c82 => ?_)
  · -- jump
    obtain rfl : m = 0 := by have := (nI_leI (by omega) (by omega)).mp c82; omega
    obtain rfl : k = 2 ^ c := by omega
    rw [swL]
    refine sv_iconst (v := 0) dX10_share_105 (by decide) ?_
    refine sv_istore (ls' := [(5, _), (4, _), (3, _), (0, _), (1, _), (2, _)]) dX10_share_106 (by decide) rfl ?_
    refine sv_iconst (v := 0) dX10_share_108 (by decide) ?_
    refine sv_istore (ls' := [(6, _), (5, _), (4, _), (3, _), (0, _), (1, _), (2, _)]) dX10_share_109 (by decide) rfl ?_
    exact l_X10_shareC G S L c hc at_ ha a up hw _ 0 0 (Nat.sub_zero _) (Nat.zero_le _) (by decide)
  · -- fall
    have h7 : k < 2 ^ c := Nat.lt_of_not_le (fun q => c82 (nI_le q (by omega)))
    obtain ⟨m2, rfl⟩ : ∃ j, m = j + 1 := ⟨m - 1, by omega⟩
    rw [swL]
    refine sv_aload_n 3 dX10_share_85 rfl ?_
    refine sg_10_21 sh_179 fl_RX10_50 dX10_share_86 ?_
    refine sv_iload 0 dX10_share_89 rfl ?_
    refine sv_aload_n 3 dX10_share_91 rfl ?_
    refine sv_iload 0 dX10_share_92 rfl ?_
    refine sv_iload_n 2 dX10_share_94 rfl ?_
    refine cVi2 (e_X10_stopsBy G _ _ hY hR _ c (by omega) hP) ⟨rfl, rfl⟩ (sv_w5 ml_RX10_241 im_X10_stopsBy sl_X10_stopsBy in_RX10 cd_X10_stopsBy) nm_X10_stopsBy ⟨Nat.le_of_ble_eq_true rfl, Nat.le_of_ble_eq_true rfl⟩ rfl (CF_10 sh_179) (shp_lt sh_179 (by simp)) (Nat.le_of_ble_eq_true rfl) ⟨Nat.le_of_ble_eq_true rfl, Nat.le_of_ble_eq_true rfl⟩ dX10_share_95 ?_
    refine sx_ist sh_193 k rfl (by omega) dX10_share_98 ?_
    refine sv_iinc 0 (ls' := [(5, _), (4, _), (3, _), (0, _), (1, _), (2, _)]) dX10_share_99 rfl (nI_1 _) (by decide) rfl ?_
    refine sv_goto (tgt := 77) dX10_share_102 (by decide) ?_
    exact ih m2 (by omega) (swA c k S) (k + 1) (by omega) (by omega) (swA_wfY hY hR hP) (swA_wfR hY hR hP) (swA_pl hY hR hP) (swA_wo hY hR hP hw)
def shA (S : Nat → Nat → Int32) (a : Int32) : Nat → Nat → Nat → Nat
  | 0, _, x => x
  | m + 1, j, x => shA S a m (j + 1) (if S 192 j = a then j else x)
set_option maxRecDepth 100000 in
set_option maxHeartbeats 4000000 in
theorem l_X10_shareA (G : GT) (S : Nat → Nat → Int32) (L : Nat → Int64) (c : Nat) (hc : c < 7) (hc0 : 0 < c) (a up : Int32) (hY : wfY S) (hR : wfR S 184) (hP : plP S c) : ∀ (m j x : Nat), c - j = m → j ≤ c → x < c → sv_V G R_X10_share RX10 "share" cX10_share 8 (some .int) (sPo G R_X10_share (some (.int (frX (sgL (swL c (2 ^ c) 0 S) c (shA S a m j x) (2 ^ c) 0 0) (fcL (tn (nI c) - 1) 2 1) up))) (swL c (2 ^ c) 0 S) L) 0 0 197 (CF G S L) 42 [(5, .int (nI j)), (4, .int (nI x)), (3, .int (nI c)), (0, .ref (gB G + 179)), (1, .int a), (2, .int up)] [] := by
  intro m
  induction m using Nat.strongRecOn
  rename_i m ih
  intro j x hm hj hx
  refine sv_iload 0 dX10_share_42 rfl ?_
  refine sv_iload_n 2 dX10_share_44 rfl ?_
  refine sv_icmp_ge (tgt := 74) dX10_share_45 (by decide) (fun c45 => ?_) (fun c45 => ?_)
  · -- jump
    obtain rfl : m = 0 := by have := (nI_leI (by omega) (by omega)).mp c45; omega
    rw [shA]
    refine sv_iconst (v := 0) dX10_share_74 (by decide) ?_
    refine sv_istore (ls' := [(5, _), (4, _), (3, _), (0, _), (1, _), (2, _)]) dX10_share_75 (by decide) rfl ?_
    exact l_X10_shareB G L c hc x hx a up _ S 0 (Nat.sub_zero _) (Nat.zero_le _) hY hR hP (fun j hj => absurd hj (by omega))
  · -- fall
    have h7 : j < c := Nat.lt_of_not_le (fun q => c45 (nI_le q (by omega)))
    obtain ⟨m2, rfl⟩ : ∃ k, m = k + 1 := ⟨m - 1, by omega⟩
    rw [shA]
    refine sv_aload_n 3 dX10_share_48 rfl ?_
    refine sg_10_20 sh_179 fl_RX10_47 dX10_share_49 ?_
    refine sv_iload 0 dX10_share_52 rfl ?_
    refine sx_ild sh_192 j rfl (by omega) dX10_share_54 ?_
    refine sv_iload_n 4 dX10_share_55 rfl ?_
    refine sv_icmp_ne (tgt := 64) dX10_share_56 (by decide) (fun c56 => ?_) (fun c56 => ?_)
    · -- jump
      refine sv_iload 1 dX10_share_64 rfl ?_
      refine sv_istore (ls' := [(4, _), (5, _), (3, _), (0, _), (1, _), (2, _)]) dX10_share_66 (by decide) rfl ?_
      refine sv_iinc 1 (ls' := [(5, _), (4, _), (3, _), (0, _), (1, _), (2, _)]) dX10_share_68 rfl (nI_1 _) (by decide) rfl ?_
      refine sv_goto (tgt := 42) dX10_share_71 (by decide) ?_
      rw [if_neg c56]
      exact ih m2 (by omega) (j + 1) _ (by omega) (by omega) (by omega)
    · -- fall
      refine sv_iload 0 dX10_share_59 rfl ?_
      refine sv_goto (tgt := 66) dX10_share_61 (by decide) ?_
      refine sv_istore (ls' := [(4, _), (5, _), (3, _), (0, _), (1, _), (2, _)]) dX10_share_66 (by decide) rfl ?_
      refine sv_iinc 1 (ls' := [(5, _), (4, _), (3, _), (0, _), (1, _), (2, _)]) dX10_share_68 rfl (nI_1 _) (by decide) rfl ?_
      refine sv_goto (tgt := 42) dX10_share_71 (by decide) ?_
      rw [if_pos c56]
      exact ih m2 (by omega) (j + 1) _ (by omega) (by omega) (by omega)
theorem lp_pos : ∀ (m p x : Nat) (S : Nat → Nat → Int32), x ≤ (lpL m p x S).1
  | 0, _, _, _ => Nat.le_refl _
  | m + 1, p, x, S => by
    rw [lpL]
    split
    · exact Nat.le_trans (Nat.le_succ _) (lp_pos m (p + 1) (x + 1) _)
    · exact lp_pos m (p + 1) x S
theorem lp_has : ∀ (m p x : Nat) (S : Nat → Nat → Int32) (a : Nat), p ≤ a → a < p + m → 0 < S 184 (26 + a) → x < (lpL m p x S).1
  | 0, p, _, _, a, h1, h2, _ => absurd h2 (by omega)
  | m + 1, p, x, S, a, h1, h2, h3 => by
    rw [lpL]
    by_cases c : 0 < S 184 (26 + p)
    · rw [if_pos c]; exact Nat.lt_of_lt_of_le (Nat.lt_succ_self x) (lp_pos m (p + 1) (x + 1) _)
    · rw [if_neg c]
      have : a ≠ p := fun z => c (by rw [← z]; exact h3)
      exact lp_has m (p + 1) x S a (by omega) (by omega) h3
def yshW (S : Nat → Nat → Int32) : Nat → Nat → Int32 := swL (lpF S).1 (2 ^ (lpF S).1) 0 (lpF S).2
def yshare (S : Nat → Nat → Int32) (a up : Int32) : Int32 × (Nat → Nat → Int32) := if hasY S a then (if ¬ S 184 (26 + tn a) = 0 ∧ (lpF S).1 ≤ 6 then (frX (sgL (yshW S) (lpF S).1 (shA (lpF S).2 a (lpF S).1 0 0) (2 ^ (lpF S).1) 0 0) (fcL (tn (nI (lpF S).1) - 1) 2 1) up, yshW S) else (-3, (lpF S).2)) else (-1, S)
theorem lp_le : ∀ (m p x : Nat) (S : Nat → Nat → Int32), (lpL m p x S).1 ≤ x + m
  | 0, _, _, _ => Nat.le_refl _
  | m + 1, p, x, S => by
    rw [lpL]
    split
    · have := lp_le m (p + 1) (x + 1) (up2 S 192 (if x < 6 then x else 5) (nI p)); omega
    · have := lp_le m (p + 1) x S; omega
theorem lpF_le {S : Nat → Nat → Int32} (hN : wfN S) : (lpF S).1 ≤ 16 := by
  have := lp_le (tn (S 179 2)) 0 0 S
  have := tn_16 hN.1 hN.2
  unfold lpF; omega
theorem lpF_wfY {S : Nat → Nat → Int32} (hY : wfY S) : wfY (lpF S).2 := wfY_of (by rw [(lpF_fr hY.1).2 179 (by decide)]) (fun k hk => (lpF_fr hY.1).2 k (by omega)) hY
theorem lpF_wfR {S : Nat → Nat → Int32} (hN : wfN S) (hR : wfR S 184) : wfR (lpF S).2 184 := wfR_row ((lpF_fr hN).2 184 (by decide)) hR
set_option maxRecDepth 100000 in
set_option maxHeartbeats 4000000 in
theorem e_X10_share (G : GT) (S : Nat → Nat → Int32) (L : Nat → Int64) (hY : wfY S) (hR : wfR S 184) (hK : ∀ p, p < 16 → ¬ S 184 (26 + p) < 0) (a up : Int32) : sE G yX10_share R_X10_share cX10_share 8 (some .int) [.ref (gB G + 179), .int a, .int up] S L (some (.int (yshare S a up).1)) (yshare S a up).2 L := by
  refine sE.of (by decide) (Nat.le_of_ble_eq_true rfl) ?_
  show sv_V G R_X10_share RX10 "share" cX10_share 8 (some .int) (sPo G R_X10_share (some (.int (yshare S a up).1)) (yshare S a up).2 L) 0 0 197 (CF G S L) 0 [(0, .ref (gB G + 179)), (1, .int a), (2, .int up)] []
  refine sv_aload_n 0 dX10_share_0 rfl ?_
  refine sv_iload_n 1 dX10_share_1 rfl ?_
  refine cVi1 (e_X10_isPlace G _ _ hY.1 _) ⟨rfl, rfl⟩ (sv_w5 ml_RX10_135 im_X10_isPlace sl_X10_isPlace in_RX10 cd_X10_isPlace) nm_X10_isPlace ⟨Nat.le_of_ble_eq_true rfl, Nat.le_of_ble_eq_true rfl⟩ rfl (CF_10 sh_179) (shp_lt sh_179 (by simp)) (Nat.le_of_ble_eq_true rfl) ⟨Nat.le_of_ble_eq_true rfl, Nat.le_of_ble_eq_true rfl⟩ dX10_share_2 ?_
  refine sv_ifne_b (tgt := 10) dX10_share_5 (by decide) (fun c5 => ?_) (fun c5 => ?_)
  · -- jump
    refine sv_aload_n 0 dX10_share_10 rfl ?_
    refine cVi0 (e_X10_layPlaces G _ _ hY.1) ⟨rfl, rfl⟩ (sv_w5 ml_RX10_238 im_X10_layPlaces sl_X10_layPlaces in_RX10 cd_X10_layPlaces) nm_X10_layPlaces ⟨Nat.le_of_ble_eq_true rfl, Nat.le_of_ble_eq_true rfl⟩ rfl (CF_10 sh_179) (shp_lt sh_179 (by simp)) (Nat.le_of_ble_eq_true rfl) ⟨Nat.le_of_ble_eq_true rfl, Nat.le_of_ble_eq_true rfl⟩ dX10_share_11 ?_
    refine sv_istore_n (ls' := [(3, _), (0, _), (1, _), (2, _)]) dX10_share_14 (by decide) rfl ?_
    refine sv_aload_n 1 dX10_share_15 rfl ?_
    refine sg_10_6 sh_179 fl_RX10_22 dX10_share_16 ?_
    refine sv_bipush (v := 26) dX10_share_19 (by decide) ?_
    refine sv_iload_n 2 dX10_share_21 rfl ?_
    refine sv_iadd dX10_share_22 ?_
    refine sx_ild sh_184 (26 + tn a) (ad_tn 26 c5.1) (by have := (hY16 hY.1 c5).2; omega) dX10_share_23 ?_
    refine sv_topE (v' := S 184 (26 + tn a)) (by rw [(lpF_fr hY.1).2 184 (by decide)]) ?_
    refine sv_if_eq (tgt := 33) dX10_share_24 (by decide) (fun c24 => ?_) (fun c24 => ?_)
    · -- jump
      refine sv_bipush (v := (-3)) dX10_share_33 (by decide) ?_
      exact se_iret rfl ⟨rfl, rfl⟩ dX10_share_35 (by rw [yshare, if_pos c5, if_neg (fun h => h.1 c24)]) (by rw [yshare, if_pos c5, if_neg (fun h => h.1 c24)])
    · -- fall
      refine sv_iload_n 0 dX10_share_27 rfl ?_
      refine sv_bipush (v := 6) dX10_share_28 (by decide) ?_
      refine sv_icmp_le (tgt := 36) dX10_share_30 (by decide) (fun c30 => ?_) (fun c30 => ?_)
      · -- jump
        refine sv_iconst (v := 0) dX10_share_36 (by decide) ?_
        refine sv_istore (ls' := [(4, _), (3, _), (0, _), (1, _), (2, _)]) dX10_share_37 (by decide) rfl ?_
        refine sv_iconst (v := 0) dX10_share_39 (by decide) ?_
        refine sv_istore (ls' := [(5, _), (4, _), (3, _), (0, _), (1, _), (2, _)]) dX10_share_40 (by decide) rfl ?_
        have h16 := lpF_le hY.1
        have h6 : (lpF S).1 ≤ 6 := (nI_leI (b := 6) (by omega) (by decide)).mp c30
        have hpos : 0 < S 184 (26 + tn a) := Int32.lt_of_le_of_ne (Int32.not_lt.mp (hK _ (hY16 hY.1 c5).2)) (fun z => c24 z.symm)
        have h0 : 0 < (lpF S).1 := lp_has (tn (S 179 2)) 0 0 S (tn a) (by omega) (by have := (hY16 hY.1 c5).1; omega) hpos
        rw [yshare, if_pos c5, if_pos ⟨c24, h6⟩]
        exact l_X10_shareA G (lpF S).2 L (lpF S).1 (by omega) h0 a up (lpF_wfY hY) (lpF_wfR hY.1 hR) ((lpF_fr hY.1).1 h6) _ 0 0 (by omega) (by omega) h0
      · -- fall
        refine sv_bipush (v := (-3)) dX10_share_33 (by decide) ?_
        exact se_iret rfl ⟨rfl, rfl⟩ dX10_share_35 (by rw [yshare, if_pos c5, if_neg (fun h => c30 (nI_le (b := 6) h.2 (by decide)))]) (by rw [yshare, if_pos c5, if_neg (fun h => c30 (nI_le (b := 6) h.2 (by decide)))])
  · -- fall
    refine sv_iconst (v := (-1)) dX10_share_8 (by decide) ?_
    exact se_iret rfl ⟨rfl, rfl⟩ dX10_share_9 (by rw [yshare, if_neg c5]) (by rw [yshare, if_neg c5])
