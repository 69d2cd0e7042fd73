theorem pwI_nI (b : Nat) : ∀ (m a : Nat), pwI (nI b) m (nI a) = nI (a * b ^ m)
  | 0, a => by rw [pwI, Nat.pow_zero, Nat.mul_one]
  | m + 1, a => by rw [pwI, pk_mul, pwI_nI b m (a * b), Nat.pow_succ, Nat.mul_assoc, Nat.mul_comm b]
theorem nI_sub {a b : Nat} (h : b ≤ a) : nI a - nI b = nI (a - b) := by
  rw [show nI a = nI (a - b) + nI b from by rw [nI_add, Nat.sub_add_cancel h]]; simp
def chT (x : Int32) (c k : Nat) : Int32 := pwI (10 - x) (tn (on16 k)) 1 * pwI x (tn (nI c - on16 k)) 1
theorem chT_nI {x : Int32} {X c k : Nat} (hx : x = nI X) (hX : X ≤ 10) (hc : c < 7) (hk : k < 2 ^ c) : ∃ t, t ≤ 1000000 ∧ chT x c k = nI t := by
  have h1 := on_ok c hc k hk
  have e : on16 k = nI (tn (on16 k)) := nI_self h1.1
  generalize ho : tn (on16 k) = o at *
  have e2 : tn (nI c - on16 k) = c - o := by rw [e, nI_sub h1.2, tn_nI (by omega)]
  refine ⟨(10 - X) ^ o * X ^ (c - o), ?_, ?_⟩
  · have h2 : (10 - X) ^ o ≤ 10 ^ o := Nat.pow_le_pow_left (by omega) _
    have h3 : X ^ (c - o) ≤ 10 ^ (c - o) := Nat.pow_le_pow_left hX _
    have h4 : 10 ^ o * 10 ^ (c - o) = 10 ^ c := by rw [← Nat.pow_add]; congr 1; omega
    have h5 : 10 ^ c ≤ 10 ^ 6 := Nat.pow_le_pow_right (by decide) (by omega)
    have h6 := Nat.mul_le_mul h2 h3
    rw [h4] at h6
    exact Nat.le_trans h6 h5
  · rw [chT, ho, e2, hx, show (10 : Int32) - nI X = nI (10 - X) from nI_sub (a := 10) hX, show (1 : Int32) = nI 1 from rfl, pwI_nI, pwI_nI, pk_mul, Nat.one_mul, Nat.one_mul]
def ychL (v x : Int32) (c : Nat) : Nat → Nat → Int32 → (Nat → Nat → Int32) → Int32 × (Nat → Nat → Int32)
  | 0, _, a, S => (a, S)
  | m + 1, k, a, S => ychL v x c m (k + 1) (a + (if nI (sbF S (nI k) c).1 < v then 0 else chT x c k)) (sbF S (nI k) c).2
abbrev tenP (c : Nat) : Int32 := pwI 10 (tn (nI c)) 1
theorem ten_ok {c : Nat} (hc : c < 7) : tenP c = nI (10 ^ c) ∧ 10 ^ c < 2147483648 ∧ 0 < 10 ^ c := by
  have h5 : 10 ^ c ≤ 10 ^ 6 := Nat.pow_le_pow_right (by decide) (by omega)
  refine ⟨?_, by omega, Nat.pow_pos (by decide)⟩
  show pwI (nI 10) (tn (nI c)) (nI 1) = _
  rw [tn_nI (by omega), pwI_nI, Nat.one_mul]
def ychance (S : Nat → Nat → Int32) (v x up : Int32) : Int32 × (Nat → Nat → Int32) := if inP v 0 20 ∧ inP x 0 10 then (if (lpF S).1 ≤ 6 then (frX (ychL v x (lpF S).1 (2 ^ (lpF S).1) 0 0 (lpF S).2).1 (tenP (lpF S).1) up, (ychL v x (lpF S).1 (2 ^ (lpF S).1) 0 0 (lpF S).2).2) else (-3, (lpF S).2)) else (-2, S)
set_option maxRecDepth 100000 in
set_option maxHeartbeats 4000000 in
theorem l_X10_chance (G : GT) (L : Nat → Int64) (c : Nat) (hc : c < 7) (v x up : Int32) (X : Nat) (hx : x = nI X) (hX : X ≤ 10) : ∀ (m : Nat) (S : Nat → Nat → Int32) (k : Nat) (s : Int32) (A : Nat), 2 ^ c - k = m → k ≤ 2 ^ c → s = nI A → A ≤ k * 1000000 → wfY S → wfR S 184 → plP S c → sv_V G R_X10_chance RX10 "chance" cX10_chance 7 (some .int) (sPo G R_X10_chance (some (.int (frX (ychL v x c m k s S).1 (tenP c) up))) (ychL v x c m k s S).2 L) 0 0 197 (CF G S L) 49 [(6, .int (nI k)), (5, .int s), (4, .int (nI c)), (0, .ref (gB G + 179)), (1, .int v), (2, .int x), (3, .int up)] [] := by
  have h64 := pow6 (show c ≤ 6 by omega)
  intro m
  induction m using Nat.strongRecOn
  rename_i m ih
  intro S k s A hm hk hs hA hY hR hP
  refine sv_iload 0 dX10_chance_49 rfl ?_
  refine sv_iconst (v := 1) dX10_chance_51 (by decide) ?_
  refine sv_iload 2 dX10_chance_52 rfl ?_
  refine sv_ishl dX10_chance_54 ?_
  refine sv_topE (v' := nI (2 ^ c)) (shl1 c (by omega)) ?_
  refine sv_icmp_ge (tgt := 110) dX10_chance_55 (by decide) (fun c55 => ?_) (fun c55 => ?_)
  · -- jump
    obtain rfl : m = 0 := by have := (nI_leI (by omega) (by omega)).mp c55; omega
    have hA2 : A < 2147483648 := by have : k * 1000000 ≤ 64 * 1000000 := Nat.mul_le_mul_right _ (by omega); omega
    have hax : (if s < 0 then -s else s) = nI A := by rw [if_neg (by rw [hs]; exact nI_pos hA2)]; exact hs
    have hxx : tn (if s < 0 then -s else s) = A := by rw [hax, tn_nI hA2]
    have ht := ten_ok hc
    have hbb : tn (tenP c) = 10 ^ c := by rw [ht.1, tn_nI ht.2.1]
    refine sv_iload 1 dX10_chance_110 rfl ?_
    refine sv_bipush (v := 10) dX10_chance_112 (by decide) ?_
    refine sv_iload 2 dX10_chance_114 rfl ?_
    refine cSi2 (e_X10_power G _ _ _ _ (by rw [tn_nI (by omega)]; omega)) ⟨rfl, rfl⟩ (sv_w4 ml_RX10_255 st_X10_power in_RX10 cd_X10_power) nm_X10_power ⟨Nat.le_of_ble_eq_true rfl, Nat.le_of_ble_eq_true rfl⟩ (Nat.le_of_ble_eq_true rfl) ⟨Nat.le_of_ble_eq_true rfl, Nat.le_of_ble_eq_true rfl⟩ dX10_chance_116 ?_
    refine sv_iload_n 6 dX10_chance_119 rfl ?_
    refine cSi3 (e_X10_fraction G _ _ _ _ _ A (10 ^ c) hA2 hax ht.2.1 ht.1 ht.2.2) ⟨rfl, rfl⟩ (sv_w4 ml_RX10_247 st_X10_fraction in_RX10 cd_X10_fraction) nm_X10_fraction ⟨Nat.le_of_ble_eq_true rfl, Nat.le_of_ble_eq_true rfl⟩ (Nat.le_of_ble_eq_true rfl) ⟨Nat.le_of_ble_eq_true rfl, Nat.le_of_ble_eq_true rfl⟩ dX10_chance_120 ?_
    exact se_iret rfl ⟨rfl, rfl⟩ dX10_chance_123 (by rw [ychL, frX]; dsimp only; rw [hxx, hbb]) (by rw [ychL])
  · -- fall
    have h7 : k < 2 ^ c := Nat.lt_of_not_le (fun q => c55 (nI_le q (by omega)))
    obtain ⟨m2, rfl⟩ : ∃ j, m = j + 1 := ⟨m - 1, by omega⟩
    rw [ychL]
    have h1 := on_ok c hc k h7
    have h2 : tn (nI c - on16 k) ≤ 100 := by rw [nI_self h1.1]; exact tn_sub (by omega) (Nat.le_trans h1.2 (by omega))
    have hF := sbF_fr (nI k) hY hR hP
    have hP2 : plP (sbF S (nI k) c).2 c := fun j hj => by rw [hF.2.2 192 j (by decide) (by decide)]; exact hP j hj
    refine sv_iload 1 dX10_chance_58 rfl ?_
    refine sv_aload_n 3 dX10_chance_60 rfl ?_
    refine sv_iload 0 dX10_chance_61 rfl ?_
    refine sv_iload 2 dX10_chance_63 rfl ?_
    refine cVi2 (e_X10_stopsBy G _ _ hY hR _ c (by omega) hP) ⟨rfl, rfl⟩ (sv_w5 ml_RX10_241 im_X10_stopsBy sl_X10_stopsBy in_RX10 cd_X10_stopsBy) nm_X10_stopsBy ⟨Nat.le_of_ble_eq_true rfl, Nat.le_of_ble_eq_true rfl⟩ rfl (CF_10 sh_179) (shp_lt sh_179 (by simp)) (Nat.le_of_ble_eq_true rfl) ⟨Nat.le_of_ble_eq_true rfl, Nat.le_of_ble_eq_true rfl⟩ dX10_chance_65 ?_
    refine sv_iload_n 4 dX10_chance_68 rfl ?_
    refine sv_icmp_lt (tgt := 100) dX10_chance_69 (by decide) (fun c69 => ?_) (fun c69 => ?_)
    · -- jump
      refine sv_iconst (v := 0) dX10_chance_100 (by decide) ?_
      refine sv_iadd dX10_chance_101 ?_
      refine sv_istore (ls' := [(5, _), (6, _), (4, _), (0, _), (1, _), (2, _), (3, _)]) dX10_chance_102 (by decide) rfl ?_
      refine sv_iinc 1 (ls' := [(6, _), (5, _), (4, _), (0, _), (1, _), (2, _), (3, _)]) dX10_chance_104 rfl (nI_1 _) (by decide) rfl ?_
      refine sv_goto (tgt := 49) dX10_chance_107 (by decide) ?_
      rw [if_pos c69]
      refine sv_locals [0, 1, 2, 3, 4, 5, 6] rfl ?_
      exact ih m2 (by omega) _ (k + 1) _ A (by omega) (by omega) (by rw [hs]; simp) (Nat.le_trans hA (Nat.mul_le_mul_right _ (Nat.le_succ k))) hF.2.1 (sbF_wfR _ hY hR hP) hP2
    · -- fall
      refine sv_bipush (v := 10) dX10_chance_72 (by decide) ?_
      refine sv_iload_n 5 dX10_chance_74 rfl ?_
      refine sv_isub dX10_chance_75 ?_
      refine sv_iload 0 dX10_chance_76 rfl ?_
      refine cSi1 (e_X10_ones G _ _ _) ⟨rfl, rfl⟩ (sv_w4 ml_RX10_160 st_X10_ones in_RX10 cd_X10_ones) nm_X10_ones ⟨Nat.le_of_ble_eq_true rfl, Nat.le_of_ble_eq_true rfl⟩ (Nat.le_of_ble_eq_true rfl) ⟨Nat.le_of_ble_eq_true rfl, Nat.le_of_ble_eq_true rfl⟩ dX10_chance_78 ?_
      refine cSi2 (e_X10_power G _ _ _ _ (Nat.le_trans (show tn (onL (nI k) 16 0 0) ≤ c from h1.2) (by omega))) ⟨rfl, rfl⟩ (sv_w4 ml_RX10_255 st_X10_power in_RX10 cd_X10_power) nm_X10_power ⟨Nat.le_of_ble_eq_true rfl, Nat.le_of_ble_eq_true rfl⟩ (Nat.le_of_ble_eq_true rfl) ⟨Nat.le_of_ble_eq_true rfl, Nat.le_of_ble_eq_true rfl⟩ dX10_chance_81 ?_
      refine sv_iload_n 5 dX10_chance_84 rfl ?_
      refine sv_iload 2 dX10_chance_85 rfl ?_
      refine sv_iload 0 dX10_chance_87 rfl ?_
      refine cSi1 (e_X10_ones G _ _ _) ⟨rfl, rfl⟩ (sv_w4 ml_RX10_160 st_X10_ones in_RX10 cd_X10_ones) nm_X10_ones ⟨Nat.le_of_ble_eq_true rfl, Nat.le_of_ble_eq_true rfl⟩ (Nat.le_of_ble_eq_true rfl) ⟨Nat.le_of_ble_eq_true rfl, Nat.le_of_ble_eq_true rfl⟩ dX10_chance_89 ?_
      refine sv_isub dX10_chance_92 ?_
      refine cSi2 (e_X10_power G _ _ _ _ h2) ⟨rfl, rfl⟩ (sv_w4 ml_RX10_255 st_X10_power in_RX10 cd_X10_power) nm_X10_power ⟨Nat.le_of_ble_eq_true rfl, Nat.le_of_ble_eq_true rfl⟩ (Nat.le_of_ble_eq_true rfl) ⟨Nat.le_of_ble_eq_true rfl, Nat.le_of_ble_eq_true rfl⟩ dX10_chance_93 ?_
      refine sv_imul dX10_chance_96 ?_
      refine sv_goto (tgt := 101) dX10_chance_97 (by decide) ?_
      refine sv_iadd dX10_chance_101 ?_
      refine sv_istore (ls' := [(5, _), (6, _), (4, _), (0, _), (1, _), (2, _), (3, _)]) dX10_chance_102 (by decide) rfl ?_
      refine sv_iinc 1 (ls' := [(6, _), (5, _), (4, _), (0, _), (1, _), (2, _), (3, _)]) dX10_chance_104 rfl (nI_1 _) (by decide) rfl ?_
      refine sv_goto (tgt := 49) dX10_chance_107 (by decide) ?_
      rw [if_neg c69]
      obtain ⟨t, ht, et⟩ := chT_nI hx hX hc h7
      refine sv_locals [0, 1, 2, 3, 4, 5, 6] rfl ?_
      exact ih m2 (by omega) _ (k + 1) _ (A + t) (by omega) (by omega) (by rw [hs, et, nI_add]) (by rw [Nat.succ_mul]; exact Nat.add_le_add hA ht) hF.2.1 (sbF_wfR _ hY hR hP) hP2
set_option maxRecDepth 100000 in
set_option maxHeartbeats 4000000 in
theorem e_X10_chance (G : GT) (S : Nat → Nat → Int32) (L : Nat → Int64) (hY : wfY S) (hR : wfR S 184) (v x up : Int32) : sE G yX10_chance R_X10_chance cX10_chance 7 (some .int) [.ref (gB G + 179), .int v, .int x, .int up] S L (some (.int (ychance S v x up).1)) (ychance S v x up).2 L := by
  refine sE.of (by decide) (Nat.le_of_ble_eq_true rfl) ?_
  show sv_V G R_X10_chance RX10 "chance" cX10_chance 7 (some .int) (sPo G R_X10_chance (some (.int (ychance S v x up).1)) (ychance S v x up).2 L) 0 0 197 (CF G S L) 0 [(0, .ref (gB G + 179)), (1, .int v), (2, .int x), (3, .int up)] []
  refine sv_iload_n 1 dX10_chance_0 rfl ?_
  refine sv_i2l dX10_chance_1 rfl ?_
  refine sv_lconst (v := 0) dX10_chance_2 (by decide) ?_
  refine sv_ldc2 ck_RX10_251 dX10_chance_3 ?_
  refine cSi3 (e_inI G _ _ v 0 20 _ _ _ rfl (by decide) (by decide)) ⟨rfl, rfl⟩ (sv_w4 ml_RX10_73 st_X10_in in_RX10 cd_X10_in) nm_X10_in ⟨Nat.le_of_ble_eq_true rfl, Nat.le_of_ble_eq_true rfl⟩ (Nat.le_of_ble_eq_true rfl) ⟨Nat.le_of_ble_eq_true rfl, Nat.le_of_ble_eq_true rfl⟩ dX10_chance_6 ?_
  refine sv_ifeq_b (tgt := 24) dX10_chance_9 (by decide) (fun c9 => ?_) (fun c9 => ?_)
  · -- jump
    refine sv_bipush (v := (-2)) dX10_chance_24 (by decide) ?_
    exact se_iret rfl ⟨rfl, rfl⟩ dX10_chance_26 (by rw [ychance, if_neg (fun h => c9 h.1)]) (by rw [ychance, if_neg (fun h => c9 h.1)])
  · -- fall
    refine sv_iload_n 2 dX10_chance_12 rfl ?_
    refine sv_i2l dX10_chance_13 rfl ?_
    refine sv_lconst (v := 0) dX10_chance_14 (by decide) ?_
    refine sv_ldc2 ck_RX10_253 dX10_chance_15 ?_
    refine cSi3 (e_inI G _ _ x 0 10 _ _ _ rfl (by decide) (by decide)) ⟨rfl, rfl⟩ (sv_w4 ml_RX10_73 st_X10_in in_RX10 cd_X10_in) nm_X10_in ⟨Nat.le_of_ble_eq_true rfl, Nat.le_of_ble_eq_true rfl⟩ (Nat.le_of_ble_eq_true rfl) ⟨Nat.le_of_ble_eq_true rfl, Nat.le_of_ble_eq_true rfl⟩ dX10_chance_18 ?_
    refine sv_ifne_b (tgt := 27) dX10_chance_21 (by decide) (fun c21 => ?_) (fun c21 => ?_)
    · -- jump
      refine sv_aload_n 0 dX10_chance_27 rfl ?_
      refine cVi0 (e_X10_layPlaces G _ _ hY.1) ⟨rfl, rfl⟩ (sv_w5 ml_RX10_238 im_X10_layPlaces sl_X10_layPlaces in_RX10 cd_X10_layPlaces) nm_X10_layPlaces ⟨Nat.le_of_ble_eq_true rfl, Nat.le_of_ble_eq_true rfl⟩ rfl (CF_10 sh_179) (shp_lt sh_179 (by simp)) (Nat.le_of_ble_eq_true rfl) ⟨Nat.le_of_ble_eq_true rfl, Nat.le_of_ble_eq_true rfl⟩ dX10_chance_28 ?_
      refine sv_istore (ls' := [(4, _), (0, _), (1, _), (2, _), (3, _)]) dX10_chance_31 (by decide) rfl ?_
      refine sv_iload 0 dX10_chance_33 rfl ?_
      refine sv_bipush (v := 6) dX10_chance_35 (by decide) ?_
      refine sv_icmp_le (tgt := 43) dX10_chance_37 (by decide) (fun c37 => ?_) (fun c37 => ?_)
      · -- jump
        refine sv_iconst (v := 0) dX10_chance_43 (by decide) ?_
        refine sv_istore (ls' := [(5, _), (4, _), (0, _), (1, _), (2, _), (3, _)]) dX10_chance_44 (by decide) rfl ?_
        refine sv_iconst (v := 0) dX10_chance_46 (by decide) ?_
        refine sv_istore (ls' := [(6, _), (5, _), (4, _), (0, _), (1, _), (2, _), (3, _)]) dX10_chance_47 (by decide) rfl ?_
        have h16 := lpF_le hY.1
        have h6 : (lpF S).1 ≤ 6 := (nI_leI (b := 6) (by omega) (by decide)).mp c37
        rw [ychance, if_pos ⟨c9, c21⟩, if_pos h6]
        exact l_X10_chance G L (lpF S).1 (by omega) v x up (tn x) (nI_self c21.1) (tn_le (M := 10) (k := 10) rfl (by decide) c21.1 c21.2) _ (lpF S).2 0 0 0 (Nat.sub_zero _) (Nat.zero_le _) rfl (by omega) (lpF_wfY hY) (lpF_wfR hY.1 hR) ((lpF_fr hY.1).1 h6)
      · -- fall
        refine sv_bipush (v := (-3)) dX10_chance_40 (by decide) ?_
        exact se_iret rfl ⟨rfl, rfl⟩ dX10_chance_42 (by rw [ychance, if_pos ⟨c9, c21⟩, if_neg (fun h => c37 (nI_le (b := 6) h (by decide)))]) (by rw [ychance, if_pos ⟨c9, c21⟩, if_neg (fun h => c37 (nI_le (b := 6) h (by decide)))])
    · -- fall
      refine sv_bipush (v := (-2)) dX10_chance_24 (by decide) ?_
      exact se_iret rfl ⟨rfl, rfl⟩ dX10_chance_26 (by rw [ychance, if_neg (fun h => c21 h.2)]) (by rw [ychance, if_neg (fun h => c21 h.2)])
