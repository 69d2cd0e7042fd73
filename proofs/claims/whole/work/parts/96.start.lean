/-- class and reference, just made, stand alike -/
theorem wfSt_0 {s : Nat} (h : isState s) (hk : s + 8 ≤ 179) : wfSt S0 s := by
  unfold wfSt wfM wfK
  rw [S0_z h.2.1.1 (by decide) (by omega), S0_z h.1 (by decide) (by omega)]
  exact ⟨⟨by decide, by decide, Or.inl rfl⟩, by decide⟩
theorem Rel_0 : Rel S0 S0 := by
  have z : ∀ k c, shp k = c → c ≠ (11, 96) → k ≠ 179 → ∀ j, S0 k j = 0 := fun k c h h2 h3 j => by rw [S0_z h h2 h3]
  have e9 : ∀ j, j ≠ 17 → S0 179 j = 0 := fun j hj => by unfold S0; rw [if_pos rfl, if_neg hj]
  have e917 : S0 179 17 = -9 := by unfold S0; rw [if_pos rfl, if_pos rfl]
  have t0 : tn (0 : Int32) = 0 := rfl
  refine ⟨⟨?_, ?_, fun j hj => ?_⟩, ⟨⟨?_, fun p hp => ?_⟩, ⟨?_, fun p hp => ?_⟩, e917⟩, ?_, ⟨?_, ?_, ?_, ?_, fun i hi => ?_, fun d d1 d2 => ?_⟩, ⟨fun i hi => ?_, fun q hq => ⟨?_, fun hc => ?_⟩⟩, ⟨?_, ?_, fun j hj => ?_⟩⟩
  · rw [z 1 _ rfl (by decide +kernel) (by decide), e9 1 (by decide)]
  · rw [z 1 _ rfl (by decide +kernel) (by decide)]; decide
  · rw [z 1 _ rfl (by decide +kernel) (by decide), t0] at hj; exact absurd hj (by omega)
  · rw [z 3 _ rfl (by decide +kernel) (by decide), e9 2 (by decide)]
  · rw [e9 2 (by decide), t0] at hp; exact absurd hp (by omega)
  · unfold wfN; rw [e9 2 (by decide)]; decide
  · rw [e9 2 (by decide), t0] at hp; exact absurd hp (by omega)
  · refine SR_begin ?_ ?_ ?_ ?_ ?_ (fun j _ => z 184 _ rfl (by decide +kernel) (by decide) j)
    · exact S0_z (c := shp 13) rfl (by decide +kernel) (by decide)
    · exact S0_z (c := shp 14) rfl (by decide +kernel) (by decide)
    · exact S0_z (c := shp 15) rfl (by decide +kernel) (by decide)
    · exact S0_z (c := shp 16) rfl (by decide +kernel) (by decide)
    · exact S0_d (k := 19) (by decide +kernel) (by decide)
  · rw [z 29 _ rfl (by decide +kernel) (by decide), e9 10 (by decide)]
  · rw [z 29 _ rfl (by decide +kernel) (by decide), e9 9 (by decide)]
  · rw [z 29 _ rfl (by decide +kernel) (by decide)]; decide
  · rw [z 29 _ rfl (by decide +kernel) (by decide)]; decide
  · exact wfSt_0 (st_ring i hi) (by omega)
  · rw [z 29 _ rfl (by decide +kernel) (by decide), t0] at d2; exact absurd d2 (by omega)
  · exact wfSt_0 (st_slot i hi) (by omega)
  · rw [z 144 _ rfl (by decide +kernel) (by decide), z 188 _ rfl (by decide +kernel) (by decide)]
  · exact absurd (z 144 _ rfl (by decide +kernel) (by decide) q) hc
  · rw [z 145 _ rfl (by decide +kernel) (by decide), e9 15 (by decide)]
  · rw [z 145 _ rfl (by decide +kernel) (by decide)]; decide
  · rw [z 145 _ rfl (by decide +kernel) (by decide), t0] at hj; exact absurd hj (by omega)
set_option maxRecDepth 100000 in
set_option maxHeartbeats 4000000 in
theorem law_start {G : GT} {b Ls : Nat} {xs : Nat → Int32} (hL : Ls ≤ 3072) : lx_V G b Ls xs 0 0 0 (fun _ => dE) 0 [(0, .ref b)] [] := by
  refine lx_new (ci := 9) (fs := [.null, .null, .null, .null, .null, .null, .null, .null, .null, .null, .null, .long 0]) rfl uw_X9 tyX9 tyX9_ok cl_RL_7 ib_RX9 in_RX9 (fun j hj => by rcases (show j = 0 ∨ j = 1 ∨ j = 2 ∨ j = 3 ∨ j = 4 ∨ j = 5 ∨ j = 6 ∨ j = 7 ∨ j = 8 ∨ j = 9 ∨ j = 10 ∨ j = 11 by omega) with rfl | rfl | rfl | rfl | rfl | rfl | rfl | rfl | rfl | rfl | rfl | rfl <;> rfl) (Nat.le_of_ble_eq_true rfl) (Nat.le_of_ble_eq_true rfl) dL_law_0 ?_
  refine lx_dup dL_law_3 rfl ?_
  refine lx_callI (As := []) (rest := [.ref (gB G + 0)]) (i_X9 G _ (vaup_at _ _ _)) (w4 ml_RL_9 im_X9_init in_RX9 cd_X9_init) rfl nm_X9_init ⟨Nat.le_of_ble_eq_true rfl, Nat.le_of_ble_eq_true rfl⟩ rfl (Nat.le_of_ble_eq_true rfl) dL_law_4 ⟨Nat.le_of_ble_eq_true rfl, Nat.le_of_ble_eq_true rfl⟩ (fun r n' f' hh => ?_)
  obtain ⟨rfl, rfl, hf⟩ := hh
  refine lx_astore_n (ls' := [(1, .ref (gB G + 0)), (0, .ref b)]) dL_law_7 (by decide) rfl ?_
  refine lx_new (ci := 10) (fs := [.null, .int 0, .int 0, .null, .null, .null, .null, .null, .null, .int 0, .int 0, .null, .null, .null, .null, .int 0, .long 0, .int 0, .int 0, .null, .null, .null, .int 0, .int 0, .null, .null, .null, .int 0]) rfl uw_X10 tyX10 tyX10_ok cl_RL_10 ib_RX10 in_RX10 (fun j hj => by rcases (show j = 0 ∨ j = 1 ∨ j = 2 ∨ j = 3 ∨ j = 4 ∨ j = 5 ∨ j = 6 ∨ j = 7 ∨ j = 8 ∨ j = 9 ∨ j = 10 ∨ j = 11 ∨ j = 12 ∨ j = 13 ∨ j = 14 ∨ j = 15 ∨ j = 16 ∨ j = 17 ∨ j = 18 ∨ j = 19 ∨ j = 20 ∨ j = 21 ∨ j = 22 ∨ j = 23 ∨ j = 24 ∨ j = 25 ∨ j = 26 ∨ j = 27 by omega) with rfl | rfl | rfl | rfl | rfl | rfl | rfl | rfl | rfl | rfl | rfl | rfl | rfl | rfl | rfl | rfl | rfl | rfl | rfl | rfl | rfl | rfl | rfl | rfl | rfl | rfl | rfl | rfl <;> rfl) (Nat.le_of_ble_eq_true rfl) (Nat.le_of_ble_eq_true rfl) dL_law_8 ?_
  refine lx_dup dL_law_11 rfl ?_
  refine lx_callI (As := []) (rest := [.ref (gB G + 179)]) (i_X10 G _ (fun j hj => by rw [vaup_ne (by omega)]; exact hf j hj) (vaup_at _ _ _)) (w4 ml_RL_12 im_X10_init in_RX10 cd_X10_init) rfl nm_X10_init ⟨Nat.le_of_ble_eq_true rfl, Nat.le_of_ble_eq_true rfl⟩ rfl (Nat.le_of_ble_eq_true rfl) dL_law_12 ⟨Nat.le_of_ble_eq_true rfl, Nat.le_of_ble_eq_true rfl⟩ (fun r n' f'' hh => ?_)
  obtain ⟨rfl, rfl, hf2⟩ := hh
  refine lx_iq (g := CF G S0 L0) hf2 ?_
  refine lx_astore_n (ls' := [(2, .ref (gB G + 179)), (1, .ref (gB G + 0)), (0, .ref b)]) dL_law_15 (by decide) rfl ?_
  refine lx_iconst (v := 0) dL_law_16 (by decide) ?_
  refine lx_istore_n (ls' := lLS G b 0) dL_law_17 (by decide) rfl ?_
  exact law_loop hL _ 0 rfl (by decide) S0 L0 Rel_0 rfl
abbrev stT (i : Nat) : Term := .string RX8 (stK.getD i 0)
abbrev lwFlat : List Cond := flatC (Jvm.Cond.and given_1 narrow_1)
theorem st_ref : ∀ i, i < 9 → Cond.stringRef RX8 (stK.getD i 0) (stX.getD i "") ∈ lw_tbl := fun i hi => by
  rcases (show i = 0 ∨ i = 1 ∨ i = 2 ∨ i = 3 ∨ i = 4 ∨ i = 5 ∨ i = 6 ∨ i = 7 ∨ i = 8 by omega) with rfl | rfl | rfl | rfl | rfl | rfl | rfl | rfl | rfl
  · exact List.mem_append_right _ (List.mem_of_getElem? (i := 326) (by decide +kernel))
  · exact List.mem_append_right _ (List.mem_of_getElem? (i := 416) (by decide +kernel))
  · exact List.mem_append_right _ (List.mem_of_getElem? (i := 417) (by decide +kernel))
  · exact List.mem_append_right _ (List.mem_of_getElem? (i := 418) (by decide +kernel))
  · exact List.mem_append_right _ (List.mem_of_getElem? (i := 419) (by decide +kernel))
  · exact List.mem_append_right _ (List.mem_of_getElem? (i := 420) (by decide +kernel))
  · exact List.mem_append_right _ (List.mem_of_getElem? (i := 421) (by decide +kernel))
  · exact List.mem_append_right _ (List.mem_of_getElem? (i := 422) (by decide +kernel))
  · exact List.mem_append_right _ (List.mem_of_getElem? (i := 423) (by decide +kernel))
theorem st_ex {args : Array Value} {s : State} (hs : ∀ c ∈ lwFlat, c.before args s = true) : ∀ i, i < 9 → (Cond.exactly (stT i) "java/lang/String").before args s = true := fun i hi => by
  rcases (show i = 0 ∨ i = 1 ∨ i = 2 ∨ i = 3 ∨ i = 4 ∨ i = 5 ∨ i = 6 ∨ i = 7 ∨ i = 8 by omega) with rfl | rfl | rfl | rfl | rfl | rfl | rfl | rfl | rfl
  · exact hs _ (by decide +kernel)
  · exact hs _ (by decide +kernel)
  · exact hs _ (by decide +kernel)
  · exact hs _ (by decide +kernel)
  · exact hs _ (by decide +kernel)
  · exact hs _ (by decide +kernel)
  · exact hs _ (by decide +kernel)
  · exact hs _ (by decide +kernel)
  · exact hs _ (by decide +kernel)
theorem st_co {args : Array Value} {s : State} (hs : ∀ c ∈ lwFlat, c.before args s = true) : ∀ i, i < 9 → (Cond.eq (.field (stT i) "java/lang/String" "coder" "B") (.int 0)).before args s = true := fun i hi => by
  rcases (show i = 0 ∨ i = 1 ∨ i = 2 ∨ i = 3 ∨ i = 4 ∨ i = 5 ∨ i = 6 ∨ i = 7 ∨ i = 8 by omega) with rfl | rfl | rfl | rfl | rfl | rfl | rfl | rfl | rfl
  · exact hs _ (by decide +kernel)
  · exact hs _ (by decide +kernel)
  · exact hs _ (by decide +kernel)
  · exact hs _ (by decide +kernel)
  · exact hs _ (by decide +kernel)
  · exact hs _ (by decide +kernel)
  · exact hs _ (by decide +kernel)
  · exact hs _ (by decide +kernel)
  · exact hs _ (by decide +kernel)
theorem st_ar {args : Array Value} {s : State} (hs : ∀ c ∈ lwFlat, c.before args s = true) : ∀ i, i < 9 → (Cond.arrayOf (.field (stT i) "java/lang/String" "value" "[B") .byte).before args s = true := fun i hi => by
  rcases (show i = 0 ∨ i = 1 ∨ i = 2 ∨ i = 3 ∨ i = 4 ∨ i = 5 ∨ i = 6 ∨ i = 7 ∨ i = 8 by omega) with rfl | rfl | rfl | rfl | rfl | rfl | rfl | rfl | rfl
  · exact hs _ (by decide +kernel)
  · exact hs _ (by decide +kernel)
  · exact hs _ (by decide +kernel)
  · exact hs _ (by decide +kernel)
  · exact hs _ (by decide +kernel)
  · exact hs _ (by decide +kernel)
  · exact hs _ (by decide +kernel)
  · exact hs _ (by decide +kernel)
  · exact hs _ (by decide +kernel)
theorem st_le {args : Array Value} {s : State} (hs : ∀ c ∈ lwFlat, c.before args s = true) : ∀ i, i < 9 → (Cond.eq (.length (.field (stT i) "java/lang/String" "value" "[B")) (.int (Int32.ofNat (stL.getD i 0)))).before args s = true := fun i hi => by
  rcases (show i = 0 ∨ i = 1 ∨ i = 2 ∨ i = 3 ∨ i = 4 ∨ i = 5 ∨ i = 6 ∨ i = 7 ∨ i = 8 by omega) with rfl | rfl | rfl | rfl | rfl | rfl | rfl | rfl | rfl
  · exact hs _ (by decide +kernel)
  · exact hs _ (by decide +kernel)
  · exact hs _ (by decide +kernel)
  · exact hs _ (by decide +kernel)
  · exact hs _ (by decide +kernel)
  · exact hs _ (by decide +kernel)
  · exact hs _ (by decide +kernel)
  · exact hs _ (by decide +kernel)
  · exact hs _ (by decide +kernel)
theorem st_el {args : Array Value} {s : State} (hs : ∀ c ∈ lwFlat, c.before args s = true) : ∀ i, i < 9 → ∀ j, j < stL.getD i 0 → (Cond.eq (.elem (.field (stT i) "java/lang/String" "value" "[B") (.int (Int32.ofNat j))) (.int ((stB.getD i []).getD j 0))).before args s = true := fun i hi j hj => by
  rcases (show i = 0 ∨ i = 1 ∨ i = 2 ∨ i = 3 ∨ i = 4 ∨ i = 5 ∨ i = 6 ∨ i = 7 ∨ i = 8 by omega) with rfl | rfl | rfl | rfl | rfl | rfl | rfl | rfl | rfl
  · have hj : j < 12 := hj
    rcases (show j = 0 ∨ j = 1 ∨ j = 2 ∨ j = 3 ∨ j = 4 ∨ j = 5 ∨ j = 6 ∨ j = 7 ∨ j = 8 ∨ j = 9 ∨ j = 10 ∨ j = 11 by omega) with rfl | rfl | rfl | rfl | rfl | rfl | rfl | rfl | rfl | rfl | rfl | rfl
    · exact hs _ (by decide +kernel)
    · exact hs _ (by decide +kernel)
    · exact hs _ (by decide +kernel)
    · exact hs _ (by decide +kernel)
    · exact hs _ (by decide +kernel)
    · exact hs _ (by decide +kernel)
    · exact hs _ (by decide +kernel)
    · exact hs _ (by decide +kernel)
    · exact hs _ (by decide +kernel)
    · exact hs _ (by decide +kernel)
    · exact hs _ (by decide +kernel)
    · exact hs _ (by decide +kernel)
  · have hj : j < 2 := hj
    rcases (show j = 0 ∨ j = 1 by omega) with rfl | rfl
    · exact hs _ (by decide +kernel)
    · exact hs _ (by decide +kernel)
  · have hj : j < 2 := hj
    rcases (show j = 0 ∨ j = 1 by omega) with rfl | rfl
    · exact hs _ (by decide +kernel)
    · exact hs _ (by decide +kernel)
  · have hj : j < 2 := hj
    rcases (show j = 0 ∨ j = 1 by omega) with rfl | rfl
    · exact hs _ (by decide +kernel)
    · exact hs _ (by decide +kernel)
  · have hj : j < 2 := hj
    rcases (show j = 0 ∨ j = 1 by omega) with rfl | rfl
    · exact hs _ (by decide +kernel)
    · exact hs _ (by decide +kernel)
  · have hj : j < 3 := hj
    rcases (show j = 0 ∨ j = 1 ∨ j = 2 by omega) with rfl | rfl | rfl
    · exact hs _ (by decide +kernel)
    · exact hs _ (by decide +kernel)
    · exact hs _ (by decide +kernel)
  · have hj : j < 2 := hj
    rcases (show j = 0 ∨ j = 1 by omega) with rfl | rfl
    · exact hs _ (by decide +kernel)
    · exact hs _ (by decide +kernel)
  · have hj : j < 1 := hj
    rcases (show j = 0 by omega) with rfl
    · exact hs _ (by decide +kernel)
  · exact absurd hj (by decide +revert)
theorem st_ne {args : Array Value} {s : State} (hs : ∀ c ∈ lwFlat, c.before args s = true) : ∀ i j, i < 9 → j < 9 → i ≠ j → (Cond.not (Cond.eq (stT i) (stT j))).before args s = true ∨ (Cond.not (Cond.eq (stT j) (stT i))).before args s = true := fun i j hi hj hne => by
  rcases (show i = 0 ∨ i = 1 ∨ i = 2 ∨ i = 3 ∨ i = 4 ∨ i = 5 ∨ i = 6 ∨ i = 7 ∨ i = 8 by omega) with rfl | rfl | rfl | rfl | rfl | rfl | rfl | rfl | rfl
  · rcases (show j = 0 ∨ j = 1 ∨ j = 2 ∨ j = 3 ∨ j = 4 ∨ j = 5 ∨ j = 6 ∨ j = 7 ∨ j = 8 by omega) with rfl | rfl | rfl | rfl | rfl | rfl | rfl | rfl | rfl
    · exact absurd rfl hne
    · exact Or.inl (hs _ (by decide +kernel))
    · exact Or.inl (hs _ (by decide +kernel))
    · exact Or.inl (hs _ (by decide +kernel))
    · exact Or.inl (hs _ (by decide +kernel))
    · exact Or.inl (hs _ (by decide +kernel))
    · exact Or.inl (hs _ (by decide +kernel))
    · exact Or.inl (hs _ (by decide +kernel))
    · exact Or.inl (hs _ (by decide +kernel))
  · rcases (show j = 0 ∨ j = 1 ∨ j = 2 ∨ j = 3 ∨ j = 4 ∨ j = 5 ∨ j = 6 ∨ j = 7 ∨ j = 8 by omega) with rfl | rfl | rfl | rfl | rfl | rfl | rfl | rfl | rfl
    · exact Or.inr (hs _ (by decide +kernel))
    · exact absurd rfl hne
    · exact Or.inl (hs _ (by decide +kernel))
    · exact Or.inl (hs _ (by decide +kernel))
    · exact Or.inl (hs _ (by decide +kernel))
    · exact Or.inl (hs _ (by decide +kernel))
    · exact Or.inl (hs _ (by decide +kernel))
    · exact Or.inl (hs _ (by decide +kernel))
    · exact Or.inl (hs _ (by decide +kernel))
  · rcases (show j = 0 ∨ j = 1 ∨ j = 2 ∨ j = 3 ∨ j = 4 ∨ j = 5 ∨ j = 6 ∨ j = 7 ∨ j = 8 by omega) with rfl | rfl | rfl | rfl | rfl | rfl | rfl | rfl | rfl
    · exact Or.inr (hs _ (by decide +kernel))
    · exact Or.inr (hs _ (by decide +kernel))
    · exact absurd rfl hne
    · exact Or.inl (hs _ (by decide +kernel))
    · exact Or.inl (hs _ (by decide +kernel))
    · exact Or.inl (hs _ (by decide +kernel))
    · exact Or.inl (hs _ (by decide +kernel))
    · exact Or.inl (hs _ (by decide +kernel))
    · exact Or.inl (hs _ (by decide +kernel))
  · rcases (show j = 0 ∨ j = 1 ∨ j = 2 ∨ j = 3 ∨ j = 4 ∨ j = 5 ∨ j = 6 ∨ j = 7 ∨ j = 8 by omega) with rfl | rfl | rfl | rfl | rfl | rfl | rfl | rfl | rfl
    · exact Or.inr (hs _ (by decide +kernel))
    · exact Or.inr (hs _ (by decide +kernel))
    · exact Or.inr (hs _ (by decide +kernel))
    · exact absurd rfl hne
    · exact Or.inl (hs _ (by decide +kernel))
    · exact Or.inl (hs _ (by decide +kernel))
    · exact Or.inl (hs _ (by decide +kernel))
    · exact Or.inl (hs _ (by decide +kernel))
    · exact Or.inl (hs _ (by decide +kernel))
  · rcases (show j = 0 ∨ j = 1 ∨ j = 2 ∨ j = 3 ∨ j = 4 ∨ j = 5 ∨ j = 6 ∨ j = 7 ∨ j = 8 by omega) with rfl | rfl | rfl | rfl | rfl | rfl | rfl | rfl | rfl
    · exact Or.inr (hs _ (by decide +kernel))
    · exact Or.inr (hs _ (by decide +kernel))
    · exact Or.inr (hs _ (by decide +kernel))
    · exact Or.inr (hs _ (by decide +kernel))
    · exact absurd rfl hne
    · exact Or.inl (hs _ (by decide +kernel))
    · exact Or.inl (hs _ (by decide +kernel))
    · exact Or.inl (hs _ (by decide +kernel))
    · exact Or.inl (hs _ (by decide +kernel))
  · rcases (show j = 0 ∨ j = 1 ∨ j = 2 ∨ j = 3 ∨ j = 4 ∨ j = 5 ∨ j = 6 ∨ j = 7 ∨ j = 8 by omega) with rfl | rfl | rfl | rfl | rfl | rfl | rfl | rfl | rfl
    · exact Or.inr (hs _ (by decide +kernel))
    · exact Or.inr (hs _ (by decide +kernel))
    · exact Or.inr (hs _ (by decide +kernel))
    · exact Or.inr (hs _ (by decide +kernel))
    · exact Or.inr (hs _ (by decide +kernel))
    · exact absurd rfl hne
    · exact Or.inl (hs _ (by decide +kernel))
    · exact Or.inl (hs _ (by decide +kernel))
    · exact Or.inl (hs _ (by decide +kernel))
  · rcases (show j = 0 ∨ j = 1 ∨ j = 2 ∨ j = 3 ∨ j = 4 ∨ j = 5 ∨ j = 6 ∨ j = 7 ∨ j = 8 by omega) with rfl | rfl | rfl | rfl | rfl | rfl | rfl | rfl | rfl
    · exact Or.inr (hs _ (by decide +kernel))
    · exact Or.inr (hs _ (by decide +kernel))
    · exact Or.inr (hs _ (by decide +kernel))
    · exact Or.inr (hs _ (by decide +kernel))
    · exact Or.inr (hs _ (by decide +kernel))
    · exact Or.inr (hs _ (by decide +kernel))
    · exact absurd rfl hne
    · exact Or.inl (hs _ (by decide +kernel))
    · exact Or.inl (hs _ (by decide +kernel))
  · rcases (show j = 0 ∨ j = 1 ∨ j = 2 ∨ j = 3 ∨ j = 4 ∨ j = 5 ∨ j = 6 ∨ j = 7 ∨ j = 8 by omega) with rfl | rfl | rfl | rfl | rfl | rfl | rfl | rfl | rfl
    · exact Or.inr (hs _ (by decide +kernel))
    · exact Or.inr (hs _ (by decide +kernel))
    · exact Or.inr (hs _ (by decide +kernel))
    · exact Or.inr (hs _ (by decide +kernel))
    · exact Or.inr (hs _ (by decide +kernel))
    · exact Or.inr (hs _ (by decide +kernel))
    · exact Or.inr (hs _ (by decide +kernel))
    · exact absurd rfl hne
    · exact Or.inl (hs _ (by decide +kernel))
  · rcases (show j = 0 ∨ j = 1 ∨ j = 2 ∨ j = 3 ∨ j = 4 ∨ j = 5 ∨ j = 6 ∨ j = 7 ∨ j = 8 by omega) with rfl | rfl | rfl | rfl | rfl | rfl | rfl | rfl | rfl
    · exact Or.inr (hs _ (by decide +kernel))
    · exact Or.inr (hs _ (by decide +kernel))
    · exact Or.inr (hs _ (by decide +kernel))
    · exact Or.inr (hs _ (by decide +kernel))
    · exact Or.inr (hs _ (by decide +kernel))
    · exact Or.inr (hs _ (by decide +kernel))
    · exact Or.inr (hs _ (by decide +kernel))
    · exact Or.inr (hs _ (by decide +kernel))
    · exact absurd rfl hne
set_option maxRecDepth 100000 in
set_option maxHeartbeats 4000000 in
theorem k_start {p : Program} {s : State} {m : MethodId} {meth : Method} {c : Code} (l : Launch) {b L : Nat} {xs : Nat → Int32} (C0 : lw_At p s m meth c b L xs) : ∃ G : GT, G.1 = l ∧ gB G = s.heap.size ∧ sv_K G s := by
  obtain ⟨-, -, -, -, -, htl, -, -, -, hgv⟩ := id C0
  have hts : ∀ w ∈ gw, w.before #[Value.ref b] s = true := fun w hw => htl w (List.mem_filter.mp hw).1
  have hs := flat_of_before _ hgv
  have hA : ∀ a : Nat, a < s.heap.size → ¬ (fun q : Nat => s.heap.size ≤ q) a := fun a ha h => absurd ha (Nat.not_lt.mpr h)
  obtain ⟨c0, iS0, hK0⟩ := u_known (C := RX0) (T := TX0) (N := 1) (n := 1) hts uw_X0 (hts _ ib_RX0)
  obtain ⟨c1, iS1, hK1⟩ := u_known (C := RX1) (T := TX1) (N := 3) (n := 3) hts uw_X1 (hts _ ib_RX1)
  obtain ⟨c2, iS2, hK2⟩ := u_known (C := RX2) (T := TX2) (N := 3) (n := 3) hts uw_X2 (hts _ ib_RX2)
  obtain ⟨c3, iS3, hK3⟩ := u_known (C := RX3) (T := TX3) (N := 8) (n := 8) hts uw_X3 (hts _ ib_RX3)
  obtain ⟨c4, iS4, hK4⟩ := u_known (C := RX4) (T := TX4) (N := 5) (n := 5) hts uw_X4 (hts _ ib_RX4)
  obtain ⟨c5, iS5, hK5⟩ := u_known (C := RX5) (T := TX5) (N := 3) (n := 3) hts uw_X5 (hts _ ib_RX5)
  obtain ⟨c6, iS6, hK6⟩ := u_known (C := RX6) (T := TX6) (N := 7) (n := 7) hts uw_X6 (hts _ ib_RX6)
  obtain ⟨c7, iS7, hK7⟩ := u_known (C := RX7) (T := TX7) (N := 8) (n := 8) hts uw_X7 (hts _ ib_RX7)
  obtain ⟨c8, iS8, hK8⟩ := u_known (C := RX8) (T := TX8) (N := 2) (n := 2) hts uw_X8 (hts _ ib_RX8)
  obtain ⟨c9, iS9, hK9⟩ := u_known (C := RX9) (T := TX9) (N := 12) (n := 12) hts uw_X9 (hts _ ib_RX9)
  obtain ⟨c10, iS10, hK10⟩ := u_known (C := RX10) (T := TX10) (N := 28) (n := 28) hts uw_X10 (hts _ ib_RX10)
  obtain ⟨dC, dI, hKc⟩ : ∃ (dC : Nat → ClassId) (dI : Nat → Nat → Nat), ∀ (k : Nat) (q : vw_C), vwCl[k]? = some q → u_Kn s q.1 q.2.1 q.2.2 (dC k) (dI k) := by
    refine ⟨fun k => if k = 0 then c0 else if k = 1 then c1 else if k = 2 then c2 else if k = 3 then c3 else if k = 4 then c4 else if k = 5 then c5 else if k = 6 then c6 else if k = 7 then c7 else if k = 8 then c8 else if k = 9 then c9 else c10, fun k => if k = 0 then iS0 else if k = 1 then iS1 else if k = 2 then iS2 else if k = 3 then iS3 else if k = 4 then iS4 else if k = 5 then iS5 else if k = 6 then iS6 else if k = 7 then iS7 else if k = 8 then iS8 else if k = 9 then iS9 else iS10, ?_⟩
    intro k q hq
    have hk : k < 11 := (List.getElem?_eq_some_iff.mp hq).1
    rcases (show k = 0 ∨ k = 1 ∨ k = 2 ∨ k = 3 ∨ k = 4 ∨ k = 5 ∨ k = 6 ∨ k = 7 ∨ k = 8 ∨ k = 9 ∨ k = 10 by omega) with rfl | rfl | rfl | rfl | rfl | rfl | rfl | rfl | rfl | rfl | rfl
    · cases hq; exact hK0
    · cases hq; exact hK1
    · cases hq; exact hK2
    · cases hq; exact hK3
    · cases hq; exact hK4
    · cases hq; exact hK5
    · cases hq; exact hK6
    · cases hq; exact hK7
    · cases hq; exact hK8
    · cases hq; exact hK9
    · cases hq; exact hK10
  obtain ⟨cI, kI, pI, i1, i2, i3⟩ := Cond.arrayClass_spec (args := #[Value.ref b]) (first := s) (o := none) (s := s) (idx := []) (type := .int) (hts _ ac_int)
  obtain ⟨cZ, kZ, pZ, z1, z2, z3⟩ := Cond.arrayClass_spec (args := #[Value.ref b]) (first := s) (o := none) (s := s) (idx := []) (type := .boolean) (hts _ ac_boolean)
  have hao : (Cond.arrayOver (.object RX6)).before #[Value.ref b] s = true := htl _ (List.mem_append_right _ (List.mem_of_getElem? (i := 187) (by decide +kernel)))
  obtain ⟨pR, cR, kR, r1, r2, r3, r4, r5⟩ := Cond.arrayOver_spec (args := #[Value.ref b]) (first := s) (o := none) (s := s) (idx := []) (n := RX6) hao
  obtain ⟨adK, adV, hvS, hev⟩ := vk_Sof (args := #[Value.ref b]) (s := s) (N := 9) (tm := stT) (len := stL) (byt := stB) (A := fun q : Nat => s.heap.size ≤ q) (by decide) (st_ex hs) (st_co hs) (st_ar hs) (st_le hs) (st_el hs) (st_ne hs) hA
  refine ⟨(l, (dC, dI), (cI, cZ, cR), s.heap.size, adK, adV), rfl, rfl, ⟨hKc, ?_⟩, fun w hw hn => va_Nw.of (by cases w <;> first | rfl | cases hn) (htl w hw), va_AO.of hao, fun i hi => vk_R.of (htl _ (st_ref i hi)) (hev i hi), hvS, ?_, ?_⟩
  · intro k q hq
    have hk : k < 3 := (List.getElem?_eq_some_iff.mp hq).1
    rcases (show k = 0 ∨ k = 1 ∨ k = 2 by omega) with rfl | rfl | rfl
    · cases hq; exact ⟨fun n z => ⟨fun k h => (by cases h), kI, i2, pI, i3⟩, i1⟩
    · cases hq; exact ⟨fun n z => ⟨fun k h => (by cases h), kZ, z2, pZ, z3⟩, z1⟩
    · cases hq; exact ⟨fun n z => ⟨fun k h => (by cases h), kR, r3, pR, r4⟩, kR, pR, r3, r4, r1, r5⟩
  · exact va_Zof (htl _ (List.mem_append_right _ (List.mem_of_getElem? (i := 340) (by decide +kernel)))) (hts _ in_RJ0) (va_eqt (hs _ (by decide +kernel))) hA
  · exact va_Zqof (htl _ (List.mem_append_right _ (List.mem_of_getElem? (i := 383) (by decide +kernel)))) (hts _ in_RJ3) (hs _ (by decide +kernel)) hA
theorem whole_start {p : Program} {e : Env} {s : State} {m : MethodId} {below : List Frame} {meth : Method} {c : Code} (l : Launch) (hflags : l.flags = flags0) {b L : Nat} {xs : Nat → Int32} (hL : L ≤ 3072) (C0 : lw_At p s m meth c b L xs) : W p l e room_1 s m #[Value.ref b] below meth c s.heap [] 0 0 (lw_Z below #[Value.ref b] s) (entryFrame m ([Value.ref b] : List Value).toArray 4) := by
  obtain ⟨G, rfl, hB, hK⟩ := k_start l C0
  have hl := lv_entry ([.ref b]) (n := 4) (Nat.le_of_ble_eq_true rfl)
  rw [lg_entry_eq]
  generalize (lg_sl ([.ref b]) ++ List.replicate (4 - (lg_sl ([.ref b])).length) Slot.unset).toArray = ls at hl ⊢
  have hl : lv_has ls 4 [(0, .ref b)] := hl
  exact law_start hL p e s m below meth c ⟨C0, hK, hB⟩ s.heap [] ls ⟨by rw [hB]; rfl, fun k hk => absurd hk (Nat.not_lt_zero _)⟩ va_S.rf hl
