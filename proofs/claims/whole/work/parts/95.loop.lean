abbrev lLS (G : GT) (b i : Nat) : List (Nat × Value) := [(3, .int (nI i)), (2, .ref (gB G + 179)), (1, .ref (gB G + 0)), (0, .ref b)]
section LB
variable {G : GT} {b Ls : Nat} {xs : Nat → Int32} {cells slots n : Nat} {f : Nat → va_E} {pc : Nat} {ls : List (Nat × Value)} {st : List Value}
theorem lx_rd {i q : Nat} {z : Int} (hq : i + q < Ls) (hL : Ls ≤ 3072) (hz : Int32.ofInt z = nI q) (d0 : decode code pc = .ok (.aload_n 0, 1)) (d1 : decode code (pc + 1) = .ok (.iload_n 3, 1)) (d2 : decode code (pc + 2) = .ok (.iconst z, 1)) (d3 : decode code (pc + 3) = .ok (.iadd, 1)) (d4 : decode code (pc + 4) = .ok (.iaload, 1)) (kk : lx_V G b Ls xs cells slots n f (pc + 5) (lLS G b i) (.int (xs (i + q)) :: st)) : lx_V G b Ls xs cells slots n f pc (lLS G b i) st := by
  refine lx_aload_n 3 d0 rfl ?_
  refine lx_iload_n 0 d1 rfl ?_
  refine lx_iconst (v := nI q) d2 hz ?_
  refine lx_iadd d3 ?_
  rw [nI_add]
  refine lx_sld (vp_in_nI hq (by omega)) d4 ?_
  rw [nI_clamp (by omega)]
  exact kk
theorem lx_bool {x : Int32} (d0 : decode code pc = .ok (.ifCond .eq 7, 3)) (d1 : decode code (pc + 3) = .ok (.iconst 1, 1)) (d2 : decode code (pc + 4) = .ok (.goto 4, 3)) (d3 : decode code (pc + 7) = .ok (.iconst 0, 1)) (kk : lx_V G b Ls xs cells slots n f (pc + 8) ls (.int (if x = 0 then 0 else 1) :: st)) : lx_V G b Ls xs cells slots n f pc ls (.int x :: st) := by
  refine lx_if_eq (tgt := pc + 7) d0 (by omega) (fun z => ?_) (fun z => ?_)
  · rw [if_pos z] at kk
    exact lx_iconst (v := 0) d3 (by decide) kk
  · rw [if_neg z] at kk
    refine lx_iconst (v := 1) d1 (by decide) ?_
    exact lx_goto (tgt := pc + 8) d2 (by omega) kk
abbrev lgv (a c : Int32) : Int64 := (a.toInt64 <<< ((32 : Int32).toInt64 &&& 63)) ||| (c.toInt64 &&& 4294967295)
variable {y : MethodName} {R2 : Room} {cc2 : ByteArray} {nL2 : Nat} {rt2 : Option FieldType} {As : List Value} {S S2 : Nat → Nat → Int32} {L L2 : Nat → Int64} {v : Value} {q i ci N : Nat} {T : u_T} {fs rest : List Value}
theorem lx_sE (hC : sE G y R2 cc2 nL2 rt2 (.ref (gB G + q) :: As) S L (some v) S2 L2) (hz : R2.cells = 0 ∧ R2.slots = 0) (hw : ∀ w ∈ [Cond.methodLink RL i y, .instanceMethod y, .selects y.cls y y, .initialized y.cls, .code y cc2 nL2 rt2], w ∈ gw) (hd : sv_nm y As.length) (hR : R2.frames + 1 ≤ room_1.frames ∧ 8 + (nL2 + 11) + R2.locals ≤ room_1.locals) (hci : vwCl[ci]? = some (y.cls, T, N)) (hq : q < 197) (hf : CF G S L q = .inr (ci, fs)) (hst : st = As.reverse ++ .ref (gB G + q) :: rest) (hcat : (rest.map fun v => v.category).sum ≤ 8) (d : decode code pc = .ok (.invokevirtual i, 3)) (hcs : cells ≤ room_1.cells ∧ slots ≤ room_1.slots)
    (kk : lx_V G b Ls xs cells slots 197 (CF G S2 L2) (pc + 3) ls (v :: rest)) : lx_V G b Ls xs cells slots 197 (CF G S L) pc ls st := by
  refine lx_callV hC hw hd hR hci hq hf hst hcat d ⟨by rw [hz.1]; exact hcs.1, by rw [hz.2]; exact hcs.2⟩ (fun r n' f' hh => ?_)
  obtain ⟨rfl, rfl, hf'⟩ := hh
  rw [hz.1, hz.2]
  exact lx_iq (fun j hj => iq_ceq (hf' j hj)) kk
end LB
theorem lg_cmp0 (x : Int64) : lg_cmp x x = 0 := by unfold lg_cmp; simp
theorem lp_cond {Ls i : Nat} (hL : Ls ≤ 3072) (hi : i < 10000) (h : ¬ nI Ls - 6 < nI i) : i + 6 ≤ Ls := by
  by_cases c : 6 ≤ Ls
  · rw [show (6 : Int32) = nI 6 from rfl, nI_sub c, nI_ltI (by omega) (by omega)] at h
    omega
  · have h2 : ∀ l, l < 6 → nI l - 6 < 0 := by decide
    exact absurd (Int32.lt_of_lt_of_le (h2 Ls (by omega)) (nI_pos' (by omega))) h
abbrev lNx (G : GT) (b Ls : Nat) (xs : Nat → Int32) (i : Nat) : Prop := ∀ (S : Nat → Nat → Int32) (L : Nat → Int64), Rel S S → L 0 = L 179 → lx_V G b Ls xs 197 7427 197 (CF G S L) 967 (lLS G b i) []
set_option maxRecDepth 100000 in
set_option maxHeartbeats 4000000 in
theorem lc_0 {G : GT} {b Ls i : Nat} {xs : Nat → Int32} (hL : Ls ≤ 3072) (hi : i + 6 ≤ Ls) (hn : lNx G b Ls xs i) (S : Nat → Nat → Int32) (L : Nat → Int64) (h : Rel S S) (hl : L 0 = L 179) : lx_V G b Ls xs 197 7427 197 (CF G S L) 160 (lLS G b i) [] := by
  obtain ⟨ke, kr, h1⟩ := k_write h (xs (i + 1))
  refine lx_aload_n 2 dL_law_160 rfl ?_
  refine lx_rd (q := 1) (by omega) hL (by decide) dL_law_161 dL_law_162 dL_law_163 dL_law_164 dL_law_165 ?_
  refine lx_sE (As := [.int (xs (i + 1))]) (rest := []) (e_X9_write G S L (Rel_WX h) (xs (i + 1))) ⟨rfl, rfl⟩ (sv_w5 ml_RL_13 im_X9_write sl_X9_write in_RX9 cd_X9_write) nm_X9_write ⟨Nat.le_of_ble_eq_true rfl, Nat.le_of_ble_eq_true rfl⟩ (ci := 9) rfl (Nat.le_of_ble_eq_true rfl) (CF_9 (by decide +kernel)) rfl (Nat.le_of_ble_eq_true rfl) dL_law_166 ⟨Nat.le_of_ble_eq_true rfl, Nat.le_of_ble_eq_true rfl⟩ ?_
  refine lx_aload_n 1 dL_law_169 rfl ?_
  refine lx_rd (q := 1) (by omega) hL (by decide) dL_law_170 dL_law_171 dL_law_172 dL_law_173 dL_law_174 ?_
  refine lx_sE (As := [.int (xs (i + 1))]) (rest := [.int (xwrite S (xs (i + 1))).1]) (e_X10_write G (xwrite S (xs (i + 1))).2 L (Rel_wfX h1) (xs (i + 1))) ⟨rfl, rfl⟩ (sv_w5 ml_RL_17 im_X10_write sl_X10_write in_RX10 cd_X10_write) nm_X10_write ⟨Nat.le_of_ble_eq_true rfl, Nat.le_of_ble_eq_true rfl⟩ (ci := 10) rfl (Nat.le_of_ble_eq_true rfl) (CF_10 (by decide +kernel)) rfl (Nat.le_of_ble_eq_true rfl) dL_law_175 ⟨Nat.le_of_ble_eq_true rfl, Nat.le_of_ble_eq_true rfl⟩ ?_
  exact lx_icmp_eq (tgt := 967) dL_law_178 (by decide) ke (hn _ _ kr hl)
set_option maxRecDepth 100000 in
set_option maxHeartbeats 4000000 in
theorem lc_1 {G : GT} {b Ls i : Nat} {xs : Nat → Int32} (hL : Ls ≤ 3072) (hi : i + 6 ≤ Ls) (hn : lNx G b Ls xs i) (S : Nat → Nat → Int32) (L : Nat → Int64) (h : Rel S S) (hl : L 0 = L 179) : lx_V G b Ls xs 197 7427 197 (CF G S L) 183 (lLS G b i) [] := by
  obtain ⟨ke, kr, h1⟩ := k_wipe h 
  refine lx_aload_n 2 dL_law_183 rfl ?_
  refine lx_sE (As := []) (rest := []) (e_X9_wipe G S L  ) ⟨rfl, rfl⟩ (sv_w5 ml_RL_18 im_X9_wipe sl_X9_wipe in_RX9 cd_X9_wipe) nm_X9_wipe ⟨Nat.le_of_ble_eq_true rfl, Nat.le_of_ble_eq_true rfl⟩ (ci := 9) rfl (Nat.le_of_ble_eq_true rfl) (CF_9 (by decide +kernel)) rfl (Nat.le_of_ble_eq_true rfl) dL_law_184 ⟨Nat.le_of_ble_eq_true rfl, Nat.le_of_ble_eq_true rfl⟩ ?_
  refine lx_aload_n 1 dL_law_187 rfl ?_
  refine lx_sE (As := []) (rest := [.int (xwipe S).1]) (e_X10_wipe G (xwipe S).2 L  ) ⟨rfl, rfl⟩ (sv_w5 ml_RL_22 im_X10_wipe sl_X10_wipe in_RX10 cd_X10_wipe) nm_X10_wipe ⟨Nat.le_of_ble_eq_true rfl, Nat.le_of_ble_eq_true rfl⟩ (ci := 10) rfl (Nat.le_of_ble_eq_true rfl) (CF_10 (by decide +kernel)) rfl (Nat.le_of_ble_eq_true rfl) dL_law_188 ⟨Nat.le_of_ble_eq_true rfl, Nat.le_of_ble_eq_true rfl⟩ ?_
  exact lx_icmp_eq (tgt := 967) dL_law_191 (by decide) ke (hn _ _ kr hl)
set_option maxRecDepth 100000 in
set_option maxHeartbeats 4000000 in
theorem lc_2 {G : GT} {b Ls i : Nat} {xs : Nat → Int32} (hL : Ls ≤ 3072) (hi : i + 6 ≤ Ls) (hn : lNx G b Ls xs i) (S : Nat → Nat → Int32) (L : Nat → Int64) (h : Rel S S) (hl : L 0 = L 179) : lx_V G b Ls xs 197 7427 197 (CF G S L) 196 (lLS G b i) [] := by
  obtain ⟨ke, kr, h1⟩ := k_fault h 
  refine lx_aload_n 2 dL_law_196 rfl ?_
  refine lx_sE (As := []) (rest := []) (e_X9_fault G S L (Rel_wfL h) ) ⟨rfl, rfl⟩ (sv_w5 ml_RL_23 im_X9_fault sl_X9_fault in_RX9 cd_X9_fault) nm_X9_fault ⟨Nat.le_of_ble_eq_true rfl, Nat.le_of_ble_eq_true rfl⟩ (ci := 9) rfl (Nat.le_of_ble_eq_true rfl) (CF_9 (by decide +kernel)) rfl (Nat.le_of_ble_eq_true rfl) dL_law_197 ⟨Nat.le_of_ble_eq_true rfl, Nat.le_of_ble_eq_true rfl⟩ ?_
  refine lx_aload_n 1 dL_law_200 rfl ?_
  refine lx_sE (As := []) (rest := [.int (xfault S).1]) (e_X10_fault G (xfault S).2 L (Rel_wfX h1) ) ⟨rfl, rfl⟩ (sv_w5 ml_RL_26 im_X10_fault sl_X10_fault in_RX10 cd_X10_fault) nm_X10_fault ⟨Nat.le_of_ble_eq_true rfl, Nat.le_of_ble_eq_true rfl⟩ (ci := 10) rfl (Nat.le_of_ble_eq_true rfl) (CF_10 (by decide +kernel)) rfl (Nat.le_of_ble_eq_true rfl) dL_law_201 ⟨Nat.le_of_ble_eq_true rfl, Nat.le_of_ble_eq_true rfl⟩ ?_
  exact lx_icmp_eq (tgt := 967) dL_law_204 (by decide) ke (hn _ _ kr hl)
set_option maxRecDepth 100000 in
set_option maxHeartbeats 4000000 in
theorem lc_3 {G : GT} {b Ls i : Nat} {xs : Nat → Int32} (hL : Ls ≤ 3072) (hi : i + 6 ≤ Ls) (hn : lNx G b Ls xs i) (S : Nat → Nat → Int32) (L : Nat → Int64) (h : Rel S S) (hl : L 0 = L 179) : lx_V G b Ls xs 197 7427 197 (CF G S L) 209 (lLS G b i) [] := by
  obtain ⟨ke, kr, h1⟩ := k_code h 
  refine lx_aload_n 2 dL_law_209 rfl ?_
  refine lx_sE (As := []) (rest := []) (e_X9_code G S L (Rel_wfL h) ) ⟨rfl, rfl⟩ (sv_w5 ml_RL_27 im_X9_code sl_X9_code in_RX9 cd_X9_code) nm_X9_code ⟨Nat.le_of_ble_eq_true rfl, Nat.le_of_ble_eq_true rfl⟩ (ci := 9) rfl (Nat.le_of_ble_eq_true rfl) (CF_9 (by decide +kernel)) rfl (Nat.le_of_ble_eq_true rfl) dL_law_210 ⟨Nat.le_of_ble_eq_true rfl, Nat.le_of_ble_eq_true rfl⟩ ?_
  refine lx_aload_n 1 dL_law_213 rfl ?_
  refine lx_sE (As := []) (rest := [.int (xcode S).1]) (e_X10_code G (xcode S).2 L (Rel_wfX h1) ) ⟨rfl, rfl⟩ (sv_w5 ml_RL_30 im_X10_code sl_X10_code in_RX10 cd_X10_code) nm_X10_code ⟨Nat.le_of_ble_eq_true rfl, Nat.le_of_ble_eq_true rfl⟩ (ci := 10) rfl (Nat.le_of_ble_eq_true rfl) (CF_10 (by decide +kernel)) rfl (Nat.le_of_ble_eq_true rfl) dL_law_214 ⟨Nat.le_of_ble_eq_true rfl, Nat.le_of_ble_eq_true rfl⟩ ?_
  exact lx_icmp_eq (tgt := 967) dL_law_217 (by decide) ke (hn _ _ kr hl)
set_option maxRecDepth 100000 in
set_option maxHeartbeats 4000000 in
theorem lc_4 {G : GT} {b Ls i : Nat} {xs : Nat → Int32} (hL : Ls ≤ 3072) (hi : i + 6 ≤ Ls) (hn : lNx G b Ls xs i) (S : Nat → Nat → Int32) (L : Nat → Int64) (h : Rel S S) (hl : L 0 = L 179) : lx_V G b Ls xs 197 7427 197 (CF G S L) 222 (lLS G b i) [] := by
  have h1 : Rel S S := h
  have ke := k_about h (xs (i + 1))
  refine lx_aload_n 2 dL_law_222 rfl ?_
  refine lx_rd (q := 1) (by omega) hL (by decide) dL_law_223 dL_law_224 dL_law_225 dL_law_226 dL_law_227 ?_
  refine lx_sE (As := [.int (xs (i + 1))]) (rest := []) (e_X9_about G S L (Rel_WX h) (xs (i + 1))) ⟨rfl, rfl⟩ (sv_w5 ml_RL_31 im_X9_about sl_X9_about in_RX9 cd_X9_about) nm_X9_about ⟨Nat.le_of_ble_eq_true rfl, Nat.le_of_ble_eq_true rfl⟩ (ci := 9) rfl (Nat.le_of_ble_eq_true rfl) (CF_9 (by decide +kernel)) rfl (Nat.le_of_ble_eq_true rfl) dL_law_228 ⟨Nat.le_of_ble_eq_true rfl, Nat.le_of_ble_eq_true rfl⟩ ?_
  refine lx_aload_n 1 dL_law_231 rfl ?_
  refine lx_rd (q := 1) (by omega) hL (by decide) dL_law_232 dL_law_233 dL_law_234 dL_law_235 dL_law_236 ?_
  refine lx_sE (As := [.int (xs (i + 1))]) (rest := [.int (xabout S (xs (i + 1)))]) (e_X10_about G S L h1.2.1.2.1.1 (xs (i + 1))) ⟨rfl, rfl⟩ (sv_w5 ml_RL_34 im_X10_about sl_X10_about in_RX10 cd_X10_about) nm_X10_about ⟨Nat.le_of_ble_eq_true rfl, Nat.le_of_ble_eq_true rfl⟩ (ci := 10) rfl (Nat.le_of_ble_eq_true rfl) (CF_10 (by decide +kernel)) rfl (Nat.le_of_ble_eq_true rfl) dL_law_237 ⟨Nat.le_of_ble_eq_true rfl, Nat.le_of_ble_eq_true rfl⟩ ?_
  exact lx_icmp_eq (tgt := 967) dL_law_240 (by decide) ke (hn _ _ h hl)
set_option maxRecDepth 100000 in
set_option maxHeartbeats 4000000 in
theorem lc_5 {G : GT} {b Ls i : Nat} {xs : Nat → Int32} (hL : Ls ≤ 3072) (hi : i + 6 ≤ Ls) (hn : lNx G b Ls xs i) (S : Nat → Nat → Int32) (L : Nat → Int64) (h : Rel S S) (hl : L 0 = L 179) : lx_V G b Ls xs 197 7427 197 (CF G S L) 245 (lLS G b i) [] := by
  have h1 : Rel S S := h
  have ke := k_register h (xs (i + 1))
  refine lx_aload_n 2 dL_law_245 rfl ?_
  refine lx_rd (q := 1) (by omega) hL (by decide) dL_law_246 dL_law_247 dL_law_248 dL_law_249 dL_law_250 ?_
  refine lx_sE (As := [.int (xs (i + 1))]) (rest := []) (e_X9_register G S L  (xs (i + 1))) ⟨rfl, rfl⟩ (sv_w5 ml_RL_35 im_X9_register sl_X9_register in_RX9 cd_X9_register) nm_X9_register ⟨Nat.le_of_ble_eq_true rfl, Nat.le_of_ble_eq_true rfl⟩ (ci := 9) rfl (Nat.le_of_ble_eq_true rfl) (CF_9 (by decide +kernel)) rfl (Nat.le_of_ble_eq_true rfl) dL_law_251 ⟨Nat.le_of_ble_eq_true rfl, Nat.le_of_ble_eq_true rfl⟩ ?_
  refine lx_aload_n 1 dL_law_254 rfl ?_
  refine lx_rd (q := 1) (by omega) hL (by decide) dL_law_255 dL_law_256 dL_law_257 dL_law_258 dL_law_259 ?_
  refine lx_sE (As := [.int (xs (i + 1))]) (rest := [.int (xregister S (xs (i + 1)))]) (e_X10_register G S L  (xs (i + 1))) ⟨rfl, rfl⟩ (sv_w5 ml_RL_38 im_X10_register sl_X10_register in_RX10 cd_X10_register) nm_X10_register ⟨Nat.le_of_ble_eq_true rfl, Nat.le_of_ble_eq_true rfl⟩ (ci := 10) rfl (Nat.le_of_ble_eq_true rfl) (CF_10 (by decide +kernel)) rfl (Nat.le_of_ble_eq_true rfl) dL_law_260 ⟨Nat.le_of_ble_eq_true rfl, Nat.le_of_ble_eq_true rfl⟩ ?_
  exact lx_icmp_eq (tgt := 967) dL_law_263 (by decide) ke (hn _ _ h hl)
set_option maxRecDepth 100000 in
set_option maxHeartbeats 4000000 in
theorem lc_6 {G : GT} {b Ls i : Nat} {xs : Nat → Int32} (hL : Ls ≤ 3072) (hi : i + 6 ≤ Ls) (hn : lNx G b Ls xs i) (S : Nat → Nat → Int32) (L : Nat → Int64) (h : Rel S S) (hl : L 0 = L 179) : lx_V G b Ls xs 197 7427 197 (CF G S L) 268 (lLS G b i) [] := by
  have h1 : Rel S S := h
  have ke := k_cell h (xs (i + 1))
  refine lx_aload_n 2 dL_law_268 rfl ?_
  refine lx_rd (q := 1) (by omega) hL (by decide) dL_law_269 dL_law_270 dL_law_271 dL_law_272 dL_law_273 ?_
  refine lx_sE (As := [.int (xs (i + 1))]) (rest := []) (e_X9_cell G S L  (xs (i + 1))) ⟨rfl, rfl⟩ (sv_w5 ml_RL_39 im_X9_cell sl_X9_cell in_RX9 cd_X9_cell) nm_X9_cell ⟨Nat.le_of_ble_eq_true rfl, Nat.le_of_ble_eq_true rfl⟩ (ci := 9) rfl (Nat.le_of_ble_eq_true rfl) (CF_9 (by decide +kernel)) rfl (Nat.le_of_ble_eq_true rfl) dL_law_274 ⟨Nat.le_of_ble_eq_true rfl, Nat.le_of_ble_eq_true rfl⟩ ?_
  refine lx_aload_n 1 dL_law_277 rfl ?_
  refine lx_rd (q := 1) (by omega) hL (by decide) dL_law_278 dL_law_279 dL_law_280 dL_law_281 dL_law_282 ?_
  refine lx_sE (As := [.int (xs (i + 1))]) (rest := [.int (xcell S (xs (i + 1)))]) (e_X10_cell G S L  (xs (i + 1))) ⟨rfl, rfl⟩ (sv_w5 ml_RL_42 im_X10_cell sl_X10_cell in_RX10 cd_X10_cell) nm_X10_cell ⟨Nat.le_of_ble_eq_true rfl, Nat.le_of_ble_eq_true rfl⟩ (ci := 10) rfl (Nat.le_of_ble_eq_true rfl) (CF_10 (by decide +kernel)) rfl (Nat.le_of_ble_eq_true rfl) dL_law_283 ⟨Nat.le_of_ble_eq_true rfl, Nat.le_of_ble_eq_true rfl⟩ ?_
  exact lx_icmp_eq (tgt := 967) dL_law_286 (by decide) ke (hn _ _ h hl)
set_option maxRecDepth 100000 in
set_option maxHeartbeats 4000000 in
theorem lc_7 {G : GT} {b Ls i : Nat} {xs : Nat → Int32} (hL : Ls ≤ 3072) (hi : i + 6 ≤ Ls) (hn : lNx G b Ls xs i) (S : Nat → Nat → Int32) (L : Nat → Int64) (h : Rel S S) (hl : L 0 = L 179) : lx_V G b Ls xs 197 7427 197 (CF G S L) 291 (lLS G b i) [] := by
  have h1 : Rel S S := h
  have ke := k_stack h (xs (i + 1))
  refine lx_aload_n 2 dL_law_291 rfl ?_
  refine lx_rd (q := 1) (by omega) hL (by decide) dL_law_292 dL_law_293 dL_law_294 dL_law_295 dL_law_296 ?_
  refine lx_sE (As := [.int (xs (i + 1))]) (rest := []) (e_X9_stack G S L (Rel_WX h) (xs (i + 1))) ⟨rfl, rfl⟩ (sv_w5 ml_RL_43 im_X9_stack sl_X9_stack in_RX9 cd_X9_stack) nm_X9_stack ⟨Nat.le_of_ble_eq_true rfl, Nat.le_of_ble_eq_true rfl⟩ (ci := 9) rfl (Nat.le_of_ble_eq_true rfl) (CF_9 (by decide +kernel)) rfl (Nat.le_of_ble_eq_true rfl) dL_law_297 ⟨Nat.le_of_ble_eq_true rfl, Nat.le_of_ble_eq_true rfl⟩ ?_
  refine lx_aload_n 1 dL_law_300 rfl ?_
  refine lx_rd (q := 1) (by omega) hL (by decide) dL_law_301 dL_law_302 dL_law_303 dL_law_304 dL_law_305 ?_
  refine lx_sE (As := [.int (xs (i + 1))]) (rest := [.int (xstack S (xs (i + 1)))]) (e_X10_stack G S L (Rel_wfR h1) (xs (i + 1))) ⟨rfl, rfl⟩ (sv_w5 ml_RL_46 im_X10_stack sl_X10_stack in_RX10 cd_X10_stack) nm_X10_stack ⟨Nat.le_of_ble_eq_true rfl, Nat.le_of_ble_eq_true rfl⟩ (ci := 10) rfl (Nat.le_of_ble_eq_true rfl) (CF_10 (by decide +kernel)) rfl (Nat.le_of_ble_eq_true rfl) dL_law_306 ⟨Nat.le_of_ble_eq_true rfl, Nat.le_of_ble_eq_true rfl⟩ ?_
  exact lx_icmp_eq (tgt := 967) dL_law_309 (by decide) ke (hn _ _ h hl)
set_option maxRecDepth 100000 in
set_option maxHeartbeats 4000000 in
theorem lc_8 {G : GT} {b Ls i : Nat} {xs : Nat → Int32} (hL : Ls ≤ 3072) (hi : i + 6 ≤ Ls) (hn : lNx G b Ls xs i) (S : Nat → Nat → Int32) (L : Nat → Int64) (h : Rel S S) (hl : L 0 = L 179) : lx_V G b Ls xs 197 7427 197 (CF G S L) 314 (lLS G b i) [] := by
  have h1 : Rel S S := h
  have ke := k_broken h (xs (i + 1)) (xs (i + 2))
  refine lx_aload_n 2 dL_law_314 rfl ?_
  refine lx_rd (q := 1) (by omega) hL (by decide) dL_law_315 dL_law_316 dL_law_317 dL_law_318 dL_law_319 ?_
  refine lx_rd (q := 2) (by omega) hL (by decide) dL_law_320 dL_law_321 dL_law_322 dL_law_323 dL_law_324 ?_
  refine lx_sE (As := [.int (xs (i + 1)), .int (xs (i + 2))]) (rest := []) (e_X9_broken G S L (Rel_WX h) (xs (i + 1)) (xs (i + 2))) ⟨rfl, rfl⟩ (sv_w5 ml_RL_47 im_X9_broken sl_X9_broken in_RX9 cd_X9_broken) nm_X9_broken ⟨Nat.le_of_ble_eq_true rfl, Nat.le_of_ble_eq_true rfl⟩ (ci := 9) rfl (Nat.le_of_ble_eq_true rfl) (CF_9 (by decide +kernel)) rfl (Nat.le_of_ble_eq_true rfl) dL_law_325 ⟨Nat.le_of_ble_eq_true rfl, Nat.le_of_ble_eq_true rfl⟩ ?_
  refine lx_aload_n 1 dL_law_328 rfl ?_
  refine lx_rd (q := 1) (by omega) hL (by decide) dL_law_329 dL_law_330 dL_law_331 dL_law_332 dL_law_333 ?_
  refine lx_rd (q := 2) (by omega) hL (by decide) dL_law_334 dL_law_335 dL_law_336 dL_law_337 dL_law_338 ?_
  refine lx_sE (As := [.int (xs (i + 1)), .int (xs (i + 2))]) (rest := [.int (xbroken S (xs (i + 1)) (xs (i + 2)))]) (e_X10_broken G S L h1.2.1.2.1.1 (xs (i + 1)) (xs (i + 2))) ⟨rfl, rfl⟩ (sv_w5 ml_RL_51 im_X10_broken sl_X10_broken in_RX10 cd_X10_broken) nm_X10_broken ⟨Nat.le_of_ble_eq_true rfl, Nat.le_of_ble_eq_true rfl⟩ (ci := 10) rfl (Nat.le_of_ble_eq_true rfl) (CF_10 (by decide +kernel)) rfl (Nat.le_of_ble_eq_true rfl) dL_law_339 ⟨Nat.le_of_ble_eq_true rfl, Nat.le_of_ble_eq_true rfl⟩ ?_
  exact lx_icmp_eq (tgt := 967) dL_law_342 (by decide) ke (hn _ _ h hl)
set_option maxRecDepth 100000 in
set_option maxHeartbeats 4000000 in
theorem lc_9 {G : GT} {b Ls i : Nat} {xs : Nat → Int32} (hL : Ls ≤ 3072) (hi : i + 6 ≤ Ls) (hn : lNx G b Ls xs i) (S : Nat → Nat → Int32) (L : Nat → Int64) (h : Rel S S) (hl : L 0 = L 179) : lx_V G b Ls xs 197 7427 197 (CF G S L) 347 (lLS G b i) [] := by
  have h1 : Rel S S := h
  have ke := k_copy h (xs (i + 1))
  refine lx_aload_n 2 dL_law_347 rfl ?_
  refine lx_rd (q := 1) (by omega) hL (by decide) dL_law_348 dL_law_349 dL_law_350 dL_law_351 dL_law_352 ?_
  refine lx_sE (As := [.int (xs (i + 1))]) (rest := []) (e_X9_copy G S L (Rel_WX h) (xs (i + 1))) ⟨rfl, rfl⟩ (sv_w5 ml_RL_52 im_X9_copy sl_X9_copy in_RX9 cd_X9_copy) nm_X9_copy ⟨Nat.le_of_ble_eq_true rfl, Nat.le_of_ble_eq_true rfl⟩ (ci := 9) rfl (Nat.le_of_ble_eq_true rfl) (CF_9 (by decide +kernel)) rfl (Nat.le_of_ble_eq_true rfl) dL_law_353 ⟨Nat.le_of_ble_eq_true rfl, Nat.le_of_ble_eq_true rfl⟩ ?_
  refine lx_aload_n 1 dL_law_356 rfl ?_
  refine lx_rd (q := 1) (by omega) hL (by decide) dL_law_357 dL_law_358 dL_law_359 dL_law_360 dL_law_361 ?_
  refine lx_sE (As := [.int (xs (i + 1))]) (rest := [.int (xcopy S (xs (i + 1)))]) (e_X10_copy G S L (Rel_wfR h1) (xs (i + 1))) ⟨rfl, rfl⟩ (sv_w5 ml_RL_55 im_X10_copy sl_X10_copy in_RX10 cd_X10_copy) nm_X10_copy ⟨Nat.le_of_ble_eq_true rfl, Nat.le_of_ble_eq_true rfl⟩ (ci := 10) rfl (Nat.le_of_ble_eq_true rfl) (CF_10 (by decide +kernel)) rfl (Nat.le_of_ble_eq_true rfl) dL_law_362 ⟨Nat.le_of_ble_eq_true rfl, Nat.le_of_ble_eq_true rfl⟩ ?_
  exact lx_icmp_eq (tgt := 967) dL_law_365 (by decide) ke (hn _ _ h hl)
set_option maxRecDepth 100000 in
set_option maxHeartbeats 4000000 in
theorem lc_10 {G : GT} {b Ls i : Nat} {xs : Nat → Int32} (hL : Ls ≤ 3072) (hi : i + 6 ≤ Ls) (hn : lNx G b Ls xs i) (S : Nat → Nat → Int32) (L : Nat → Int64) (h : Rel S S) (hl : L 0 = L 179) : lx_V G b Ls xs 197 7427 197 (CF G S L) 370 (lLS G b i) [] := by
  obtain ⟨ke, kr, h1⟩ := k_plan h (xs (i + 1))
  refine lx_aload_n 2 dL_law_370 rfl ?_
  refine lx_rd (q := 1) (by omega) hL (by decide) dL_law_371 dL_law_372 dL_law_373 dL_law_374 dL_law_375 ?_
  refine lx_sE (As := [.int (xs (i + 1))]) (rest := []) (e_X9_plan G S L (Rel_WX h) (xs (i + 1))) ⟨rfl, rfl⟩ (sv_w5 ml_RL_56 im_X9_plan sl_X9_plan in_RX9 cd_X9_plan) nm_X9_plan ⟨Nat.le_of_ble_eq_true rfl, Nat.le_of_ble_eq_true rfl⟩ (ci := 9) rfl (Nat.le_of_ble_eq_true rfl) (CF_9 (by decide +kernel)) rfl (Nat.le_of_ble_eq_true rfl) dL_law_376 ⟨Nat.le_of_ble_eq_true rfl, Nat.le_of_ble_eq_true rfl⟩ ?_
  refine lx_aload_n 1 dL_law_379 rfl ?_
  refine lx_rd (q := 1) (by omega) hL (by decide) dL_law_380 dL_law_381 dL_law_382 dL_law_383 dL_law_384 ?_
  refine lx_sE (As := [.int (xs (i + 1))]) (rest := [.int (xplan S (xs (i + 1))).1]) (e_X10_plan G (xplan S (xs (i + 1))).2 L h1.2.1.2.1 (Rel_wfR h1) (Rel_wfD h1) (xs (i + 1))) ⟨rfl, rfl⟩ (sv_w5 ml_RL_59 im_X10_plan sl_X10_plan in_RX10 cd_X10_plan) nm_X10_plan ⟨Nat.le_of_ble_eq_true rfl, Nat.le_of_ble_eq_true rfl⟩ (ci := 10) rfl (Nat.le_of_ble_eq_true rfl) (CF_10 (by decide +kernel)) rfl (Nat.le_of_ble_eq_true rfl) dL_law_385 ⟨Nat.le_of_ble_eq_true rfl, Nat.le_of_ble_eq_true rfl⟩ ?_
  exact lx_icmp_eq (tgt := 967) dL_law_388 (by decide) ke (hn _ _ kr hl)
set_option maxRecDepth 100000 in
set_option maxHeartbeats 4000000 in
theorem lc_11 {G : GT} {b Ls i : Nat} {xs : Nat → Int32} (hL : Ls ≤ 3072) (hi : i + 6 ≤ Ls) (hn : lNx G b Ls xs i) (S : Nat → Nat → Int32) (L : Nat → Int64) (h : Rel S S) (hl : L 0 = L 179) : lx_V G b Ls xs 197 7427 197 (CF G S L) 393 (lLS G b i) [] := by
  obtain ⟨ke, kr, h1⟩ := k_set h (xs (i + 1)) (xs (i + 2)) (xs (i + 3))
  refine lx_aload_n 2 dL_law_393 rfl ?_
  refine lx_rd (q := 1) (by omega) hL (by decide) dL_law_394 dL_law_395 dL_law_396 dL_law_397 dL_law_398 ?_
  refine lx_rd (q := 2) (by omega) hL (by decide) dL_law_399 dL_law_400 dL_law_401 dL_law_402 dL_law_403 ?_
  refine lx_rd (q := 3) (by omega) hL (by decide) dL_law_404 dL_law_405 dL_law_406 dL_law_407 dL_law_408 ?_
  refine lx_sE (As := [.int (xs (i + 1)), .int (xs (i + 2)), .int (xs (i + 3))]) (rest := []) (e_X9_set G S L (Rel_WX h) (xs (i + 1)) (xs (i + 2)) (xs (i + 3))) ⟨rfl, rfl⟩ (sv_w5 ml_RL_60 im_X9_set sl_X9_set in_RX9 cd_X9_set) nm_X9_set ⟨Nat.le_of_ble_eq_true rfl, Nat.le_of_ble_eq_true rfl⟩ (ci := 9) rfl (Nat.le_of_ble_eq_true rfl) (CF_9 (by decide +kernel)) rfl (Nat.le_of_ble_eq_true rfl) dL_law_409 ⟨Nat.le_of_ble_eq_true rfl, Nat.le_of_ble_eq_true rfl⟩ ?_
  refine lx_aload_n 1 dL_law_412 rfl ?_
  refine lx_rd (q := 1) (by omega) hL (by decide) dL_law_413 dL_law_414 dL_law_415 dL_law_416 dL_law_417 ?_
  refine lx_rd (q := 2) (by omega) hL (by decide) dL_law_418 dL_law_419 dL_law_420 dL_law_421 dL_law_422 ?_
  refine lx_rd (q := 3) (by omega) hL (by decide) dL_law_423 dL_law_424 dL_law_425 dL_law_426 dL_law_427 ?_
  refine lx_sE (As := [.int (xs (i + 1)), .int (xs (i + 2)), .int (xs (i + 3))]) (rest := [.int (xset S (xs (i + 1)) (xs (i + 2)) (xs (i + 3))).1]) (e_X10_set G (xset S (xs (i + 1)) (xs (i + 2)) (xs (i + 3))).2 L h1.2.1.2.1.1 (Rel_wfD h1) (xs (i + 1)) (xs (i + 2)) (xs (i + 3))) ⟨rfl, rfl⟩ (sv_w5 ml_RL_64 im_X10_set sl_X10_set in_RX10 cd_X10_set) nm_X10_set ⟨Nat.le_of_ble_eq_true rfl, Nat.le_of_ble_eq_true rfl⟩ (ci := 10) rfl (Nat.le_of_ble_eq_true rfl) (CF_10 (by decide +kernel)) rfl (Nat.le_of_ble_eq_true rfl) dL_law_428 ⟨Nat.le_of_ble_eq_true rfl, Nat.le_of_ble_eq_true rfl⟩ ?_
  exact lx_icmp_eq (tgt := 967) dL_law_431 (by decide) ke (hn _ _ kr hl)
set_option maxRecDepth 100000 in
set_option maxHeartbeats 4000000 in
theorem lc_12 {G : GT} {b Ls i : Nat} {xs : Nat → Int32} (hL : Ls ≤ 3072) (hi : i + 6 ≤ Ls) (hn : lNx G b Ls xs i) (S : Nat → Nat → Int32) (L : Nat → Int64) (h : Rel S S) (hl : L 0 = L 179) : lx_V G b Ls xs 197 7427 197 (CF G S L) 436 (lLS G b i) [] := by
  obtain ⟨ke, kr, h1⟩ := k_smash h (xs (i + 1)) (xs (i + 2)) (xs (i + 3)) (xs (i + 4)) (xs (i + 5))
  refine lx_aload_n 2 dL_law_436 rfl ?_
  refine lx_rd (q := 1) (by omega) hL (by decide) dL_law_437 dL_law_438 dL_law_439 dL_law_440 dL_law_441 ?_
  refine lx_rd (q := 2) (by omega) hL (by decide) dL_law_442 dL_law_443 dL_law_444 dL_law_445 dL_law_446 ?_
  refine lx_rd (q := 3) (by omega) hL (by decide) dL_law_447 dL_law_448 dL_law_449 dL_law_450 dL_law_451 ?_
  refine lx_rd (q := 4) (by omega) hL (by decide) dL_law_452 dL_law_453 dL_law_454 dL_law_455 dL_law_456 ?_
  refine lx_rd (q := 5) (by omega) hL (by decide) dL_law_457 dL_law_458 dL_law_459 dL_law_460 dL_law_461 ?_
  refine lx_sE (As := [.int (xs (i + 1)), .int (xs (i + 2)), .int (xs (i + 3)), .int (xs (i + 4)), .int (xs (i + 5))]) (rest := []) (e_X9_smash G S L (Rel_WX h) (xs (i + 1)) (xs (i + 2)) (xs (i + 3)) (xs (i + 4)) (xs (i + 5))) ⟨rfl, rfl⟩ (sv_w5 ml_RL_65 im_X9_smash sl_X9_smash in_RX9 cd_X9_smash) nm_X9_smash ⟨Nat.le_of_ble_eq_true rfl, Nat.le_of_ble_eq_true rfl⟩ (ci := 9) rfl (Nat.le_of_ble_eq_true rfl) (CF_9 (by decide +kernel)) rfl (Nat.le_of_ble_eq_true rfl) dL_law_462 ⟨Nat.le_of_ble_eq_true rfl, Nat.le_of_ble_eq_true rfl⟩ ?_
  refine lx_aload_n 1 dL_law_465 rfl ?_
  refine lx_rd (q := 1) (by omega) hL (by decide) dL_law_466 dL_law_467 dL_law_468 dL_law_469 dL_law_470 ?_
  refine lx_rd (q := 2) (by omega) hL (by decide) dL_law_471 dL_law_472 dL_law_473 dL_law_474 dL_law_475 ?_
  refine lx_rd (q := 3) (by omega) hL (by decide) dL_law_476 dL_law_477 dL_law_478 dL_law_479 dL_law_480 ?_
  refine lx_rd (q := 4) (by omega) hL (by decide) dL_law_481 dL_law_482 dL_law_483 dL_law_484 dL_law_485 ?_
  refine lx_rd (q := 5) (by omega) hL (by decide) dL_law_486 dL_law_487 dL_law_488 dL_law_489 dL_law_490 ?_
  refine lx_sE (As := [.int (xs (i + 1)), .int (xs (i + 2)), .int (xs (i + 3)), .int (xs (i + 4)), .int (xs (i + 5))]) (rest := [.int (xsmash S (xs (i + 1)) (xs (i + 2)) (xs (i + 3)) (xs (i + 4)) (xs (i + 5))).1]) (e_X10_smash G (xsmash S (xs (i + 1)) (xs (i + 2)) (xs (i + 3)) (xs (i + 4)) (xs (i + 5))).2 L h1.2.1.2.1.1 (Rel_wfD h1) (xs (i + 1)) (xs (i + 2)) (xs (i + 3)) (xs (i + 4)) (xs (i + 5))) ⟨rfl, rfl⟩ (sv_w5 ml_RL_69 im_X10_smash sl_X10_smash in_RX10 cd_X10_smash) nm_X10_smash ⟨Nat.le_of_ble_eq_true rfl, Nat.le_of_ble_eq_true rfl⟩ (ci := 10) rfl (Nat.le_of_ble_eq_true rfl) (CF_10 (by decide +kernel)) rfl (Nat.le_of_ble_eq_true rfl) dL_law_491 ⟨Nat.le_of_ble_eq_true rfl, Nat.le_of_ble_eq_true rfl⟩ ?_
  exact lx_icmp_eq (tgt := 967) dL_law_494 (by decide) ke (hn _ _ kr hl)
set_option maxRecDepth 100000 in
set_option maxHeartbeats 4000000 in
theorem lc_13 {G : GT} {b Ls i : Nat} {xs : Nat → Int32} (hL : Ls ≤ 3072) (hi : i + 6 ≤ Ls) (hn : lNx G b Ls xs i) (S : Nat → Nat → Int32) (L : Nat → Int64) (h : Rel S S) (hl : L 0 = L 179) : lx_V G b Ls xs 197 7427 197 (CF G S L) 499 (lLS G b i) [] := by
  obtain ⟨ke, kr, h1⟩ := k_lift h (xs (i + 1))
  refine lx_aload_n 2 dL_law_499 rfl ?_
  refine lx_rd (q := 1) (by omega) hL (by decide) dL_law_500 dL_law_501 dL_law_502 dL_law_503 dL_law_504 ?_
  refine lx_sE (As := [.int (xs (i + 1))]) (rest := []) (e_X9_lift G S L (Rel_WX h) (xs (i + 1))) ⟨rfl, rfl⟩ (sv_w5 ml_RL_70 im_X9_lift sl_X9_lift in_RX9 cd_X9_lift) nm_X9_lift ⟨Nat.le_of_ble_eq_true rfl, Nat.le_of_ble_eq_true rfl⟩ (ci := 9) rfl (Nat.le_of_ble_eq_true rfl) (CF_9 (by decide +kernel)) rfl (Nat.le_of_ble_eq_true rfl) dL_law_505 ⟨Nat.le_of_ble_eq_true rfl, Nat.le_of_ble_eq_true rfl⟩ ?_
  refine lx_aload_n 1 dL_law_508 rfl ?_
  refine lx_rd (q := 1) (by omega) hL (by decide) dL_law_509 dL_law_510 dL_law_511 dL_law_512 dL_law_513 ?_
  refine lx_sE (As := [.int (xs (i + 1))]) (rest := [.int (xlift S (xs (i + 1))).1]) (e_X10_lift G (xlift S (xs (i + 1))).2 L h1.2.1.2.1.1 (Rel_wfD h1) (xs (i + 1))) ⟨rfl, rfl⟩ (sv_w5 ml_RL_73 im_X10_lift sl_X10_lift in_RX10 cd_X10_lift) nm_X10_lift ⟨Nat.le_of_ble_eq_true rfl, Nat.le_of_ble_eq_true rfl⟩ (ci := 10) rfl (Nat.le_of_ble_eq_true rfl) (CF_10 (by decide +kernel)) rfl (Nat.le_of_ble_eq_true rfl) dL_law_514 ⟨Nat.le_of_ble_eq_true rfl, Nat.le_of_ble_eq_true rfl⟩ ?_
  exact lx_icmp_eq (tgt := 967) dL_law_517 (by decide) ke (hn _ _ kr hl)
set_option maxRecDepth 100000 in
set_option maxHeartbeats 4000000 in
theorem lc_14 {G : GT} {b Ls i : Nat} {xs : Nat → Int32} (hL : Ls ≤ 3072) (hi : i + 6 ≤ Ls) (hn : lNx G b Ls xs i) (S : Nat → Nat → Int32) (L : Nat → Int64) (h : Rel S S) (hl : L 0 = L 179) : lx_V G b Ls xs 197 7427 197 (CF G S L) 522 (lLS G b i) [] := by
  obtain ⟨ke, kr, h1⟩ := k_watch h (xs (i + 1))
  refine lx_aload_n 2 dL_law_522 rfl ?_
  refine lx_rd (q := 1) (by omega) hL (by decide) dL_law_523 dL_law_524 dL_law_525 dL_law_526 dL_law_527 ?_
  refine lx_sE (As := [.int (xs (i + 1))]) (rest := []) (e_X9_watch G S L (Rel_WX h) (xs (i + 1))) ⟨rfl, rfl⟩ (sv_w5 ml_RL_74 im_X9_watch sl_X9_watch in_RX9 cd_X9_watch) nm_X9_watch ⟨Nat.le_of_ble_eq_true rfl, Nat.le_of_ble_eq_true rfl⟩ (ci := 9) rfl (Nat.le_of_ble_eq_true rfl) (CF_9 (by decide +kernel)) rfl (Nat.le_of_ble_eq_true rfl) dL_law_528 ⟨Nat.le_of_ble_eq_true rfl, Nat.le_of_ble_eq_true rfl⟩ ?_
  refine lx_aload_n 1 dL_law_531 rfl ?_
  refine lx_rd (q := 1) (by omega) hL (by decide) dL_law_532 dL_law_533 dL_law_534 dL_law_535 dL_law_536 ?_
  refine lx_sE (As := [.int (xs (i + 1))]) (rest := [.int (xwatch S (xs (i + 1))).1]) (e_X10_watch G (xwatch S (xs (i + 1))).2 L (Rel_wfD h1) (xs (i + 1))) ⟨rfl, rfl⟩ (sv_w5 ml_RL_77 im_X10_watch sl_X10_watch in_RX10 cd_X10_watch) nm_X10_watch ⟨Nat.le_of_ble_eq_true rfl, Nat.le_of_ble_eq_true rfl⟩ (ci := 10) rfl (Nat.le_of_ble_eq_true rfl) (CF_10 (by decide +kernel)) rfl (Nat.le_of_ble_eq_true rfl) dL_law_537 ⟨Nat.le_of_ble_eq_true rfl, Nat.le_of_ble_eq_true rfl⟩ ?_
  exact lx_icmp_eq (tgt := 967) dL_law_540 (by decide) ke (hn _ _ kr hl)
set_option maxRecDepth 100000 in
set_option maxHeartbeats 4000000 in
theorem lc_15 {G : GT} {b Ls i : Nat} {xs : Nat → Int32} (hL : Ls ≤ 3072) (hi : i + 6 ≤ Ls) (hn : lNx G b Ls xs i) (S : Nat → Nat → Int32) (L : Nat → Int64) (h : Rel S S) (hl : L 0 = L 179) : lx_V G b Ls xs 197 7427 197 (CF G S L) 545 (lLS G b i) [] := by
  obtain ⟨ke, kr, h1⟩ := k_undo h 
  refine lx_aload_n 2 dL_law_545 rfl ?_
  refine lx_sE (As := []) (rest := []) (e_X9_undo G S L (Rel_WX h) ) ⟨rfl, rfl⟩ (sv_w5 ml_RL_78 im_X9_undo sl_X9_undo in_RX9 cd_X9_undo) nm_X9_undo ⟨Nat.le_of_ble_eq_true rfl, Nat.le_of_ble_eq_true rfl⟩ (ci := 9) rfl (Nat.le_of_ble_eq_true rfl) (CF_9 (by decide +kernel)) rfl (Nat.le_of_ble_eq_true rfl) dL_law_546 ⟨Nat.le_of_ble_eq_true rfl, Nat.le_of_ble_eq_true rfl⟩ ?_
  refine lx_aload_n 1 dL_law_549 rfl ?_
  refine lx_sE (As := []) (rest := [.int (xundo S).1]) (e_X10_undo G (xundo S).2 L (Rel_wfD h1) ) ⟨rfl, rfl⟩ (sv_w5 ml_RL_81 im_X10_undo sl_X10_undo in_RX10 cd_X10_undo) nm_X10_undo ⟨Nat.le_of_ble_eq_true rfl, Nat.le_of_ble_eq_true rfl⟩ (ci := 10) rfl (Nat.le_of_ble_eq_true rfl) (CF_10 (by decide +kernel)) rfl (Nat.le_of_ble_eq_true rfl) dL_law_550 ⟨Nat.le_of_ble_eq_true rfl, Nat.le_of_ble_eq_true rfl⟩ ?_
  exact lx_icmp_eq (tgt := 967) dL_law_553 (by decide) ke (hn _ _ kr hl)
set_option maxRecDepth 100000 in
set_option maxHeartbeats 4000000 in
theorem lc_16 {G : GT} {b Ls i : Nat} {xs : Nat → Int32} (hL : Ls ≤ 3072) (hi : i + 6 ≤ Ls) (hn : lNx G b Ls xs i) (S : Nat → Nat → Int32) (L : Nat → Int64) (h : Rel S S) (hl : L 0 = L 179) : lx_V G b Ls xs 197 7427 197 (CF G S L) 558 (lLS G b i) [] := by
  obtain ⟨ke, kr, h1⟩ := k_aside h (xs (i + 1)) (xs (i + 2))
  refine lx_aload_n 2 dL_law_558 rfl ?_
  refine lx_rd (q := 1) (by omega) hL (by decide) dL_law_559 dL_law_560 dL_law_561 dL_law_562 dL_law_563 ?_
  refine lx_rd (q := 2) (by omega) hL (by decide) dL_law_564 dL_law_565 dL_law_566 dL_law_567 dL_law_568 ?_
  refine lx_sE (As := [.int (xs (i + 1)), .int (xs (i + 2))]) (rest := []) (e_X9_aside G S L (Rel_WX h) (xs (i + 1)) (xs (i + 2))) ⟨rfl, rfl⟩ (sv_w5 ml_RL_82 im_X9_aside sl_X9_aside in_RX9 cd_X9_aside) nm_X9_aside ⟨Nat.le_of_ble_eq_true rfl, Nat.le_of_ble_eq_true rfl⟩ (ci := 9) rfl (Nat.le_of_ble_eq_true rfl) (CF_9 (by decide +kernel)) rfl (Nat.le_of_ble_eq_true rfl) dL_law_569 ⟨Nat.le_of_ble_eq_true rfl, Nat.le_of_ble_eq_true rfl⟩ ?_
  refine lx_aload_n 1 dL_law_572 rfl ?_
  refine lx_rd (q := 1) (by omega) hL (by decide) dL_law_573 dL_law_574 dL_law_575 dL_law_576 dL_law_577 ?_
  refine lx_rd (q := 2) (by omega) hL (by decide) dL_law_578 dL_law_579 dL_law_580 dL_law_581 dL_law_582 ?_
  refine lx_sE (As := [.int (xs (i + 1)), .int (xs (i + 2))]) (rest := [.int (xaside S (xs (i + 1)) (xs (i + 2)))]) (e_X10_aside G S L h1.2.1.2.1 (Rel_wfR h1) (xs (i + 1)) (xs (i + 2))) ⟨rfl, rfl⟩ (sv_w5 ml_RL_85 im_X10_aside sl_X10_aside in_RX10 cd_X10_aside) nm_X10_aside ⟨Nat.le_of_ble_eq_true rfl, Nat.le_of_ble_eq_true rfl⟩ (ci := 10) rfl (Nat.le_of_ble_eq_true rfl) (CF_10 (by decide +kernel)) rfl (Nat.le_of_ble_eq_true rfl) dL_law_583 ⟨Nat.le_of_ble_eq_true rfl, Nat.le_of_ble_eq_true rfl⟩ ?_
  exact lx_icmp_eq (tgt := 967) dL_law_586 (by decide) ke (hn _ _ kr hl)
set_option maxRecDepth 100000 in
set_option maxHeartbeats 4000000 in
theorem lc_17 {G : GT} {b Ls i : Nat} {xs : Nat → Int32} (hL : Ls ≤ 3072) (hi : i + 6 ≤ Ls) (hn : lNx G b Ls xs i) (S : Nat → Nat → Int32) (L : Nat → Int64) (h : Rel S S) (hl : L 0 = L 179) : lx_V G b Ls xs 197 7427 197 (CF G S L) 591 (lLS G b i) [] := by
  obtain ⟨ke, kr, h1⟩ := k_free h (xs (i + 1))
  refine lx_aload_n 2 dL_law_591 rfl ?_
  refine lx_rd (q := 1) (by omega) hL (by decide) dL_law_592 dL_law_593 dL_law_594 dL_law_595 dL_law_596 ?_
  refine lx_sE (As := [.int (xs (i + 1))]) (rest := []) (e_X9_free G S L (Rel_WX h) (xs (i + 1))) ⟨rfl, rfl⟩ (sv_w5 ml_RL_86 im_X9_free sl_X9_free in_RX9 cd_X9_free) nm_X9_free ⟨Nat.le_of_ble_eq_true rfl, Nat.le_of_ble_eq_true rfl⟩ (ci := 9) rfl (Nat.le_of_ble_eq_true rfl) (CF_9 (by decide +kernel)) rfl (Nat.le_of_ble_eq_true rfl) dL_law_597 ⟨Nat.le_of_ble_eq_true rfl, Nat.le_of_ble_eq_true rfl⟩ ?_
  refine lx_aload_n 1 dL_law_600 rfl ?_
  refine lx_rd (q := 1) (by omega) hL (by decide) dL_law_601 dL_law_602 dL_law_603 dL_law_604 dL_law_605 ?_
  refine lx_sE (As := [.int (xs (i + 1))]) (rest := [.int (xfree S (xs (i + 1))).1]) (e_X10_free G (xfree S (xs (i + 1))).2 L h1.2.1.2.1 (Rel_wfR h1) (xs (i + 1))) ⟨rfl, rfl⟩ (sv_w5 ml_RL_89 im_X10_free sl_X10_free in_RX10 cd_X10_free) nm_X10_free ⟨Nat.le_of_ble_eq_true rfl, Nat.le_of_ble_eq_true rfl⟩ (ci := 10) rfl (Nat.le_of_ble_eq_true rfl) (CF_10 (by decide +kernel)) rfl (Nat.le_of_ble_eq_true rfl) dL_law_606 ⟨Nat.le_of_ble_eq_true rfl, Nat.le_of_ble_eq_true rfl⟩ ?_
  exact lx_icmp_eq (tgt := 967) dL_law_609 (by decide) ke (hn _ _ kr hl)
set_option maxRecDepth 100000 in
set_option maxHeartbeats 4000000 in
theorem lc_18 {G : GT} {b Ls i : Nat} {xs : Nat → Int32} (hL : Ls ≤ 3072) (hi : i + 6 ≤ Ls) (hn : lNx G b Ls xs i) (S : Nat → Nat → Int32) (L : Nat → Int64) (h : Rel S S) (hl : L 0 = L 179) : lx_V G b Ls xs 197 7427 197 (CF G S L) 614 (lLS G b i) [] := by
  obtain ⟨ke, kr, h1⟩ := k_judge h (xs (i + 1)) (lgv (xs (i + 2)) (xs (i + 3)))
  refine lx_aload_n 2 dL_law_614 rfl ?_
  refine lx_rd (q := 1) (by omega) hL (by decide) dL_law_615 dL_law_616 dL_law_617 dL_law_618 dL_law_619 ?_
  refine lx_rd (q := 2) (by omega) hL (by decide) dL_law_620 dL_law_621 dL_law_622 dL_law_623 dL_law_624 ?_
  refine lx_i2l dL_law_625 ?_
  refine lx_bipush (v := 32) dL_law_626 (by decide) ?_
  refine lx_lshl dL_law_628 ?_
  refine lx_rd (q := 3) (by omega) hL (by decide) dL_law_629 dL_law_630 dL_law_631 dL_law_632 dL_law_633 ?_
  refine lx_i2l dL_law_634 ?_
  refine lx_ldc2 ck_RL_90 dL_law_635 ?_
  refine lx_land dL_law_638 ?_
  refine lx_lor dL_law_639 ?_
  refine lx_sE (As := [.int (xs (i + 1)), .long (lgv (xs (i + 2)) (xs (i + 3)))]) (rest := []) (e_X9_judge G S L (Rel_WX h) (xs (i + 1)) (lgv (xs (i + 2)) (xs (i + 3)))) ⟨rfl, rfl⟩ (sv_w5 ml_RL_92 im_X9_judge sl_X9_judge in_RX9 cd_X9_judge) nm_X9_judge ⟨Nat.le_of_ble_eq_true rfl, Nat.le_of_ble_eq_true rfl⟩ (ci := 9) rfl (Nat.le_of_ble_eq_true rfl) (CF_9 (by decide +kernel)) rfl (Nat.le_of_ble_eq_true rfl) dL_law_640 ⟨Nat.le_of_ble_eq_true rfl, Nat.le_of_ble_eq_true rfl⟩ ?_
  refine lx_aload_n 1 dL_law_643 rfl ?_
  refine lx_rd (q := 1) (by omega) hL (by decide) dL_law_644 dL_law_645 dL_law_646 dL_law_647 dL_law_648 ?_
  refine lx_rd (q := 2) (by omega) hL (by decide) dL_law_649 dL_law_650 dL_law_651 dL_law_652 dL_law_653 ?_
  refine lx_i2l dL_law_654 ?_
  refine lx_bipush (v := 32) dL_law_655 (by decide) ?_
  refine lx_lshl dL_law_657 ?_
  refine lx_rd (q := 3) (by omega) hL (by decide) dL_law_658 dL_law_659 dL_law_660 dL_law_661 dL_law_662 ?_
  refine lx_i2l dL_law_663 ?_
  refine lx_ldc2 ck_RL_90 dL_law_664 ?_
  refine lx_land dL_law_667 ?_
  refine lx_lor dL_law_668 ?_
  refine lx_sE (As := [.int (xs (i + 1)), .long (lgv (xs (i + 2)) (xs (i + 3)))]) (rest := [.int (xjudge S (xs (i + 1)) (lgv (xs (i + 2)) (xs (i + 3)))).1]) (e_X10_judge G (xjudge S (xs (i + 1)) (lgv (xs (i + 2)) (xs (i + 3)))).2 L h1.2.1.2.1 (Rel_wfR h1) (xs (i + 1)) (lgv (xs (i + 2)) (xs (i + 3)))) ⟨rfl, rfl⟩ (sv_w5 ml_RL_96 im_X10_judge sl_X10_judge in_RX10 cd_X10_judge) nm_X10_judge ⟨Nat.le_of_ble_eq_true rfl, Nat.le_of_ble_eq_true rfl⟩ (ci := 10) rfl (Nat.le_of_ble_eq_true rfl) (CF_10 (by decide +kernel)) rfl (Nat.le_of_ble_eq_true rfl) dL_law_669 ⟨Nat.le_of_ble_eq_true rfl, Nat.le_of_ble_eq_true rfl⟩ ?_
  exact lx_icmp_eq (tgt := 967) dL_law_672 (by decide) ke (hn _ _ kr hl)
set_option maxRecDepth 100000 in
set_option maxHeartbeats 4000000 in
theorem lc_19 {G : GT} {b Ls i : Nat} {xs : Nat → Int32} (hL : Ls ≤ 3072) (hi : i + 6 ≤ Ls) (hn : lNx G b Ls xs i) (S : Nat → Nat → Int32) (L : Nat → Int64) (h : Rel S S) (hl : L 0 = L 179) : lx_V G b Ls xs 197 7427 197 (CF G S L) 677 (lLS G b i) [] := by
  obtain ⟨ke, kr, h1⟩ := k_see h (xs (i + 1)) (xs (i + 2))
  refine lx_aload_n 2 dL_law_677 rfl ?_
  refine lx_rd (q := 1) (by omega) hL (by decide) dL_law_678 dL_law_679 dL_law_680 dL_law_681 dL_law_682 ?_
  refine lx_rd (q := 2) (by omega) hL (by decide) dL_law_683 dL_law_684 dL_law_685 dL_law_686 dL_law_687 ?_
  refine lx_sE (As := [.int (xs (i + 1)), .int (xs (i + 2))]) (rest := []) (e_X9_see G S L (Rel_WX h) (xs (i + 1)) (xs (i + 2))) ⟨rfl, rfl⟩ (sv_w5 ml_RL_97 im_X9_see sl_X9_see in_RX9 cd_X9_see) nm_X9_see ⟨Nat.le_of_ble_eq_true rfl, Nat.le_of_ble_eq_true rfl⟩ (ci := 9) rfl (Nat.le_of_ble_eq_true rfl) (CF_9 (by decide +kernel)) rfl (Nat.le_of_ble_eq_true rfl) dL_law_688 ⟨Nat.le_of_ble_eq_true rfl, Nat.le_of_ble_eq_true rfl⟩ ?_
  refine lx_aload_n 1 dL_law_691 rfl ?_
  refine lx_rd (q := 1) (by omega) hL (by decide) dL_law_692 dL_law_693 dL_law_694 dL_law_695 dL_law_696 ?_
  refine lx_rd (q := 2) (by omega) hL (by decide) dL_law_697 dL_law_698 dL_law_699 dL_law_700 dL_law_701 ?_
  refine lx_sE (As := [.int (xs (i + 1)), .int (xs (i + 2))]) (rest := [.int (xsee S (xs (i + 1)) (xs (i + 2))).1]) (e_X10_see G (xsee S (xs (i + 1)) (xs (i + 2))).2 L (Rel_wfV h1) (xs (i + 1)) (xs (i + 2))) ⟨rfl, rfl⟩ (sv_w5 ml_RL_100 im_X10_see sl_X10_see in_RX10 cd_X10_see) nm_X10_see ⟨Nat.le_of_ble_eq_true rfl, Nat.le_of_ble_eq_true rfl⟩ (ci := 10) rfl (Nat.le_of_ble_eq_true rfl) (CF_10 (by decide +kernel)) rfl (Nat.le_of_ble_eq_true rfl) dL_law_702 ⟨Nat.le_of_ble_eq_true rfl, Nat.le_of_ble_eq_true rfl⟩ ?_
  exact lx_icmp_eq (tgt := 967) dL_law_705 (by decide) ke (hn _ _ kr hl)
set_option maxRecDepth 100000 in
set_option maxHeartbeats 4000000 in
theorem lc_20 {G : GT} {b Ls i : Nat} {xs : Nat → Int32} (hL : Ls ≤ 3072) (hi : i + 6 ≤ Ls) (hn : lNx G b Ls xs i) (S : Nat → Nat → Int32) (L : Nat → Int64) (h : Rel S S) (hl : L 0 = L 179) : lx_V G b Ls xs 197 7427 197 (CF G S L) 710 (lLS G b i) [] := by
  obtain ⟨ke, kr, h1⟩ := k_unsee h 
  refine lx_aload_n 2 dL_law_710 rfl ?_
  refine lx_sE (As := []) (rest := []) (e_X9_unsee G S L  ) ⟨rfl, rfl⟩ (sv_w5 ml_RL_101 im_X9_unsee sl_X9_unsee in_RX9 cd_X9_unsee) nm_X9_unsee ⟨Nat.le_of_ble_eq_true rfl, Nat.le_of_ble_eq_true rfl⟩ (ci := 9) rfl (Nat.le_of_ble_eq_true rfl) (CF_9 (by decide +kernel)) rfl (Nat.le_of_ble_eq_true rfl) dL_law_711 ⟨Nat.le_of_ble_eq_true rfl, Nat.le_of_ble_eq_true rfl⟩ ?_
  refine lx_aload_n 1 dL_law_714 rfl ?_
  refine lx_sE (As := []) (rest := [.int (xunsee S).1]) (e_X10_unsee G (xunsee S).2 L  ) ⟨rfl, rfl⟩ (sv_w5 ml_RL_104 im_X10_unsee sl_X10_unsee in_RX10 cd_X10_unsee) nm_X10_unsee ⟨Nat.le_of_ble_eq_true rfl, Nat.le_of_ble_eq_true rfl⟩ (ci := 10) rfl (Nat.le_of_ble_eq_true rfl) (CF_10 (by decide +kernel)) rfl (Nat.le_of_ble_eq_true rfl) dL_law_715 ⟨Nat.le_of_ble_eq_true rfl, Nat.le_of_ble_eq_true rfl⟩ ?_
  exact lx_icmp_eq (tgt := 967) dL_law_718 (by decide) ke (hn _ _ kr hl)
set_option maxRecDepth 100000 in
set_option maxHeartbeats 4000000 in
theorem lc_21 {G : GT} {b Ls i : Nat} {xs : Nat → Int32} (hL : Ls ≤ 3072) (hi : i + 6 ≤ Ls) (hn : lNx G b Ls xs i) (S : Nat → Nat → Int32) (L : Nat → Int64) (h : Rel S S) (hl : L 0 = L 179) : lx_V G b Ls xs 197 7427 197 (CF G S L) 723 (lLS G b i) [] := by
  obtain ⟨ke, kr, h1⟩ := k_which h 
  refine lx_aload_n 2 dL_law_723 rfl ?_
  refine lx_sE (As := []) (rest := []) (e_X9_which G S L (Rel_WX h) ) ⟨rfl, rfl⟩ (sv_w5 ml_RL_105 im_X9_which sl_X9_which in_RX9 cd_X9_which) nm_X9_which ⟨Nat.le_of_ble_eq_true rfl, Nat.le_of_ble_eq_true rfl⟩ (ci := 9) rfl (Nat.le_of_ble_eq_true rfl) (CF_9 (by decide +kernel)) rfl (Nat.le_of_ble_eq_true rfl) dL_law_724 ⟨Nat.le_of_ble_eq_true rfl, Nat.le_of_ble_eq_true rfl⟩ ?_
  refine lx_aload_n 1 dL_law_727 rfl ?_
  refine lx_sE (As := []) (rest := [.int (xwhich S).1]) (e_X10_which G (xwhich S).2 L h1.2.1.2.1 (Rel_wfR h1) (Rel_wfV h1) ) ⟨rfl, rfl⟩ (sv_w5 ml_RL_108 im_X10_which sl_X10_which in_RX10 cd_X10_which) nm_X10_which ⟨Nat.le_of_ble_eq_true rfl, Nat.le_of_ble_eq_true rfl⟩ (ci := 10) rfl (Nat.le_of_ble_eq_true rfl) (CF_10 (by decide +kernel)) rfl (Nat.le_of_ble_eq_true rfl) dL_law_728 ⟨Nat.le_of_ble_eq_true rfl, Nat.le_of_ble_eq_true rfl⟩ ?_
  exact lx_icmp_eq (tgt := 967) dL_law_731 (by decide) ke (hn _ _ kr hl)
set_option maxRecDepth 100000 in
set_option maxHeartbeats 4000000 in
theorem lc_22 {G : GT} {b Ls i : Nat} {xs : Nat → Int32} (hL : Ls ≤ 3072) (hi : i + 6 ≤ Ls) (hn : lNx G b Ls xs i) (S : Nat → Nat → Int32) (L : Nat → Int64) (h : Rel S S) (hl : L 0 = L 179) : lx_V G b Ls xs 197 7427 197 (CF G S L) 736 (lLS G b i) [] := by
  obtain ⟨ke, kr, h1⟩ := k_share h (xs (i + 1)) ((if xs (i + 2) = 0 then 0 else 1))
  refine lx_aload_n 2 dL_law_736 rfl ?_
  refine lx_rd (q := 1) (by omega) hL (by decide) dL_law_737 dL_law_738 dL_law_739 dL_law_740 dL_law_741 ?_
  refine lx_rd (q := 2) (by omega) hL (by decide) dL_law_742 dL_law_743 dL_law_744 dL_law_745 dL_law_746 ?_
  refine lx_bool dL_law_747 dL_law_750 dL_law_751 dL_law_754 ?_
  refine lx_sE (As := [.int (xs (i + 1)), .int ((if xs (i + 2) = 0 then 0 else 1))]) (rest := []) (e_X9_share G S L (Rel_WX h) (xs (i + 1)) ((if xs (i + 2) = 0 then 0 else 1))) ⟨rfl, rfl⟩ (sv_w5 ml_RL_109 im_X9_share sl_X9_share in_RX9 cd_X9_share) nm_X9_share ⟨Nat.le_of_ble_eq_true rfl, Nat.le_of_ble_eq_true rfl⟩ (ci := 9) rfl (Nat.le_of_ble_eq_true rfl) (CF_9 (by decide +kernel)) rfl (Nat.le_of_ble_eq_true rfl) dL_law_755 ⟨Nat.le_of_ble_eq_true rfl, Nat.le_of_ble_eq_true rfl⟩ ?_
  refine lx_aload_n 1 dL_law_758 rfl ?_
  refine lx_rd (q := 1) (by omega) hL (by decide) dL_law_759 dL_law_760 dL_law_761 dL_law_762 dL_law_763 ?_
  refine lx_rd (q := 2) (by omega) hL (by decide) dL_law_764 dL_law_765 dL_law_766 dL_law_767 dL_law_768 ?_
  refine lx_bool dL_law_769 dL_law_772 dL_law_773 dL_law_776 ?_
  refine lx_sE (As := [.int (xs (i + 1)), .int ((if xs (i + 2) = 0 then 0 else 1))]) (rest := [.int (xshare S (xs (i + 1)) ((if xs (i + 2) = 0 then 0 else 1))).1]) (e_X10_share G (xshare S (xs (i + 1)) ((if xs (i + 2) = 0 then 0 else 1))).2 L h1.2.1.2.1 (Rel_wfR h1) (Rel_hK h1) (xs (i + 1)) ((if xs (i + 2) = 0 then 0 else 1))) ⟨rfl, rfl⟩ (sv_w5 ml_RL_113 im_X10_share sl_X10_share in_RX10 cd_X10_share) nm_X10_share ⟨Nat.le_of_ble_eq_true rfl, Nat.le_of_ble_eq_true rfl⟩ (ci := 10) rfl (Nat.le_of_ble_eq_true rfl) (CF_10 (by decide +kernel)) rfl (Nat.le_of_ble_eq_true rfl) dL_law_777 ⟨Nat.le_of_ble_eq_true rfl, Nat.le_of_ble_eq_true rfl⟩ ?_
  exact lx_icmp_eq (tgt := 967) dL_law_780 (by decide) ke (hn _ _ kr hl)
set_option maxRecDepth 100000 in
set_option maxHeartbeats 4000000 in
theorem lc_23 {G : GT} {b Ls i : Nat} {xs : Nat → Int32} (hL : Ls ≤ 3072) (hi : i + 6 ≤ Ls) (hn : lNx G b Ls xs i) (S : Nat → Nat → Int32) (L : Nat → Int64) (h : Rel S S) (hl : L 0 = L 179) : lx_V G b Ls xs 197 7427 197 (CF G S L) 785 (lLS G b i) [] := by
  obtain ⟨ke, kr, h1⟩ := k_chance h (xs (i + 1)) (xs (i + 2)) ((if xs (i + 3) = 0 then 0 else 1))
  refine lx_aload_n 2 dL_law_785 rfl ?_
  refine lx_rd (q := 1) (by omega) hL (by decide) dL_law_786 dL_law_787 dL_law_788 dL_law_789 dL_law_790 ?_
  refine lx_rd (q := 2) (by omega) hL (by decide) dL_law_791 dL_law_792 dL_law_793 dL_law_794 dL_law_795 ?_
  refine lx_rd (q := 3) (by omega) hL (by decide) dL_law_796 dL_law_797 dL_law_798 dL_law_799 dL_law_800 ?_
  refine lx_bool dL_law_801 dL_law_804 dL_law_805 dL_law_808 ?_
  refine lx_sE (As := [.int (xs (i + 1)), .int (xs (i + 2)), .int ((if xs (i + 3) = 0 then 0 else 1))]) (rest := []) (e_X9_chance G S L (Rel_WX h) (xs (i + 1)) (xs (i + 2)) ((if xs (i + 3) = 0 then 0 else 1))) ⟨rfl, rfl⟩ (sv_w5 ml_RL_114 im_X9_chance sl_X9_chance in_RX9 cd_X9_chance) nm_X9_chance ⟨Nat.le_of_ble_eq_true rfl, Nat.le_of_ble_eq_true rfl⟩ (ci := 9) rfl (Nat.le_of_ble_eq_true rfl) (CF_9 (by decide +kernel)) rfl (Nat.le_of_ble_eq_true rfl) dL_law_809 ⟨Nat.le_of_ble_eq_true rfl, Nat.le_of_ble_eq_true rfl⟩ ?_
  refine lx_aload_n 1 dL_law_812 rfl ?_
  refine lx_rd (q := 1) (by omega) hL (by decide) dL_law_813 dL_law_814 dL_law_815 dL_law_816 dL_law_817 ?_
  refine lx_rd (q := 2) (by omega) hL (by decide) dL_law_818 dL_law_819 dL_law_820 dL_law_821 dL_law_822 ?_
  refine lx_rd (q := 3) (by omega) hL (by decide) dL_law_823 dL_law_824 dL_law_825 dL_law_826 dL_law_827 ?_
  refine lx_bool dL_law_828 dL_law_831 dL_law_832 dL_law_835 ?_
  refine lx_sE (As := [.int (xs (i + 1)), .int (xs (i + 2)), .int ((if xs (i + 3) = 0 then 0 else 1))]) (rest := [.int (xchance S (xs (i + 1)) (xs (i + 2)) ((if xs (i + 3) = 0 then 0 else 1))).1]) (e_X10_chance G (xchance S (xs (i + 1)) (xs (i + 2)) ((if xs (i + 3) = 0 then 0 else 1))).2 L h1.2.1.2.1 (Rel_wfR h1) (xs (i + 1)) (xs (i + 2)) ((if xs (i + 3) = 0 then 0 else 1))) ⟨rfl, rfl⟩ (sv_w5 ml_RL_118 im_X10_chance sl_X10_chance in_RX10 cd_X10_chance) nm_X10_chance ⟨Nat.le_of_ble_eq_true rfl, Nat.le_of_ble_eq_true rfl⟩ (ci := 10) rfl (Nat.le_of_ble_eq_true rfl) (CF_10 (by decide +kernel)) rfl (Nat.le_of_ble_eq_true rfl) dL_law_836 ⟨Nat.le_of_ble_eq_true rfl, Nat.le_of_ble_eq_true rfl⟩ ?_
  exact lx_icmp_eq (tgt := 967) dL_law_839 (by decide) ke (hn _ _ kr hl)
set_option maxRecDepth 100000 in
set_option maxHeartbeats 4000000 in
theorem lc_24 {G : GT} {b Ls i : Nat} {xs : Nat → Int32} (hL : Ls ≤ 3072) (hi : i + 6 ≤ Ls) (hn : lNx G b Ls xs i) (S : Nat → Nat → Int32) (L : Nat → Int64) (h : Rel S S) (hl : L 0 = L 179) : lx_V G b Ls xs 197 7427 197 (CF G S L) 844 (lLS G b i) [] := by
  have h1 : Rel S S := h
  refine lx_aload_n 2 dL_law_844 rfl ?_
  refine lx_rd (q := 1) (by omega) hL (by decide) dL_law_845 dL_law_846 dL_law_847 dL_law_848 dL_law_849 ?_
  refine lx_i2l dL_law_850 ?_
  refine lx_bipush (v := 32) dL_law_851 (by decide) ?_
  refine lx_lshl dL_law_853 ?_
  refine lx_rd (q := 2) (by omega) hL (by decide) dL_law_854 dL_law_855 dL_law_856 dL_law_857 dL_law_858 ?_
  refine lx_i2l dL_law_859 ?_
  refine lx_ldc2 ck_RL_90 dL_law_860 ?_
  refine lx_land dL_law_863 ?_
  refine lx_lor dL_law_864 ?_
  refine lx_sE (As := [.long (lgv (xs (i + 1)) (xs (i + 2)))]) (rest := []) (e_X9_seed G S L  (lgv (xs (i + 1)) (xs (i + 2)))) ⟨rfl, rfl⟩ (sv_w5 ml_RL_119 im_X9_seed sl_X9_seed in_RX9 cd_X9_seed) nm_X9_seed ⟨Nat.le_of_ble_eq_true rfl, Nat.le_of_ble_eq_true rfl⟩ (ci := 9) rfl (Nat.le_of_ble_eq_true rfl) (CF_9 (by decide +kernel)) rfl (Nat.le_of_ble_eq_true rfl) dL_law_865 ⟨Nat.le_of_ble_eq_true rfl, Nat.le_of_ble_eq_true rfl⟩ ?_
  refine lx_aload_n 1 dL_law_868 rfl ?_
  refine lx_rd (q := 1) (by omega) hL (by decide) dL_law_869 dL_law_870 dL_law_871 dL_law_872 dL_law_873 ?_
  refine lx_i2l dL_law_874 ?_
  refine lx_bipush (v := 32) dL_law_875 (by decide) ?_
  refine lx_lshl dL_law_877 ?_
  refine lx_rd (q := 2) (by omega) hL (by decide) dL_law_878 dL_law_879 dL_law_880 dL_law_881 dL_law_882 ?_
  refine lx_i2l dL_law_883 ?_
  refine lx_ldc2 ck_RL_90 dL_law_884 ?_
  refine lx_land dL_law_887 ?_
  refine lx_lor dL_law_888 ?_
  refine lx_sE (As := [.long (lgv (xs (i + 1)) (xs (i + 2)))]) (rest := [.long (L 0)]) (e_X10_seed G S (va_up L 0 (lgv (xs (i + 1)) (xs (i + 2))))  (lgv (xs (i + 1)) (xs (i + 2)))) ⟨rfl, rfl⟩ (sv_w5 ml_RL_123 im_X10_seed sl_X10_seed in_RX10 cd_X10_seed) nm_X10_seed ⟨Nat.le_of_ble_eq_true rfl, Nat.le_of_ble_eq_true rfl⟩ (ci := 10) rfl (Nat.le_of_ble_eq_true rfl) (CF_10 (by decide +kernel)) rfl (Nat.le_of_ble_eq_true rfl) dL_law_889 ⟨Nat.le_of_ble_eq_true rfl, Nat.le_of_ble_eq_true rfl⟩ ?_
  refine lx_lcmp dL_law_892 ?_
  have e : (va_up L 0 (lgv (xs (i + 1)) (xs (i + 2)))) 179 = L 179 := by unfold va_up; rw [if_neg (by decide)]
  rw [e, hl, lg_cmp0]
  refine lx_if_eq (tgt := 967) dL_law_893 (by decide) (fun _ => ?_) (fun z => absurd rfl z)
  exact hn _ _ h (by unfold va_up; rw [if_neg (by decide), if_pos rfl, if_pos rfl])
set_option maxRecDepth 100000 in
set_option maxHeartbeats 4000000 in
theorem lc_25 {G : GT} {b Ls i : Nat} {xs : Nat → Int32} (hL : Ls ≤ 3072) (hi : i + 6 ≤ Ls) (hn : lNx G b Ls xs i) (S : Nat → Nat → Int32) (L : Nat → Int64) (h : Rel S S) (hl : L 0 = L 179) : lx_V G b Ls xs 197 7427 197 (CF G S L) 898 (lLS G b i) [] := by
  obtain ⟨⟨ke, kr, h1⟩, kl⟩ := k_drawn h hl (xs (i + 1))
  refine lx_aload_n 2 dL_law_898 rfl ?_
  refine lx_rd (q := 1) (by omega) hL (by decide) dL_law_899 dL_law_900 dL_law_901 dL_law_902 dL_law_903 ?_
  refine lx_sE (As := [.int (xs (i + 1))]) (rest := []) (e_X9_drawn G S L (Rel_WX h) (xs (i + 1))) ⟨rfl, rfl⟩ (sv_w5 ml_RL_124 im_X9_drawn sl_X9_drawn in_RX9 cd_X9_drawn) nm_X9_drawn ⟨Nat.le_of_ble_eq_true rfl, Nat.le_of_ble_eq_true rfl⟩ (ci := 9) rfl (Nat.le_of_ble_eq_true rfl) (CF_9 (by decide +kernel)) rfl (Nat.le_of_ble_eq_true rfl) dL_law_904 ⟨Nat.le_of_ble_eq_true rfl, Nat.le_of_ble_eq_true rfl⟩ ?_
  refine lx_aload_n 1 dL_law_907 rfl ?_
  refine lx_rd (q := 1) (by omega) hL (by decide) dL_law_908 dL_law_909 dL_law_910 dL_law_911 dL_law_912 ?_
  refine lx_sE (As := [.int (xs (i + 1))]) (rest := [.int (xdrawn S L (xs (i + 1))).1]) (e_X10_drawn G (xdrawn S L (xs (i + 1))).2.1 (xdrawn S L (xs (i + 1))).2.2 h1.2.1.2.1 (Rel_wfR h1) (xs (i + 1))) ⟨rfl, rfl⟩ (sv_w5 ml_RL_127 im_X10_drawn sl_X10_drawn in_RX10 cd_X10_drawn) nm_X10_drawn ⟨Nat.le_of_ble_eq_true rfl, Nat.le_of_ble_eq_true rfl⟩ (ci := 10) rfl (Nat.le_of_ble_eq_true rfl) (CF_10 (by decide +kernel)) rfl (Nat.le_of_ble_eq_true rfl) dL_law_913 ⟨Nat.le_of_ble_eq_true rfl, Nat.le_of_ble_eq_true rfl⟩ ?_
  exact lx_icmp_eq (tgt := 967) dL_law_916 (by decide) ke (hn _ _ kr kl)
set_option maxRecDepth 100000 in
set_option maxHeartbeats 4000000 in
theorem lc_26 {G : GT} {b Ls i : Nat} {xs : Nat → Int32} (hL : Ls ≤ 3072) (hi : i + 6 ≤ Ls) (hn : lNx G b Ls xs i) (S : Nat → Nat → Int32) (L : Nat → Int64) (h : Rel S S) (hl : L 0 = L 179) : lx_V G b Ls xs 197 7427 197 (CF G S L) 921 (lLS G b i) [] := by
  obtain ⟨ke, kr, h1⟩ := k_keep h (xs (i + 1))
  refine lx_aload_n 2 dL_law_921 rfl ?_
  refine lx_rd (q := 1) (by omega) hL (by decide) dL_law_922 dL_law_923 dL_law_924 dL_law_925 dL_law_926 ?_
  refine lx_sE (As := [.int (xs (i + 1))]) (rest := []) (e_X9_keep G S L (Rel_WX h) (xs (i + 1))) ⟨rfl, rfl⟩ (sv_w5 ml_RL_128 im_X9_keep sl_X9_keep in_RX9 cd_X9_keep) nm_X9_keep ⟨Nat.le_of_ble_eq_true rfl, Nat.le_of_ble_eq_true rfl⟩ (ci := 9) rfl (Nat.le_of_ble_eq_true rfl) (CF_9 (by decide +kernel)) rfl (Nat.le_of_ble_eq_true rfl) dL_law_927 ⟨Nat.le_of_ble_eq_true rfl, Nat.le_of_ble_eq_true rfl⟩ ?_
  refine lx_aload_n 1 dL_law_930 rfl ?_
  refine lx_rd (q := 1) (by omega) hL (by decide) dL_law_931 dL_law_932 dL_law_933 dL_law_934 dL_law_935 ?_
  refine lx_sE (As := [.int (xs (i + 1))]) (rest := [.int (xkeep S (xs (i + 1))).1]) (e_X10_keep G (xkeep S (xs (i + 1))).2 L  (xs (i + 1))) ⟨rfl, rfl⟩ (sv_w5 ml_RL_131 im_X10_keep sl_X10_keep in_RX10 cd_X10_keep) nm_X10_keep ⟨Nat.le_of_ble_eq_true rfl, Nat.le_of_ble_eq_true rfl⟩ (ci := 10) rfl (Nat.le_of_ble_eq_true rfl) (CF_10 (by decide +kernel)) rfl (Nat.le_of_ble_eq_true rfl) dL_law_936 ⟨Nat.le_of_ble_eq_true rfl, Nat.le_of_ble_eq_true rfl⟩ ?_
  exact lx_icmp_eq (tgt := 967) dL_law_939 (by decide) ke (hn _ _ kr hl)
set_option maxRecDepth 100000 in
set_option maxHeartbeats 4000000 in
theorem lc_27 {G : GT} {b Ls i : Nat} {xs : Nat → Int32} (hL : Ls ≤ 3072) (hi : i + 6 ≤ Ls) (hn : lNx G b Ls xs i) (S : Nat → Nat → Int32) (L : Nat → Int64) (h : Rel S S) (hl : L 0 = L 179) : lx_V G b Ls xs 197 7427 197 (CF G S L) 944 (lLS G b i) [] := by
  obtain ⟨ke, kr, h1⟩ := k_again h (xs (i + 1))
  refine lx_aload_n 2 dL_law_944 rfl ?_
  refine lx_rd (q := 1) (by omega) hL (by decide) dL_law_945 dL_law_946 dL_law_947 dL_law_948 dL_law_949 ?_
  refine lx_sE (As := [.int (xs (i + 1))]) (rest := []) (e_X9_again G S L (Rel_WX h) (xs (i + 1))) ⟨rfl, rfl⟩ (sv_w5 ml_RL_132 im_X9_again sl_X9_again in_RX9 cd_X9_again) nm_X9_again ⟨Nat.le_of_ble_eq_true rfl, Nat.le_of_ble_eq_true rfl⟩ (ci := 9) rfl (Nat.le_of_ble_eq_true rfl) (CF_9 (by decide +kernel)) rfl (Nat.le_of_ble_eq_true rfl) dL_law_950 ⟨Nat.le_of_ble_eq_true rfl, Nat.le_of_ble_eq_true rfl⟩ ?_
  refine lx_aload_n 1 dL_law_953 rfl ?_
  refine lx_rd (q := 1) (by omega) hL (by decide) dL_law_954 dL_law_955 dL_law_956 dL_law_957 dL_law_958 ?_
  refine lx_sE (As := [.int (xs (i + 1))]) (rest := [.int (xagain S (xs (i + 1))).1]) (e_X10_again G (xagain S (xs (i + 1))).2 L  (xs (i + 1))) ⟨rfl, rfl⟩ (sv_w5 ml_RL_135 im_X10_again sl_X10_again in_RX10 cd_X10_again) nm_X10_again ⟨Nat.le_of_ble_eq_true rfl, Nat.le_of_ble_eq_true rfl⟩ (ci := 10) rfl (Nat.le_of_ble_eq_true rfl) (CF_10 (by decide +kernel)) rfl (Nat.le_of_ble_eq_true rfl) dL_law_959 ⟨Nat.le_of_ble_eq_true rfl, Nat.le_of_ble_eq_true rfl⟩ ?_
  exact lx_icmp_eq (tgt := 967) dL_law_962 (by decide) ke (hn _ _ kr hl)
set_option maxRecDepth 100000 in
set_option maxHeartbeats 4000000 in
theorem law_loop {G : GT} {b Ls : Nat} {xs : Nat → Int32} (hL : Ls ≤ 3072) : ∀ (m i : Nat), Ls - i = m → i < 10000 → ∀ (S : Nat → Nat → Int32) (L : Nat → Int64), Rel S S → L 0 = L 179 → lx_V G b Ls xs 197 7427 197 (CF G S L) 18 (lLS G b i) [] := by
  intro m
  induction m using Nat.strongRecOn
  rename_i m ih
  intro i hm hi4 S L h hl
  refine lx_iload_n 0 dL_law_18 rfl ?_
  refine lx_aload_n 3 dL_law_19 rfl ?_
  refine lx_slen dL_law_20 ?_
  refine lx_bipush (v := 6) dL_law_21 (by decide) ?_
  refine lx_isub dL_law_23 ?_
  refine lx_icmp_gt (tgt := 973) dL_law_24 (by decide) (fun _ => ?_) (fun c => ?_)
  · refine lx_iconst (v := 1) dL_law_973 (by decide) ?_
    exact lx_end (Nat.le_of_ble_eq_true rfl) (Nat.le_of_ble_eq_true rfl) dL_law_974
  · have hi : i + 6 ≤ Ls := lp_cond hL hi4 c
    have hn : lNx G b Ls xs i := fun S' L' h' hl' => by
      refine lx_iinc 0 (v := nI (i + 6)) (ls' := lLS G b (i + 6)) dL_law_967 rfl (by rw [← nI_add]; rfl) (by decide) rfl ?_
      refine lx_goto (tgt := 18) dL_law_970 (by decide) ?_
      exact ih (Ls - (i + 6)) (by omega) (i + 6) rfl (by omega) S' L' h' hl'
    refine lx_aload_n 3 dL_law_27 rfl ?_
    refine lx_iload_n 0 dL_law_28 rfl ?_
    refine lx_sld (vp_in_nI (by omega) (by omega)) dL_law_29 ?_
    refine lx_bipush (v := 31) dL_law_30 (by decide) ?_
    refine lx_iand dL_law_32 ?_
    obtain ⟨w, hw, e⟩ := pk_andE (xs (nI i).toNatClampNeg) (m := 31) 5 (by decide)
    rw [e]
    have hw : w < 32 := hw
    rcases (show w = 0 ∨ w = 1 ∨ w = 2 ∨ w = 3 ∨ w = 4 ∨ w = 5 ∨ w = 6 ∨ w = 7 ∨ w = 8 ∨ w = 9 ∨ w = 10 ∨ w = 11 ∨ w = 12 ∨ w = 13 ∨ w = 14 ∨ w = 15 ∨ w = 16 ∨ w = 17 ∨ w = 18 ∨ w = 19 ∨ w = 20 ∨ w = 21 ∨ w = 22 ∨ w = 23 ∨ w = 24 ∨ w = 25 ∨ w = 26 ∨ w = 27 ∨ 28 ≤ w by omega) with rfl | rfl | rfl | rfl | rfl | rfl | rfl | rfl | rfl | rfl | rfl | rfl | rfl | rfl | rfl | rfl | rfl | rfl | rfl | rfl | rfl | rfl | rfl | rfl | rfl | rfl | rfl | rfl | z
    · exact lx_tableIn (tgt := 160) dL_law_33 (by decide) (by decide) rfl (by decide) (lc_0 hL hi hn S L h hl)
    · exact lx_tableIn (tgt := 183) dL_law_33 (by decide) (by decide) rfl (by decide) (lc_1 hL hi hn S L h hl)
    · exact lx_tableIn (tgt := 196) dL_law_33 (by decide) (by decide) rfl (by decide) (lc_2 hL hi hn S L h hl)
    · exact lx_tableIn (tgt := 209) dL_law_33 (by decide) (by decide) rfl (by decide) (lc_3 hL hi hn S L h hl)
    · exact lx_tableIn (tgt := 222) dL_law_33 (by decide) (by decide) rfl (by decide) (lc_4 hL hi hn S L h hl)
    · exact lx_tableIn (tgt := 245) dL_law_33 (by decide) (by decide) rfl (by decide) (lc_5 hL hi hn S L h hl)
    · exact lx_tableIn (tgt := 268) dL_law_33 (by decide) (by decide) rfl (by decide) (lc_6 hL hi hn S L h hl)
    · exact lx_tableIn (tgt := 291) dL_law_33 (by decide) (by decide) rfl (by decide) (lc_7 hL hi hn S L h hl)
    · exact lx_tableIn (tgt := 314) dL_law_33 (by decide) (by decide) rfl (by decide) (lc_8 hL hi hn S L h hl)
    · exact lx_tableIn (tgt := 347) dL_law_33 (by decide) (by decide) rfl (by decide) (lc_9 hL hi hn S L h hl)
    · exact lx_tableIn (tgt := 370) dL_law_33 (by decide) (by decide) rfl (by decide) (lc_10 hL hi hn S L h hl)
    · exact lx_tableIn (tgt := 393) dL_law_33 (by decide) (by decide) rfl (by decide) (lc_11 hL hi hn S L h hl)
    · exact lx_tableIn (tgt := 436) dL_law_33 (by decide) (by decide) rfl (by decide) (lc_12 hL hi hn S L h hl)
    · exact lx_tableIn (tgt := 499) dL_law_33 (by decide) (by decide) rfl (by decide) (lc_13 hL hi hn S L h hl)
    · exact lx_tableIn (tgt := 522) dL_law_33 (by decide) (by decide) rfl (by decide) (lc_14 hL hi hn S L h hl)
    · exact lx_tableIn (tgt := 545) dL_law_33 (by decide) (by decide) rfl (by decide) (lc_15 hL hi hn S L h hl)
    · exact lx_tableIn (tgt := 558) dL_law_33 (by decide) (by decide) rfl (by decide) (lc_16 hL hi hn S L h hl)
    · exact lx_tableIn (tgt := 591) dL_law_33 (by decide) (by decide) rfl (by decide) (lc_17 hL hi hn S L h hl)
    · exact lx_tableIn (tgt := 614) dL_law_33 (by decide) (by decide) rfl (by decide) (lc_18 hL hi hn S L h hl)
    · exact lx_tableIn (tgt := 677) dL_law_33 (by decide) (by decide) rfl (by decide) (lc_19 hL hi hn S L h hl)
    · exact lx_tableIn (tgt := 710) dL_law_33 (by decide) (by decide) rfl (by decide) (lc_20 hL hi hn S L h hl)
    · exact lx_tableIn (tgt := 723) dL_law_33 (by decide) (by decide) rfl (by decide) (lc_21 hL hi hn S L h hl)
    · exact lx_tableIn (tgt := 736) dL_law_33 (by decide) (by decide) rfl (by decide) (lc_22 hL hi hn S L h hl)
    · exact lx_tableIn (tgt := 785) dL_law_33 (by decide) (by decide) rfl (by decide) (lc_23 hL hi hn S L h hl)
    · exact lx_tableIn (tgt := 844) dL_law_33 (by decide) (by decide) rfl (by decide) (lc_24 hL hi hn S L h hl)
    · exact lx_tableIn (tgt := 898) dL_law_33 (by decide) (by decide) rfl (by decide) (lc_25 hL hi hn S L h hl)
    · exact lx_tableIn (tgt := 921) dL_law_33 (by decide) (by decide) rfl (by decide) (lc_26 hL hi hn S L h hl)
    · exact lx_tableIn (tgt := 944) dL_law_33 (by decide) (by decide) rfl (by decide) (lc_27 hL hi hn S L h hl)
    · exact lx_tableOut (tgt := 967) dL_law_33 (Or.inr (by rw [nI_toInt (by omega)]; omega)) (by decide) (hn S L h hl)
