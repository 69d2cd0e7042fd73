/-- the contract of a method of ours at one start: its answer and the cells behind it -/
def sv_Ct (G : GT) (y : MethodName) (R : Room) (cc : ByteArray) (nL : Nat) (rt : Option FieldType) (av : List Value) (n : Nat) (f : Nat → va_E) (Po : Option Value → Nat → (Nat → va_E) → Prop) : Prop :=
  Met G.1 y (Cond.code y cc nL rt :: gw) R (va_Pc av (fun U => sv_P G n f U.heap ∧ sv_K G U ∧ gB G ≤ U.heap.size)) (fun _ s oc t => (∃ (r : Option Value) (n' : Nat) (f' : Nat → va_E), oc = .returned r ∧ Po r n' f' ∧ sv_P G n' f' t.heap) ∧ va_F (gA G) s t) R.cells R.slots (gA G)
theorem sv_Ct.of {G : GT} {y : MethodName} {R : Room} {cc : ByteArray} {nL : Nat} {rt : Option FieldType} {av : List Value} {n : Nat} {f : Nat → va_E} {Po : Option Value → Nat → (Nat → va_E) → Prop} (hy : plainName y.cls = true) (hle : (lg_sl av).length ≤ nL)
    (h : sv_V G R y.cls y.name cc nL rt (fun r c s n' f' => c = R.cells ∧ s = R.slots ∧ Po r n' f') 0 0 n f 0 (lv_args 0 av) []) : sv_Ct G y R cc nL rt av n f Po := by
  refine Met.ofW (cc := cc) (maxL := nL) (ret := rt) hy rfl ?_
  intro p e s m args below meth c s₁ B hml hv
  obtain ⟨rfl, hP, hK, hb0⟩ := hv
  have hts : ∀ w ∈ gw, w.before av.toArray s = true := fun w hw => atoms_spec (ws := Cond.code y cc nL rt :: gw) B.pre w (List.mem_cons_of_mem _ hw)
  rw [lg_entry_eq]
  refine h p e s m _ below meth c _ ⟨B.exec, B.bytes, hml, findClass_of_methodNamed B.named, hts, hK, hb0, (name_of_methodNamed B.named B.method).1, ?_⟩ s.heap [] _ hP va_S.rf (lv_entry av hle)
  intro H locs cells slots ls pc st r n f hret hpost hP hS
  obtain ⟨rfl, rfl, hpost⟩ := hpost
  rcases hret with ⟨d, rfl, hr, rfl⟩ | ⟨d, v, ty, rfl, hr, hn, rfl⟩ | ⟨d, v, rfl, hr, rfl⟩ | ⟨d, a, C, rfl, hr, rfl⟩
  · exact W.vret B.exec B.bytes (B.returns.trans hr) (fun t ht hW => ⟨⟨_, n, f, rfl, hpost, by rw [ht]; exact hP⟩, hS.F ht⟩) hS.2.2 d
  · exact W.zret B.exec B.bytes (B.returns.trans hr) hn (fun t ht hW => ⟨⟨_, n, f, rfl, hpost, by rw [ht]; exact hP⟩, hS.F ht⟩) hS.2.2 d
  · exact W.lret B.exec B.bytes (B.returns.trans hr) (fun t ht hW => ⟨⟨_, n, f, rfl, hpost, by rw [ht]; exact hP⟩, hS.F ht⟩) hS.2.2 d
  · exact W.aret B.exec B.bytes (B.returns.trans hr) (Or.inl ⟨_, rfl⟩) (Or.inr ⟨_, rfl⟩) (fun t ht hW => ⟨⟨_, n, f, rfl, hpost, by rw [ht]; exact hP⟩, hS.F ht⟩) hS.2.2 d
/-- a weaker end -/
theorem sv_Ct.imp {G : GT} {y : MethodName} {R : Room} {cc : ByteArray} {nL : Nat} {rt : Option FieldType} {av : List Value} {n : Nat} {f : Nat → va_E} {Po Po2 : Option Value → Nat → (Nat → va_E) → Prop} (hp : ∀ r n' f', Po r n' f' → Po2 r n' f') (h : sv_Ct G y R cc nL rt av n f Po) : sv_Ct G y R cc nL rt av n f Po2 := by
  intro p e ha hc hk s m args below hf happ hP hX
  obtain ⟨t, o, h1, h2, h3, ⟨⟨⟨r, n', f', e1, e2, e3⟩, hF⟩, hL⟩⟩ := h p e ha hc hk s m args below hf happ hP hX
  exact ⟨t, o, h1, h2, h3, ⟨⟨⟨r, n', f', e1, hp _ _ _ e2, e3⟩, hF⟩, hL⟩⟩
/-- names that a call must not have, and its number of arguments -/
def sv_nm (y : MethodName) (k : Nat) : Prop := y.cls ≠ "java/lang/invoke/MethodHandle" ∧ y.cls ≠ "java/lang/invoke/VarHandle" ∧ (parseMethodDescriptor y.desc).map (fun d => d.parameters.length) = some k
theorem sv_goodC {y : MethodName} {cc : ByteArray} {nL : Nat} {rt : Option FieldType} (h : Cond.code y cc nL rt ∈ gw) : GoodIn gw (Cond.code y cc nL rt :: gw) := fun w hw => (List.mem_cons.mp hw).elim (fun e => by rw [e]; exact gw_good _ h) (fun h => gw_good _ h)
theorem sv_goodA {big a b : List Cond} (ha : GoodIn big a) (hb : GoodIn big b) : GoodIn big (a ++ b) := fun w h => (List.mem_append.mp h).elim (ha w) (hb w)
theorem sv_goodL {ws : List Cond} (h : ∀ w ∈ ws, w ∈ gw) : GoodIn gw ws := fun w hw => gw_good w (h w hw)
section SVC
variable {G : GT} {R : Room} {own nm : String} {cc : ByteArray} {nL : Nat} {rt : Option FieldType} {Post : Option Value → Nat → Nat → Nat → (Nat → va_E) → Prop} {cells slots n : Nat} {f : Nat → va_E} {pc : Nat} {ls : List (Nat × Value)} {st : List Value}
variable {y : MethodName} {R2 : Room} {cc2 : ByteArray} {nL2 : Nat} {rt2 : Option FieldType} {As : List Value} {Po : Option Value → Nat → (Nat → va_E) → Prop} {i : Nat}
theorem sv_blind {av : List Value} : FrameBlind (va_Pc av (fun U => sv_P G n f U.heap ∧ sv_K G U ∧ gB G ≤ U.heap.size)) := fun _ _ g mk q => ⟨q.1, q.2.1, q.2.2.1.calling g mk _, q.2.2.2⟩
/-- behind a call -/
theorem sv_after {rest : List Value} {p : Program} {e : Env} {s : State} {m : MethodId} {args : Array Value} {below : List Frame} {meth : Method} {c : Code} {Q : State → Prop} (C0 : sv_C G R own nm cc nL rt Post p e s m args below meth c Q) {H : Heap} {locs : List Loc} {ls0 : Array Slot} (hS : va_S (gA G) s.heap H locs) (hl : lv_has ls0 nL ls)
    (hr : va_Run p G.1 e R s m args below meth c H locs cells slots R2.cells R2.slots (F0 m pc ls0 st) rest (fun s oc t => (∃ (r : Option Value) (n' : Nat) (f' : Nat → va_E), oc = .returned r ∧ Po r n' f' ∧ sv_P G n' f' t.heap) ∧ va_F (gA G) s t) (gA G))
    (kk : ∀ r n' f', Po r n' f' → sv_V G R own nm cc nL rt Post (cells + R2.cells) (slots + R2.slots) n' f' (pc + 3) ls (r.toList ++ rest)) : W p G.1 e R s m args below meth c H locs cells slots Q (F0 m pc ls0 st) := by
  intro T hT X
  obtain ⟨v, st₀, t, T', L, h0, X', hL, e1, e2, ⟨⟨r, n', f', hv, hp, hb'⟩, hz, hk⟩, go⟩ := hr T hT X
  cases hv
  rw [h0] at hz hk
  obtain ⟨t2, a1, b1⟩ := kk v n' f' hp p e s m args below meth c Q C0 T'.heap (locs ++ L) ls0 (by rw [e1]; exact hb')
    ⟨Nat.le_trans hS.1 (by rw [e1]; exact hz), fun q h1 h2 => by rw [e1, hk q (Nat.lt_of_lt_of_le h1 hS.1) h2]; exact hS.2.1 q h1 h2, fun q hq => by
      rcases List.mem_append.mp hq with h | h
      · exact hS.2.2 q h
      · exact hL q h⟩ hl T' rfl X'
  exact ⟨t2, go t2 a1, b1⟩
theorem sv_callV {k ci N : Nat} {T : u_T} {fs : List Value} {rest : List Value} (hC : sv_Ct G y R2 cc2 nL2 rt2 (.ref (gB G + k) :: As) n f Po) (hw : ∀ w ∈ [Cond.methodLink own i y, .instanceMethod y, .selects y.cls y y, .initialized y.cls, .code y cc2 nL2 rt2], w ∈ gw) (hd : sv_nm y As.length) (hR : R2.frames + 1 ≤ R.frames ∧ 8 + (nL2 + 11) + R2.locals ≤ R.locals) (hci : vwCl[ci]? = some (y.cls, T, N)) (hk : k < n) (hf : f k = .inr (ci, fs)) (hst : st = As.reverse ++ .ref (gB G + k) :: rest) (hcat : (rest.map fun v => v.category).sum ≤ 8) (d : decode cc pc = .ok (.invokevirtual i, 3)) (hcs : cells + R2.cells ≤ R.cells ∧ slots + R2.slots ≤ R.slots)
    (kk : ∀ r n' f', Po r n' f' → sv_V G R own nm cc nL rt Post (cells + R2.cells) (slots + R2.slots) n' f' (pc + 3) ls (r.toList ++ rest)) : sv_V G R own nm cc nL rt Post cells slots n f pc ls st := by
  intro p e s m args below meth c Q C0 H locs ls0 hP hS hl
  obtain ⟨hx, hb, hml, hown, hts, hK, hb0, hnm', hret⟩ := id C0
  exact sv_after C0 hS hl (va_runV (As := As) (rest := rest) ⟨hx, hb, hml, hown, hts⟩ hC (cwV As.length hts (sv_goodA (sv_goodL (fun w h => hw w (by simp only [List.mem_cons, List.not_mem_nil, or_false] at h ⊢; rcases h with h | h | h | h <;> simp [h]))) (sv_goodC (hw _ (by simp)))) rfl rfl rfl ⟨rfl, hd⟩ hR) ⟨sv_blind, va_recv hK.1 (hP.one hk hf) hci (q0 := 0) rfl, fun U hU hW => ⟨rfl, by rw [hU]; exact hP, hK.next hS hU hW, by rw [hU, hP.1]; exact Nat.le_add_right _ _⟩⟩ rfl rfl hl.1 hst (lv_room hcat) d hcs) kk
theorem sv_callS {rest : List Value} (hC : sv_Ct G y R2 cc2 nL2 rt2 As n f Po) (hw : ∀ w ∈ [Cond.methodLink own i y, .static y, .initialized y.cls, .code y cc2 nL2 rt2], w ∈ gw) (hd : sv_nm y As.length) (hR : R2.frames + 1 ≤ R.frames ∧ 8 + (nL2 + 11) + R2.locals ≤ R.locals) (hst : st = As.reverse ++ rest) (hcat : (rest.map fun v => v.category).sum ≤ 8) (d : decode cc pc = .ok (.invokestatic i, 3)) (hcs : cells + R2.cells ≤ R.cells ∧ slots + R2.slots ≤ R.slots)
    (kk : ∀ r n' f', Po r n' f' → sv_V G R own nm cc nL rt Post (cells + R2.cells) (slots + R2.slots) n' f' (pc + 3) ls (r.toList ++ rest)) : sv_V G R own nm cc nL rt Post cells slots n f pc ls st := by
  intro p e s m args below meth c Q C0 H locs ls0 hP hS hl
  obtain ⟨hx, hb, hml, hown, hts, hK, hb0, hnm', hret⟩ := id C0
  exact sv_after C0 hS hl (va_runS (As := As) (rest := rest) ⟨hx, hb, hml, hown, hts⟩ hC (va_cwS As.length hts (sv_goodA (sv_goodL (fun w h => hw w (by simp only [List.mem_cons, List.not_mem_nil, or_false] at h ⊢; rcases h with h | h | h <;> simp [h]))) (sv_goodC (hw _ (by simp)))) rfl rfl rfl hd hR) ⟨sv_blind, fun U hU hW => ⟨rfl, by rw [hU]; exact hP, hK.next hS hU hW, by rw [hU, hP.1]; exact Nat.le_add_right _ _⟩⟩ rfl rfl hl.1 hst (lv_room hcat) d hcs) kk
theorem sv_callSN {host : String} {rest : List Value} (hC : sv_Ct G y R2 cc2 nL2 rt2 As n f Po) (hn : Cond.methodLinkNest own i y host ∈ lw_tbl) (hw : ∀ w ∈ [Cond.static y, .initialized y.cls, .code y cc2 nL2 rt2], w ∈ gw) (hd : sv_nm y As.length) (hR : R2.frames + 1 ≤ R.frames ∧ 8 + (nL2 + 11) + R2.locals ≤ R.locals) (hst : st = As.reverse ++ rest) (hcat : (rest.map fun v => v.category).sum ≤ 8) (d : decode cc pc = .ok (.invokestatic i, 3)) (hcs : cells + R2.cells ≤ R.cells ∧ slots + R2.slots ≤ R.slots)
    (kk : ∀ r n' f', Po r n' f' → sv_V G R own nm cc nL rt Post (cells + R2.cells) (slots + R2.slots) n' f' (pc + 3) ls (r.toList ++ rest)) : sv_V G R own nm cc nL rt Post cells slots n f pc ls st := by
  intro p e s m args below meth c Q C0 H locs ls0 hP hS hl
  obtain ⟨hx, hb, hml, hown, hts, hK, hb0, hnm', hret⟩ := id C0
  exact sv_after C0 hS hl (va_runSN (As := As) (rest := rest) ⟨hx, hb, hml, hown, hts⟩ hC ⟨va_cnB As.length hts (sv_goodC (hw _ (by simp))) rfl rfl rfl (hK.2.1 _ hn rfl) (hts _ (hw _ (by simp))) hd hR, hts _ (hw _ (by simp)), trivial⟩ ⟨sv_blind, fun U hU hW => ⟨rfl, by rw [hU]; exact hP, hK.next hS hU hW, by rw [hU, hP.1]; exact Nat.le_add_right _ _⟩⟩ rfl rfl hl.1 hst (lv_room hcat) d hcs) kk
theorem sv_callI {k : Nat} {rest : List Value} (hC : sv_Ct G y R2 cc2 nL2 none (.ref (gB G + k) :: As) n f Po) (hw : ∀ w ∈ [Cond.methodLink own i y, .instanceMethod y, .initialized y.cls, .code y cc2 nL2 none], w ∈ gw) (hy : y.name = "<init>") (hd : sv_nm y As.length) (hR : R2.frames + 1 ≤ R.frames ∧ 8 + (nL2 + 11) + R2.locals ≤ R.locals) (hst : st = As.reverse ++ .ref (gB G + k) :: rest) (hcat : (rest.map fun v => v.category).sum ≤ 8) (d : decode cc pc = .ok (.invokespecial i, 3)) (hcs : cells + R2.cells ≤ R.cells ∧ slots + R2.slots ≤ R.slots)
    (kk : ∀ r n' f', Po r n' f' → sv_V G R own nm cc nL rt Post (cells + R2.cells) (slots + R2.slots) n' f' (pc + 3) ls (r.toList ++ rest)) : sv_V G R own nm cc nL rt Post cells slots n f pc ls st := by
  intro p e s m args below meth c Q C0 H locs ls0 hP hS hl
  obtain ⟨hx, hb, hml, hown, hts, hK, hb0, hnm', hret⟩ := id C0
  exact sv_after C0 hS hl (va_runI (As := As) (rest := rest) ⟨hx, hb, hml, hown, hts⟩ hC (cwI As.length hts (sv_goodC (hw _ (by simp))) rfl rfl rfl (hts _ (hw _ (by simp))) (hts _ (hw _ (by simp))) (hts _ (hw _ (by simp))) hy hd hR) ⟨sv_blind, fun U hU hW => ⟨rfl, by rw [hU]; exact hP, hK.next hS hU hW, by rw [hU, hP.1]; exact Nat.le_add_right _ _⟩⟩ rfl rfl hl.1 hst (lv_room hcat) d hcs) kk
theorem sv_callIN {k : Nat} {host : String} {rest : List Value} (hC : sv_Ct G y R2 cc2 nL2 none (.ref (gB G + k) :: As) n f Po) (hn : Cond.methodLinkNest own i y host ∈ lw_tbl) (hw : ∀ w ∈ [Cond.instanceMethod y, .initialized y.cls, .code y cc2 nL2 none], w ∈ gw) (hy : y.name = "<init>") (hd : sv_nm y As.length) (hR : R2.frames + 1 ≤ R.frames ∧ 8 + (nL2 + 11) + R2.locals ≤ R.locals) (hst : st = As.reverse ++ .ref (gB G + k) :: rest) (hcat : (rest.map fun v => v.category).sum ≤ 8) (d : decode cc pc = .ok (.invokespecial i, 3)) (hcs : cells + R2.cells ≤ R.cells ∧ slots + R2.slots ≤ R.slots)
    (kk : ∀ r n' f', Po r n' f' → sv_V G R own nm cc nL rt Post (cells + R2.cells) (slots + R2.slots) n' f' (pc + 3) ls (r.toList ++ rest)) : sv_V G R own nm cc nL rt Post cells slots n f pc ls st := by
  intro p e s m args below meth c Q C0 H locs ls0 hP hS hl
  obtain ⟨hx, hb, hml, hown, hts, hK, hb0, hnm', hret⟩ := id C0
  exact sv_after C0 hS hl (va_runIN (As := As) (rest := rest) ⟨hx, hb, hml, hown, hts⟩ hC ⟨va_cnB As.length hts (sv_goodC (hw _ (by simp))) rfl rfl rfl (hK.2.1 _ hn rfl) (hts _ (hw _ (by simp))) hd hR, hy, hts _ (hw _ (by simp))⟩ ⟨sv_blind, fun U hU hW => ⟨rfl, by rw [hU]; exact hP, hK.next hS hU hW, by rw [hU, hP.1]; exact Nat.le_add_right _ _⟩⟩ rfl rfl hl.1 hst (lv_room hcat) d hcs) kk
end SVC
