def R_law : String := "SideStepLaw"
def lw_P (b : Addr) (xs : List Int32) (args : Array Value) (s : State) : Prop := args = #[.ref b] ∧ s.IntsAt b xs ∧ xs.length ≤ 3072 ∧ (Jvm.Cond.and given_1 narrow_1).before args s = true
def lw_Q (_ : Array Value) (s : State) (o : Outcome) (t : State) : Prop := o = .returned (some (.int 1)) ∧ Framed s o t [] 600000 7302250
def lw_Z (below : List Frame) (a : Array Value) (s : State) : State → Prop := fun t => ∃ o, t.status = .running ∧ Ended t below o ∧ lw_Q a s o t
/-- the law's own end, with 1 on the stack, nothing written that was there before, its room as the claim has it -/
theorem lw_ret {p : Program} {l : Launch} {e : Env} {s : State} {m : MethodId} {below : List Frame} {meth : Method} {c : Code} {b : Nat} (hx : p.tables.exec = Jvm.exec) (hb : c.code = code) (hr : meth.sig.returnType = ret) (hlocks : meth.locks = false) {pc : Nat} {H : Heap} {ls : Array Slot} (hdg : decode code pc = .ok (.ireturn, 1)) : W p l e room_1 s m #[Value.ref b] below meth c H [] 600000 7302250 (lw_Z below #[Value.ref b] s) (F0 m pc ls [.int 1]) := by
  intro T hT X
  obtain ⟨fs, hret, hrun, hended, hW, hframe⟩ := X.leave (v := some (.int 1)) (hlocks := hlocks) (fun h => by rw [hr] at h; cases h)
  have hmeth' : T.vm.method? m = some meth := X.method'
  refine ⟨T.setFrames fs, ?_, .returned (some (.int 1)), hrun, hended, rfl, ⟨_, rfl⟩, hW, hframe⟩
  jvm_step X.here [X.here.top, hx, hb, hdg, hmeth', hr, ret, narrow_b1]
  (try refine ⟨rfl, ?_⟩); (try refine ⟨rfl, ?_⟩)
  first | (intro acts; rw [hret _ acts rfl rfl rfl]) | rw [hret _ _ rfl rfl rfl]
  exact Steps.refl _
/-- what holds at the law's entry: the machine, the code, the tables' words (any of lw_tbl by 'hts w (by decide +kernel)'), the script of L ints xs at the cell b, what the Statement gives of the start (any of its parts by flat_of_before) -/
def lw_At (p : Program) (s : State) (m : MethodId) (meth : Method) (c : Code) (b L : Nat) (xs : Nat → Int32) : Prop :=
  p.tables.exec = Jvm.exec ∧ c.code = code ∧ meth.sig.returnType = ret ∧ c.maxLocals = 4 ∧ s.vm.findClass R_law = some m.cls ∧ (∀ w ∈ lw_tbl, w.before #[Value.ref b] s = true) ∧ va_X b L xs s s.heap ∧ b < s.heap.size ∧ meth.locks = false ∧ (Jvm.Cond.and given_1 narrow_1).before #[Value.ref b] s = true
/-! THE LAW: the machine at pc of the law's own method, over our cells, with the script at b, comes to the law's good end. -/
def lxC (G : GT) (b Ls : Nat) (xs : Nat → Int32) (p : Program) (s : State) (m : MethodId) (meth : Method) (c : Code) : Prop := lw_At p s m meth c b Ls xs ∧ sv_K G s ∧ gB G = s.heap.size
def lx_V (G : GT) (b Ls : Nat) (xs : Nat → Int32) (cells slots n : Nat) (f : Nat → va_E) (pc : Nat) (ls : List (Nat × Value)) (st : List Value) : Prop :=
  ∀ (p : Program) (e : Env) (s : State) (m : MethodId) (below : List Frame) (meth : Method) (c : Code), lxC G b Ls xs p s m meth c →
    ∀ (H : Heap) (locs : List Loc) (ls0 : Array Slot), sv_P G n f H → va_S (gA G) s.heap H locs → lv_has ls0 4 ls → W p G.1 e room_1 s m #[Value.ref b] below meth c H locs cells slots (lw_Z below #[Value.ref b] s) (F0 m pc ls0 st)
theorem lx_ts {G : GT} {b Ls : Nat} {xs : Nat → Int32} {p : Program} {s : State} {m : MethodId} {meth : Method} {c : Code} (C : lxC G b Ls xs p s m meth c) : ∀ w ∈ gw, w.before #[Value.ref b] s = true := fun w hw => C.1.2.2.2.2.2.1 w (List.mem_filter.mp hw).1
theorem lx_b {G : GT} {b Ls : Nat} {xs : Nat → Int32} {p : Program} {s : State} {m : MethodId} {meth : Method} {c : Code} (C : lxC G b Ls xs p s m meth c) : ¬ gA G b := fun h => by
  have h1 : b < s.heap.size := C.1.2.2.2.2.2.2.2.1
  have h2 : gB G ≤ b := h
  rw [C.2.2] at h2
  omega
section LX
variable {G : GT} {b Ls : Nat} {xs : Nat → Int32} {cells slots n : Nat} {f : Nat → va_E} {pc : Nat} {ls : List (Nat × Value)} {st : List Value}
theorem lx_heap {g : Nat → va_E} (h : ∀ k, k < n → f k = g k) (k : lx_V G b Ls xs cells slots n g pc ls st) : lx_V G b Ls xs cells slots n f pc ls st :=
  fun p e s m below meth c C H locs ls0 hP hS hl => k p e s m below meth c C H locs ls0 (hP.congr h) hS hl
theorem lx_iq {g : Nat → va_E} (h : ∀ k, k < n → iq (f k) (g k)) (k : lx_V G b Ls xs cells slots n g pc ls st) : lx_V G b Ls xs cells slots n f pc ls st :=
  fun p e s m below meth c C H locs ls0 hP hS hl => k p e s m below meth c C H locs ls0 ⟨hP.1, fun j hj => h j hj _ _ _ _ (hP.2 j hj)⟩ hS hl
theorem lx_iconst {z : Int} {v : Int32} (d : decode code pc = .ok (.iconst z, 1)) (hv : Int32.ofInt z = v) (k : lx_V G b Ls xs cells slots n f (pc + 1) ls (.int v :: st)) : lx_V G b Ls xs cells slots n f pc ls st :=
  fun p e s m below meth c C H locs ls0 hP hS hl => lv_iconst C.1.1 C.1.2.1 d hv (k p e s m below meth c C H locs ls0 hP hS hl)
theorem lx_bipush {z : Int} {v : Int32} (d : decode code pc = .ok (.bipush z, 2)) (hv : (Int8.ofInt z).toInt32 = v) (k : lx_V G b Ls xs cells slots n f (pc + 2) ls (.int v :: st)) : lx_V G b Ls xs cells slots n f pc ls st :=
  fun p e s m below meth c C H locs ls0 hP hS hl => lv_bipush C.1.1 C.1.2.1 d hv (k p e s m below meth c C H locs ls0 hP hS hl)
theorem lx_iload_n (j : Nat) {i : Fin 4} {x : Int32} (d : decode code pc = .ok (.iload_n i, 1)) (hj : ls[j]? = some ((i : Nat), .int x)) (k : lx_V G b Ls xs cells slots n f (pc + 1) ls (.int x :: st)) : lx_V G b Ls xs cells slots n f pc ls st :=
  fun p e s m below meth c C H locs ls0 hP hS hl => lv_iload_n C.1.1 C.1.2.1 d rfl (lv_at hl j hj) (k p e s m below meth c C H locs ls0 hP hS hl)
theorem lx_aload_n (j : Nat) {i : Fin 4} {x : Nat} (d : decode code pc = .ok (.aload_n i, 1)) (hj : ls[j]? = some ((i : Nat), .ref x)) (k : lx_V G b Ls xs cells slots n f (pc + 1) ls (.ref x :: st)) : lx_V G b Ls xs cells slots n f pc ls st :=
  fun p e s m below meth c C H locs ls0 hP hS hl => lv_aload_n C.1.1 C.1.2.1 d rfl (lv_at hl j hj) (k p e s m below meth c C H locs ls0 hP hS hl)
theorem lx_istore_n {i : Fin 4} {x : Int32} {ls' : List (Nat × Value)} (d : decode code pc = .ok (.istore_n i, 1)) (hi : (i : Nat) < 4) (hl' : (((i : Nat) : Nat), Value.int x) :: ls.filter (fun q => !(q.1 == (i : Nat)) && !(q.1 + 1 == (i : Nat) && q.2.category == 2)) = ls') (k : lx_V G b Ls xs cells slots n f (pc + 1) ls' st) : lx_V G b Ls xs cells slots n f pc ls (Value.int x :: st) :=
  fun p e s m below meth c C H locs ls0 hP hS hl => lv_istore_n C.1.1 C.1.2.1 d rfl hl hi hl' (fun ls1 hl1 => k p e s m below meth c C H locs ls1 hP hS hl1)
theorem lx_astore_n {i : Fin 4} {x : Nat} {ls' : List (Nat × Value)} (d : decode code pc = .ok (.astore_n i, 1)) (hi : (i : Nat) < 4) (hl' : (((i : Nat) : Nat), Value.ref x) :: ls.filter (fun q => !(q.1 == (i : Nat)) && !(q.1 + 1 == (i : Nat) && q.2.category == 2)) = ls') (k : lx_V G b Ls xs cells slots n f (pc + 1) ls' st) : lx_V G b Ls xs cells slots n f pc ls (Value.ref x :: st) :=
  fun p e s m below meth c C H locs ls0 hP hS hl => lv_astore_n C.1.1 C.1.2.1 d rfl hl hi hl' (fun ls1 hl1 => k p e s m below meth c C H locs ls1 hP hS hl1)
theorem lx_iinc (j : Nat) {i : Nat} {z : Int} {x v : Int32} {ls' : List (Nat × Value)} (d : decode code pc = .ok (.iinc i z, 3)) (hj : ls[j]? = some (i, .int x)) (hv : x + Int32.ofInt z = v) (hi : i < 4) (hl' : (i, Value.int v) :: ls.filter (fun q => !(q.1 == i) && !(q.1 + 1 == i && q.2.category == 2)) = ls') (k : lx_V G b Ls xs cells slots n f (pc + 3) ls' st) : lx_V G b Ls xs cells slots n f pc ls st :=
  fun p e s m below meth c C H locs ls0 hP hS hl => lv_iinc C.1.1 C.1.2.1 d hl hj hv hi hl' (fun ls1 hl1 => k p e s m below meth c C H locs ls1 hP hS hl1)
theorem lx_iadd {x y : Int32} (d : decode code pc = .ok (.iadd, 1)) (k : lx_V G b Ls xs cells slots n f (pc + 1) ls (.int (x + y) :: st)) : lx_V G b Ls xs cells slots n f pc ls (.int y :: .int x :: st) :=
  fun p e s m below meth c C H locs ls0 hP hS hl => lv_iadd C.1.1 C.1.2.1 d (k p e s m below meth c C H locs ls0 hP hS hl)
theorem lx_isub {x y : Int32} (d : decode code pc = .ok (.isub, 1)) (k : lx_V G b Ls xs cells slots n f (pc + 1) ls (.int (x - y) :: st)) : lx_V G b Ls xs cells slots n f pc ls (.int y :: .int x :: st) :=
  fun p e s m below meth c C H locs ls0 hP hS hl => lv_isub C.1.1 C.1.2.1 d (k p e s m below meth c C H locs ls0 hP hS hl)
theorem lx_iand {x y : Int32} (d : decode code pc = .ok (.iand, 1)) (k : lx_V G b Ls xs cells slots n f (pc + 1) ls (.int (x &&& y) :: st)) : lx_V G b Ls xs cells slots n f pc ls (.int y :: .int x :: st) :=
  fun p e s m below meth c C H locs ls0 hP hS hl => lv_iand C.1.1 C.1.2.1 d (k p e s m below meth c C H locs ls0 hP hS hl)
theorem lx_land {x y : Int64} (d : decode code pc = .ok (.land, 1)) (k : lx_V G b Ls xs cells slots n f (pc + 1) ls (.long (x &&& y) :: st)) : lx_V G b Ls xs cells slots n f pc ls (.long y :: .long x :: st) :=
  fun p e s m below meth c C H locs ls0 hP hS hl => lv_land C.1.1 C.1.2.1 d (k p e s m below meth c C H locs ls0 hP hS hl)
theorem lx_lor {x y : Int64} (d : decode code pc = .ok (.lor, 1)) (k : lx_V G b Ls xs cells slots n f (pc + 1) ls (.long (x ||| y) :: st)) : lx_V G b Ls xs cells slots n f pc ls (.long y :: .long x :: st) :=
  fun p e s m below meth c C H locs ls0 hP hS hl => lv_lor C.1.1 C.1.2.1 d (k p e s m below meth c C H locs ls0 hP hS hl)
theorem lx_i2l {x : Int32} (d : decode code pc = .ok (.i2l, 1)) (k : lx_V G b Ls xs cells slots n f (pc + 1) ls (.long x.toInt64 :: st)) : lx_V G b Ls xs cells slots n f pc ls (.int x :: st) :=
  fun p e s m below meth c C H locs ls0 hP hS hl => lv_i2l C.1.1 C.1.2.1 d rfl (k p e s m below meth c C H locs ls0 hP hS hl)
theorem lx_lshl {x : Int64} {y : Int32} (d : decode code pc = .ok (.lshl, 1)) (k : lx_V G b Ls xs cells slots n f (pc + 1) ls (.long (x <<< (y.toInt64 &&& 63)) :: st)) : lx_V G b Ls xs cells slots n f pc ls (.int y :: .long x :: st) :=
  fun p e s m below meth c C H locs ls0 hP hS hl => lv_lshl C.1.1 C.1.2.1 d rfl (k p e s m below meth c C H locs ls0 hP hS hl)
theorem lx_ldc2 {i : Nat} {v : Int64} (hw : Cond.constantLong RL i v ∈ gw) (d : decode code pc = .ok (.ldc2_w i, 3)) (k : lx_V G b Ls xs cells slots n f (pc + 3) ls (.long v :: st)) : lx_V G b Ls xs cells slots n f pc ls st :=
  fun p e s m below meth c C H locs ls0 hP hS hl => lv_ldc2 C.1.1 C.1.2.1 C.1.2.2.2.2.1 (lx_ts C _ hw) d (k p e s m below meth c C H locs ls0 hP hS hl)
theorem lx_lcmp {x y : Int64} (d : decode code pc = .ok (.lcmp, 1)) (k : lx_V G b Ls xs cells slots n f (pc + 1) ls (.int (lg_cmp x y) :: st)) : lx_V G b Ls xs cells slots n f pc ls (.long y :: .long x :: st) :=
  fun p e s m below meth c C H locs ls0 hP hS hl => W.lcmp C.1.1 C.1.2.1 d (k p e s m below meth c C H locs ls0 hP hS hl)
theorem lx_dup {va : Value} (d : decode code pc = .ok (.dup, 1)) (hva : va.category = 1) (k : lx_V G b Ls xs cells slots n f (pc + 1) ls (va :: va :: st)) : lx_V G b Ls xs cells slots n f pc ls (va :: st) :=
  fun p e s m below meth c C H locs ls0 hP hS hl => lv_dup C.1.1 C.1.2.1 d hva (k p e s m below meth c C H locs ls0 hP hS hl)
theorem lx_goto {off : Int} {tgt : Nat} (d : decode code pc = .ok (.goto off, 3)) (ht : (pc : Int) + off = (tgt : Int)) (k : lx_V G b Ls xs cells slots n f tgt ls st) : lx_V G b Ls xs cells slots n f pc ls st :=
  fun p e s m below meth c C H locs ls0 hP hS hl => lv_goto C.1.1 C.1.2.1 d ht (k p e s m below meth c C H locs ls0 hP hS hl)
theorem lx_tableOut {dflt lo hi : Int} {offs : Array Int} {len : Nat} {x : Int32} {tgt : Nat} (d : decode code pc = .ok (.tableswitch dflt lo hi offs, len)) (h : x.toInt < lo ∨ hi < x.toInt) (ht : (pc : Int) + dflt = (tgt : Int)) (k : lx_V G b Ls xs cells slots n f tgt ls st) : lx_V G b Ls xs cells slots n f pc ls (.int x :: st) :=
  fun p e s m below meth c C H locs ls0 hP hS hl => lv_tableOut C.1.1 C.1.2.1 d h ht (k p e s m below meth c C H locs ls0 hP hS hl)
theorem lx_tableIn {dflt lo hi : Int} {offs : Array Int} {len : Nat} {x : Int32} {off : Int} {tgt : Nat} (d : decode code pc = .ok (.tableswitch dflt lo hi offs, len)) (h1 : ¬ x.toInt < lo) (h2 : ¬ hi < x.toInt) (ho : offs[(x.toInt - lo).toNat]? = some off) (ht : (pc : Int) + off = (tgt : Int)) (k : lx_V G b Ls xs cells slots n f tgt ls st) : lx_V G b Ls xs cells slots n f pc ls (.int x :: st) :=
  fun p e s m below meth c C H locs ls0 hP hS hl => lv_tableIn C.1.1 C.1.2.1 d h1 h2 ho ht (k p e s m below meth c C H locs ls0 hP hS hl)
theorem lx_if_eq {x : Int32} {off : Int} {tgt : Nat} (d : decode code pc = .ok (.ifCond .eq off, 3)) (ht : (pc : Int) + off = (tgt : Int)) (kt : x = 0 → lx_V G b Ls xs cells slots n f tgt ls st) (kf : ¬ x = 0 → lx_V G b Ls xs cells slots n f (pc + 3) ls st) : lx_V G b Ls xs cells slots n f pc ls (.int x :: st) :=
  fun p e s m below meth c C H locs ls0 hP hS hl => lv_if_eq C.1.1 C.1.2.1 d ht (fun z => kt z p e s m below meth c C H locs ls0 hP hS hl) (fun z => kf z p e s m below meth c C H locs ls0 hP hS hl)
theorem lx_icmp_eq {x y : Int32} {off : Int} {tgt : Nat} (d : decode code pc = .ok (.if_icmp .eq off, 3)) (ht : (pc : Int) + off = (tgt : Int)) (he : x = y) (kt : lx_V G b Ls xs cells slots n f tgt ls st) : lx_V G b Ls xs cells slots n f pc ls (.int y :: .int x :: st) :=
  fun p e s m below meth c C H locs ls0 hP hS hl => lv_icmp_eq C.1.1 C.1.2.1 d ht (fun _ => kt p e s m below meth c C H locs ls0 hP hS hl) (fun z => absurd he z)
theorem lx_icmp_gt {x y : Int32} {off : Int} {tgt : Nat} (d : decode code pc = .ok (.if_icmp .gt off, 3)) (ht : (pc : Int) + off = (tgt : Int)) (kt : y < x → lx_V G b Ls xs cells slots n f tgt ls st) (kf : ¬ y < x → lx_V G b Ls xs cells slots n f (pc + 3) ls st) : lx_V G b Ls xs cells slots n f pc ls (.int y :: .int x :: st) :=
  fun p e s m below meth c C H locs ls0 hP hS hl => lv_icmp_gt C.1.1 C.1.2.1 d ht (fun z => kt z p e s m below meth c C H locs ls0 hP hS hl) (fun z => kf z p e s m below meth c C H locs ls0 hP hS hl)
/-- the script's length, and one of its ints -/
theorem lx_slen (d : decode code pc = .ok (.arraylength, 1)) (k : lx_V G b Ls xs cells slots n f (pc + 1) ls (.int (nI Ls) :: st)) : lx_V G b Ls xs cells slots n f pc ls (.ref b :: st) :=
  fun p e s m below meth c C H locs ls0 hP hS hl => va_slen C.1.1 C.1.2.1 C.1.2.2.2.2.2.2.1 C.1.2.2.2.2.2.2.2.1 (lx_b C) hS d (k p e s m below meth c C H locs ls0 hP hS hl)
theorem lx_sld {i : Int32} (hin : vp_in i Ls) (d : decode code pc = .ok (.iaload, 1)) (k : lx_V G b Ls xs cells slots n f (pc + 1) ls (.int (xs i.toNatClampNeg) :: st)) : lx_V G b Ls xs cells slots n f pc ls (.int i :: .ref b :: st) :=
  fun p e s m below meth c C H locs ls0 hP hS hl => va_sld C.1.1 C.1.2.1 C.1.2.2.2.2.2.2.1 C.1.2.2.2.2.2.2.2.1 (lx_b C) hS hin d (k p e s m below meth c C H locs ls0 hP hS hl)
/-- the law's good end -/
theorem lx_end (hc : cells ≤ 600000) (hs : slots ≤ 7302250) (d : decode code pc = .ok (.ireturn, 1)) : lx_V G b Ls xs cells slots n f pc ls [.int 1] :=
  fun p e s m below meth c C H locs ls0 hP hS hl => va_forget (fun q hq => by have := hS.2.2 q hq; rw [← C.2.2]; exact this) (W.widen hc hs (lw_ret C.1.1 C.1.2.1 C.1.2.2.1 C.1.2.2.2.2.2.2.2.2.1 d))
theorem lx_new {ci i N : Nat} {C : String} {T : u_T} {fs : List Value} (hc : vwCl[ci]? = some (C, T, N)) (hin : ∀ w ∈ u_ws C T N, w ∈ gw) (ty0 : Nat → FieldType) (hty : ∀ k, k < N → parseFieldDescriptor (T k).2.2.1 = some (ty0 k)) (hcl : Cond.classLink RL i C ∈ gw) (hinst : Cond.instantiable C N ∈ gw) (hini : Cond.initialized C ∈ gw) (hfs : ∀ j, j < N → defaultValue (ty0 j) = vp_V fs j) (hcells : cells + 1 ≤ room_1.cells) (hslots : slots + N ≤ room_1.slots) (d : decode code pc = .ok (.new i, 3))
    (kk : lx_V G b Ls xs (cells + 1) (slots + N) (n + 1) (va_up f n (.inr (ci, fs))) (pc + 3) ls (.ref (gB G + n) :: st)) : lx_V G b Ls xs cells slots n f pc ls st := by
  intro p e s m below meth c C0 H locs ls0 hP hS hl
  have hts := lx_ts C0
  have hKn := C0.2.1.1.1 ci _ hc
  refine W.newcK C0.1.1 C0.1.2.1 C0.1.2.2.2.2.1 (hts _ hcl) (hts _ hinst) (hts _ hini) rfl d hcells hslots hKn.2.1 rfl fun H1 kC hkC e1 z1 o1 => ?_
  rw [hP.1] at e1 ⊢
  refine kk p e s m below meth c C0 H1 locs ls0 (hP.push ⟨_, hc, (u_born ty0 hts hin hKn hkC e1 hty).to hfs⟩ z1 o1) ⟨Nat.le_trans hS.1 (by omega), fun x h1 h2 => (o1 x (Nat.lt_of_lt_of_le h1 hS.1)).trans (hS.2.1 x h1 h2), hS.2.2⟩ hl
variable {y : MethodName} {R2 : Room} {cc2 : ByteArray} {nL2 : Nat} {rt2 : Option FieldType} {As : List Value} {Po : Option Value → Nat → (Nat → va_E) → Prop} {i : Nat}
theorem lx_after {rest : List Value} {p : Program} {e : Env} {s : State} {m : MethodId} {below : List Frame} {meth : Method} {c : Code} (C0 : lxC G b Ls xs p s m meth c) {H : Heap} {locs : List Loc} {ls0 : Array Slot} (hS : va_S (gA G) s.heap H locs) (hl : lv_has ls0 4 ls)
    (hr : va_Run p G.1 e room_1 s m #[Value.ref b] below meth c H locs cells slots R2.cells R2.slots (F0 m pc ls0 st) rest (fun s oc t => (∃ (r : Option Value) (n' : Nat) (f' : Nat → va_E), oc = .returned r ∧ Po r n' f' ∧ sv_P G n' f' t.heap) ∧ va_F (gA G) s t) (gA G))
    (kk : ∀ r n' f', Po r n' f' → lx_V G b Ls xs (cells + R2.cells) (slots + R2.slots) n' f' (pc + 3) ls (r.toList ++ rest)) : W p G.1 e room_1 s m #[Value.ref b] below meth c H locs cells slots (lw_Z below #[Value.ref b] s) (F0 m pc ls0 st) := by
  intro T hT X
  obtain ⟨v, st₀, t, T', L, h0, X', hL, e1, e2, ⟨⟨r, n', f', hv, hp, hb'⟩, hz, hk⟩, go⟩ := hr T hT X
  cases hv
  rw [h0] at hz hk
  obtain ⟨t2, a1, b1⟩ := kk v n' f' hp p e s m below meth c C0 T'.heap (locs ++ L) ls0 (by rw [e1]; exact hb')
    ⟨Nat.le_trans hS.1 (by rw [e1]; exact hz), fun q h1 h2 => by rw [e1, hk q (Nat.lt_of_lt_of_le h1 hS.1) h2]; exact hS.2.1 q h1 h2, fun q hq => by
      rcases List.mem_append.mp hq with h | h
      · exact hS.2.2 q h
      · exact hL q h⟩ hl T' rfl X'
  exact ⟨t2, go t2 a1, b1⟩
theorem lx_callV {k ci N : Nat} {T : u_T} {fs : List Value} {rest : List Value} (hC : sv_Ct G y R2 cc2 nL2 rt2 (.ref (gB G + k) :: As) n f Po) (hw : ∀ w ∈ [Cond.methodLink RL i y, .instanceMethod y, .selects y.cls y y, .initialized y.cls, .code y cc2 nL2 rt2], w ∈ gw) (hd : sv_nm y As.length) (hR : R2.frames + 1 ≤ room_1.frames ∧ 8 + (nL2 + 11) + R2.locals ≤ room_1.locals) (hci : vwCl[ci]? = some (y.cls, T, N)) (hk : k < n) (hf : f k = .inr (ci, fs)) (hst : st = As.reverse ++ .ref (gB G + k) :: rest) (hcat : (rest.map fun v => v.category).sum ≤ 8) (d : decode code pc = .ok (.invokevirtual i, 3)) (hcs : cells + R2.cells ≤ room_1.cells ∧ slots + R2.slots ≤ room_1.slots)
    (kk : ∀ r n' f', Po r n' f' → lx_V G b Ls xs (cells + R2.cells) (slots + R2.slots) n' f' (pc + 3) ls (r.toList ++ rest)) : lx_V G b Ls xs cells slots n f pc ls st := by
  intro p e s m below meth c C0 H locs ls0 hP hS hl
  have hts := lx_ts C0
  have hK := C0.2.1
  have hown : s.vm.findClass RL = some m.cls := C0.1.2.2.2.2.1
  exact lx_after C0 hS hl (va_runV (As := As) (rest := rest) ⟨C0.1.1, C0.1.2.1, C0.1.2.2.2.1, hown, hts⟩ hC (cwV As.length hts (sv_goodA (sv_goodL (fun w h => hw w (by simp only [List.mem_cons, List.not_mem_nil, or_false] at h ⊢; rcases h with h | h | h | h <;> simp [h]))) (sv_goodC (hw _ (by simp)))) rfl rfl rfl ⟨rfl, hd⟩ hR) ⟨sv_blind, va_recv hK.1 (hP.one hk hf) hci (q0 := 0) rfl, fun U hU hW => ⟨rfl, by rw [hU]; exact hP, hK.next hS hU hW, by rw [hU, hP.1]; exact Nat.le_add_right _ _⟩⟩ rfl rfl hl.1 hst (lv_room hcat) d hcs) kk
theorem lx_callI {k : Nat} {rest : List Value} (hC : sv_Ct G y R2 cc2 nL2 none (.ref (gB G + k) :: As) n f Po) (hw : ∀ w ∈ [Cond.methodLink RL i y, .instanceMethod y, .initialized y.cls, .code y cc2 nL2 none], w ∈ gw) (hy : y.name = "<init>") (hd : sv_nm y As.length) (hR : R2.frames + 1 ≤ room_1.frames ∧ 8 + (nL2 + 11) + R2.locals ≤ room_1.locals) (hst : st = As.reverse ++ .ref (gB G + k) :: rest) (hcat : (rest.map fun v => v.category).sum ≤ 8) (d : decode code pc = .ok (.invokespecial i, 3)) (hcs : cells + R2.cells ≤ room_1.cells ∧ slots + R2.slots ≤ room_1.slots)
    (kk : ∀ r n' f', Po r n' f' → lx_V G b Ls xs (cells + R2.cells) (slots + R2.slots) n' f' (pc + 3) ls (r.toList ++ rest)) : lx_V G b Ls xs cells slots n f pc ls st := by
  intro p e s m below meth c C0 H locs ls0 hP hS hl
  have hts := lx_ts C0
  have hK := C0.2.1
  have hown : s.vm.findClass RL = some m.cls := C0.1.2.2.2.2.1
  exact lx_after C0 hS hl (va_runI (As := As) (rest := rest) ⟨C0.1.1, C0.1.2.1, C0.1.2.2.2.1, hown, hts⟩ hC (cwI As.length hts (sv_goodC (hw _ (by simp))) rfl rfl rfl (hts _ (hw _ (by simp))) (hts _ (hw _ (by simp))) (hts _ (hw _ (by simp))) hy hd hR) ⟨sv_blind, fun U hU hW => ⟨rfl, by rw [hU]; exact hP, hK.next hS hU hW, by rw [hU, hP.1]; exact Nat.le_add_right _ _⟩⟩ rfl rfl hl.1 hst (lv_room hcat) d hcs) kk
end LX
