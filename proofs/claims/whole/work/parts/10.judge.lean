/-! THE JUDGEMENT sv_V: the machine at pc of a method of ours, with known locals ls and stack st, over the n cells f that were made since the law began (cell k at address gB G + k), comes to the method's end with Post. -/
abbrev GT : Type := Launch × va_G × (ClassId × ClassId × ClassId) × Nat × (Nat → Nat) × (Nat → Nat)
def gB (G : GT) : Nat := G.2.2.2.1
def gA (G : GT) (q : Nat) : Prop := gB G ≤ q
def gT (G : GT) : List (ClassId × FieldType) := [(G.2.2.1.1, .int), (G.2.2.1.2.1, .boolean), (G.2.2.1.2.2, .object RX6)]
def isNest : Cond → Bool
  | .methodLinkNest _ _ _ _ => true
  | _ => false
def gw : List Cond := lw_tbl.filter goodWord
theorem gw_good : GoodIn gw gw := fun _ h => ⟨h, good_of_word (List.mem_filter.mp h).2⟩
theorem gw_in {w : Cond} (h : w ∈ lw_tbl) (hg : goodWord w = true) : w ∈ gw := List.mem_filter.mpr ⟨h, hg⟩
theorem gw_at {w : Cond} (i : Nat) (h : tables_1[i]? = some w) (hg : goodWord w = true) : w ∈ gw := gw_in (List.mem_append_right _ (List.mem_of_getElem? h)) hg
theorem gw_sel {w : Cond} (i : Nat) (h : (k2_sels lw_privs)[i]? = some w) (hg : goodWord w = true) : w ∈ gw := gw_in (List.mem_append_left _ (List.mem_of_getElem? h)) hg
def stK : List Nat := [24, 47, 49, 51, 53, 55, 57, 59, 61]
def stX : List String := ["i+-lsjzcbkoh", "\x72f", "\x72r", "\x72m", "sf", "\x72sf", "tu", "\x72", ""]
def stL : List Nat := [12, 2, 2, 2, 2, 3, 2, 1, 0]
def stB : List (List Int32) := [[105, 43, 45, 108, 115, 106, 122, 99, 98, 107, 111, 104], [114, 102], [114, 114], [114, 109], [115, 102], [114, 115, 102], [116, 117], [114], []]
/-- what holds at the start of each of our methods, beside the words -/
def sv_K (G : GT) (U : State) : Prop := va_K G.2.1 vwCl (gT G) U ∧ (∀ w ∈ lw_tbl, isNest w = true → va_Nw w U) ∧ va_AO RX6 U ∧
  (∀ i, i < 9 → vk_R RX8 (stK.getD i 0) (stX.getD i "") (G.2.2.2.2.1 i) U) ∧ vk_S 9 stL stB G.2.2.2.2.1 G.2.2.2.2.2 (gA G) U U.heap ∧ va_Z "java/lang/String" "COMPACT_STRINGS" "Z" (.int 1) (gA G) U U.heap ∧ va_Zq "jdk/internal/util/Preconditions" "SIOOBE_FORMATTER" "Ljava/util/function/BiFunction;" (gA G) U U.heap
theorem sv_nest {w : Cond} {s U : State} (hn : isNest w = true) (hW : s.WarmedH U.vm) (h : va_Nw w s) : va_Nw w U := by
  cases w <;> first | (exact va_Nw.warmM hW h) | (cases hn)
theorem sv_nest_vm {w : Cond} {s U : State} (hn : isNest w = true) (hv : s.vm = U.vm) (h : va_Nw w s) : va_Nw w U := by
  cases w <;> first | (exact va_Nw.same rfl hv h) | (cases hn)
theorem sv_K.next {G : GT} {s U : State} {H : Heap} {locs : List Loc} (h : sv_K G s) (hS : va_S (gA G) s.heap H locs) (hU : U.heap = H) (hW : s.WarmedH U.vm) : sv_K G U := by
  obtain ⟨h1, h2, h3, h4, h5, h6, h7⟩ := h
  refine ⟨va_K.moved hW.alike h1, fun w hw hn => sv_nest hn hW (h2 w hw hn), va_AO.moved hW.alike h3, fun i hi => (h4 i hi).warm hW, ?_, ?_, ?_⟩
  · rw [hU]; exact (h5.kept hS.2.1).moved hW.alike
  · rw [hU]; exact (h6.kept hS.2.1).moved hW.alike
  · rw [hU]; exact (h7.kept hS.2.1).moved hW.alike
theorem sv_K.calling {G : GT} {U : State} (h : sv_K G U) (g : JFrame) (mk : MethodId) (a : Array Value) : sv_K G (U.calling g mk a) := by
  obtain ⟨h1, h2, h3, h4, h5, h6, h7⟩ := h
  have hv : U.vm = (U.calling g mk a).vm := rfl
  exact ⟨va_K.moved (u := U) (U := U.calling g mk a) (Vm.Alike.refl U.vm) h1, fun w hw hn => sv_nest_vm hn hv (h2 w hw hn), va_AO.moved (u := U) (U := U.calling g mk a) (Vm.Alike.refl U.vm) h3, fun i hi => (h4 i hi).same rfl, h5.moved (u := U) (U := U.calling g mk a) (Vm.Alike.refl U.vm), h6.moved (u := U) (U := U.calling g mk a) (Vm.Alike.refl U.vm), h7.moved (u := U) (U := U.calling g mk a) (Vm.Alike.refl U.vm)⟩
/-- the heap holds our n cells f -/
def sv_P (G : GT) (n : Nat) (f : Nat → va_E) (H : Heap) : Prop := H.size = gB G + n ∧ ∀ k, k < n → va_at G.2.1 vwCl (gB G + k, f k) H
theorem sv_P.one {G : GT} {n : Nat} {f : Nat → va_E} {H : Heap} (h : sv_P G n f H) {k : Nat} (hk : k < n) {e : va_E} (he : f k = e) : va_P G.2.1 vwCl [(gB G + k, e)] H := by
  intro j q hq
  have hz : j < 1 := (List.getElem?_eq_some_iff.mp hq).1
  rw [show j = 0 by omega] at hq
  cases hq
  rw [← he]
  exact h.2 k hk
theorem sv_P.set {G : GT} {n : Nat} {f : Nat → va_E} {H H1 : Heap} (h : sv_P G n f H) {k : Nat} (hk : k < n) {e : va_E} (he : va_at G.2.1 vwCl (gB G + k, e) H1) (hz : H1.size = H.size) (oq : ∀ q : Nat, q ≠ gB G + k → H1[q]? = H[q]?) : sv_P G n (va_up f k e) H1 := by
  refine ⟨hz.trans h.1, fun j hj => ?_⟩
  by_cases hjk : j = k
  · subst hjk
    simp only [va_up, if_pos]
    exact he
  · simp only [va_up, if_neg hjk]
    exact (h.2 j hj).kept (oq _ (fun z => hjk (by simpa using z)))
theorem sv_P.push {G : GT} {n : Nat} {f : Nat → va_E} {H H1 : Heap} (h : sv_P G n f H) {e : va_E} (he : va_at G.2.1 vwCl (gB G + n, e) H1) (hz : H1.size = H.size + 1) (oq : ∀ q : Nat, q < H.size → H1[q]? = H[q]?) : sv_P G (n + 1) (va_up f n e) H1 := by
  refine ⟨by rw [hz, h.1]; rfl, fun j hj => ?_⟩
  by_cases hjk : j = n
  · subst hjk
    simp only [va_up, if_pos]
    exact he
  · simp only [va_up, if_neg hjk]
    exact (h.2 j (by omega)).kept (oq _ (by rw [h.1]; show gB G + j < gB G + n; omega))
theorem sv_P.congr {G : GT} {n : Nat} {f g : Nat → va_E} {H : Heap} (h : sv_P G n f H) (hfg : ∀ k, k < n → f k = g k) : sv_P G n g H := ⟨h.1, fun k hk => by rw [← hfg k hk]; exact h.2 k hk⟩
/-- the return instruction that stands at pc, with what it gives -/
def sv_Ret (cc : ByteArray) (pc : Nat) (st : List Value) (rt : Option FieldType) (r : Option Value) : Prop :=
  (decode cc pc = .ok (.return_, 1) ∧ st = [] ∧ rt = none ∧ r = none) ∨ (decode cc pc = .ok (.ireturn, 1) ∧ ∃ (v : Int32) (ty : FieldType), st = [.int v] ∧ rt = some ty ∧ narrow ty (.int v) = .int v ∧ r = some (.int v)) ∨
  (decode cc pc = .ok (.lreturn, 1) ∧ ∃ v : Int64, st = [.long v] ∧ rt = some .long ∧ r = some (.long v)) ∨ (decode cc pc = .ok (.areturn, 1) ∧ ∃ (a : Nat) (C : String), st = [.ref a] ∧ rt = some (.object C) ∧ r = some (.ref a))
/-- all that a walk stands on -/
def sv_C (G : GT) (R : Room) (own nm : String) (cc : ByteArray) (nL : Nat) (rt : Option FieldType) (Post : Option Value → Nat → Nat → Nat → (Nat → va_E) → Prop) (p : Program) (e : Env) (s : State) (m : MethodId) (args : Array Value) (below : List Frame) (meth : Method) (c : Code) (Q : State → Prop) : Prop :=
  p.tables.exec = Jvm.exec ∧ c.code = cc ∧ c.maxLocals = nL ∧ s.vm.findClass own = some m.cls ∧ (∀ w ∈ gw, w.before args s = true) ∧ sv_K G s ∧ gB G ≤ s.heap.size ∧ meth.name = nm ∧
  ∀ (H : Heap) (locs : List Loc) (cells slots : Nat) (ls : Array Slot) (pc : Nat) (st : List Value) (r : Option Value) (n : Nat) (f : Nat → va_E), sv_Ret cc pc st rt r → Post r cells slots n f → sv_P G n f H → va_S (gA G) s.heap H locs → W p G.1 e R s m args below meth c H locs cells slots Q (F0 m pc ls st)
def sv_V (G : GT) (R : Room) (own nm : String) (cc : ByteArray) (nL : Nat) (rt : Option FieldType) (Post : Option Value → Nat → Nat → Nat → (Nat → va_E) → Prop) (cells slots : Nat) (n : Nat) (f : Nat → va_E) (pc : Nat) (ls : List (Nat × Value)) (st : List Value) : Prop :=
  ∀ (p : Program) (e : Env) (s : State) (m : MethodId) (args : Array Value) (below : List Frame) (meth : Method) (c : Code) (Q : State → Prop), sv_C G R own nm cc nL rt Post p e s m args below meth c Q →
    ∀ (H : Heap) (locs : List Loc) (ls0 : Array Slot), sv_P G n f H → va_S (gA G) s.heap H locs → lv_has ls0 nL ls → W p G.1 e R s m args below meth c H locs cells slots Q (F0 m pc ls0 st)
section SV
variable {G : GT} {R : Room} {own nm : String} {cc : ByteArray} {nL : Nat} {rt : Option FieldType} {Post : Option Value → Nat → Nat → Nat → (Nat → va_E) → Prop} {cells slots n : Nat} {f : Nat → va_E} {pc : Nat} {ls : List (Nat × Value)} {st : List Value}
theorem sv_ret {r : Option Value} (h : sv_Ret cc pc st rt r) (hp : Post r cells slots n f) : sv_V G R own nm cc nL rt Post cells slots n f pc ls st :=
  fun _ _ _ _ _ _ _ _ _ C _ _ _ hP hS _ => C.2.2.2.2.2.2.2.2 _ _ _ _ _ _ _ _ _ _ h hp hP hS
theorem sv_vret (hr : rt = none) (d : decode cc pc = .ok (.return_, 1)) (hp : Post none cells slots n f) : sv_V G R own nm cc nL rt Post cells slots n f pc ls [] := sv_ret (Or.inl ⟨d, rfl, hr, rfl⟩) hp
theorem sv_iret {v : Int32} (hr : rt = some .int) (d : decode cc pc = .ok (.ireturn, 1)) (hp : Post (some (.int v)) cells slots n f) : sv_V G R own nm cc nL rt Post cells slots n f pc ls [.int v] := sv_ret (Or.inr (Or.inl ⟨d, v, .int, rfl, hr, rfl, rfl⟩)) hp
theorem sv_zret {v : Int32} (hr : rt = some .boolean) (d : decode cc pc = .ok (.ireturn, 1)) (hv : narrow .boolean (.int v) = .int v) (hp : Post (some (.int v)) cells slots n f) : sv_V G R own nm cc nL rt Post cells slots n f pc ls [.int v] := sv_ret (Or.inr (Or.inl ⟨d, v, .boolean, rfl, hr, hv, rfl⟩)) hp
theorem sv_nret {v : Int32} {ty : FieldType} (hr : rt = some ty) (d : decode cc pc = .ok (.ireturn, 1)) (hv : narrow ty (.int v) = .int v) (hp : Post (some (.int v)) cells slots n f) : sv_V G R own nm cc nL rt Post cells slots n f pc ls [.int v] := sv_ret (Or.inr (Or.inl ⟨d, v, ty, rfl, hr, hv, rfl⟩)) hp
theorem sv_lret {v : Int64} (hr : rt = some .long) (d : decode cc pc = .ok (.lreturn, 1)) (hp : Post (some (.long v)) cells slots n f) : sv_V G R own nm cc nL rt Post cells slots n f pc ls [.long v] := sv_ret (Or.inr (Or.inr (Or.inl ⟨d, v, rfl, hr, rfl⟩))) hp
theorem sv_aret {a : Nat} {C : String} (hr : rt = some (.object C)) (d : decode cc pc = .ok (.areturn, 1)) (hp : Post (some (.ref a)) cells slots n f) : sv_V G R own nm cc nL rt Post cells slots n f pc ls [.ref a] := sv_ret (Or.inr (Or.inr (Or.inr ⟨d, a, C, rfl, hr, rfl⟩))) hp
theorem sv_cells {c2 s2 : Nat} (h1 : cells ≤ c2) (h2 : slots ≤ s2) (k : sv_V G R own nm cc nL rt Post c2 s2 n f pc ls st) : sv_V G R own nm cc nL rt Post cells slots n f pc ls st :=
  fun p e s m args below meth c Q C H locs ls0 hP hS hl => W.widen h1 h2 (k p e s m args below meth c Q C H locs ls0 hP hS hl)
theorem sv_heap {g : Nat → va_E} (h : ∀ k, k < n → f k = g k) (k : sv_V G R own nm cc nL rt Post cells slots n g pc ls st) : sv_V G R own nm cc nL rt Post cells slots n f pc ls st :=
  fun p e s m args below meth c Q C H locs ls0 hP hS hl => k p e s m args below meth c Q C H locs ls0 (hP.congr h) hS hl
theorem sv_locals {ls' : List (Nat × Value)} (ks : List Nat) (h : lv_pick ls ks = ls') (k : sv_V G R own nm cc nL rt Post cells slots n f pc ls' st) : sv_V G R own nm cc nL rt Post cells slots n f pc ls st :=
  fun p e s m args below meth c Q C H locs ls0 hP hS hl => k p e s m args below meth c Q C H locs ls0 hP hS (lv_sub hl ks h)
theorem sv_st {st' : List Value} (h : st = st') (k : sv_V G R own nm cc nL rt Post cells slots n f pc ls st') : sv_V G R own nm cc nL rt Post cells slots n f pc ls st := h ▸ k
theorem sv_iconst {z : Int} {v : Int32} (d : decode cc pc = .ok (.iconst z, 1)) (hv : Int32.ofInt z = v) (k : sv_V G R own nm cc nL rt Post cells slots n f (pc + 1) ls (.int v :: st)) : sv_V G R own nm cc nL rt Post cells slots n f pc ls (st) :=
  fun p e s m args below meth c Q C H locs ls0 hP hS hl => lv_iconst C.1 C.2.1 d hv (k p e s m args below meth c Q C H locs ls0 hP hS hl)
theorem sv_bipush {z : Int} {v : Int32} (d : decode cc pc = .ok (.bipush z, 2)) (hv : (Int8.ofInt z).toInt32 = v) (k : sv_V G R own nm cc nL rt Post cells slots n f (pc + 2) ls (.int v :: st)) : sv_V G R own nm cc nL rt Post cells slots n f pc ls (st) :=
  fun p e s m args below meth c Q C H locs ls0 hP hS hl => lv_bipush C.1 C.2.1 d hv (k p e s m args below meth c Q C H locs ls0 hP hS hl)
theorem sv_sipush {z : Int} {v : Int32} (d : decode cc pc = .ok (.sipush z, 3)) (hv : (Int16.ofInt z).toInt32 = v) (k : sv_V G R own nm cc nL rt Post cells slots n f (pc + 3) ls (.int v :: st)) : sv_V G R own nm cc nL rt Post cells slots n f pc ls (st) :=
  fun p e s m args below meth c Q C H locs ls0 hP hS hl => lv_sipush C.1 C.2.1 d hv (k p e s m args below meth c Q C H locs ls0 hP hS hl)
theorem sv_lconst {z : Fin 2} {v : Int64} (d : decode cc pc = .ok (.lconst z, 1)) (hv : Int64.ofNat (z : Nat) = v) (k : sv_V G R own nm cc nL rt Post cells slots n f (pc + 1) ls (.long v :: st)) : sv_V G R own nm cc nL rt Post cells slots n f pc ls (st) :=
  fun p e s m args below meth c Q C H locs ls0 hP hS hl => lv_lconst C.1 C.2.1 d hv (k p e s m args below meth c Q C H locs ls0 hP hS hl)
theorem sv_iload_n (j : Nat) {i : Fin 4} {x : Int32} (d : decode cc pc = .ok (.iload_n i, 1)) (hj : ls[j]? = some ((i : Nat), .int x)) (k : sv_V G R own nm cc nL rt Post cells slots n f (pc + 1) ls (.int x :: st)) : sv_V G R own nm cc nL rt Post cells slots n f pc ls (st) :=
  fun p e s m args below meth c Q C H locs ls0 hP hS hl => lv_iload_n C.1 C.2.1 d rfl (lv_at hl j hj) (k p e s m args below meth c Q C H locs ls0 hP hS hl)
theorem sv_iload (j : Nat) {i : Nat} {x : Int32} (d : decode cc pc = .ok (.iload i, 2)) (hj : ls[j]? = some (i, .int x)) (k : sv_V G R own nm cc nL rt Post cells slots n f (pc + 2) ls (.int x :: st)) : sv_V G R own nm cc nL rt Post cells slots n f pc ls (st) :=
  fun p e s m args below meth c Q C H locs ls0 hP hS hl => lv_iload C.1 C.2.1 d (lv_at hl j hj) (k p e s m args below meth c Q C H locs ls0 hP hS hl)
theorem sv_lload_n (j : Nat) {i : Fin 4} {x : Int64} (d : decode cc pc = .ok (.lload_n i, 1)) (hj : ls[j]? = some ((i : Nat), .long x)) (k : sv_V G R own nm cc nL rt Post cells slots n f (pc + 1) ls (.long x :: st)) : sv_V G R own nm cc nL rt Post cells slots n f pc ls (st) :=
  fun p e s m args below meth c Q C H locs ls0 hP hS hl => lv_lload_n C.1 C.2.1 d rfl (lv_at hl j hj) (k p e s m args below meth c Q C H locs ls0 hP hS hl)
theorem sv_lload (j : Nat) {i : Nat} {x : Int64} (d : decode cc pc = .ok (.lload i, 2)) (hj : ls[j]? = some (i, .long x)) (k : sv_V G R own nm cc nL rt Post cells slots n f (pc + 2) ls (.long x :: st)) : sv_V G R own nm cc nL rt Post cells slots n f pc ls (st) :=
  fun p e s m args below meth c Q C H locs ls0 hP hS hl => lv_lload C.1 C.2.1 d (lv_at hl j hj) (k p e s m args below meth c Q C H locs ls0 hP hS hl)
theorem sv_aload_n (j : Nat) {i : Fin 4} {x : Nat} (d : decode cc pc = .ok (.aload_n i, 1)) (hj : ls[j]? = some ((i : Nat), .ref x)) (k : sv_V G R own nm cc nL rt Post cells slots n f (pc + 1) ls (.ref x :: st)) : sv_V G R own nm cc nL rt Post cells slots n f pc ls (st) :=
  fun p e s m args below meth c Q C H locs ls0 hP hS hl => lv_aload_n C.1 C.2.1 d rfl (lv_at hl j hj) (k p e s m args below meth c Q C H locs ls0 hP hS hl)
theorem sv_aload (j : Nat) {i : Nat} {x : Nat} (d : decode cc pc = .ok (.aload i, 2)) (hj : ls[j]? = some (i, .ref x)) (k : sv_V G R own nm cc nL rt Post cells slots n f (pc + 2) ls (.ref x :: st)) : sv_V G R own nm cc nL rt Post cells slots n f pc ls (st) :=
  fun p e s m args below meth c Q C H locs ls0 hP hS hl => lv_aload C.1 C.2.1 d (lv_at hl j hj) (k p e s m args below meth c Q C H locs ls0 hP hS hl)
theorem sv_istore_n {i : Fin 4} {x : Int32} {ls' : List (Nat × Value)} (d : decode cc pc = .ok (.istore_n i, 1)) (hi : (i : Nat) < nL) (hl' : (((i : Nat) : Nat), Value.int x) :: ls.filter (fun q => !(q.1 == (i : Nat)) && !(q.1 + 1 == (i : Nat) && q.2.category == 2)) = ls') (k : sv_V G R own nm cc nL rt Post cells slots n f (pc + 1) ls' st) : sv_V G R own nm cc nL rt Post cells slots n f pc ls (Value.int x :: st) :=
  fun p e s m args below meth c Q C H locs ls0 hP hS hl => lv_istore_n C.1 C.2.1 d rfl hl hi hl' (fun ls1 hl1 => k p e s m args below meth c Q C H locs ls1 hP hS hl1)
theorem sv_istore {i : Nat} {x : Int32} {ls' : List (Nat × Value)} (d : decode cc pc = .ok (.istore i, 2)) (hi : i < nL) (hl' : ((i : Nat), Value.int x) :: ls.filter (fun q => !(q.1 == i) && !(q.1 + 1 == i && q.2.category == 2)) = ls') (k : sv_V G R own nm cc nL rt Post cells slots n f (pc + 2) ls' st) : sv_V G R own nm cc nL rt Post cells slots n f pc ls (Value.int x :: st) :=
  fun p e s m args below meth c Q C H locs ls0 hP hS hl => lv_istore C.1 C.2.1 d hl hi hl' (fun ls1 hl1 => k p e s m args below meth c Q C H locs ls1 hP hS hl1)
theorem sv_astore_n {i : Fin 4} {x : Nat} {ls' : List (Nat × Value)} (d : decode cc pc = .ok (.astore_n i, 1)) (hi : (i : Nat) < nL) (hl' : (((i : Nat) : Nat), Value.ref x) :: ls.filter (fun q => !(q.1 == (i : Nat)) && !(q.1 + 1 == (i : Nat) && q.2.category == 2)) = ls') (k : sv_V G R own nm cc nL rt Post cells slots n f (pc + 1) ls' st) : sv_V G R own nm cc nL rt Post cells slots n f pc ls (Value.ref x :: st) :=
  fun p e s m args below meth c Q C H locs ls0 hP hS hl => lv_astore_n C.1 C.2.1 d rfl hl hi hl' (fun ls1 hl1 => k p e s m args below meth c Q C H locs ls1 hP hS hl1)
theorem sv_astore {i : Nat} {x : Nat} {ls' : List (Nat × Value)} (d : decode cc pc = .ok (.astore i, 2)) (hi : i < nL) (hl' : ((i : Nat), Value.ref x) :: ls.filter (fun q => !(q.1 == i) && !(q.1 + 1 == i && q.2.category == 2)) = ls') (k : sv_V G R own nm cc nL rt Post cells slots n f (pc + 2) ls' st) : sv_V G R own nm cc nL rt Post cells slots n f pc ls (Value.ref x :: st) :=
  fun p e s m args below meth c Q C H locs ls0 hP hS hl => lv_astore C.1 C.2.1 d hl hi hl' (fun ls1 hl1 => k p e s m args below meth c Q C H locs ls1 hP hS hl1)
theorem sv_lstore_n {i : Fin 4} {x : Int64} {ls' : List (Nat × Value)} (d : decode cc pc = .ok (.lstore_n i, 1)) (hi : (i : Nat) + 1 < nL) (hl' : (((i : Nat) : Nat), Value.long x) :: ls.filter (fun q => !(q.1 == (i : Nat)) && (!(q.1 == (i : Nat) + 1) && !(q.1 + 1 == (i : Nat) && q.2.category == 2))) = ls') (k : sv_V G R own nm cc nL rt Post cells slots n f (pc + 1) ls' st) : sv_V G R own nm cc nL rt Post cells slots n f pc ls (Value.long x :: st) :=
  fun p e s m args below meth c Q C H locs ls0 hP hS hl => lv_lstore_n C.1 C.2.1 d rfl hl hi hl' (fun ls1 hl1 => k p e s m args below meth c Q C H locs ls1 hP hS hl1)
theorem sv_lstore {i : Nat} {x : Int64} {ls' : List (Nat × Value)} (d : decode cc pc = .ok (.lstore i, 2)) (hi : i + 1 < nL) (hl' : ((i : Nat), Value.long x) :: ls.filter (fun q => !(q.1 == i) && (!(q.1 == i + 1) && !(q.1 + 1 == i && q.2.category == 2))) = ls') (k : sv_V G R own nm cc nL rt Post cells slots n f (pc + 2) ls' st) : sv_V G R own nm cc nL rt Post cells slots n f pc ls (Value.long x :: st) :=
  fun p e s m args below meth c Q C H locs ls0 hP hS hl => lv_lstore C.1 C.2.1 d hl hi hl' (fun ls1 hl1 => k p e s m args below meth c Q C H locs ls1 hP hS hl1)
theorem sv_iinc (j : Nat) {i : Nat} {z : Int} {x v : Int32} {ls' : List (Nat × Value)} (d : decode cc pc = .ok (.iinc i z, 3)) (hj : ls[j]? = some (i, .int x)) (hv : x + Int32.ofInt z = v) (hi : i < nL) (hl' : (i, Value.int v) :: ls.filter (fun q => !(q.1 == i) && !(q.1 + 1 == i && q.2.category == 2)) = ls') (k : sv_V G R own nm cc nL rt Post cells slots n f (pc + 3) ls' st) : sv_V G R own nm cc nL rt Post cells slots n f pc ls st :=
  fun p e s m args below meth c Q C H locs ls0 hP hS hl => lv_iinc C.1 C.2.1 d hl hj hv hi hl' (fun ls1 hl1 => k p e s m args below meth c Q C H locs ls1 hP hS hl1)
theorem sv_iadd {x y : Int32} (d : decode cc pc = .ok (.iadd, 1)) (k : sv_V G R own nm cc nL rt Post cells slots n f (pc + 1) ls (.int (x + y) :: st)) : sv_V G R own nm cc nL rt Post cells slots n f pc ls (.int y :: .int x :: st) :=
  fun p e s m args below meth c Q C H locs ls0 hP hS hl => lv_iadd C.1 C.2.1 d (k p e s m args below meth c Q C H locs ls0 hP hS hl)
theorem sv_isub {x y : Int32} (d : decode cc pc = .ok (.isub, 1)) (k : sv_V G R own nm cc nL rt Post cells slots n f (pc + 1) ls (.int (x - y) :: st)) : sv_V G R own nm cc nL rt Post cells slots n f pc ls (.int y :: .int x :: st) :=
  fun p e s m args below meth c Q C H locs ls0 hP hS hl => lv_isub C.1 C.2.1 d (k p e s m args below meth c Q C H locs ls0 hP hS hl)
theorem sv_imul {x y : Int32} (d : decode cc pc = .ok (.imul, 1)) (k : sv_V G R own nm cc nL rt Post cells slots n f (pc + 1) ls (.int (x * y) :: st)) : sv_V G R own nm cc nL rt Post cells slots n f pc ls (.int y :: .int x :: st) :=
  fun p e s m args below meth c Q C H locs ls0 hP hS hl => lv_imul C.1 C.2.1 d (k p e s m args below meth c Q C H locs ls0 hP hS hl)
theorem sv_iand {x y : Int32} (d : decode cc pc = .ok (.iand, 1)) (k : sv_V G R own nm cc nL rt Post cells slots n f (pc + 1) ls (.int (x &&& y) :: st)) : sv_V G R own nm cc nL rt Post cells slots n f pc ls (.int y :: .int x :: st) :=
  fun p e s m args below meth c Q C H locs ls0 hP hS hl => lv_iand C.1 C.2.1 d (k p e s m args below meth c Q C H locs ls0 hP hS hl)
theorem sv_ior {x y : Int32} (d : decode cc pc = .ok (.ior, 1)) (k : sv_V G R own nm cc nL rt Post cells slots n f (pc + 1) ls (.int (x ||| y) :: st)) : sv_V G R own nm cc nL rt Post cells slots n f pc ls (.int y :: .int x :: st) :=
  fun p e s m args below meth c Q C H locs ls0 hP hS hl => lv_ior C.1 C.2.1 d (k p e s m args below meth c Q C H locs ls0 hP hS hl)
theorem sv_ixor {x y : Int32} (d : decode cc pc = .ok (.ixor, 1)) (k : sv_V G R own nm cc nL rt Post cells slots n f (pc + 1) ls (.int (x ^^^ y) :: st)) : sv_V G R own nm cc nL rt Post cells slots n f pc ls (.int y :: .int x :: st) :=
  fun p e s m args below meth c Q C H locs ls0 hP hS hl => lv_ixor C.1 C.2.1 d (k p e s m args below meth c Q C H locs ls0 hP hS hl)
theorem sv_ladd {x y : Int64} (d : decode cc pc = .ok (.ladd, 1)) (k : sv_V G R own nm cc nL rt Post cells slots n f (pc + 1) ls (.long (x + y) :: st)) : sv_V G R own nm cc nL rt Post cells slots n f pc ls (.long y :: .long x :: st) :=
  fun p e s m args below meth c Q C H locs ls0 hP hS hl => lv_ladd C.1 C.2.1 d (k p e s m args below meth c Q C H locs ls0 hP hS hl)
theorem sv_lsub {x y : Int64} (d : decode cc pc = .ok (.lsub, 1)) (k : sv_V G R own nm cc nL rt Post cells slots n f (pc + 1) ls (.long (x - y) :: st)) : sv_V G R own nm cc nL rt Post cells slots n f pc ls (.long y :: .long x :: st) :=
  fun p e s m args below meth c Q C H locs ls0 hP hS hl => lv_lsub C.1 C.2.1 d (k p e s m args below meth c Q C H locs ls0 hP hS hl)
theorem sv_lmul {x y : Int64} (d : decode cc pc = .ok (.lmul, 1)) (k : sv_V G R own nm cc nL rt Post cells slots n f (pc + 1) ls (.long (x * y) :: st)) : sv_V G R own nm cc nL rt Post cells slots n f pc ls (.long y :: .long x :: st) :=
  fun p e s m args below meth c Q C H locs ls0 hP hS hl => lv_lmul C.1 C.2.1 d (k p e s m args below meth c Q C H locs ls0 hP hS hl)
theorem sv_land {x y : Int64} (d : decode cc pc = .ok (.land, 1)) (k : sv_V G R own nm cc nL rt Post cells slots n f (pc + 1) ls (.long (x &&& y) :: st)) : sv_V G R own nm cc nL rt Post cells slots n f pc ls (.long y :: .long x :: st) :=
  fun p e s m args below meth c Q C H locs ls0 hP hS hl => lv_land C.1 C.2.1 d (k p e s m args below meth c Q C H locs ls0 hP hS hl)
theorem sv_lor {x y : Int64} (d : decode cc pc = .ok (.lor, 1)) (k : sv_V G R own nm cc nL rt Post cells slots n f (pc + 1) ls (.long (x ||| y) :: st)) : sv_V G R own nm cc nL rt Post cells slots n f pc ls (.long y :: .long x :: st) :=
  fun p e s m args below meth c Q C H locs ls0 hP hS hl => lv_lor C.1 C.2.1 d (k p e s m args below meth c Q C H locs ls0 hP hS hl)
theorem sv_lxor {x y : Int64} (d : decode cc pc = .ok (.lxor, 1)) (k : sv_V G R own nm cc nL rt Post cells slots n f (pc + 1) ls (.long (x ^^^ y) :: st)) : sv_V G R own nm cc nL rt Post cells slots n f pc ls (.long y :: .long x :: st) :=
  fun p e s m args below meth c Q C H locs ls0 hP hS hl => lv_lxor C.1 C.2.1 d (k p e s m args below meth c Q C H locs ls0 hP hS hl)
theorem sv_idiv {x y : Int32} (hdg : decode cc pc = .ok (.idiv, 1)) (hne : ¬ y = 0)
    (k : sv_V G R own nm cc nL rt Post cells slots n f (pc + 1) ls (.int (x / y) :: st)) : sv_V G R own nm cc nL rt Post cells slots n f pc ls (.int y :: .int x :: st) :=
  fun p e s m args below meth c Q C H locs ls0 hP hS hl => lv_idiv C.1 C.2.1 hdg hne (k p e s m args below meth c Q C H locs ls0 hP hS hl)
theorem sv_irem {x y : Int32} (hdg : decode cc pc = .ok (.irem, 1)) (hne : ¬ y = 0)
    (k : sv_V G R own nm cc nL rt Post cells slots n f (pc + 1) ls (.int (x - x / y * y) :: st)) : sv_V G R own nm cc nL rt Post cells slots n f pc ls (.int y :: .int x :: st) :=
  fun p e s m args below meth c Q C H locs ls0 hP hS hl => lv_irem C.1 C.2.1 hdg hne (k p e s m args below meth c Q C H locs ls0 hP hS hl)
theorem sv_ineg {x : Int32} (hdg : decode cc pc = .ok (.ineg, 1)) 
    (k : sv_V G R own nm cc nL rt Post cells slots n f (pc + 1) ls (.int (-x) :: st)) : sv_V G R own nm cc nL rt Post cells slots n f pc ls (.int x :: st) :=
  fun p e s m args below meth c Q C H locs ls0 hP hS hl => lv_ineg C.1 C.2.1 hdg (k p e s m args below meth c Q C H locs ls0 hP hS hl)
theorem sv_ldiv {x y : Int64} (hdg : decode cc pc = .ok (.ldiv, 1)) (hne : ¬ y = 0)
    (k : sv_V G R own nm cc nL rt Post cells slots n f (pc + 1) ls (.long (x / y) :: st)) : sv_V G R own nm cc nL rt Post cells slots n f pc ls (.long y :: .long x :: st) :=
  fun p e s m args below meth c Q C H locs ls0 hP hS hl => lv_ldiv C.1 C.2.1 hdg hne (k p e s m args below meth c Q C H locs ls0 hP hS hl)
theorem sv_lrem {x y : Int64} (hdg : decode cc pc = .ok (.lrem, 1)) (hne : ¬ y = 0)
    (k : sv_V G R own nm cc nL rt Post cells slots n f (pc + 1) ls (.long (x - x / y * y) :: st)) : sv_V G R own nm cc nL rt Post cells slots n f pc ls (.long y :: .long x :: st) :=
  fun p e s m args below meth c Q C H locs ls0 hP hS hl => lv_lrem C.1 C.2.1 hdg hne (k p e s m args below meth c Q C H locs ls0 hP hS hl)
theorem sv_ishl {x y : Int32} (hdg : decode cc pc = .ok (.ishl, 1)) 
    (k : sv_V G R own nm cc nL rt Post cells slots n f (pc + 1) ls (.int (x <<< (y &&& 31)) :: st)) : sv_V G R own nm cc nL rt Post cells slots n f pc ls (.int y :: .int x :: st) :=
  fun p e s m args below meth c Q C H locs ls0 hP hS hl => lv_ishl C.1 C.2.1 hdg (k p e s m args below meth c Q C H locs ls0 hP hS hl)
theorem sv_ishr {x y : Int32} (hdg : decode cc pc = .ok (.ishr, 1)) 
    (k : sv_V G R own nm cc nL rt Post cells slots n f (pc + 1) ls (.int (x >>> (y &&& 31)) :: st)) : sv_V G R own nm cc nL rt Post cells slots n f pc ls (.int y :: .int x :: st) :=
  fun p e s m args below meth c Q C H locs ls0 hP hS hl => lv_ishr C.1 C.2.1 hdg (k p e s m args below meth c Q C H locs ls0 hP hS hl)
theorem sv_i2l {x : Int32} {v : Int64} (hdg : decode cc pc = .ok (.i2l, 1)) (hv : x.toInt64 = v)
    (k : sv_V G R own nm cc nL rt Post cells slots n f (pc + 1) ls (.long v :: st)) : sv_V G R own nm cc nL rt Post cells slots n f pc ls (.int x :: st) :=
  fun p e s m args below meth c Q C H locs ls0 hP hS hl => lv_i2l C.1 C.2.1 hdg hv (k p e s m args below meth c Q C H locs ls0 hP hS hl)
theorem sv_l2i {x : Int64} {v : Int32} (hdg : decode cc pc = .ok (.l2i, 1)) (hv : x.toInt32 = v)
    (k : sv_V G R own nm cc nL rt Post cells slots n f (pc + 1) ls (.int v :: st)) : sv_V G R own nm cc nL rt Post cells slots n f pc ls (.long x :: st) :=
  fun p e s m args below meth c Q C H locs ls0 hP hS hl => lv_l2i C.1 C.2.1 hdg hv (k p e s m args below meth c Q C H locs ls0 hP hS hl)
theorem sv_i2b {x : Int32} {v : Int32} (hdg : decode cc pc = .ok (.i2b, 1)) (hv : x.toInt8.toInt32 = v)
    (k : sv_V G R own nm cc nL rt Post cells slots n f (pc + 1) ls (.int v :: st)) : sv_V G R own nm cc nL rt Post cells slots n f pc ls (.int x :: st) :=
  fun p e s m args below meth c Q C H locs ls0 hP hS hl => lv_i2b C.1 C.2.1 hdg hv (k p e s m args below meth c Q C H locs ls0 hP hS hl)
theorem sv_i2c {x : Int32} {v : Int32} (hdg : decode cc pc = .ok (.i2c, 1)) (hv : (x.toUInt32 % 65536).toInt32 = v)
    (k : sv_V G R own nm cc nL rt Post cells slots n f (pc + 1) ls (.int v :: st)) : sv_V G R own nm cc nL rt Post cells slots n f pc ls (.int x :: st) :=
  fun p e s m args below meth c Q C H locs ls0 hP hS hl => lv_i2c C.1 C.2.1 hdg hv (k p e s m args below meth c Q C H locs ls0 hP hS hl)
theorem sv_iushr {x y v : Int32} (hdg : decode cc pc = .ok (.iushr, 1)) (hv : (x.toUInt32 >>> (y.toUInt32 &&& Int32.toUInt32 31)).toInt32 = v)
    (k : sv_V G R own nm cc nL rt Post cells slots n f (pc + 1) ls (.int v :: st)) : sv_V G R own nm cc nL rt Post cells slots n f pc ls (.int y :: .int x :: st) :=
  fun p e s m args below meth c Q C H locs ls0 hP hS hl => lv_iushr C.1 C.2.1 hdg hv (k p e s m args below meth c Q C H locs ls0 hP hS hl)
theorem sv_lushr {x v : Int64} {y : Int32} (hdg : decode cc pc = .ok (.lushr, 1)) (hv : (x.toUInt64 >>> (y.toInt64.toUInt64 &&& Int64.toUInt64 63)).toInt64 = v)
    (k : sv_V G R own nm cc nL rt Post cells slots n f (pc + 1) ls (.long v :: st)) : sv_V G R own nm cc nL rt Post cells slots n f pc ls (.int y :: .long x :: st) :=
  fun p e s m args below meth c Q C H locs ls0 hP hS hl => lv_lushr C.1 C.2.1 hdg hv (k p e s m args below meth c Q C H locs ls0 hP hS hl)
theorem sv_lshl {x v : Int64} {y : Int32} (hdg : decode cc pc = .ok (.lshl, 1)) (hv : x <<< (y.toInt64 &&& 63) = v)
    (k : sv_V G R own nm cc nL rt Post cells slots n f (pc + 1) ls (.long v :: st)) : sv_V G R own nm cc nL rt Post cells slots n f pc ls (.int y :: .long x :: st) :=
  fun p e s m args below meth c Q C H locs ls0 hP hS hl => lv_lshl C.1 C.2.1 hdg hv (k p e s m args below meth c Q C H locs ls0 hP hS hl)
theorem sv_dup {va : Value} (hdg : decode cc pc = .ok (.dup, 1)) (hva : va.category = 1)
    (k : sv_V G R own nm cc nL rt Post cells slots n f (pc + 1) ls (va :: va :: st)) : sv_V G R own nm cc nL rt Post cells slots n f pc ls (va :: st) :=
  fun p e s m args below meth c Q C H locs ls0 hP hS hl => lv_dup C.1 C.2.1 hdg hva (k p e s m args below meth c Q C H locs ls0 hP hS hl)
theorem sv_pop {va : Value} (hdg : decode cc pc = .ok (.pop, 1)) (hva : va.category = 1)
    (k : sv_V G R own nm cc nL rt Post cells slots n f (pc + 1) ls (st)) : sv_V G R own nm cc nL rt Post cells slots n f pc ls (va :: st) :=
  fun p e s m args below meth c Q C H locs ls0 hP hS hl => lv_pop C.1 C.2.1 hdg hva (k p e s m args below meth c Q C H locs ls0 hP hS hl)
theorem sv_dup_x1 {va vb : Value} (hdg : decode cc pc = .ok (.dup_x1, 1)) (hva : va.category = 1) (hvb : vb.category = 1)
    (k : sv_V G R own nm cc nL rt Post cells slots n f (pc + 1) ls (va :: vb :: va :: st)) : sv_V G R own nm cc nL rt Post cells slots n f pc ls (va :: vb :: st) :=
  fun p e s m args below meth c Q C H locs ls0 hP hS hl => lv_dup_x1 C.1 C.2.1 hdg hva hvb (k p e s m args below meth c Q C H locs ls0 hP hS hl)
theorem sv_dup_x2 {va vb vd : Value} (hdg : decode cc pc = .ok (.dup_x2, 1)) (hva : va.category = 1) (hvb : vb.category = 1) (hvd : vd.category = 1)
    (k : sv_V G R own nm cc nL rt Post cells slots n f (pc + 1) ls (va :: vb :: vd :: va :: st)) : sv_V G R own nm cc nL rt Post cells slots n f pc ls (va :: vb :: vd :: st) :=
  fun p e s m args below meth c Q C H locs ls0 hP hS hl => lv_dup_x2 C.1 C.2.1 hdg hva hvb hvd (k p e s m args below meth c Q C H locs ls0 hP hS hl)
theorem sv_dup2_11 {va vb : Value} (hdg : decode cc pc = .ok (.dup2, 1)) (hva : va.category = 1) (hvb : vb.category = 1)
    (k : sv_V G R own nm cc nL rt Post cells slots n f (pc + 1) ls (va :: vb :: va :: vb :: st)) : sv_V G R own nm cc nL rt Post cells slots n f pc ls (va :: vb :: st) :=
  fun p e s m args below meth c Q C H locs ls0 hP hS hl => lv_dup2_11 C.1 C.2.1 hdg hva hvb (k p e s m args below meth c Q C H locs ls0 hP hS hl)
theorem sv_goto {off : Int} {tgt : Nat} (hdg : decode cc pc = .ok (.goto off, 3)) (ht : (pc : Int) + off = (tgt : Int)) (k : sv_V G R own nm cc nL rt Post cells slots n f tgt ls st) : sv_V G R own nm cc nL rt Post cells slots n f pc ls st :=
  fun p e s m args below meth c Q C H locs ls0 hP hS hl => lv_goto C.1 C.2.1 hdg ht (k p e s m args below meth c Q C H locs ls0 hP hS hl)
theorem sv_lookup {dflt : Int} {ps : Array (Int × Int)} {len : Nat} {x : Int32} {off : Int} {tgt : Nat} (hdg : decode cc pc = .ok (.lookupswitch dflt ps, len)) (hp : (ps.toList.zip (ps.toList.drop 1)).all (fun (a, next) => a.1 < next.1) = true) (ho : Op.lookupswitch.offset ps.toList dflt x.toInt = off) (ht : (pc : Int) + off = (tgt : Int))
    (k : sv_V G R own nm cc nL rt Post cells slots n f tgt ls st) : sv_V G R own nm cc nL rt Post cells slots n f pc ls (.int x :: st) :=
  fun p e s m args below meth c Q C H locs ls0 hP hS hl => lv_lookup C.1 C.2.1 hdg hp ho ht (k p e s m args below meth c Q C H locs ls0 hP hS hl)
theorem sv_tableOut {dflt lo hi : Int} {offs : Array Int} {len : Nat} {x : Int32} {tgt : Nat} (hdg : decode cc pc = .ok (.tableswitch dflt lo hi offs, len)) (h : x.toInt < lo ∨ hi < x.toInt) (ht : (pc : Int) + dflt = (tgt : Int))
    (k : sv_V G R own nm cc nL rt Post cells slots n f tgt ls st) : sv_V G R own nm cc nL rt Post cells slots n f pc ls (.int x :: st) :=
  fun p e s m args below meth c Q C H locs ls0 hP hS hl => lv_tableOut C.1 C.2.1 hdg h ht (k p e s m args below meth c Q C H locs ls0 hP hS hl)
theorem sv_tableIn {dflt lo hi : Int} {offs : Array Int} {len : Nat} {x : Int32} {off : Int} {tgt : Nat} (hdg : decode cc pc = .ok (.tableswitch dflt lo hi offs, len)) (h1 : ¬ x.toInt < lo) (h2 : ¬ hi < x.toInt) (ho : offs[(x.toInt - lo).toNat]? = some off) (ht : (pc : Int) + off = (tgt : Int))
    (k : sv_V G R own nm cc nL rt Post cells slots n f tgt ls st) : sv_V G R own nm cc nL rt Post cells slots n f pc ls (.int x :: st) :=
  fun p e s m args below meth c Q C H locs ls0 hP hS hl => lv_tableIn C.1 C.2.1 hdg h1 h2 ho ht (k p e s m args below meth c Q C H locs ls0 hP hS hl)
theorem sv_if_eq {x : Int32} {off : Int} {tgt : Nat} (hdg : decode cc pc = .ok (.ifCond .eq off, 3)) (ht : (pc : Int) + off = (tgt : Int))
    (kt : x = 0 → sv_V G R own nm cc nL rt Post cells slots n f tgt ls st) (kf : ¬ x = 0 → sv_V G R own nm cc nL rt Post cells slots n f (pc + 3) ls st) : sv_V G R own nm cc nL rt Post cells slots n f pc ls (.int x :: st) :=
  fun p e s m args below meth c Q C H locs ls0 hP hS hl => lv_if_eq C.1 C.2.1 hdg ht (fun z => kt z p e s m args below meth c Q C H locs ls0 hP hS hl) (fun z => kf z p e s m args below meth c Q C H locs ls0 hP hS hl)
theorem sv_icmp_eq {x y : Int32} {off : Int} {tgt : Nat} (hdg : decode cc pc = .ok (.if_icmp .eq off, 3)) (ht : (pc : Int) + off = (tgt : Int))
    (kt : x = y → sv_V G R own nm cc nL rt Post cells slots n f tgt ls st) (kf : ¬ x = y → sv_V G R own nm cc nL rt Post cells slots n f (pc + 3) ls st) : sv_V G R own nm cc nL rt Post cells slots n f pc ls (.int y :: .int x :: st) :=
  fun p e s m args below meth c Q C H locs ls0 hP hS hl => lv_icmp_eq C.1 C.2.1 hdg ht (fun z => kt z p e s m args below meth c Q C H locs ls0 hP hS hl) (fun z => kf z p e s m args below meth c Q C H locs ls0 hP hS hl)
theorem sv_if_ne {x : Int32} {off : Int} {tgt : Nat} (hdg : decode cc pc = .ok (.ifCond .ne off, 3)) (ht : (pc : Int) + off = (tgt : Int))
    (kt : ¬ x = 0 → sv_V G R own nm cc nL rt Post cells slots n f tgt ls st) (kf : x = 0 → sv_V G R own nm cc nL rt Post cells slots n f (pc + 3) ls st) : sv_V G R own nm cc nL rt Post cells slots n f pc ls (.int x :: st) :=
  fun p e s m args below meth c Q C H locs ls0 hP hS hl => lv_if_ne C.1 C.2.1 hdg ht (fun z => kt z p e s m args below meth c Q C H locs ls0 hP hS hl) (fun z => kf z p e s m args below meth c Q C H locs ls0 hP hS hl)
theorem sv_icmp_ne {x y : Int32} {off : Int} {tgt : Nat} (hdg : decode cc pc = .ok (.if_icmp .ne off, 3)) (ht : (pc : Int) + off = (tgt : Int))
    (kt : ¬ x = y → sv_V G R own nm cc nL rt Post cells slots n f tgt ls st) (kf : x = y → sv_V G R own nm cc nL rt Post cells slots n f (pc + 3) ls st) : sv_V G R own nm cc nL rt Post cells slots n f pc ls (.int y :: .int x :: st) :=
  fun p e s m args below meth c Q C H locs ls0 hP hS hl => lv_icmp_ne C.1 C.2.1 hdg ht (fun z => kt z p e s m args below meth c Q C H locs ls0 hP hS hl) (fun z => kf z p e s m args below meth c Q C H locs ls0 hP hS hl)
theorem sv_if_lt {x : Int32} {off : Int} {tgt : Nat} (hdg : decode cc pc = .ok (.ifCond .lt off, 3)) (ht : (pc : Int) + off = (tgt : Int))
    (kt : x < 0 → sv_V G R own nm cc nL rt Post cells slots n f tgt ls st) (kf : ¬ x < 0 → sv_V G R own nm cc nL rt Post cells slots n f (pc + 3) ls st) : sv_V G R own nm cc nL rt Post cells slots n f pc ls (.int x :: st) :=
  fun p e s m args below meth c Q C H locs ls0 hP hS hl => lv_if_lt C.1 C.2.1 hdg ht (fun z => kt z p e s m args below meth c Q C H locs ls0 hP hS hl) (fun z => kf z p e s m args below meth c Q C H locs ls0 hP hS hl)
theorem sv_icmp_lt {x y : Int32} {off : Int} {tgt : Nat} (hdg : decode cc pc = .ok (.if_icmp .lt off, 3)) (ht : (pc : Int) + off = (tgt : Int))
    (kt : x < y → sv_V G R own nm cc nL rt Post cells slots n f tgt ls st) (kf : ¬ x < y → sv_V G R own nm cc nL rt Post cells slots n f (pc + 3) ls st) : sv_V G R own nm cc nL rt Post cells slots n f pc ls (.int y :: .int x :: st) :=
  fun p e s m args below meth c Q C H locs ls0 hP hS hl => lv_icmp_lt C.1 C.2.1 hdg ht (fun z => kt z p e s m args below meth c Q C H locs ls0 hP hS hl) (fun z => kf z p e s m args below meth c Q C H locs ls0 hP hS hl)
theorem sv_if_ge {x : Int32} {off : Int} {tgt : Nat} (hdg : decode cc pc = .ok (.ifCond .ge off, 3)) (ht : (pc : Int) + off = (tgt : Int))
    (kt : 0 ≤ x → sv_V G R own nm cc nL rt Post cells slots n f tgt ls st) (kf : ¬ 0 ≤ x → sv_V G R own nm cc nL rt Post cells slots n f (pc + 3) ls st) : sv_V G R own nm cc nL rt Post cells slots n f pc ls (.int x :: st) :=
  fun p e s m args below meth c Q C H locs ls0 hP hS hl => lv_if_ge C.1 C.2.1 hdg ht (fun z => kt z p e s m args below meth c Q C H locs ls0 hP hS hl) (fun z => kf z p e s m args below meth c Q C H locs ls0 hP hS hl)
theorem sv_icmp_ge {x y : Int32} {off : Int} {tgt : Nat} (hdg : decode cc pc = .ok (.if_icmp .ge off, 3)) (ht : (pc : Int) + off = (tgt : Int))
    (kt : y ≤ x → sv_V G R own nm cc nL rt Post cells slots n f tgt ls st) (kf : ¬ y ≤ x → sv_V G R own nm cc nL rt Post cells slots n f (pc + 3) ls st) : sv_V G R own nm cc nL rt Post cells slots n f pc ls (.int y :: .int x :: st) :=
  fun p e s m args below meth c Q C H locs ls0 hP hS hl => lv_icmp_ge C.1 C.2.1 hdg ht (fun z => kt z p e s m args below meth c Q C H locs ls0 hP hS hl) (fun z => kf z p e s m args below meth c Q C H locs ls0 hP hS hl)
theorem sv_if_gt {x : Int32} {off : Int} {tgt : Nat} (hdg : decode cc pc = .ok (.ifCond .gt off, 3)) (ht : (pc : Int) + off = (tgt : Int))
    (kt : 0 < x → sv_V G R own nm cc nL rt Post cells slots n f tgt ls st) (kf : ¬ 0 < x → sv_V G R own nm cc nL rt Post cells slots n f (pc + 3) ls st) : sv_V G R own nm cc nL rt Post cells slots n f pc ls (.int x :: st) :=
  fun p e s m args below meth c Q C H locs ls0 hP hS hl => lv_if_gt C.1 C.2.1 hdg ht (fun z => kt z p e s m args below meth c Q C H locs ls0 hP hS hl) (fun z => kf z p e s m args below meth c Q C H locs ls0 hP hS hl)
theorem sv_icmp_gt {x y : Int32} {off : Int} {tgt : Nat} (hdg : decode cc pc = .ok (.if_icmp .gt off, 3)) (ht : (pc : Int) + off = (tgt : Int))
    (kt : y < x → sv_V G R own nm cc nL rt Post cells slots n f tgt ls st) (kf : ¬ y < x → sv_V G R own nm cc nL rt Post cells slots n f (pc + 3) ls st) : sv_V G R own nm cc nL rt Post cells slots n f pc ls (.int y :: .int x :: st) :=
  fun p e s m args below meth c Q C H locs ls0 hP hS hl => lv_icmp_gt C.1 C.2.1 hdg ht (fun z => kt z p e s m args below meth c Q C H locs ls0 hP hS hl) (fun z => kf z p e s m args below meth c Q C H locs ls0 hP hS hl)
theorem sv_if_le {x : Int32} {off : Int} {tgt : Nat} (hdg : decode cc pc = .ok (.ifCond .le off, 3)) (ht : (pc : Int) + off = (tgt : Int))
    (kt : x ≤ 0 → sv_V G R own nm cc nL rt Post cells slots n f tgt ls st) (kf : ¬ x ≤ 0 → sv_V G R own nm cc nL rt Post cells slots n f (pc + 3) ls st) : sv_V G R own nm cc nL rt Post cells slots n f pc ls (.int x :: st) :=
  fun p e s m args below meth c Q C H locs ls0 hP hS hl => lv_if_le C.1 C.2.1 hdg ht (fun z => kt z p e s m args below meth c Q C H locs ls0 hP hS hl) (fun z => kf z p e s m args below meth c Q C H locs ls0 hP hS hl)
theorem sv_icmp_le {x y : Int32} {off : Int} {tgt : Nat} (hdg : decode cc pc = .ok (.if_icmp .le off, 3)) (ht : (pc : Int) + off = (tgt : Int))
    (kt : x ≤ y → sv_V G R own nm cc nL rt Post cells slots n f tgt ls st) (kf : ¬ x ≤ y → sv_V G R own nm cc nL rt Post cells slots n f (pc + 3) ls st) : sv_V G R own nm cc nL rt Post cells slots n f pc ls (.int y :: .int x :: st) :=
  fun p e s m args below meth c Q C H locs ls0 hP hS hl => lv_icmp_le C.1 C.2.1 hdg ht (fun z => kt z p e s m args below meth c Q C H locs ls0 hP hS hl) (fun z => kf z p e s m args below meth c Q C H locs ls0 hP hS hl)
theorem sv_lcmp {x y : Int64} (d : decode cc pc = .ok (.lcmp, 1)) (k : sv_V G R own nm cc nL rt Post cells slots n f (pc + 1) ls (.int (lg_cmp x y) :: st)) : sv_V G R own nm cc nL rt Post cells slots n f pc ls (.long y :: .long x :: st) :=
  fun p e s m args below meth c Q C H locs ls0 hP hS hl => W.lcmp C.1 C.2.1 d (k p e s m args below meth c Q C H locs ls0 hP hS hl)
theorem sv_ldc {i : Nat} {v : Int32} (hw : Cond.constant own i v ∈ gw) (d : decode cc pc = .ok (.ldc i, 2)) (k : sv_V G R own nm cc nL rt Post cells slots n f (pc + 2) ls (.int v :: st)) : sv_V G R own nm cc nL rt Post cells slots n f pc ls st :=
  fun p e s m args below meth c Q C H locs ls0 hP hS hl => lv_ldc C.1 C.2.1 C.2.2.2.1 (C.2.2.2.2.1 _ hw) d (k p e s m args below meth c Q C H locs ls0 hP hS hl)
theorem sv_ldc2 {i : Nat} {v : Int64} (hw : Cond.constantLong own i v ∈ gw) (d : decode cc pc = .ok (.ldc2_w i, 3)) (k : sv_V G R own nm cc nL rt Post cells slots n f (pc + 3) ls (.long v :: st)) : sv_V G R own nm cc nL rt Post cells slots n f pc ls st :=
  fun p e s m args below meth c Q C H locs ls0 hP hS hl => lv_ldc2 C.1 C.2.1 C.2.2.2.1 (C.2.2.2.2.1 _ hw) d (k p e s m args below meth c Q C H locs ls0 hP hS hl)
theorem sv_topi {x : Int32} (k : ∀ y : Int32, y = x → sv_V G R own nm cc nL rt Post cells slots n f pc ls (.int y :: st)) : sv_V G R own nm cc nL rt Post cells slots n f pc ls (.int x :: st) := k x rfl
theorem sv_topl {x : Int64} (k : ∀ y : Int64, y = x → sv_V G R own nm cc nL rt Post cells slots n f pc ls (.long y :: st)) : sv_V G R own nm cc nL rt Post cells slots n f pc ls (.long x :: st) := k x rfl
end SV
