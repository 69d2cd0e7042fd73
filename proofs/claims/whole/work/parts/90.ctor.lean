/-! CONSTRUCTORS: the heap while cells are made: what stood below k, then the cells es -/
def dE : va_E := .inr (0, [])
def hp (f : Nat → va_E) (k : Nat) (es : List va_E) : Nat → va_E := fun j => if j < k then f j else (es[j - k]?).getD dE
theorem hp_at {f : Nat → va_E} {k i : Nat} {es : List va_E} {e : va_E} (h : es[i]? = some e) : hp f k es (k + i) = e := by
  unfold hp; rw [if_neg (by omega), show k + i - k = i by omega, h]; rfl
theorem hp_lt {es : List va_E} {i m : Nat} {e : va_E} (hm : es.length = m) (h : es[i]? = some e) : i < m := by rw [← hm]; exact (List.getElem?_eq_some_iff.mp h).1
theorem hp_up {f : Nat → va_E} {k i : Nat} {es : List va_E} {e : va_E} (h : i < es.length) (j : Nat) : va_up (hp f k es) (k + i) e j = hp f k (es.set i e) j := by
  unfold va_up hp
  by_cases z : j = k + i
  · rw [if_pos z, if_neg (by omega), z, show k + i - k = i by omega, List.getElem?_set_self h]; rfl
  · rw [if_neg z]
    by_cases y : j < k
    · rw [if_pos y, if_pos y]
    · rw [if_neg y, if_neg y, List.getElem?_set_ne (by omega)]
theorem hp_push {f : Nat → va_E} {k m : Nat} {es : List va_E} {e : va_E} (hm : es.length = m) (j : Nat) : va_up (hp f k es) (k + m) e j = hp f k (es ++ [e]) j := by
  unfold va_up hp
  by_cases z : j = k + m
  · rw [if_pos z, if_neg (by omega), z, show k + m - k = m by omega, List.getElem?_append_right (by omega), hm, Nat.sub_self]; rfl
  · rw [if_neg z]
    by_cases y : j < k
    · rw [if_pos y, if_pos y]
    · rw [if_neg y, if_neg y]
      by_cases x : j < k + m
      · rw [List.getElem?_append_left (by omega)]
      · rw [List.getElem?_append_right (by omega), List.getElem?_eq_none (by omega), List.getElem?_eq_none (by simp; omega)]
theorem hp_app {f : Nat → va_E} {k m : Nat} {es ds : List va_E} {e : va_E} (hm : es.length = m) (j : Nat) : hp (hp f k (es ++ [e])) (k + m) ds j = hp f k (es ++ ds) j := by
  unfold hp
  by_cases x : j < k + m
  · rw [if_pos x]
    by_cases y : j < k
    · rw [if_pos y, if_pos y]
    · rw [if_neg y, if_neg y, List.getElem?_append_left (by omega), List.getElem?_append_left (by omega)]
  · rw [if_neg x, if_neg (by omega), List.getElem?_append_right (by omega), hm, show j - k - m = j - (k + m) by omega]
theorem hp_one {f : Nat → va_E} {k : Nat} {e : va_E} (h : f k = e) (j : Nat) (hj : j < k + 1) : f j = hp f k [e] j := by
  unfold hp
  by_cases y : j < k
  · rw [if_pos y]
  · rw [if_neg y, show j = k by omega, Nat.sub_self, h]; rfl
/-- what a constructor leaves, begun at the last cell k: the cells ds from k on -/
def iPo (g : Nat → va_E) (k : Nat) (ds : List va_E) : Option Value → Nat → (Nat → va_E) → Prop := fun r n' f' => r = none ∧ n' = k + ds.length ∧ ∀ j, j < k + ds.length → f' j = hp g k ds j
def ctI (G : GT) (y : MethodName) (R : Room) (cc : ByteArray) (nL : Nat) (fr : va_E) (ds : Nat → List va_E) : Prop := ∀ (k : Nat) (g : Nat → va_E), g k = fr → sv_Ct G y R cc nL none [.ref (gB G + k)] (k + 1) g (iPo g k (ds k))
theorem ctI.of {G : GT} {y : MethodName} {R : Room} {cc : ByteArray} {nL : Nat} {fr : va_E} {ds : Nat → List va_E} (hy : plainName y.cls = true) (hle : 1 ≤ nL) (h : ∀ k g, sv_V G R y.cls y.name cc nL none (fun r c s n' f' => c = R.cells ∧ s = R.slots ∧ iPo g k (ds k) r n' f') 0 0 (k + 1) (hp g k [fr]) 0 [(0, .ref (gB G + k))] []) : ctI G y R cc nL fr ds :=
  fun k g hg => sv_Ct.of hy hle (sv_heap (fun j hj => hp_one hg j hj) (h k g))
section HC
variable {G : GT} {R : Room} {own nm : String} {cc : ByteArray} {nL : Nat} {rt : Option FieldType} {Post : Option Value → Nat → Nat → Nat → (Nat → va_E) → Prop} {cells slots : Nat} {f : Nat → va_E} {pc : Nat} {ls : List (Nat × Value)} {st : List Value} {k m : Nat} {es : List va_E}
theorem hc_es {es' : List va_E} (h : es = es') (kk : sv_V G R own nm cc nL rt Post cells slots (k + m) (hp f k es') pc ls st) : sv_V G R own nm cc nL rt Post cells slots (k + m) (hp f k es) pc ls st := h ▸ kk
theorem hc_new {ci i N : Nat} {C : String} {T : u_T} {fs : List Value} (hm : es.length = m) (hc : vwCl[ci]? = some (C, T, N)) (hin : ∀ w ∈ u_ws C T N, w ∈ gw) (ty0 : Nat → FieldType) (hty : ∀ k, k < N → parseFieldDescriptor (T k).2.2.1 = some (ty0 k)) (hcl : Cond.classLink own i C ∈ gw) (hinst : Cond.instantiable C N ∈ gw) (hini : Cond.initialized C ∈ gw) (hfs : ∀ j, j < N → defaultValue (ty0 j) = vp_V fs j) (hcells : cells + 1 ≤ R.cells) (hslots : slots + N ≤ R.slots) (d : decode cc pc = .ok (.new i, 3))
    (kk : sv_V G R own nm cc nL rt Post (cells + 1) (slots + N) (k + (m + 1)) (hp f k (es ++ [.inr (ci, fs)])) (pc + 3) ls (.ref (gB G + (k + m)) :: st)) : sv_V G R own nm cc nL rt Post cells slots (k + m) (hp f k es) pc ls st :=
  sv_new hc hin ty0 hty hcl hinst hini hfs hcells hslots d (sv_heap (fun j _ => hp_push hm j) kk)
theorem hc_newI {z : Int32} {len : Nat} (hm : es.length = m) (hz : ¬ z < 0) (hlen : z.toNatClampNeg = len) (hb4 : len * 4 ≤ 536870912) (hcells : cells + 1 ≤ R.cells) (hslots : slots + len ≤ R.slots) (d : decode cc pc = .ok (.newarray .int, 2))
    (kk : sv_V G R own nm cc nL rt Post (cells + 1) (slots + len) (k + (m + 1)) (hp f k (es ++ [.inl (G.2.2.1.1, len, .inl (fun _ => 0))])) (pc + 2) ls (.ref (gB G + (k + m)) :: st)) : sv_V G R own nm cc nL rt Post cells slots (k + m) (hp f k es) pc ls (.int z :: st) :=
  sv_newI ac_int hz hlen hb4 hcells hslots d (sv_heap (fun j _ => hp_push hm j) kk)
theorem hc_newZ {z : Int32} {len : Nat} (hm : es.length = m) (hw : Cond.arrayClass .boolean ∈ gw) (hz : ¬ z < 0) (hlen : z.toNatClampNeg = len) (hb4 : len * 1 ≤ 536870912) (hcells : cells + 1 ≤ R.cells) (hslots : slots + len ≤ R.slots) (d : decode cc pc = .ok (.newarray .boolean, 2))
    (kk : sv_V G R own nm cc nL rt Post (cells + 1) (slots + len) (k + (m + 1)) (hp f k (es ++ [.inl (G.2.2.1.2.1, len, .inl (fun _ => 0))])) (pc + 2) ls (.ref (gB G + (k + m)) :: st)) : sv_V G R own nm cc nL rt Post cells slots (k + m) (hp f k es) pc ls (.int z :: st) :=
  sv_newZ hw hz hlen hb4 hcells hslots d (sv_heap (fun j _ => hp_push hm j) kk)
theorem hc_newR {z : Int32} {len i : Nat} (hm : es.length = m) (hcl : Cond.classLink own i RX6 ∈ gw) (hz : ¬ z < 0) (hlen : z.toNatClampNeg = len) (hb4 : len * 4 ≤ 536870912) (hcells : cells + 1 ≤ R.cells) (hslots : slots + len ≤ R.slots) (d : decode cc pc = .ok (.anewarray i, 3))
    (kk : sv_V G R own nm cc nL rt Post (cells + 1) (slots + len) (k + (m + 1)) (hp f k (es ++ [.inl (G.2.2.1.2.2, len, .inr (.inr (.inr (.inr (fun _ => none)))))])) (pc + 3) ls (.ref (gB G + (k + m)) :: st)) : sv_V G R own nm cc nL rt Post cells slots (k + m) (hp f k es) pc ls (.int z :: st) :=
  sv_newR hcl hz hlen hb4 hcells hslots d (sv_heap (fun j _ => hp_push hm j) kk)
theorem hc_putF {ci i N : Nat} {C : String} {T : u_T} {fs : List Value} {v : Value} (i0 : Nat) (hm : es.length = m) (hi : es[i0]? = some (.inr (ci, fs))) (hc : vwCl[ci]? = some (C, T, N)) (hin : ∀ w ∈ u_ws C T N, w ∈ gw) (ty0 : Nat → FieldType) (hty : ∀ k, k < N → parseFieldDescriptor (T k).2.2.1 = some (ty0 k)) (hnm : ∀ a, a < N → ∀ b, b < N → a ≠ b → (T a).2.1 ≠ (T b).2.1) (j : Nat) (hj : j < N) (hlink : Cond.fieldLink own i (T j).1 (T j).2.1 (T j).2.2.1 ∈ gw) (hfin : (T j).2.2.2 = true) (hin2 : nm = "<init>") (hdecl : (T j).1 = own) (hn : narrow (ty0 j) v = v) (hfit : fits (ty0 j) v = true) (hlen : j < fs.length) (d : decode cc pc = .ok (.putfield i, 3))
    (kk : sv_V G R own nm cc nL rt Post cells slots (k + m) (hp f k (es.set i0 (.inr (ci, fs.set j v)))) (pc + 3) ls st) : sv_V G R own nm cc nL rt Post cells slots (k + m) (hp f k es) pc ls (v :: .ref (gB G + (k + i0)) :: st) :=
  sv_putF hc hin ty0 hty hnm j hj hlink hfin hin2 hdecl hn hfit (Nat.add_lt_add_left (hp_lt hm hi) k) (hp_at hi) hlen d (sv_heap (fun j _ => hp_up (by rw [hm]; exact hp_lt hm hi) j) kk)
theorem hc_put {ci i N : Nat} {C : String} {T : u_T} {fs : List Value} {v : Value} (i0 : Nat) (hm : es.length = m) (hi : es[i0]? = some (.inr (ci, fs))) (hc : vwCl[ci]? = some (C, T, N)) (hin : ∀ w ∈ u_ws C T N, w ∈ gw) (ty0 : Nat → FieldType) (hty : ∀ k, k < N → parseFieldDescriptor (T k).2.2.1 = some (ty0 k)) (hnm : ∀ a, a < N → ∀ b, b < N → a ≠ b → (T a).2.1 ≠ (T b).2.1) (j : Nat) (hj : j < N) (hlink : Cond.fieldLink own i (T j).1 (T j).2.1 (T j).2.2.1 ∈ gw) (hfin : (T j).2.2.2 = false) (hn : narrow (ty0 j) v = v) (hfit : fits (ty0 j) v = true) (hlen : j < fs.length) (d : decode cc pc = .ok (.putfield i, 3))
    (kk : sv_V G R own nm cc nL rt Post cells slots (k + m) (hp f k (es.set i0 (.inr (ci, fs.set j v)))) (pc + 3) ls st) : sv_V G R own nm cc nL rt Post cells slots (k + m) (hp f k es) pc ls (v :: .ref (gB G + (k + i0)) :: st) :=
  sv_put hc hin ty0 hty hnm j hj hlink hfin hn hfit (Nat.add_lt_add_left (hp_lt hm hi) k) (hp_at hi) hlen d (sv_heap (fun j _ => hp_up (by rw [hm]; exact hp_lt hm hi) j) kk)
theorem hc_get {ci i N : Nat} {C : String} {T : u_T} {fs : List Value} {v : Value} (i0 : Nat) (hm : es.length = m) (hi : es[i0]? = some (.inr (ci, fs))) (hc : vwCl[ci]? = some (C, T, N)) (hin : ∀ w ∈ u_ws C T N, w ∈ gw) (j : Nat) (hj : j < N) (hlink : Cond.fieldLink own i (T j).1 (T j).2.1 (T j).2.2.1 ∈ gw) (hv : fs[j]? = some v) (d : decode cc pc = .ok (.getfield i, 3)) (kk : sv_V G R own nm cc nL rt Post cells slots (k + m) (hp f k es) (pc + 3) ls (v :: st)) : sv_V G R own nm cc nL rt Post cells slots (k + m) (hp f k es) pc ls (.ref (gB G + (k + i0)) :: st) :=
  sv_get hc hin j hj hlink (Nat.add_lt_add_left (hp_lt hm hi) k) (hp_at hi) hv d kk
variable {y : MethodName} {R2 : Room} {cc2 : ByteArray} {nL2 i : Nat} {fr : va_E} {ds : Nat → List va_E} {rest : List Value}
theorem hc_callIN {host : String} (hm : es.length = m) (hC : ctI G y R2 cc2 nL2 fr ds) (hn : Cond.methodLinkNest own i y host ∈ lw_tbl) (hw : ∀ w ∈ [Cond.instanceMethod y, .initialized y.cls, .code y cc2 nL2 none], w ∈ gw) (hy : y.name = "<init>") (hd : sv_nm y 0) (hR : R2.frames + 1 ≤ R.frames ∧ 8 + (nL2 + 11) + R2.locals ≤ R.locals) (hcat : (rest.map fun v => v.category).sum ≤ 8) (d : decode cc pc = .ok (.invokespecial i, 3)) (hcs : cells + R2.cells ≤ R.cells ∧ slots + R2.slots ≤ R.slots)
    (kk : sv_V G R own nm cc nL rt Post (cells + R2.cells) (slots + R2.slots) (k + (m + (ds (k + m)).length)) (hp f k (es ++ ds (k + m))) (pc + 3) ls rest) : sv_V G R own nm cc nL rt Post cells slots (k + (m + 1)) (hp f k (es ++ [fr])) pc ls (.ref (gB G + (k + m)) :: rest) := by
  refine sv_callIN (As := []) (hC (k + m) (hp f k (es ++ [fr])) (hp_at (by rw [List.getElem?_append_right (by omega), hm, Nat.sub_self]; rfl))) hn hw hy hd hR rfl hcat d hcs ?_
  intro r n' f' hp'
  obtain ⟨rfl, rfl, hf⟩ := hp'
  refine sv_heap (g := hp f k (es ++ ds (k + m))) (fun j hj => by rw [hf j hj]; exact hp_app hm j) ?_
  rw [Nat.add_assoc]
  exact kk
theorem hc_callI (hm : es.length = m) (hC : ctI G y R2 cc2 nL2 fr ds) (hw : ∀ w ∈ [Cond.methodLink own i y, .instanceMethod y, .initialized y.cls, .code y cc2 nL2 none], w ∈ gw) (hy : y.name = "<init>") (hd : sv_nm y 0) (hR : R2.frames + 1 ≤ R.frames ∧ 8 + (nL2 + 11) + R2.locals ≤ R.locals) (hcat : (rest.map fun v => v.category).sum ≤ 8) (d : decode cc pc = .ok (.invokespecial i, 3)) (hcs : cells + R2.cells ≤ R.cells ∧ slots + R2.slots ≤ R.slots)
    (kk : sv_V G R own nm cc nL rt Post (cells + R2.cells) (slots + R2.slots) (k + (m + (ds (k + m)).length)) (hp f k (es ++ ds (k + m))) (pc + 3) ls rest) : sv_V G R own nm cc nL rt Post cells slots (k + (m + 1)) (hp f k (es ++ [fr])) pc ls (.ref (gB G + (k + m)) :: rest) := by
  refine sv_callI (As := []) (hC (k + m) (hp f k (es ++ [fr])) (hp_at (by rw [List.getElem?_append_right (by omega), hm, Nat.sub_self]; rfl))) hw hy hd hR rfl hcat d hcs ?_
  intro r n' f' hp'
  obtain ⟨rfl, rfl, hf⟩ := hp'
  refine sv_heap (g := hp f k (es ++ ds (k + m))) (fun j hj => by rw [hf j hj]; exact hp_app hm j) ?_
  rw [Nat.add_assoc]
  exact kk
end HC
theorem w3 {a b c : Cond} (h1 : a ∈ gw) (h2 : b ∈ gw) (h3 : c ∈ gw) : ∀ w ∈ [a, b, c], w ∈ gw := fun w h => by
  simp only [List.mem_cons, List.not_mem_nil, or_false] at h
  rcases h with rfl | rfl | rfl <;> assumption
theorem w4 {a b c d : Cond} (h1 : a ∈ gw) (h2 : b ∈ gw) (h3 : c ∈ gw) (h4 : d ∈ gw) : ∀ w ∈ [a, b, c, d], w ∈ gw := fun w h => by
  simp only [List.mem_cons, List.not_mem_nil, or_false] at h
  rcases h with rfl | rfl | rfl | rfl <;> assumption
theorem w5 {a b c d e : Cond} (h1 : a ∈ gw) (h2 : b ∈ gw) (h3 : c ∈ gw) (h4 : d ∈ gw) (h5 : e ∈ gw) : ∀ w ∈ [a, b, c, d, e], w ∈ gw := fun w h => by
  simp only [List.mem_cons, List.not_mem_nil, or_false] at h
  rcases h with rfl | rfl | rfl | rfl | rfl <;> assumption
