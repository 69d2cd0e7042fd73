section SVH
variable {G : GT} {R : Room} {own nm : String} {cc : ByteArray} {nL : Nat} {rt : Option FieldType} {Post : Option Value → Nat → Nat → Nat → (Nat → va_E) → Prop} {cells slots n : Nat} {f : Nat → va_E} {pc : Nat} {ls : List (Nat × Value)} {st : List Value}
/-- getfield -/
theorem sv_get {ci k i N : Nat} {C : String} {T : u_T} {fs : List Value} {v : Value} (hc : vwCl[ci]? = some (C, T, N)) (hin : ∀ w ∈ u_ws C T N, w ∈ gw) (j : Nat) (hj : j < N) (hlink : Cond.fieldLink own i (T j).1 (T j).2.1 (T j).2.2.1 ∈ gw) (hk : k < n) (hf : f k = .inr (ci, fs)) (hv : fs[j]? = some v) (d : decode cc pc = .ok (.getfield i, 3)) (kk : sv_V G R own nm cc nL rt Post cells slots n f (pc + 3) ls (v :: st)) : sv_V G R own nm cc nL rt Post cells slots n f pc ls (.ref (gB G + k) :: st) :=
  fun p e s m args below meth c Q C0 H locs ls0 hP hS hl => va_get C0.1 C0.2.1 C0.2.2.2.2.1 hin C0.2.2.2.1 C0.2.2.2.2.2.1.1 (hP.one hk hf) 0 rfl hc j hj (C0.2.2.2.2.1 _ hlink) (fun _ h => h) hv d (kk p e s m args below meth c Q C0 H locs ls0 hP hS hl)
/-- putfield of a field that isn't final -/
theorem sv_put {ci k i N : Nat} {C : String} {T : u_T} {fs : List Value} {v : Value} (hc : vwCl[ci]? = some (C, T, N)) (hin : ∀ w ∈ u_ws C T N, w ∈ gw) (ty0 : Nat → FieldType) (hty : ∀ k, k < N → parseFieldDescriptor (T k).2.2.1 = some (ty0 k)) (hnm : ∀ a, a < N → ∀ b, b < N → a ≠ b → (T a).2.1 ≠ (T b).2.1) (j : Nat) (hj : j < N) (hlink : Cond.fieldLink own i (T j).1 (T j).2.1 (T j).2.2.1 ∈ gw) (hfin : (T j).2.2.2 = false) (hn : narrow (ty0 j) v = v) (hfit : fits (ty0 j) v = true) (hk : k < n) (hf : f k = .inr (ci, fs)) (hlen : j < fs.length) (d : decode cc pc = .ok (.putfield i, 3))
    (kk : sv_V G R own nm cc nL rt Post cells slots n (va_up f k (.inr (ci, fs.set j v))) (pc + 3) ls st) : sv_V G R own nm cc nL rt Post cells slots n f pc ls (v :: .ref (gB G + k) :: st) := by
  intro p e s m args below meth c Q C0 H locs ls0 hP hS hl
  obtain ⟨hx, hb, hml, hown, hts, hK, hb0, hnm', hret⟩ := id C0
  have hap := va_apart (own := own) hts hin ty0 hty hnm hK.1 hc
  have hat := hP.2 k hk
  rw [hf] at hat
  obtain ⟨r, h1, cell, q1, q2, q3, q4⟩ := hat
  have hr : r = (C, T, N) := Option.some.inj (h1.symm.trans hc)
  subst hr
  obtain ⟨hSl, hfc, kC, hkC, hkind⟩ := hK.1.1 ci _ hc
  obtain ⟨cf, kf, fi, fd, hi, hsl⟩ := hSl j hj
  have hlay := hts _ (hin _ (u_in_lay hj))
  unfold u_lay at hlay
  rw [if_neg (by rw [hfin]; decide)] at hlay
  have hst := (u_facts hfc hkC (u_lays hts hin hj) hi).1
  have h6 := u_store hfc hkC hkind hlay hi (hty j hj) hn hfit
  refine W.putK hx hb (f := fd) ⟨hown, hts _ hlink, ⟨_, _, _, hi⟩, hst⟩ (by rw [q2]; exact h6) q1 q3 (by rw [hsl]; exact k2_hasslot (q4 j hj)) rfl rfl d fun H' e1 e2 e3 => ?_
  rw [hsl] at e1 ⊢
  exact kk p e s m args below meth c Q C0 H' _ ls0 (hP.set hk ⟨_, hc, t_OB.to (V := updV (vp_V fs) j v) ⟨_, e1, q2, q3, t_set q4 hap hj v⟩ (fun j' _ => vp_updV_set hlen v j')⟩ e2 e3) (hS.put e2 e3 (Nat.le_add_right _ _)) hl
/-- putfield of a final field, in its class's constructor -/
theorem sv_putF {ci k i N : Nat} {C : String} {T : u_T} {fs : List Value} {v : Value} (hc : vwCl[ci]? = some (C, T, N)) (hin : ∀ w ∈ u_ws C T N, w ∈ gw) (ty0 : Nat → FieldType) (hty : ∀ k, k < N → parseFieldDescriptor (T k).2.2.1 = some (ty0 k)) (hnm : ∀ a, a < N → ∀ b, b < N → a ≠ b → (T a).2.1 ≠ (T b).2.1) (j : Nat) (hj : j < N) (hlink : Cond.fieldLink own i (T j).1 (T j).2.1 (T j).2.2.1 ∈ gw) (hfin : (T j).2.2.2 = true) (hin2 : nm = "<init>") (hdecl : (T j).1 = own) (hn : narrow (ty0 j) v = v) (hfit : fits (ty0 j) v = true) (hk : k < n) (hf : f k = .inr (ci, fs)) (hlen : j < fs.length) (d : decode cc pc = .ok (.putfield i, 3))
    (kk : sv_V G R own nm cc nL rt Post cells slots n (va_up f k (.inr (ci, fs.set j v))) (pc + 3) ls st) : sv_V G R own nm cc nL rt Post cells slots n f pc ls (v :: .ref (gB G + k) :: st) := by
  intro p e s m args below meth c Q C0 H locs ls0 hP hS hl
  obtain ⟨hx, hb, hml, hown, hts, hK, hb0, hnm', hret⟩ := id C0
  have hap := va_apart (own := own) hts hin ty0 hty hnm hK.1 hc
  have hat := hP.2 k hk
  rw [hf] at hat
  obtain ⟨r, h1, cell, q1, q2, q3, q4⟩ := hat
  have hr : r = (C, T, N) := Option.some.inj (h1.symm.trans hc)
  subst hr
  obtain ⟨hSl, hfc, kC, hkC, hkind⟩ := hK.1.1 ci _ hc
  obtain ⟨cf, kf, fi, fd, hi, hsl⟩ := hSl j hj
  have hlay := hts _ (hin _ (u_in_lay hj))
  unfold u_lay at hlay
  rw [if_pos hfin] at hlay
  have hst := (u_facts hfc hkC (u_lays hts hin hj) hi).1
  have hcf : m.cls = cf := by
    obtain ⟨_, _, c', _, _, _, -, -, hf', -, -, -, hown2, -⟩ := Cond.laysFinal_spec hlay
    have e1 : c' = cf := by have := hi.symm.trans hf'; simp at this; exact this.1.symm
    rw [hdecl] at hown2
    rw [← e1]; exact Option.some.inj (hown.symm.trans hown2)
  have h6 := u_fits hfc hkC hkind (Or.inr hlay) hi (hty j hj) hn hfit
  refine W.putFinK hx hb hown (hts _ hlink) hi hst hcf (hnm'.trans hin2) (by rw [q2]; exact h6) q1 q3 (by rw [hsl]; exact k2_hasslot (q4 j hj)) rfl rfl d fun H' e1 e2 e3 => ?_
  rw [hsl] at e1 ⊢
  exact kk p e s m args below meth c Q C0 H' _ ls0 (hP.set hk ⟨_, hc, t_OB.to (V := updV (vp_V fs) j v) ⟨_, e1, q2, q3, t_set q4 hap hj v⟩ (fun j' _ => vp_updV_set hlen v j')⟩ e2 e3) (hS.put e2 e3 (Nat.le_add_right _ _)) hl
theorem sv_iald {k len : Nat} {g : Nat → Int32} {i : Int32} (hk : k < n) (hf : f k = .inl (G.2.2.1.1, len, .inl g)) (hin : vp_in i len) (d : decode cc pc = .ok (.iaload, 1)) (kk : sv_V G R own nm cc nL rt Post cells slots n f (pc + 1) ls (.int (g i.toNatClampNeg) :: st)) : sv_V G R own nm cc nL rt Post cells slots n f pc ls (.int i :: .ref (gB G + k) :: st) :=
  fun p e s m args below meth c Q C0 H locs ls0 hP hS hl => va_iald C0.1 C0.2.1 C0.2.2.2.2.2.1.1 (hP.one hk hf) 0 0 rfl rfl hin d (kk p e s m args below meth c Q C0 H locs ls0 hP hS hl)
theorem sv_zald {k len : Nat} {g : Nat → Int32} {i : Int32} (hk : k < n) (hf : f k = .inl (G.2.2.1.2.1, len, .inl g)) (hin : vp_in i len) (d : decode cc pc = .ok (.baload, 1)) (kk : sv_V G R own nm cc nL rt Post cells slots n f (pc + 1) ls (.int (g i.toNatClampNeg) :: st)) : sv_V G R own nm cc nL rt Post cells slots n f pc ls (.int i :: .ref (gB G + k) :: st) :=
  fun p e s m args below meth c Q C0 H locs ls0 hP hS hl => va_zald C0.1 C0.2.1 C0.2.2.2.2.2.1.1 (hP.one hk hf) 0 1 rfl rfl hin d (kk p e s m args below meth c Q C0 H locs ls0 hP hS hl)
theorem sv_aald {k len a : Nat} {g : Nat → Option Nat} {i : Int32} (hk : k < n) (hf : f k = .inl (G.2.2.1.2.2, len, .inr (.inr (.inr (.inr g))))) (hin : vp_in i len) (hg : g i.toNatClampNeg = some a) (d : decode cc pc = .ok (.aaload, 1)) (kk : sv_V G R own nm cc nL rt Post cells slots n f (pc + 1) ls (.ref a :: st)) : sv_V G R own nm cc nL rt Post cells slots n f pc ls (.int i :: .ref (gB G + k) :: st) :=
  fun p e s m args below meth c Q C0 H locs ls0 hP hS hl => va_aldq C0.1 C0.2.1 C0.2.2.2.2.2.1.1 (hP.one hk hf) 0 2 rfl rfl hin d (by rw [hg]; exact kk p e s m args below meth c Q C0 H locs ls0 hP hS hl)
theorem sv_iast {k len : Nat} {g : Nat → Int32} {i x : Int32} (hk : k < n) (hf : f k = .inl (G.2.2.1.1, len, .inl g)) (hin : vp_in i len) (d : decode cc pc = .ok (.iastore, 1)) (kk : sv_V G R own nm cc nL rt Post cells slots n (va_up f k (.inl (G.2.2.1.1, len, .inl (upd g i.toNatClampNeg x)))) (pc + 1) ls st) : sv_V G R own nm cc nL rt Post cells slots n f pc ls (.int x :: .int i :: .ref (gB G + k) :: st) := by
  intro p e s m args below meth c Q C0 H locs ls0 hP hS hl
  have hat := hP.2 k hk
  rw [hf] at hat
  refine W.iast C0.1 C0.2.1 hat ((C0.2.2.2.2.2.1.1.2 0 _ rfl).1 len (fun j => .int (g j))) (fun q => by cases q) (by show ¬ (i < 0 ∨ (arrV _ _ _).slots.size ≤ _); rw [arrV_size]; exact hin) rfl rfl d fun H1 e1 z oq => ?_
  refine kk p e s m args below meth c Q C0 H1 _ ls0 (hP.set hk ?_ z oq) (hS.put z oq (Nat.le_add_right _ _)) hl
  show H1[gB G + k]? = some (vp_cell _ _)
  rw [e1, vp_cell_i, arrV_store, vp_cell_i]
  congr 2
  funext q
  by_cases hq : q = i.toNatClampNeg
  · subst hq
    simp [updV, upd]
  · simp [updV, upd, hq]
theorem sv_zast {k len : Nat} {g : Nat → Int32} {i x : Int32} (hk : k < n) (hf : f k = .inl (G.2.2.1.2.1, len, .inl g)) (hin : vp_in i len) (d : decode cc pc = .ok (.bastore, 1)) (kk : sv_V G R own nm cc nL rt Post cells slots n (va_up f k (.inl (G.2.2.1.2.1, len, .inl (upd g i.toNatClampNeg (vp_nar .boolean x))))) (pc + 1) ls st) : sv_V G R own nm cc nL rt Post cells slots n f pc ls (.int x :: .int i :: .ref (gB G + k) :: st) := by
  intro p e s m args below meth c Q C0 H locs ls0 hP hS hl
  have hat := hP.2 k hk
  rw [hf] at hat
  refine W.zast C0.1 C0.2.1 hat ((C0.2.2.2.2.2.1.1.2 1 _ rfl).1 len (fun j => .int (g j))) (fun q => by cases q) (by show ¬ (i < 0 ∨ (arrV _ _ _).slots.size ≤ _); rw [arrV_size]; exact hin) rfl rfl d fun H1 e1 z oq => ?_
  refine kk p e s m args below meth c Q C0 H1 _ ls0 (hP.set hk ?_ z oq) (hS.put z oq (Nat.le_add_right _ _)) hl
  show H1[gB G + k]? = some (vp_cell _ _)
  rw [e1, vp_cell_i, arrV_store, vp_cell_i]
  congr 2
  funext q
  by_cases hq : q = i.toNatClampNeg
  · subst hq
    simp [updV, upd, vp_nar]
    try rfl
  · simp [updV, upd, hq]
theorem sv_aast {k k2 len : Nat} {vs : List Value} {g : Nat → Option Nat} {i : Int32} (hk : k < n) (hf : f k = .inl (G.2.2.1.2.2, len, .inr (.inr (.inr (.inr g))))) (hk2 : k2 < n) (hf2 : f k2 = .inr (6, vs)) (hin : vp_in i len) (d : decode cc pc = .ok (.aastore, 1)) (kk : sv_V G R own nm cc nL rt Post cells slots n (va_up f k (.inl (G.2.2.1.2.2, len, .inr (.inr (.inr (.inr (va_up g i.toNatClampNeg (some (gB G + k2)))))))))  (pc + 1) ls st) : sv_V G R own nm cc nL rt Post cells slots n f pc ls (.ref (gB G + k2) :: .int i :: .ref (gB G + k) :: st) := by
  intro p e s m args below meth c Q C0 H locs ls0 hP hS hl
  have hat := hP.2 k hk
  rw [hf] at hat
  have hat2 := hP.2 k2 hk2
  rw [hf2] at hat2
  have hK := C0.2.2.2.2.2.1.1
  have hlt : i.toNatClampNeg < len := Nat.not_le.mp fun q => hin (Or.inr q)
  have h0 : ¬ i < 0 := fun q => hin (Or.inl q)
  obtain ⟨r', hr', cellV, g1, g2, g3, -⟩ := hat2
  have hcls := (hK.1 6 (RX6, TX6, 7) rfl).2
  obtain ⟨kA, comp, k1, kk2, k3, -⟩ := (hK.2 2 _ rfl).2
  have hcomp : comp = G.2.1.1 6 := Option.some.inj (k3.symm.trans hcls.1)
  subst hcomp
  obtain ⟨kC, hkC, -⟩ := hcls.2
  refine W.aast C0.1 C0.2.1 hat (fun q h => by cases h) (fun h => by cases h) k1 kk2 rfl hkC ⟨h0, by show _ < (arrV _ _ _).slots.size; rw [arrV_size]; exact hlt⟩ g1 (fun q h => by rw [g3] at h; cases h) (by rw [g2]; exact hkC) (by rw [g2]; exact va_assign hcls) rfl rfl d fun H1 e1 z oq => ?_
  refine kk p e s m args below meth c Q C0 H1 _ ls0 (hP.set hk ?_ z oq) (hS.put z oq (Nat.le_add_right _ _)) hl
  show H1[gB G + k]? = some (vp_cell _ _)
  rw [e1, vp_cell_q, arrV_store, vp_cell_q]
  congr 2
  funext q
  by_cases hq : q = i.toNatClampNeg
  · subst hq
    simp [updV, va_up, va_rf]
  · simp [updV, va_up, hq]
/-- new -/
theorem sv_new {ci i N : Nat} {C : String} {T : u_T} {fs : List Value} (hc : vwCl[ci]? = some (C, T, N)) (hin : ∀ w ∈ u_ws C T N, w ∈ gw) (ty0 : Nat → FieldType) (hty : ∀ k, k < N → parseFieldDescriptor (T k).2.2.1 = some (ty0 k)) (hcl : Cond.classLink own i C ∈ gw) (hinst : Cond.instantiable C N ∈ gw) (hini : Cond.initialized C ∈ gw) (hfs : ∀ j, j < N → defaultValue (ty0 j) = vp_V fs j) (hcells : cells + 1 ≤ R.cells) (hslots : slots + N ≤ R.slots) (d : decode cc pc = .ok (.new i, 3))
    (kk : sv_V G R own nm cc nL rt Post (cells + 1) (slots + N) (n + 1) (va_up f n (.inr (ci, fs))) (pc + 3) ls (.ref (gB G + n) :: st)) : sv_V G R own nm cc nL rt Post cells slots n f pc ls st := by
  intro p e s m args below meth c Q C0 H locs ls0 hP hS hl
  obtain ⟨hx, hb, hml, hown, hts, hK, hb0, hnm', hret⟩ := id C0
  have hKn := hK.1.1 ci _ hc
  refine W.newcK hx hb hown (hts _ hcl) (hts _ hinst) (hts _ hini) rfl d hcells hslots hKn.2.1 rfl fun H1 kC hkC e1 z1 o1 => ?_
  rw [hP.1] at e1 ⊢
  refine kk p e s m args below meth c Q C0 H1 locs ls0 (hP.push ⟨_, hc, (u_born ty0 hts hin hKn hkC e1 hty).to hfs⟩ z1 o1) ⟨Nat.le_trans hS.1 (by omega), fun x h1 h2 => (o1 x (Nat.lt_of_lt_of_le h1 hS.1)).trans (hS.2.1 x h1 h2), hS.2.2⟩ hl
theorem sv_newI {z : Int32} {len : Nat} (hw : Cond.arrayClass .int ∈ gw) (hz : ¬ z < 0) (hlen : z.toNatClampNeg = len) (hb4 : len * 4 ≤ 536870912) (hcells : cells + 1 ≤ R.cells) (hslots : slots + len ≤ R.slots) (d : decode cc pc = .ok (.newarray .int, 2))
    (kk : sv_V G R own nm cc nL rt Post (cells + 1) (slots + len) (n + 1) (va_up f n (.inl (G.2.2.1.1, len, .inl (fun _ => 0)))) (pc + 2) ls (.ref (gB G + n) :: st)) : sv_V G R own nm cc nL rt Post cells slots n f pc ls (.int z :: st) := by
  intro p e s m args below meth c Q C0 H locs ls0 hP hS hl
  obtain ⟨hx, hb, hml, hown, hts, hK, hb0, hnm', hret⟩ := id C0
  refine va_newaK (atype := .int) hx hb (hts _ hw) rfl d rfl hz hlen hb4 hcells hslots rfl fun H1 cA e1 z1 o1 hAr hNm => ?_
  have hcA : cA = G.2.2.1.1 := Option.some.inj (hNm.symm.trans (hK.1.2 0 _ rfl).2)
  subst hcA
  rw [hP.1] at e1 ⊢
  exact kk p e s m args below meth c Q C0 H1 locs ls0 (hP.push e1 (by rw [z1]) o1) ⟨Nat.le_trans hS.1 (by omega), fun x h1 h2 => (o1 x (Nat.lt_of_lt_of_le h1 hS.1)).trans (hS.2.1 x h1 h2), hS.2.2⟩ hl
theorem sv_newZ {z : Int32} {len : Nat} (hw : Cond.arrayClass .boolean ∈ gw) (hz : ¬ z < 0) (hlen : z.toNatClampNeg = len) (hb4 : len * 1 ≤ 536870912) (hcells : cells + 1 ≤ R.cells) (hslots : slots + len ≤ R.slots) (d : decode cc pc = .ok (.newarray .boolean, 2))
    (kk : sv_V G R own nm cc nL rt Post (cells + 1) (slots + len) (n + 1) (va_up f n (.inl (G.2.2.1.2.1, len, .inl (fun _ => 0)))) (pc + 2) ls (.ref (gB G + n) :: st)) : sv_V G R own nm cc nL rt Post cells slots n f pc ls (.int z :: st) := by
  intro p e s m args below meth c Q C0 H locs ls0 hP hS hl
  obtain ⟨hx, hb, hml, hown, hts, hK, hb0, hnm', hret⟩ := id C0
  refine va_newaK (atype := .boolean) hx hb (hts _ hw) rfl d rfl hz hlen hb4 hcells hslots rfl fun H1 cA e1 z1 o1 hAr hNm => ?_
  have hcA : cA = G.2.2.1.2.1 := Option.some.inj (hNm.symm.trans (hK.1.2 1 _ rfl).2)
  subst hcA
  rw [hP.1] at e1 ⊢
  exact kk p e s m args below meth c Q C0 H1 locs ls0 (hP.push e1 (by rw [z1]) o1) ⟨Nat.le_trans hS.1 (by omega), fun x h1 h2 => (o1 x (Nat.lt_of_lt_of_le h1 hS.1)).trans (hS.2.1 x h1 h2), hS.2.2⟩ hl
theorem sv_newR {z : Int32} {len i : Nat} (hcl : Cond.classLink own i RX6 ∈ gw) (hz : ¬ z < 0) (hlen : z.toNatClampNeg = len) (hb4 : len * 4 ≤ 536870912) (hcells : cells + 1 ≤ R.cells) (hslots : slots + len ≤ R.slots) (d : decode cc pc = .ok (.anewarray i, 3))
    (kk : sv_V G R own nm cc nL rt Post (cells + 1) (slots + len) (n + 1) (va_up f n (.inl (G.2.2.1.2.2, len, .inr (.inr (.inr (.inr (fun _ => none))))))) (pc + 3) ls (.ref (gB G + n) :: st)) : sv_V G R own nm cc nL rt Post cells slots n f pc ls (.int z :: st) := by
  intro p e s m args below meth c Q C0 H locs ls0 hP hS hl
  obtain ⟨hx, hb, hml, hown, hts, hK, hb0, hnm', hret⟩ := id C0
  subst hlen
  refine W.anew hx hb hown (hts _ hcl) (va_AO.use hK.2.2.1) rfl d rfl hz hb4 hcells hslots fun cA kA comp f1 f2 f3 f4 => ?_
  have hcA : cA = G.2.2.1.2.2 := by
    obtain ⟨_, _, _, _, _, h4⟩ := (hK.1.2 2 _ rfl).2
    exact Option.some.inj (f1.symm.trans h4)
  subst hcA
  generalize hH1 : H.push ({ cls := G.2.2.1.2.2, slots := Array.replicate z.toNatClampNeg .null, vm := .none } : Cell) = H1
  have z1 : H1.size = H.size + 1 := by rw [← hH1, Array.size_push]
  have e1 : H1[H.size]? = some (arrV G.2.2.1.2.2 z.toNatClampNeg (fun _ => .null)) := by rw [← hH1, Array.getElem?_push_size, ← arrV_new]
  have o1 : ∀ q : Nat, q < H.size → H1[q]? = H[q]? := fun q hq => by rw [← hH1, Array.getElem?_push, if_neg (Nat.ne_of_lt hq)]
  rw [hP.1] at e1 ⊢
  exact kk p e s m args below meth c Q C0 H1 locs ls0 (hP.push e1 z1 o1) ⟨Nat.le_trans hS.1 (by omega), fun x h1 h2 => (o1 x (Nat.lt_of_lt_of_le h1 hS.1)).trans (hS.2.1 x h1 h2), hS.2.2⟩ hl
/-- Object.<init> -/
theorem sv_objInit {i a : Nat} (h1 : Cond.methodLink own i Lib.objectInit ∈ gw) (h2 : Cond.instanceMethod Lib.objectInit ∈ gw) (h3 : Cond.code Lib.objectInit ⟨#[0xb1]⟩ 1 none ∈ gw) (hfr : 1 ≤ R.frames) (hlo : (st.map fun v => v.category).sum + 12 ≤ R.locals) (d : decode cc pc = .ok (.invokespecial i, 3)) (kk : sv_V G R own nm cc nL rt Post cells slots n f (pc + 3) ls st) : sv_V G R own nm cc nL rt Post cells slots n f pc ls (.ref a :: st) := by
  intro p e s m args below meth c Q C0 H locs ls0 hP hS hl
  obtain ⟨hx, hb, hml, hown, hts, hK, hb0, hnm', hret⟩ := id C0
  refine W.objInit hx hb hown (hts _ h1) (hts _ h2) (hts _ h3) rfl (by rw [hml]; exact hl.1) rfl d hfr (by show 2 * 0 + _ + 12 ≤ _; omega) ?_
  exact kk p e s m args below meth c Q C0 H locs ls0 hP hS hl
/-- System.arraycopy of int rows -/
theorem sv_copy {k0 k1 len0 len1 i : Nat} {g0 g1 : Nat → Int32} {sp dp z : Int32} (w1 : Cond.methodLink own i arraycopyName ∈ gw) (w2 : Cond.native arraycopyName ∈ gw) (w3 : Cond.static arraycopyName ∈ gw) (w4 : Cond.initialized "java/lang/System" ∈ gw) (hk0 : k0 < n) (hk1 : k1 < n) (hf0 : f k0 = .inl (G.2.2.1.1, len0, .inl g0)) (hf1 : f k1 = .inl (G.2.2.1.1, len1, .inl g1)) (h1 : ¬ sp < 0) (h2 : ¬ dp < 0) (h3 : ¬ z < 0) (h4 : sp.toNatClampNeg + z.toNatClampNeg ≤ len0) (h5 : dp.toNatClampNeg + z.toNatClampNeg ≤ len1) (hfr : 1 ≤ R.frames) (hlo : (st.map fun v => v.category).sum + (nativeFrameWords "java/lang/System" "arraycopy" 5 + 11) ≤ R.locals) (d : decode cc pc = .ok (.invokestatic i, 3))
    (kk : sv_V G R own nm cc nL rt Post cells slots n (va_up f k1 (.inl (G.2.2.1.1, len1, .inl (va_cpy g0 g1 sp.toNatClampNeg dp.toNatClampNeg z.toNatClampNeg)))) (pc + 3) ls st) : sv_V G R own nm cc nL rt Post cells slots n f pc ls (.int z :: .int dp :: .ref (gB G + k1) :: .int sp :: .ref (gB G + k0) :: st) := by
  intro p e s m args below meth c Q C0 H locs ls0 hP hS hl
  obtain ⟨hx, hb, hml, hown, hts, hK, hb0, hnm', hret⟩ := id C0
  have nn : ∀ z : Int32, ¬ z < 0 → z.toInt = (z.toNatClampNeg : Int) := by
    intro z hz
    have hz0 : (0 : Int) ≤ z.toInt := by
      have := Int32.not_lt.mp hz
      simpa using Int32.le_iff_toInt_le.mp this
    show z.toInt = ((z.toInt.toNat : Nat) : Int)
    omega
  have hc0 := hP.2 k0 hk0
  rw [hf0] at hc0
  have hc1 := hP.2 k1 hk1
  rw [hf1] at hc1
  intro T hT X
  obtain ⟨-, kc0, hkc0, cm0, hkk0⟩ := (hK.1.2 0 _ rfl).1 len0 (fun j => .int (g0 j))
  obtain ⟨-, kc1, hkc1, cm1, hkk1⟩ := (hK.1.2 0 _ rfl).1 len1 (fun j => .int (g1 j))
  obtain ⟨vm', X', step⟩ := X.arraycopy hx hown (hts _ w1) (hts _ w2) (hts _ w3) (hts _ w4) (src := gB G + k0) (dst := gB G + k1) (cs := vp_cell G.2.2.1.1 (len0, .inl g0)) (cd := vp_cell G.2.2.1.1 (len1, .inl g1)) (srcPos := sp) (destPos := dp) (n := z) (by rw [hT]; exact hc0) (by rw [hT]; exact hc1)
    (fun _ h => by cases h) (fun _ h => by cases h) (fun h => by cases h) (fun h => by cases h) hkc0 hkc1 hkk0 hkk1 rfl h1 h2 h3
    (by rw [nn sp h1, nn z h3]; show ¬ _ > ((arrV _ len0 (fun j => .int (g0 j))).slots.size : Int); rw [arrV_size]; omega)
    (by rw [nn dp h2, nn z h3]; show ¬ _ > ((arrV _ len1 (fun j => .int (g1 j))).slots.size : Int); rw [arrV_size]; omega)
    (fun vm₁ _ i hi => by
      have e : (vp_cell G.2.2.1.1 (len0, .inl g0)).slots.getD (sp.toNatClampNeg + i) .null = .int (g0 (sp.toNatClampNeg + i)) := by
        show (arrV _ len0 (fun j => .int (g0 j))).slots.getD _ _ = _
        rw [Array.getD_eq_getD_getElem?, arrV_read _ _ (by omega)]
        rfl
      refine ⟨?_, ?_⟩
      · rw [e]; rfl
      · rw [e]
        exact trivial)
    (g := F0 m pc ls0 (.int z :: .int dp :: .ref (gB G + k1) :: .int sp :: .ref (gB G + k0) :: st)) rfl (by rw [hml]; exact hl.1) (rest := st) rfl (by rw [hb]; exact d) hfr (by show 2 * 0 + _ + _ ≤ _; omega)
  have e1 : copied (vp_cell G.2.2.1.1 (len0, .inl g0)) (vp_cell G.2.2.1.1 (len1, .inl g1)) sp dp z = vp_cell G.2.2.1.1 (len1, .inl (va_cpy g0 g1 sp.toNatClampNeg dp.toNatClampNeg z.toNatClampNeg)) := va_copied (fun z => .int z) _ _ g0 g1 h4
  rw [e1] at X' step
  have hlt : gB G + k1 < H.size := (Array.getElem?_eq_some_iff.mp hc1).1
  have hheap : ((T.setVm vm').setCell (gB G + k1) (vp_cell G.2.2.1.1 (len1, .inl (va_cpy g0 g1 sp.toNatClampNeg dp.toNatClampNeg z.toNatClampNeg)))).heap = H.setIfInBounds (gB G + k1) (vp_cell G.2.2.1.1 (len1, .inl (va_cpy g0 g1 sp.toNatClampNeg dp.toNatClampNeg z.toNatClampNeg))) := by rw [← hT]; rfl
  have oq : ∀ q : Nat, q ≠ gB G + k1 → (H.setIfInBounds (gB G + k1) (vp_cell G.2.2.1.1 (len1, .inl (va_cpy g0 g1 sp.toNatClampNeg dp.toNatClampNeg z.toNatClampNeg))))[q]? = H[q]? := fun q hq => by simp [Array.getElem?_setIfInBounds, Ne.symm hq]
  obtain ⟨t, a1, b1⟩ := kk p e s m args below meth c Q C0 _ _ ls0 (hP.set hk1 (show (H.setIfInBounds (gB G + k1) _)[gB G + k1]? = some _ by simp [Array.getElem?_setIfInBounds, hlt]) (by simp) oq) ⟨by simp; exact hS.1, fun q g1 g2 => by
      rw [oq q (fun e => g2 (by rw [e]; exact Nat.le_add_right _ _))]
      exact hS.2.1 q g1 g2, fun q hq => by
      rcases List.mem_append.mp hq with h | h
      · exact hS.2.2 q h
      · obtain ⟨z, -, hz⟩ := List.mem_map.mp h
        rw [← hz]
        exact Nat.le_add_right _ _⟩ hl _ hheap X'
  exact ⟨t, step t a1, b1⟩
end SVH
