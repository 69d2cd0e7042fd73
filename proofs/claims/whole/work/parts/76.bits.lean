/-- the counting of bits, on plain numbers -/
def bcA (w : Nat) : Nat := w - ((w / 2) &&& 1431655765)
def bcB (a : Nat) : Nat := (a &&& 858993459) + ((a / 4) &&& 858993459)
def bcC (b : Nat) : Nat := (b + b / 16) &&& 252645135
def bcN (w : Nat) : Nat := let c := bcC (bcB (bcA w)); let d := c + c / 256; (d + d / 65536) &&& 63
theorem nI_sb {a b : Nat} (h : b ≤ a) : nI a - nI b = nI (a - b) := nI_sub h
theorem bcF_N {w : Nat} (hw : w < 65536) : bcF (nI w) = nI (bcN w) := by
  unfold bcF bcN
  have h1 : bcA w < 65536 := by unfold bcA; omega
  have e1 : nI w - (((nI w).toUInt32 >>> ((1 : Int32).toUInt32 &&& Int32.toUInt32 31)).toInt32 &&& 1431655765) = nI (bcA w) := by
    rw [pk_ushrN (by omega) 1 1 (by decide), show (1431655765 : Int32) = nI 1431655765 from rfl, fa_and, nI_sub (Nat.le_trans Nat.and_le_left (by omega))]
    rfl
  have h2 : bcB (bcA w) < 131072 := by
    unfold bcB
    have a1 : bcA w &&& 858993459 ≤ bcA w := Nat.and_le_left
    have a2 : bcA w / 4 &&& 858993459 ≤ bcA w / 4 := Nat.and_le_left
    omega
  have e2 : (nI (bcA w) &&& 858993459) + (((nI (bcA w)).toUInt32 >>> ((2 : Int32).toUInt32 &&& Int32.toUInt32 31)).toInt32 &&& 858993459) = nI (bcB (bcA w)) := by
    rw [pk_ushrN (by omega) 2 2 (by decide), show (858993459 : Int32) = nI 858993459 from rfl, fa_and, fa_and, nI_add]
    rfl
  have h3 : bcC (bcB (bcA w)) < 262144 := by
    unfold bcC
    have a1 : (bcB (bcA w) + bcB (bcA w) / 16) &&& 252645135 ≤ bcB (bcA w) + bcB (bcA w) / 16 := Nat.and_le_left
    omega
  have e3 : (nI (bcB (bcA w)) + ((nI (bcB (bcA w))).toUInt32 >>> ((4 : Int32).toUInt32 &&& Int32.toUInt32 31)).toInt32) &&& 252645135 = nI (bcC (bcB (bcA w))) := by
    rw [pk_ushrN (by omega) 4 4 (by decide), nI_add, show (252645135 : Int32) = nI 252645135 from rfl, fa_and]
    rfl
  have e4 : ∀ c, c < 262144 → nI c + ((nI c).toUInt32 >>> ((8 : Int32).toUInt32 &&& Int32.toUInt32 31)).toInt32 = nI (c + c / 256) := fun c hc => by
    rw [pk_ushrN (by omega) 8 8 (by decide), nI_add]
  have e5 : ∀ c, c < 524288 → (nI c + ((nI c).toUInt32 >>> ((16 : Int32).toUInt32 &&& Int32.toUInt32 31)).toInt32) &&& 63 = nI ((c + c / 65536) &&& 63) := fun c hc => by
    rw [pk_ushrN (by omega) 16 16 (by decide), nI_add, show (63 : Int32) = nI 63 from rfl, fa_and]
  simp only [e1, e2, e3]
  rw [e4 _ h3, e5 _ (by omega)]
def pcN (w : Nat) : Nat := w % 2 + w / 2 % 2 + w / 4 % 2 + w / 8 % 2 + w / 16 % 2 + w / 32 % 2 + w / 64 % 2 + w / 128 % 2 + w / 256 % 2 + w / 512 % 2 + w / 1024 % 2 + w / 2048 % 2 + w / 4096 % 2 + w / 8192 % 2 + w / 16384 % 2 + w / 32768 % 2
def pcOK (h : Nat) : Nat → Bool
  | 0 => true
  | l + 1 => pcOK h l && Nat.beq (bcN (256 * h + l)) (pcN (256 * h + l))
def pcAll : Nat → Bool
  | 0 => true
  | h + 1 => pcAll h && pcOK h 256
theorem pc_all : pcAll 256 = true := by decide +kernel
theorem pcOK_at (h : Nat) : ∀ (m l : Nat), pcOK h m = true → l < m → bcN (256 * h + l) = pcN (256 * h + l)
  | 0, _, _, hl => absurd hl (by omega)
  | m + 1, l, hp, hl => by
    rw [pcOK, Bool.and_eq_true] at hp
    by_cases z : l = m
    · rw [z]; exact Nat.eq_of_beq_eq_true hp.2
    · exact pcOK_at h m l hp.1 (by omega)
theorem pcAll_at : ∀ (m h : Nat), pcAll m = true → h < m → pcOK h 256 = true
  | 0, _, _, hl => absurd hl (by omega)
  | m + 1, h, hp, hl => by
    rw [pcAll, Bool.and_eq_true] at hp
    by_cases z : h = m
    · rw [z]; exact hp.2
    · exact pcAll_at m h hp.1 (by omega)
theorem bcN_pc {w : Nat} (hw : w < 65536) : bcN w = pcN w := by
  have := pcOK_at (w / 256) 256 (w % 256) (pcAll_at 256 _ pc_all (by omega)) (by omega)
  rwa [show 256 * (w / 256) + w % 256 = w by omega] at this
theorem pcN_cnt (w : Nat) : pcN w = fa_cnt (fun k => w.testBit k) 16 := by
  have e : ∀ k, (if w.testBit k = true then 1 else 0) = w / 2 ^ k % 2 := fun k => by
    rw [Nat.testBit_eq_decide_div_mod_eq]
    by_cases c : w / 2 ^ k % 2 = 1
    · rw [if_pos (by simp [c]), c]
    · rw [if_neg (by simp [c])]; omega
  simp only [fa_cnt, e]
  unfold pcN
  simp
theorem bcF_cnt {w : Nat} (hw : w < 65536) : bcF (nI w) = nI (fa_cnt (fun k => w.testBit k) 16) := by rw [bcF_N hw, bcN_pc hw, pcN_cnt]
