/-! ===== Int32 by its bits: bt x i ===== -/
def bt (x : Int32) (i : Nat) : Bool := x.toBitVec.getLsbD i
theorem b_ext {x y : Int32} (h : ∀ i, i < 32 → bt x i = bt y i) : x = y := Int32.toBitVec_inj.mp (BitVec.eq_of_getLsbD_eq (fun i hi => h i hi))
theorem b_or (x y : Int32) (i : Nat) : bt (x ||| y) i = (bt x i || bt y i) := by unfold bt; rw [Int32.toBitVec_or, BitVec.getLsbD_or]
theorem b_and (x y : Int32) (i : Nat) : bt (x &&& y) i = (bt x i && bt y i) := by unfold bt; rw [Int32.toBitVec_and, BitVec.getLsbD_and]
theorem b_xor (x y : Int32) (i : Nat) : bt (x ^^^ y) i = (bt x i ^^ bt y i) := by unfold bt; rw [Int32.toBitVec_xor, BitVec.getLsbD_xor]
theorem b_big {x : Int32} {i : Nat} (h : 32 ≤ i) : bt x i = false := BitVec.getLsbD_of_ge _ _ h
theorem b_255 (i : Nat) : bt 255 i = decide (i < 8) := by
  rcases Nat.lt_or_ge i 32 with h | h
  · exact (by decide +kernel : ∀ i, i < 32 → bt 255 i = decide (i < 8)) i h
  · rw [b_big h, decide_eq_false (by omega)]
theorem b_65535 (i : Nat) : bt 65535 i = decide (i < 16) := by
  rcases Nat.lt_or_ge i 32 with h | h
  · exact (by decide +kernel : ∀ i, i < 32 → bt 65535 i = decide (i < 16)) i h
  · rw [b_big h, decide_eq_false (by omega)]
theorem b_m1 : ∀ i, i < 32 → bt (-1) i = true := by decide +kernel
theorem b_0 (i : Nat) : bt 0 i = false := BitVec.getLsbD_zero
theorem s_l : ∀ n, n < 32 → ((nI n &&& 31).toBitVec.smod 32).toNat = n := by decide +kernel
theorem s_u : ∀ n, n < 32 → (((nI n).toUInt32 &&& Int32.toUInt32 31).toBitVec % 32).toNat = n := by decide +kernel
theorem b_shl (n : Nat) (hn : n < 32) (x : Int32) {i : Nat} (hi : i < 32) : bt (x <<< (nI n &&& 31)) i = (decide (n ≤ i) && bt x (i - n)) := by
  unfold bt
  rw [Int32.toBitVec_shiftLeft]
  show (x.toBitVec <<< ((nI n &&& 31).toBitVec.smod 32).toNat).getLsbD i = _
  rw [s_l n hn, BitVec.getLsbD_shiftLeft]
  rcases Nat.lt_or_ge i n with h | h
  · simp [h, Nat.not_le.mpr h]
  · simp [hi, h, Nat.not_lt.mpr h]
theorem b_ushr (n : Nat) (hn : n < 32) (x : Int32) (i : Nat) : bt ((x.toUInt32 >>> ((nI n).toUInt32 &&& Int32.toUInt32 31)).toInt32) i = bt x (n + i) := by
  show (x.toUInt32 >>> ((nI n).toUInt32 &&& Int32.toUInt32 31)).toBitVec.getLsbD i = x.toUInt32.toBitVec.getLsbD (n + i)
  rw [UInt32.toBitVec_shiftRight]
  show (x.toUInt32.toBitVec >>> (((nI n).toUInt32 &&& Int32.toUInt32 31).toBitVec % 32).toNat).getLsbD i = _
  rw [s_u n hn, BitVec.getLsbD_ushiftRight]
theorem b_sshr (n : Nat) (hn : n < 32) (x : Int32) {i : Nat} (hi : i < 32) : bt (x >>> (nI n &&& 31)) i = if n + i < 32 then bt x (n + i) else bt x 31 := by
  unfold bt
  rw [Int32.toBitVec_shiftRight]
  show (x.toBitVec.sshiftRight ((nI n &&& 31).toBitVec.smod 32).toNat).getLsbD i = _
  rw [s_l n hn, BitVec.getLsbD_sshiftRight, BitVec.msb_eq_getLsbD_last]
  simp [hi]
theorem b_shl8 (x : Int32) {i : Nat} (hi : i < 32) : bt (x <<< ((8 : Int32) &&& 31)) i = (decide (8 ≤ i) && bt x (i - 8)) := b_shl 8 (by omega) x hi
theorem b_shl16 (x : Int32) {i : Nat} (hi : i < 32) : bt (x <<< ((16 : Int32) &&& 31)) i = (decide (16 ≤ i) && bt x (i - 16)) := b_shl 16 (by omega) x hi
theorem b_shl24 (x : Int32) {i : Nat} (hi : i < 32) : bt (x <<< ((24 : Int32) &&& 31)) i = (decide (24 ≤ i) && bt x (i - 24)) := b_shl 24 (by omega) x hi
theorem b_sshr8 (x : Int32) {i : Nat} (hi : i < 32) : bt (x >>> ((8 : Int32) &&& 31)) i = if 8 + i < 32 then bt x (8 + i) else bt x 31 := b_sshr 8 (by omega) x hi
def b1 (j : Nat) : Int32 := (1 : Int32) <<< (nI j &&& 31)
theorem b1_eq (j : Nat) : (1 : Int32) <<< (nI j &&& 31) = b1 j := rfl
theorem bt_1 (i : Nat) : bt 1 i = decide (i = 0) := by
  rcases Nat.lt_or_ge i 32 with h | h
  · exact (by decide +kernel : ∀ i, i < 32 → bt 1 i = decide (i = 0)) i h
  · rw [b_big h, decide_eq_false (by omega)]
theorem bt_b1 {j : Nat} (hj : j < 32) (i : Nat) : bt (b1 j) i = decide (i = j) := by
  rcases Nat.lt_or_ge i 32 with h | h
  · unfold b1
    rw [b_shl j hj 1 h, bt_1]
    rcases Nat.lt_trichotomy i j with h1 | h1 | h1
    · simp [Nat.not_le.mpr h1]; omega
    · subst h1; simp
    · have : i - j ≠ 0 := by omega
      simp [this]; omega
  · rw [b_big h, decide_eq_false (by omega)]
theorem bt_not {x : Int32} {i : Nat} (hi : i < 32) : bt (x ^^^ (-1)) i = !bt x i := by rw [b_xor, b_m1 i hi, Bool.xor_true]
def msk (p : Nat → Bool) : Nat → Int32
  | 0 => 0
  | n + 1 => if p n = true then msk p n ||| b1 n else msk p n
theorem bt_msk {p : Nat → Bool} {n : Nat} (hn : n ≤ 32) (i : Nat) : bt (msk p n) i = (decide (i < n) && p i) := by
  induction n with
  | zero => simp [msk, b_0]
  | succ n ih =>
    unfold msk
    split
    · next h =>
      rw [b_or, ih (by omega), bt_b1 (by omega)]
      by_cases h1 : i = n
      · subst h1; simp [h]
      · by_cases h2 : i < n
        · simp [h1, h2, show i < n + 1 by omega]
        · simp [h1, h2, show ¬ i < n + 1 by omega]
    · next h =>
      rw [ih (by omega)]
      by_cases h1 : i = n
      · subst h1; simp [h]
      · by_cases h2 : i < n
        · simp [h2, show i < n + 1 by omega]
        · simp [h2, show ¬ i < n + 1 by omega]
theorem msk_congr {p p' : Nat → Bool} {n : Nat} (h : ∀ j, j < n → p j = p' j) : msk p n = msk p' n := by
  induction n with
  | zero => rfl
  | succ n ih => unfold msk; rw [h n (by omega), ih (fun j hj => h j (by omega))]
theorem msk_ext {x : Int32} {p : Nat → Bool} {n : Nat} (hn : n ≤ 32) (h : ∀ i, i < 32 → bt x i = (decide (i < n) && p i)) : x = msk p n := b_ext (fun i hi => by rw [h i hi, bt_msk hn])
theorem hasx {s : Int32} {j : Nat} (hj : j < 32) : ((s.toUInt32 >>> ((nI j).toUInt32 &&& Int32.toUInt32 31)).toInt32 &&& 1) = 0 ↔ ¬ bt s j = true := by
  have key : ∀ i, bt ((s.toUInt32 >>> ((nI j).toUInt32 &&& Int32.toUInt32 31)).toInt32 &&& 1) i = (decide (i = 0) && bt s j) := by
    intro i
    rw [b_and, b_ushr j hj, bt_1]
    by_cases h : i = 0
    · subst h; simp
    · simp [h]
  constructor
  · intro h
    have := key 0
    rw [h, b_0] at this
    simpa using this.symm
  · intro h
    apply b_ext
    intro i _
    rw [key, b_0]
    simp [h]
theorem hasm {s : Int32} {j : Nat} (hj : j < 32) : ((s >>> (nI j &&& 31)) &&& 1) = 1 ↔ bt s j = true := by
  have key : ∀ i, i < 32 → bt ((s >>> (nI j &&& 31)) &&& 1) i = (decide (i = 0) && bt s j) := by
    intro i hi
    rw [b_and, b_sshr j hj _ hi, bt_1]
    by_cases h : i = 0
    · subst h; simp [hj]
    · simp [h]
  constructor
  · intro h
    have := key 0 (by omega)
    rw [h, bt_1] at this
    simpa using this.symm
  · intro h
    apply b_ext
    intro i hi
    rw [key i hi, bt_1]
    simp [h]
theorem lt_nI {i n : Nat} (h : i < n) (hn : n < 2147483648) : (nI i < nI n) = True := eq_true (nI_lt h hn)
theorem nlt_nI {i n : Nat} (h : n ≤ i) (hn : i < 2147483648) : (nI i < nI n) = False := eq_false (nI_nlt h hn)
theorem inb_nI {i n : Nat} (h : i < n) (hn : n < 2147483648) : inb (nI i) n = true := by
  have := nI_in h hn
  simp only [inb, Bool.not_eq_true', Bool.or_eq_false_iff, decide_eq_false_iff_not]
  exact ⟨fun z => this (Or.inl z), fun z => this (Or.inr z)⟩
theorem cl_nI {i : Nat} (h : i < 2147483648) : (nI i).toNatClampNeg = i := nI_clamp h
