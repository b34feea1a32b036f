/-! bits counted, the least bit -/
def c1N (m : Nat) : Nat := Nat.sub m (Nat.land (Nat.shiftRight m 1) 1431655765)
def c2N (m : Nat) : Nat := Nat.add (Nat.land m 858993459) (Nat.land (Nat.shiftRight m 2) 858993459)
def c3N (m : Nat) : Nat := Nat.land (Nat.add m (Nat.shiftRight m 4)) 252645135
def c4N (m : Nat) : Nat := Nat.add m (Nat.shiftRight m 8)
def c5N (m : Nat) : Nat := Nat.add m (Nat.shiftRight m 16)
def bcN (m : Nat) : Nat := Nat.land (c5N (c4N (c3N (c2N (c1N m))))) 63
def tre (t : Nat → Nat → Bool) : Nat → Nat → Nat → Bool
  | 0, a, c => t a c
  | d + 1, a, c => tre t d (Nat.mul 2 a) c && tre t d (Nat.succ (Nat.mul 2 a)) (Nat.succ c)
def numB (p : Nat → Bool) : Nat → Nat → Nat
  | 0, a => a
  | d + 1, a => numB p d (if p d = true then 2 * a + 1 else 2 * a)
theorem tre_all {t : Nat → Nat → Bool} {p : Nat → Bool} : ∀ (d a c : Nat), tre t d a c = true → t (numB p d a) (c + cnt p d) = true := by
  intro d
  induction d with
  | zero => intro a c h; exact h
  | succ d ih =>
    intro a c h
    unfold tre at h
    rw [Bool.and_eq_true] at h
    unfold numB cnt
    by_cases hp : p d = true
    · rw [if_pos hp, if_pos hp]
      have := ih _ _ h.2
      rw [show c + (cnt p d + 1) = Nat.succ c + cnt p d by omega]
      exact this
    · rw [if_neg hp, if_neg hp]
      exact ih _ _ h.1
theorem bc_all : tre (fun a c => Nat.beq (bcN a) c) 16 0 0 = true := by decide +kernel
theorem bcN_eq (p : Nat → Bool) : bcN (numB p 16 0) = cnt p 16 := by
  have h := tre_all (p := p) 16 0 0 bc_all
  have := Nat.eq_of_beq_eq_true h
  omega
theorem num_bit (p : Nat → Bool) : ∀ (d a i : Nat), (numB p d a).testBit i = if i < d then p i else a.testBit (i - d) := by
  intro d
  induction d with
  | zero => intro a i; rw [if_neg (by omega)]; rfl
  | succ d ih =>
    intro a i
    unfold numB
    rw [ih]
    by_cases h1 : i < d
    · rw [if_pos h1, if_pos (by omega)]
    · rw [if_neg h1]
      by_cases h2 : i = d
      · subst h2
        rw [if_pos (show i < i + 1 by omega), Nat.sub_self, Nat.testBit_zero]
        cases hp : p i
        · rw [if_neg (by simp)]
          exact decide_eq_false (by omega)
        · rw [if_pos rfl]
          exact decide_eq_true (by omega)
      · obtain ⟨r, hr⟩ : ∃ r, i - d = r + 1 := ⟨i - d - 1, by omega⟩
        rw [if_neg (show ¬ i < d + 1 by omega), hr, Nat.testBit_add_one, show i - (d + 1) = r by omega]
        have e : (if p d = true then 2 * a + 1 else 2 * a) / 2 = a := by
          split <;> omega
        rw [e]
theorem num_lt (p : Nat → Bool) : ∀ (d a : Nat), numB p d a < (a + 1) * 2 ^ d := by
  intro d
  induction d with
  | zero => intro a; simp [numB]
  | succ d ih =>
    intro a
    unfold numB
    split
    · have := ih (2 * a + 1)
      rw [Nat.pow_succ]
      have e : (2 * a + 1 + 1) * 2 ^ d = (a + 1) * (2 ^ d * 2) := by
        rw [show 2 * a + 1 + 1 = (a + 1) * 2 by omega, Nat.mul_assoc, Nat.mul_comm 2]
      omega
    · have := ih (2 * a)
      rw [Nat.pow_succ]
      have e : (2 * a + 1 + 1) * 2 ^ d = (a + 1) * (2 ^ d * 2) := by
        rw [show 2 * a + 1 + 1 = (a + 1) * 2 by omega, Nat.mul_assoc, Nat.mul_comm 2]
      have : (2 * a + 1) * 2 ^ d ≤ (2 * a + 1 + 1) * 2 ^ d := Nat.mul_le_mul_right _ (by omega)
      omega
theorem num_lt16 (p : Nat → Bool) : numB p 16 0 < 65536 := by
  have := num_lt p 16 0
  omega
theorem bt_nI {m i : Nat} (hi : i < 32) : bt (nI m) i = m.testBit i := by
  show (BitVec.ofNat 32 m).getLsbD i = _
  rw [BitVec.getLsbD_ofNat]
  simp [hi]
theorem msk_num {p : Nat → Bool} {n : Nat} (hn : n ≤ 16) : msk p n = nI (numB (fun i => decide (i < n) && p i) 16 0) := by
  apply b_ext
  intro i hi
  rw [bt_msk (by omega), bt_nI hi, num_bit]
  by_cases h : i < 16
  · rw [if_pos h]
  · rw [if_neg h, Nat.zero_testBit]
    simp
    omega
theorem nI_and (a b : Nat) : nI a &&& nI b = nI (a &&& b) := by
  apply b_ext
  intro i hi
  rw [b_and, bt_nI hi, bt_nI hi, bt_nI hi, Nat.testBit_and]
theorem nI_ushr {a k : Nat} (ha : a < 4294967296) (hk : k < 32) : ((nI a).toUInt32 >>> ((nI k).toUInt32 &&& Int32.toUInt32 31)).toInt32 = nI (a >>> k) := by
  apply b_ext
  intro i hi
  rw [b_ushr k hk, bt_nI hi, Nat.testBit_shiftRight]
  by_cases h : k + i < 32
  · rw [bt_nI h]
  · rw [b_big (by omega), Nat.testBit_lt_two_pow]
    exact Nat.lt_of_lt_of_le ha (Nat.pow_le_pow_right (n := 2) (by omega) (show 32 ≤ k + i by omega))
theorem nI_sub {a b : Nat} (h : b ≤ a) : nI a - nI b = nI (a - b) := by
  obtain ⟨c, rfl⟩ : ∃ c, a = c + b := ⟨a - b, by omega⟩
  rw [← nI_add, Int32.add_sub_cancel, Nat.add_sub_cancel]
theorem cnt_s (p : Nat → Bool) (n : Nat) : cnt p (n + 1) = if p n = true then cnt p n + 1 else cnt p n := rfl
section COUNT
variable {K : List KD} {G : SG} {J : SJ} {R : SR}
theorem s168n {m : Nat} (hm : m < 65536) : run 168 [.int (nI m)] K G J R = some ((K, G, J, R), some (.int (nI (bcN m)))) := by
  have k1 : ∀ a, a < 4294967296 → ((nI a).toUInt32 >>> ((1 : Int32).toUInt32 &&& Int32.toUInt32 31)).toInt32 = nI (a >>> 1) := fun a ha => nI_ushr (k := 1) ha (by omega)
  have k2 : ∀ a, a < 4294967296 → ((nI a).toUInt32 >>> ((2 : Int32).toUInt32 &&& Int32.toUInt32 31)).toInt32 = nI (a >>> 2) := fun a ha => nI_ushr (k := 2) ha (by omega)
  have k4 : ∀ a, a < 4294967296 → ((nI a).toUInt32 >>> ((4 : Int32).toUInt32 &&& Int32.toUInt32 31)).toInt32 = nI (a >>> 4) := fun a ha => nI_ushr (k := 4) ha (by omega)
  have k8 : ∀ a, a < 4294967296 → ((nI a).toUInt32 >>> ((8 : Int32).toUInt32 &&& Int32.toUInt32 31)).toInt32 = nI (a >>> 8) := fun a ha => nI_ushr (k := 8) ha (by omega)
  have k16 : ∀ a, a < 4294967296 → ((nI a).toUInt32 >>> ((16 : Int32).toUInt32 &&& Int32.toUInt32 31)).toInt32 = nI (a >>> 16) := fun a ha => nI_ushr (k := 16) ha (by omega)
  have b1' : c1N m ≤ m := Nat.sub_le _ _
  have q1 : (m >>> 1) &&& 1431655765 ≤ m := Nat.le_trans Nat.and_le_left (Nat.shiftRight_le m 1)
  have g1 : nI m - (nI (m >>> 1) &&& 1431655765) = nI (c1N m) := by
    rw [show (1431655765 : Int32) = nI 1431655765 by decide, nI_and, nI_sub q1]
    rfl
  have b2' : c2N (c1N m) ≤ c1N m + c1N m := Nat.add_le_add Nat.and_le_left (Nat.le_trans Nat.and_le_left (Nat.shiftRight_le _ 2))
  have g2 : (nI (c1N m) &&& (858993459 : Int32)) + (nI (c1N m >>> 2) &&& (858993459 : Int32)) = nI (c2N (c1N m)) := by
    rw [show (858993459 : Int32) = nI 858993459 by decide, nI_and, nI_and, nI_add]
    rfl
  have b3' : c3N (c2N (c1N m)) ≤ c2N (c1N m) + c2N (c1N m) := Nat.le_trans Nat.and_le_left (Nat.add_le_add (Nat.le_refl _) (Nat.shiftRight_le _ 4))
  have g3 : (nI (c2N (c1N m)) + nI (c2N (c1N m) >>> 4)) &&& 252645135 = nI (c3N (c2N (c1N m))) := by
    rw [show (252645135 : Int32) = nI 252645135 by decide, nI_add, nI_and]
    rfl
  have b4' : c4N (c3N (c2N (c1N m))) ≤ c3N (c2N (c1N m)) + c3N (c2N (c1N m)) := Nat.add_le_add (Nat.le_refl _) (Nat.shiftRight_le _ 8)
  have g4 : nI (c3N (c2N (c1N m))) + nI (c3N (c2N (c1N m)) >>> 8) = nI (c4N (c3N (c2N (c1N m)))) := by
    rw [nI_add]
    rfl
  have g5 : nI (c4N (c3N (c2N (c1N m)))) + nI (c4N (c3N (c2N (c1N m))) >>> 16) = nI (c5N (c4N (c3N (c2N (c1N m))))) := by
    rw [nI_add]
    rfl
  have g6 : nI (c5N (c4N (c3N (c2N (c1N m))))) &&& 63 = nI (bcN m) := by
    rw [show (63 : Int32) = nI 63 by decide, nI_and]
    rfl
  rw [run_168]
  simp only [e168_0, e168_1, e168_2, e168_3, e168_4, e168_7, e168_8, e168_9, e168_10, e168_11, e168_14, e168_15, e168_16, e168_17, e168_18, e168_21, e168_22, e168_23, e168_24, e168_25, e168_26, e168_27, e168_28, e168_29, e168_32, e168_33, e168_34, e168_35, e168_36, e168_38, e168_39, e168_40, e168_41, e168_42, e168_43, e168_45, e168_46, e168_47, e168_48, e168_49, e168_51, e168_52, kf_0, ik_1, ik_2, ik_3, kf_8, ik_9, kf_10, ik_11, ik_28, ik_29, kf_30, ik_31, ik_48, ik_49, kf_50, kf_51, ik_52, ik_53, ik_54, kf_55, kf_56, ik_57, kf_58, ik_59, ik_60, ik_61, ik_62, ik_63, ik_64, ik_65, ik_66, ik_67, ik_68, ik_69, ik_70, ik_71, ik_72, ik_73, ik_74, rq_0_0, rq_0_1, rq_0_2, rq_0_3, rq_0_4, rq_0_5, rq_0_6, rq_0_7, rq_0_8, rq_8_0, rq_10_0, rq_10_1, rq_10_2, rq_30_0, rq_30_1, rq_30_2, rq_50_0, rq_51_0, rq_51_1, rq_51_2, rq_51_3, rq_51_4, rq_51_5, rq_56_0, rq_56_1, rq_56_2, rq_58_1, rq_58_3, rq_58_4, rq_58_5, rq_58_7, rq_58_8, rq_58_11, rq_58_12, rq_58_13, rq_58_14, rq_58_15, rq_58_25, rq_58_26, rq_58_29, rq_58_30, rq_58_31, rq_3, rq_11, rq_31, rq_law, rv_s, cl_i, cl_r, cl_n, tl_s, tl_n, kont_some, le4_0, le4_1, le4_2, le4_3, le4_4, eq_self, or_true, true_or, and_true, true_and, k1 m (by omega), g1, k2 (c1N m) (by omega), g2, k4 (c2N (c1N m)) (by omega), g3, k8 (c3N (c2N (c1N m))) (by omega), g4, k16 (c4N (c3N (c2N (c1N m)))) (by omega), g5, g6]
theorem s168 {p : Nat → Bool} {n : Nat} (hn : n ≤ 16) : run 168 [.int (msk p n)] K G J R = some ((K, G, J, R), some (.int (nI (cnt p n)))) := by
  rw [msk_num hn, s168n (num_lt16 _), bcN_eq]
  have e : ∀ m, n ≤ m → cnt (fun i => decide (i < n) && p i) m = cnt p n := by
    intro m
    induction m with
    | zero =>
      intro h
      obtain rfl : n = 0 := by omega
      rfl
    | succ m ih =>
      intro h
      by_cases e : n = m + 1
      · subst e
        exact cnt_congr (fun j hj => by simp [hj])
      · rw [cnt_s, if_neg (by simp; omega)]
        exact ih (by omega)
  rw [e 16 hn]
theorem bit_and1 {s : Int32} {j : Nat} (hj : j < 32) : (s >>> (nI j &&& 31)) &&& 1 = if bt s j = true then 1 else 0 := by
  apply b_ext
  intro i hi
  rw [b_and, b_sshr j hj s hi, bt_1]
  by_cases h : i = 0
  · subst h
    rw [if_pos (by omega)]
    cases hb : bt s j <;> simp [hb, bt_1, b_0]
  · simp only [h, decide_false, Bool.and_false]
    split
    · rw [bt_1]; simp [h]
    · rw [b_0]
theorem s106 (x : Int32) : run 106 [.int x] K G J R = some ((K, G, J, R), some (.int (nI (cnt (bt x) 16)))) := by
  have key : ev 106 4 [some (.int x), some (.int (nI (cnt (bt x) 0))), some (.int (nI 0))] [] K G J R = ev 106 4 [some (.int x), some (.int (nI (cnt (bt x) 16))), some (.int (nI 16))] [] K G J R := iter (fun i => ev 106 4 [some (.int x), some (.int (nI (cnt (bt x) i))), some (.int (nI i))] [] K G J R) 16 (fun i hi => by
    have f1' : (nI i < nI 16) = True := lt_nI hi (show 16 < 2147483648 by omega)
    have f1 : (nI i < (16 : Int32)) = True := f1'
    rw [e106_4]
    simp only [e106_0, e106_1, e106_2, e106_3, e106_5, e106_7, e106_10, e106_11, e106_12, e106_13, e106_14, e106_15, e106_16, e106_17, e106_18, e106_21, e106_24, e106_25, kf_0, ik_1, ik_2, ik_3, kf_8, ik_9, kf_10, ik_11, ik_28, ik_29, kf_30, ik_31, ik_48, ik_49, kf_50, kf_51, ik_52, ik_53, ik_54, kf_55, kf_56, ik_57, kf_58, ik_59, ik_60, ik_61, ik_62, ik_63, ik_64, ik_65, ik_66, ik_67, ik_68, ik_69, ik_70, ik_71, ik_72, ik_73, ik_74, rq_0_0, rq_0_1, rq_0_2, rq_0_3, rq_0_4, rq_0_5, rq_0_6, rq_0_7, rq_0_8, rq_8_0, rq_10_0, rq_10_1, rq_10_2, rq_30_0, rq_30_1, rq_30_2, rq_50_0, rq_51_0, rq_51_1, rq_51_2, rq_51_3, rq_51_4, rq_51_5, rq_56_0, rq_56_1, rq_56_2, rq_58_1, rq_58_3, rq_58_4, rq_58_5, rq_58_7, rq_58_8, rq_58_11, rq_58_12, rq_58_13, rq_58_14, rq_58_15, rq_58_25, rq_58_26, rq_58_29, rq_58_30, rq_58_31, rq_3, rq_11, rq_31, rq_law, rv_s, cl_i, cl_r, cl_n, tl_s, tl_n, kont_some, le4_0, le4_1, le4_2, le4_3, le4_4, eq_self, or_true, true_or, and_true, true_and, f1, ↓reduceIte, bit_and1 (show i < 32 by omega), nI_1, cnt]
    by_cases h : bt x i = true <;> simp only [h, ↓reduceIte, nI_1, Int32.add_zero, Bool.false_eq_true])
  rw [run_106]
  simp only [e106_0, e106_1, e106_2, e106_3, e106_5, e106_7, e106_10, e106_11, e106_12, e106_13, e106_14, e106_15, e106_16, e106_17, e106_18, e106_21, e106_24, e106_25, kf_0, ik_1, ik_2, ik_3, kf_8, ik_9, kf_10, ik_11, ik_28, ik_29, kf_30, ik_31, ik_48, ik_49, kf_50, kf_51, ik_52, ik_53, ik_54, kf_55, kf_56, ik_57, kf_58, ik_59, ik_60, ik_61, ik_62, ik_63, ik_64, ik_65, ik_66, ik_67, ik_68, ik_69, ik_70, ik_71, ik_72, ik_73, ik_74, rq_0_0, rq_0_1, rq_0_2, rq_0_3, rq_0_4, rq_0_5, rq_0_6, rq_0_7, rq_0_8, rq_8_0, rq_10_0, rq_10_1, rq_10_2, rq_30_0, rq_30_1, rq_30_2, rq_50_0, rq_51_0, rq_51_1, rq_51_2, rq_51_3, rq_51_4, rq_51_5, rq_56_0, rq_56_1, rq_56_2, rq_58_1, rq_58_3, rq_58_4, rq_58_5, rq_58_7, rq_58_8, rq_58_11, rq_58_12, rq_58_13, rq_58_14, rq_58_15, rq_58_25, rq_58_26, rq_58_29, rq_58_30, rq_58_31, rq_3, rq_11, rq_31, rq_law, rv_s, cl_i, cl_r, cl_n, tl_s, tl_n, kont_some, le4_0, le4_1, le4_2, le4_3, le4_4, eq_self, or_true, true_or, and_true, true_and]
  refine key.trans ?_
  rw [e106_4]
  simp only [e106_0, e106_1, e106_2, e106_3, e106_5, e106_7, e106_10, e106_11, e106_12, e106_13, e106_14, e106_15, e106_16, e106_17, e106_18, e106_21, e106_24, e106_25, kf_0, ik_1, ik_2, ik_3, kf_8, ik_9, kf_10, ik_11, ik_28, ik_29, kf_30, ik_31, ik_48, ik_49, kf_50, kf_51, ik_52, ik_53, ik_54, kf_55, kf_56, ik_57, kf_58, ik_59, ik_60, ik_61, ik_62, ik_63, ik_64, ik_65, ik_66, ik_67, ik_68, ik_69, ik_70, ik_71, ik_72, ik_73, ik_74, rq_0_0, rq_0_1, rq_0_2, rq_0_3, rq_0_4, rq_0_5, rq_0_6, rq_0_7, rq_0_8, rq_8_0, rq_10_0, rq_10_1, rq_10_2, rq_30_0, rq_30_1, rq_30_2, rq_50_0, rq_51_0, rq_51_1, rq_51_2, rq_51_3, rq_51_4, rq_51_5, rq_56_0, rq_56_1, rq_56_2, rq_58_1, rq_58_3, rq_58_4, rq_58_5, rq_58_7, rq_58_8, rq_58_11, rq_58_12, rq_58_13, rq_58_14, rq_58_15, rq_58_25, rq_58_26, rq_58_29, rq_58_30, rq_58_31, rq_3, rq_11, rq_31, rq_law, rv_s, cl_i, cl_r, cl_n, tl_s, tl_n, kont_some, le4_0, le4_1, le4_2, le4_3, le4_4, eq_self, or_true, true_or, and_true, true_and, show ¬ (nI 16 < 16) by decide, ↓reduceIte]
theorem s106m {p : Nat → Bool} {n : Nat} (hn : n ≤ 16) : run 106 [.int (msk p n)] K G J R = some ((K, G, J, R), some (.int (nI (cnt p n)))) := by
  rw [s106]
  have e : ∀ m, n ≤ m → m ≤ 16 → cnt (bt (msk p n)) m = cnt p n := by
    intro m
    induction m with
    | zero =>
      intro h _
      obtain rfl : n = 0 := by omega
      rfl
    | succ m ih =>
      intro h h2
      by_cases e : n = m + 1
      · subst e
        exact cnt_congr (fun j hj => by rw [bt_msk (by omega)]; simp [hj])
      · rw [cnt_s, if_neg (by rw [bt_msk (by omega)]; simp; omega)]
        exact ih (by omega) (by omega)
  rw [e 16 hn (by omega)]
end COUNT
