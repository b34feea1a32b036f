/-! letters: the bytes of a long -/
def shr (w : Int64) (y : Int32) : Int64 := (w.toUInt64 >>> (y.toInt64.toUInt64 &&& Int64.toUInt64 63)).toInt64
theorem shr_eq (w : Int64) (y : Int32) : (w.toUInt64 >>> (y.toInt64.toUInt64 &&& Int64.toUInt64 63)).toInt64 = shr w y := rfl
def lfR (w : Int64) : Nat → Int64
  | 0 => w
  | k + 1 => shr (lfR w k) 8
theorem sh_k : ∀ k, k < 8 → (((8 : Int32) * nI k).toInt64.toUInt64 &&& Int64.toUInt64 63).toNat % 64 = 8 * k := by decide +kernel
theorem sh_8 : (((8 : Int32)).toInt64.toUInt64 &&& Int64.toUInt64 63).toNat % 64 = 8 := by decide +kernel
theorem ushr_add (u a b c : UInt64) (h : a.toNat % 64 + b.toNat % 64 = c.toNat % 64) : (u >>> a) >>> b = u >>> c := UInt64.toNat_inj.mp (by
  rw [UInt64.toNat_shiftRight, UInt64.toNat_shiftRight, UInt64.toNat_shiftRight, ← h, Nat.shiftRight_add])
theorem ushr_0 (u a : UInt64) (h : a.toNat % 64 = 0) : u >>> a = u := UInt64.toNat_inj.mp (by
  rw [UInt64.toNat_shiftRight, h]
  rfl)
theorem lfR_eq (w : Int64) : ∀ k, k < 8 → lfR w k = shr w (8 * nI k) := by
  intro k
  induction k with
  | zero =>
    intro _
    show w = (w.toUInt64 >>> (((8 : Int32) * nI 0).toInt64.toUInt64 &&& Int64.toUInt64 63)).toInt64
    rw [ushr_0 _ _ (by rw [sh_k 0 (by omega)])]
    rfl
  | succ k ih =>
    intro hk
    show shr (lfR w k) 8 = _
    rw [ih (by omega)]
    show ((w.toUInt64 >>> (((8 : Int32) * nI k).toInt64.toUInt64 &&& Int64.toUInt64 63)) >>> (((8 : Int32)).toInt64.toUInt64 &&& Int64.toUInt64 63)).toInt64 = (w.toUInt64 >>> (((8 : Int32) * nI (k + 1)).toInt64.toUInt64 &&& Int64.toUInt64 63)).toInt64
    exact congrArg UInt64.toInt64 (ushr_add _ _ _ _ (by rw [sh_k k (by omega), sh_8, sh_k (k + 1) hk]; omega))
def byI (w : Int64) (k : Nat) : Int32 := (shr w (8 * nI k)).toInt32 &&& 255
def byN (w : Int64) (k : Nat) : Nat := (byI w k).toBitVec.toNat
theorem by_eq (w : Int64) (k : Nat) : (shr w (8 * nI k)).toInt32 &&& 255 = nI (byN w k) := by
  apply Int32.toBitVec_inj.mp
  show (byI w k).toBitVec = BitVec.ofNat 32 (byI w k).toBitVec.toNat
  rw [BitVec.ofNat_toNat, BitVec.setWidth_eq]
theorem by_lt (w : Int64) (k : Nat) : byN w k < 256 := by
  unfold byN byI
  rw [Int32.toBitVec_and, BitVec.toNat_and]
  have := @Nat.and_le_right ((shr w (8 * nI k)).toInt32.toBitVec.toNat) ((255 : Int32).toBitVec.toNat)
  have e : (255 : Int32).toBitVec.toNat = 255 := by decide
  rw [e] at this ⊢
  omega
theorem mb_eq (w : Int64) (k : Nat) : (shr w (8 * nI k) &&& 255).toInt32 = nI (byN w k) := by
  rw [Int64.toInt32_and, show (255 : Int64).toInt32 = 255 by decide, by_eq]
theorem ml_eq (w : Int64) {k : Nat} (hk : k < 8) : (lfR w k &&& 255).toInt32 = nI (byN w k) := by rw [lfR_eq w k hk, mb_eq]
def manyN (w : Int64) (k : Nat) : Nat := cnt (fun j => decide (¬ byN w j = 0)) k
def goodN (w : Int64) : Nat → Bool
  | 0 => true
  | k + 1 => goodN w k && decide (¬ 126 < byN w k) && (decide (byN w k = 0) || decide (manyN w k = k))
theorem many_le (w : Int64) (k : Nat) : manyN w k ≤ k := cnt_le _ _
theorem many_s (w : Int64) (k : Nat) : manyN w (k + 1) = if byN w k = 0 then manyN w k else manyN w k + 1 := by
  unfold manyN
  rw [cnt_s]
  by_cases h : byN w k = 0 <;> simp [h]
theorem good_mono {w : Int64} {k : Nat} : ∀ m, goodN w (k + m) = true → goodN w k = true := by
  intro m
  induction m with
  | zero => exact id
  | succ m ih =>
    intro h
    rw [← Nat.add_assoc] at h
    unfold goodN at h
    simp only [Bool.and_eq_true] at h
    exact ih h.1.1
theorem good_126 {w : Int64} (h : goodN w 8 = true) {k : Nat} (hk : k < 8) : byN w k < 127 := by
  have := good_mono (k := k + 1) (7 - k) (by rw [show k + 1 + (7 - k) = 8 by omega]; exact h)
  unfold goodN at this
  simp only [Bool.and_eq_true, decide_eq_true_eq] at this
  omega
def pgX (G : SG) (c pg : Nat) (w : Int64) (i : Nat) : SG := fun a s => if a = c ∧ pg ≤ s ∧ s < pg + i then nI (byN w (s - pg)) else G a s
theorem pgX_0 (G : SG) (c pg : Nat) (w : Int64) : pgX G c pg w 0 = G := by
  funext a s
  unfold pgX
  rw [if_neg (by omega)]
theorem pgX_ne {G : SG} {c pg a s i : Nat} {w : Int64} (h : a ≠ c) : pgX G c pg w i a s = G a s := by
  unfold pgX
  rw [if_neg (by omega)]
theorem pgX_p (G : SG) (c pg : Nat) (w : Int64) (i : Nat) : up2 (pgX G c pg w i) c (pg + i) (nI (byN w i)) = pgX G c pg w (i + 1) := by
  funext a s
  unfold up2 pgX
  by_cases h1 : a = c ∧ s = pg + i
  · rw [if_pos h1, if_pos (by omega), show s - pg = i by omega]
  · rw [if_neg h1]
    by_cases h2 : a = c ∧ pg ≤ s ∧ s < pg + i
    · rw [if_pos h2, if_pos (by omega)]
    · rw [if_neg h2, if_neg (by omega)]
section LETTERS
variable {K : List KD} {G S : SG} {J : SJ} {R : SR} {q pg : Nat}
theorem s41 (w : Int64) (k : Nat) : run 41 [.long w, .int (nI k)] K G J R = some ((K, G, J, R), some (.int (nI (byN w k)))) := by
  rw [run_41]
  simp only [e41_0, e41_1, e41_3, e41_4, e41_5, e41_6, e41_7, e41_10, e41_11, kf_0, ik_1, ik_2, ik_3, kf_8, ik_9, kf_10, ik_11, ik_28, ik_29, kf_30, ik_31, ik_48, ik_49, kf_50, kf_51, ik_52, ik_53, ik_54, kf_55, kf_56, ik_57, kf_58, ik_59, ik_60, ik_61, ik_62, ik_63, ik_64, ik_65, ik_66, ik_67, ik_68, ik_69, ik_70, ik_71, ik_72, ik_73, ik_74, rq_0_0, rq_0_1, rq_0_2, rq_0_3, rq_0_4, rq_0_5, rq_0_6, rq_0_7, rq_0_8, rq_8_0, rq_10_0, rq_10_1, rq_10_2, rq_30_0, rq_30_1, rq_30_2, rq_50_0, rq_51_0, rq_51_1, rq_51_2, rq_51_3, rq_51_4, rq_51_5, rq_56_0, rq_56_1, rq_56_2, rq_58_1, rq_58_3, rq_58_4, rq_58_5, rq_58_7, rq_58_8, rq_58_11, rq_58_12, rq_58_13, rq_58_14, rq_58_15, rq_58_25, rq_58_26, rq_58_29, rq_58_30, rq_58_31, rq_3, rq_11, rq_31, rq_law, rv_s, cl_i, cl_r, cl_n, tl_s, tl_n, kont_some, le4_0, le4_1, le4_2, le4_3, le4_4, eq_self, or_true, true_or, and_true, true_and, shr_eq, by_eq]
theorem h40 (w : Int64) : ∀ (m k : Nat), k + m = 8 → goodN w k = true → ∀ o4 : Option Value, ev 40 4 [some (.long w), none, some (.int (nI (manyN w k))), some (.int (nI k)), o4] [] K G J R = some ((K, G, J, R), some (.int (if goodN w 8 = true then nI (manyN w 8) else -1))) := by
  intro m
  induction m with
  | zero =>
    intro k hk hg o4
    obtain rfl : k = 8 := by omega
    rw [e40_4]
    simp only [e40_0, e40_1, e40_2, e40_3, e40_5, e40_7, e40_10, e40_11, e40_12, e40_15, e40_17, e40_19, e40_21, e40_24, e40_26, e40_29, e40_30, e40_31, e40_34, e40_35, e40_36, e40_38, e40_41, e40_44, e40_47, e40_50, e40_51, kf_0, ik_1, ik_2, ik_3, kf_8, ik_9, kf_10, ik_11, ik_28, ik_29, kf_30, ik_31, ik_48, ik_49, kf_50, kf_51, ik_52, ik_53, ik_54, kf_55, kf_56, ik_57, kf_58, ik_59, ik_60, ik_61, ik_62, ik_63, ik_64, ik_65, ik_66, ik_67, ik_68, ik_69, ik_70, ik_71, ik_72, ik_73, ik_74, rq_0_0, rq_0_1, rq_0_2, rq_0_3, rq_0_4, rq_0_5, rq_0_6, rq_0_7, rq_0_8, rq_8_0, rq_10_0, rq_10_1, rq_10_2, rq_30_0, rq_30_1, rq_30_2, rq_50_0, rq_51_0, rq_51_1, rq_51_2, rq_51_3, rq_51_4, rq_51_5, rq_56_0, rq_56_1, rq_56_2, rq_58_1, rq_58_3, rq_58_4, rq_58_5, rq_58_7, rq_58_8, rq_58_11, rq_58_12, rq_58_13, rq_58_14, rq_58_15, rq_58_25, rq_58_26, rq_58_29, rq_58_30, rq_58_31, rq_3, rq_11, rq_31, rq_law, rv_s, cl_i, cl_r, cl_n, tl_s, tl_n, kont_some, le4_0, le4_1, le4_2, le4_3, le4_4, eq_self, or_true, true_or, and_true, true_and, show ¬ (nI 8 < 8) by decide, ↓reduceIte, hg]
  | succ m ih =>
    intro k hkm hg o4
    have hk : k < 8 := by omega
    have g0 : (nI k < 8) = True := lt_nI hk (show 8 < 2147483648 by omega)
    have hb := by_lt w k
    have hml := many_le w k
    have c1 : ((126 : Int32) < nI (byN w k)) = (126 < byN w k) := propext (nI_ltI (a := 126) (by omega) (by omega))
    have c2 : (nI (byN w k) = 0) = (byN w k = 0) := propext (nI_eq (b := 0) (by omega) (by omega))
    have c3 : (nI (manyN w k) < nI k) = (manyN w k < k) := propext (nI_ltI (by omega) (by omega))
    have hs : goodN w (k + 1) = (decide (¬ 126 < byN w k) && (decide (byN w k = 0) || decide (manyN w k = k))) := by
      show (goodN w k && decide (¬ 126 < byN w k) && (decide (byN w k = 0) || decide (manyN w k = k))) = _
      rw [hg, Bool.true_and]
    have hbad : goodN w (k + 1) = false → goodN w 8 = false := fun z => by
      cases y : goodN w 8 with
      | false => rfl
      | true =>
        have := good_mono (k := k + 1) (7 - k) (by rw [show k + 1 + (7 - k) = 8 by omega]; exact y)
        rw [z] at this
        cases this
    rw [e40_4]
    simp only [e40_0, e40_1, e40_2, e40_3, e40_5, e40_7, e40_10, e40_11, e40_12, e40_15, e40_17, e40_19, e40_21, e40_24, e40_26, e40_29, e40_30, e40_31, e40_34, e40_35, e40_36, e40_38, e40_41, e40_44, e40_47, e40_50, e40_51, kf_0, ik_1, ik_2, ik_3, kf_8, ik_9, kf_10, ik_11, ik_28, ik_29, kf_30, ik_31, ik_48, ik_49, kf_50, kf_51, ik_52, ik_53, ik_54, kf_55, kf_56, ik_57, kf_58, ik_59, ik_60, ik_61, ik_62, ik_63, ik_64, ik_65, ik_66, ik_67, ik_68, ik_69, ik_70, ik_71, ik_72, ik_73, ik_74, rq_0_0, rq_0_1, rq_0_2, rq_0_3, rq_0_4, rq_0_5, rq_0_6, rq_0_7, rq_0_8, rq_8_0, rq_10_0, rq_10_1, rq_10_2, rq_30_0, rq_30_1, rq_30_2, rq_50_0, rq_51_0, rq_51_1, rq_51_2, rq_51_3, rq_51_4, rq_51_5, rq_56_0, rq_56_1, rq_56_2, rq_58_1, rq_58_3, rq_58_4, rq_58_5, rq_58_7, rq_58_8, rq_58_11, rq_58_12, rq_58_13, rq_58_14, rq_58_15, rq_58_25, rq_58_26, rq_58_29, rq_58_30, rq_58_31, rq_3, rq_11, rq_31, rq_law, rv_s, cl_i, cl_r, cl_n, tl_s, tl_n, kont_some, le4_0, le4_1, le4_2, le4_3, le4_4, eq_self, or_true, true_or, and_true, true_and, g0, s41, c1, c2, c3, ↓reduceIte]
    by_cases z1 : 126 < byN w k
    · have := hbad (by rw [hs]; simp [z1])
      simp only [z1, this, ↓reduceIte, Bool.false_eq_true]
    · by_cases z2 : byN w k = 0
      · have h := ih (k + 1) (by omega) (by rw [hs]; simp [z2]) (some (.int (nI (byN w k))))
        rw [many_s, if_pos z2] at h
        simp only [z1, z2, ↓reduceIte, nI_1]
        rw [z2] at h
        exact h
      · by_cases z3 : manyN w k < k
        · have := hbad (by rw [hs]; simp [z2]; omega)
          simp only [z1, z2, z3, this, ↓reduceIte, Bool.false_eq_true]
        · have h := ih (k + 1) (by omega) (by rw [hs]; simp [z1]; omega) (some (.int (nI (byN w k))))
          rw [many_s, if_neg z2] at h
          simp only [z1, z2, z3, ↓reduceIte, nI_1, e40_0, e40_1, e40_2, e40_3, e40_5, e40_7, e40_10, e40_11, e40_12, e40_15, e40_17, e40_19, e40_21, e40_24, e40_26, e40_29, e40_30, e40_31, e40_34, e40_35, e40_36, e40_38, e40_41, e40_44, e40_47, e40_50, e40_51, kf_0, ik_1, ik_2, ik_3, kf_8, ik_9, kf_10, ik_11, ik_28, ik_29, kf_30, ik_31, ik_48, ik_49, kf_50, kf_51, ik_52, ik_53, ik_54, kf_55, kf_56, ik_57, kf_58, ik_59, ik_60, ik_61, ik_62, ik_63, ik_64, ik_65, ik_66, ik_67, ik_68, ik_69, ik_70, ik_71, ik_72, ik_73, ik_74, rq_0_0, rq_0_1, rq_0_2, rq_0_3, rq_0_4, rq_0_5, rq_0_6, rq_0_7, rq_0_8, rq_8_0, rq_10_0, rq_10_1, rq_10_2, rq_30_0, rq_30_1, rq_30_2, rq_50_0, rq_51_0, rq_51_1, rq_51_2, rq_51_3, rq_51_4, rq_51_5, rq_56_0, rq_56_1, rq_56_2, rq_58_1, rq_58_3, rq_58_4, rq_58_5, rq_58_7, rq_58_8, rq_58_11, rq_58_12, rq_58_13, rq_58_14, rq_58_15, rq_58_25, rq_58_26, rq_58_29, rq_58_30, rq_58_31, rq_3, rq_11, rq_31, rq_law, rv_s, cl_i, cl_r, cl_n, tl_s, tl_n, kont_some, le4_0, le4_1, le4_2, le4_3, le4_4, eq_self, or_true, true_or, and_true, true_and]
          exact h
theorem s40 (w : Int64) : run 40 [.long w] K G J R = some ((K, G, J, R), some (.int (if goodN w 8 = true then nI (manyN w 8) else -1))) := by
  rw [run_40]
  simp only [e40_0, e40_1, e40_2, e40_3, e40_5, e40_7, e40_10, e40_11, e40_12, e40_15, e40_17, e40_19, e40_21, e40_24, e40_26, e40_29, e40_30, e40_31, e40_34, e40_35, e40_36, e40_38, e40_41, e40_44, e40_47, e40_50, e40_51, kf_0, ik_1, ik_2, ik_3, kf_8, ik_9, kf_10, ik_11, ik_28, ik_29, kf_30, ik_31, ik_48, ik_49, kf_50, kf_51, ik_52, ik_53, ik_54, kf_55, kf_56, ik_57, kf_58, ik_59, ik_60, ik_61, ik_62, ik_63, ik_64, ik_65, ik_66, ik_67, ik_68, ik_69, ik_70, ik_71, ik_72, ik_73, ik_74, rq_0_0, rq_0_1, rq_0_2, rq_0_3, rq_0_4, rq_0_5, rq_0_6, rq_0_7, rq_0_8, rq_8_0, rq_10_0, rq_10_1, rq_10_2, rq_30_0, rq_30_1, rq_30_2, rq_50_0, rq_51_0, rq_51_1, rq_51_2, rq_51_3, rq_51_4, rq_51_5, rq_56_0, rq_56_1, rq_56_2, rq_58_1, rq_58_3, rq_58_4, rq_58_5, rq_58_7, rq_58_8, rq_58_11, rq_58_12, rq_58_13, rq_58_14, rq_58_15, rq_58_25, rq_58_26, rq_58_29, rq_58_30, rq_58_31, rq_3, rq_11, rq_31, rq_law, rv_s, cl_i, cl_r, cl_n, tl_s, tl_n, kont_some, le4_0, le4_1, le4_2, le4_3, le4_4, eq_self, or_true, true_or, and_true, true_and]
  exact h40 w 8 0 rfl rfl none
theorem s39 (w : Int64) (h8 : G 8 1 = nI pg) (hg : goodN w 8 = true) (hp : pg + manyN w 8 ≤ 16) : run 39 [.ref (8 : Nat), .long w] KF G J (RQ q) = some ((KF, up2 (pgX G 9 pg w (manyN w 8)) 8 1 (nI (pg + manyN w 8)), J, RQ q), some (.int (nI (pg + manyN w 8)))) := by
  have hm8 := many_le w 8
  have f0 : (nI (manyN w 8) = -1) = False := nI_ne_m1 (by omega)
  have f1 : ((16 : Int32) < nI (pg + manyN w 8)) = False := eq_false (nI_nlt (b := pg + manyN w 8) (a := 16) hp (by omega))
  have hs40 := s40 (K := KF) (G := G) (J := J) (R := RQ q) w
  rw [if_pos hg] at hs40
  generalize manyN w 8 = mm at hp hm8 f0 f1 hs40 ⊢
  have key : ev 39 30 [some (.ref (8 : Nat)), some (.long w), none, some (.int (nI mm)), some (.int (nI 0))] [] KF (pgX G 9 pg w 0) J (RQ q) = ev 39 30 [some (.ref (8 : Nat)), some (.long w), none, some (.int (nI mm)), some (.int (nI mm))] [] KF (pgX G 9 pg w mm) J (RQ q) := iter (fun i => ev 39 30 [some (.ref (8 : Nat)), some (.long w), none, some (.int (nI mm)), some (.int (nI i))] [] KF (pgX G 9 pg w i) J (RQ q)) mm (fun i hi => by
    have g0 := lt_nI hi (show mm < 2147483648 by omega)
    have g1 := inb_nI (show pg + i < 16 by omega) (show 16 < 2147483648 by omega)
    have g2 := cl_nI (show pg + i < 2147483648 by omega)
    have r8 : pgX G 9 pg w i 8 1 = nI pg := by rw [pgX_ne (by omega)]; exact h8
    rw [e39_30]
    simp only [e39_0, e39_1, e39_4, e39_5, e39_6, e39_7, e39_10, e39_12, e39_13, e39_14, e39_17, e39_18, e39_19, e39_21, e39_24, e39_26, e39_27, e39_28, e39_32, e39_33, e39_36, e39_37, e39_40, e39_41, e39_44, e39_46, e39_47, e39_48, e39_50, e39_53, e39_54, e39_57, e39_60, e39_61, e39_61r, e39_62, e39_65, e39_66, e39_67, e39_70, e39_71, e39_74, kf_0, ik_1, ik_2, ik_3, kf_8, ik_9, kf_10, ik_11, ik_28, ik_29, kf_30, ik_31, ik_48, ik_49, kf_50, kf_51, ik_52, ik_53, ik_54, kf_55, kf_56, ik_57, kf_58, ik_59, ik_60, ik_61, ik_62, ik_63, ik_64, ik_65, ik_66, ik_67, ik_68, ik_69, ik_70, ik_71, ik_72, ik_73, ik_74, rq_0_0, rq_0_1, rq_0_2, rq_0_3, rq_0_4, rq_0_5, rq_0_6, rq_0_7, rq_0_8, rq_8_0, rq_10_0, rq_10_1, rq_10_2, rq_30_0, rq_30_1, rq_30_2, rq_50_0, rq_51_0, rq_51_1, rq_51_2, rq_51_3, rq_51_4, rq_51_5, rq_56_0, rq_56_1, rq_56_2, rq_58_1, rq_58_3, rq_58_4, rq_58_5, rq_58_7, rq_58_8, rq_58_11, rq_58_12, rq_58_13, rq_58_14, rq_58_15, rq_58_25, rq_58_26, rq_58_29, rq_58_30, rq_58_31, rq_3, rq_11, rq_31, rq_law, rv_s, cl_i, cl_r, cl_n, tl_s, tl_n, kont_some, le4_0, le4_1, le4_2, le4_3, le4_4, eq_self, or_true, true_or, and_true, true_and, r8, g0, g1, g2, s41, nI_add, pgX_p, ↓reduceIte, nI_1])
  rw [pgX_0] at key
  have r8 : pgX G 9 pg w mm 8 1 = nI pg := by rw [pgX_ne (by omega)]; exact h8
  have r8' : up2 (pgX G 9 pg w mm) 8 1 (nI (pg + mm)) 8 1 = nI (pg + mm) := by rw [up2_at, if_pos ⟨rfl, rfl⟩]
  rw [run_39]
  simp only [e39_0, e39_1, e39_4, e39_5, e39_6, e39_7, e39_10, e39_12, e39_13, e39_14, e39_17, e39_18, e39_19, e39_21, e39_24, e39_26, e39_27, e39_28, e39_32, e39_33, e39_36, e39_37, e39_40, e39_41, e39_44, e39_46, e39_47, e39_48, e39_50, e39_53, e39_54, e39_57, e39_60, e39_61, e39_61r, e39_62, e39_65, e39_66, e39_67, e39_70, e39_71, e39_74, kf_0, ik_1, ik_2, ik_3, kf_8, ik_9, kf_10, ik_11, ik_28, ik_29, kf_30, ik_31, ik_48, ik_49, kf_50, kf_51, ik_52, ik_53, ik_54, kf_55, kf_56, ik_57, kf_58, ik_59, ik_60, ik_61, ik_62, ik_63, ik_64, ik_65, ik_66, ik_67, ik_68, ik_69, ik_70, ik_71, ik_72, ik_73, ik_74, rq_0_0, rq_0_1, rq_0_2, rq_0_3, rq_0_4, rq_0_5, rq_0_6, rq_0_7, rq_0_8, rq_8_0, rq_10_0, rq_10_1, rq_10_2, rq_30_0, rq_30_1, rq_30_2, rq_50_0, rq_51_0, rq_51_1, rq_51_2, rq_51_3, rq_51_4, rq_51_5, rq_56_0, rq_56_1, rq_56_2, rq_58_1, rq_58_3, rq_58_4, rq_58_5, rq_58_7, rq_58_8, rq_58_11, rq_58_12, rq_58_13, rq_58_14, rq_58_15, rq_58_25, rq_58_26, rq_58_29, rq_58_30, rq_58_31, rq_3, rq_11, rq_31, rq_law, rv_s, cl_i, cl_r, cl_n, tl_s, tl_n, kont_some, le4_0, le4_1, le4_2, le4_3, le4_4, eq_self, or_true, true_or, and_true, true_and, hs40, f0, h8, nI_add, f1, ↓reduceIte]
  refine key.trans ?_
  rw [e39_30]
  simp only [e39_0, e39_1, e39_4, e39_5, e39_6, e39_7, e39_10, e39_12, e39_13, e39_14, e39_17, e39_18, e39_19, e39_21, e39_24, e39_26, e39_27, e39_28, e39_32, e39_33, e39_36, e39_37, e39_40, e39_41, e39_44, e39_46, e39_47, e39_48, e39_50, e39_53, e39_54, e39_57, e39_60, e39_61, e39_61r, e39_62, e39_65, e39_66, e39_67, e39_70, e39_71, e39_74, kf_0, ik_1, ik_2, ik_3, kf_8, ik_9, kf_10, ik_11, ik_28, ik_29, kf_30, ik_31, ik_48, ik_49, kf_50, kf_51, ik_52, ik_53, ik_54, kf_55, kf_56, ik_57, kf_58, ik_59, ik_60, ik_61, ik_62, ik_63, ik_64, ik_65, ik_66, ik_67, ik_68, ik_69, ik_70, ik_71, ik_72, ik_73, ik_74, rq_0_0, rq_0_1, rq_0_2, rq_0_3, rq_0_4, rq_0_5, rq_0_6, rq_0_7, rq_0_8, rq_8_0, rq_10_0, rq_10_1, rq_10_2, rq_30_0, rq_30_1, rq_30_2, rq_50_0, rq_51_0, rq_51_1, rq_51_2, rq_51_3, rq_51_4, rq_51_5, rq_56_0, rq_56_1, rq_56_2, rq_58_1, rq_58_3, rq_58_4, rq_58_5, rq_58_7, rq_58_8, rq_58_11, rq_58_12, rq_58_13, rq_58_14, rq_58_15, rq_58_25, rq_58_26, rq_58_29, rq_58_30, rq_58_31, rq_3, rq_11, rq_31, rq_law, rv_s, cl_i, cl_r, cl_n, tl_s, tl_n, kont_some, le4_0, le4_1, le4_2, le4_3, le4_4, eq_self, or_true, true_or, and_true, true_and, r8, r8', nI_add, Int32.lt_irrefl, ↓reduceIte]
/-! the model's letters -/
def jb (w : Int64) : Nat → Option Value
  | 0 => none
  | k + 1 => some (.int (nI (byN w k)))
theorem h122a (w : Int64) : ev 122 11 [some (.ref (58 : Nat)), some (.long w), none, some (.int 0), some (.int 1), some (.long w), none, some (.int 0), none] [] KF G J (RQ q) = ev 122 83 [some (.ref (58 : Nat)), some (.long w), none, some (.int (nI (manyN w 8))), some (.int (bi (goodN w 8 = true))), some (.long (lfR w 8)), none, some (.int (nI 8)), jb w 8] [] KF G J (RQ q) := by
  have key : ev 122 11 [some (.ref (58 : Nat)), some (.long w), none, some (.int (nI (manyN w 0))), some (.int (bi (goodN w 0 = true))), some (.long (lfR w 0)), none, some (.int (nI 0)), jb w 0] [] KF G J (RQ q) = ev 122 11 [some (.ref (58 : Nat)), some (.long w), none, some (.int (nI (manyN w 8))), some (.int (bi (goodN w 8 = true))), some (.long (lfR w 8)), none, some (.int (nI 8)), jb w 8] [] KF G J (RQ q) := iter (fun i => ev 122 11 [some (.ref (58 : Nat)), some (.long w), none, some (.int (nI (manyN w i))), some (.int (bi (goodN w i = true))), some (.long (lfR w i)), none, some (.int (nI i)), jb w i] [] KF G J (RQ q)) 8 (fun i hi => by
    have g0 : (nI i < 8) = True := lt_nI hi (show 8 < 2147483648 by omega)
    have hb := by_lt w i
    have hml := many_le w i
    have c1 : ((126 : Int32) < nI (byN w i)) = (126 < byN w i) := propext (nI_ltI (a := 126) (by omega) (by omega))
    have c2 : (nI (byN w i) = 0) = (byN w i = 0) := propext (nI_eq (b := 0) (by omega) (by omega))
    have c3 : (nI (manyN w i) = nI i) = (manyN w i = i) := propext (nI_eq (by omega) (by omega))
    have c4 : ((0 : Int32) < nI (byN w i)) = (¬ byN w i = 0) := propext ((nI_ltI (a := 0) (by omega) (by omega)).trans (by omega))
    have hs : goodN w (i + 1) = (goodN w i && decide (¬ 126 < byN w i) && (decide (byN w i = 0) || decide (manyN w i = i))) := rfl
    have hl : lfR w (i + 1) = shr (lfR w i) 8 := rfl
    have hj : jb w (i + 1) = some (.int (nI (byN w i))) := rfl
    rw [e122_11, hs, hl, hj, many_s]
    simp only [e122_0, e122_1, e122_2, e122_3, e122_5, e122_6, e122_8, e122_9, e122_13, e122_15, e122_18, e122_20, e122_23, e122_24, e122_25, e122_27, e122_29, e122_31, e122_32, e122_34, e122_36, e122_39, e122_41, e122_43, e122_46, e122_48, e122_51, e122_52, e122_54, e122_57, e122_58, e122_61, e122_62, e122_64, e122_65, e122_67, e122_70, e122_71, e122_74, e122_75, e122_76, e122_77, e122_80, e122_85, e122_88, e122_90, e122_91, e122_92, e122_95, e122_96, e122_97, e122_99, e122_102, e122_104, e122_105, e122_106, e122_108, e122_110, e122_111, e122_114, e122_115, e122_118, e122_119, e122_122, e122_123, e122_125, e122_127, e122_128, e122_129, e122_132, e122_133, e122_134, e122_135, e122_136, e122_136r, e122_137, e122_140, e122_141, e122_142, e122_145, e122_148, e122_151, e122_152, e122_155, kf_0, ik_1, ik_2, ik_3, kf_8, ik_9, kf_10, ik_11, ik_28, ik_29, kf_30, ik_31, ik_48, ik_49, kf_50, kf_51, ik_52, ik_53, ik_54, kf_55, kf_56, ik_57, kf_58, ik_59, ik_60, ik_61, ik_62, ik_63, ik_64, ik_65, ik_66, ik_67, ik_68, ik_69, ik_70, ik_71, ik_72, ik_73, ik_74, rq_0_0, rq_0_1, rq_0_2, rq_0_3, rq_0_4, rq_0_5, rq_0_6, rq_0_7, rq_0_8, rq_8_0, rq_10_0, rq_10_1, rq_10_2, rq_30_0, rq_30_1, rq_30_2, rq_50_0, rq_51_0, rq_51_1, rq_51_2, rq_51_3, rq_51_4, rq_51_5, rq_56_0, rq_56_1, rq_56_2, rq_58_1, rq_58_3, rq_58_4, rq_58_5, rq_58_7, rq_58_8, rq_58_11, rq_58_12, rq_58_13, rq_58_14, rq_58_15, rq_58_25, rq_58_26, rq_58_29, rq_58_30, rq_58_31, rq_3, rq_11, rq_31, rq_law, rv_s, cl_i, cl_r, cl_n, tl_s, tl_n, kont_some, le4_0, le4_1, le4_2, le4_3, le4_4, eq_self, or_true, true_or, and_true, true_and, g0, ml_eq w hi, shr_eq, bi_0, c1, c2, c3, c4, ↓reduceIte]
    by_cases z0 : goodN w i = true
    · by_cases z1 : 126 < byN w i
      · have z2 : ¬ byN w i = 0 := by omega
        simp only [z0, z1, z2, c4, bi, ↓reduceIte, not_true_eq_false, not_false_eq_true, decide_false, Bool.and_false, Bool.false_and, Bool.false_eq_true, e122_0, e122_1, e122_2, e122_3, e122_5, e122_6, e122_8, e122_9, e122_13, e122_15, e122_18, e122_20, e122_23, e122_24, e122_25, e122_27, e122_29, e122_31, e122_32, e122_34, e122_36, e122_39, e122_41, e122_43, e122_46, e122_48, e122_51, e122_52, e122_54, e122_57, e122_58, e122_61, e122_62, e122_64, e122_65, e122_67, e122_70, e122_71, e122_74, e122_75, e122_76, e122_77, e122_80, e122_85, e122_88, e122_90, e122_91, e122_92, e122_95, e122_96, e122_97, e122_99, e122_102, e122_104, e122_105, e122_106, e122_108, e122_110, e122_111, e122_114, e122_115, e122_118, e122_119, e122_122, e122_123, e122_125, e122_127, e122_128, e122_129, e122_132, e122_133, e122_134, e122_135, e122_136, e122_136r, e122_137, e122_140, e122_141, e122_142, e122_145, e122_148, e122_151, e122_152, e122_155, kf_0, ik_1, ik_2, ik_3, kf_8, ik_9, kf_10, ik_11, ik_28, ik_29, kf_30, ik_31, ik_48, ik_49, kf_50, kf_51, ik_52, ik_53, ik_54, kf_55, kf_56, ik_57, kf_58, ik_59, ik_60, ik_61, ik_62, ik_63, ik_64, ik_65, ik_66, ik_67, ik_68, ik_69, ik_70, ik_71, ik_72, ik_73, ik_74, rq_0_0, rq_0_1, rq_0_2, rq_0_3, rq_0_4, rq_0_5, rq_0_6, rq_0_7, rq_0_8, rq_8_0, rq_10_0, rq_10_1, rq_10_2, rq_30_0, rq_30_1, rq_30_2, rq_50_0, rq_51_0, rq_51_1, rq_51_2, rq_51_3, rq_51_4, rq_51_5, rq_56_0, rq_56_1, rq_56_2, rq_58_1, rq_58_3, rq_58_4, rq_58_5, rq_58_7, rq_58_8, rq_58_11, rq_58_12, rq_58_13, rq_58_14, rq_58_15, rq_58_25, rq_58_26, rq_58_29, rq_58_30, rq_58_31, rq_3, rq_11, rq_31, rq_law, rv_s, cl_i, cl_r, cl_n, tl_s, tl_n, kont_some, le4_0, le4_1, le4_2, le4_3, le4_4, eq_self, or_true, true_or, and_true, true_and, nI_1, Int32.add_zero]
      · by_cases z2 : byN w i = 0
        · simp only [z0, z1, z2, c4, bi, ↓reduceIte, not_true_eq_false, not_false_eq_true, decide_true, decide_false, Bool.true_and, Bool.true_or, Bool.and_true, e122_0, e122_1, e122_2, e122_3, e122_5, e122_6, e122_8, e122_9, e122_13, e122_15, e122_18, e122_20, e122_23, e122_24, e122_25, e122_27, e122_29, e122_31, e122_32, e122_34, e122_36, e122_39, e122_41, e122_43, e122_46, e122_48, e122_51, e122_52, e122_54, e122_57, e122_58, e122_61, e122_62, e122_64, e122_65, e122_67, e122_70, e122_71, e122_74, e122_75, e122_76, e122_77, e122_80, e122_85, e122_88, e122_90, e122_91, e122_92, e122_95, e122_96, e122_97, e122_99, e122_102, e122_104, e122_105, e122_106, e122_108, e122_110, e122_111, e122_114, e122_115, e122_118, e122_119, e122_122, e122_123, e122_125, e122_127, e122_128, e122_129, e122_132, e122_133, e122_134, e122_135, e122_136, e122_136r, e122_137, e122_140, e122_141, e122_142, e122_145, e122_148, e122_151, e122_152, e122_155, kf_0, ik_1, ik_2, ik_3, kf_8, ik_9, kf_10, ik_11, ik_28, ik_29, kf_30, ik_31, ik_48, ik_49, kf_50, kf_51, ik_52, ik_53, ik_54, kf_55, kf_56, ik_57, kf_58, ik_59, ik_60, ik_61, ik_62, ik_63, ik_64, ik_65, ik_66, ik_67, ik_68, ik_69, ik_70, ik_71, ik_72, ik_73, ik_74, rq_0_0, rq_0_1, rq_0_2, rq_0_3, rq_0_4, rq_0_5, rq_0_6, rq_0_7, rq_0_8, rq_8_0, rq_10_0, rq_10_1, rq_10_2, rq_30_0, rq_30_1, rq_30_2, rq_50_0, rq_51_0, rq_51_1, rq_51_2, rq_51_3, rq_51_4, rq_51_5, rq_56_0, rq_56_1, rq_56_2, rq_58_1, rq_58_3, rq_58_4, rq_58_5, rq_58_7, rq_58_8, rq_58_11, rq_58_12, rq_58_13, rq_58_14, rq_58_15, rq_58_25, rq_58_26, rq_58_29, rq_58_30, rq_58_31, rq_3, rq_11, rq_31, rq_law, rv_s, cl_i, cl_r, cl_n, tl_s, tl_n, kont_some, le4_0, le4_1, le4_2, le4_3, le4_4, eq_self, or_true, true_or, and_true, true_and, nI_1, Int32.add_zero, nI_0, Int32.lt_irrefl, show ¬ ((126 : Int32) < 0) by decide]
          try simp
        · by_cases z3 : manyN w i = i
          · simp only [z0, z1, z2, z3, c4, bi, ↓reduceIte, not_true_eq_false, not_false_eq_true, decide_true, decide_false, Bool.true_and, Bool.or_true, Bool.and_true, e122_0, e122_1, e122_2, e122_3, e122_5, e122_6, e122_8, e122_9, e122_13, e122_15, e122_18, e122_20, e122_23, e122_24, e122_25, e122_27, e122_29, e122_31, e122_32, e122_34, e122_36, e122_39, e122_41, e122_43, e122_46, e122_48, e122_51, e122_52, e122_54, e122_57, e122_58, e122_61, e122_62, e122_64, e122_65, e122_67, e122_70, e122_71, e122_74, e122_75, e122_76, e122_77, e122_80, e122_85, e122_88, e122_90, e122_91, e122_92, e122_95, e122_96, e122_97, e122_99, e122_102, e122_104, e122_105, e122_106, e122_108, e122_110, e122_111, e122_114, e122_115, e122_118, e122_119, e122_122, e122_123, e122_125, e122_127, e122_128, e122_129, e122_132, e122_133, e122_134, e122_135, e122_136, e122_136r, e122_137, e122_140, e122_141, e122_142, e122_145, e122_148, e122_151, e122_152, e122_155, kf_0, ik_1, ik_2, ik_3, kf_8, ik_9, kf_10, ik_11, ik_28, ik_29, kf_30, ik_31, ik_48, ik_49, kf_50, kf_51, ik_52, ik_53, ik_54, kf_55, kf_56, ik_57, kf_58, ik_59, ik_60, ik_61, ik_62, ik_63, ik_64, ik_65, ik_66, ik_67, ik_68, ik_69, ik_70, ik_71, ik_72, ik_73, ik_74, rq_0_0, rq_0_1, rq_0_2, rq_0_3, rq_0_4, rq_0_5, rq_0_6, rq_0_7, rq_0_8, rq_8_0, rq_10_0, rq_10_1, rq_10_2, rq_30_0, rq_30_1, rq_30_2, rq_50_0, rq_51_0, rq_51_1, rq_51_2, rq_51_3, rq_51_4, rq_51_5, rq_56_0, rq_56_1, rq_56_2, rq_58_1, rq_58_3, rq_58_4, rq_58_5, rq_58_7, rq_58_8, rq_58_11, rq_58_12, rq_58_13, rq_58_14, rq_58_15, rq_58_25, rq_58_26, rq_58_29, rq_58_30, rq_58_31, rq_3, rq_11, rq_31, rq_law, rv_s, cl_i, cl_r, cl_n, tl_s, tl_n, kont_some, le4_0, le4_1, le4_2, le4_3, le4_4, eq_self, or_true, true_or, and_true, true_and, nI_1]
          · simp only [z0, z1, z2, z3, c4, bi, ↓reduceIte, not_true_eq_false, not_false_eq_true, decide_true, decide_false, Bool.true_and, Bool.or_false, Bool.and_false, Bool.false_eq_true, e122_0, e122_1, e122_2, e122_3, e122_5, e122_6, e122_8, e122_9, e122_13, e122_15, e122_18, e122_20, e122_23, e122_24, e122_25, e122_27, e122_29, e122_31, e122_32, e122_34, e122_36, e122_39, e122_41, e122_43, e122_46, e122_48, e122_51, e122_52, e122_54, e122_57, e122_58, e122_61, e122_62, e122_64, e122_65, e122_67, e122_70, e122_71, e122_74, e122_75, e122_76, e122_77, e122_80, e122_85, e122_88, e122_90, e122_91, e122_92, e122_95, e122_96, e122_97, e122_99, e122_102, e122_104, e122_105, e122_106, e122_108, e122_110, e122_111, e122_114, e122_115, e122_118, e122_119, e122_122, e122_123, e122_125, e122_127, e122_128, e122_129, e122_132, e122_133, e122_134, e122_135, e122_136, e122_136r, e122_137, e122_140, e122_141, e122_142, e122_145, e122_148, e122_151, e122_152, e122_155, kf_0, ik_1, ik_2, ik_3, kf_8, ik_9, kf_10, ik_11, ik_28, ik_29, kf_30, ik_31, ik_48, ik_49, kf_50, kf_51, ik_52, ik_53, ik_54, kf_55, kf_56, ik_57, kf_58, ik_59, ik_60, ik_61, ik_62, ik_63, ik_64, ik_65, ik_66, ik_67, ik_68, ik_69, ik_70, ik_71, ik_72, ik_73, ik_74, rq_0_0, rq_0_1, rq_0_2, rq_0_3, rq_0_4, rq_0_5, rq_0_6, rq_0_7, rq_0_8, rq_8_0, rq_10_0, rq_10_1, rq_10_2, rq_30_0, rq_30_1, rq_30_2, rq_50_0, rq_51_0, rq_51_1, rq_51_2, rq_51_3, rq_51_4, rq_51_5, rq_56_0, rq_56_1, rq_56_2, rq_58_1, rq_58_3, rq_58_4, rq_58_5, rq_58_7, rq_58_8, rq_58_11, rq_58_12, rq_58_13, rq_58_14, rq_58_15, rq_58_25, rq_58_26, rq_58_29, rq_58_30, rq_58_31, rq_3, rq_11, rq_31, rq_law, rv_s, cl_i, cl_r, cl_n, tl_s, tl_n, kont_some, le4_0, le4_1, le4_2, le4_3, le4_4, eq_self, or_true, true_or, and_true, true_and, nI_1]
    · have z0' : goodN w i = false := by simpa using z0
      by_cases z2 : byN w i = 0
      · simp only [z0', z2, bi, ↓reduceIte, not_true_eq_false, not_false_eq_true, Bool.false_and, Bool.false_eq_true, e122_0, e122_1, e122_2, e122_3, e122_5, e122_6, e122_8, e122_9, e122_13, e122_15, e122_18, e122_20, e122_23, e122_24, e122_25, e122_27, e122_29, e122_31, e122_32, e122_34, e122_36, e122_39, e122_41, e122_43, e122_46, e122_48, e122_51, e122_52, e122_54, e122_57, e122_58, e122_61, e122_62, e122_64, e122_65, e122_67, e122_70, e122_71, e122_74, e122_75, e122_76, e122_77, e122_80, e122_85, e122_88, e122_90, e122_91, e122_92, e122_95, e122_96, e122_97, e122_99, e122_102, e122_104, e122_105, e122_106, e122_108, e122_110, e122_111, e122_114, e122_115, e122_118, e122_119, e122_122, e122_123, e122_125, e122_127, e122_128, e122_129, e122_132, e122_133, e122_134, e122_135, e122_136, e122_136r, e122_137, e122_140, e122_141, e122_142, e122_145, e122_148, e122_151, e122_152, e122_155, kf_0, ik_1, ik_2, ik_3, kf_8, ik_9, kf_10, ik_11, ik_28, ik_29, kf_30, ik_31, ik_48, ik_49, kf_50, kf_51, ik_52, ik_53, ik_54, kf_55, kf_56, ik_57, kf_58, ik_59, ik_60, ik_61, ik_62, ik_63, ik_64, ik_65, ik_66, ik_67, ik_68, ik_69, ik_70, ik_71, ik_72, ik_73, ik_74, rq_0_0, rq_0_1, rq_0_2, rq_0_3, rq_0_4, rq_0_5, rq_0_6, rq_0_7, rq_0_8, rq_8_0, rq_10_0, rq_10_1, rq_10_2, rq_30_0, rq_30_1, rq_30_2, rq_50_0, rq_51_0, rq_51_1, rq_51_2, rq_51_3, rq_51_4, rq_51_5, rq_56_0, rq_56_1, rq_56_2, rq_58_1, rq_58_3, rq_58_4, rq_58_5, rq_58_7, rq_58_8, rq_58_11, rq_58_12, rq_58_13, rq_58_14, rq_58_15, rq_58_25, rq_58_26, rq_58_29, rq_58_30, rq_58_31, rq_3, rq_11, rq_31, rq_law, rv_s, cl_i, cl_r, cl_n, tl_s, tl_n, kont_some, le4_0, le4_1, le4_2, le4_3, le4_4, eq_self, or_true, true_or, and_true, true_and, nI_1, Int32.add_zero, nI_0, Int32.lt_irrefl]
        try simp
      · simp only [z0', z2, c4, bi, ↓reduceIte, not_true_eq_false, not_false_eq_true, Bool.false_and, Bool.false_eq_true, e122_0, e122_1, e122_2, e122_3, e122_5, e122_6, e122_8, e122_9, e122_13, e122_15, e122_18, e122_20, e122_23, e122_24, e122_25, e122_27, e122_29, e122_31, e122_32, e122_34, e122_36, e122_39, e122_41, e122_43, e122_46, e122_48, e122_51, e122_52, e122_54, e122_57, e122_58, e122_61, e122_62, e122_64, e122_65, e122_67, e122_70, e122_71, e122_74, e122_75, e122_76, e122_77, e122_80, e122_85, e122_88, e122_90, e122_91, e122_92, e122_95, e122_96, e122_97, e122_99, e122_102, e122_104, e122_105, e122_106, e122_108, e122_110, e122_111, e122_114, e122_115, e122_118, e122_119, e122_122, e122_123, e122_125, e122_127, e122_128, e122_129, e122_132, e122_133, e122_134, e122_135, e122_136, e122_136r, e122_137, e122_140, e122_141, e122_142, e122_145, e122_148, e122_151, e122_152, e122_155, kf_0, ik_1, ik_2, ik_3, kf_8, ik_9, kf_10, ik_11, ik_28, ik_29, kf_30, ik_31, ik_48, ik_49, kf_50, kf_51, ik_52, ik_53, ik_54, kf_55, kf_56, ik_57, kf_58, ik_59, ik_60, ik_61, ik_62, ik_63, ik_64, ik_65, ik_66, ik_67, ik_68, ik_69, ik_70, ik_71, ik_72, ik_73, ik_74, rq_0_0, rq_0_1, rq_0_2, rq_0_3, rq_0_4, rq_0_5, rq_0_6, rq_0_7, rq_0_8, rq_8_0, rq_10_0, rq_10_1, rq_10_2, rq_30_0, rq_30_1, rq_30_2, rq_50_0, rq_51_0, rq_51_1, rq_51_2, rq_51_3, rq_51_4, rq_51_5, rq_56_0, rq_56_1, rq_56_2, rq_58_1, rq_58_3, rq_58_4, rq_58_5, rq_58_7, rq_58_8, rq_58_11, rq_58_12, rq_58_13, rq_58_14, rq_58_15, rq_58_25, rq_58_26, rq_58_29, rq_58_30, rq_58_31, rq_3, rq_11, rq_31, rq_law, rv_s, cl_i, cl_r, cl_n, tl_s, tl_n, kont_some, le4_0, le4_1, le4_2, le4_3, le4_4, eq_self, or_true, true_or, and_true, true_and, nI_1])
  have e1 : bi (goodN w 0 = true) = 1 := rfl
  rw [e1, nI_0] at key
  refine key.trans ?_
  rw [e122_11]
  simp only [e122_0, e122_1, e122_2, e122_3, e122_5, e122_6, e122_8, e122_9, e122_13, e122_15, e122_18, e122_20, e122_23, e122_24, e122_25, e122_27, e122_29, e122_31, e122_32, e122_34, e122_36, e122_39, e122_41, e122_43, e122_46, e122_48, e122_51, e122_52, e122_54, e122_57, e122_58, e122_61, e122_62, e122_64, e122_65, e122_67, e122_70, e122_71, e122_74, e122_75, e122_76, e122_77, e122_80, e122_85, e122_88, e122_90, e122_91, e122_92, e122_95, e122_96, e122_97, e122_99, e122_102, e122_104, e122_105, e122_106, e122_108, e122_110, e122_111, e122_114, e122_115, e122_118, e122_119, e122_122, e122_123, e122_125, e122_127, e122_128, e122_129, e122_132, e122_133, e122_134, e122_135, e122_136, e122_136r, e122_137, e122_140, e122_141, e122_142, e122_145, e122_148, e122_151, e122_152, e122_155, kf_0, ik_1, ik_2, ik_3, kf_8, ik_9, kf_10, ik_11, ik_28, ik_29, kf_30, ik_31, ik_48, ik_49, kf_50, kf_51, ik_52, ik_53, ik_54, kf_55, kf_56, ik_57, kf_58, ik_59, ik_60, ik_61, ik_62, ik_63, ik_64, ik_65, ik_66, ik_67, ik_68, ik_69, ik_70, ik_71, ik_72, ik_73, ik_74, rq_0_0, rq_0_1, rq_0_2, rq_0_3, rq_0_4, rq_0_5, rq_0_6, rq_0_7, rq_0_8, rq_8_0, rq_10_0, rq_10_1, rq_10_2, rq_30_0, rq_30_1, rq_30_2, rq_50_0, rq_51_0, rq_51_1, rq_51_2, rq_51_3, rq_51_4, rq_51_5, rq_56_0, rq_56_1, rq_56_2, rq_58_1, rq_58_3, rq_58_4, rq_58_5, rq_58_7, rq_58_8, rq_58_11, rq_58_12, rq_58_13, rq_58_14, rq_58_15, rq_58_25, rq_58_26, rq_58_29, rq_58_30, rq_58_31, rq_3, rq_11, rq_31, rq_law, rv_s, cl_i, cl_r, cl_n, tl_s, tl_n, kont_some, le4_0, le4_1, le4_2, le4_3, le4_4, eq_self, or_true, true_or, and_true, true_and, show ¬ (nI 8 < 8) by decide, ↓reduceIte]
def pgM (G : SG) (pg : Nat) (w : Int64) (i : Nat) : SG := up2 (pgX G 64 pg w i) 58 9 (nI (pg + i))
theorem pgM_0 {G : SG} {pg : Nat} (w : Int64) (h : G 58 9 = nI pg) : pgM G pg w 0 = G := by
  unfold pgM
  rw [pgX_0, Nat.add_zero, ← h, up2_self]
theorem pgM_9 (G : SG) (pg : Nat) (w : Int64) (i : Nat) : pgM G pg w i 58 9 = nI (pg + i) := by
  unfold pgM
  rw [up2_at, if_pos ⟨rfl, rfl⟩]
theorem up2_comm {f : SG} {c k c' k' : Nat} {v v' : Int32} (h : c ≠ c') : up2 (up2 f c k v) c' k' v' = up2 (up2 f c' k' v') c k v := by
  funext a b
  simp only [up2_at]
  by_cases h1 : a = c
  · have : ¬ a = c' := by omega
    simp [h1, h]
  · simp [h1]
theorem pgM_p (G : SG) (pg : Nat) (w : Int64) (i : Nat) : up2 (up2 (pgM G pg w i) 64 (pg + i) (nI (byN w i))) 58 9 (nI (pg + i + 1)) = pgM G pg w (i + 1) := by
  unfold pgM
  rw [up2_comm (show 58 ≠ 64 by omega), pgX_p, up2_same]
  rfl
theorem s122 (w : Int64) (h9 : G 58 9 = nI pg) (hg : goodN w 8 = true) (hp : pg + manyN w 8 ≤ 16) : run 122 [.ref (58 : Nat), .long w] KF G J (RQ q) = some ((KF, pgM G pg w (manyN w 8), J, RQ q), some (.int (nI (pg + manyN w 8)))) := by
  have hm8 := many_le w 8
  have f1 : ((16 : Int32) < nI (pg + manyN w 8)) = False := eq_false (nI_nlt (b := pg + manyN w 8) (a := 16) hp (by omega))
  have ha := h122a (G := G) (J := J) (q := q) w
  generalize manyN w 8 = mm at hp hm8 f1 ha ⊢
  have key : ∀ (o4 o5 o8 : Option Value), ev 122 108 [some (.ref (58 : Nat)), some (.long w), none, some (.int (nI mm)), o4, o5, none, some (.int (nI 0)), o8] [] KF (pgM G pg w 0) J (RQ q) = ev 122 108 [some (.ref (58 : Nat)), some (.long w), none, some (.int (nI mm)), o4, o5, none, some (.int (nI mm)), o8] [] KF (pgM G pg w mm) J (RQ q) := fun o4 o5 o8 => iter (fun i => ev 122 108 [some (.ref (58 : Nat)), some (.long w), none, some (.int (nI mm)), o4, o5, none, some (.int (nI i)), o8] [] KF (pgM G pg w i) J (RQ q)) mm (fun i hi => by
    have g0 := lt_nI hi (show mm < 2147483648 by omega)
    have g1 := inb_nI (show pg + i < 16 by omega) (show 16 < 2147483648 by omega)
    have g2 := cl_nI (show pg + i < 2147483648 by omega)
    have r9 : ∀ v, up2 (pgM G pg w i) 64 (pg + i) v 58 9 = nI (pg + i) := fun v => by rw [fr_tac (by omega), pgM_9]
    rw [e122_108]
    simp only [e122_0, e122_1, e122_2, e122_3, e122_5, e122_6, e122_8, e122_9, e122_11, e122_13, e122_15, e122_18, e122_20, e122_23, e122_24, e122_25, e122_27, e122_29, e122_31, e122_32, e122_34, e122_36, e122_39, e122_41, e122_43, e122_46, e122_48, e122_51, e122_52, e122_54, e122_57, e122_58, e122_61, e122_62, e122_64, e122_65, e122_67, e122_70, e122_71, e122_74, e122_75, e122_76, e122_77, e122_80, e122_83, e122_85, e122_88, e122_90, e122_91, e122_92, e122_95, e122_96, e122_97, e122_99, e122_102, e122_104, e122_105, e122_106, e122_110, e122_111, e122_114, e122_115, e122_118, e122_119, e122_122, e122_123, e122_125, e122_127, e122_128, e122_129, e122_132, e122_133, e122_134, e122_135, e122_136, e122_136r, e122_137, e122_140, e122_141, e122_142, e122_145, e122_148, e122_151, e122_152, e122_155, kf_0, ik_1, ik_2, ik_3, kf_8, ik_9, kf_10, ik_11, ik_28, ik_29, kf_30, ik_31, ik_48, ik_49, kf_50, kf_51, ik_52, ik_53, ik_54, kf_55, kf_56, ik_57, kf_58, ik_59, ik_60, ik_61, ik_62, ik_63, ik_64, ik_65, ik_66, ik_67, ik_68, ik_69, ik_70, ik_71, ik_72, ik_73, ik_74, rq_0_0, rq_0_1, rq_0_2, rq_0_3, rq_0_4, rq_0_5, rq_0_6, rq_0_7, rq_0_8, rq_8_0, rq_10_0, rq_10_1, rq_10_2, rq_30_0, rq_30_1, rq_30_2, rq_50_0, rq_51_0, rq_51_1, rq_51_2, rq_51_3, rq_51_4, rq_51_5, rq_56_0, rq_56_1, rq_56_2, rq_58_1, rq_58_3, rq_58_4, rq_58_5, rq_58_7, rq_58_8, rq_58_11, rq_58_12, rq_58_13, rq_58_14, rq_58_15, rq_58_25, rq_58_26, rq_58_29, rq_58_30, rq_58_31, rq_3, rq_11, rq_31, rq_law, rv_s, cl_i, cl_r, cl_n, tl_s, tl_n, kont_some, le4_0, le4_1, le4_2, le4_3, le4_4, eq_self, or_true, true_or, and_true, true_and, pgM_9, g0, g1, g2, shr_eq, mb_eq, r9, nI_1, pgM_p, ↓reduceIte])
  rw [pgM_0 w h9, nI_0] at key
  rw [run_122]
  simp only [e122_0, e122_1, e122_2, e122_3, e122_5, e122_6, e122_8, e122_9, e122_13, e122_15, e122_18, e122_20, e122_23, e122_24, e122_25, e122_27, e122_29, e122_31, e122_32, e122_34, e122_36, e122_39, e122_41, e122_43, e122_46, e122_48, e122_51, e122_52, e122_54, e122_57, e122_58, e122_61, e122_62, e122_64, e122_65, e122_67, e122_70, e122_71, e122_74, e122_75, e122_76, e122_77, e122_80, e122_85, e122_88, e122_90, e122_91, e122_92, e122_95, e122_96, e122_97, e122_99, e122_102, e122_104, e122_105, e122_106, e122_110, e122_111, e122_114, e122_115, e122_118, e122_119, e122_122, e122_123, e122_125, e122_127, e122_128, e122_129, e122_132, e122_133, e122_134, e122_135, e122_136, e122_136r, e122_137, e122_140, e122_141, e122_142, e122_145, e122_148, e122_151, e122_152, e122_155, kf_0, ik_1, ik_2, ik_3, kf_8, ik_9, kf_10, ik_11, ik_28, ik_29, kf_30, ik_31, ik_48, ik_49, kf_50, kf_51, ik_52, ik_53, ik_54, kf_55, kf_56, ik_57, kf_58, ik_59, ik_60, ik_61, ik_62, ik_63, ik_64, ik_65, ik_66, ik_67, ik_68, ik_69, ik_70, ik_71, ik_72, ik_73, ik_74, rq_0_0, rq_0_1, rq_0_2, rq_0_3, rq_0_4, rq_0_5, rq_0_6, rq_0_7, rq_0_8, rq_8_0, rq_10_0, rq_10_1, rq_10_2, rq_30_0, rq_30_1, rq_30_2, rq_50_0, rq_51_0, rq_51_1, rq_51_2, rq_51_3, rq_51_4, rq_51_5, rq_56_0, rq_56_1, rq_56_2, rq_58_1, rq_58_3, rq_58_4, rq_58_5, rq_58_7, rq_58_8, rq_58_11, rq_58_12, rq_58_13, rq_58_14, rq_58_15, rq_58_25, rq_58_26, rq_58_29, rq_58_30, rq_58_31, rq_3, rq_11, rq_31, rq_law, rv_s, cl_i, cl_r, cl_n, tl_s, tl_n, kont_some, le4_0, le4_1, le4_2, le4_3, le4_4, eq_self, or_true, true_or, and_true, true_and]
  refine ha.trans ?_
  rw [e122_83]
  simp only [e122_0, e122_1, e122_2, e122_3, e122_5, e122_6, e122_8, e122_9, e122_13, e122_15, e122_18, e122_20, e122_23, e122_24, e122_25, e122_27, e122_29, e122_31, e122_32, e122_34, e122_36, e122_39, e122_41, e122_43, e122_46, e122_48, e122_51, e122_52, e122_54, e122_57, e122_58, e122_61, e122_62, e122_64, e122_65, e122_67, e122_70, e122_71, e122_74, e122_75, e122_76, e122_77, e122_80, e122_85, e122_88, e122_90, e122_91, e122_92, e122_95, e122_96, e122_97, e122_99, e122_102, e122_104, e122_105, e122_106, e122_110, e122_111, e122_114, e122_115, e122_118, e122_119, e122_122, e122_123, e122_125, e122_127, e122_128, e122_129, e122_132, e122_133, e122_134, e122_135, e122_136, e122_136r, e122_137, e122_140, e122_141, e122_142, e122_145, e122_148, e122_151, e122_152, e122_155, kf_0, ik_1, ik_2, ik_3, kf_8, ik_9, kf_10, ik_11, ik_28, ik_29, kf_30, ik_31, ik_48, ik_49, kf_50, kf_51, ik_52, ik_53, ik_54, kf_55, kf_56, ik_57, kf_58, ik_59, ik_60, ik_61, ik_62, ik_63, ik_64, ik_65, ik_66, ik_67, ik_68, ik_69, ik_70, ik_71, ik_72, ik_73, ik_74, rq_0_0, rq_0_1, rq_0_2, rq_0_3, rq_0_4, rq_0_5, rq_0_6, rq_0_7, rq_0_8, rq_8_0, rq_10_0, rq_10_1, rq_10_2, rq_30_0, rq_30_1, rq_30_2, rq_50_0, rq_51_0, rq_51_1, rq_51_2, rq_51_3, rq_51_4, rq_51_5, rq_56_0, rq_56_1, rq_56_2, rq_58_1, rq_58_3, rq_58_4, rq_58_5, rq_58_7, rq_58_8, rq_58_11, rq_58_12, rq_58_13, rq_58_14, rq_58_15, rq_58_25, rq_58_26, rq_58_29, rq_58_30, rq_58_31, rq_3, rq_11, rq_31, rq_law, rv_s, cl_i, cl_r, cl_n, tl_s, tl_n, kont_some, le4_0, le4_1, le4_2, le4_3, le4_4, eq_self, or_true, true_or, and_true, true_and, bi_0, hg, h9, nI_add, f1, ↓reduceIte, not_true_eq_false]
  refine (key _ _ _).trans ?_
  rw [e122_108]
  simp only [e122_0, e122_1, e122_2, e122_3, e122_5, e122_6, e122_8, e122_9, e122_13, e122_15, e122_18, e122_20, e122_23, e122_24, e122_25, e122_27, e122_29, e122_31, e122_32, e122_34, e122_36, e122_39, e122_41, e122_43, e122_46, e122_48, e122_51, e122_52, e122_54, e122_57, e122_58, e122_61, e122_62, e122_64, e122_65, e122_67, e122_70, e122_71, e122_74, e122_75, e122_76, e122_77, e122_80, e122_85, e122_88, e122_90, e122_91, e122_92, e122_95, e122_96, e122_97, e122_99, e122_102, e122_104, e122_105, e122_106, e122_110, e122_111, e122_114, e122_115, e122_118, e122_119, e122_122, e122_123, e122_125, e122_127, e122_128, e122_129, e122_132, e122_133, e122_134, e122_135, e122_136, e122_136r, e122_137, e122_140, e122_141, e122_142, e122_145, e122_148, e122_151, e122_152, e122_155, kf_0, ik_1, ik_2, ik_3, kf_8, ik_9, kf_10, ik_11, ik_28, ik_29, kf_30, ik_31, ik_48, ik_49, kf_50, kf_51, ik_52, ik_53, ik_54, kf_55, kf_56, ik_57, kf_58, ik_59, ik_60, ik_61, ik_62, ik_63, ik_64, ik_65, ik_66, ik_67, ik_68, ik_69, ik_70, ik_71, ik_72, ik_73, ik_74, rq_0_0, rq_0_1, rq_0_2, rq_0_3, rq_0_4, rq_0_5, rq_0_6, rq_0_7, rq_0_8, rq_8_0, rq_10_0, rq_10_1, rq_10_2, rq_30_0, rq_30_1, rq_30_2, rq_50_0, rq_51_0, rq_51_1, rq_51_2, rq_51_3, rq_51_4, rq_51_5, rq_56_0, rq_56_1, rq_56_2, rq_58_1, rq_58_3, rq_58_4, rq_58_5, rq_58_7, rq_58_8, rq_58_11, rq_58_12, rq_58_13, rq_58_14, rq_58_15, rq_58_25, rq_58_26, rq_58_29, rq_58_30, rq_58_31, rq_3, rq_11, rq_31, rq_law, rv_s, cl_i, cl_r, cl_n, tl_s, tl_n, kont_some, le4_0, le4_1, le4_2, le4_3, le4_4, eq_self, or_true, true_or, and_true, true_and, pgM_9, Int32.lt_irrefl, ↓reduceIte]
theorem same_letters (w : Int64) : SAME 68 122 [.long w] := same_of (fun G J q np nf nl pg n D hq hR => by
  have hR' := hR
  obtain ⟨a1, a2, a3, a4, a5, a6, a7, a8, a9⟩ := hR
  have hpg := a6.2.2.1
  have hm8 := many_le w 8
  by_cases hg : goodN w 8 = true
  · by_cases hp : pg + manyN w 8 ≤ 16
    · have hx := s39 (J := J) (q := q) w a6.1 hg hp
      have b9 : up2 (pgX G 9 pg w (manyN w 8)) 8 1 (nI (pg + manyN w 8)) 58 9 = nI pg := by rw [fr_tac (by omega), pgX_ne (by omega)]; exact a6.2.1
      have hm := s122 (J := J) (q := q) w b9 hg hp
      have e : ∀ c s, c ≠ 9 → c ≠ 64 → ¬ (c = 8 ∧ s = 1) → ¬ (c = 58 ∧ s = 9) → pgM (up2 (pgX G 9 pg w (manyN w 8)) 8 1 (nI (pg + manyN w 8))) pg w (manyN w 8) c s = G c s := fun c s z1 z2 z3 z4 => by
        unfold pgM
        rw [fr_tac z4, pgX_ne z2, fr_tac z3, pgX_ne z1]
      refine ⟨_, _, J, J, q, q, .int (nI (pg + manyN w 8)), hq, ⟨np, nf, nl, pg + manyN w 8, n, D, a1.c (fun c s hc => e c s (by omega) (by omega) (by omega) (by omega)), a2.c (fun c s hc => e c s (by omega) (by omega) (by omega) (by omega)), a3.c (fun c s hc => e c s (by omega) (by omega) (by omega) (by omega)), a4.c (fun c s hc => e c s (by omega) (by omega) (by omega) (by omega)), a5.c (fun c s hc => e c s (by omega) (by omega) (by omega) (by omega)), ⟨?_, pgM_9 _ _ _ _, hp, fun i hi => ?_⟩, a7.c (fun c s hc => e c s (by omega) (by omega) (by omega) (by omega)), a8.c (fun c s hc => e c s (by omega) (by omega) (by omega) (by omega)), a9.c (fun c s hc => e c s (by omega) (by omega) (by omega) (by omega))⟩, ?_, hm⟩
      · unfold pgM
        rw [fr_tac (by omega), pgX_ne (by omega), up2_at, if_pos ⟨rfl, rfl⟩]
      · have r1 : pgM (up2 (pgX G 9 pg w (manyN w 8)) 8 1 (nI (pg + manyN w 8))) pg w (manyN w 8) 9 i = pgX G 9 pg w (manyN w 8) 9 i := by
          unfold pgM
          rw [fr_tac (by omega), pgX_ne (by omega), fr_tac (by omega)]
        have r2 : pgM (up2 (pgX G 9 pg w (manyN w 8)) 8 1 (nI (pg + manyN w 8))) pg w (manyN w 8) 64 i = pgX G 64 pg w (manyN w 8) 64 i := by
          unfold pgM
          rw [fr_tac (by omega)]
          unfold pgX
          by_cases z : 64 = 64 ∧ pg ≤ i ∧ i < pg + manyN w 8
          · rw [if_pos z, if_pos z]
          · rw [if_neg z, if_neg z, fr_tac (by omega), if_neg (by omega)]
        rw [r1, r2]
        unfold pgX
        by_cases z : pg ≤ i
        · rw [if_pos (by omega), if_pos (by omega)]
          exact ⟨rfl, byN w (i - pg), good_126 hg (by omega), rfl⟩
        · rw [if_neg (by omega), if_neg (by omega)]
          exact a6.2.2.2 i (by omega)
      · rw [run_68]
        simp only [e68_0, e68_1, e68_4, e68_5, e68_8, kf_0, ik_1, ik_2, ik_3, kf_8, ik_9, kf_10, ik_11, ik_28, ik_29, kf_30, ik_31, ik_48, ik_49, kf_50, kf_51, ik_52, ik_53, ik_54, kf_55, kf_56, ik_57, kf_58, ik_59, ik_60, ik_61, ik_62, ik_63, ik_64, ik_65, ik_66, ik_67, ik_68, ik_69, ik_70, ik_71, ik_72, ik_73, ik_74, rq_0_0, rq_0_1, rq_0_2, rq_0_3, rq_0_4, rq_0_5, rq_0_6, rq_0_7, rq_0_8, rq_8_0, rq_10_0, rq_10_1, rq_10_2, rq_30_0, rq_30_1, rq_30_2, rq_50_0, rq_51_0, rq_51_1, rq_51_2, rq_51_3, rq_51_4, rq_51_5, rq_56_0, rq_56_1, rq_56_2, rq_58_1, rq_58_3, rq_58_4, rq_58_5, rq_58_7, rq_58_8, rq_58_11, rq_58_12, rq_58_13, rq_58_14, rq_58_15, rq_58_25, rq_58_26, rq_58_29, rq_58_30, rq_58_31, rq_3, rq_11, rq_31, rq_law, rv_s, cl_i, cl_r, cl_n, tl_s, tl_n, kont_some, le4_0, le4_1, le4_2, le4_3, le4_4, eq_self, or_true, true_or, and_true, true_and, hx]
    · have f0 : (nI (manyN w 8) = -1) = False := nI_ne_m1 (by omega)
      have f1 : ((16 : Int32) < nI (pg + manyN w 8)) = True := eq_true (nI_lt (a := 16) (by omega) (by omega))
      refine ⟨G, G, J, J, q, q, .int (-104), hq, ⟨np, nf, nl, pg, n, D, hR'⟩, ?_, ?_⟩
      · rw [run_68]
        simp only [e68_0, e68_1, e68_4, e68_5, e68_8, kf_0, ik_1, ik_2, ik_3, kf_8, ik_9, kf_10, ik_11, ik_28, ik_29, kf_30, ik_31, ik_48, ik_49, kf_50, kf_51, ik_52, ik_53, ik_54, kf_55, kf_56, ik_57, kf_58, ik_59, ik_60, ik_61, ik_62, ik_63, ik_64, ik_65, ik_66, ik_67, ik_68, ik_69, ik_70, ik_71, ik_72, ik_73, ik_74, rq_0_0, rq_0_1, rq_0_2, rq_0_3, rq_0_4, rq_0_5, rq_0_6, rq_0_7, rq_0_8, rq_8_0, rq_10_0, rq_10_1, rq_10_2, rq_30_0, rq_30_1, rq_30_2, rq_50_0, rq_51_0, rq_51_1, rq_51_2, rq_51_3, rq_51_4, rq_51_5, rq_56_0, rq_56_1, rq_56_2, rq_58_1, rq_58_3, rq_58_4, rq_58_5, rq_58_7, rq_58_8, rq_58_11, rq_58_12, rq_58_13, rq_58_14, rq_58_15, rq_58_25, rq_58_26, rq_58_29, rq_58_30, rq_58_31, rq_3, rq_11, rq_31, rq_law, rv_s, cl_i, cl_r, cl_n, tl_s, tl_n, kont_some, le4_0, le4_1, le4_2, le4_3, le4_4, eq_self, or_true, true_or, and_true, true_and]
        rw [run_39]
        simp only [e39_0, e39_1, e39_4, e39_5, e39_6, e39_7, e39_10, e39_12, e39_13, e39_14, e39_17, e39_18, e39_19, e39_21, e39_24, e39_26, e39_27, e39_28, e39_32, e39_33, e39_36, e39_37, e39_40, e39_41, e39_44, e39_46, e39_47, e39_48, e39_50, e39_53, e39_54, e39_57, e39_60, e39_61, e39_61r, e39_62, e39_65, e39_66, e39_67, e39_70, e39_71, e39_74, e68_0, e68_1, e68_4, e68_5, e68_8, kf_0, ik_1, ik_2, ik_3, kf_8, ik_9, kf_10, ik_11, ik_28, ik_29, kf_30, ik_31, ik_48, ik_49, kf_50, kf_51, ik_52, ik_53, ik_54, kf_55, kf_56, ik_57, kf_58, ik_59, ik_60, ik_61, ik_62, ik_63, ik_64, ik_65, ik_66, ik_67, ik_68, ik_69, ik_70, ik_71, ik_72, ik_73, ik_74, rq_0_0, rq_0_1, rq_0_2, rq_0_3, rq_0_4, rq_0_5, rq_0_6, rq_0_7, rq_0_8, rq_8_0, rq_10_0, rq_10_1, rq_10_2, rq_30_0, rq_30_1, rq_30_2, rq_50_0, rq_51_0, rq_51_1, rq_51_2, rq_51_3, rq_51_4, rq_51_5, rq_56_0, rq_56_1, rq_56_2, rq_58_1, rq_58_3, rq_58_4, rq_58_5, rq_58_7, rq_58_8, rq_58_11, rq_58_12, rq_58_13, rq_58_14, rq_58_15, rq_58_25, rq_58_26, rq_58_29, rq_58_30, rq_58_31, rq_3, rq_11, rq_31, rq_law, rv_s, cl_i, cl_r, cl_n, tl_s, tl_n, kont_some, le4_0, le4_1, le4_2, le4_3, le4_4, eq_self, or_true, true_or, and_true, true_and, s40, hg, f0, a6.1, nI_add, f1, ↓reduceIte]
      · rw [run_122]
        simp only [e122_0, e122_1, e122_2, e122_3, e122_5, e122_6, e122_8, e122_9, e122_13, e122_15, e122_18, e122_20, e122_23, e122_24, e122_25, e122_27, e122_29, e122_31, e122_32, e122_34, e122_36, e122_39, e122_41, e122_43, e122_46, e122_48, e122_51, e122_52, e122_54, e122_57, e122_58, e122_61, e122_62, e122_64, e122_65, e122_67, e122_70, e122_71, e122_74, e122_75, e122_76, e122_77, e122_80, e122_85, e122_88, e122_90, e122_91, e122_92, e122_95, e122_96, e122_97, e122_99, e122_102, e122_104, e122_105, e122_106, e122_110, e122_111, e122_114, e122_115, e122_118, e122_119, e122_122, e122_123, e122_125, e122_127, e122_128, e122_129, e122_132, e122_133, e122_134, e122_135, e122_136, e122_136r, e122_137, e122_140, e122_141, e122_142, e122_145, e122_148, e122_151, e122_152, e122_155, kf_0, ik_1, ik_2, ik_3, kf_8, ik_9, kf_10, ik_11, ik_28, ik_29, kf_30, ik_31, ik_48, ik_49, kf_50, kf_51, ik_52, ik_53, ik_54, kf_55, kf_56, ik_57, kf_58, ik_59, ik_60, ik_61, ik_62, ik_63, ik_64, ik_65, ik_66, ik_67, ik_68, ik_69, ik_70, ik_71, ik_72, ik_73, ik_74, rq_0_0, rq_0_1, rq_0_2, rq_0_3, rq_0_4, rq_0_5, rq_0_6, rq_0_7, rq_0_8, rq_8_0, rq_10_0, rq_10_1, rq_10_2, rq_30_0, rq_30_1, rq_30_2, rq_50_0, rq_51_0, rq_51_1, rq_51_2, rq_51_3, rq_51_4, rq_51_5, rq_56_0, rq_56_1, rq_56_2, rq_58_1, rq_58_3, rq_58_4, rq_58_5, rq_58_7, rq_58_8, rq_58_11, rq_58_12, rq_58_13, rq_58_14, rq_58_15, rq_58_25, rq_58_26, rq_58_29, rq_58_30, rq_58_31, rq_3, rq_11, rq_31, rq_law, rv_s, cl_i, cl_r, cl_n, tl_s, tl_n, kont_some, le4_0, le4_1, le4_2, le4_3, le4_4, eq_self, or_true, true_or, and_true, true_and]
        rw [h122a w, e122_83]
        simp only [e122_0, e122_1, e122_2, e122_3, e122_5, e122_6, e122_8, e122_9, e122_13, e122_15, e122_18, e122_20, e122_23, e122_24, e122_25, e122_27, e122_29, e122_31, e122_32, e122_34, e122_36, e122_39, e122_41, e122_43, e122_46, e122_48, e122_51, e122_52, e122_54, e122_57, e122_58, e122_61, e122_62, e122_64, e122_65, e122_67, e122_70, e122_71, e122_74, e122_75, e122_76, e122_77, e122_80, e122_85, e122_88, e122_90, e122_91, e122_92, e122_95, e122_96, e122_97, e122_99, e122_102, e122_104, e122_105, e122_106, e122_110, e122_111, e122_114, e122_115, e122_118, e122_119, e122_122, e122_123, e122_125, e122_127, e122_128, e122_129, e122_132, e122_133, e122_134, e122_135, e122_136, e122_136r, e122_137, e122_140, e122_141, e122_142, e122_145, e122_148, e122_151, e122_152, e122_155, kf_0, ik_1, ik_2, ik_3, kf_8, ik_9, kf_10, ik_11, ik_28, ik_29, kf_30, ik_31, ik_48, ik_49, kf_50, kf_51, ik_52, ik_53, ik_54, kf_55, kf_56, ik_57, kf_58, ik_59, ik_60, ik_61, ik_62, ik_63, ik_64, ik_65, ik_66, ik_67, ik_68, ik_69, ik_70, ik_71, ik_72, ik_73, ik_74, rq_0_0, rq_0_1, rq_0_2, rq_0_3, rq_0_4, rq_0_5, rq_0_6, rq_0_7, rq_0_8, rq_8_0, rq_10_0, rq_10_1, rq_10_2, rq_30_0, rq_30_1, rq_30_2, rq_50_0, rq_51_0, rq_51_1, rq_51_2, rq_51_3, rq_51_4, rq_51_5, rq_56_0, rq_56_1, rq_56_2, rq_58_1, rq_58_3, rq_58_4, rq_58_5, rq_58_7, rq_58_8, rq_58_11, rq_58_12, rq_58_13, rq_58_14, rq_58_15, rq_58_25, rq_58_26, rq_58_29, rq_58_30, rq_58_31, rq_3, rq_11, rq_31, rq_law, rv_s, cl_i, cl_r, cl_n, tl_s, tl_n, kont_some, le4_0, le4_1, le4_2, le4_3, le4_4, eq_self, or_true, true_or, and_true, true_and, bi_0, hg, a6.2.1, nI_add, f1, ↓reduceIte, not_true_eq_false]
  · refine ⟨G, G, J, J, q, q, .int (-102), hq, ⟨np, nf, nl, pg, n, D, hR'⟩, ?_, ?_⟩
    · rw [run_68]
      simp only [e68_0, e68_1, e68_4, e68_5, e68_8, kf_0, ik_1, ik_2, ik_3, kf_8, ik_9, kf_10, ik_11, ik_28, ik_29, kf_30, ik_31, ik_48, ik_49, kf_50, kf_51, ik_52, ik_53, ik_54, kf_55, kf_56, ik_57, kf_58, ik_59, ik_60, ik_61, ik_62, ik_63, ik_64, ik_65, ik_66, ik_67, ik_68, ik_69, ik_70, ik_71, ik_72, ik_73, ik_74, rq_0_0, rq_0_1, rq_0_2, rq_0_3, rq_0_4, rq_0_5, rq_0_6, rq_0_7, rq_0_8, rq_8_0, rq_10_0, rq_10_1, rq_10_2, rq_30_0, rq_30_1, rq_30_2, rq_50_0, rq_51_0, rq_51_1, rq_51_2, rq_51_3, rq_51_4, rq_51_5, rq_56_0, rq_56_1, rq_56_2, rq_58_1, rq_58_3, rq_58_4, rq_58_5, rq_58_7, rq_58_8, rq_58_11, rq_58_12, rq_58_13, rq_58_14, rq_58_15, rq_58_25, rq_58_26, rq_58_29, rq_58_30, rq_58_31, rq_3, rq_11, rq_31, rq_law, rv_s, cl_i, cl_r, cl_n, tl_s, tl_n, kont_some, le4_0, le4_1, le4_2, le4_3, le4_4, eq_self, or_true, true_or, and_true, true_and]
      rw [run_39]
      simp only [e39_0, e39_1, e39_4, e39_5, e39_6, e39_7, e39_10, e39_12, e39_13, e39_14, e39_17, e39_18, e39_19, e39_21, e39_24, e39_26, e39_27, e39_28, e39_32, e39_33, e39_36, e39_37, e39_40, e39_41, e39_44, e39_46, e39_47, e39_48, e39_50, e39_53, e39_54, e39_57, e39_60, e39_61, e39_61r, e39_62, e39_65, e39_66, e39_67, e39_70, e39_71, e39_74, e68_0, e68_1, e68_4, e68_5, e68_8, kf_0, ik_1, ik_2, ik_3, kf_8, ik_9, kf_10, ik_11, ik_28, ik_29, kf_30, ik_31, ik_48, ik_49, kf_50, kf_51, ik_52, ik_53, ik_54, kf_55, kf_56, ik_57, kf_58, ik_59, ik_60, ik_61, ik_62, ik_63, ik_64, ik_65, ik_66, ik_67, ik_68, ik_69, ik_70, ik_71, ik_72, ik_73, ik_74, rq_0_0, rq_0_1, rq_0_2, rq_0_3, rq_0_4, rq_0_5, rq_0_6, rq_0_7, rq_0_8, rq_8_0, rq_10_0, rq_10_1, rq_10_2, rq_30_0, rq_30_1, rq_30_2, rq_50_0, rq_51_0, rq_51_1, rq_51_2, rq_51_3, rq_51_4, rq_51_5, rq_56_0, rq_56_1, rq_56_2, rq_58_1, rq_58_3, rq_58_4, rq_58_5, rq_58_7, rq_58_8, rq_58_11, rq_58_12, rq_58_13, rq_58_14, rq_58_15, rq_58_25, rq_58_26, rq_58_29, rq_58_30, rq_58_31, rq_3, rq_11, rq_31, rq_law, rv_s, cl_i, cl_r, cl_n, tl_s, tl_n, kont_some, le4_0, le4_1, le4_2, le4_3, le4_4, eq_self, or_true, true_or, and_true, true_and, s40, hg, Bool.false_eq_true, ↓reduceIte]
    · rw [run_122]
      simp only [e122_0, e122_1, e122_2, e122_3, e122_5, e122_6, e122_8, e122_9, e122_13, e122_15, e122_18, e122_20, e122_23, e122_24, e122_25, e122_27, e122_29, e122_31, e122_32, e122_34, e122_36, e122_39, e122_41, e122_43, e122_46, e122_48, e122_51, e122_52, e122_54, e122_57, e122_58, e122_61, e122_62, e122_64, e122_65, e122_67, e122_70, e122_71, e122_74, e122_75, e122_76, e122_77, e122_80, e122_85, e122_88, e122_90, e122_91, e122_92, e122_95, e122_96, e122_97, e122_99, e122_102, e122_104, e122_105, e122_106, e122_110, e122_111, e122_114, e122_115, e122_118, e122_119, e122_122, e122_123, e122_125, e122_127, e122_128, e122_129, e122_132, e122_133, e122_134, e122_135, e122_136, e122_136r, e122_137, e122_140, e122_141, e122_142, e122_145, e122_148, e122_151, e122_152, e122_155, kf_0, ik_1, ik_2, ik_3, kf_8, ik_9, kf_10, ik_11, ik_28, ik_29, kf_30, ik_31, ik_48, ik_49, kf_50, kf_51, ik_52, ik_53, ik_54, kf_55, kf_56, ik_57, kf_58, ik_59, ik_60, ik_61, ik_62, ik_63, ik_64, ik_65, ik_66, ik_67, ik_68, ik_69, ik_70, ik_71, ik_72, ik_73, ik_74, rq_0_0, rq_0_1, rq_0_2, rq_0_3, rq_0_4, rq_0_5, rq_0_6, rq_0_7, rq_0_8, rq_8_0, rq_10_0, rq_10_1, rq_10_2, rq_30_0, rq_30_1, rq_30_2, rq_50_0, rq_51_0, rq_51_1, rq_51_2, rq_51_3, rq_51_4, rq_51_5, rq_56_0, rq_56_1, rq_56_2, rq_58_1, rq_58_3, rq_58_4, rq_58_5, rq_58_7, rq_58_8, rq_58_11, rq_58_12, rq_58_13, rq_58_14, rq_58_15, rq_58_25, rq_58_26, rq_58_29, rq_58_30, rq_58_31, rq_3, rq_11, rq_31, rq_law, rv_s, cl_i, cl_r, cl_n, tl_s, tl_n, kont_some, le4_0, le4_1, le4_2, le4_3, le4_4, eq_self, or_true, true_or, and_true, true_and]
      rw [h122a w, e122_83]
      simp only [e122_0, e122_1, e122_2, e122_3, e122_5, e122_6, e122_8, e122_9, e122_13, e122_15, e122_18, e122_20, e122_23, e122_24, e122_25, e122_27, e122_29, e122_31, e122_32, e122_34, e122_36, e122_39, e122_41, e122_43, e122_46, e122_48, e122_51, e122_52, e122_54, e122_57, e122_58, e122_61, e122_62, e122_64, e122_65, e122_67, e122_70, e122_71, e122_74, e122_75, e122_76, e122_77, e122_80, e122_85, e122_88, e122_90, e122_91, e122_92, e122_95, e122_96, e122_97, e122_99, e122_102, e122_104, e122_105, e122_106, e122_110, e122_111, e122_114, e122_115, e122_118, e122_119, e122_122, e122_123, e122_125, e122_127, e122_128, e122_129, e122_132, e122_133, e122_134, e122_135, e122_136, e122_136r, e122_137, e122_140, e122_141, e122_142, e122_145, e122_148, e122_151, e122_152, e122_155, kf_0, ik_1, ik_2, ik_3, kf_8, ik_9, kf_10, ik_11, ik_28, ik_29, kf_30, ik_31, ik_48, ik_49, kf_50, kf_51, ik_52, ik_53, ik_54, kf_55, kf_56, ik_57, kf_58, ik_59, ik_60, ik_61, ik_62, ik_63, ik_64, ik_65, ik_66, ik_67, ik_68, ik_69, ik_70, ik_71, ik_72, ik_73, ik_74, rq_0_0, rq_0_1, rq_0_2, rq_0_3, rq_0_4, rq_0_5, rq_0_6, rq_0_7, rq_0_8, rq_8_0, rq_10_0, rq_10_1, rq_10_2, rq_30_0, rq_30_1, rq_30_2, rq_50_0, rq_51_0, rq_51_1, rq_51_2, rq_51_3, rq_51_4, rq_51_5, rq_56_0, rq_56_1, rq_56_2, rq_58_1, rq_58_3, rq_58_4, rq_58_5, rq_58_7, rq_58_8, rq_58_11, rq_58_12, rq_58_13, rq_58_14, rq_58_15, rq_58_25, rq_58_26, rq_58_29, rq_58_30, rq_58_31, rq_3, rq_11, rq_31, rq_law, rv_s, cl_i, cl_r, cl_n, tl_s, tl_n, kont_some, le4_0, le4_1, le4_2, le4_3, le4_4, eq_self, or_true, true_or, and_true, true_and, bi_0, hg, Bool.false_eq_true, ↓reduceIte, not_false_eq_true])
end LETTERS
