/-! leaves of the model -/
def HM (G : SG) (n : Nat) (D : DT) : Prop := G 58 6 = nI n ∧ n ≤ 16 ∧ ∀ j a, j < n → a < 10 → G 63 (10 * j + a) = D j a
theorem lg_lt0 (x y : Int64) : (lg_cmp x y < 0) = (x < y) := by
  apply propext
  unfold lg_cmp
  by_cases h1 : y < x
  · simp only [gt_iff_lt, h1, ↓reduceIte]
    exact ⟨fun z => absurd z (by decide), fun z => absurd z (lg_lt_not h1)⟩
  · by_cases h2 : x = y
    · subst h2
      simp
    · simp only [gt_iff_lt, h1, h2, ↓reduceIte]
      refine ⟨fun _ => ?_, fun _ => by decide⟩
      rw [Int64.lt_iff_toInt_lt] at *
      rw [← Int64.toInt_inj] at h2
      omega
theorem lg_gt0 (x y : Int64) : ((0 : Int32) < lg_cmp x y) = (y < x) := by
  apply propext
  unfold lg_cmp
  by_cases h1 : y < x
  · simp only [gt_iff_lt, h1, ↓reduceIte]
    exact ⟨fun _ => trivial, fun _ => by decide⟩
  · by_cases h2 : x = y
    · subst h2
      simp
    · simp only [gt_iff_lt, h1, h2, ↓reduceIte]
      exact ⟨fun z => absurd z (by decide), fun z => z.elim⟩
theorem wd_lt (a b : Int32) : (a.toInt64 < b.toInt64) = (a < b) := by
  apply propext
  rw [Int64.lt_iff_toInt_lt, Int32.lt_iff_toInt_lt, Int32.toInt_toInt64, Int32.toInt_toInt64]
theorem pred_lt {np : Nat} (h : np < 2147483648) (x : Int32) : (nI np - 1 < x) = ¬ (x < nI np) := by
  apply propext
  rcases Nat.eq_zero_or_pos np with rfl | hp
  · have e : nI 0 - 1 = -1 := by decide
    rw [e, nI_0, Int32.lt_iff_toInt_lt, Int32.lt_iff_toInt_lt]
    have h1 : (-1 : Int32).toInt = -1 := by decide
    have h2 : (0 : Int32).toInt = 0 := by decide
    omega
  · obtain ⟨m, rfl⟩ : ∃ m, np = m + 1 := ⟨np - 1, by omega⟩
    rw [nI_pred, Int32.lt_iff_toInt_lt, Int32.lt_iff_toInt_lt, nI_toInt (by omega), nI_toInt (by omega)]
    omega
section MLEAF
variable {K : List KD} {G S : SG} {J : SJ} {R : SR} {q n c : Nat} {D : DT}
theorem s104 (v a b : Int64) : run 104 [.long v, .long a, .long b] K G J R = some ((K, G, J, R), some (.int (bi (¬ v < a ∧ ¬ b < v)))) := by
  rw [run_104]
  by_cases h1 : v < a <;> by_cases h2 : b < v <;> simp only [lg_lt0, lg_gt0, h1, h2, bi, ↓reduceIte, e104_0, e104_1, e104_2, e104_3, e104_6, e104_7, e104_9, e104_10, e104_13, e104_14, e104_17, e104_18, kf_0, ik_1, ik_2, ik_3, kf_8, ik_9, kf_10, ik_11, ik_28, ik_29, kf_30, ik_31, ik_48, ik_49, kf_50, kf_51, ik_52, ik_53, ik_54, kf_55, kf_56, ik_57, kf_58, ik_59, ik_60, ik_61, ik_62, ik_63, ik_64, ik_65, ik_66, ik_67, ik_68, ik_69, ik_70, ik_71, ik_72, ik_73, ik_74, rq_0_0, rq_0_1, rq_0_2, rq_0_3, rq_0_4, rq_0_5, rq_0_6, rq_0_7, rq_0_8, rq_8_0, rq_10_0, rq_10_1, rq_10_2, rq_30_0, rq_30_1, rq_30_2, rq_50_0, rq_51_0, rq_51_1, rq_51_2, rq_51_3, rq_51_4, rq_51_5, rq_56_0, rq_56_1, rq_56_2, rq_58_1, rq_58_3, rq_58_4, rq_58_5, rq_58_7, rq_58_8, rq_58_11, rq_58_12, rq_58_13, rq_58_14, rq_58_15, rq_58_25, rq_58_26, rq_58_29, rq_58_30, rq_58_31, rq_3, rq_11, rq_31, rq_law, rv_s, cl_i, cl_r, cl_n, tl_s, tl_n, kont_some, le4_0, le4_1, le4_2, le4_3, le4_4, eq_self, or_true, true_or, and_true, true_and, not_true_eq_false, not_false_eq_true, false_and, and_false]
theorem s105 {j : Nat} (hj : j < 32) (s : Int32) : run 105 [.int s, .int (nI j)] K G J R = some ((K, G, J, R), some (.int (bi (bt s j = true)))) := by
  rw [run_105]
  simp only [e105_0, e105_1, e105_2, e105_3, e105_4, e105_5, e105_6, e105_9, e105_10, e105_13, e105_14, kf_0, ik_1, ik_2, ik_3, kf_8, ik_9, kf_10, ik_11, ik_28, ik_29, kf_30, ik_31, ik_48, ik_49, kf_50, kf_51, ik_52, ik_53, ik_54, kf_55, kf_56, ik_57, kf_58, ik_59, ik_60, ik_61, ik_62, ik_63, ik_64, ik_65, ik_66, ik_67, ik_68, ik_69, ik_70, ik_71, ik_72, ik_73, ik_74, rq_0_0, rq_0_1, rq_0_2, rq_0_3, rq_0_4, rq_0_5, rq_0_6, rq_0_7, rq_0_8, rq_8_0, rq_10_0, rq_10_1, rq_10_2, rq_30_0, rq_30_1, rq_30_2, rq_50_0, rq_51_0, rq_51_1, rq_51_2, rq_51_3, rq_51_4, rq_51_5, rq_56_0, rq_56_1, rq_56_2, rq_58_1, rq_58_3, rq_58_4, rq_58_5, rq_58_7, rq_58_8, rq_58_11, rq_58_12, rq_58_13, rq_58_14, rq_58_15, rq_58_25, rq_58_26, rq_58_29, rq_58_30, rq_58_31, rq_3, rq_11, rq_31, rq_law, rv_s, cl_i, cl_r, cl_n, tl_s, tl_n, kont_some, le4_0, le4_1, le4_2, le4_3, le4_4, eq_self, or_true, true_or, and_true, true_and, hasm hj, bi]
  by_cases h : bt s j = true <;> simp only [h, ↓reduceIte, Bool.false_eq_true]
theorem z64 : (0 : Int64) = (0 : Int32).toInt64 := by decide
theorem s108 {np : Nat} (hp : G 58 0 = nI np) (h12 : np < 2147483648) (x : Int32) : run 108 [.ref (58 : Nat), .int x] KF G J (RQ q) = some ((KF, G, J, RQ q), some (.int (bi (¬ x < 0 ∧ x < nI np)))) := by
  rw [run_108]
  simp only [e108_0, e108_1, e108_2, e108_3, e108_4, e108_7, e108_8, e108_9, e108_10, e108_13, kf_0, ik_1, ik_2, ik_3, kf_8, ik_9, kf_10, ik_11, ik_28, ik_29, kf_30, ik_31, ik_48, ik_49, kf_50, kf_51, ik_52, ik_53, ik_54, kf_55, kf_56, ik_57, kf_58, ik_59, ik_60, ik_61, ik_62, ik_63, ik_64, ik_65, ik_66, ik_67, ik_68, ik_69, ik_70, ik_71, ik_72, ik_73, ik_74, rq_0_0, rq_0_1, rq_0_2, rq_0_3, rq_0_4, rq_0_5, rq_0_6, rq_0_7, rq_0_8, rq_8_0, rq_10_0, rq_10_1, rq_10_2, rq_30_0, rq_30_1, rq_30_2, rq_50_0, rq_51_0, rq_51_1, rq_51_2, rq_51_3, rq_51_4, rq_51_5, rq_56_0, rq_56_1, rq_56_2, rq_58_1, rq_58_3, rq_58_4, rq_58_5, rq_58_7, rq_58_8, rq_58_11, rq_58_12, rq_58_13, rq_58_14, rq_58_15, rq_58_25, rq_58_26, rq_58_29, rq_58_30, rq_58_31, rq_3, rq_11, rq_31, rq_law, rv_s, cl_i, cl_r, cl_n, tl_s, tl_n, kont_some, le4_0, le4_1, le4_2, le4_3, le4_4, eq_self, or_true, true_or, and_true, true_and, hp, s104, z64, wd_lt, pred_lt h12, bi_01, Classical.not_not]
theorem s110 {np : Nat} (hp : G 58 2 = nI np) (h12 : np < 2147483648) (x : Int32) : run 110 [.ref (58 : Nat), .int x] KF G J (RQ q) = some ((KF, G, J, RQ q), some (.int (bi (¬ x < 0 ∧ x < nI np)))) := by
  rw [run_110]
  simp only [e110_0, e110_1, e110_2, e110_3, e110_4, e110_7, e110_8, e110_9, e110_10, e110_13, kf_0, ik_1, ik_2, ik_3, kf_8, ik_9, kf_10, ik_11, ik_28, ik_29, kf_30, ik_31, ik_48, ik_49, kf_50, kf_51, ik_52, ik_53, ik_54, kf_55, kf_56, ik_57, kf_58, ik_59, ik_60, ik_61, ik_62, ik_63, ik_64, ik_65, ik_66, ik_67, ik_68, ik_69, ik_70, ik_71, ik_72, ik_73, ik_74, rq_0_0, rq_0_1, rq_0_2, rq_0_3, rq_0_4, rq_0_5, rq_0_6, rq_0_7, rq_0_8, rq_8_0, rq_10_0, rq_10_1, rq_10_2, rq_30_0, rq_30_1, rq_30_2, rq_50_0, rq_51_0, rq_51_1, rq_51_2, rq_51_3, rq_51_4, rq_51_5, rq_56_0, rq_56_1, rq_56_2, rq_58_1, rq_58_3, rq_58_4, rq_58_5, rq_58_7, rq_58_8, rq_58_11, rq_58_12, rq_58_13, rq_58_14, rq_58_15, rq_58_25, rq_58_26, rq_58_29, rq_58_30, rq_58_31, rq_3, rq_11, rq_31, rq_law, rv_s, cl_i, cl_r, cl_n, tl_s, tl_n, kont_some, le4_0, le4_1, le4_2, le4_3, le4_4, eq_self, or_true, true_or, and_true, true_and, hp, s104, z64, wd_lt, pred_lt h12, bi_01, Classical.not_not]
theorem s115 {np : Nat} (hp : G 58 6 = nI np) (h12 : np < 2147483648) (x : Int32) : run 115 [.ref (58 : Nat), .int x] KF G J (RQ q) = some ((KF, G, J, RQ q), some (.int (bi (¬ x < 0 ∧ x < nI np)))) := by
  rw [run_115]
  simp only [e115_0, e115_1, e115_2, e115_3, e115_4, e115_7, e115_8, e115_9, e115_10, e115_13, kf_0, ik_1, ik_2, ik_3, kf_8, ik_9, kf_10, ik_11, ik_28, ik_29, kf_30, ik_31, ik_48, ik_49, kf_50, kf_51, ik_52, ik_53, ik_54, kf_55, kf_56, ik_57, kf_58, ik_59, ik_60, ik_61, ik_62, ik_63, ik_64, ik_65, ik_66, ik_67, ik_68, ik_69, ik_70, ik_71, ik_72, ik_73, ik_74, rq_0_0, rq_0_1, rq_0_2, rq_0_3, rq_0_4, rq_0_5, rq_0_6, rq_0_7, rq_0_8, rq_8_0, rq_10_0, rq_10_1, rq_10_2, rq_30_0, rq_30_1, rq_30_2, rq_50_0, rq_51_0, rq_51_1, rq_51_2, rq_51_3, rq_51_4, rq_51_5, rq_56_0, rq_56_1, rq_56_2, rq_58_1, rq_58_3, rq_58_4, rq_58_5, rq_58_7, rq_58_8, rq_58_11, rq_58_12, rq_58_13, rq_58_14, rq_58_15, rq_58_25, rq_58_26, rq_58_29, rq_58_30, rq_58_31, rq_3, rq_11, rq_31, rq_law, rv_s, cl_i, cl_r, cl_n, tl_s, tl_n, kont_some, le4_0, le4_1, le4_2, le4_3, le4_4, eq_self, or_true, true_or, and_true, true_and, hp, s104, z64, wd_lt, pred_lt h12, bi_01, Classical.not_not]
theorem s128 {np : Nat} (hp : G 58 10 = nI np) (h12 : np < 2147483648) (x : Int32) : run 128 [.ref (58 : Nat), .int x] KF G J (RQ q) = some ((KF, G, J, RQ q), some (.int (bi (¬ x < 0 ∧ x < nI np)))) := by
  rw [run_128]
  simp only [e128_0, e128_1, e128_2, e128_3, e128_4, e128_7, e128_8, e128_9, e128_10, e128_13, kf_0, ik_1, ik_2, ik_3, kf_8, ik_9, kf_10, ik_11, ik_28, ik_29, kf_30, ik_31, ik_48, ik_49, kf_50, kf_51, ik_52, ik_53, ik_54, kf_55, kf_56, ik_57, kf_58, ik_59, ik_60, ik_61, ik_62, ik_63, ik_64, ik_65, ik_66, ik_67, ik_68, ik_69, ik_70, ik_71, ik_72, ik_73, ik_74, rq_0_0, rq_0_1, rq_0_2, rq_0_3, rq_0_4, rq_0_5, rq_0_6, rq_0_7, rq_0_8, rq_8_0, rq_10_0, rq_10_1, rq_10_2, rq_30_0, rq_30_1, rq_30_2, rq_50_0, rq_51_0, rq_51_1, rq_51_2, rq_51_3, rq_51_4, rq_51_5, rq_56_0, rq_56_1, rq_56_2, rq_58_1, rq_58_3, rq_58_4, rq_58_5, rq_58_7, rq_58_8, rq_58_11, rq_58_12, rq_58_13, rq_58_14, rq_58_15, rq_58_25, rq_58_26, rq_58_29, rq_58_30, rq_58_31, rq_3, rq_11, rq_31, rq_law, rv_s, cl_i, cl_r, cl_n, tl_s, tl_n, kont_some, le4_0, le4_1, le4_2, le4_3, le4_4, eq_self, or_true, true_or, and_true, true_and, hp, s104, z64, wd_lt, pred_lt h12, bi_01, Classical.not_not]
theorem s111 (x : Int32) : run 111 [.int x] K G J R = some ((K, G, J, R), some (.int (bi (¬ x < 0 ∧ ¬ 999 < x)))) := by
  rw [run_111]
  have e : (999 : Int64) = (999 : Int32).toInt64 := by decide
  simp only [e111_0, e111_1, e111_2, e111_3, e111_6, e111_9, kf_0, ik_1, ik_2, ik_3, kf_8, ik_9, kf_10, ik_11, ik_28, ik_29, kf_30, ik_31, ik_48, ik_49, kf_50, kf_51, ik_52, ik_53, ik_54, kf_55, kf_56, ik_57, kf_58, ik_59, ik_60, ik_61, ik_62, ik_63, ik_64, ik_65, ik_66, ik_67, ik_68, ik_69, ik_70, ik_71, ik_72, ik_73, ik_74, rq_0_0, rq_0_1, rq_0_2, rq_0_3, rq_0_4, rq_0_5, rq_0_6, rq_0_7, rq_0_8, rq_8_0, rq_10_0, rq_10_1, rq_10_2, rq_30_0, rq_30_1, rq_30_2, rq_50_0, rq_51_0, rq_51_1, rq_51_2, rq_51_3, rq_51_4, rq_51_5, rq_56_0, rq_56_1, rq_56_2, rq_58_1, rq_58_3, rq_58_4, rq_58_5, rq_58_7, rq_58_8, rq_58_11, rq_58_12, rq_58_13, rq_58_14, rq_58_15, rq_58_25, rq_58_26, rq_58_29, rq_58_30, rq_58_31, rq_3, rq_11, rq_31, rq_law, rv_s, cl_i, cl_r, cl_n, tl_s, tl_n, kont_some, le4_0, le4_1, le4_2, le4_3, le4_4, eq_self, or_true, true_or, and_true, true_and, s104, z64, e, wd_lt, bi_01]
theorem s118 (x : Int32) : run 118 [.int x] K G J R = some ((K, G, J, R), some (.int (bi (¬ x < -1 ∧ ¬ 9 < x)))) := by
  rw [run_118]
  have e : (9 : Int64) = (9 : Int32).toInt64 := by decide
  have e1 : (-1 : Int64) = (-1 : Int32).toInt64 := by decide
  simp only [e118_0, e118_1, e118_2, e118_5, e118_8, e118_11, kf_0, ik_1, ik_2, ik_3, kf_8, ik_9, kf_10, ik_11, ik_28, ik_29, kf_30, ik_31, ik_48, ik_49, kf_50, kf_51, ik_52, ik_53, ik_54, kf_55, kf_56, ik_57, kf_58, ik_59, ik_60, ik_61, ik_62, ik_63, ik_64, ik_65, ik_66, ik_67, ik_68, ik_69, ik_70, ik_71, ik_72, ik_73, ik_74, rq_0_0, rq_0_1, rq_0_2, rq_0_3, rq_0_4, rq_0_5, rq_0_6, rq_0_7, rq_0_8, rq_8_0, rq_10_0, rq_10_1, rq_10_2, rq_30_0, rq_30_1, rq_30_2, rq_50_0, rq_51_0, rq_51_1, rq_51_2, rq_51_3, rq_51_4, rq_51_5, rq_56_0, rq_56_1, rq_56_2, rq_58_1, rq_58_3, rq_58_4, rq_58_5, rq_58_7, rq_58_8, rq_58_11, rq_58_12, rq_58_13, rq_58_14, rq_58_15, rq_58_25, rq_58_26, rq_58_29, rq_58_30, rq_58_31, rq_3, rq_11, rq_31, rq_law, rv_s, cl_i, cl_r, cl_n, tl_s, tl_n, kont_some, le4_0, le4_1, le4_2, le4_3, le4_4, eq_self, or_true, true_or, and_true, true_and, s104, e1, e, wd_lt, bi_01]
theorem s113 {j a : Nat} (hM : HM G n D) (hj : j < n) (ha : a < 10) : run 113 [.ref (58 : Nat), .int (nI j), .int (nI a)] KF G J (RQ q) = some ((KF, G, J, RQ q), some (.int (D j a))) := by
  rw [run_113]
  have h16 := hM.2.1
  have e : (10 : Int32) * nI j + nI a = nI (10 * j + a) := by
    rw [show (10 : Int32) = nI 10 by decide, pk_mul, nI_add]
  have f1 := inb_nI (show 10 * j + a < 160 by omega) (show 160 < 2147483648 by omega)
  have f2 := cl_nI (show 10 * j + a < 2147483648 by omega)
  simp only [e113_0, e113_1, e113_4, e113_6, e113_7, e113_8, e113_9, e113_10, e113_11, kf_0, ik_1, ik_2, ik_3, kf_8, ik_9, kf_10, ik_11, ik_28, ik_29, kf_30, ik_31, ik_48, ik_49, kf_50, kf_51, ik_52, ik_53, ik_54, kf_55, kf_56, ik_57, kf_58, ik_59, ik_60, ik_61, ik_62, ik_63, ik_64, ik_65, ik_66, ik_67, ik_68, ik_69, ik_70, ik_71, ik_72, ik_73, ik_74, rq_0_0, rq_0_1, rq_0_2, rq_0_3, rq_0_4, rq_0_5, rq_0_6, rq_0_7, rq_0_8, rq_8_0, rq_10_0, rq_10_1, rq_10_2, rq_30_0, rq_30_1, rq_30_2, rq_50_0, rq_51_0, rq_51_1, rq_51_2, rq_51_3, rq_51_4, rq_51_5, rq_56_0, rq_56_1, rq_56_2, rq_58_1, rq_58_3, rq_58_4, rq_58_5, rq_58_7, rq_58_8, rq_58_11, rq_58_12, rq_58_13, rq_58_14, rq_58_15, rq_58_25, rq_58_26, rq_58_29, rq_58_30, rq_58_31, rq_3, rq_11, rq_31, rq_law, rv_s, cl_i, cl_r, cl_n, tl_s, tl_n, kont_some, le4_0, le4_1, le4_2, le4_3, le4_4, eq_self, or_true, true_or, and_true, true_and, e, f1, f2, hM.2.2 j a hj ha]
theorem s113_0 {j : Nat} (hM : HM G n D) (hj : j < n) : run 113 [.ref (58 : Nat), .int (nI j), .int 0] KF G J (RQ q) = some ((KF, G, J, RQ q), some (.int (D j 0))) := s113 hM hj (show 0 < 10 by omega)
theorem s113_1 {j : Nat} (hM : HM G n D) (hj : j < n) : run 113 [.ref (58 : Nat), .int (nI j), .int 1] KF G J (RQ q) = some ((KF, G, J, RQ q), some (.int (D j 1))) := s113 hM hj (show 1 < 10 by omega)
theorem s113_2 {j : Nat} (hM : HM G n D) (hj : j < n) : run 113 [.ref (58 : Nat), .int (nI j), .int 2] KF G J (RQ q) = some ((KF, G, J, RQ q), some (.int (D j 2))) := s113 hM hj (show 2 < 10 by omega)
theorem s113_3 {j : Nat} (hM : HM G n D) (hj : j < n) : run 113 [.ref (58 : Nat), .int (nI j), .int 3] KF G J (RQ q) = some ((KF, G, J, RQ q), some (.int (D j 3))) := s113 hM hj (show 3 < 10 by omega)
theorem s113_4 {j : Nat} (hM : HM G n D) (hj : j < n) : run 113 [.ref (58 : Nat), .int (nI j), .int 4] KF G J (RQ q) = some ((KF, G, J, RQ q), some (.int (D j 4))) := s113 hM hj (show 4 < 10 by omega)
theorem s113_5 {j : Nat} (hM : HM G n D) (hj : j < n) : run 113 [.ref (58 : Nat), .int (nI j), .int 5] KF G J (RQ q) = some ((KF, G, J, RQ q), some (.int (D j 5))) := s113 hM hj (show 5 < 10 by omega)
theorem s113_6 {j : Nat} (hM : HM G n D) (hj : j < n) : run 113 [.ref (58 : Nat), .int (nI j), .int 6] KF G J (RQ q) = some ((KF, G, J, RQ q), some (.int (D j 6))) := s113 hM hj (show 6 < 10 by omega)
theorem s113_7 {j : Nat} (hM : HM G n D) (hj : j < n) : run 113 [.ref (58 : Nat), .int (nI j), .int 7] KF G J (RQ q) = some ((KF, G, J, RQ q), some (.int (D j 7))) := s113 hM hj (show 7 < 10 by omega)
theorem s113_8 {j : Nat} (hM : HM G n D) (hj : j < n) : run 113 [.ref (58 : Nat), .int (nI j), .int 8] KF G J (RQ q) = some ((KF, G, J, RQ q), some (.int (D j 8))) := s113 hM hj (show 8 < 10 by omega)
theorem s113_9 {j : Nat} (hM : HM G n D) (hj : j < n) : run 113 [.ref (58 : Nat), .int (nI j), .int 9] KF G J (RQ q) = some ((KF, G, J, RQ q), some (.int (D j 9))) := s113 hM hj (show 9 < 10 by omega)
theorem s129 {i : Nat} (hM : HM G n D) (hi : i < n) : run 129 [.ref (58 : Nat), .int (nI i)] KF G J (RQ q) = some ((KF, G, J, RQ q), some (.int (bi (pasB D i = true)))) := by
  rw [run_129]
  have h16 := hM.2.1
  have f1 := lt_nI hi (show n < 2147483648 by omega)
  have f2 := inb_nI (show i < 16 by omega) (show 16 < 2147483648 by omega)
  have f3 := cl_nI (show i < 2147483648 by omega)
  have f5 : i < 32 := by omega
  have f6 : i < 16 := by omega
  have hn := hM.1
  have t0 := fun (J : SJ) (q : Nat) => s113_0 (J := J) (q := q) hM hi
  have t1 := fun (J : SJ) (q : Nat) => s113_1 (J := J) (q := q) hM hi
  have t2 := fun (J : SJ) (q : Nat) => s113_2 (J := J) (q := q) hM hi
  have t3 := fun (J : SJ) (q : Nat) => s113_3 (J := J) (q := q) hM hi
  have t4 := fun (J : SJ) (q : Nat) => s113_4 (J := J) (q := q) hM hi
  have t5 := fun (J : SJ) (q : Nat) => s113_5 (J := J) (q := q) hM hi
  have t6 := fun (J : SJ) (q : Nat) => s113_6 (J := J) (q := q) hM hi
  have t7 := fun (J : SJ) (q : Nat) => s113_7 (J := J) (q := q) hM hi
  have t8 := fun (J : SJ) (q : Nat) => s113_8 (J := J) (q := q) hM hi
  have t9 := fun (J : SJ) (q : Nat) => s113_9 (J := J) (q := q) hM hi
  simp only [e129_0, e129_1, e129_2, e129_3, e129_6, e129_7, e129_10, e129_11, e129_14, e129_15, kf_0, ik_1, ik_2, ik_3, kf_8, ik_9, kf_10, ik_11, ik_28, ik_29, kf_30, ik_31, ik_48, ik_49, kf_50, kf_51, ik_52, ik_53, ik_54, kf_55, kf_56, ik_57, kf_58, ik_59, ik_60, ik_61, ik_62, ik_63, ik_64, ik_65, ik_66, ik_67, ik_68, ik_69, ik_70, ik_71, ik_72, ik_73, ik_74, rq_0_0, rq_0_1, rq_0_2, rq_0_3, rq_0_4, rq_0_5, rq_0_6, rq_0_7, rq_0_8, rq_8_0, rq_10_0, rq_10_1, rq_10_2, rq_30_0, rq_30_1, rq_30_2, rq_50_0, rq_51_0, rq_51_1, rq_51_2, rq_51_3, rq_51_4, rq_51_5, rq_56_0, rq_56_1, rq_56_2, rq_58_1, rq_58_3, rq_58_4, rq_58_5, rq_58_7, rq_58_8, rq_58_11, rq_58_12, rq_58_13, rq_58_14, rq_58_15, rq_58_25, rq_58_26, rq_58_29, rq_58_30, rq_58_31, rq_3, rq_11, rq_31, rq_law, rv_s, cl_i, cl_r, cl_n, tl_s, tl_n, kont_some, le4_0, le4_1, le4_2, le4_3, le4_4, eq_self, or_true, true_or, and_true, true_and, f1, f2, f3, hn, t0, t1, t2, t3, t4, t5, t6, t7, t8, t9, nI_1, b1_eq, ↓reduceIte, bi, pasB, decide_eq_true_eq]
  (repeat' split) <;> simp_all
theorem s130 {i : Nat} (hM : HM G n D) (hi : i < n) : run 130 [.ref (58 : Nat), .int (nI i)] KF G J (RQ q) = some ((KF, G, J, RQ q), some (.int (bi (cbfB D i = true)))) := by
  rw [run_130]
  have h16 := hM.2.1
  have f1 := lt_nI hi (show n < 2147483648 by omega)
  have f2 := inb_nI (show i < 16 by omega) (show 16 < 2147483648 by omega)
  have f3 := cl_nI (show i < 2147483648 by omega)
  have f5 : i < 32 := by omega
  have f6 : i < 16 := by omega
  have hn := hM.1
  have t0 := fun (J : SJ) (q : Nat) => s113_0 (J := J) (q := q) hM hi
  have t1 := fun (J : SJ) (q : Nat) => s113_1 (J := J) (q := q) hM hi
  have t2 := fun (J : SJ) (q : Nat) => s113_2 (J := J) (q := q) hM hi
  have t3 := fun (J : SJ) (q : Nat) => s113_3 (J := J) (q := q) hM hi
  have t4 := fun (J : SJ) (q : Nat) => s113_4 (J := J) (q := q) hM hi
  have t5 := fun (J : SJ) (q : Nat) => s113_5 (J := J) (q := q) hM hi
  have t6 := fun (J : SJ) (q : Nat) => s113_6 (J := J) (q := q) hM hi
  have t7 := fun (J : SJ) (q : Nat) => s113_7 (J := J) (q := q) hM hi
  have t8 := fun (J : SJ) (q : Nat) => s113_8 (J := J) (q := q) hM hi
  have t9 := fun (J : SJ) (q : Nat) => s113_9 (J := J) (q := q) hM hi
  simp only [e130_0, e130_1, e130_2, e130_3, e130_6, e130_7, e130_10, e130_11, e130_12, e130_13, e130_16, e130_17, e130_20, e130_21, e130_22, e130_24, e130_27, e130_30, e130_31, e130_34, e130_35, kf_0, ik_1, ik_2, ik_3, kf_8, ik_9, kf_10, ik_11, ik_28, ik_29, kf_30, ik_31, ik_48, ik_49, kf_50, kf_51, ik_52, ik_53, ik_54, kf_55, kf_56, ik_57, kf_58, ik_59, ik_60, ik_61, ik_62, ik_63, ik_64, ik_65, ik_66, ik_67, ik_68, ik_69, ik_70, ik_71, ik_72, ik_73, ik_74, rq_0_0, rq_0_1, rq_0_2, rq_0_3, rq_0_4, rq_0_5, rq_0_6, rq_0_7, rq_0_8, rq_8_0, rq_10_0, rq_10_1, rq_10_2, rq_30_0, rq_30_1, rq_30_2, rq_50_0, rq_51_0, rq_51_1, rq_51_2, rq_51_3, rq_51_4, rq_51_5, rq_56_0, rq_56_1, rq_56_2, rq_58_1, rq_58_3, rq_58_4, rq_58_5, rq_58_7, rq_58_8, rq_58_11, rq_58_12, rq_58_13, rq_58_14, rq_58_15, rq_58_25, rq_58_26, rq_58_29, rq_58_30, rq_58_31, rq_3, rq_11, rq_31, rq_law, rv_s, cl_i, cl_r, cl_n, tl_s, tl_n, kont_some, le4_0, le4_1, le4_2, le4_3, le4_4, eq_self, or_true, true_or, and_true, true_and, f1, f2, f3, hn, t0, t1, t2, t3, t4, t5, t6, t7, t8, t9, nI_1, b1_eq, ↓reduceIte, bi, cbfB, decide_eq_true_eq]
  (repeat' split) <;> simp_all
theorem s135 {a b : Nat} (hM : HM G n D) (ha : a < n) (hb : b < n) : run 135 [.ref (58 : Nat), .int (nI a), .int (nI b)] KF G J (RQ q) = some ((KF, G, J, RQ q), some (.int (bi (ahB D a b = true)))) := by
  rw [run_135]
  have h16 := hM.2.1
  have hab : (nI a < nI b) = (a < b) := propext (nI_ltI (by omega) (by omega))
  simp only [e135_0, e135_1, e135_2, e135_3, e135_6, e135_7, e135_8, e135_9, e135_12, e135_15, e135_16, e135_17, e135_18, e135_21, e135_22, e135_23, e135_24, e135_27, e135_30, e135_31, e135_32, e135_35, e135_36, e135_39, e135_40, kf_0, ik_1, ik_2, ik_3, kf_8, ik_9, kf_10, ik_11, ik_28, ik_29, kf_30, ik_31, ik_48, ik_49, kf_50, kf_51, ik_52, ik_53, ik_54, kf_55, kf_56, ik_57, kf_58, ik_59, ik_60, ik_61, ik_62, ik_63, ik_64, ik_65, ik_66, ik_67, ik_68, ik_69, ik_70, ik_71, ik_72, ik_73, ik_74, rq_0_0, rq_0_1, rq_0_2, rq_0_3, rq_0_4, rq_0_5, rq_0_6, rq_0_7, rq_0_8, rq_8_0, rq_10_0, rq_10_1, rq_10_2, rq_30_0, rq_30_1, rq_30_2, rq_50_0, rq_51_0, rq_51_1, rq_51_2, rq_51_3, rq_51_4, rq_51_5, rq_56_0, rq_56_1, rq_56_2, rq_58_1, rq_58_3, rq_58_4, rq_58_5, rq_58_7, rq_58_8, rq_58_11, rq_58_12, rq_58_13, rq_58_14, rq_58_15, rq_58_25, rq_58_26, rq_58_29, rq_58_30, rq_58_31, rq_3, rq_11, rq_31, rq_law, rv_s, cl_i, cl_r, cl_n, tl_s, tl_n, kont_some, le4_0, le4_1, le4_2, le4_3, le4_4, eq_self, or_true, true_or, and_true, true_and, s113_4 hM ha, s113_4 hM hb, hab, bi, ahB, decide_eq_true_eq]
  by_cases h1 : D a 4 < D b 4 <;> by_cases h2 : D a 4 = D b 4 <;> by_cases h3 : a < b <;> simp only [h1, h2, h3, ↓reduceIte, or_true, true_or, or_false, false_or, and_true, and_false, false_and, or_self, ite_self, Int32.lt_irrefl]
def jm (p : Nat → Bool) : Nat → Option Value
  | 0 => none
  | i + 1 => some (.int (bi (p i = true)))
theorem s132 (f nm lo hi2 : Int32) (hM : HM G n D) : run 132 [.ref (58 : Nat), .int f, .int nm, .int lo, .int hi2] KF G J (RQ q) = some ((KF, G, J, RQ q), some (.int (gatM D (fmM D n f) nm lo hi2 n))) := by
  have e : gatM D (fmM D n f) nm lo hi2 n = msk (fun j => fldB D f j && cbfB D j && decide (D j 6 = nm) && decide (¬ D j 5 < lo ∧ ¬ hi2 < D j 5)) n := by
    unfold gatM
    have h16 := hM.2.1
    refine msk_congr (fun j hj => ?_)
    unfold fmM
    rw [bt_msk (by omega)]
    simp [hj, Bool.and_assoc]
  have key : ev 132 6 [some (.ref (58 : Nat)), some (.int f), some (.int nm), some (.int lo), some (.int hi2), some (.int (msk (fun j => fldB D f j && cbfB D j && decide (D j 6 = nm) && decide (¬ D j 5 < lo ∧ ¬ hi2 < D j 5)) 0)), some (.int (nI 0)), jm (fun j => fldB D f j && cbfB D j && decide (D j 6 = nm) && decide (¬ D j 5 < lo ∧ ¬ hi2 < D j 5)) 0] [] KF G J (RQ q) = ev 132 6 [some (.ref (58 : Nat)), some (.int f), some (.int nm), some (.int lo), some (.int hi2), some (.int (msk (fun j => fldB D f j && cbfB D j && decide (D j 6 = nm) && decide (¬ D j 5 < lo ∧ ¬ hi2 < D j 5)) n)), some (.int (nI n)), jm (fun j => fldB D f j && cbfB D j && decide (D j 6 = nm) && decide (¬ D j 5 < lo ∧ ¬ hi2 < D j 5)) n] [] KF G J (RQ q) := iter (fun i => ev 132 6 [some (.ref (58 : Nat)), some (.int f), some (.int nm), some (.int lo), some (.int hi2), some (.int (msk (fun j => fldB D f j && cbfB D j && decide (D j 6 = nm) && decide (¬ D j 5 < lo ∧ ¬ hi2 < D j 5)) i)), some (.int (nI i)), jm (fun j => fldB D f j && cbfB D j && decide (D j 6 = nm) && decide (¬ D j 5 < lo ∧ ¬ hi2 < D j 5)) i] [] KF G J (RQ q)) n (fun i hi => by
    have h16 := hM.2.1
    have f1 := lt_nI hi (show n < 2147483648 by omega)
    have f2 := inb_nI (show i < 16 by omega) (show 16 < 2147483648 by omega)
    have f3 := cl_nI (show i < 2147483648 by omega)
    have f5 : i < 32 := by omega
    have f6 : i < 16 := by omega
    have hn := hM.1
    have t0 := fun (J : SJ) (q : Nat) => s113_0 (J := J) (q := q) hM hi
    have t1 := fun (J : SJ) (q : Nat) => s113_1 (J := J) (q := q) hM hi
    have t2 := fun (J : SJ) (q : Nat) => s113_2 (J := J) (q := q) hM hi
    have t3 := fun (J : SJ) (q : Nat) => s113_3 (J := J) (q := q) hM hi
    have t4 := fun (J : SJ) (q : Nat) => s113_4 (J := J) (q := q) hM hi
    have t5 := fun (J : SJ) (q : Nat) => s113_5 (J := J) (q := q) hM hi
    have t6 := fun (J : SJ) (q : Nat) => s113_6 (J := J) (q := q) hM hi
    have t7 := fun (J : SJ) (q : Nat) => s113_7 (J := J) (q := q) hM hi
    have t8 := fun (J : SJ) (q : Nat) => s113_8 (J := J) (q := q) hM hi
    have t9 := fun (J : SJ) (q : Nat) => s113_9 (J := J) (q := q) hM hi
    rw [e132_6]
    simp only [e132_0, e132_1, e132_3, e132_4, e132_8, e132_9, e132_12, e132_15, e132_16, e132_18, e132_19, e132_22, e132_23, e132_26, e132_27, e132_29, e132_32, e132_35, e132_36, e132_38, e132_40, e132_43, e132_44, e132_47, e132_48, e132_50, e132_51, e132_54, e132_55, e132_56, e132_57, e132_59, e132_60, e132_63, e132_66, e132_67, e132_70, e132_71, e132_73, e132_75, e132_77, e132_80, e132_81, e132_83, e132_84, e132_87, e132_88, e132_89, e132_91, e132_94, e132_97, e132_99, kf_0, ik_1, ik_2, ik_3, kf_8, ik_9, kf_10, ik_11, ik_28, ik_29, kf_30, ik_31, ik_48, ik_49, kf_50, kf_51, ik_52, ik_53, ik_54, kf_55, kf_56, ik_57, kf_58, ik_59, ik_60, ik_61, ik_62, ik_63, ik_64, ik_65, ik_66, ik_67, ik_68, ik_69, ik_70, ik_71, ik_72, ik_73, ik_74, rq_0_0, rq_0_1, rq_0_2, rq_0_3, rq_0_4, rq_0_5, rq_0_6, rq_0_7, rq_0_8, rq_8_0, rq_10_0, rq_10_1, rq_10_2, rq_30_0, rq_30_1, rq_30_2, rq_50_0, rq_51_0, rq_51_1, rq_51_2, rq_51_3, rq_51_4, rq_51_5, rq_56_0, rq_56_1, rq_56_2, rq_58_1, rq_58_3, rq_58_4, rq_58_5, rq_58_7, rq_58_8, rq_58_11, rq_58_12, rq_58_13, rq_58_14, rq_58_15, rq_58_25, rq_58_26, rq_58_29, rq_58_30, rq_58_31, rq_3, rq_11, rq_31, rq_law, rv_s, cl_i, cl_r, cl_n, tl_s, tl_n, kont_some, le4_0, le4_1, le4_2, le4_3, le4_4, eq_self, or_true, true_or, and_true, true_and, f1, f2, f3, hn, t0, t1, t2, t3, t4, t5, t6, t7, t8, t9, nI_1, b1_eq, ↓reduceIte, s130 hM hi, s104, wd_lt, bi_0, msk, jm, fldB, decide_eq_true_eq, Bool.and_eq_true]
    by_cases c1 : D i 1 = f
    · by_cases c2 : cbfB D i = true
      · by_cases c3 : D i 6 = nm
        · by_cases c4 : ¬ D i 5 < lo ∧ ¬ hi2 < D i 5
          · simp only [c1, c2, c3, c4, ↓reduceIte, not_true_eq_false, not_false_eq_true, e132_0, e132_1, e132_3, e132_4, e132_8, e132_9, e132_12, e132_15, e132_16, e132_18, e132_19, e132_22, e132_23, e132_26, e132_27, e132_29, e132_32, e132_35, e132_36, e132_38, e132_40, e132_43, e132_44, e132_47, e132_48, e132_50, e132_51, e132_54, e132_55, e132_56, e132_57, e132_59, e132_60, e132_63, e132_66, e132_67, e132_70, e132_71, e132_73, e132_75, e132_77, e132_80, e132_81, e132_83, e132_84, e132_87, e132_88, e132_89, e132_91, e132_94, e132_97, e132_99, kf_0, ik_1, ik_2, ik_3, kf_8, ik_9, kf_10, ik_11, ik_28, ik_29, kf_30, ik_31, ik_48, ik_49, kf_50, kf_51, ik_52, ik_53, ik_54, kf_55, kf_56, ik_57, kf_58, ik_59, ik_60, ik_61, ik_62, ik_63, ik_64, ik_65, ik_66, ik_67, ik_68, ik_69, ik_70, ik_71, ik_72, ik_73, ik_74, rq_0_0, rq_0_1, rq_0_2, rq_0_3, rq_0_4, rq_0_5, rq_0_6, rq_0_7, rq_0_8, rq_8_0, rq_10_0, rq_10_1, rq_10_2, rq_30_0, rq_30_1, rq_30_2, rq_50_0, rq_51_0, rq_51_1, rq_51_2, rq_51_3, rq_51_4, rq_51_5, rq_56_0, rq_56_1, rq_56_2, rq_58_1, rq_58_3, rq_58_4, rq_58_5, rq_58_7, rq_58_8, rq_58_11, rq_58_12, rq_58_13, rq_58_14, rq_58_15, rq_58_25, rq_58_26, rq_58_29, rq_58_30, rq_58_31, rq_3, rq_11, rq_31, rq_law, rv_s, cl_i, cl_r, cl_n, tl_s, tl_n, kont_some, le4_0, le4_1, le4_2, le4_3, le4_4, eq_self, or_true, true_or, and_true, true_and, show ¬ ((1 : Int32) = 0) by decide, b1_eq, and_self, bi, nI_1]
          · simp only [c1, c2, c3, c4, ↓reduceIte, not_true_eq_false, not_false_eq_true, e132_0, e132_1, e132_3, e132_4, e132_8, e132_9, e132_12, e132_15, e132_16, e132_18, e132_19, e132_22, e132_23, e132_26, e132_27, e132_29, e132_32, e132_35, e132_36, e132_38, e132_40, e132_43, e132_44, e132_47, e132_48, e132_50, e132_51, e132_54, e132_55, e132_56, e132_57, e132_59, e132_60, e132_63, e132_66, e132_67, e132_70, e132_71, e132_73, e132_75, e132_77, e132_80, e132_81, e132_83, e132_84, e132_87, e132_88, e132_89, e132_91, e132_94, e132_97, e132_99, kf_0, ik_1, ik_2, ik_3, kf_8, ik_9, kf_10, ik_11, ik_28, ik_29, kf_30, ik_31, ik_48, ik_49, kf_50, kf_51, ik_52, ik_53, ik_54, kf_55, kf_56, ik_57, kf_58, ik_59, ik_60, ik_61, ik_62, ik_63, ik_64, ik_65, ik_66, ik_67, ik_68, ik_69, ik_70, ik_71, ik_72, ik_73, ik_74, rq_0_0, rq_0_1, rq_0_2, rq_0_3, rq_0_4, rq_0_5, rq_0_6, rq_0_7, rq_0_8, rq_8_0, rq_10_0, rq_10_1, rq_10_2, rq_30_0, rq_30_1, rq_30_2, rq_50_0, rq_51_0, rq_51_1, rq_51_2, rq_51_3, rq_51_4, rq_51_5, rq_56_0, rq_56_1, rq_56_2, rq_58_1, rq_58_3, rq_58_4, rq_58_5, rq_58_7, rq_58_8, rq_58_11, rq_58_12, rq_58_13, rq_58_14, rq_58_15, rq_58_25, rq_58_26, rq_58_29, rq_58_30, rq_58_31, rq_3, rq_11, rq_31, rq_law, rv_s, cl_i, cl_r, cl_n, tl_s, tl_n, kont_some, le4_0, le4_1, le4_2, le4_3, le4_4, eq_self, or_true, true_or, and_true, true_and, and_false, bi, nI_1, Int32.or_zero]
        · simp only [c1, c2, c3, ↓reduceIte, not_true_eq_false, e132_0, e132_1, e132_3, e132_4, e132_8, e132_9, e132_12, e132_15, e132_16, e132_18, e132_19, e132_22, e132_23, e132_26, e132_27, e132_29, e132_32, e132_35, e132_36, e132_38, e132_40, e132_43, e132_44, e132_47, e132_48, e132_50, e132_51, e132_54, e132_55, e132_56, e132_57, e132_59, e132_60, e132_63, e132_66, e132_67, e132_70, e132_71, e132_73, e132_75, e132_77, e132_80, e132_81, e132_83, e132_84, e132_87, e132_88, e132_89, e132_91, e132_94, e132_97, e132_99, kf_0, ik_1, ik_2, ik_3, kf_8, ik_9, kf_10, ik_11, ik_28, ik_29, kf_30, ik_31, ik_48, ik_49, kf_50, kf_51, ik_52, ik_53, ik_54, kf_55, kf_56, ik_57, kf_58, ik_59, ik_60, ik_61, ik_62, ik_63, ik_64, ik_65, ik_66, ik_67, ik_68, ik_69, ik_70, ik_71, ik_72, ik_73, ik_74, rq_0_0, rq_0_1, rq_0_2, rq_0_3, rq_0_4, rq_0_5, rq_0_6, rq_0_7, rq_0_8, rq_8_0, rq_10_0, rq_10_1, rq_10_2, rq_30_0, rq_30_1, rq_30_2, rq_50_0, rq_51_0, rq_51_1, rq_51_2, rq_51_3, rq_51_4, rq_51_5, rq_56_0, rq_56_1, rq_56_2, rq_58_1, rq_58_3, rq_58_4, rq_58_5, rq_58_7, rq_58_8, rq_58_11, rq_58_12, rq_58_13, rq_58_14, rq_58_15, rq_58_25, rq_58_26, rq_58_29, rq_58_30, rq_58_31, rq_3, rq_11, rq_31, rq_law, rv_s, cl_i, cl_r, cl_n, tl_s, tl_n, kont_some, le4_0, le4_1, le4_2, le4_3, le4_4, eq_self, or_true, true_or, and_true, true_and, and_false, false_and, bi, nI_1, Int32.or_zero]
      · simp only [c1, c2, ↓reduceIte, not_false_eq_true, e132_0, e132_1, e132_3, e132_4, e132_8, e132_9, e132_12, e132_15, e132_16, e132_18, e132_19, e132_22, e132_23, e132_26, e132_27, e132_29, e132_32, e132_35, e132_36, e132_38, e132_40, e132_43, e132_44, e132_47, e132_48, e132_50, e132_51, e132_54, e132_55, e132_56, e132_57, e132_59, e132_60, e132_63, e132_66, e132_67, e132_70, e132_71, e132_73, e132_75, e132_77, e132_80, e132_81, e132_83, e132_84, e132_87, e132_88, e132_89, e132_91, e132_94, e132_97, e132_99, kf_0, ik_1, ik_2, ik_3, kf_8, ik_9, kf_10, ik_11, ik_28, ik_29, kf_30, ik_31, ik_48, ik_49, kf_50, kf_51, ik_52, ik_53, ik_54, kf_55, kf_56, ik_57, kf_58, ik_59, ik_60, ik_61, ik_62, ik_63, ik_64, ik_65, ik_66, ik_67, ik_68, ik_69, ik_70, ik_71, ik_72, ik_73, ik_74, rq_0_0, rq_0_1, rq_0_2, rq_0_3, rq_0_4, rq_0_5, rq_0_6, rq_0_7, rq_0_8, rq_8_0, rq_10_0, rq_10_1, rq_10_2, rq_30_0, rq_30_1, rq_30_2, rq_50_0, rq_51_0, rq_51_1, rq_51_2, rq_51_3, rq_51_4, rq_51_5, rq_56_0, rq_56_1, rq_56_2, rq_58_1, rq_58_3, rq_58_4, rq_58_5, rq_58_7, rq_58_8, rq_58_11, rq_58_12, rq_58_13, rq_58_14, rq_58_15, rq_58_25, rq_58_26, rq_58_29, rq_58_30, rq_58_31, rq_3, rq_11, rq_31, rq_law, rv_s, cl_i, cl_r, cl_n, tl_s, tl_n, kont_some, le4_0, le4_1, le4_2, le4_3, le4_4, eq_self, or_true, true_or, and_true, true_and, and_false, false_and, Bool.false_eq_true, bi, nI_1, Int32.or_zero]
    · simp only [c1, ↓reduceIte, e132_0, e132_1, e132_3, e132_4, e132_8, e132_9, e132_12, e132_15, e132_16, e132_18, e132_19, e132_22, e132_23, e132_26, e132_27, e132_29, e132_32, e132_35, e132_36, e132_38, e132_40, e132_43, e132_44, e132_47, e132_48, e132_50, e132_51, e132_54, e132_55, e132_56, e132_57, e132_59, e132_60, e132_63, e132_66, e132_67, e132_70, e132_71, e132_73, e132_75, e132_77, e132_80, e132_81, e132_83, e132_84, e132_87, e132_88, e132_89, e132_91, e132_94, e132_97, e132_99, kf_0, ik_1, ik_2, ik_3, kf_8, ik_9, kf_10, ik_11, ik_28, ik_29, kf_30, ik_31, ik_48, ik_49, kf_50, kf_51, ik_52, ik_53, ik_54, kf_55, kf_56, ik_57, kf_58, ik_59, ik_60, ik_61, ik_62, ik_63, ik_64, ik_65, ik_66, ik_67, ik_68, ik_69, ik_70, ik_71, ik_72, ik_73, ik_74, rq_0_0, rq_0_1, rq_0_2, rq_0_3, rq_0_4, rq_0_5, rq_0_6, rq_0_7, rq_0_8, rq_8_0, rq_10_0, rq_10_1, rq_10_2, rq_30_0, rq_30_1, rq_30_2, rq_50_0, rq_51_0, rq_51_1, rq_51_2, rq_51_3, rq_51_4, rq_51_5, rq_56_0, rq_56_1, rq_56_2, rq_58_1, rq_58_3, rq_58_4, rq_58_5, rq_58_7, rq_58_8, rq_58_11, rq_58_12, rq_58_13, rq_58_14, rq_58_15, rq_58_25, rq_58_26, rq_58_29, rq_58_30, rq_58_31, rq_3, rq_11, rq_31, rq_law, rv_s, cl_i, cl_r, cl_n, tl_s, tl_n, kont_some, le4_0, le4_1, le4_2, le4_3, le4_4, eq_self, or_true, true_or, and_true, true_and, and_false, false_and, bi, nI_1, Int32.or_zero])
  rw [run_132, e]
  simp only [e132_0, e132_1, e132_3, e132_4, e132_8, e132_9, e132_12, e132_15, e132_16, e132_18, e132_19, e132_22, e132_23, e132_26, e132_27, e132_29, e132_32, e132_35, e132_36, e132_38, e132_40, e132_43, e132_44, e132_47, e132_48, e132_50, e132_51, e132_54, e132_55, e132_56, e132_57, e132_59, e132_60, e132_63, e132_66, e132_67, e132_70, e132_71, e132_73, e132_75, e132_77, e132_80, e132_81, e132_83, e132_84, e132_87, e132_88, e132_89, e132_91, e132_94, e132_97, e132_99, kf_0, ik_1, ik_2, ik_3, kf_8, ik_9, kf_10, ik_11, ik_28, ik_29, kf_30, ik_31, ik_48, ik_49, kf_50, kf_51, ik_52, ik_53, ik_54, kf_55, kf_56, ik_57, kf_58, ik_59, ik_60, ik_61, ik_62, ik_63, ik_64, ik_65, ik_66, ik_67, ik_68, ik_69, ik_70, ik_71, ik_72, ik_73, ik_74, rq_0_0, rq_0_1, rq_0_2, rq_0_3, rq_0_4, rq_0_5, rq_0_6, rq_0_7, rq_0_8, rq_8_0, rq_10_0, rq_10_1, rq_10_2, rq_30_0, rq_30_1, rq_30_2, rq_50_0, rq_51_0, rq_51_1, rq_51_2, rq_51_3, rq_51_4, rq_51_5, rq_56_0, rq_56_1, rq_56_2, rq_58_1, rq_58_3, rq_58_4, rq_58_5, rq_58_7, rq_58_8, rq_58_11, rq_58_12, rq_58_13, rq_58_14, rq_58_15, rq_58_25, rq_58_26, rq_58_29, rq_58_30, rq_58_31, rq_3, rq_11, rq_31, rq_law, rv_s, cl_i, cl_r, cl_n, tl_s, tl_n, kont_some, le4_0, le4_1, le4_2, le4_3, le4_4, eq_self, or_true, true_or, and_true, true_and]
  refine key.trans ?_
  rw [e132_6]
  simp only [e132_0, e132_1, e132_3, e132_4, e132_8, e132_9, e132_12, e132_15, e132_16, e132_18, e132_19, e132_22, e132_23, e132_26, e132_27, e132_29, e132_32, e132_35, e132_36, e132_38, e132_40, e132_43, e132_44, e132_47, e132_48, e132_50, e132_51, e132_54, e132_55, e132_56, e132_57, e132_59, e132_60, e132_63, e132_66, e132_67, e132_70, e132_71, e132_73, e132_75, e132_77, e132_80, e132_81, e132_83, e132_84, e132_87, e132_88, e132_89, e132_91, e132_94, e132_97, e132_99, kf_0, ik_1, ik_2, ik_3, kf_8, ik_9, kf_10, ik_11, ik_28, ik_29, kf_30, ik_31, ik_48, ik_49, kf_50, kf_51, ik_52, ik_53, ik_54, kf_55, kf_56, ik_57, kf_58, ik_59, ik_60, ik_61, ik_62, ik_63, ik_64, ik_65, ik_66, ik_67, ik_68, ik_69, ik_70, ik_71, ik_72, ik_73, ik_74, rq_0_0, rq_0_1, rq_0_2, rq_0_3, rq_0_4, rq_0_5, rq_0_6, rq_0_7, rq_0_8, rq_8_0, rq_10_0, rq_10_1, rq_10_2, rq_30_0, rq_30_1, rq_30_2, rq_50_0, rq_51_0, rq_51_1, rq_51_2, rq_51_3, rq_51_4, rq_51_5, rq_56_0, rq_56_1, rq_56_2, rq_58_1, rq_58_3, rq_58_4, rq_58_5, rq_58_7, rq_58_8, rq_58_11, rq_58_12, rq_58_13, rq_58_14, rq_58_15, rq_58_25, rq_58_26, rq_58_29, rq_58_30, rq_58_31, rq_3, rq_11, rq_31, rq_law, rv_s, cl_i, cl_r, cl_n, tl_s, tl_n, kont_some, le4_0, le4_1, le4_2, le4_3, le4_4, eq_self, or_true, true_or, and_true, true_and, hM.1, Int32.lt_irrefl, ↓reduceIte]
end MLEAF
