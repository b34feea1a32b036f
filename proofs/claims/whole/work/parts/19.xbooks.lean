/-! Books, Court: sets of bits -/
section BOOKS
variable {G : SG} {J : SJ} {q n c : Nat} {D : DT}
theorem s2 (f : Int32) (hX : HX G n D) : run 2 [.ref (10 : Nat), .int f] KF G J (RQ q) = some ((KF, G, J, RQ q), some (.int (msk (fun j => fldB D f j) n))) := by
  have key : ev 2 4 [some (.ref (10 : Nat)), some (.int f), some (.int (msk (fun j => fldB D f j) 0)), some (.int (nI 0))] [] KF G J (RQ q) = ev 2 4 [some (.ref (10 : Nat)), some (.int f), some (.int (msk (fun j => fldB D f j) n)), some (.int (nI n))] [] KF G J (RQ q) := iter (fun i => ev 2 4 [some (.ref (10 : Nat)), some (.int f), some (.int (msk (fun j => fldB D f j) i)), some (.int (nI i))] [] KF G J (RQ q)) n (fun i hi => by
    have h16 := hX.2.1
    have f1 := lt_nI hi (show n < 2147483648 by omega)
    have f2 := inb_nI (show i < 16 by omega) (show 16 < 2147483648 by omega)
    have f3 := cl_nI (show i < 2147483648 by omega)
    have f4 := kf_deed (show i < 16 by omega)
    have f5 : i < 32 := by omega
    have f6 : i < 16 := by omega
    have hn := hX.1
    have d0 := hX.2.2 i 0 hi (by omega)
    have d1 := hX.2.2 i 1 hi (by omega)
    have d2 := hX.2.2 i 2 hi (by omega)
    have d3 := hX.2.2 i 3 hi (by omega)
    have d4 := hX.2.2 i 4 hi (by omega)
    have d5 := hX.2.2 i 5 hi (by omega)
    have d6 := hX.2.2 i 6 hi (by omega)
    have d7 := hX.2.2 i 7 hi (by omega)
    have d8 := hX.2.2 i 8 hi (by omega)
    have d9 := hX.2.2 i 9 hi (by omega)
    rw [e2_4]
    simp only [e2_0, e2_1, e2_2, e2_3, e2_5, e2_6, e2_9, e2_12, e2_13, e2_16, e2_17, e2_18, e2_21, e2_22, e2_25, e2_26, e2_27, e2_30, e2_31, e2_32, e2_35, e2_38, e2_39, kf_0, ik_1, ik_2, ik_3, kf_8, ik_9, kf_10, ik_11, ik_28, ik_29, kf_30, ik_31, ik_48, ik_49, kf_50, kf_51, ik_52, ik_53, ik_54, kf_55, kf_56, ik_57, kf_58, ik_59, ik_60, ik_61, ik_62, ik_63, ik_64, ik_65, ik_66, ik_67, ik_68, ik_69, ik_70, ik_71, ik_72, ik_73, ik_74, rq_0_0, rq_0_1, rq_0_2, rq_0_3, rq_0_4, rq_0_5, rq_0_6, rq_0_7, rq_0_8, rq_8_0, rq_10_0, rq_10_1, rq_10_2, rq_30_0, rq_30_1, rq_30_2, rq_50_0, rq_51_0, rq_51_1, rq_51_2, rq_51_3, rq_51_4, rq_51_5, rq_56_0, rq_56_1, rq_56_2, rq_58_1, rq_58_3, rq_58_4, rq_58_5, rq_58_7, rq_58_8, rq_58_11, rq_58_12, rq_58_13, rq_58_14, rq_58_15, rq_58_25, rq_58_26, rq_58_29, rq_58_30, rq_58_31, rq_3, rq_11, rq_31, rq_law, rv_s, cl_i, cl_r, cl_n, tl_s, tl_n, kont_some, le4_0, le4_1, le4_2, le4_3, le4_4, eq_self, or_true, true_or, and_true, true_and, f1, f2, f3, f4, hn, d0, d1, d2, d3, d4, d5, d6, d7, d8, d9, nI_1, b1_eq, ↓reduceIte, s100, msk, fldB, decide_eq_true_eq]
    (repeat' split) <;> first | rfl | simp_all)
  rw [run_2]
  simp only [e2_0, e2_1, e2_2, e2_3, e2_5, e2_6, e2_9, e2_12, e2_13, e2_16, e2_17, e2_18, e2_21, e2_22, e2_25, e2_26, e2_27, e2_30, e2_31, e2_32, e2_35, e2_38, e2_39, kf_0, ik_1, ik_2, ik_3, kf_8, ik_9, kf_10, ik_11, ik_28, ik_29, kf_30, ik_31, ik_48, ik_49, kf_50, kf_51, ik_52, ik_53, ik_54, kf_55, kf_56, ik_57, kf_58, ik_59, ik_60, ik_61, ik_62, ik_63, ik_64, ik_65, ik_66, ik_67, ik_68, ik_69, ik_70, ik_71, ik_72, ik_73, ik_74, rq_0_0, rq_0_1, rq_0_2, rq_0_3, rq_0_4, rq_0_5, rq_0_6, rq_0_7, rq_0_8, rq_8_0, rq_10_0, rq_10_1, rq_10_2, rq_30_0, rq_30_1, rq_30_2, rq_50_0, rq_51_0, rq_51_1, rq_51_2, rq_51_3, rq_51_4, rq_51_5, rq_56_0, rq_56_1, rq_56_2, rq_58_1, rq_58_3, rq_58_4, rq_58_5, rq_58_7, rq_58_8, rq_58_11, rq_58_12, rq_58_13, rq_58_14, rq_58_15, rq_58_25, rq_58_26, rq_58_29, rq_58_30, rq_58_31, rq_3, rq_11, rq_31, rq_law, rv_s, cl_i, cl_r, cl_n, tl_s, tl_n, kont_some, le4_0, le4_1, le4_2, le4_3, le4_4, eq_self, or_true, true_or, and_true, true_and]
  refine key.trans ?_
  rw [e2_4]
  simp only [e2_0, e2_1, e2_2, e2_3, e2_5, e2_6, e2_9, e2_12, e2_13, e2_16, e2_17, e2_18, e2_21, e2_22, e2_25, e2_26, e2_27, e2_30, e2_31, e2_32, e2_35, e2_38, e2_39, kf_0, ik_1, ik_2, ik_3, kf_8, ik_9, kf_10, ik_11, ik_28, ik_29, kf_30, ik_31, ik_48, ik_49, kf_50, kf_51, ik_52, ik_53, ik_54, kf_55, kf_56, ik_57, kf_58, ik_59, ik_60, ik_61, ik_62, ik_63, ik_64, ik_65, ik_66, ik_67, ik_68, ik_69, ik_70, ik_71, ik_72, ik_73, ik_74, rq_0_0, rq_0_1, rq_0_2, rq_0_3, rq_0_4, rq_0_5, rq_0_6, rq_0_7, rq_0_8, rq_8_0, rq_10_0, rq_10_1, rq_10_2, rq_30_0, rq_30_1, rq_30_2, rq_50_0, rq_51_0, rq_51_1, rq_51_2, rq_51_3, rq_51_4, rq_51_5, rq_56_0, rq_56_1, rq_56_2, rq_58_1, rq_58_3, rq_58_4, rq_58_5, rq_58_7, rq_58_8, rq_58_11, rq_58_12, rq_58_13, rq_58_14, rq_58_15, rq_58_25, rq_58_26, rq_58_29, rq_58_30, rq_58_31, rq_3, rq_11, rq_31, rq_law, rv_s, cl_i, cl_r, cl_n, tl_s, tl_n, kont_some, le4_0, le4_1, le4_2, le4_3, le4_4, eq_self, or_true, true_or, and_true, true_and, hX.1, Int32.lt_irrefl, ↓reduceIte]
theorem s3 (f : Int32) (hX : HX G n D) : run 3 [.ref (10 : Nat), .int f] KF G J (RQ q) = some ((KF, G, J, RQ q), some (.int (msk (fun j => fldB D f j && cbfB D j) n))) := by
  have key : ev 3 4 [some (.ref (10 : Nat)), some (.int f), some (.int (msk (fun j => fldB D f j && cbfB D j) 0)), some (.int (nI 0))] [] KF G J (RQ q) = ev 3 4 [some (.ref (10 : Nat)), some (.int f), some (.int (msk (fun j => fldB D f j && cbfB D j) n)), some (.int (nI n))] [] KF G J (RQ q) := iter (fun i => ev 3 4 [some (.ref (10 : Nat)), some (.int f), some (.int (msk (fun j => fldB D f j && cbfB D j) i)), some (.int (nI i))] [] KF G J (RQ q)) n (fun i hi => by
    have h16 := hX.2.1
    have f1 := lt_nI hi (show n < 2147483648 by omega)
    have f2 := inb_nI (show i < 16 by omega) (show 16 < 2147483648 by omega)
    have f3 := cl_nI (show i < 2147483648 by omega)
    have f4 := kf_deed (show i < 16 by omega)
    have f5 : i < 32 := by omega
    have f6 : i < 16 := by omega
    have hn := hX.1
    have d0 := hX.2.2 i 0 hi (by omega)
    have d1 := hX.2.2 i 1 hi (by omega)
    have d2 := hX.2.2 i 2 hi (by omega)
    have d3 := hX.2.2 i 3 hi (by omega)
    have d4 := hX.2.2 i 4 hi (by omega)
    have d5 := hX.2.2 i 5 hi (by omega)
    have d6 := hX.2.2 i 6 hi (by omega)
    have d7 := hX.2.2 i 7 hi (by omega)
    have d8 := hX.2.2 i 8 hi (by omega)
    have d9 := hX.2.2 i 9 hi (by omega)
    rw [e3_4]
    simp only [e3_0, e3_1, e3_2, e3_3, e3_5, e3_6, e3_9, e3_12, e3_13, e3_16, e3_17, e3_18, e3_21, e3_22, e3_25, e3_26, e3_29, e3_30, e3_31, e3_34, e3_37, e3_38, e3_39, e3_42, e3_43, e3_44, e3_47, e3_50, e3_51, kf_0, ik_1, ik_2, ik_3, kf_8, ik_9, kf_10, ik_11, ik_28, ik_29, kf_30, ik_31, ik_48, ik_49, kf_50, kf_51, ik_52, ik_53, ik_54, kf_55, kf_56, ik_57, kf_58, ik_59, ik_60, ik_61, ik_62, ik_63, ik_64, ik_65, ik_66, ik_67, ik_68, ik_69, ik_70, ik_71, ik_72, ik_73, ik_74, rq_0_0, rq_0_1, rq_0_2, rq_0_3, rq_0_4, rq_0_5, rq_0_6, rq_0_7, rq_0_8, rq_8_0, rq_10_0, rq_10_1, rq_10_2, rq_30_0, rq_30_1, rq_30_2, rq_50_0, rq_51_0, rq_51_1, rq_51_2, rq_51_3, rq_51_4, rq_51_5, rq_56_0, rq_56_1, rq_56_2, rq_58_1, rq_58_3, rq_58_4, rq_58_5, rq_58_7, rq_58_8, rq_58_11, rq_58_12, rq_58_13, rq_58_14, rq_58_15, rq_58_25, rq_58_26, rq_58_29, rq_58_30, rq_58_31, rq_3, rq_11, rq_31, rq_law, rv_s, cl_i, cl_r, cl_n, tl_s, tl_n, kont_some, le4_0, le4_1, le4_2, le4_3, le4_4, eq_self, or_true, true_or, and_true, true_and, f1, f2, f3, f4, hn, d0, d1, d2, d3, d4, d5, d6, d7, d8, d9, nI_1, b1_eq, ↓reduceIte, s100, s32, bi_0, msk, fldB, cbfB, decide_eq_true_eq, Bool.and_eq_true]
    (repeat' split) <;> first | rfl | simp_all)
  rw [run_3]
  simp only [e3_0, e3_1, e3_2, e3_3, e3_5, e3_6, e3_9, e3_12, e3_13, e3_16, e3_17, e3_18, e3_21, e3_22, e3_25, e3_26, e3_29, e3_30, e3_31, e3_34, e3_37, e3_38, e3_39, e3_42, e3_43, e3_44, e3_47, e3_50, e3_51, kf_0, ik_1, ik_2, ik_3, kf_8, ik_9, kf_10, ik_11, ik_28, ik_29, kf_30, ik_31, ik_48, ik_49, kf_50, kf_51, ik_52, ik_53, ik_54, kf_55, kf_56, ik_57, kf_58, ik_59, ik_60, ik_61, ik_62, ik_63, ik_64, ik_65, ik_66, ik_67, ik_68, ik_69, ik_70, ik_71, ik_72, ik_73, ik_74, rq_0_0, rq_0_1, rq_0_2, rq_0_3, rq_0_4, rq_0_5, rq_0_6, rq_0_7, rq_0_8, rq_8_0, rq_10_0, rq_10_1, rq_10_2, rq_30_0, rq_30_1, rq_30_2, rq_50_0, rq_51_0, rq_51_1, rq_51_2, rq_51_3, rq_51_4, rq_51_5, rq_56_0, rq_56_1, rq_56_2, rq_58_1, rq_58_3, rq_58_4, rq_58_5, rq_58_7, rq_58_8, rq_58_11, rq_58_12, rq_58_13, rq_58_14, rq_58_15, rq_58_25, rq_58_26, rq_58_29, rq_58_30, rq_58_31, rq_3, rq_11, rq_31, rq_law, rv_s, cl_i, cl_r, cl_n, tl_s, tl_n, kont_some, le4_0, le4_1, le4_2, le4_3, le4_4, eq_self, or_true, true_or, and_true, true_and]
  refine key.trans ?_
  rw [e3_4]
  simp only [e3_0, e3_1, e3_2, e3_3, e3_5, e3_6, e3_9, e3_12, e3_13, e3_16, e3_17, e3_18, e3_21, e3_22, e3_25, e3_26, e3_29, e3_30, e3_31, e3_34, e3_37, e3_38, e3_39, e3_42, e3_43, e3_44, e3_47, e3_50, e3_51, kf_0, ik_1, ik_2, ik_3, kf_8, ik_9, kf_10, ik_11, ik_28, ik_29, kf_30, ik_31, ik_48, ik_49, kf_50, kf_51, ik_52, ik_53, ik_54, kf_55, kf_56, ik_57, kf_58, ik_59, ik_60, ik_61, ik_62, ik_63, ik_64, ik_65, ik_66, ik_67, ik_68, ik_69, ik_70, ik_71, ik_72, ik_73, ik_74, rq_0_0, rq_0_1, rq_0_2, rq_0_3, rq_0_4, rq_0_5, rq_0_6, rq_0_7, rq_0_8, rq_8_0, rq_10_0, rq_10_1, rq_10_2, rq_30_0, rq_30_1, rq_30_2, rq_50_0, rq_51_0, rq_51_1, rq_51_2, rq_51_3, rq_51_4, rq_51_5, rq_56_0, rq_56_1, rq_56_2, rq_58_1, rq_58_3, rq_58_4, rq_58_5, rq_58_7, rq_58_8, rq_58_11, rq_58_12, rq_58_13, rq_58_14, rq_58_15, rq_58_25, rq_58_26, rq_58_29, rq_58_30, rq_58_31, rq_3, rq_11, rq_31, rq_law, rv_s, cl_i, cl_r, cl_n, tl_s, tl_n, kont_some, le4_0, le4_1, le4_2, le4_3, le4_4, eq_self, or_true, true_or, and_true, true_and, hX.1, Int32.lt_irrefl, ↓reduceIte]
theorem s4 (f : Int32) (hX : HX G n D) : run 4 [.ref (10 : Nat), .int f] KF G J (RQ q) = some ((KF, G, J, RQ q), some (.int (msk (fun j => fldB D f j && pasB D j && entB D j) n))) := by
  have key : ev 4 4 [some (.ref (10 : Nat)), some (.int f), some (.int (msk (fun j => fldB D f j && pasB D j && entB D j) 0)), some (.int (nI 0))] [] KF G J (RQ q) = ev 4 4 [some (.ref (10 : Nat)), some (.int f), some (.int (msk (fun j => fldB D f j && pasB D j && entB D j) n)), some (.int (nI n))] [] KF G J (RQ q) := iter (fun i => ev 4 4 [some (.ref (10 : Nat)), some (.int f), some (.int (msk (fun j => fldB D f j && pasB D j && entB D j) i)), some (.int (nI i))] [] KF G J (RQ q)) n (fun i hi => by
    have h16 := hX.2.1
    have f1 := lt_nI hi (show n < 2147483648 by omega)
    have f2 := inb_nI (show i < 16 by omega) (show 16 < 2147483648 by omega)
    have f3 := cl_nI (show i < 2147483648 by omega)
    have f4 := kf_deed (show i < 16 by omega)
    have f5 : i < 32 := by omega
    have f6 : i < 16 := by omega
    have hn := hX.1
    have d0 := hX.2.2 i 0 hi (by omega)
    have d1 := hX.2.2 i 1 hi (by omega)
    have d2 := hX.2.2 i 2 hi (by omega)
    have d3 := hX.2.2 i 3 hi (by omega)
    have d4 := hX.2.2 i 4 hi (by omega)
    have d5 := hX.2.2 i 5 hi (by omega)
    have d6 := hX.2.2 i 6 hi (by omega)
    have d7 := hX.2.2 i 7 hi (by omega)
    have d8 := hX.2.2 i 8 hi (by omega)
    have d9 := hX.2.2 i 9 hi (by omega)
    rw [e4_4]
    simp only [e4_0, e4_1, e4_2, e4_3, e4_5, e4_6, e4_9, e4_12, e4_13, e4_16, e4_17, e4_18, e4_21, e4_22, e4_25, e4_26, e4_29, e4_30, e4_31, e4_34, e4_37, e4_38, e4_41, e4_42, e4_43, e4_46, e4_49, e4_50, e4_51, e4_54, e4_55, e4_56, e4_59, e4_62, e4_63, kf_0, ik_1, ik_2, ik_3, kf_8, ik_9, kf_10, ik_11, ik_28, ik_29, kf_30, ik_31, ik_48, ik_49, kf_50, kf_51, ik_52, ik_53, ik_54, kf_55, kf_56, ik_57, kf_58, ik_59, ik_60, ik_61, ik_62, ik_63, ik_64, ik_65, ik_66, ik_67, ik_68, ik_69, ik_70, ik_71, ik_72, ik_73, ik_74, rq_0_0, rq_0_1, rq_0_2, rq_0_3, rq_0_4, rq_0_5, rq_0_6, rq_0_7, rq_0_8, rq_8_0, rq_10_0, rq_10_1, rq_10_2, rq_30_0, rq_30_1, rq_30_2, rq_50_0, rq_51_0, rq_51_1, rq_51_2, rq_51_3, rq_51_4, rq_51_5, rq_56_0, rq_56_1, rq_56_2, rq_58_1, rq_58_3, rq_58_4, rq_58_5, rq_58_7, rq_58_8, rq_58_11, rq_58_12, rq_58_13, rq_58_14, rq_58_15, rq_58_25, rq_58_26, rq_58_29, rq_58_30, rq_58_31, rq_3, rq_11, rq_31, rq_law, rv_s, cl_i, cl_r, cl_n, tl_s, tl_n, kont_some, le4_0, le4_1, le4_2, le4_3, le4_4, eq_self, or_true, true_or, and_true, true_and, f1, f2, f3, f4, hn, d0, d1, d2, d3, d4, d5, d6, d7, d8, d9, nI_1, b1_eq, ↓reduceIte, s100, s29, s31, bi_0, msk, fldB, pasB, entB, decide_eq_true_eq, Bool.and_eq_true]
    (repeat' split) <;> first | rfl | simp_all)
  rw [run_4]
  simp only [e4_0, e4_1, e4_2, e4_3, e4_5, e4_6, e4_9, e4_12, e4_13, e4_16, e4_17, e4_18, e4_21, e4_22, e4_25, e4_26, e4_29, e4_30, e4_31, e4_34, e4_37, e4_38, e4_41, e4_42, e4_43, e4_46, e4_49, e4_50, e4_51, e4_54, e4_55, e4_56, e4_59, e4_62, e4_63, kf_0, ik_1, ik_2, ik_3, kf_8, ik_9, kf_10, ik_11, ik_28, ik_29, kf_30, ik_31, ik_48, ik_49, kf_50, kf_51, ik_52, ik_53, ik_54, kf_55, kf_56, ik_57, kf_58, ik_59, ik_60, ik_61, ik_62, ik_63, ik_64, ik_65, ik_66, ik_67, ik_68, ik_69, ik_70, ik_71, ik_72, ik_73, ik_74, rq_0_0, rq_0_1, rq_0_2, rq_0_3, rq_0_4, rq_0_5, rq_0_6, rq_0_7, rq_0_8, rq_8_0, rq_10_0, rq_10_1, rq_10_2, rq_30_0, rq_30_1, rq_30_2, rq_50_0, rq_51_0, rq_51_1, rq_51_2, rq_51_3, rq_51_4, rq_51_5, rq_56_0, rq_56_1, rq_56_2, rq_58_1, rq_58_3, rq_58_4, rq_58_5, rq_58_7, rq_58_8, rq_58_11, rq_58_12, rq_58_13, rq_58_14, rq_58_15, rq_58_25, rq_58_26, rq_58_29, rq_58_30, rq_58_31, rq_3, rq_11, rq_31, rq_law, rv_s, cl_i, cl_r, cl_n, tl_s, tl_n, kont_some, le4_0, le4_1, le4_2, le4_3, le4_4, eq_self, or_true, true_or, and_true, true_and]
  refine key.trans ?_
  rw [e4_4]
  simp only [e4_0, e4_1, e4_2, e4_3, e4_5, e4_6, e4_9, e4_12, e4_13, e4_16, e4_17, e4_18, e4_21, e4_22, e4_25, e4_26, e4_29, e4_30, e4_31, e4_34, e4_37, e4_38, e4_41, e4_42, e4_43, e4_46, e4_49, e4_50, e4_51, e4_54, e4_55, e4_56, e4_59, e4_62, e4_63, kf_0, ik_1, ik_2, ik_3, kf_8, ik_9, kf_10, ik_11, ik_28, ik_29, kf_30, ik_31, ik_48, ik_49, kf_50, kf_51, ik_52, ik_53, ik_54, kf_55, kf_56, ik_57, kf_58, ik_59, ik_60, ik_61, ik_62, ik_63, ik_64, ik_65, ik_66, ik_67, ik_68, ik_69, ik_70, ik_71, ik_72, ik_73, ik_74, rq_0_0, rq_0_1, rq_0_2, rq_0_3, rq_0_4, rq_0_5, rq_0_6, rq_0_7, rq_0_8, rq_8_0, rq_10_0, rq_10_1, rq_10_2, rq_30_0, rq_30_1, rq_30_2, rq_50_0, rq_51_0, rq_51_1, rq_51_2, rq_51_3, rq_51_4, rq_51_5, rq_56_0, rq_56_1, rq_56_2, rq_58_1, rq_58_3, rq_58_4, rq_58_5, rq_58_7, rq_58_8, rq_58_11, rq_58_12, rq_58_13, rq_58_14, rq_58_15, rq_58_25, rq_58_26, rq_58_29, rq_58_30, rq_58_31, rq_3, rq_11, rq_31, rq_law, rv_s, cl_i, cl_r, cl_n, tl_s, tl_n, kont_some, le4_0, le4_1, le4_2, le4_3, le4_4, eq_self, or_true, true_or, and_true, true_and, hX.1, Int32.lt_irrefl, ↓reduceIte]
theorem s6 {a b : Nat} (hX : HX G n D) (ha : a < n) (hb : b < n) : run 6 [.ref (10 : Nat), .int (nI a), .int (nI b)] KF G J (RQ q) = some ((KF, G, J, RQ q), some (.int (bi (ahB D a b = true)))) := by
  rw [run_6]
  have h16 := hX.2.1
  have fa := inb_nI (show a < 16 by omega) (show 16 < 2147483648 by omega)
  have fb := inb_nI (show b < 16 by omega) (show 16 < 2147483648 by omega)
  have ga := cl_nI (show a < 2147483648 by omega)
  have gb := cl_nI (show b < 2147483648 by omega)
  have ka := kf_deed (show a < 16 by omega)
  have kb := kf_deed (show b < 16 by omega)
  have da := hX.2.2 a 4 ha (by omega)
  have db := hX.2.2 b 4 hb (by omega)
  have hab : (nI a < nI b) = (a < b) := propext (nI_ltI (by omega) (by omega))
  simp only [e6_0, e6_1, e6_4, e6_5, e6_6, e6_9, e6_10, e6_11, e6_14, e6_15, e6_16, e6_19, e6_21, e6_22, e6_24, e6_27, e6_28, e6_30, e6_33, e6_34, e6_35, e6_38, e6_39, e6_42, e6_43, kf_0, ik_1, ik_2, ik_3, kf_8, ik_9, kf_10, ik_11, ik_28, ik_29, kf_30, ik_31, ik_48, ik_49, kf_50, kf_51, ik_52, ik_53, ik_54, kf_55, kf_56, ik_57, kf_58, ik_59, ik_60, ik_61, ik_62, ik_63, ik_64, ik_65, ik_66, ik_67, ik_68, ik_69, ik_70, ik_71, ik_72, ik_73, ik_74, rq_0_0, rq_0_1, rq_0_2, rq_0_3, rq_0_4, rq_0_5, rq_0_6, rq_0_7, rq_0_8, rq_8_0, rq_10_0, rq_10_1, rq_10_2, rq_30_0, rq_30_1, rq_30_2, rq_50_0, rq_51_0, rq_51_1, rq_51_2, rq_51_3, rq_51_4, rq_51_5, rq_56_0, rq_56_1, rq_56_2, rq_58_1, rq_58_3, rq_58_4, rq_58_5, rq_58_7, rq_58_8, rq_58_11, rq_58_12, rq_58_13, rq_58_14, rq_58_15, rq_58_25, rq_58_26, rq_58_29, rq_58_30, rq_58_31, rq_3, rq_11, rq_31, rq_law, rv_s, cl_i, cl_r, cl_n, tl_s, tl_n, kont_some, le4_0, le4_1, le4_2, le4_3, le4_4, eq_self, or_true, true_or, and_true, true_and, fa, fb, ga, gb, ka, kb, da, db, hab, bi, ahB, decide_eq_true_eq]
  by_cases h1 : D a 4 < D b 4 <;> by_cases h2 : D a 4 = D b 4 <;> by_cases h3 : a < b <;> simp only [h1, h2, h3, ↓reduceIte, or_true, true_or, or_false, false_or, and_true, and_false, false_and, or_self, ite_self, Int32.lt_irrefl]
theorem s5 (hX : HX G n D) : run 5 [.ref (10 : Nat)] KF G J (RQ q) = some ((KF, G, J, RQ q), some (.int (nI (cnt (fun j => entB D j) n)))) := by
  have key : ev 5 4 [some (.ref (10 : Nat)), some (.int (nI (cnt (fun j => entB D j) 0))), some (.int (nI 0))] [] KF G J (RQ q) = ev 5 4 [some (.ref (10 : Nat)), some (.int (nI (cnt (fun j => entB D j) n))), some (.int (nI n))] [] KF G J (RQ q) := iter (fun i => ev 5 4 [some (.ref (10 : Nat)), some (.int (nI (cnt (fun j => entB D j) i))), some (.int (nI i))] [] KF G J (RQ q)) n (fun i hi => by
    have h16 := hX.2.1
    have f1 := lt_nI hi (show n < 2147483648 by omega)
    have f2 := inb_nI (show i < 16 by omega) (show 16 < 2147483648 by omega)
    have f3 := cl_nI (show i < 2147483648 by omega)
    have f4 := kf_deed (show i < 16 by omega)
    have f5 : i < 32 := by omega
    have f6 : i < 16 := by omega
    have hn := hX.1
    have d0 := hX.2.2 i 0 hi (by omega)
    have d1 := hX.2.2 i 1 hi (by omega)
    have d2 := hX.2.2 i 2 hi (by omega)
    have d3 := hX.2.2 i 3 hi (by omega)
    have d4 := hX.2.2 i 4 hi (by omega)
    have d5 := hX.2.2 i 5 hi (by omega)
    have d6 := hX.2.2 i 6 hi (by omega)
    have d7 := hX.2.2 i 7 hi (by omega)
    have d8 := hX.2.2 i 8 hi (by omega)
    have d9 := hX.2.2 i 9 hi (by omega)
    rw [e5_4]
    simp only [e5_0, e5_1, e5_2, e5_3, e5_5, e5_6, e5_9, e5_12, e5_13, e5_16, e5_17, e5_18, e5_21, e5_24, e5_27, e5_30, e5_33, e5_34, kf_0, ik_1, ik_2, ik_3, kf_8, ik_9, kf_10, ik_11, ik_28, ik_29, kf_30, ik_31, ik_48, ik_49, kf_50, kf_51, ik_52, ik_53, ik_54, kf_55, kf_56, ik_57, kf_58, ik_59, ik_60, ik_61, ik_62, ik_63, ik_64, ik_65, ik_66, ik_67, ik_68, ik_69, ik_70, ik_71, ik_72, ik_73, ik_74, rq_0_0, rq_0_1, rq_0_2, rq_0_3, rq_0_4, rq_0_5, rq_0_6, rq_0_7, rq_0_8, rq_8_0, rq_10_0, rq_10_1, rq_10_2, rq_30_0, rq_30_1, rq_30_2, rq_50_0, rq_51_0, rq_51_1, rq_51_2, rq_51_3, rq_51_4, rq_51_5, rq_56_0, rq_56_1, rq_56_2, rq_58_1, rq_58_3, rq_58_4, rq_58_5, rq_58_7, rq_58_8, rq_58_11, rq_58_12, rq_58_13, rq_58_14, rq_58_15, rq_58_25, rq_58_26, rq_58_29, rq_58_30, rq_58_31, rq_3, rq_11, rq_31, rq_law, rv_s, cl_i, cl_r, cl_n, tl_s, tl_n, kont_some, le4_0, le4_1, le4_2, le4_3, le4_4, eq_self, or_true, true_or, and_true, true_and, f1, f2, f3, f4, hn, d0, d1, d2, d3, d4, d5, d6, d7, d8, d9, nI_1, b1_eq, ↓reduceIte, s31, bi_0, cnt, entB, decide_eq_true_eq]
    (repeat' split) <;> first | rfl | simp_all)
  rw [run_5]
  simp only [e5_0, e5_1, e5_2, e5_3, e5_5, e5_6, e5_9, e5_12, e5_13, e5_16, e5_17, e5_18, e5_21, e5_24, e5_27, e5_30, e5_33, e5_34, kf_0, ik_1, ik_2, ik_3, kf_8, ik_9, kf_10, ik_11, ik_28, ik_29, kf_30, ik_31, ik_48, ik_49, kf_50, kf_51, ik_52, ik_53, ik_54, kf_55, kf_56, ik_57, kf_58, ik_59, ik_60, ik_61, ik_62, ik_63, ik_64, ik_65, ik_66, ik_67, ik_68, ik_69, ik_70, ik_71, ik_72, ik_73, ik_74, rq_0_0, rq_0_1, rq_0_2, rq_0_3, rq_0_4, rq_0_5, rq_0_6, rq_0_7, rq_0_8, rq_8_0, rq_10_0, rq_10_1, rq_10_2, rq_30_0, rq_30_1, rq_30_2, rq_50_0, rq_51_0, rq_51_1, rq_51_2, rq_51_3, rq_51_4, rq_51_5, rq_56_0, rq_56_1, rq_56_2, rq_58_1, rq_58_3, rq_58_4, rq_58_5, rq_58_7, rq_58_8, rq_58_11, rq_58_12, rq_58_13, rq_58_14, rq_58_15, rq_58_25, rq_58_26, rq_58_29, rq_58_30, rq_58_31, rq_3, rq_11, rq_31, rq_law, rv_s, cl_i, cl_r, cl_n, tl_s, tl_n, kont_some, le4_0, le4_1, le4_2, le4_3, le4_4, eq_self, or_true, true_or, and_true, true_and]
  refine key.trans ?_
  rw [e5_4]
  simp only [e5_0, e5_1, e5_2, e5_3, e5_5, e5_6, e5_9, e5_12, e5_13, e5_16, e5_17, e5_18, e5_21, e5_24, e5_27, e5_30, e5_33, e5_34, kf_0, ik_1, ik_2, ik_3, kf_8, ik_9, kf_10, ik_11, ik_28, ik_29, kf_30, ik_31, ik_48, ik_49, kf_50, kf_51, ik_52, ik_53, ik_54, kf_55, kf_56, ik_57, kf_58, ik_59, ik_60, ik_61, ik_62, ik_63, ik_64, ik_65, ik_66, ik_67, ik_68, ik_69, ik_70, ik_71, ik_72, ik_73, ik_74, rq_0_0, rq_0_1, rq_0_2, rq_0_3, rq_0_4, rq_0_5, rq_0_6, rq_0_7, rq_0_8, rq_8_0, rq_10_0, rq_10_1, rq_10_2, rq_30_0, rq_30_1, rq_30_2, rq_50_0, rq_51_0, rq_51_1, rq_51_2, rq_51_3, rq_51_4, rq_51_5, rq_56_0, rq_56_1, rq_56_2, rq_58_1, rq_58_3, rq_58_4, rq_58_5, rq_58_7, rq_58_8, rq_58_11, rq_58_12, rq_58_13, rq_58_14, rq_58_15, rq_58_25, rq_58_26, rq_58_29, rq_58_30, rq_58_31, rq_3, rq_11, rq_31, rq_law, rv_s, cl_i, cl_r, cl_n, tl_s, tl_n, kont_some, le4_0, le4_1, le4_2, le4_3, le4_4, eq_self, or_true, true_or, and_true, true_and, hX.1, Int32.lt_irrefl, ↓reduceIte]
theorem s15 {b : Nat} (s : Int32) (hX : HX G n D) (hb : b < n) : run 15 [.ref (51 : Nat), .int (nI b), .int s] KF G J (RQ q) = some ((KF, G, J, RQ q), some (.int (msk (fun j => bt s j && ahB D j b) n))) := by
  have key : ev 15 5 [some (.ref (51 : Nat)), some (.int (nI b)), some (.int s), some (.int (msk (fun j => bt s j && ahB D j b) 0)), some (.int (nI 0))] [] KF G J (RQ q) = ev 15 5 [some (.ref (51 : Nat)), some (.int (nI b)), some (.int s), some (.int (msk (fun j => bt s j && ahB D j b) n)), some (.int (nI n))] [] KF G J (RQ q) := iter (fun i => ev 15 5 [some (.ref (51 : Nat)), some (.int (nI b)), some (.int s), some (.int (msk (fun j => bt s j && ahB D j b) i)), some (.int (nI i))] [] KF G J (RQ q)) n (fun i hi => by
    have h16 := hX.2.1
    have f1 := lt_nI hi (show n < 2147483648 by omega)
    have f2 := inb_nI (show i < 16 by omega) (show 16 < 2147483648 by omega)
    have f3 := cl_nI (show i < 2147483648 by omega)
    have f4 := kf_deed (show i < 16 by omega)
    have f5 : i < 32 := by omega
    have f6 : i < 16 := by omega
    have hn := hX.1
    have d0 := hX.2.2 i 0 hi (by omega)
    have d1 := hX.2.2 i 1 hi (by omega)
    have d2 := hX.2.2 i 2 hi (by omega)
    have d3 := hX.2.2 i 3 hi (by omega)
    have d4 := hX.2.2 i 4 hi (by omega)
    have d5 := hX.2.2 i 5 hi (by omega)
    have d6 := hX.2.2 i 6 hi (by omega)
    have d7 := hX.2.2 i 7 hi (by omega)
    have d8 := hX.2.2 i 8 hi (by omega)
    have d9 := hX.2.2 i 9 hi (by omega)
    rw [e15_5]
    simp only [e15_0, e15_1, e15_2, e15_3, e15_7, e15_8, e15_11, e15_14, e15_17, e15_18, e15_20, e15_23, e15_26, e15_27, e15_30, e15_32, e15_33, e15_36, e15_39, e15_40, e15_42, e15_45, e15_46, e15_47, e15_50, e15_53, e15_54, kf_0, ik_1, ik_2, ik_3, kf_8, ik_9, kf_10, ik_11, ik_28, ik_29, kf_30, ik_31, ik_48, ik_49, kf_50, kf_51, ik_52, ik_53, ik_54, kf_55, kf_56, ik_57, kf_58, ik_59, ik_60, ik_61, ik_62, ik_63, ik_64, ik_65, ik_66, ik_67, ik_68, ik_69, ik_70, ik_71, ik_72, ik_73, ik_74, rq_0_0, rq_0_1, rq_0_2, rq_0_3, rq_0_4, rq_0_5, rq_0_6, rq_0_7, rq_0_8, rq_8_0, rq_10_0, rq_10_1, rq_10_2, rq_30_0, rq_30_1, rq_30_2, rq_50_0, rq_51_0, rq_51_1, rq_51_2, rq_51_3, rq_51_4, rq_51_5, rq_56_0, rq_56_1, rq_56_2, rq_58_1, rq_58_3, rq_58_4, rq_58_5, rq_58_7, rq_58_8, rq_58_11, rq_58_12, rq_58_13, rq_58_14, rq_58_15, rq_58_25, rq_58_26, rq_58_29, rq_58_30, rq_58_31, rq_3, rq_11, rq_31, rq_law, rv_s, cl_i, cl_r, cl_n, tl_s, tl_n, kont_some, le4_0, le4_1, le4_2, le4_3, le4_4, eq_self, or_true, true_or, and_true, true_and, f1, f2, f3, f4, hn, d0, d1, d2, d3, d4, d5, d6, d7, d8, d9, nI_1, b1_eq, ↓reduceIte, s100, s101 f5, s6 hX hi hb, bi_0, msk, Bool.and_eq_true]
    (repeat' split) <;> first | rfl | simp_all)
  rw [run_15]
  simp only [e15_0, e15_1, e15_2, e15_3, e15_7, e15_8, e15_11, e15_14, e15_17, e15_18, e15_20, e15_23, e15_26, e15_27, e15_30, e15_32, e15_33, e15_36, e15_39, e15_40, e15_42, e15_45, e15_46, e15_47, e15_50, e15_53, e15_54, kf_0, ik_1, ik_2, ik_3, kf_8, ik_9, kf_10, ik_11, ik_28, ik_29, kf_30, ik_31, ik_48, ik_49, kf_50, kf_51, ik_52, ik_53, ik_54, kf_55, kf_56, ik_57, kf_58, ik_59, ik_60, ik_61, ik_62, ik_63, ik_64, ik_65, ik_66, ik_67, ik_68, ik_69, ik_70, ik_71, ik_72, ik_73, ik_74, rq_0_0, rq_0_1, rq_0_2, rq_0_3, rq_0_4, rq_0_5, rq_0_6, rq_0_7, rq_0_8, rq_8_0, rq_10_0, rq_10_1, rq_10_2, rq_30_0, rq_30_1, rq_30_2, rq_50_0, rq_51_0, rq_51_1, rq_51_2, rq_51_3, rq_51_4, rq_51_5, rq_56_0, rq_56_1, rq_56_2, rq_58_1, rq_58_3, rq_58_4, rq_58_5, rq_58_7, rq_58_8, rq_58_11, rq_58_12, rq_58_13, rq_58_14, rq_58_15, rq_58_25, rq_58_26, rq_58_29, rq_58_30, rq_58_31, rq_3, rq_11, rq_31, rq_law, rv_s, cl_i, cl_r, cl_n, tl_s, tl_n, kont_some, le4_0, le4_1, le4_2, le4_3, le4_4, eq_self, or_true, true_or, and_true, true_and]
  refine key.trans ?_
  rw [e15_5]
  simp only [e15_0, e15_1, e15_2, e15_3, e15_7, e15_8, e15_11, e15_14, e15_17, e15_18, e15_20, e15_23, e15_26, e15_27, e15_30, e15_32, e15_33, e15_36, e15_39, e15_40, e15_42, e15_45, e15_46, e15_47, e15_50, e15_53, e15_54, kf_0, ik_1, ik_2, ik_3, kf_8, ik_9, kf_10, ik_11, ik_28, ik_29, kf_30, ik_31, ik_48, ik_49, kf_50, kf_51, ik_52, ik_53, ik_54, kf_55, kf_56, ik_57, kf_58, ik_59, ik_60, ik_61, ik_62, ik_63, ik_64, ik_65, ik_66, ik_67, ik_68, ik_69, ik_70, ik_71, ik_72, ik_73, ik_74, rq_0_0, rq_0_1, rq_0_2, rq_0_3, rq_0_4, rq_0_5, rq_0_6, rq_0_7, rq_0_8, rq_8_0, rq_10_0, rq_10_1, rq_10_2, rq_30_0, rq_30_1, rq_30_2, rq_50_0, rq_51_0, rq_51_1, rq_51_2, rq_51_3, rq_51_4, rq_51_5, rq_56_0, rq_56_1, rq_56_2, rq_58_1, rq_58_3, rq_58_4, rq_58_5, rq_58_7, rq_58_8, rq_58_11, rq_58_12, rq_58_13, rq_58_14, rq_58_15, rq_58_25, rq_58_26, rq_58_29, rq_58_30, rq_58_31, rq_3, rq_11, rq_31, rq_law, rv_s, cl_i, cl_r, cl_n, tl_s, tl_n, kont_some, le4_0, le4_1, le4_2, le4_3, le4_4, eq_self, or_true, true_or, and_true, true_and, hX.1, Int32.lt_irrefl, ↓reduceIte]
theorem s19 {a : Nat} (s : Int32) (ha : a < 16) : run 19 [.ref (51 : Nat), .int (nI a), .int s] KF G J (RQ q) = some ((KF, G, J, RQ q), some (.int (bi (¬ G 54 a &&& s = 0)))) := by
  rw [run_19]
  have fa := inb_nI ha (show 16 < 2147483648 by omega)
  have ga := cl_nI (show a < 2147483648 by omega)
  simp only [e19_0, e19_1, e19_4, e19_5, e19_6, e19_7, e19_8, e19_11, e19_12, e19_15, e19_16, kf_0, ik_1, ik_2, ik_3, kf_8, ik_9, kf_10, ik_11, ik_28, ik_29, kf_30, ik_31, ik_48, ik_49, kf_50, kf_51, ik_52, ik_53, ik_54, kf_55, kf_56, ik_57, kf_58, ik_59, ik_60, ik_61, ik_62, ik_63, ik_64, ik_65, ik_66, ik_67, ik_68, ik_69, ik_70, ik_71, ik_72, ik_73, ik_74, rq_0_0, rq_0_1, rq_0_2, rq_0_3, rq_0_4, rq_0_5, rq_0_6, rq_0_7, rq_0_8, rq_8_0, rq_10_0, rq_10_1, rq_10_2, rq_30_0, rq_30_1, rq_30_2, rq_50_0, rq_51_0, rq_51_1, rq_51_2, rq_51_3, rq_51_4, rq_51_5, rq_56_0, rq_56_1, rq_56_2, rq_58_1, rq_58_3, rq_58_4, rq_58_5, rq_58_7, rq_58_8, rq_58_11, rq_58_12, rq_58_13, rq_58_14, rq_58_15, rq_58_25, rq_58_26, rq_58_29, rq_58_30, rq_58_31, rq_3, rq_11, rq_31, rq_law, rv_s, cl_i, cl_r, cl_n, tl_s, tl_n, kont_some, le4_0, le4_1, le4_2, le4_3, le4_4, eq_self, or_true, true_or, and_true, true_and, fa, ga, bi]
  (repeat' split) <;> simp_all
theorem s21 (g : Int32) (hX : HX G n D) : run 21 [.ref (51 : Nat), .int g] KF G J (RQ q) = some ((KF, G, J, RQ q), some (.int (msk (fun j => bt (G 51 7) j && pasB D j && decide (D j 2 = g)) n))) := by
  have key : ev 21 4 [some (.ref (51 : Nat)), some (.int g), some (.int (msk (fun j => bt (G 51 7) j && pasB D j && decide (D j 2 = g)) 0)), some (.int (nI 0))] [] KF G J (RQ q) = ev 21 4 [some (.ref (51 : Nat)), some (.int g), some (.int (msk (fun j => bt (G 51 7) j && pasB D j && decide (D j 2 = g)) n)), some (.int (nI n))] [] KF G J (RQ q) := iter (fun i => ev 21 4 [some (.ref (51 : Nat)), some (.int g), some (.int (msk (fun j => bt (G 51 7) j && pasB D j && decide (D j 2 = g)) i)), some (.int (nI i))] [] KF G J (RQ q)) n (fun i hi => by
    have h16 := hX.2.1
    have f1 := lt_nI hi (show n < 2147483648 by omega)
    have f2 := inb_nI (show i < 16 by omega) (show 16 < 2147483648 by omega)
    have f3 := cl_nI (show i < 2147483648 by omega)
    have f4 := kf_deed (show i < 16 by omega)
    have f5 : i < 32 := by omega
    have f6 : i < 16 := by omega
    have hn := hX.1
    have d0 := hX.2.2 i 0 hi (by omega)
    have d1 := hX.2.2 i 1 hi (by omega)
    have d2 := hX.2.2 i 2 hi (by omega)
    have d3 := hX.2.2 i 3 hi (by omega)
    have d4 := hX.2.2 i 4 hi (by omega)
    have d5 := hX.2.2 i 5 hi (by omega)
    have d6 := hX.2.2 i 6 hi (by omega)
    have d7 := hX.2.2 i 7 hi (by omega)
    have d8 := hX.2.2 i 8 hi (by omega)
    have d9 := hX.2.2 i 9 hi (by omega)
    rw [e21_4]
    simp only [e21_0, e21_1, e21_2, e21_3, e21_5, e21_6, e21_9, e21_12, e21_15, e21_16, e21_19, e21_20, e21_23, e21_26, e21_27, e21_30, e21_33, e21_34, e21_35, e21_38, e21_41, e21_42, e21_45, e21_48, e21_49, e21_50, e21_53, e21_54, e21_57, e21_58, e21_59, e21_62, e21_63, e21_64, e21_67, e21_70, e21_71, kf_0, ik_1, ik_2, ik_3, kf_8, ik_9, kf_10, ik_11, ik_28, ik_29, kf_30, ik_31, ik_48, ik_49, kf_50, kf_51, ik_52, ik_53, ik_54, kf_55, kf_56, ik_57, kf_58, ik_59, ik_60, ik_61, ik_62, ik_63, ik_64, ik_65, ik_66, ik_67, ik_68, ik_69, ik_70, ik_71, ik_72, ik_73, ik_74, rq_0_0, rq_0_1, rq_0_2, rq_0_3, rq_0_4, rq_0_5, rq_0_6, rq_0_7, rq_0_8, rq_8_0, rq_10_0, rq_10_1, rq_10_2, rq_30_0, rq_30_1, rq_30_2, rq_50_0, rq_51_0, rq_51_1, rq_51_2, rq_51_3, rq_51_4, rq_51_5, rq_56_0, rq_56_1, rq_56_2, rq_58_1, rq_58_3, rq_58_4, rq_58_5, rq_58_7, rq_58_8, rq_58_11, rq_58_12, rq_58_13, rq_58_14, rq_58_15, rq_58_25, rq_58_26, rq_58_29, rq_58_30, rq_58_31, rq_3, rq_11, rq_31, rq_law, rv_s, cl_i, cl_r, cl_n, tl_s, tl_n, kont_some, le4_0, le4_1, le4_2, le4_3, le4_4, eq_self, or_true, true_or, and_true, true_and, f1, f2, f3, f4, hn, d0, d1, d2, d3, d4, d5, d6, d7, d8, d9, nI_1, b1_eq, ↓reduceIte, s100, s101 f5, s29, bi_0, msk, pasB, decide_eq_true_eq, Bool.and_eq_true]
    (repeat' split) <;> first | rfl | simp_all)
  rw [run_21]
  simp only [e21_0, e21_1, e21_2, e21_3, e21_5, e21_6, e21_9, e21_12, e21_15, e21_16, e21_19, e21_20, e21_23, e21_26, e21_27, e21_30, e21_33, e21_34, e21_35, e21_38, e21_41, e21_42, e21_45, e21_48, e21_49, e21_50, e21_53, e21_54, e21_57, e21_58, e21_59, e21_62, e21_63, e21_64, e21_67, e21_70, e21_71, kf_0, ik_1, ik_2, ik_3, kf_8, ik_9, kf_10, ik_11, ik_28, ik_29, kf_30, ik_31, ik_48, ik_49, kf_50, kf_51, ik_52, ik_53, ik_54, kf_55, kf_56, ik_57, kf_58, ik_59, ik_60, ik_61, ik_62, ik_63, ik_64, ik_65, ik_66, ik_67, ik_68, ik_69, ik_70, ik_71, ik_72, ik_73, ik_74, rq_0_0, rq_0_1, rq_0_2, rq_0_3, rq_0_4, rq_0_5, rq_0_6, rq_0_7, rq_0_8, rq_8_0, rq_10_0, rq_10_1, rq_10_2, rq_30_0, rq_30_1, rq_30_2, rq_50_0, rq_51_0, rq_51_1, rq_51_2, rq_51_3, rq_51_4, rq_51_5, rq_56_0, rq_56_1, rq_56_2, rq_58_1, rq_58_3, rq_58_4, rq_58_5, rq_58_7, rq_58_8, rq_58_11, rq_58_12, rq_58_13, rq_58_14, rq_58_15, rq_58_25, rq_58_26, rq_58_29, rq_58_30, rq_58_31, rq_3, rq_11, rq_31, rq_law, rv_s, cl_i, cl_r, cl_n, tl_s, tl_n, kont_some, le4_0, le4_1, le4_2, le4_3, le4_4, eq_self, or_true, true_or, and_true, true_and]
  refine key.trans ?_
  rw [e21_4]
  simp only [e21_0, e21_1, e21_2, e21_3, e21_5, e21_6, e21_9, e21_12, e21_15, e21_16, e21_19, e21_20, e21_23, e21_26, e21_27, e21_30, e21_33, e21_34, e21_35, e21_38, e21_41, e21_42, e21_45, e21_48, e21_49, e21_50, e21_53, e21_54, e21_57, e21_58, e21_59, e21_62, e21_63, e21_64, e21_67, e21_70, e21_71, kf_0, ik_1, ik_2, ik_3, kf_8, ik_9, kf_10, ik_11, ik_28, ik_29, kf_30, ik_31, ik_48, ik_49, kf_50, kf_51, ik_52, ik_53, ik_54, kf_55, kf_56, ik_57, kf_58, ik_59, ik_60, ik_61, ik_62, ik_63, ik_64, ik_65, ik_66, ik_67, ik_68, ik_69, ik_70, ik_71, ik_72, ik_73, ik_74, rq_0_0, rq_0_1, rq_0_2, rq_0_3, rq_0_4, rq_0_5, rq_0_6, rq_0_7, rq_0_8, rq_8_0, rq_10_0, rq_10_1, rq_10_2, rq_30_0, rq_30_1, rq_30_2, rq_50_0, rq_51_0, rq_51_1, rq_51_2, rq_51_3, rq_51_4, rq_51_5, rq_56_0, rq_56_1, rq_56_2, rq_58_1, rq_58_3, rq_58_4, rq_58_5, rq_58_7, rq_58_8, rq_58_11, rq_58_12, rq_58_13, rq_58_14, rq_58_15, rq_58_25, rq_58_26, rq_58_29, rq_58_30, rq_58_31, rq_3, rq_11, rq_31, rq_law, rv_s, cl_i, cl_r, cl_n, tl_s, tl_n, kont_some, le4_0, le4_1, le4_2, le4_3, le4_4, eq_self, or_true, true_or, and_true, true_and, hX.1, Int32.lt_irrefl, ↓reduceIte]
theorem s22 (hX : HX G n D) : run 22 [.ref (51 : Nat)] KF G J (RQ q) = some ((KF, G, J, RQ q), some (.int (msk (fun j => bt (G 51 7) j && !pasB D j) n))) := by
  have key : ev 22 4 [some (.ref (51 : Nat)), some (.int (msk (fun j => bt (G 51 7) j && !pasB D j) 0)), some (.int (nI 0))] [] KF G J (RQ q) = ev 22 4 [some (.ref (51 : Nat)), some (.int (msk (fun j => bt (G 51 7) j && !pasB D j) n)), some (.int (nI n))] [] KF G J (RQ q) := iter (fun i => ev 22 4 [some (.ref (51 : Nat)), some (.int (msk (fun j => bt (G 51 7) j && !pasB D j) i)), some (.int (nI i))] [] KF G J (RQ q)) n (fun i hi => by
    have h16 := hX.2.1
    have f1 := lt_nI hi (show n < 2147483648 by omega)
    have f2 := inb_nI (show i < 16 by omega) (show 16 < 2147483648 by omega)
    have f3 := cl_nI (show i < 2147483648 by omega)
    have f4 := kf_deed (show i < 16 by omega)
    have f5 : i < 32 := by omega
    have f6 : i < 16 := by omega
    have hn := hX.1
    have d0 := hX.2.2 i 0 hi (by omega)
    have d1 := hX.2.2 i 1 hi (by omega)
    have d2 := hX.2.2 i 2 hi (by omega)
    have d3 := hX.2.2 i 3 hi (by omega)
    have d4 := hX.2.2 i 4 hi (by omega)
    have d5 := hX.2.2 i 5 hi (by omega)
    have d6 := hX.2.2 i 6 hi (by omega)
    have d7 := hX.2.2 i 7 hi (by omega)
    have d8 := hX.2.2 i 8 hi (by omega)
    have d9 := hX.2.2 i 9 hi (by omega)
    rw [e22_4]
    simp only [e22_0, e22_1, e22_2, e22_3, e22_5, e22_6, e22_9, e22_12, e22_15, e22_16, e22_19, e22_20, e22_23, e22_26, e22_27, e22_30, e22_33, e22_34, e22_35, e22_38, e22_41, e22_42, e22_43, e22_46, e22_47, e22_48, e22_51, e22_54, e22_55, kf_0, ik_1, ik_2, ik_3, kf_8, ik_9, kf_10, ik_11, ik_28, ik_29, kf_30, ik_31, ik_48, ik_49, kf_50, kf_51, ik_52, ik_53, ik_54, kf_55, kf_56, ik_57, kf_58, ik_59, ik_60, ik_61, ik_62, ik_63, ik_64, ik_65, ik_66, ik_67, ik_68, ik_69, ik_70, ik_71, ik_72, ik_73, ik_74, rq_0_0, rq_0_1, rq_0_2, rq_0_3, rq_0_4, rq_0_5, rq_0_6, rq_0_7, rq_0_8, rq_8_0, rq_10_0, rq_10_1, rq_10_2, rq_30_0, rq_30_1, rq_30_2, rq_50_0, rq_51_0, rq_51_1, rq_51_2, rq_51_3, rq_51_4, rq_51_5, rq_56_0, rq_56_1, rq_56_2, rq_58_1, rq_58_3, rq_58_4, rq_58_5, rq_58_7, rq_58_8, rq_58_11, rq_58_12, rq_58_13, rq_58_14, rq_58_15, rq_58_25, rq_58_26, rq_58_29, rq_58_30, rq_58_31, rq_3, rq_11, rq_31, rq_law, rv_s, cl_i, cl_r, cl_n, tl_s, tl_n, kont_some, le4_0, le4_1, le4_2, le4_3, le4_4, eq_self, or_true, true_or, and_true, true_and, f1, f2, f3, f4, hn, d0, d1, d2, d3, d4, d5, d6, d7, d8, d9, nI_1, b1_eq, ↓reduceIte, s100, s101 f5, s29, bi_0, msk, pasB, decide_eq_true_eq, Bool.and_eq_true]
    (repeat' split) <;> first | rfl | simp_all)
  rw [run_22]
  simp only [e22_0, e22_1, e22_2, e22_3, e22_5, e22_6, e22_9, e22_12, e22_15, e22_16, e22_19, e22_20, e22_23, e22_26, e22_27, e22_30, e22_33, e22_34, e22_35, e22_38, e22_41, e22_42, e22_43, e22_46, e22_47, e22_48, e22_51, e22_54, e22_55, kf_0, ik_1, ik_2, ik_3, kf_8, ik_9, kf_10, ik_11, ik_28, ik_29, kf_30, ik_31, ik_48, ik_49, kf_50, kf_51, ik_52, ik_53, ik_54, kf_55, kf_56, ik_57, kf_58, ik_59, ik_60, ik_61, ik_62, ik_63, ik_64, ik_65, ik_66, ik_67, ik_68, ik_69, ik_70, ik_71, ik_72, ik_73, ik_74, rq_0_0, rq_0_1, rq_0_2, rq_0_3, rq_0_4, rq_0_5, rq_0_6, rq_0_7, rq_0_8, rq_8_0, rq_10_0, rq_10_1, rq_10_2, rq_30_0, rq_30_1, rq_30_2, rq_50_0, rq_51_0, rq_51_1, rq_51_2, rq_51_3, rq_51_4, rq_51_5, rq_56_0, rq_56_1, rq_56_2, rq_58_1, rq_58_3, rq_58_4, rq_58_5, rq_58_7, rq_58_8, rq_58_11, rq_58_12, rq_58_13, rq_58_14, rq_58_15, rq_58_25, rq_58_26, rq_58_29, rq_58_30, rq_58_31, rq_3, rq_11, rq_31, rq_law, rv_s, cl_i, cl_r, cl_n, tl_s, tl_n, kont_some, le4_0, le4_1, le4_2, le4_3, le4_4, eq_self, or_true, true_or, and_true, true_and]
  refine key.trans ?_
  rw [e22_4]
  simp only [e22_0, e22_1, e22_2, e22_3, e22_5, e22_6, e22_9, e22_12, e22_15, e22_16, e22_19, e22_20, e22_23, e22_26, e22_27, e22_30, e22_33, e22_34, e22_35, e22_38, e22_41, e22_42, e22_43, e22_46, e22_47, e22_48, e22_51, e22_54, e22_55, kf_0, ik_1, ik_2, ik_3, kf_8, ik_9, kf_10, ik_11, ik_28, ik_29, kf_30, ik_31, ik_48, ik_49, kf_50, kf_51, ik_52, ik_53, ik_54, kf_55, kf_56, ik_57, kf_58, ik_59, ik_60, ik_61, ik_62, ik_63, ik_64, ik_65, ik_66, ik_67, ik_68, ik_69, ik_70, ik_71, ik_72, ik_73, ik_74, rq_0_0, rq_0_1, rq_0_2, rq_0_3, rq_0_4, rq_0_5, rq_0_6, rq_0_7, rq_0_8, rq_8_0, rq_10_0, rq_10_1, rq_10_2, rq_30_0, rq_30_1, rq_30_2, rq_50_0, rq_51_0, rq_51_1, rq_51_2, rq_51_3, rq_51_4, rq_51_5, rq_56_0, rq_56_1, rq_56_2, rq_58_1, rq_58_3, rq_58_4, rq_58_5, rq_58_7, rq_58_8, rq_58_11, rq_58_12, rq_58_13, rq_58_14, rq_58_15, rq_58_25, rq_58_26, rq_58_29, rq_58_30, rq_58_31, rq_3, rq_11, rq_31, rq_law, rv_s, cl_i, cl_r, cl_n, tl_s, tl_n, kont_some, le4_0, le4_1, le4_2, le4_3, le4_4, eq_self, or_true, true_or, and_true, true_and, hX.1, Int32.lt_irrefl, ↓reduceIte]
theorem s23 (s : Int32) (hX : HX G n D) (hq : KF[q]? = some (.inr 3)) : run 23 [.ref (51 : Nat), .int s] KF G J (RQ q) = some ((KF, G, J, RQ q), some (.int (msk (fun j => bt s j && (decide (¬ G q 3 = 0) || decide (D j 0 = 1 ∨ D j 0 = 4 ∨ D j 0 = 3))) n))) := by
  have key : ev 23 4 [some (.ref (51 : Nat)), some (.int s), some (.int (msk (fun j => bt s j && (decide (¬ G q 3 = 0) || decide (D j 0 = 1 ∨ D j 0 = 4 ∨ D j 0 = 3))) 0)), some (.int (nI 0))] [] KF G J (RQ q) = ev 23 4 [some (.ref (51 : Nat)), some (.int s), some (.int (msk (fun j => bt s j && (decide (¬ G q 3 = 0) || decide (D j 0 = 1 ∨ D j 0 = 4 ∨ D j 0 = 3))) n)), some (.int (nI n))] [] KF G J (RQ q) := iter (fun i => ev 23 4 [some (.ref (51 : Nat)), some (.int s), some (.int (msk (fun j => bt s j && (decide (¬ G q 3 = 0) || decide (D j 0 = 1 ∨ D j 0 = 4 ∨ D j 0 = 3))) i)), some (.int (nI i))] [] KF G J (RQ q)) n (fun i hi => by
    have h16 := hX.2.1
    have f1 := lt_nI hi (show n < 2147483648 by omega)
    have f2 := inb_nI (show i < 16 by omega) (show 16 < 2147483648 by omega)
    have f3 := cl_nI (show i < 2147483648 by omega)
    have f4 := kf_deed (show i < 16 by omega)
    have f5 : i < 32 := by omega
    have f6 : i < 16 := by omega
    have hn := hX.1
    have d0 := hX.2.2 i 0 hi (by omega)
    have d1 := hX.2.2 i 1 hi (by omega)
    have d2 := hX.2.2 i 2 hi (by omega)
    have d3 := hX.2.2 i 3 hi (by omega)
    have d4 := hX.2.2 i 4 hi (by omega)
    have d5 := hX.2.2 i 5 hi (by omega)
    have d6 := hX.2.2 i 6 hi (by omega)
    have d7 := hX.2.2 i 7 hi (by omega)
    have d8 := hX.2.2 i 8 hi (by omega)
    have d9 := hX.2.2 i 9 hi (by omega)
    rw [e23_4]
    simp only [e23_0, e23_1, e23_2, e23_3, e23_5, e23_6, e23_9, e23_12, e23_15, e23_16, e23_17, e23_20, e23_23, e23_24, e23_27, e23_30, e23_33, e23_34, e23_37, e23_40, e23_41, e23_42, e23_45, e23_48, e23_49, e23_50, e23_53, e23_54, e23_55, e23_58, e23_61, e23_62, kf_0, ik_1, ik_2, ik_3, kf_8, ik_9, kf_10, ik_11, ik_28, ik_29, kf_30, ik_31, ik_48, ik_49, kf_50, kf_51, ik_52, ik_53, ik_54, kf_55, kf_56, ik_57, kf_58, ik_59, ik_60, ik_61, ik_62, ik_63, ik_64, ik_65, ik_66, ik_67, ik_68, ik_69, ik_70, ik_71, ik_72, ik_73, ik_74, rq_0_0, rq_0_1, rq_0_2, rq_0_3, rq_0_4, rq_0_5, rq_0_6, rq_0_7, rq_0_8, rq_8_0, rq_10_0, rq_10_1, rq_10_2, rq_30_0, rq_30_1, rq_30_2, rq_50_0, rq_51_0, rq_51_1, rq_51_2, rq_51_3, rq_51_4, rq_51_5, rq_56_0, rq_56_1, rq_56_2, rq_58_1, rq_58_3, rq_58_4, rq_58_5, rq_58_7, rq_58_8, rq_58_11, rq_58_12, rq_58_13, rq_58_14, rq_58_15, rq_58_25, rq_58_26, rq_58_29, rq_58_30, rq_58_31, rq_3, rq_11, rq_31, rq_law, rv_s, cl_i, cl_r, cl_n, tl_s, tl_n, kont_some, le4_0, le4_1, le4_2, le4_3, le4_4, eq_self, or_true, true_or, and_true, true_and, f1, f2, f3, f4, hn, d0, d1, d2, d3, d4, d5, d6, d7, d8, d9, nI_1, b1_eq, ↓reduceIte, hq, s100, s101 f5, s30, bi_0, msk, decide_eq_true_eq, Bool.and_eq_true, Bool.or_eq_true]
    (repeat' split) <;> first | rfl | simp_all)
  rw [run_23]
  simp only [e23_0, e23_1, e23_2, e23_3, e23_5, e23_6, e23_9, e23_12, e23_15, e23_16, e23_17, e23_20, e23_23, e23_24, e23_27, e23_30, e23_33, e23_34, e23_37, e23_40, e23_41, e23_42, e23_45, e23_48, e23_49, e23_50, e23_53, e23_54, e23_55, e23_58, e23_61, e23_62, kf_0, ik_1, ik_2, ik_3, kf_8, ik_9, kf_10, ik_11, ik_28, ik_29, kf_30, ik_31, ik_48, ik_49, kf_50, kf_51, ik_52, ik_53, ik_54, kf_55, kf_56, ik_57, kf_58, ik_59, ik_60, ik_61, ik_62, ik_63, ik_64, ik_65, ik_66, ik_67, ik_68, ik_69, ik_70, ik_71, ik_72, ik_73, ik_74, rq_0_0, rq_0_1, rq_0_2, rq_0_3, rq_0_4, rq_0_5, rq_0_6, rq_0_7, rq_0_8, rq_8_0, rq_10_0, rq_10_1, rq_10_2, rq_30_0, rq_30_1, rq_30_2, rq_50_0, rq_51_0, rq_51_1, rq_51_2, rq_51_3, rq_51_4, rq_51_5, rq_56_0, rq_56_1, rq_56_2, rq_58_1, rq_58_3, rq_58_4, rq_58_5, rq_58_7, rq_58_8, rq_58_11, rq_58_12, rq_58_13, rq_58_14, rq_58_15, rq_58_25, rq_58_26, rq_58_29, rq_58_30, rq_58_31, rq_3, rq_11, rq_31, rq_law, rv_s, cl_i, cl_r, cl_n, tl_s, tl_n, kont_some, le4_0, le4_1, le4_2, le4_3, le4_4, eq_self, or_true, true_or, and_true, true_and]
  refine key.trans ?_
  rw [e23_4]
  simp only [e23_0, e23_1, e23_2, e23_3, e23_5, e23_6, e23_9, e23_12, e23_15, e23_16, e23_17, e23_20, e23_23, e23_24, e23_27, e23_30, e23_33, e23_34, e23_37, e23_40, e23_41, e23_42, e23_45, e23_48, e23_49, e23_50, e23_53, e23_54, e23_55, e23_58, e23_61, e23_62, kf_0, ik_1, ik_2, ik_3, kf_8, ik_9, kf_10, ik_11, ik_28, ik_29, kf_30, ik_31, ik_48, ik_49, kf_50, kf_51, ik_52, ik_53, ik_54, kf_55, kf_56, ik_57, kf_58, ik_59, ik_60, ik_61, ik_62, ik_63, ik_64, ik_65, ik_66, ik_67, ik_68, ik_69, ik_70, ik_71, ik_72, ik_73, ik_74, rq_0_0, rq_0_1, rq_0_2, rq_0_3, rq_0_4, rq_0_5, rq_0_6, rq_0_7, rq_0_8, rq_8_0, rq_10_0, rq_10_1, rq_10_2, rq_30_0, rq_30_1, rq_30_2, rq_50_0, rq_51_0, rq_51_1, rq_51_2, rq_51_3, rq_51_4, rq_51_5, rq_56_0, rq_56_1, rq_56_2, rq_58_1, rq_58_3, rq_58_4, rq_58_5, rq_58_7, rq_58_8, rq_58_11, rq_58_12, rq_58_13, rq_58_14, rq_58_15, rq_58_25, rq_58_26, rq_58_29, rq_58_30, rq_58_31, rq_3, rq_11, rq_31, rq_law, rv_s, cl_i, cl_r, cl_n, tl_s, tl_n, kont_some, le4_0, le4_1, le4_2, le4_3, le4_4, eq_self, or_true, true_or, and_true, true_and, hX.1, Int32.lt_irrefl, ↓reduceIte]
theorem s17 {c f : Nat} (hX : HX G n D) (hc : KF[c]? = some (.inr 2)) (hf : G c 1 = nI f) (hf6 : f < 6) : run 17 [.ref (51 : Nat), .ref c] KF G J (RQ q) = some ((KF, G, J, RQ q), some (.int (if G c 4 < G 29 f then 0 else msk (fun j => decide (D j 3 = G 28 f)) n))) := by
  have ff := inb_nI hf6 (show 6 < 2147483648 by omega)
  have fg := cl_nI (show f < 2147483648 by omega)
  have key : ev 17 25 [some (.ref (51 : Nat)), some (.ref c), some (.int (msk (fun j => decide (D j 3 = G 28 f)) 0)), some (.int (nI 0))] [] KF G J (RQ q) = ev 17 25 [some (.ref (51 : Nat)), some (.ref c), some (.int (msk (fun j => decide (D j 3 = G 28 f)) n)), some (.int (nI n))] [] KF G J (RQ q) := iter (fun i => ev 17 25 [some (.ref (51 : Nat)), some (.ref c), some (.int (msk (fun j => decide (D j 3 = G 28 f)) i)), some (.int (nI i))] [] KF G J (RQ q)) n (fun i hi => by
    have h16 := hX.2.1
    have f1 := lt_nI hi (show n < 2147483648 by omega)
    have f2 := inb_nI (show i < 16 by omega) (show 16 < 2147483648 by omega)
    have f3 := cl_nI (show i < 2147483648 by omega)
    have f4 := kf_deed (show i < 16 by omega)
    have f5 : i < 32 := by omega
    have f6 : i < 16 := by omega
    have hn := hX.1
    have d0 := hX.2.2 i 0 hi (by omega)
    have d1 := hX.2.2 i 1 hi (by omega)
    have d2 := hX.2.2 i 2 hi (by omega)
    have d3 := hX.2.2 i 3 hi (by omega)
    have d4 := hX.2.2 i 4 hi (by omega)
    have d5 := hX.2.2 i 5 hi (by omega)
    have d6 := hX.2.2 i 6 hi (by omega)
    have d7 := hX.2.2 i 7 hi (by omega)
    have d8 := hX.2.2 i 8 hi (by omega)
    have d9 := hX.2.2 i 9 hi (by omega)
    rw [e17_25]
    simp only [e17_0, e17_1, e17_4, e17_7, e17_8, e17_11, e17_12, e17_13, e17_16, e17_19, e17_20, e17_21, e17_22, e17_23, e17_24, e17_26, e17_27, e17_30, e17_33, e17_36, e17_37, e17_40, e17_43, e17_44, e17_45, e17_48, e17_49, e17_52, e17_55, e17_56, e17_59, e17_60, e17_63, e17_64, e17_65, e17_68, e17_69, e17_70, e17_73, e17_76, e17_77, kf_0, ik_1, ik_2, ik_3, kf_8, ik_9, kf_10, ik_11, ik_28, ik_29, kf_30, ik_31, ik_48, ik_49, kf_50, kf_51, ik_52, ik_53, ik_54, kf_55, kf_56, ik_57, kf_58, ik_59, ik_60, ik_61, ik_62, ik_63, ik_64, ik_65, ik_66, ik_67, ik_68, ik_69, ik_70, ik_71, ik_72, ik_73, ik_74, rq_0_0, rq_0_1, rq_0_2, rq_0_3, rq_0_4, rq_0_5, rq_0_6, rq_0_7, rq_0_8, rq_8_0, rq_10_0, rq_10_1, rq_10_2, rq_30_0, rq_30_1, rq_30_2, rq_50_0, rq_51_0, rq_51_1, rq_51_2, rq_51_3, rq_51_4, rq_51_5, rq_56_0, rq_56_1, rq_56_2, rq_58_1, rq_58_3, rq_58_4, rq_58_5, rq_58_7, rq_58_8, rq_58_11, rq_58_12, rq_58_13, rq_58_14, rq_58_15, rq_58_25, rq_58_26, rq_58_29, rq_58_30, rq_58_31, rq_3, rq_11, rq_31, rq_law, rv_s, cl_i, cl_r, cl_n, tl_s, tl_n, kont_some, le4_0, le4_1, le4_2, le4_3, le4_4, eq_self, or_true, true_or, and_true, true_and, f1, f2, f3, f4, hn, d0, d1, d2, d3, d4, d5, d6, d7, d8, d9, nI_1, b1_eq, ↓reduceIte, hc, hf, ff, fg, s100, msk, decide_eq_true_eq]
    (repeat' split) <;> first | rfl | simp_all)
  rw [run_17]
  simp only [e17_0, e17_1, e17_4, e17_7, e17_8, e17_11, e17_12, e17_13, e17_16, e17_19, e17_20, e17_21, e17_22, e17_23, e17_24, e17_26, e17_27, e17_30, e17_33, e17_36, e17_37, e17_40, e17_43, e17_44, e17_45, e17_48, e17_49, e17_52, e17_55, e17_56, e17_59, e17_60, e17_63, e17_64, e17_65, e17_68, e17_69, e17_70, e17_73, e17_76, e17_77, kf_0, ik_1, ik_2, ik_3, kf_8, ik_9, kf_10, ik_11, ik_28, ik_29, kf_30, ik_31, ik_48, ik_49, kf_50, kf_51, ik_52, ik_53, ik_54, kf_55, kf_56, ik_57, kf_58, ik_59, ik_60, ik_61, ik_62, ik_63, ik_64, ik_65, ik_66, ik_67, ik_68, ik_69, ik_70, ik_71, ik_72, ik_73, ik_74, rq_0_0, rq_0_1, rq_0_2, rq_0_3, rq_0_4, rq_0_5, rq_0_6, rq_0_7, rq_0_8, rq_8_0, rq_10_0, rq_10_1, rq_10_2, rq_30_0, rq_30_1, rq_30_2, rq_50_0, rq_51_0, rq_51_1, rq_51_2, rq_51_3, rq_51_4, rq_51_5, rq_56_0, rq_56_1, rq_56_2, rq_58_1, rq_58_3, rq_58_4, rq_58_5, rq_58_7, rq_58_8, rq_58_11, rq_58_12, rq_58_13, rq_58_14, rq_58_15, rq_58_25, rq_58_26, rq_58_29, rq_58_30, rq_58_31, rq_3, rq_11, rq_31, rq_law, rv_s, cl_i, cl_r, cl_n, tl_s, tl_n, kont_some, le4_0, le4_1, le4_2, le4_3, le4_4, eq_self, or_true, true_or, and_true, true_and, hc, hf, ff, fg]
  by_cases h : G c 4 < G 29 f
  · simp only [h, ↓reduceIte]
  · simp only [h, ↓reduceIte]
    refine key.trans ?_
    rw [e17_25]
    simp only [e17_0, e17_1, e17_4, e17_7, e17_8, e17_11, e17_12, e17_13, e17_16, e17_19, e17_20, e17_21, e17_22, e17_23, e17_24, e17_26, e17_27, e17_30, e17_33, e17_36, e17_37, e17_40, e17_43, e17_44, e17_45, e17_48, e17_49, e17_52, e17_55, e17_56, e17_59, e17_60, e17_63, e17_64, e17_65, e17_68, e17_69, e17_70, e17_73, e17_76, e17_77, kf_0, ik_1, ik_2, ik_3, kf_8, ik_9, kf_10, ik_11, ik_28, ik_29, kf_30, ik_31, ik_48, ik_49, kf_50, kf_51, ik_52, ik_53, ik_54, kf_55, kf_56, ik_57, kf_58, ik_59, ik_60, ik_61, ik_62, ik_63, ik_64, ik_65, ik_66, ik_67, ik_68, ik_69, ik_70, ik_71, ik_72, ik_73, ik_74, rq_0_0, rq_0_1, rq_0_2, rq_0_3, rq_0_4, rq_0_5, rq_0_6, rq_0_7, rq_0_8, rq_8_0, rq_10_0, rq_10_1, rq_10_2, rq_30_0, rq_30_1, rq_30_2, rq_50_0, rq_51_0, rq_51_1, rq_51_2, rq_51_3, rq_51_4, rq_51_5, rq_56_0, rq_56_1, rq_56_2, rq_58_1, rq_58_3, rq_58_4, rq_58_5, rq_58_7, rq_58_8, rq_58_11, rq_58_12, rq_58_13, rq_58_14, rq_58_15, rq_58_25, rq_58_26, rq_58_29, rq_58_30, rq_58_31, rq_3, rq_11, rq_31, rq_law, rv_s, cl_i, cl_r, cl_n, tl_s, tl_n, kont_some, le4_0, le4_1, le4_2, le4_3, le4_4, eq_self, or_true, true_or, and_true, true_and, hX.1, Int32.lt_irrefl, ↓reduceIte]
end BOOKS
