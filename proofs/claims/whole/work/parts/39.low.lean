/-! some member of a set -/
def t8N (y : Nat) : Nat := cond (Nat.blt 256 y) (Nat.shiftRight y 8) y
def t4N (y : Nat) : Nat := cond (Nat.blt 16 y) (Nat.shiftRight y 4) y
def t2N (y : Nat) : Nat := cond (Nat.blt 4 y) (Nat.shiftRight y 2) y
def u8N (y : Nat) : Nat := cond (Nat.blt 256 y) 9 1
def u4N (y c : Nat) : Nat := cond (Nat.blt 16 y) (Nat.add c 4) c
def u2N (y c : Nat) : Nat := cond (Nat.blt 4 y) (Nat.add c 2) c
def ntzN (y : Nat) : Nat := cond (Nat.beq y 0) 0 (Nat.add (u2N (t4N (t8N y)) (u4N (t8N y) (u8N y))) (Nat.shiftRight (t2N (t4N (t8N y))) 1))
def ntzM (a : Nat) : Nat := ntzN (Nat.land (Nat.xor a 65535) (Nat.sub a 1))
theorem ntz_all : tre (fun a _ => Nat.beq a 0 || (Nat.blt (ntzM a) 16 && Nat.testBit a (ntzM a))) 16 0 0 = true := by decide +kernel
theorem bltF {a b : Nat} (h : ¬ a < b) : Nat.blt a b = false := by
  cases e : Nat.blt a b
  · rfl
  · rw [Nat.blt_eq] at e
    exact absurd e h
section LOW
variable {K : List KD} {G : SG} {J : SJ} {R : SR}
theorem h167a {y : Nat} (hy : y < 65536) : ev 167 34 [some (.int (nI y)), some (.int 1)] [] K G J R = ev 167 49 [some (.int (nI (t8N y))), some (.int (nI (u8N y)))] [] K G J R := by
  have k8 : ((nI y).toUInt32 >>> ((8 : Int32).toUInt32 &&& Int32.toUInt32 31)).toInt32 = nI (y >>> 8) := nI_ushr (k := 8) (by omega) (by omega)
  have c : ((256 : Int32) < nI y) = (256 < y) := propext (nI_ltI (a := 256) (by omega) (by omega))
  simp only [e167_0, e167_1, e167_2, e167_3, e167_4, e167_5, e167_6, e167_7, e167_8, e167_9, e167_12, e167_13, e167_15, e167_16, e167_17, e167_18, e167_19, e167_20, e167_23, e167_26, e167_29, e167_30, e167_32, e167_33, e167_34, e167_35, e167_38, e167_41, e167_44, e167_45, e167_47, e167_48, e167_50, e167_52, e167_55, e167_58, e167_59, e167_60, e167_61, e167_62, e167_63, e167_64, e167_67, e167_70, e167_71, e167_72, e167_73, e167_74, e167_75, e167_76, e167_77, e167_78, e167_79, kf_0, ik_1, ik_2, ik_3, kf_8, ik_9, kf_10, ik_11, ik_28, ik_29, kf_30, ik_31, ik_48, ik_49, kf_50, kf_51, ik_52, ik_53, ik_54, kf_55, kf_56, ik_57, kf_58, ik_59, ik_60, ik_61, ik_62, ik_63, ik_64, ik_65, ik_66, ik_67, ik_68, ik_69, ik_70, ik_71, ik_72, ik_73, ik_74, rq_0_0, rq_0_1, rq_0_2, rq_0_3, rq_0_4, rq_0_5, rq_0_6, rq_0_7, rq_0_8, rq_8_0, rq_10_0, rq_10_1, rq_10_2, rq_30_0, rq_30_1, rq_30_2, rq_50_0, rq_51_0, rq_51_1, rq_51_2, rq_51_3, rq_51_4, rq_51_5, rq_56_0, rq_56_1, rq_56_2, rq_58_1, rq_58_3, rq_58_4, rq_58_5, rq_58_7, rq_58_8, rq_58_11, rq_58_12, rq_58_13, rq_58_14, rq_58_15, rq_58_25, rq_58_26, rq_58_29, rq_58_30, rq_58_31, rq_3, rq_11, rq_31, rq_law, rv_s, cl_i, cl_r, cl_n, tl_s, tl_n, kont_some, le4_0, le4_1, le4_2, le4_3, le4_4, eq_self, or_true, true_or, and_true, true_and, c, k8]
  by_cases h : 256 < y
  · have hb : Nat.blt 256 y = true := by simpa [Nat.blt_eq] using h
    simp only [h, ↓reduceIte, e167_0, e167_1, e167_2, e167_3, e167_4, e167_5, e167_6, e167_7, e167_8, e167_9, e167_12, e167_13, e167_15, e167_16, e167_17, e167_18, e167_19, e167_20, e167_23, e167_26, e167_29, e167_30, e167_32, e167_33, e167_34, e167_35, e167_38, e167_41, e167_44, e167_45, e167_47, e167_48, e167_50, e167_52, e167_55, e167_58, e167_59, e167_60, e167_61, e167_62, e167_63, e167_64, e167_67, e167_70, e167_71, e167_72, e167_73, e167_74, e167_75, e167_76, e167_77, e167_78, e167_79, kf_0, ik_1, ik_2, ik_3, kf_8, ik_9, kf_10, ik_11, ik_28, ik_29, kf_30, ik_31, ik_48, ik_49, kf_50, kf_51, ik_52, ik_53, ik_54, kf_55, kf_56, ik_57, kf_58, ik_59, ik_60, ik_61, ik_62, ik_63, ik_64, ik_65, ik_66, ik_67, ik_68, ik_69, ik_70, ik_71, ik_72, ik_73, ik_74, rq_0_0, rq_0_1, rq_0_2, rq_0_3, rq_0_4, rq_0_5, rq_0_6, rq_0_7, rq_0_8, rq_8_0, rq_10_0, rq_10_1, rq_10_2, rq_30_0, rq_30_1, rq_30_2, rq_50_0, rq_51_0, rq_51_1, rq_51_2, rq_51_3, rq_51_4, rq_51_5, rq_56_0, rq_56_1, rq_56_2, rq_58_1, rq_58_3, rq_58_4, rq_58_5, rq_58_7, rq_58_8, rq_58_11, rq_58_12, rq_58_13, rq_58_14, rq_58_15, rq_58_25, rq_58_26, rq_58_29, rq_58_30, rq_58_31, rq_3, rq_11, rq_31, rq_law, rv_s, cl_i, cl_r, cl_n, tl_s, tl_n, kont_some, le4_0, le4_1, le4_2, le4_3, le4_4, eq_self, or_true, true_or, and_true, true_and, k8, t8N, u8N, hb, cond_true]
    rfl
  · have hb : Nat.blt 256 y = false := bltF h
    simp only [h, ↓reduceIte, t8N, u8N, hb, cond_false]
    rfl
theorem h167b {y c : Nat} (hy : y < 65536) : ev 167 49 [some (.int (nI y)), some (.int (nI c))] [] K G J R = ev 167 62 [some (.int (nI (t4N y))), some (.int (nI (u4N y c)))] [] K G J R := by
  have k8 : ((nI y).toUInt32 >>> ((4 : Int32).toUInt32 &&& Int32.toUInt32 31)).toInt32 = nI (y >>> 4) := nI_ushr (k := 4) (by omega) (by omega)
  have cc : ((16 : Int32) < nI y) = (16 < y) := propext (nI_ltI (a := 16) (by omega) (by omega))
  have e : nI c + 4 = nI (c + 4) := nI_add c 4
  simp only [e167_0, e167_1, e167_2, e167_3, e167_4, e167_5, e167_6, e167_7, e167_8, e167_9, e167_12, e167_13, e167_15, e167_16, e167_17, e167_18, e167_19, e167_20, e167_23, e167_26, e167_29, e167_30, e167_32, e167_33, e167_34, e167_35, e167_38, e167_41, e167_44, e167_45, e167_47, e167_48, e167_49, e167_50, e167_52, e167_55, e167_58, e167_59, e167_60, e167_61, e167_63, e167_64, e167_67, e167_70, e167_71, e167_72, e167_73, e167_74, e167_75, e167_76, e167_77, e167_78, e167_79, kf_0, ik_1, ik_2, ik_3, kf_8, ik_9, kf_10, ik_11, ik_28, ik_29, kf_30, ik_31, ik_48, ik_49, kf_50, kf_51, ik_52, ik_53, ik_54, kf_55, kf_56, ik_57, kf_58, ik_59, ik_60, ik_61, ik_62, ik_63, ik_64, ik_65, ik_66, ik_67, ik_68, ik_69, ik_70, ik_71, ik_72, ik_73, ik_74, rq_0_0, rq_0_1, rq_0_2, rq_0_3, rq_0_4, rq_0_5, rq_0_6, rq_0_7, rq_0_8, rq_8_0, rq_10_0, rq_10_1, rq_10_2, rq_30_0, rq_30_1, rq_30_2, rq_50_0, rq_51_0, rq_51_1, rq_51_2, rq_51_3, rq_51_4, rq_51_5, rq_56_0, rq_56_1, rq_56_2, rq_58_1, rq_58_3, rq_58_4, rq_58_5, rq_58_7, rq_58_8, rq_58_11, rq_58_12, rq_58_13, rq_58_14, rq_58_15, rq_58_25, rq_58_26, rq_58_29, rq_58_30, rq_58_31, rq_3, rq_11, rq_31, rq_law, rv_s, cl_i, cl_r, cl_n, tl_s, tl_n, kont_some, le4_0, le4_1, le4_2, le4_3, le4_4, eq_self, or_true, true_or, and_true, true_and, cc, k8]
  by_cases h : 16 < y
  · have hb : Nat.blt 16 y = true := by simpa [Nat.blt_eq] using h
    simp only [h, ↓reduceIte, e167_0, e167_1, e167_2, e167_3, e167_4, e167_5, e167_6, e167_7, e167_8, e167_9, e167_12, e167_13, e167_15, e167_16, e167_17, e167_18, e167_19, e167_20, e167_23, e167_26, e167_29, e167_30, e167_32, e167_33, e167_34, e167_35, e167_38, e167_41, e167_44, e167_45, e167_47, e167_48, e167_49, e167_50, e167_52, e167_55, e167_58, e167_59, e167_60, e167_61, e167_63, e167_64, e167_67, e167_70, e167_71, e167_72, e167_73, e167_74, e167_75, e167_76, e167_77, e167_78, e167_79, kf_0, ik_1, ik_2, ik_3, kf_8, ik_9, kf_10, ik_11, ik_28, ik_29, kf_30, ik_31, ik_48, ik_49, kf_50, kf_51, ik_52, ik_53, ik_54, kf_55, kf_56, ik_57, kf_58, ik_59, ik_60, ik_61, ik_62, ik_63, ik_64, ik_65, ik_66, ik_67, ik_68, ik_69, ik_70, ik_71, ik_72, ik_73, ik_74, rq_0_0, rq_0_1, rq_0_2, rq_0_3, rq_0_4, rq_0_5, rq_0_6, rq_0_7, rq_0_8, rq_8_0, rq_10_0, rq_10_1, rq_10_2, rq_30_0, rq_30_1, rq_30_2, rq_50_0, rq_51_0, rq_51_1, rq_51_2, rq_51_3, rq_51_4, rq_51_5, rq_56_0, rq_56_1, rq_56_2, rq_58_1, rq_58_3, rq_58_4, rq_58_5, rq_58_7, rq_58_8, rq_58_11, rq_58_12, rq_58_13, rq_58_14, rq_58_15, rq_58_25, rq_58_26, rq_58_29, rq_58_30, rq_58_31, rq_3, rq_11, rq_31, rq_law, rv_s, cl_i, cl_r, cl_n, tl_s, tl_n, kont_some, le4_0, le4_1, le4_2, le4_3, le4_4, eq_self, or_true, true_or, and_true, true_and, k8, t4N, u4N, hb, cond_true, e]
    rfl
  · have hb : Nat.blt 16 y = false := bltF h
    simp only [h, ↓reduceIte, t4N, u4N, hb, cond_false]
theorem h167c {y c : Nat} (hy : y < 65536) : ev 167 62 [some (.int (nI y)), some (.int (nI c))] [] K G J R = ev 167 74 [some (.int (nI (t2N y))), some (.int (nI (u2N y c)))] [] K G J R := by
  have k8 : ((nI y).toUInt32 >>> ((2 : Int32).toUInt32 &&& Int32.toUInt32 31)).toInt32 = nI (y >>> 2) := nI_ushr (k := 2) (by omega) (by omega)
  have cc : ((4 : Int32) < nI y) = (4 < y) := propext (nI_ltI (a := 4) (by omega) (by omega))
  have e : nI c + 2 = nI (c + 2) := nI_add c 2
  simp only [e167_0, e167_1, e167_2, e167_3, e167_4, e167_5, e167_6, e167_7, e167_8, e167_9, e167_12, e167_13, e167_15, e167_16, e167_17, e167_18, e167_19, e167_20, e167_23, e167_26, e167_29, e167_30, e167_32, e167_33, e167_34, e167_35, e167_38, e167_41, e167_44, e167_45, e167_47, e167_48, e167_49, e167_50, e167_52, e167_55, e167_58, e167_59, e167_60, e167_61, e167_62, e167_63, e167_64, e167_67, e167_70, e167_71, e167_72, e167_73, e167_75, e167_76, e167_77, e167_78, e167_79, kf_0, ik_1, ik_2, ik_3, kf_8, ik_9, kf_10, ik_11, ik_28, ik_29, kf_30, ik_31, ik_48, ik_49, kf_50, kf_51, ik_52, ik_53, ik_54, kf_55, kf_56, ik_57, kf_58, ik_59, ik_60, ik_61, ik_62, ik_63, ik_64, ik_65, ik_66, ik_67, ik_68, ik_69, ik_70, ik_71, ik_72, ik_73, ik_74, rq_0_0, rq_0_1, rq_0_2, rq_0_3, rq_0_4, rq_0_5, rq_0_6, rq_0_7, rq_0_8, rq_8_0, rq_10_0, rq_10_1, rq_10_2, rq_30_0, rq_30_1, rq_30_2, rq_50_0, rq_51_0, rq_51_1, rq_51_2, rq_51_3, rq_51_4, rq_51_5, rq_56_0, rq_56_1, rq_56_2, rq_58_1, rq_58_3, rq_58_4, rq_58_5, rq_58_7, rq_58_8, rq_58_11, rq_58_12, rq_58_13, rq_58_14, rq_58_15, rq_58_25, rq_58_26, rq_58_29, rq_58_30, rq_58_31, rq_3, rq_11, rq_31, rq_law, rv_s, cl_i, cl_r, cl_n, tl_s, tl_n, kont_some, le4_0, le4_1, le4_2, le4_3, le4_4, eq_self, or_true, true_or, and_true, true_and, cc, k8]
  by_cases h : 4 < y
  · have hb : Nat.blt 4 y = true := by simpa [Nat.blt_eq] using h
    simp only [h, ↓reduceIte, e167_0, e167_1, e167_2, e167_3, e167_4, e167_5, e167_6, e167_7, e167_8, e167_9, e167_12, e167_13, e167_15, e167_16, e167_17, e167_18, e167_19, e167_20, e167_23, e167_26, e167_29, e167_30, e167_32, e167_33, e167_34, e167_35, e167_38, e167_41, e167_44, e167_45, e167_47, e167_48, e167_49, e167_50, e167_52, e167_55, e167_58, e167_59, e167_60, e167_61, e167_62, e167_63, e167_64, e167_67, e167_70, e167_71, e167_72, e167_73, e167_75, e167_76, e167_77, e167_78, e167_79, kf_0, ik_1, ik_2, ik_3, kf_8, ik_9, kf_10, ik_11, ik_28, ik_29, kf_30, ik_31, ik_48, ik_49, kf_50, kf_51, ik_52, ik_53, ik_54, kf_55, kf_56, ik_57, kf_58, ik_59, ik_60, ik_61, ik_62, ik_63, ik_64, ik_65, ik_66, ik_67, ik_68, ik_69, ik_70, ik_71, ik_72, ik_73, ik_74, rq_0_0, rq_0_1, rq_0_2, rq_0_3, rq_0_4, rq_0_5, rq_0_6, rq_0_7, rq_0_8, rq_8_0, rq_10_0, rq_10_1, rq_10_2, rq_30_0, rq_30_1, rq_30_2, rq_50_0, rq_51_0, rq_51_1, rq_51_2, rq_51_3, rq_51_4, rq_51_5, rq_56_0, rq_56_1, rq_56_2, rq_58_1, rq_58_3, rq_58_4, rq_58_5, rq_58_7, rq_58_8, rq_58_11, rq_58_12, rq_58_13, rq_58_14, rq_58_15, rq_58_25, rq_58_26, rq_58_29, rq_58_30, rq_58_31, rq_3, rq_11, rq_31, rq_law, rv_s, cl_i, cl_r, cl_n, tl_s, tl_n, kont_some, le4_0, le4_1, le4_2, le4_3, le4_4, eq_self, or_true, true_or, and_true, true_and, k8, t2N, u2N, hb, cond_true, e]
    rfl
  · have hb : Nat.blt 4 y = false := bltF h
    simp only [h, ↓reduceIte, t2N, u2N, hb, cond_false]
theorem t8_le (y : Nat) : t8N y ≤ y := by
  unfold t8N
  cases Nat.blt 256 y
  · exact Nat.le_refl _
  · exact Nat.shiftRight_le y 8
theorem t4_le (y : Nat) : t4N y ≤ y := by
  unfold t4N
  cases Nat.blt 16 y
  · exact Nat.le_refl _
  · exact Nat.shiftRight_le y 4
theorem t2_le (y : Nat) : t2N y ≤ y := by
  unfold t2N
  cases Nat.blt 4 y
  · exact Nat.le_refl _
  · exact Nat.shiftRight_le y 2
theorem s167 {m : Nat} (hm : m < 65536) (h0 : 0 < m) : run 167 [.int (nI m)] K G J R = some ((K, G, J, R), some (.int (nI (ntzM m)))) := by
  have ey : (nI m ^^^ -1) &&& (nI m - 1) = nI ((m ^^^ 65535) &&& (m - 1)) := by
    rw [show nI m - 1 = nI (m - 1) from nI_sub (b := 1) (by omega)]
    apply b_ext
    intro i hi
    rw [b_and, bt_not hi, bt_nI hi, bt_nI hi, bt_nI hi, Nat.testBit_and, Nat.testBit_xor]
    by_cases h : i < 16
    · have : Nat.testBit 65535 i = true := by
        have := b_65535 i
        rw [show (65535 : Int32) = nI 65535 by decide, bt_nI hi] at this
        rw [this]
        exact decide_eq_true h
      rw [this]
      simp
    · rw [Nat.testBit_lt_two_pow (x := m - 1) (i := i)]
      · simp
      · exact Nat.lt_of_lt_of_le (show m - 1 < 2 ^ 16 by omega) (Nat.pow_le_pow_right (by omega) (by omega))
  have hy : (m ^^^ 65535) &&& (m - 1) < 65536 := Nat.lt_of_le_of_lt Nat.and_le_right (by omega)
  have en : ntzM m = ntzN ((m ^^^ 65535) &&& (m - 1)) := rfl
  rw [run_167, en]
  simp only [e167_0, e167_1, e167_2, e167_3, e167_4, e167_5, e167_6, e167_7, e167_8, e167_9, e167_12, e167_13, e167_15, e167_16, e167_17, e167_18, e167_19, e167_20, e167_23, e167_26, e167_29, e167_30, e167_32, e167_33, e167_35, e167_38, e167_41, e167_44, e167_45, e167_47, e167_48, e167_49, e167_50, e167_52, e167_55, e167_58, e167_59, e167_60, e167_61, e167_62, e167_63, e167_64, e167_67, e167_70, e167_71, e167_72, e167_73, e167_74, e167_75, e167_76, e167_77, e167_78, e167_79, kf_0, ik_1, ik_2, ik_3, kf_8, ik_9, kf_10, ik_11, ik_28, ik_29, kf_30, ik_31, ik_48, ik_49, kf_50, kf_51, ik_52, ik_53, ik_54, kf_55, kf_56, ik_57, kf_58, ik_59, ik_60, ik_61, ik_62, ik_63, ik_64, ik_65, ik_66, ik_67, ik_68, ik_69, ik_70, ik_71, ik_72, ik_73, ik_74, rq_0_0, rq_0_1, rq_0_2, rq_0_3, rq_0_4, rq_0_5, rq_0_6, rq_0_7, rq_0_8, rq_8_0, rq_10_0, rq_10_1, rq_10_2, rq_30_0, rq_30_1, rq_30_2, rq_50_0, rq_51_0, rq_51_1, rq_51_2, rq_51_3, rq_51_4, rq_51_5, rq_56_0, rq_56_1, rq_56_2, rq_58_1, rq_58_3, rq_58_4, rq_58_5, rq_58_7, rq_58_8, rq_58_11, rq_58_12, rq_58_13, rq_58_14, rq_58_15, rq_58_25, rq_58_26, rq_58_29, rq_58_30, rq_58_31, rq_3, rq_11, rq_31, rq_law, rv_s, cl_i, cl_r, cl_n, tl_s, tl_n, kont_some, le4_0, le4_1, le4_2, le4_3, le4_4, eq_self, or_true, true_or, and_true, true_and, ey]
  generalize (m ^^^ 65535) &&& (m - 1) = y at hy
  have c0 : ((0 : Int32) < nI y) = (0 < y) := propext (nI_ltI (a := 0) (by omega) (by omega))
  have c6 : ((65536 : Int32) < nI y) = (65536 < y) := propext (nI_ltI (a := 65536) (by omega) (by omega))
  simp only [c0, c6, show ¬ 65536 < y by omega, ↓reduceIte]
  by_cases hy0 : 0 < y
  · simp only [hy0, ↓reduceIte]
    have l8 := t8_le y
    have l4 := t4_le (t8N y)
    have l2 := t2_le (t4N (t8N y))
    rw [h167a hy, h167b (by omega), h167c (by omega)]
    have k1 : ((nI (t2N (t4N (t8N y)))).toUInt32 >>> ((1 : Int32).toUInt32 &&& Int32.toUInt32 31)).toInt32 = nI (t2N (t4N (t8N y)) >>> 1) := nI_ushr (k := 1) (by omega) (by omega)
    simp only [e167_0, e167_1, e167_2, e167_3, e167_4, e167_5, e167_6, e167_7, e167_8, e167_9, e167_12, e167_13, e167_15, e167_16, e167_17, e167_18, e167_19, e167_20, e167_23, e167_26, e167_29, e167_30, e167_32, e167_33, e167_34, e167_35, e167_38, e167_41, e167_44, e167_45, e167_47, e167_48, e167_49, e167_50, e167_52, e167_55, e167_58, e167_59, e167_60, e167_61, e167_62, e167_63, e167_64, e167_67, e167_70, e167_71, e167_72, e167_73, e167_74, e167_75, e167_76, e167_77, e167_78, e167_79, kf_0, ik_1, ik_2, ik_3, kf_8, ik_9, kf_10, ik_11, ik_28, ik_29, kf_30, ik_31, ik_48, ik_49, kf_50, kf_51, ik_52, ik_53, ik_54, kf_55, kf_56, ik_57, kf_58, ik_59, ik_60, ik_61, ik_62, ik_63, ik_64, ik_65, ik_66, ik_67, ik_68, ik_69, ik_70, ik_71, ik_72, ik_73, ik_74, rq_0_0, rq_0_1, rq_0_2, rq_0_3, rq_0_4, rq_0_5, rq_0_6, rq_0_7, rq_0_8, rq_8_0, rq_10_0, rq_10_1, rq_10_2, rq_30_0, rq_30_1, rq_30_2, rq_50_0, rq_51_0, rq_51_1, rq_51_2, rq_51_3, rq_51_4, rq_51_5, rq_56_0, rq_56_1, rq_56_2, rq_58_1, rq_58_3, rq_58_4, rq_58_5, rq_58_7, rq_58_8, rq_58_11, rq_58_12, rq_58_13, rq_58_14, rq_58_15, rq_58_25, rq_58_26, rq_58_29, rq_58_30, rq_58_31, rq_3, rq_11, rq_31, rq_law, rv_s, cl_i, cl_r, cl_n, tl_s, tl_n, kont_some, le4_0, le4_1, le4_2, le4_3, le4_4, eq_self, or_true, true_or, and_true, true_and, k1, nI_add]
    have hb : Nat.beq y 0 = false := by
      cases h : Nat.beq y 0
      · rfl
      · have := Nat.eq_of_beq_eq_true h
        omega
    unfold ntzN
    rw [hb]
    rfl
  · obtain rfl : y = 0 := by omega
    simp only [Nat.lt_irrefl, ↓reduceIte, nI_0, e167_0, e167_1, e167_2, e167_3, e167_4, e167_5, e167_6, e167_7, e167_8, e167_9, e167_12, e167_13, e167_15, e167_16, e167_17, e167_18, e167_19, e167_20, e167_23, e167_26, e167_29, e167_30, e167_32, e167_33, e167_34, e167_35, e167_38, e167_41, e167_44, e167_45, e167_47, e167_48, e167_49, e167_50, e167_52, e167_55, e167_58, e167_59, e167_60, e167_61, e167_62, e167_63, e167_64, e167_67, e167_70, e167_71, e167_72, e167_73, e167_74, e167_75, e167_76, e167_77, e167_78, e167_79, kf_0, ik_1, ik_2, ik_3, kf_8, ik_9, kf_10, ik_11, ik_28, ik_29, kf_30, ik_31, ik_48, ik_49, kf_50, kf_51, ik_52, ik_53, ik_54, kf_55, kf_56, ik_57, kf_58, ik_59, ik_60, ik_61, ik_62, ik_63, ik_64, ik_65, ik_66, ik_67, ik_68, ik_69, ik_70, ik_71, ik_72, ik_73, ik_74, rq_0_0, rq_0_1, rq_0_2, rq_0_3, rq_0_4, rq_0_5, rq_0_6, rq_0_7, rq_0_8, rq_8_0, rq_10_0, rq_10_1, rq_10_2, rq_30_0, rq_30_1, rq_30_2, rq_50_0, rq_51_0, rq_51_1, rq_51_2, rq_51_3, rq_51_4, rq_51_5, rq_56_0, rq_56_1, rq_56_2, rq_58_1, rq_58_3, rq_58_4, rq_58_5, rq_58_7, rq_58_8, rq_58_11, rq_58_12, rq_58_13, rq_58_14, rq_58_15, rq_58_25, rq_58_26, rq_58_29, rq_58_30, rq_58_31, rq_3, rq_11, rq_31, rq_law, rv_s, cl_i, cl_r, cl_n, tl_s, tl_n, kont_some, le4_0, le4_1, le4_2, le4_3, le4_4, eq_self, or_true, true_or, and_true, true_and, Int32.zero_and]
    rfl
theorem s102 {p : Nat → Bool} {n : Nat} (hn : n ≤ 16) (h : ¬ msk p n = 0) : ∃ j, j < n ∧ p j = true ∧ run 102 [.int (msk p n)] K G J R = some ((K, G, J, R), some (.int (nI j))) := by
  have hm := num_lt16 (fun i => decide (i < n) && p i)
  have ha := tre_all (p := fun i => decide (i < n) && p i) 16 0 0 ntz_all
  rw [msk_num hn] at h ⊢
  generalize hg : numB (fun i => decide (i < n) && p i) 16 0 = m at hm ha h ⊢
  have h0 : 0 < m := by
    rcases Nat.eq_zero_or_pos m with z | z
    · rw [z] at h
      exact absurd nI_0 h
    · exact z
  simp only [Bool.or_eq_true, Bool.and_eq_true] at ha
  rcases ha with ha | ⟨h1, h2⟩
  · have := Nat.eq_of_beq_eq_true ha
    omega
  · have h1' : ntzM m < 16 := by simpa [Nat.blt_eq] using h1
    have hb : (numB (fun i => decide (i < n) && p i) 16 0).testBit (ntzM m) = true := by rw [hg]; exact h2
    rw [num_bit, if_pos h1'] at hb
    simp only [Bool.and_eq_true, decide_eq_true_eq] at hb
    refine ⟨ntzM m, hb.1, hb.2, ?_⟩
    have c : ((15 : Int32) < nI (ntzM m)) = False := eq_false (fun z => by
      have := (nI_ltI (a := 15) (b := ntzM m) (by omega) (by omega)).mp z
      omega)
    rw [run_102]
    simp only [e102_0, e102_1, e102_4, e102_6, e102_9, kf_0, ik_1, ik_2, ik_3, kf_8, ik_9, kf_10, ik_11, ik_28, ik_29, kf_30, ik_31, ik_48, ik_49, kf_50, kf_51, ik_52, ik_53, ik_54, kf_55, kf_56, ik_57, kf_58, ik_59, ik_60, ik_61, ik_62, ik_63, ik_64, ik_65, ik_66, ik_67, ik_68, ik_69, ik_70, ik_71, ik_72, ik_73, ik_74, rq_0_0, rq_0_1, rq_0_2, rq_0_3, rq_0_4, rq_0_5, rq_0_6, rq_0_7, rq_0_8, rq_8_0, rq_10_0, rq_10_1, rq_10_2, rq_30_0, rq_30_1, rq_30_2, rq_50_0, rq_51_0, rq_51_1, rq_51_2, rq_51_3, rq_51_4, rq_51_5, rq_56_0, rq_56_1, rq_56_2, rq_58_1, rq_58_3, rq_58_4, rq_58_5, rq_58_7, rq_58_8, rq_58_11, rq_58_12, rq_58_13, rq_58_14, rq_58_15, rq_58_25, rq_58_26, rq_58_29, rq_58_30, rq_58_31, rq_3, rq_11, rq_31, rq_law, rv_s, cl_i, cl_r, cl_n, tl_s, tl_n, kont_some, le4_0, le4_1, le4_2, le4_3, le4_4, eq_self, or_true, true_or, and_true, true_and, s167 hm h0, c, ↓reduceIte]
end LOW
