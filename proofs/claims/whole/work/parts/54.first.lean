/-! the first of a set -/
section OPS11
variable {G S : SG} {J : SJ} {q n l : Nat} {D : DT} {w dw sn N : Nat → Int32}
def lowB (set : Int32) (n : Nat) : Prop := ∀ i, n ≤ i → bt set i = false
theorem set_hi {set : Int32} (h : ¬ set < 0 ∧ ¬ 65535 < set) : lowB set 16 := by
  obtain ⟨j, hj, rfl⟩ := nJ_le (n := 65535) (by omega) h
  intro i hi
  rcases Nat.lt_or_ge i 32 with z | z
  · rw [bt_nI z]
    exact Nat.testBit_lt_two_pow (Nat.lt_of_lt_of_le hj (Nat.pow_le_pow_right (n := 2) (by omega) hi))
  · exact b_big z
theorem ush_0 {set : Int32} (h16 : n ≤ 16) : ((set.toUInt32 >>> ((nI n).toUInt32 &&& Int32.toUInt32 31)).toInt32 = 0) ↔ lowB set n := by
  constructor
  · intro z i hi
    rcases Nat.lt_or_ge i 32 with y | y
    · have := b_ushr n (by omega) set (i - n)
      rw [z, b_0, show n + (i - n) = i by omega] at this
      exact this.symm
    · exact b_big y
  · intro z
    apply b_ext
    intro i hi
    rw [b_ushr n (by omega), b_0]
    exact z _ (by omega)
theorem ssh_0 {set : Int32} (h16 : n ≤ 16) (hs : lowB set 16) : (set >>> (nI n &&& 31) = 0) ↔ lowB set n := by
  constructor
  · intro z i hi
    rcases Nat.lt_or_ge i 32 with y | y
    · have := b_sshr n (by omega) set (i := i - n) (by omega)
      rw [z, b_0, show n + (i - n) = i by omega, if_pos y] at this
      exact this.symm
    · exact b_big y
  · intro z
    apply b_ext
    intro i hi
    rw [b_sshr n (by omega) _ hi, b_0]
    split
    · exact z _ (by omega)
    · exact hs _ (by omega)
theorem low_msk {set : Int32} (h16 : n ≤ 16) (h : lowB set n) : set = msk (bt set) n := msk_ext (by omega) (fun i hi => by
  by_cases z : i < n
  · simp [z]
  · rw [h i (by omega)]; simp [z])
def flF (D : DT) (set : Int32) : Nat → Int32
  | 0 => -1
  | i + 1 => if bt set i = true then D i 1 else flF D set i
def alF (D : DT) (set : Int32) : Nat → Bool
  | 0 => true
  | i + 1 => if bt set i = true then alF D set i && (decide (flF D set i = -1) || decide (D i 1 = flF D set i)) else alF D set i
theorem al_all {set : Int32} : ∀ i, (∀ j, j < i → ¬ D j 1 = -1) → alF D set i = true → ∀ j, j < i → bt set j = true → D j 1 = flF D set i := by
  intro i
  induction i with
  | zero => intro _ _ j hj; omega
  | succ i ih =>
    intro hd h j hj hb
    unfold alF at h
    unfold flF
    by_cases z : bt set i = true
    · rw [if_pos z] at h ⊢
      rw [Bool.and_eq_true, Bool.or_eq_true, decide_eq_true_eq, decide_eq_true_eq] at h
      by_cases e : j = i
      · rw [e]
      · have y := ih (fun j hj => hd j (by omega)) h.1 j (by omega) hb
        rcases h.2 with x | x
        · rw [x] at y
          exact absurd y (hd j (by omega))
        · rw [y, x]
    · rw [if_neg z] at h ⊢
      have e : j ≠ i := fun e => z (by rw [← e]; exact hb)
      exact ih (fun j hj => hd j (by omega)) h j (by omega) hb
theorem all_al {set f : Int32} : ∀ i, (∀ j, j < i → bt set j = true → D j 1 = f) → alF D set i = true ∧ (flF D set i = -1 ∨ flF D set i = f) := by
  intro i
  induction i with
  | zero => intro _; exact ⟨rfl, Or.inl rfl⟩
  | succ i ih =>
    intro h
    obtain ⟨y1, y2⟩ := ih (fun j hj => h j (by omega))
    rw [show alF D set (i + 1) = if bt set i = true then alF D set i && (decide (flF D set i = -1) || decide (D i 1 = flF D set i)) else alF D set i from rfl, show flF D set (i + 1) = if bt set i = true then D i 1 else flF D set i from rfl]
    by_cases z : bt set i = true
    · rw [if_pos z, if_pos z, h i (by omega) z, y1]
      refine ⟨?_, Or.inr rfl⟩
      rcases y2 with y2 | y2
      · rw [y2]; rfl
      · rw [y2]; simp
    · rw [if_neg z, if_neg z]
      exact ⟨y1, y2⟩
theorem h145 {set : Int32} (hM : HM G n D) : ev 145 46 [some (.ref (58 : Nat)), some (.int (nI l)), some (.int set), some (.int (-1)), some (.int 1), some (.int 0)] [] KF G J (RQ q) = ev 145 106 [some (.ref (58 : Nat)), some (.int (nI l)), some (.int set), some (.int (flF D set n)), some (.int (bi (alF D set n = true))), some (.int (nI n))] [] KF G J (RQ q) := by
  have key : ev 145 46 [some (.ref (58 : Nat)), some (.int (nI l)), some (.int set), some (.int (flF D set 0)), some (.int (bi (alF D set 0 = true))), some (.int (nI 0))] [] KF G J (RQ q) = ev 145 46 [some (.ref (58 : Nat)), some (.int (nI l)), some (.int set), some (.int (flF D set n)), some (.int (bi (alF D set n = true))), some (.int (nI n))] [] KF G J (RQ q) := iter (fun i => ev 145 46 [some (.ref (58 : Nat)), some (.int (nI l)), some (.int set), some (.int (flF D set i)), some (.int (bi (alF D set i = true))), some (.int (nI i))] [] KF G J (RQ q)) n (fun i hi => by
    have h16 := hM.2.1
    have f1 := lt_nI hi (show n < 2147483648 by omega)
    have f2 := inb_nI (show i < 16 by omega) (show 16 < 2147483648 by omega)
    have f3 := cl_nI (show i < 2147483648 by omega)
    have f5 : i < 32 := by omega
    have f6 : i < 16 := by omega
    have hn := hM.1
    have t0 := fun (J : SJ) (q : Nat) => s113_0 (J := J) (q := q) hM hi
    have t1 := fun (J : SJ) (q : Nat) => s113_1 (J := J) (q := q) hM hi
    have t2 := fun (J : SJ) (q : Nat) => s113_2 (J := J) (q := q) hM hi
    have t3 := fun (J : SJ) (q : Nat) => s113_3 (J := J) (q := q) hM hi
    have t4 := fun (J : SJ) (q : Nat) => s113_4 (J := J) (q := q) hM hi
    have t5 := fun (J : SJ) (q : Nat) => s113_5 (J := J) (q := q) hM hi
    have t6 := fun (J : SJ) (q : Nat) => s113_6 (J := J) (q := q) hM hi
    have t7 := fun (J : SJ) (q : Nat) => s113_7 (J := J) (q := q) hM hi
    have t8 := fun (J : SJ) (q : Nat) => s113_8 (J := J) (q := q) hM hi
    have t9 := fun (J : SJ) (q : Nat) => s113_9 (J := J) (q := q) hM hi
    have hf : flF D set (i + 1) = if bt set i = true then D i 1 else flF D set i := rfl
    have ha : alF D set (i + 1) = if bt set i = true then alF D set i && (decide (flF D set i = -1) || decide (D i 1 = flF D set i)) else alF D set i := rfl
    rw [e145_46, hf, ha]
    simp only [e145_0, e145_1, e145_2, e145_5, e145_8, e145_10, e145_11, e145_12, e145_13, e145_14, e145_17, e145_20, e145_23, e145_25, e145_26, e145_27, e145_28, e145_31, e145_32, e145_35, e145_37, e145_38, e145_39, e145_40, e145_41, e145_43, e145_44, e145_48, e145_49, e145_52, e145_55, e145_56, e145_58, e145_61, e145_64, e145_66, e145_69, e145_70, e145_71, e145_74, e145_75, e145_77, e145_78, e145_81, e145_82, e145_85, e145_86, e145_89, e145_90, e145_92, e145_93, e145_95, e145_96, e145_99, e145_100, e145_103, e145_108, e145_111, e145_113, e145_114, e145_115, e145_116, e145_119, e145_120, e145_121, e145_124, kf_0, ik_1, ik_2, ik_3, kf_8, ik_9, kf_10, ik_11, ik_28, ik_29, kf_30, ik_31, ik_48, ik_49, kf_50, kf_51, ik_52, ik_53, ik_54, kf_55, kf_56, ik_57, kf_58, ik_59, ik_60, ik_61, ik_62, ik_63, ik_64, ik_65, ik_66, ik_67, ik_68, ik_69, ik_70, ik_71, ik_72, ik_73, ik_74, rq_0_0, rq_0_1, rq_0_2, rq_0_3, rq_0_4, rq_0_5, rq_0_6, rq_0_7, rq_0_8, rq_8_0, rq_10_0, rq_10_1, rq_10_2, rq_30_0, rq_30_1, rq_30_2, rq_50_0, rq_51_0, rq_51_1, rq_51_2, rq_51_3, rq_51_4, rq_51_5, rq_56_0, rq_56_1, rq_56_2, rq_58_1, rq_58_3, rq_58_4, rq_58_5, rq_58_7, rq_58_8, rq_58_11, rq_58_12, rq_58_13, rq_58_14, rq_58_15, rq_58_25, rq_58_26, rq_58_29, rq_58_30, rq_58_31, rq_3, rq_11, rq_31, rq_law, rv_s, cl_i, cl_r, cl_n, tl_s, tl_n, kont_some, le4_0, le4_1, le4_2, le4_3, le4_4, eq_self, or_true, true_or, and_true, true_and, f1, f2, f3, hn, t0, t1, t2, t3, t4, t5, t6, t7, t8, t9, nI_1, b1_eq, ↓reduceIte, s105 f5, bi_0]
    by_cases z1 : bt set i = true
    · by_cases z2 : alF D set i = true
      · by_cases z3 : flF D set i = -1
        · simp only [z1, z2, z3, bi, ↓reduceIte, not_true_eq_false, decide_true, Bool.true_and, Bool.true_or, e145_0, e145_1, e145_2, e145_5, e145_8, e145_10, e145_11, e145_12, e145_13, e145_14, e145_17, e145_20, e145_23, e145_25, e145_26, e145_27, e145_28, e145_31, e145_32, e145_35, e145_37, e145_38, e145_39, e145_40, e145_41, e145_43, e145_44, e145_48, e145_49, e145_52, e145_55, e145_56, e145_58, e145_61, e145_64, e145_66, e145_69, e145_70, e145_71, e145_74, e145_75, e145_77, e145_78, e145_81, e145_82, e145_85, e145_86, e145_89, e145_90, e145_92, e145_93, e145_95, e145_96, e145_99, e145_100, e145_103, e145_108, e145_111, e145_113, e145_114, e145_115, e145_116, e145_119, e145_120, e145_121, e145_124, kf_0, ik_1, ik_2, ik_3, kf_8, ik_9, kf_10, ik_11, ik_28, ik_29, kf_30, ik_31, ik_48, ik_49, kf_50, kf_51, ik_52, ik_53, ik_54, kf_55, kf_56, ik_57, kf_58, ik_59, ik_60, ik_61, ik_62, ik_63, ik_64, ik_65, ik_66, ik_67, ik_68, ik_69, ik_70, ik_71, ik_72, ik_73, ik_74, rq_0_0, rq_0_1, rq_0_2, rq_0_3, rq_0_4, rq_0_5, rq_0_6, rq_0_7, rq_0_8, rq_8_0, rq_10_0, rq_10_1, rq_10_2, rq_30_0, rq_30_1, rq_30_2, rq_50_0, rq_51_0, rq_51_1, rq_51_2, rq_51_3, rq_51_4, rq_51_5, rq_56_0, rq_56_1, rq_56_2, rq_58_1, rq_58_3, rq_58_4, rq_58_5, rq_58_7, rq_58_8, rq_58_11, rq_58_12, rq_58_13, rq_58_14, rq_58_15, rq_58_25, rq_58_26, rq_58_29, rq_58_30, rq_58_31, rq_3, rq_11, rq_31, rq_law, rv_s, cl_i, cl_r, cl_n, tl_s, tl_n, kont_some, le4_0, le4_1, le4_2, le4_3, le4_4, eq_self, or_true, true_or, and_true, true_and, nI_1, f1, f2, f3, hn, t0, t1, t2, t3, t4, t5, t6, t7, t8, t9, nI_1, b1_eq, ↓reduceIte]
        · by_cases z4 : D i 1 = flF D set i
          · simp only [z1, z2, z3, z4, bi, ↓reduceIte, not_true_eq_false, decide_true, decide_false, Bool.true_and, Bool.or_true, e145_0, e145_1, e145_2, e145_5, e145_8, e145_10, e145_11, e145_12, e145_13, e145_14, e145_17, e145_20, e145_23, e145_25, e145_26, e145_27, e145_28, e145_31, e145_32, e145_35, e145_37, e145_38, e145_39, e145_40, e145_41, e145_43, e145_44, e145_48, e145_49, e145_52, e145_55, e145_56, e145_58, e145_61, e145_64, e145_66, e145_69, e145_70, e145_71, e145_74, e145_75, e145_77, e145_78, e145_81, e145_82, e145_85, e145_86, e145_89, e145_90, e145_92, e145_93, e145_95, e145_96, e145_99, e145_100, e145_103, e145_108, e145_111, e145_113, e145_114, e145_115, e145_116, e145_119, e145_120, e145_121, e145_124, kf_0, ik_1, ik_2, ik_3, kf_8, ik_9, kf_10, ik_11, ik_28, ik_29, kf_30, ik_31, ik_48, ik_49, kf_50, kf_51, ik_52, ik_53, ik_54, kf_55, kf_56, ik_57, kf_58, ik_59, ik_60, ik_61, ik_62, ik_63, ik_64, ik_65, ik_66, ik_67, ik_68, ik_69, ik_70, ik_71, ik_72, ik_73, ik_74, rq_0_0, rq_0_1, rq_0_2, rq_0_3, rq_0_4, rq_0_5, rq_0_6, rq_0_7, rq_0_8, rq_8_0, rq_10_0, rq_10_1, rq_10_2, rq_30_0, rq_30_1, rq_30_2, rq_50_0, rq_51_0, rq_51_1, rq_51_2, rq_51_3, rq_51_4, rq_51_5, rq_56_0, rq_56_1, rq_56_2, rq_58_1, rq_58_3, rq_58_4, rq_58_5, rq_58_7, rq_58_8, rq_58_11, rq_58_12, rq_58_13, rq_58_14, rq_58_15, rq_58_25, rq_58_26, rq_58_29, rq_58_30, rq_58_31, rq_3, rq_11, rq_31, rq_law, rv_s, cl_i, cl_r, cl_n, tl_s, tl_n, kont_some, le4_0, le4_1, le4_2, le4_3, le4_4, eq_self, or_true, true_or, and_true, true_and, nI_1, f1, f2, f3, hn, t0, t1, t2, t3, t4, t5, t6, t7, t8, t9, nI_1, b1_eq, ↓reduceIte]
          · simp only [z1, z2, z3, z4, bi, ↓reduceIte, not_true_eq_false, decide_true, decide_false, Bool.true_and, Bool.or_self, Bool.false_eq_true, e145_0, e145_1, e145_2, e145_5, e145_8, e145_10, e145_11, e145_12, e145_13, e145_14, e145_17, e145_20, e145_23, e145_25, e145_26, e145_27, e145_28, e145_31, e145_32, e145_35, e145_37, e145_38, e145_39, e145_40, e145_41, e145_43, e145_44, e145_48, e145_49, e145_52, e145_55, e145_56, e145_58, e145_61, e145_64, e145_66, e145_69, e145_70, e145_71, e145_74, e145_75, e145_77, e145_78, e145_81, e145_82, e145_85, e145_86, e145_89, e145_90, e145_92, e145_93, e145_95, e145_96, e145_99, e145_100, e145_103, e145_108, e145_111, e145_113, e145_114, e145_115, e145_116, e145_119, e145_120, e145_121, e145_124, kf_0, ik_1, ik_2, ik_3, kf_8, ik_9, kf_10, ik_11, ik_28, ik_29, kf_30, ik_31, ik_48, ik_49, kf_50, kf_51, ik_52, ik_53, ik_54, kf_55, kf_56, ik_57, kf_58, ik_59, ik_60, ik_61, ik_62, ik_63, ik_64, ik_65, ik_66, ik_67, ik_68, ik_69, ik_70, ik_71, ik_72, ik_73, ik_74, rq_0_0, rq_0_1, rq_0_2, rq_0_3, rq_0_4, rq_0_5, rq_0_6, rq_0_7, rq_0_8, rq_8_0, rq_10_0, rq_10_1, rq_10_2, rq_30_0, rq_30_1, rq_30_2, rq_50_0, rq_51_0, rq_51_1, rq_51_2, rq_51_3, rq_51_4, rq_51_5, rq_56_0, rq_56_1, rq_56_2, rq_58_1, rq_58_3, rq_58_4, rq_58_5, rq_58_7, rq_58_8, rq_58_11, rq_58_12, rq_58_13, rq_58_14, rq_58_15, rq_58_25, rq_58_26, rq_58_29, rq_58_30, rq_58_31, rq_3, rq_11, rq_31, rq_law, rv_s, cl_i, cl_r, cl_n, tl_s, tl_n, kont_some, le4_0, le4_1, le4_2, le4_3, le4_4, eq_self, or_true, true_or, and_true, true_and, nI_1, f1, f2, f3, hn, t0, t1, t2, t3, t4, t5, t6, t7, t8, t9, nI_1, b1_eq, ↓reduceIte]
      · have z2' : alF D set i = false := by simpa using z2
        simp only [z1, z2', bi, ↓reduceIte, not_true_eq_false, not_false_eq_true, Bool.false_and, Bool.false_eq_true, e145_0, e145_1, e145_2, e145_5, e145_8, e145_10, e145_11, e145_12, e145_13, e145_14, e145_17, e145_20, e145_23, e145_25, e145_26, e145_27, e145_28, e145_31, e145_32, e145_35, e145_37, e145_38, e145_39, e145_40, e145_41, e145_43, e145_44, e145_48, e145_49, e145_52, e145_55, e145_56, e145_58, e145_61, e145_64, e145_66, e145_69, e145_70, e145_71, e145_74, e145_75, e145_77, e145_78, e145_81, e145_82, e145_85, e145_86, e145_89, e145_90, e145_92, e145_93, e145_95, e145_96, e145_99, e145_100, e145_103, e145_108, e145_111, e145_113, e145_114, e145_115, e145_116, e145_119, e145_120, e145_121, e145_124, kf_0, ik_1, ik_2, ik_3, kf_8, ik_9, kf_10, ik_11, ik_28, ik_29, kf_30, ik_31, ik_48, ik_49, kf_50, kf_51, ik_52, ik_53, ik_54, kf_55, kf_56, ik_57, kf_58, ik_59, ik_60, ik_61, ik_62, ik_63, ik_64, ik_65, ik_66, ik_67, ik_68, ik_69, ik_70, ik_71, ik_72, ik_73, ik_74, rq_0_0, rq_0_1, rq_0_2, rq_0_3, rq_0_4, rq_0_5, rq_0_6, rq_0_7, rq_0_8, rq_8_0, rq_10_0, rq_10_1, rq_10_2, rq_30_0, rq_30_1, rq_30_2, rq_50_0, rq_51_0, rq_51_1, rq_51_2, rq_51_3, rq_51_4, rq_51_5, rq_56_0, rq_56_1, rq_56_2, rq_58_1, rq_58_3, rq_58_4, rq_58_5, rq_58_7, rq_58_8, rq_58_11, rq_58_12, rq_58_13, rq_58_14, rq_58_15, rq_58_25, rq_58_26, rq_58_29, rq_58_30, rq_58_31, rq_3, rq_11, rq_31, rq_law, rv_s, cl_i, cl_r, cl_n, tl_s, tl_n, kont_some, le4_0, le4_1, le4_2, le4_3, le4_4, eq_self, or_true, true_or, and_true, true_and, nI_1, f1, f2, f3, hn, t0, t1, t2, t3, t4, t5, t6, t7, t8, t9, nI_1, b1_eq, ↓reduceIte]
    · simp only [z1, bi, ↓reduceIte, not_true_eq_false, not_false_eq_true, Bool.false_eq_true, e145_0, e145_1, e145_2, e145_5, e145_8, e145_10, e145_11, e145_12, e145_13, e145_14, e145_17, e145_20, e145_23, e145_25, e145_26, e145_27, e145_28, e145_31, e145_32, e145_35, e145_37, e145_38, e145_39, e145_40, e145_41, e145_43, e145_44, e145_48, e145_49, e145_52, e145_55, e145_56, e145_58, e145_61, e145_64, e145_66, e145_69, e145_70, e145_71, e145_74, e145_75, e145_77, e145_78, e145_81, e145_82, e145_85, e145_86, e145_89, e145_90, e145_92, e145_93, e145_95, e145_96, e145_99, e145_100, e145_103, e145_108, e145_111, e145_113, e145_114, e145_115, e145_116, e145_119, e145_120, e145_121, e145_124, kf_0, ik_1, ik_2, ik_3, kf_8, ik_9, kf_10, ik_11, ik_28, ik_29, kf_30, ik_31, ik_48, ik_49, kf_50, kf_51, ik_52, ik_53, ik_54, kf_55, kf_56, ik_57, kf_58, ik_59, ik_60, ik_61, ik_62, ik_63, ik_64, ik_65, ik_66, ik_67, ik_68, ik_69, ik_70, ik_71, ik_72, ik_73, ik_74, rq_0_0, rq_0_1, rq_0_2, rq_0_3, rq_0_4, rq_0_5, rq_0_6, rq_0_7, rq_0_8, rq_8_0, rq_10_0, rq_10_1, rq_10_2, rq_30_0, rq_30_1, rq_30_2, rq_50_0, rq_51_0, rq_51_1, rq_51_2, rq_51_3, rq_51_4, rq_51_5, rq_56_0, rq_56_1, rq_56_2, rq_58_1, rq_58_3, rq_58_4, rq_58_5, rq_58_7, rq_58_8, rq_58_11, rq_58_12, rq_58_13, rq_58_14, rq_58_15, rq_58_25, rq_58_26, rq_58_29, rq_58_30, rq_58_31, rq_3, rq_11, rq_31, rq_law, rv_s, cl_i, cl_r, cl_n, tl_s, tl_n, kont_some, le4_0, le4_1, le4_2, le4_3, le4_4, eq_self, or_true, true_or, and_true, true_and, nI_1])
  have e1 : bi (alF D set 0 = true) = 1 := rfl
  have e2 : flF D set 0 = -1 := rfl
  rw [e1, e2, nI_0] at key
  refine key.trans ?_
  rw [e145_46]
  simp only [e145_0, e145_1, e145_2, e145_5, e145_8, e145_10, e145_11, e145_12, e145_13, e145_14, e145_17, e145_20, e145_23, e145_25, e145_26, e145_27, e145_28, e145_31, e145_32, e145_35, e145_37, e145_38, e145_39, e145_40, e145_41, e145_43, e145_44, e145_48, e145_49, e145_52, e145_55, e145_56, e145_58, e145_61, e145_64, e145_66, e145_69, e145_70, e145_71, e145_74, e145_75, e145_77, e145_78, e145_81, e145_82, e145_85, e145_86, e145_89, e145_90, e145_92, e145_93, e145_95, e145_96, e145_99, e145_100, e145_103, e145_108, e145_111, e145_113, e145_114, e145_115, e145_116, e145_119, e145_120, e145_121, e145_124, kf_0, ik_1, ik_2, ik_3, kf_8, ik_9, kf_10, ik_11, ik_28, ik_29, kf_30, ik_31, ik_48, ik_49, kf_50, kf_51, ik_52, ik_53, ik_54, kf_55, kf_56, ik_57, kf_58, ik_59, ik_60, ik_61, ik_62, ik_63, ik_64, ik_65, ik_66, ik_67, ik_68, ik_69, ik_70, ik_71, ik_72, ik_73, ik_74, rq_0_0, rq_0_1, rq_0_2, rq_0_3, rq_0_4, rq_0_5, rq_0_6, rq_0_7, rq_0_8, rq_8_0, rq_10_0, rq_10_1, rq_10_2, rq_30_0, rq_30_1, rq_30_2, rq_50_0, rq_51_0, rq_51_1, rq_51_2, rq_51_3, rq_51_4, rq_51_5, rq_56_0, rq_56_1, rq_56_2, rq_58_1, rq_58_3, rq_58_4, rq_58_5, rq_58_7, rq_58_8, rq_58_11, rq_58_12, rq_58_13, rq_58_14, rq_58_15, rq_58_25, rq_58_26, rq_58_29, rq_58_30, rq_58_31, rq_3, rq_11, rq_31, rq_law, rv_s, cl_i, cl_r, cl_n, tl_s, tl_n, kont_some, le4_0, le4_1, le4_2, le4_3, le4_4, eq_self, or_true, true_or, and_true, true_and, hM.1, Int32.lt_irrefl, ↓reduceIte]
theorem same_first (l set : Int32) : SAME 75 145 [.int l, .int set] := same_of (fun G J q np nf nl pg n D hq hR => by
  have hR' := hR
  obtain ⟨a1, a2, a3, a4, a5, a6, a7, ⟨hX, hM, hN⟩, a9⟩ := hR
  have h16 := hX.2.1
  have hnl : nl < 2147483648 := by have := a5.2.2.1; omega
  have hW := hN.wd a1.2.2 a3.2.2
  have e65 : (65535 : Int64) = (65535 : Int32).toInt64 := by decide
  by_cases h1 : ¬ l < 0 ∧ l < nI nl
  case neg =>
    refine ⟨G, G, J, J, q, q, .int (-101), hq, ⟨np, nf, nl, pg, n, D, hR'⟩, ?_, ?_⟩
    · rw [run_75]
      simp only [e75_0, e75_1, e75_2, e75_5, e75_8, e75_10, e75_11, e75_12, e75_14, e75_17, e75_20, e75_22, e75_23, e75_24, e75_25, e75_28, e75_31, e75_32, e75_35, e75_37, e75_38, e75_39, e75_42, e75_43, e75_44, e75_45, e75_48, e75_51, e75_52, e75_55, e75_56, e75_59, e75_60, e75_61, e75_62, e75_65, e75_66, e75_69, e75_70, e75_71, e75_72, e75_75, e75_77, e75_78, e75_79, e75_82, e75_83, e75_86, e75_87, e75_88, e75_89, e75_92, e75_93, e75_96, e75_97, e75_100, kf_0, ik_1, ik_2, ik_3, kf_8, ik_9, kf_10, ik_11, ik_28, ik_29, kf_30, ik_31, ik_48, ik_49, kf_50, kf_51, ik_52, ik_53, ik_54, kf_55, kf_56, ik_57, kf_58, ik_59, ik_60, ik_61, ik_62, ik_63, ik_64, ik_65, ik_66, ik_67, ik_68, ik_69, ik_70, ik_71, ik_72, ik_73, ik_74, rq_0_0, rq_0_1, rq_0_2, rq_0_3, rq_0_4, rq_0_5, rq_0_6, rq_0_7, rq_0_8, rq_8_0, rq_10_0, rq_10_1, rq_10_2, rq_30_0, rq_30_1, rq_30_2, rq_50_0, rq_51_0, rq_51_1, rq_51_2, rq_51_3, rq_51_4, rq_51_5, rq_56_0, rq_56_1, rq_56_2, rq_58_1, rq_58_3, rq_58_4, rq_58_5, rq_58_7, rq_58_8, rq_58_11, rq_58_12, rq_58_13, rq_58_14, rq_58_15, rq_58_25, rq_58_26, rq_58_29, rq_58_30, rq_58_31, rq_3, rq_11, rq_31, rq_law, rv_s, cl_i, cl_r, cl_n, tl_s, tl_n, kont_some, le4_0, le4_1, le4_2, le4_3, le4_4, eq_self, or_true, true_or, and_true, true_and, s95, a5.1, bi_0, h1, not_true_eq_false, not_false_eq_true, ↓reduceIte]
    · rw [run_145]
      simp only [e145_0, e145_1, e145_2, e145_5, e145_8, e145_10, e145_11, e145_12, e145_13, e145_14, e145_17, e145_20, e145_23, e145_25, e145_26, e145_27, e145_28, e145_31, e145_32, e145_35, e145_37, e145_38, e145_39, e145_40, e145_41, e145_43, e145_44, e145_48, e145_49, e145_52, e145_55, e145_56, e145_58, e145_61, e145_64, e145_66, e145_69, e145_70, e145_71, e145_74, e145_75, e145_77, e145_78, e145_81, e145_82, e145_85, e145_86, e145_89, e145_90, e145_92, e145_93, e145_95, e145_96, e145_99, e145_100, e145_103, e145_106, e145_108, e145_111, e145_113, e145_114, e145_115, e145_116, e145_119, e145_120, e145_121, e145_124, kf_0, ik_1, ik_2, ik_3, kf_8, ik_9, kf_10, ik_11, ik_28, ik_29, kf_30, ik_31, ik_48, ik_49, kf_50, kf_51, ik_52, ik_53, ik_54, kf_55, kf_56, ik_57, kf_58, ik_59, ik_60, ik_61, ik_62, ik_63, ik_64, ik_65, ik_66, ik_67, ik_68, ik_69, ik_70, ik_71, ik_72, ik_73, ik_74, rq_0_0, rq_0_1, rq_0_2, rq_0_3, rq_0_4, rq_0_5, rq_0_6, rq_0_7, rq_0_8, rq_8_0, rq_10_0, rq_10_1, rq_10_2, rq_30_0, rq_30_1, rq_30_2, rq_50_0, rq_51_0, rq_51_1, rq_51_2, rq_51_3, rq_51_4, rq_51_5, rq_56_0, rq_56_1, rq_56_2, rq_58_1, rq_58_3, rq_58_4, rq_58_5, rq_58_7, rq_58_8, rq_58_11, rq_58_12, rq_58_13, rq_58_14, rq_58_15, rq_58_25, rq_58_26, rq_58_29, rq_58_30, rq_58_31, rq_3, rq_11, rq_31, rq_law, rv_s, cl_i, cl_r, cl_n, tl_s, tl_n, kont_some, le4_0, le4_1, le4_2, le4_3, le4_4, eq_self, or_true, true_or, and_true, true_and, s128 a5.2.1 hnl, bi_0, h1, not_true_eq_false, not_false_eq_true, ↓reduceIte]
  by_cases h2 : ¬ set < 0 ∧ ¬ 65535 < set
  case neg =>
    refine ⟨G, G, J, J, q, q, .int (-102), hq, ⟨np, nf, nl, pg, n, D, hR'⟩, ?_, ?_⟩
    · rw [run_75]
      simp only [e75_0, e75_1, e75_2, e75_5, e75_8, e75_10, e75_11, e75_12, e75_14, e75_17, e75_20, e75_22, e75_23, e75_24, e75_25, e75_28, e75_31, e75_32, e75_35, e75_37, e75_38, e75_39, e75_42, e75_43, e75_44, e75_45, e75_48, e75_51, e75_52, e75_55, e75_56, e75_59, e75_60, e75_61, e75_62, e75_65, e75_66, e75_69, e75_70, e75_71, e75_72, e75_75, e75_77, e75_78, e75_79, e75_82, e75_83, e75_86, e75_87, e75_88, e75_89, e75_92, e75_93, e75_96, e75_97, e75_100, kf_0, ik_1, ik_2, ik_3, kf_8, ik_9, kf_10, ik_11, ik_28, ik_29, kf_30, ik_31, ik_48, ik_49, kf_50, kf_51, ik_52, ik_53, ik_54, kf_55, kf_56, ik_57, kf_58, ik_59, ik_60, ik_61, ik_62, ik_63, ik_64, ik_65, ik_66, ik_67, ik_68, ik_69, ik_70, ik_71, ik_72, ik_73, ik_74, rq_0_0, rq_0_1, rq_0_2, rq_0_3, rq_0_4, rq_0_5, rq_0_6, rq_0_7, rq_0_8, rq_8_0, rq_10_0, rq_10_1, rq_10_2, rq_30_0, rq_30_1, rq_30_2, rq_50_0, rq_51_0, rq_51_1, rq_51_2, rq_51_3, rq_51_4, rq_51_5, rq_56_0, rq_56_1, rq_56_2, rq_58_1, rq_58_3, rq_58_4, rq_58_5, rq_58_7, rq_58_8, rq_58_11, rq_58_12, rq_58_13, rq_58_14, rq_58_15, rq_58_25, rq_58_26, rq_58_29, rq_58_30, rq_58_31, rq_3, rq_11, rq_31, rq_law, rv_s, cl_i, cl_r, cl_n, tl_s, tl_n, kont_some, le4_0, le4_1, le4_2, le4_3, le4_4, eq_self, or_true, true_or, and_true, true_and, s95, s98, a5.1, bi_0, h1, h2, not_true_eq_false, not_false_eq_true, ↓reduceIte, and_self]
    · rw [run_145]
      simp only [e145_0, e145_1, e145_2, e145_5, e145_8, e145_10, e145_11, e145_12, e145_13, e145_14, e145_17, e145_20, e145_23, e145_25, e145_26, e145_27, e145_28, e145_31, e145_32, e145_35, e145_37, e145_38, e145_39, e145_40, e145_41, e145_43, e145_44, e145_48, e145_49, e145_52, e145_55, e145_56, e145_58, e145_61, e145_64, e145_66, e145_69, e145_70, e145_71, e145_74, e145_75, e145_77, e145_78, e145_81, e145_82, e145_85, e145_86, e145_89, e145_90, e145_92, e145_93, e145_95, e145_96, e145_99, e145_100, e145_103, e145_106, e145_108, e145_111, e145_113, e145_114, e145_115, e145_116, e145_119, e145_120, e145_121, e145_124, kf_0, ik_1, ik_2, ik_3, kf_8, ik_9, kf_10, ik_11, ik_28, ik_29, kf_30, ik_31, ik_48, ik_49, kf_50, kf_51, ik_52, ik_53, ik_54, kf_55, kf_56, ik_57, kf_58, ik_59, ik_60, ik_61, ik_62, ik_63, ik_64, ik_65, ik_66, ik_67, ik_68, ik_69, ik_70, ik_71, ik_72, ik_73, ik_74, rq_0_0, rq_0_1, rq_0_2, rq_0_3, rq_0_4, rq_0_5, rq_0_6, rq_0_7, rq_0_8, rq_8_0, rq_10_0, rq_10_1, rq_10_2, rq_30_0, rq_30_1, rq_30_2, rq_50_0, rq_51_0, rq_51_1, rq_51_2, rq_51_3, rq_51_4, rq_51_5, rq_56_0, rq_56_1, rq_56_2, rq_58_1, rq_58_3, rq_58_4, rq_58_5, rq_58_7, rq_58_8, rq_58_11, rq_58_12, rq_58_13, rq_58_14, rq_58_15, rq_58_25, rq_58_26, rq_58_29, rq_58_30, rq_58_31, rq_3, rq_11, rq_31, rq_law, rv_s, cl_i, cl_r, cl_n, tl_s, tl_n, kont_some, le4_0, le4_1, le4_2, le4_3, le4_4, eq_self, or_true, true_or, and_true, true_and, s128 a5.2.1 hnl, s104, z64, e65, wd_lt, bi_0, h1, h2, not_true_eq_false, not_false_eq_true, ↓reduceIte, and_self]
  by_cases h3 : lowB set n
  case neg =>
    have u1 : ((set.toUInt32 >>> ((nI n).toUInt32 &&& Int32.toUInt32 31)).toInt32 = 0) = False := eq_false (fun z => h3 ((ush_0 h16).mp z))
    have u2 : (set >>> (nI n &&& 31) = 0) = False := eq_false (fun z => h3 ((ssh_0 h16 (set_hi h2)).mp z))
    refine ⟨G, G, J, J, q, q, .int (-101), hq, ⟨np, nf, nl, pg, n, D, hR'⟩, ?_, ?_⟩
    · rw [run_75]
      simp only [e75_0, e75_1, e75_2, e75_5, e75_8, e75_10, e75_11, e75_12, e75_14, e75_17, e75_20, e75_22, e75_23, e75_24, e75_25, e75_28, e75_31, e75_32, e75_35, e75_37, e75_38, e75_39, e75_42, e75_43, e75_44, e75_45, e75_48, e75_51, e75_52, e75_55, e75_56, e75_59, e75_60, e75_61, e75_62, e75_65, e75_66, e75_69, e75_70, e75_71, e75_72, e75_75, e75_77, e75_78, e75_79, e75_82, e75_83, e75_86, e75_87, e75_88, e75_89, e75_92, e75_93, e75_96, e75_97, e75_100, kf_0, ik_1, ik_2, ik_3, kf_8, ik_9, kf_10, ik_11, ik_28, ik_29, kf_30, ik_31, ik_48, ik_49, kf_50, kf_51, ik_52, ik_53, ik_54, kf_55, kf_56, ik_57, kf_58, ik_59, ik_60, ik_61, ik_62, ik_63, ik_64, ik_65, ik_66, ik_67, ik_68, ik_69, ik_70, ik_71, ik_72, ik_73, ik_74, rq_0_0, rq_0_1, rq_0_2, rq_0_3, rq_0_4, rq_0_5, rq_0_6, rq_0_7, rq_0_8, rq_8_0, rq_10_0, rq_10_1, rq_10_2, rq_30_0, rq_30_1, rq_30_2, rq_50_0, rq_51_0, rq_51_1, rq_51_2, rq_51_3, rq_51_4, rq_51_5, rq_56_0, rq_56_1, rq_56_2, rq_58_1, rq_58_3, rq_58_4, rq_58_5, rq_58_7, rq_58_8, rq_58_11, rq_58_12, rq_58_13, rq_58_14, rq_58_15, rq_58_25, rq_58_26, rq_58_29, rq_58_30, rq_58_31, rq_3, rq_11, rq_31, rq_law, rv_s, cl_i, cl_r, cl_n, tl_s, tl_n, kont_some, le4_0, le4_1, le4_2, le4_3, le4_4, eq_self, or_true, true_or, and_true, true_and, s95, s98, a5.1, hX.1, bi_0, h1, h2, u1, not_true_eq_false, not_false_eq_true, ↓reduceIte, and_self]
    · rw [run_145]
      simp only [e145_0, e145_1, e145_2, e145_5, e145_8, e145_10, e145_11, e145_12, e145_13, e145_14, e145_17, e145_20, e145_23, e145_25, e145_26, e145_27, e145_28, e145_31, e145_32, e145_35, e145_37, e145_38, e145_39, e145_40, e145_41, e145_43, e145_44, e145_48, e145_49, e145_52, e145_55, e145_56, e145_58, e145_61, e145_64, e145_66, e145_69, e145_70, e145_71, e145_74, e145_75, e145_77, e145_78, e145_81, e145_82, e145_85, e145_86, e145_89, e145_90, e145_92, e145_93, e145_95, e145_96, e145_99, e145_100, e145_103, e145_106, e145_108, e145_111, e145_113, e145_114, e145_115, e145_116, e145_119, e145_120, e145_121, e145_124, kf_0, ik_1, ik_2, ik_3, kf_8, ik_9, kf_10, ik_11, ik_28, ik_29, kf_30, ik_31, ik_48, ik_49, kf_50, kf_51, ik_52, ik_53, ik_54, kf_55, kf_56, ik_57, kf_58, ik_59, ik_60, ik_61, ik_62, ik_63, ik_64, ik_65, ik_66, ik_67, ik_68, ik_69, ik_70, ik_71, ik_72, ik_73, ik_74, rq_0_0, rq_0_1, rq_0_2, rq_0_3, rq_0_4, rq_0_5, rq_0_6, rq_0_7, rq_0_8, rq_8_0, rq_10_0, rq_10_1, rq_10_2, rq_30_0, rq_30_1, rq_30_2, rq_50_0, rq_51_0, rq_51_1, rq_51_2, rq_51_3, rq_51_4, rq_51_5, rq_56_0, rq_56_1, rq_56_2, rq_58_1, rq_58_3, rq_58_4, rq_58_5, rq_58_7, rq_58_8, rq_58_11, rq_58_12, rq_58_13, rq_58_14, rq_58_15, rq_58_25, rq_58_26, rq_58_29, rq_58_30, rq_58_31, rq_3, rq_11, rq_31, rq_law, rv_s, cl_i, cl_r, cl_n, tl_s, tl_n, kont_some, le4_0, le4_1, le4_2, le4_3, le4_4, eq_self, or_true, true_or, and_true, true_and, s128 a5.2.1 hnl, s104, z64, e65, wd_lt, hM.1, bi_0, h1, h2, u2, not_true_eq_false, not_false_eq_true, ↓reduceIte, and_self]
  have u1 : ((set.toUInt32 >>> ((nI n).toUInt32 &&& Int32.toUInt32 31)).toInt32 = 0) = True := eq_true ((ush_0 h16).mpr h3)
  have u2 : (set >>> (nI n &&& 31) = 0) = True := eq_true ((ssh_0 h16 (set_hi h2)).mpr h3)
  have se := low_msk h16 h3
  have hd1 : ∀ j, j < n → ¬ D j 1 = -1 := fun j hj => by
    obtain ⟨⟨f, hf, ef⟩, -⟩ := hN j hj
    rw [ef, nI_ne_m1 (by have := a3.2.2; omega)]
    exact id
  obtain ⟨i, hi, rfl⟩ := nJ_of hnl h1
  have h4 : i < 4 := by have := a5.2.2.1; omega
  have f1 := inb_nI h4 (show 4 < 2147483648 by omega)
  have f2 := cl_nI (show i < 2147483648 by omega)
  have f3 := kf_law h4
  have hA := hR'.ha hi
  by_cases h0 : set = 0
  · have hs0 : ∀ j, j < n → bt set j = true → D j 1 = 0 := fun j hj z => by rw [h0, b_0] at z; cases z
    have hal := (all_al (D := D) (set := set) n hs0).1
    have hm := s144 (J := J) (q := q) (G := mix G (tkS (G (4 + i)) D n (G 28) (G 29) (G 1) i G n)) (set := set) (f := 0) hM.mix hA.mix tk_HT hW hs0
    have hn : fstP D n (prvX (G (4 + i)) D n (G 28) (G 29) (G 1)) (bt set) = none := fstP_none.mpr (fun j hj => by rw [h0, b_0])
    have hk := s137 (J := J) (q := q) (S := G) hM hA hW
    rw [mix_self] at hk
    rw [hn] at hm
    refine ⟨G, mix G (tkS (G (4 + i)) D n (G 28) (G 29) (G 1) i G n), J, J, q, q, .int (-1), hq, ⟨np, nf, nl, pg, n, D, hR'.mx⟩, ?_, ?_⟩
    · rw [run_75]
      simp only [e75_0, e75_1, e75_2, e75_5, e75_8, e75_10, e75_11, e75_12, e75_14, e75_17, e75_20, e75_22, e75_23, e75_24, e75_25, e75_28, e75_31, e75_32, e75_35, e75_37, e75_38, e75_39, e75_42, e75_43, e75_44, e75_45, e75_48, e75_51, e75_52, e75_55, e75_56, e75_59, e75_60, e75_61, e75_62, e75_65, e75_66, e75_69, e75_70, e75_71, e75_72, e75_75, e75_77, e75_78, e75_79, e75_82, e75_83, e75_86, e75_87, e75_88, e75_89, e75_92, e75_93, e75_96, e75_97, e75_100, kf_0, ik_1, ik_2, ik_3, kf_8, ik_9, kf_10, ik_11, ik_28, ik_29, kf_30, ik_31, ik_48, ik_49, kf_50, kf_51, ik_52, ik_53, ik_54, kf_55, kf_56, ik_57, kf_58, ik_59, ik_60, ik_61, ik_62, ik_63, ik_64, ik_65, ik_66, ik_67, ik_68, ik_69, ik_70, ik_71, ik_72, ik_73, ik_74, rq_0_0, rq_0_1, rq_0_2, rq_0_3, rq_0_4, rq_0_5, rq_0_6, rq_0_7, rq_0_8, rq_8_0, rq_10_0, rq_10_1, rq_10_2, rq_30_0, rq_30_1, rq_30_2, rq_50_0, rq_51_0, rq_51_1, rq_51_2, rq_51_3, rq_51_4, rq_51_5, rq_56_0, rq_56_1, rq_56_2, rq_58_1, rq_58_3, rq_58_4, rq_58_5, rq_58_7, rq_58_8, rq_58_11, rq_58_12, rq_58_13, rq_58_14, rq_58_15, rq_58_25, rq_58_26, rq_58_29, rq_58_30, rq_58_31, rq_3, rq_11, rq_31, rq_law, rv_s, cl_i, cl_r, cl_n, tl_s, tl_n, kont_some, le4_0, le4_1, le4_2, le4_3, le4_4, eq_self, or_true, true_or, and_true, true_and, s95, s98, a5.1, hX.1, bi_0, h1, h2, u1, h0, not_true_eq_false, not_false_eq_true, ↓reduceIte, and_self]
      simp only [show ¬ ((0 : Int32) < 0) by decide, show ¬ ((65535 : Int32) < 0) by decide, not_false_eq_true, and_self, not_true_eq_false, ↓reduceIte]
      try simp only [h0 ▸ u1, ↓reduceIte]
    · rw [run_145]
      simp only [e145_0, e145_1, e145_2, e145_5, e145_8, e145_10, e145_11, e145_12, e145_13, e145_14, e145_17, e145_20, e145_23, e145_25, e145_26, e145_27, e145_28, e145_31, e145_32, e145_35, e145_37, e145_38, e145_39, e145_40, e145_41, e145_43, e145_44, e145_48, e145_49, e145_52, e145_55, e145_56, e145_58, e145_61, e145_64, e145_66, e145_69, e145_70, e145_71, e145_74, e145_75, e145_77, e145_78, e145_81, e145_82, e145_85, e145_86, e145_89, e145_90, e145_92, e145_93, e145_95, e145_96, e145_99, e145_100, e145_103, e145_106, e145_108, e145_111, e145_113, e145_114, e145_115, e145_116, e145_119, e145_120, e145_121, e145_124, kf_0, ik_1, ik_2, ik_3, kf_8, ik_9, kf_10, ik_11, ik_28, ik_29, kf_30, ik_31, ik_48, ik_49, kf_50, kf_51, ik_52, ik_53, ik_54, kf_55, kf_56, ik_57, kf_58, ik_59, ik_60, ik_61, ik_62, ik_63, ik_64, ik_65, ik_66, ik_67, ik_68, ik_69, ik_70, ik_71, ik_72, ik_73, ik_74, rq_0_0, rq_0_1, rq_0_2, rq_0_3, rq_0_4, rq_0_5, rq_0_6, rq_0_7, rq_0_8, rq_8_0, rq_10_0, rq_10_1, rq_10_2, rq_30_0, rq_30_1, rq_30_2, rq_50_0, rq_51_0, rq_51_1, rq_51_2, rq_51_3, rq_51_4, rq_51_5, rq_56_0, rq_56_1, rq_56_2, rq_58_1, rq_58_3, rq_58_4, rq_58_5, rq_58_7, rq_58_8, rq_58_11, rq_58_12, rq_58_13, rq_58_14, rq_58_15, rq_58_25, rq_58_26, rq_58_29, rq_58_30, rq_58_31, rq_3, rq_11, rq_31, rq_law, rv_s, cl_i, cl_r, cl_n, tl_s, tl_n, kont_some, le4_0, le4_1, le4_2, le4_3, le4_4, eq_self, or_true, true_or, and_true, true_and, s128 a5.2.1 hnl, s104, z64, e65, wd_lt, hM.1, bi_0, h1, h2, u2, not_true_eq_false, not_false_eq_true, ↓reduceIte, and_self]
      rw [h145 hM]
      simp only [e145_0, e145_1, e145_2, e145_5, e145_8, e145_10, e145_11, e145_12, e145_13, e145_14, e145_17, e145_20, e145_23, e145_25, e145_26, e145_27, e145_28, e145_31, e145_32, e145_35, e145_37, e145_38, e145_39, e145_40, e145_41, e145_43, e145_44, e145_48, e145_49, e145_52, e145_55, e145_56, e145_58, e145_61, e145_64, e145_66, e145_69, e145_70, e145_71, e145_74, e145_75, e145_77, e145_78, e145_81, e145_82, e145_85, e145_86, e145_89, e145_90, e145_92, e145_93, e145_95, e145_96, e145_99, e145_100, e145_103, e145_106, e145_108, e145_111, e145_113, e145_114, e145_115, e145_116, e145_119, e145_120, e145_121, e145_124, kf_0, ik_1, ik_2, ik_3, kf_8, ik_9, kf_10, ik_11, ik_28, ik_29, kf_30, ik_31, ik_48, ik_49, kf_50, kf_51, ik_52, ik_53, ik_54, kf_55, kf_56, ik_57, kf_58, ik_59, ik_60, ik_61, ik_62, ik_63, ik_64, ik_65, ik_66, ik_67, ik_68, ik_69, ik_70, ik_71, ik_72, ik_73, ik_74, rq_0_0, rq_0_1, rq_0_2, rq_0_3, rq_0_4, rq_0_5, rq_0_6, rq_0_7, rq_0_8, rq_8_0, rq_10_0, rq_10_1, rq_10_2, rq_30_0, rq_30_1, rq_30_2, rq_50_0, rq_51_0, rq_51_1, rq_51_2, rq_51_3, rq_51_4, rq_51_5, rq_56_0, rq_56_1, rq_56_2, rq_58_1, rq_58_3, rq_58_4, rq_58_5, rq_58_7, rq_58_8, rq_58_11, rq_58_12, rq_58_13, rq_58_14, rq_58_15, rq_58_25, rq_58_26, rq_58_29, rq_58_30, rq_58_31, rq_3, rq_11, rq_31, rq_law, rv_s, cl_i, cl_r, cl_n, tl_s, tl_n, kont_some, le4_0, le4_1, le4_2, le4_3, le4_4, eq_self, or_true, true_or, and_true, true_and, bi_0, hal, not_true_eq_false, ↓reduceIte, hk, hm]
      rfl
  · obtain ⟨j0, hj0, hb0, hl0⟩ := s102 (K := KF) (G := G) (J := J) (R := RQ q) (p := bt set) h16 (by rw [← se]; exact h0)
    rw [← se] at hl0
    have g1 := inb_nI (show j0 < 16 by omega) (show 16 < 2147483648 by omega)
    have g2 := cl_nI (show j0 < 2147483648 by omega)
    have g3 := kf_deed (show j0 < 16 by omega)
    have d1 := hX.2.2 j0 1 hj0 (by omega)
    have hof : (set &&& (msk (fun j => fldB D (D j0 1) j) n ^^^ -1) = 0) ↔ ∀ j, j < n → bt set j = true → D j 1 = D j0 1 := by
      rw [and_zero]
      constructor
      · intro z j hj hb
        have := z j (by omega)
        rw [bt_not (by omega), bt_msk (by omega)] at this
        refine Decidable.byContradiction (fun y => this ⟨hb, ?_⟩)
        simp [fldB, y]
      · intro z j hj y
        rw [bt_not hj, bt_msk (by omega)] at y
        by_cases hjn : j < n
        · have := z j hjn y.1
          simp [fldB, this, hjn] at y
        · rw [h3 j (by omega)] at y
          cases y.1
    by_cases hs : ∀ j, j < n → bt set j = true → D j 1 = D j0 1
    · have hal := (all_al (D := D) (set := set) n hs).1
      have ez : (set &&& (msk (fun j => fldB D (D j0 1) j) n ^^^ -1) = 0) = True := eq_true (hof.mpr hs)
      have hx := s8g (J := J) (q := q) (D j0 1) hX hW.wf f3 (show 4 + i < 50 by omega)
      have m54 : mix G (opn (G (4 + i)) D n (G 28) (G 29) (G 1) (D j0 1) G) 54 = opn (G (4 + i)) D n (G 28) (G 29) (G 1) (D j0 1) G 54 := by
        funext s
        rw [ms_54]
      have hf := s20 (J := J) (q := 4 + i) (G := mix G (opn (G (4 + i)) D n (G 28) (G 29) (G 1) (D j0 1) G)) set hX.mix
      rw [m54, firM_eq h16 (opn_rows h16) (fun j hj z => by
        have hjn : j < n := Decidable.byContradiction (fun y => by rw [h3 j (by omega)] at z; cases z)
        exact ⟨hjn, by simp [fldB, hs j hjn z]⟩)] at hf
      have hk := s137 (J := J) (q := 4 + i) (S := opn (G (4 + i)) D n (G 28) (G 29) (G 1) (D j0 1) G) hM hA hW
      generalize opn (G (4 + i)) D n (G 28) (G 29) (G 1) (D j0 1) G = T at hx hf hk
      have hm := s144 (J := J) (q := 4 + i) (G := mix G (tkS (G (4 + i)) D n (G 28) (G 29) (G 1) i T n)) (set := set) (f := D j0 1) hM.mix hA.mix tk_HT hW hs
      refine ⟨mix G T, mix G (tkS (G (4 + i)) D n (G 28) (G 29) (G 1) i T n), J, J, 4 + i, 4 + i, .int (oI (fstP D n (prvX (G (4 + i)) D n (G 28) (G 29) (G 1)) (bt set))), f3, ⟨np, nf, nl, pg, n, D, hR'.mx⟩, ?_, ?_⟩
      · rw [run_75]
        simp only [e75_0, e75_1, e75_2, e75_5, e75_8, e75_10, e75_11, e75_12, e75_14, e75_17, e75_20, e75_22, e75_23, e75_24, e75_25, e75_28, e75_31, e75_32, e75_35, e75_37, e75_38, e75_39, e75_42, e75_43, e75_44, e75_45, e75_48, e75_51, e75_52, e75_55, e75_56, e75_59, e75_60, e75_61, e75_62, e75_65, e75_66, e75_69, e75_70, e75_71, e75_72, e75_75, e75_77, e75_78, e75_79, e75_82, e75_83, e75_86, e75_87, e75_88, e75_89, e75_92, e75_93, e75_96, e75_97, e75_100, kf_0, ik_1, ik_2, ik_3, kf_8, ik_9, kf_10, ik_11, ik_28, ik_29, kf_30, ik_31, ik_48, ik_49, kf_50, kf_51, ik_52, ik_53, ik_54, kf_55, kf_56, ik_57, kf_58, ik_59, ik_60, ik_61, ik_62, ik_63, ik_64, ik_65, ik_66, ik_67, ik_68, ik_69, ik_70, ik_71, ik_72, ik_73, ik_74, rq_0_0, rq_0_1, rq_0_2, rq_0_3, rq_0_4, rq_0_5, rq_0_6, rq_0_7, rq_0_8, rq_8_0, rq_10_0, rq_10_1, rq_10_2, rq_30_0, rq_30_1, rq_30_2, rq_50_0, rq_51_0, rq_51_1, rq_51_2, rq_51_3, rq_51_4, rq_51_5, rq_56_0, rq_56_1, rq_56_2, rq_58_1, rq_58_3, rq_58_4, rq_58_5, rq_58_7, rq_58_8, rq_58_11, rq_58_12, rq_58_13, rq_58_14, rq_58_15, rq_58_25, rq_58_26, rq_58_29, rq_58_30, rq_58_31, rq_3, rq_11, rq_31, rq_law, rv_s, cl_i, cl_r, cl_n, tl_s, tl_n, kont_some, le4_0, le4_1, le4_2, le4_3, le4_4, eq_self, or_true, true_or, and_true, true_and, s95, s98, a5.1, hX.1, bi_0, h1, h2, u1, h0, hl0, g1, g2, g3, d1, s2 _ hX, ez, f1, f2, hx, hf, not_true_eq_false, not_false_eq_true, ↓reduceIte, and_self]
      · have vl := s128 (J := J) (q := 4 + i) (show mix G T 58 10 = nI nl by rw [mg_58_10]; exact a5.2.1) hnl (nI i)
        have v6 : mix G T 58 6 = nI n := by rw [mg_58_6]; exact hM.1
        rw [run_145]
        simp only [e145_0, e145_1, e145_2, e145_5, e145_8, e145_10, e145_11, e145_12, e145_13, e145_14, e145_17, e145_20, e145_23, e145_25, e145_26, e145_27, e145_28, e145_31, e145_32, e145_35, e145_37, e145_38, e145_39, e145_40, e145_41, e145_43, e145_44, e145_48, e145_49, e145_52, e145_55, e145_56, e145_58, e145_61, e145_64, e145_66, e145_69, e145_70, e145_71, e145_74, e145_75, e145_77, e145_78, e145_81, e145_82, e145_85, e145_86, e145_89, e145_90, e145_92, e145_93, e145_95, e145_96, e145_99, e145_100, e145_103, e145_106, e145_108, e145_111, e145_113, e145_114, e145_115, e145_116, e145_119, e145_120, e145_121, e145_124, kf_0, ik_1, ik_2, ik_3, kf_8, ik_9, kf_10, ik_11, ik_28, ik_29, kf_30, ik_31, ik_48, ik_49, kf_50, kf_51, ik_52, ik_53, ik_54, kf_55, kf_56, ik_57, kf_58, ik_59, ik_60, ik_61, ik_62, ik_63, ik_64, ik_65, ik_66, ik_67, ik_68, ik_69, ik_70, ik_71, ik_72, ik_73, ik_74, rq_0_0, rq_0_1, rq_0_2, rq_0_3, rq_0_4, rq_0_5, rq_0_6, rq_0_7, rq_0_8, rq_8_0, rq_10_0, rq_10_1, rq_10_2, rq_30_0, rq_30_1, rq_30_2, rq_50_0, rq_51_0, rq_51_1, rq_51_2, rq_51_3, rq_51_4, rq_51_5, rq_56_0, rq_56_1, rq_56_2, rq_58_1, rq_58_3, rq_58_4, rq_58_5, rq_58_7, rq_58_8, rq_58_11, rq_58_12, rq_58_13, rq_58_14, rq_58_15, rq_58_25, rq_58_26, rq_58_29, rq_58_30, rq_58_31, rq_3, rq_11, rq_31, rq_law, rv_s, cl_i, cl_r, cl_n, tl_s, tl_n, kont_some, le4_0, le4_1, le4_2, le4_3, le4_4, eq_self, or_true, true_or, and_true, true_and, vl, s104, z64, e65, wd_lt, v6, bi_0, h1, h2, u2, not_true_eq_false, not_false_eq_true, ↓reduceIte, and_self]
        rw [h145 hM.mix]
        simp only [e145_0, e145_1, e145_2, e145_5, e145_8, e145_10, e145_11, e145_12, e145_13, e145_14, e145_17, e145_20, e145_23, e145_25, e145_26, e145_27, e145_28, e145_31, e145_32, e145_35, e145_37, e145_38, e145_39, e145_40, e145_41, e145_43, e145_44, e145_48, e145_49, e145_52, e145_55, e145_56, e145_58, e145_61, e145_64, e145_66, e145_69, e145_70, e145_71, e145_74, e145_75, e145_77, e145_78, e145_81, e145_82, e145_85, e145_86, e145_89, e145_90, e145_92, e145_93, e145_95, e145_96, e145_99, e145_100, e145_103, e145_106, e145_108, e145_111, e145_113, e145_114, e145_115, e145_116, e145_119, e145_120, e145_121, e145_124, kf_0, ik_1, ik_2, ik_3, kf_8, ik_9, kf_10, ik_11, ik_28, ik_29, kf_30, ik_31, ik_48, ik_49, kf_50, kf_51, ik_52, ik_53, ik_54, kf_55, kf_56, ik_57, kf_58, ik_59, ik_60, ik_61, ik_62, ik_63, ik_64, ik_65, ik_66, ik_67, ik_68, ik_69, ik_70, ik_71, ik_72, ik_73, ik_74, rq_0_0, rq_0_1, rq_0_2, rq_0_3, rq_0_4, rq_0_5, rq_0_6, rq_0_7, rq_0_8, rq_8_0, rq_10_0, rq_10_1, rq_10_2, rq_30_0, rq_30_1, rq_30_2, rq_50_0, rq_51_0, rq_51_1, rq_51_2, rq_51_3, rq_51_4, rq_51_5, rq_56_0, rq_56_1, rq_56_2, rq_58_1, rq_58_3, rq_58_4, rq_58_5, rq_58_7, rq_58_8, rq_58_11, rq_58_12, rq_58_13, rq_58_14, rq_58_15, rq_58_25, rq_58_26, rq_58_29, rq_58_30, rq_58_31, rq_3, rq_11, rq_31, rq_law, rv_s, cl_i, cl_r, cl_n, tl_s, tl_n, kont_some, le4_0, le4_1, le4_2, le4_3, le4_4, eq_self, or_true, true_or, and_true, true_and, bi_0, hal, not_true_eq_false, ↓reduceIte, hk, hm]
    · have ez : (set &&& (msk (fun j => fldB D (D j0 1) j) n ^^^ -1) = 0) = False := eq_false (fun z => hs (hof.mp z))
      have hal : alF D set n = false := by
        cases y : alF D set n with
        | false => rfl
        | true =>
          have := al_all n hd1 y
          exact absurd (fun j hj hb => (this j hj hb).trans (this j0 hj0 hb0).symm) hs
      refine ⟨G, G, J, J, q, q, .int (-103), hq, ⟨np, nf, nl, pg, n, D, hR'⟩, ?_, ?_⟩
      · rw [run_75]
        simp only [e75_0, e75_1, e75_2, e75_5, e75_8, e75_10, e75_11, e75_12, e75_14, e75_17, e75_20, e75_22, e75_23, e75_24, e75_25, e75_28, e75_31, e75_32, e75_35, e75_37, e75_38, e75_39, e75_42, e75_43, e75_44, e75_45, e75_48, e75_51, e75_52, e75_55, e75_56, e75_59, e75_60, e75_61, e75_62, e75_65, e75_66, e75_69, e75_70, e75_71, e75_72, e75_75, e75_77, e75_78, e75_79, e75_82, e75_83, e75_86, e75_87, e75_88, e75_89, e75_92, e75_93, e75_96, e75_97, e75_100, kf_0, ik_1, ik_2, ik_3, kf_8, ik_9, kf_10, ik_11, ik_28, ik_29, kf_30, ik_31, ik_48, ik_49, kf_50, kf_51, ik_52, ik_53, ik_54, kf_55, kf_56, ik_57, kf_58, ik_59, ik_60, ik_61, ik_62, ik_63, ik_64, ik_65, ik_66, ik_67, ik_68, ik_69, ik_70, ik_71, ik_72, ik_73, ik_74, rq_0_0, rq_0_1, rq_0_2, rq_0_3, rq_0_4, rq_0_5, rq_0_6, rq_0_7, rq_0_8, rq_8_0, rq_10_0, rq_10_1, rq_10_2, rq_30_0, rq_30_1, rq_30_2, rq_50_0, rq_51_0, rq_51_1, rq_51_2, rq_51_3, rq_51_4, rq_51_5, rq_56_0, rq_56_1, rq_56_2, rq_58_1, rq_58_3, rq_58_4, rq_58_5, rq_58_7, rq_58_8, rq_58_11, rq_58_12, rq_58_13, rq_58_14, rq_58_15, rq_58_25, rq_58_26, rq_58_29, rq_58_30, rq_58_31, rq_3, rq_11, rq_31, rq_law, rv_s, cl_i, cl_r, cl_n, tl_s, tl_n, kont_some, le4_0, le4_1, le4_2, le4_3, le4_4, eq_self, or_true, true_or, and_true, true_and, s95, s98, a5.1, hX.1, bi_0, h1, h2, u1, h0, hl0, g1, g2, g3, d1, s2 _ hX, ez, not_true_eq_false, not_false_eq_true, ↓reduceIte, and_self]
      · rw [run_145]
        simp only [e145_0, e145_1, e145_2, e145_5, e145_8, e145_10, e145_11, e145_12, e145_13, e145_14, e145_17, e145_20, e145_23, e145_25, e145_26, e145_27, e145_28, e145_31, e145_32, e145_35, e145_37, e145_38, e145_39, e145_40, e145_41, e145_43, e145_44, e145_48, e145_49, e145_52, e145_55, e145_56, e145_58, e145_61, e145_64, e145_66, e145_69, e145_70, e145_71, e145_74, e145_75, e145_77, e145_78, e145_81, e145_82, e145_85, e145_86, e145_89, e145_90, e145_92, e145_93, e145_95, e145_96, e145_99, e145_100, e145_103, e145_106, e145_108, e145_111, e145_113, e145_114, e145_115, e145_116, e145_119, e145_120, e145_121, e145_124, kf_0, ik_1, ik_2, ik_3, kf_8, ik_9, kf_10, ik_11, ik_28, ik_29, kf_30, ik_31, ik_48, ik_49, kf_50, kf_51, ik_52, ik_53, ik_54, kf_55, kf_56, ik_57, kf_58, ik_59, ik_60, ik_61, ik_62, ik_63, ik_64, ik_65, ik_66, ik_67, ik_68, ik_69, ik_70, ik_71, ik_72, ik_73, ik_74, rq_0_0, rq_0_1, rq_0_2, rq_0_3, rq_0_4, rq_0_5, rq_0_6, rq_0_7, rq_0_8, rq_8_0, rq_10_0, rq_10_1, rq_10_2, rq_30_0, rq_30_1, rq_30_2, rq_50_0, rq_51_0, rq_51_1, rq_51_2, rq_51_3, rq_51_4, rq_51_5, rq_56_0, rq_56_1, rq_56_2, rq_58_1, rq_58_3, rq_58_4, rq_58_5, rq_58_7, rq_58_8, rq_58_11, rq_58_12, rq_58_13, rq_58_14, rq_58_15, rq_58_25, rq_58_26, rq_58_29, rq_58_30, rq_58_31, rq_3, rq_11, rq_31, rq_law, rv_s, cl_i, cl_r, cl_n, tl_s, tl_n, kont_some, le4_0, le4_1, le4_2, le4_3, le4_4, eq_self, or_true, true_or, and_true, true_and, s128 a5.2.1 hnl, s104, z64, e65, wd_lt, hM.1, bi_0, h1, h2, u2, not_true_eq_false, not_false_eq_true, ↓reduceIte, and_self]
        rw [h145 hM]
        simp only [e145_0, e145_1, e145_2, e145_5, e145_8, e145_10, e145_11, e145_12, e145_13, e145_14, e145_17, e145_20, e145_23, e145_25, e145_26, e145_27, e145_28, e145_31, e145_32, e145_35, e145_37, e145_38, e145_39, e145_40, e145_41, e145_43, e145_44, e145_48, e145_49, e145_52, e145_55, e145_56, e145_58, e145_61, e145_64, e145_66, e145_69, e145_70, e145_71, e145_74, e145_75, e145_77, e145_78, e145_81, e145_82, e145_85, e145_86, e145_89, e145_90, e145_92, e145_93, e145_95, e145_96, e145_99, e145_100, e145_103, e145_106, e145_108, e145_111, e145_113, e145_114, e145_115, e145_116, e145_119, e145_120, e145_121, e145_124, kf_0, ik_1, ik_2, ik_3, kf_8, ik_9, kf_10, ik_11, ik_28, ik_29, kf_30, ik_31, ik_48, ik_49, kf_50, kf_51, ik_52, ik_53, ik_54, kf_55, kf_56, ik_57, kf_58, ik_59, ik_60, ik_61, ik_62, ik_63, ik_64, ik_65, ik_66, ik_67, ik_68, ik_69, ik_70, ik_71, ik_72, ik_73, ik_74, rq_0_0, rq_0_1, rq_0_2, rq_0_3, rq_0_4, rq_0_5, rq_0_6, rq_0_7, rq_0_8, rq_8_0, rq_10_0, rq_10_1, rq_10_2, rq_30_0, rq_30_1, rq_30_2, rq_50_0, rq_51_0, rq_51_1, rq_51_2, rq_51_3, rq_51_4, rq_51_5, rq_56_0, rq_56_1, rq_56_2, rq_58_1, rq_58_3, rq_58_4, rq_58_5, rq_58_7, rq_58_8, rq_58_11, rq_58_12, rq_58_13, rq_58_14, rq_58_15, rq_58_25, rq_58_26, rq_58_29, rq_58_30, rq_58_31, rq_3, rq_11, rq_31, rq_law, rv_s, cl_i, cl_r, cl_n, tl_s, tl_n, kont_some, le4_0, le4_1, le4_2, le4_3, le4_4, eq_self, or_true, true_or, and_true, true_and, bi_0, hal, Bool.false_eq_true, not_false_eq_true, ↓reduceIte])
end OPS11
