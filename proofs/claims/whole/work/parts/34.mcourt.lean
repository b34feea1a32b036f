/-! which of two prevails, in the model -/
def WD (D : DT) (n : Nat) : Prop := ∀ j, j < n → inb (D j 1) 6 = true ∧ inb (D j 2) 12 = true ∧ inb (D j 3) 12 = true ∧ ¬ D j 5 < -1 ∧ ¬ 999 < D j 5
theorem WD.wf {D : DT} {n : Nat} (h : WD D n) : WFi D n := fun j hj => ⟨(h j hj).1, (h j hj).2.1⟩
theorem WD.e {D : DT} {n : Nat} (h : WD D n) : ∀ j, j < n → ¬ D j 5 < -1 := fun j hj => (h j hj).2.2.2.1
def tkS (w : Nat → Int32) (D : DT) (n : Nat) (dw sn N : Nat → Int32) (l : Nat) (S : SG) : Nat → SG
  | 0 => up2 S 58 24 (nI l)
  | i + 1 => up2 (tlS w D n N i (tkS w D n dw sn N l S i)) 70 i (hldM w D n dw sn N i)
def HT (G : SG) (l n : Nat) (D : DT) (w dw sn N : Nat → Int32) : Prop := G 58 24 = nI l ∧ ∀ j, j < n → G 70 j = hldM w D n dw sn N j
theorem tlS_ne {w : Nat → Int32} {D : DT} {n b : Nat} {N : Nat → Int32} {S : SG} {c s : Nat} (h : ¬ (c = 58 ∧ (s = 22 ∨ s = 23))) : tlS w D n N b S c s = S c s := by
  unfold tlS
  split
  · rw [up2_at, up2_at, if_neg (by omega), if_neg (by omega)]
  · rfl
theorem tk_24 {w : Nat → Int32} {D : DT} {n l : Nat} {dw sn N : Nat → Int32} {S : SG} (i : Nat) : tkS w D n dw sn N l S i 58 24 = nI l := by
  induction i with
  | zero => simp [tkS, up2]
  | succ i ih => unfold tkS; rw [up2_at, if_neg (by omega), tlS_ne (by omega), ih]
theorem tk_70 {w : Nat → Int32} {D : DT} {n l : Nat} {dw sn N : Nat → Int32} {S : SG} (i : Nat) : ∀ j, j < i → tkS w D n dw sn N l S i 70 j = hldM w D n dw sn N j := by
  induction i with
  | zero => intro j hj; omega
  | succ i ih =>
    intro j hj
    unfold tkS
    rw [up2_at]
    by_cases e : j = i
    · rw [if_pos ⟨rfl, e⟩, e]
    · rw [if_neg (by omega), tlS_ne (by omega), ih j (by omega)]
theorem tk_HT {G : SG} {w : Nat → Int32} {D : DT} {n l : Nat} {dw sn N : Nat → Int32} {S : SG} : HT (mix G (tkS w D n dw sn N l S n)) l n D w dw sn N := ⟨by rw [ms_58_24]; exact tk_24 n, fun j hj => by rw [ms_70]; exact tk_70 n j hj⟩
def entM (days : Int32) (D : DT) (j : Nat) : Int32 := if ¬ D j 5 = -1 ∧ ¬ days < D j 5 - D j 4 then D j 5 else 100000
theorem eaM {days : Int32} {D : DT} {n a b : Nat} (hW : WD D n) (ha : a < n) (hb : b < n) : eaB days D b a = decide (entM days D b < entM days D a ∨ (entM days D b = entM days D a ∧ entM days D b < 100000 ∧ b < a)) := by
  have h1 := (hW a ha).2.2.2.2
  have h2 := (hW b hb).2.2.2.2
  unfold eaB entC entM
  have k1 : (1000 : Int32).toInt = 1000 := by decide
  have k2 : (100000 : Int32).toInt = 100000 := by decide
  have k3 : (999 : Int32).toInt = 999 := by decide
  have e1 : ∀ x y : Int32, x = y ↔ x.toInt = y.toInt := fun x y => Int32.toInt_inj.symm
  apply Bool.eq_iff_iff.mpr
  simp only [decide_eq_true_eq]
  rw [Int32.lt_iff_toInt_lt, k3] at h1 h2
  by_cases hP : ¬ D a 5 = -1 ∧ ¬ days < D a 5 - D a 4
  · by_cases hQ : ¬ D b 5 = -1 ∧ ¬ days < D b 5 - D b 4
    · simp only [if_pos hP, if_pos hQ]
      simp only [Int32.lt_iff_toInt_lt, e1, k1, k2]
      omega
    · simp only [if_pos hP, if_neg hQ]
      simp only [Int32.lt_iff_toInt_lt, e1, k1, k2]
      omega
  · by_cases hQ : ¬ D b 5 = -1 ∧ ¬ days < D b 5 - D b 4
    · simp only [if_neg hP, if_pos hQ]
      simp only [Int32.lt_iff_toInt_lt, e1, k1, k2]
      omega
    · simp only [if_neg hP, if_neg hQ, Int32.lt_irrefl, not_true_eq_false, false_and, and_false, or_self]
section MCOURT
variable {G S : SG} {J : SJ} {q n a b l : Nat} {D : DT} {w dw sn N : Nat → Int32}
theorem s137 (hM : HM G n D) (hA : HA G l n D w dw sn N) (hW : WD D n) : run 137 [.ref (58 : Nat), .int (nI l)] KF (mix G S) J (RQ q) = some ((KF, mix G (tkS w D n dw sn N l S n), J, RQ q), none) := by
  have key : ev 137 7 [some (.ref (58 : Nat)), some (.int (nI l)), some (.int (nI 0))] [] KF (mix G (tkS w D n dw sn N l S 0)) J (RQ q) = ev 137 7 [some (.ref (58 : Nat)), some (.int (nI l)), some (.int (nI n))] [] KF (mix G (tkS w D n dw sn N l S n)) J (RQ q) := iter (fun i => ev 137 7 [some (.ref (58 : Nat)), some (.int (nI l)), some (.int (nI i))] [] KF (mix G (tkS w D n dw sn N l S i)) J (RQ q)) n (fun i hi => by
    have h16 := hM.2.1
    have f1 := lt_nI hi (show n < 2147483648 by omega)
    have f2 := inb_nI (show i < 16 by omega) (show 16 < 2147483648 by omega)
    have f3 := cl_nI (show i < 2147483648 by omega)
    rw [e137_7]
    simp only [e137_0, e137_1, e137_2, e137_5, e137_6, e137_8, e137_9, e137_12, e137_15, e137_16, e137_19, e137_20, e137_21, e137_22, e137_23, e137_26, e137_27, e137_30, e137_33, kf_0, ik_1, ik_2, ik_3, kf_8, ik_9, kf_10, ik_11, ik_28, ik_29, kf_30, ik_31, ik_48, ik_49, kf_50, kf_51, ik_52, ik_53, ik_54, kf_55, kf_56, ik_57, kf_58, ik_59, ik_60, ik_61, ik_62, ik_63, ik_64, ik_65, ik_66, ik_67, ik_68, ik_69, ik_70, ik_71, ik_72, ik_73, ik_74, rq_0_0, rq_0_1, rq_0_2, rq_0_3, rq_0_4, rq_0_5, rq_0_6, rq_0_7, rq_0_8, rq_8_0, rq_10_0, rq_10_1, rq_10_2, rq_30_0, rq_30_1, rq_30_2, rq_50_0, rq_51_0, rq_51_1, rq_51_2, rq_51_3, rq_51_4, rq_51_5, rq_56_0, rq_56_1, rq_56_2, rq_58_1, rq_58_3, rq_58_4, rq_58_5, rq_58_7, rq_58_8, rq_58_11, rq_58_12, rq_58_13, rq_58_14, rq_58_15, rq_58_25, rq_58_26, rq_58_29, rq_58_30, rq_58_31, rq_3, rq_11, rq_31, rq_law, rv_s, cl_i, cl_r, cl_n, tl_s, tl_n, kont_some, le4_0, le4_1, le4_2, le4_3, le4_4, eq_self, or_true, true_or, and_true, true_and, mg_0, pg_0, mg_1, pg_1, mg_2, pg_2, mg_8, pg_8, mg_9, pg_9, mg_10, pg_10, mg_28, pg_28, mg_29, pg_29, mg_30, pg_30, mg_48, pg_48, mg_49, pg_49, mg_59, pg_59, mg_60, pg_60, mg_61, pg_61, mg_62, pg_62, mg_63, pg_63, mg_64, pg_64, mg_65, pg_65, mg_66, pg_66, mg_67, pg_67, mg_68, pg_68, mg_69, pg_69, mg_72, pg_72, mg_73, pg_73, mg_74, pg_74, ms_50, ps_50, ms_51, ps_51, ms_52, ps_52, ms_53, ps_53, ms_54, ps_54, ms_56, ps_56, ms_57, ps_57, ms_70, ps_70, ms_71, ps_71, mg_58_0, pg_58_0, mg_58_2, pg_58_2, mg_58_6, pg_58_6, mg_58_9, pg_58_9, mg_58_10, pg_58_10, ms_58_16, ps_58_16, ms_58_17, ps_58_17, ms_58_18, ps_58_18, ms_58_19, ps_58_19, ms_58_20, ps_58_20, ms_58_21, ps_58_21, ms_58_22, ps_58_22, ms_58_23, ps_58_23, ms_58_24, ps_58_24, ms_58_27, ps_58_27, ms_58_28, ps_58_28, mg_58_32, pg_58_32, mg_58_33, pg_58_33, f1, f2, f3, hM.1, nI_1, ↓reduceIte, s136 hM hA hW.e hi (hW i hi).1 (hW i hi).2.1, tkS])
  rw [run_137]
  simp only [e137_0, e137_1, e137_2, e137_5, e137_6, e137_8, e137_9, e137_12, e137_15, e137_16, e137_19, e137_20, e137_21, e137_22, e137_23, e137_26, e137_27, e137_30, e137_33, kf_0, ik_1, ik_2, ik_3, kf_8, ik_9, kf_10, ik_11, ik_28, ik_29, kf_30, ik_31, ik_48, ik_49, kf_50, kf_51, ik_52, ik_53, ik_54, kf_55, kf_56, ik_57, kf_58, ik_59, ik_60, ik_61, ik_62, ik_63, ik_64, ik_65, ik_66, ik_67, ik_68, ik_69, ik_70, ik_71, ik_72, ik_73, ik_74, rq_0_0, rq_0_1, rq_0_2, rq_0_3, rq_0_4, rq_0_5, rq_0_6, rq_0_7, rq_0_8, rq_8_0, rq_10_0, rq_10_1, rq_10_2, rq_30_0, rq_30_1, rq_30_2, rq_50_0, rq_51_0, rq_51_1, rq_51_2, rq_51_3, rq_51_4, rq_51_5, rq_56_0, rq_56_1, rq_56_2, rq_58_1, rq_58_3, rq_58_4, rq_58_5, rq_58_7, rq_58_8, rq_58_11, rq_58_12, rq_58_13, rq_58_14, rq_58_15, rq_58_25, rq_58_26, rq_58_29, rq_58_30, rq_58_31, rq_3, rq_11, rq_31, rq_law, rv_s, cl_i, cl_r, cl_n, tl_s, tl_n, kont_some, le4_0, le4_1, le4_2, le4_3, le4_4, eq_self, or_true, true_or, and_true, true_and, mg_0, pg_0, mg_1, pg_1, mg_2, pg_2, mg_8, pg_8, mg_9, pg_9, mg_10, pg_10, mg_28, pg_28, mg_29, pg_29, mg_30, pg_30, mg_48, pg_48, mg_49, pg_49, mg_59, pg_59, mg_60, pg_60, mg_61, pg_61, mg_62, pg_62, mg_63, pg_63, mg_64, pg_64, mg_65, pg_65, mg_66, pg_66, mg_67, pg_67, mg_68, pg_68, mg_69, pg_69, mg_72, pg_72, mg_73, pg_73, mg_74, pg_74, ms_50, ps_50, ms_51, ps_51, ms_52, ps_52, ms_53, ps_53, ms_54, ps_54, ms_56, ps_56, ms_57, ps_57, ms_70, ps_70, ms_71, ps_71, mg_58_0, pg_58_0, mg_58_2, pg_58_2, mg_58_6, pg_58_6, mg_58_9, pg_58_9, mg_58_10, pg_58_10, ms_58_16, ps_58_16, ms_58_17, ps_58_17, ms_58_18, ps_58_18, ms_58_19, ps_58_19, ms_58_20, ps_58_20, ms_58_21, ps_58_21, ms_58_22, ps_58_22, ms_58_23, ps_58_23, ms_58_24, ps_58_24, ms_58_27, ps_58_27, ms_58_28, ps_58_28, mg_58_32, pg_58_32, mg_58_33, pg_58_33]
  rw [show up2 S 58 24 (nI l) = tkS w D n dw sn N l S 0 from rfl]
  rw [nI_0] at key
  refine key.trans ?_
  rw [e137_7]
  simp only [e137_0, e137_1, e137_2, e137_5, e137_6, e137_8, e137_9, e137_12, e137_15, e137_16, e137_19, e137_20, e137_21, e137_22, e137_23, e137_26, e137_27, e137_30, e137_33, kf_0, ik_1, ik_2, ik_3, kf_8, ik_9, kf_10, ik_11, ik_28, ik_29, kf_30, ik_31, ik_48, ik_49, kf_50, kf_51, ik_52, ik_53, ik_54, kf_55, kf_56, ik_57, kf_58, ik_59, ik_60, ik_61, ik_62, ik_63, ik_64, ik_65, ik_66, ik_67, ik_68, ik_69, ik_70, ik_71, ik_72, ik_73, ik_74, rq_0_0, rq_0_1, rq_0_2, rq_0_3, rq_0_4, rq_0_5, rq_0_6, rq_0_7, rq_0_8, rq_8_0, rq_10_0, rq_10_1, rq_10_2, rq_30_0, rq_30_1, rq_30_2, rq_50_0, rq_51_0, rq_51_1, rq_51_2, rq_51_3, rq_51_4, rq_51_5, rq_56_0, rq_56_1, rq_56_2, rq_58_1, rq_58_3, rq_58_4, rq_58_5, rq_58_7, rq_58_8, rq_58_11, rq_58_12, rq_58_13, rq_58_14, rq_58_15, rq_58_25, rq_58_26, rq_58_29, rq_58_30, rq_58_31, rq_3, rq_11, rq_31, rq_law, rv_s, cl_i, cl_r, cl_n, tl_s, tl_n, kont_some, le4_0, le4_1, le4_2, le4_3, le4_4, eq_self, or_true, true_or, and_true, true_and, mg_0, pg_0, mg_1, pg_1, mg_2, pg_2, mg_8, pg_8, mg_9, pg_9, mg_10, pg_10, mg_28, pg_28, mg_29, pg_29, mg_30, pg_30, mg_48, pg_48, mg_49, pg_49, mg_59, pg_59, mg_60, pg_60, mg_61, pg_61, mg_62, pg_62, mg_63, pg_63, mg_64, pg_64, mg_65, pg_65, mg_66, pg_66, mg_67, pg_67, mg_68, pg_68, mg_69, pg_69, mg_72, pg_72, mg_73, pg_73, mg_74, pg_74, ms_50, ps_50, ms_51, ps_51, ms_52, ps_52, ms_53, ps_53, ms_54, ps_54, ms_56, ps_56, ms_57, ps_57, ms_70, ps_70, ms_71, ps_71, mg_58_0, pg_58_0, mg_58_2, pg_58_2, mg_58_6, pg_58_6, mg_58_9, pg_58_9, mg_58_10, pg_58_10, ms_58_16, ps_58_16, ms_58_17, ps_58_17, ms_58_18, ps_58_18, ms_58_19, ps_58_19, ms_58_20, ps_58_20, ms_58_21, ps_58_21, ms_58_22, ps_58_22, ms_58_23, ps_58_23, ms_58_24, ps_58_24, ms_58_27, ps_58_27, ms_58_28, ps_58_28, mg_58_32, pg_58_32, mg_58_33, pg_58_33, hM.1, Int32.lt_irrefl, ↓reduceIte]
theorem s139 (hM : HM G n D) (hA : HA G l n D w dw sn N) (hT : HT G l n D w dw sn N) (ha : a < n) : run 139 [.ref (58 : Nat), .int (nI a)] KF G J (RQ q) = some ((KF, G, J, RQ q), some (.int (entM (w 4) D a))) := by
  rw [run_139]
  have f2 := inb_nI hA.1 (show 4 < 2147483648 by omega)
  have f3 := cl_nI (show l < 2147483648 by have := hA.1; omega)
  have n1 : ¬ ((1 : Int32) = 0) := by decide
  simp only [e139_0, e139_1, e139_2, e139_3, e139_6, e139_7, e139_10, e139_11, e139_12, e139_13, e139_16, e139_17, e139_18, e139_19, e139_22, e139_23, e139_24, e139_27, e139_28, e139_31, e139_32, e139_35, e139_36, e139_39, e139_40, e139_41, e139_42, e139_45, e139_46, e139_47, e139_48, e139_51, e139_54, e139_56, kf_0, ik_1, ik_2, ik_3, kf_8, ik_9, kf_10, ik_11, ik_28, ik_29, kf_30, ik_31, ik_48, ik_49, kf_50, kf_51, ik_52, ik_53, ik_54, kf_55, kf_56, ik_57, kf_58, ik_59, ik_60, ik_61, ik_62, ik_63, ik_64, ik_65, ik_66, ik_67, ik_68, ik_69, ik_70, ik_71, ik_72, ik_73, ik_74, rq_0_0, rq_0_1, rq_0_2, rq_0_3, rq_0_4, rq_0_5, rq_0_6, rq_0_7, rq_0_8, rq_8_0, rq_10_0, rq_10_1, rq_10_2, rq_30_0, rq_30_1, rq_30_2, rq_50_0, rq_51_0, rq_51_1, rq_51_2, rq_51_3, rq_51_4, rq_51_5, rq_56_0, rq_56_1, rq_56_2, rq_58_1, rq_58_3, rq_58_4, rq_58_5, rq_58_7, rq_58_8, rq_58_11, rq_58_12, rq_58_13, rq_58_14, rq_58_15, rq_58_25, rq_58_26, rq_58_29, rq_58_30, rq_58_31, rq_3, rq_11, rq_31, rq_law, rv_s, cl_i, cl_r, cl_n, tl_s, tl_n, kont_some, le4_0, le4_1, le4_2, le4_3, le4_4, eq_self, or_true, true_or, and_true, true_and, s113_5 hM ha, s113_4 hM ha, hT.1, f2, f3, hA.2.1.2.2.2.2, entM]
  by_cases h1 : D a 5 = -1 <;> by_cases h2 : w 4 < D a 5 - D a 4 <;> simp only [h1, h2, n1, ↓reduceIte, not_true_eq_false, not_false_eq_true, false_and, and_false, and_self, e139_0, e139_1, e139_2, e139_3, e139_6, e139_7, e139_10, e139_11, e139_12, e139_13, e139_16, e139_17, e139_18, e139_19, e139_22, e139_23, e139_24, e139_27, e139_28, e139_31, e139_32, e139_35, e139_36, e139_39, e139_40, e139_41, e139_42, e139_45, e139_46, e139_47, e139_48, e139_51, e139_54, e139_56, kf_0, ik_1, ik_2, ik_3, kf_8, ik_9, kf_10, ik_11, ik_28, ik_29, kf_30, ik_31, ik_48, ik_49, kf_50, kf_51, ik_52, ik_53, ik_54, kf_55, kf_56, ik_57, kf_58, ik_59, ik_60, ik_61, ik_62, ik_63, ik_64, ik_65, ik_66, ik_67, ik_68, ik_69, ik_70, ik_71, ik_72, ik_73, ik_74, rq_0_0, rq_0_1, rq_0_2, rq_0_3, rq_0_4, rq_0_5, rq_0_6, rq_0_7, rq_0_8, rq_8_0, rq_10_0, rq_10_1, rq_10_2, rq_30_0, rq_30_1, rq_30_2, rq_50_0, rq_51_0, rq_51_1, rq_51_2, rq_51_3, rq_51_4, rq_51_5, rq_56_0, rq_56_1, rq_56_2, rq_58_1, rq_58_3, rq_58_4, rq_58_5, rq_58_7, rq_58_8, rq_58_11, rq_58_12, rq_58_13, rq_58_14, rq_58_15, rq_58_25, rq_58_26, rq_58_29, rq_58_30, rq_58_31, rq_3, rq_11, rq_31, rq_law, rv_s, cl_i, cl_r, cl_n, tl_s, tl_n, kont_some, le4_0, le4_1, le4_2, le4_3, le4_4, eq_self, or_true, true_or, and_true, true_and, s113_5 hM ha]
theorem s140 (hM : HM G n D) (hA : HA G l n D w dw sn N) (hT : HT G l n D w dw sn N) (ha : a < n) : run 140 [.ref (58 : Nat), .int (nI a)] KF G J (RQ q) = some ((KF, G, J, RQ q), some (.int (bi (payB (w 3) D a = true)))) := by
  rw [run_140]
  have f2 := inb_nI hA.1 (show 4 < 2147483648 by omega)
  have f3 := cl_nI (show l < 2147483648 by have := hA.1; omega)
  simp only [e140_0, e140_1, e140_2, e140_3, e140_6, e140_7, e140_8, e140_9, e140_12, e140_13, e140_14, e140_17, e140_18, e140_19, e140_22, e140_23, e140_26, e140_27, e140_30, e140_31, e140_34, e140_35, e140_38, e140_39, kf_0, ik_1, ik_2, ik_3, kf_8, ik_9, kf_10, ik_11, ik_28, ik_29, kf_30, ik_31, ik_48, ik_49, kf_50, kf_51, ik_52, ik_53, ik_54, kf_55, kf_56, ik_57, kf_58, ik_59, ik_60, ik_61, ik_62, ik_63, ik_64, ik_65, ik_66, ik_67, ik_68, ik_69, ik_70, ik_71, ik_72, ik_73, ik_74, rq_0_0, rq_0_1, rq_0_2, rq_0_3, rq_0_4, rq_0_5, rq_0_6, rq_0_7, rq_0_8, rq_8_0, rq_10_0, rq_10_1, rq_10_2, rq_30_0, rq_30_1, rq_30_2, rq_50_0, rq_51_0, rq_51_1, rq_51_2, rq_51_3, rq_51_4, rq_51_5, rq_56_0, rq_56_1, rq_56_2, rq_58_1, rq_58_3, rq_58_4, rq_58_5, rq_58_7, rq_58_8, rq_58_11, rq_58_12, rq_58_13, rq_58_14, rq_58_15, rq_58_25, rq_58_26, rq_58_29, rq_58_30, rq_58_31, rq_3, rq_11, rq_31, rq_law, rv_s, cl_i, cl_r, cl_n, tl_s, tl_n, kont_some, le4_0, le4_1, le4_2, le4_3, le4_4, eq_self, or_true, true_or, and_true, true_and, s113_0 hM ha, hT.1, f2, f3, hA.2.1.2.2.2.1, payB, bi, decide_eq_true_eq]
  by_cases h1 : D a 0 = 1
  · simp only [h1, ↓reduceIte, true_or, or_true]
  · by_cases h2 : D a 0 = 3
    · simp only [h1, h2, ↓reduceIte, true_or, or_true, ite_self]
    · by_cases h3 : D a 0 = 4
      · simp only [h1, h2, h3, ↓reduceIte, true_or, or_true, ite_self]
      · by_cases h4 : w 3 = 0 <;> simp only [h1, h2, h3, h4, ↓reduceIte, or_false, false_or, not_true_eq_false, not_false_eq_true]
def ovM (w : Nat → Int32) (x y : Bool) : Bool := (decide (w 0 = 101) && x) || (decide (w 0 = 110) && y) || (decide (w 0 = 98) && x && y)
theorem h141a {a b : Nat} {x y : Int32} : ev 141 13 [some (.ref (58 : Nat)), some (.int (nI a)), some (.int (nI b)), some (.int x), some (.int y), none, none, none] [] KF G J (RQ q) = ev 141 42 [some (.ref (58 : Nat)), some (.int (nI a)), some (.int (nI b)), some (.int x), some (.int y), none, none, none] [.int (bi (decide (y < x ∨ (y = x ∧ y < 100000 ∧ nI b < nI a)) = true))] KF G J (RQ q) := by
  simp only [e141_0, e141_1, e141_2, e141_5, e141_6, e141_7, e141_8, e141_11, e141_13, e141_15, e141_16, e141_19, e141_21, e141_22, e141_25, e141_27, e141_29, e141_32, e141_33, e141_34, e141_37, e141_38, e141_41, e141_44, e141_45, e141_46, e141_49, e141_52, e141_53, e141_56, e141_57, e141_58, e141_59, e141_62, e141_65, e141_66, e141_69, e141_70, e141_72, e141_73, e141_76, e141_77, e141_80, e141_81, e141_83, e141_85, e141_87, e141_90, e141_92, e141_95, e141_97, e141_99, e141_102, e141_104, e141_107, e141_109, e141_111, e141_114, e141_116, e141_119, e141_121, e141_124, e141_125, e141_128, e141_129, kf_0, ik_1, ik_2, ik_3, kf_8, ik_9, kf_10, ik_11, ik_28, ik_29, kf_30, ik_31, ik_48, ik_49, kf_50, kf_51, ik_52, ik_53, ik_54, kf_55, kf_56, ik_57, kf_58, ik_59, ik_60, ik_61, ik_62, ik_63, ik_64, ik_65, ik_66, ik_67, ik_68, ik_69, ik_70, ik_71, ik_72, ik_73, ik_74, rq_0_0, rq_0_1, rq_0_2, rq_0_3, rq_0_4, rq_0_5, rq_0_6, rq_0_7, rq_0_8, rq_8_0, rq_10_0, rq_10_1, rq_10_2, rq_30_0, rq_30_1, rq_30_2, rq_50_0, rq_51_0, rq_51_1, rq_51_2, rq_51_3, rq_51_4, rq_51_5, rq_56_0, rq_56_1, rq_56_2, rq_58_1, rq_58_3, rq_58_4, rq_58_5, rq_58_7, rq_58_8, rq_58_11, rq_58_12, rq_58_13, rq_58_14, rq_58_15, rq_58_25, rq_58_26, rq_58_29, rq_58_30, rq_58_31, rq_3, rq_11, rq_31, rq_law, rv_s, cl_i, cl_r, cl_n, tl_s, tl_n, kont_some, le4_0, le4_1, le4_2, le4_3, le4_4, eq_self, or_true, true_or, and_true, true_and, bi, decide_eq_true_eq]
  by_cases h1 : y < x
  · simp only [h1, ↓reduceIte, true_or]
  · by_cases h2 : y = x
    · subst h2
      by_cases h3 : y < 100000 <;> by_cases h4 : nI b < nI a <;> simp only [h3, h4, Int32.lt_irrefl, ↓reduceIte, not_true_eq_false, not_false_eq_true, and_true, and_false, false_and, or_false, true_and, false_or, and_self]
    · simp only [h1, h2, ↓reduceIte, false_and, or_false, not_false_eq_true]
theorem h141b {a b : Nat} {x y : Int32} {v : Int32} (hM : HM G n D) (hA : HA G l n D w dw sn N) (hT : HT G l n D w dw sn N) (ha : a < n) (hb : b < n) : ev 141 42 [some (.ref (58 : Nat)), some (.int (nI a)), some (.int (nI b)), some (.int x), some (.int y), none, none, none] [.int v] KF G J (RQ q) = ev 141 70 [some (.ref (58 : Nat)), some (.int (nI a)), some (.int (nI b)), some (.int x), some (.int y), some (.int v), none, none] [.int (bi ((payB (w 3) D b && !bt (hldM w D n dw sn N b) a) = true))] KF G J (RQ q) := by
  have h16 := hM.2.1
  have f2 := inb_nI (show b < 16 by omega) (show 16 < 2147483648 by omega)
  have f3 := cl_nI (show b < 2147483648 by omega)
  have n1 : ¬ ((1 : Int32) = 0) := by decide
  simp only [e141_0, e141_1, e141_2, e141_5, e141_6, e141_7, e141_8, e141_11, e141_13, e141_15, e141_16, e141_19, e141_21, e141_22, e141_25, e141_27, e141_29, e141_32, e141_33, e141_34, e141_37, e141_38, e141_41, e141_42, e141_44, e141_45, e141_46, e141_49, e141_52, e141_53, e141_56, e141_57, e141_58, e141_59, e141_62, e141_65, e141_66, e141_69, e141_72, e141_73, e141_76, e141_77, e141_80, e141_81, e141_83, e141_85, e141_87, e141_90, e141_92, e141_95, e141_97, e141_99, e141_102, e141_104, e141_107, e141_109, e141_111, e141_114, e141_116, e141_119, e141_121, e141_124, e141_125, e141_128, e141_129, kf_0, ik_1, ik_2, ik_3, kf_8, ik_9, kf_10, ik_11, ik_28, ik_29, kf_30, ik_31, ik_48, ik_49, kf_50, kf_51, ik_52, ik_53, ik_54, kf_55, kf_56, ik_57, kf_58, ik_59, ik_60, ik_61, ik_62, ik_63, ik_64, ik_65, ik_66, ik_67, ik_68, ik_69, ik_70, ik_71, ik_72, ik_73, ik_74, rq_0_0, rq_0_1, rq_0_2, rq_0_3, rq_0_4, rq_0_5, rq_0_6, rq_0_7, rq_0_8, rq_8_0, rq_10_0, rq_10_1, rq_10_2, rq_30_0, rq_30_1, rq_30_2, rq_50_0, rq_51_0, rq_51_1, rq_51_2, rq_51_3, rq_51_4, rq_51_5, rq_56_0, rq_56_1, rq_56_2, rq_58_1, rq_58_3, rq_58_4, rq_58_5, rq_58_7, rq_58_8, rq_58_11, rq_58_12, rq_58_13, rq_58_14, rq_58_15, rq_58_25, rq_58_26, rq_58_29, rq_58_30, rq_58_31, rq_3, rq_11, rq_31, rq_law, rv_s, cl_i, cl_r, cl_n, tl_s, tl_n, kont_some, le4_0, le4_1, le4_2, le4_3, le4_4, eq_self, or_true, true_or, and_true, true_and, s140 hM hA hT hb, bi_0]
  cases h1 : payB (w 3) D b
  · simp only [Bool.false_eq_true, not_false_eq_true, ↓reduceIte, bi, Bool.false_and]
  · cases h2 : bt (hldM w D n dw sn N b) a <;> simp only [Bool.false_eq_true, not_true_eq_false, not_false_eq_true, ↓reduceIte, bi, bi_0, e141_0, e141_1, e141_2, e141_5, e141_6, e141_7, e141_8, e141_11, e141_13, e141_15, e141_16, e141_19, e141_21, e141_22, e141_25, e141_27, e141_29, e141_32, e141_33, e141_34, e141_37, e141_38, e141_41, e141_42, e141_44, e141_45, e141_46, e141_49, e141_52, e141_53, e141_56, e141_57, e141_58, e141_59, e141_62, e141_65, e141_66, e141_69, e141_72, e141_73, e141_76, e141_77, e141_80, e141_81, e141_83, e141_85, e141_87, e141_90, e141_92, e141_95, e141_97, e141_99, e141_102, e141_104, e141_107, e141_109, e141_111, e141_114, e141_116, e141_119, e141_121, e141_124, e141_125, e141_128, e141_129, kf_0, ik_1, ik_2, ik_3, kf_8, ik_9, kf_10, ik_11, ik_28, ik_29, kf_30, ik_31, ik_48, ik_49, kf_50, kf_51, ik_52, ik_53, ik_54, kf_55, kf_56, ik_57, kf_58, ik_59, ik_60, ik_61, ik_62, ik_63, ik_64, ik_65, ik_66, ik_67, ik_68, ik_69, ik_70, ik_71, ik_72, ik_73, ik_74, rq_0_0, rq_0_1, rq_0_2, rq_0_3, rq_0_4, rq_0_5, rq_0_6, rq_0_7, rq_0_8, rq_8_0, rq_10_0, rq_10_1, rq_10_2, rq_30_0, rq_30_1, rq_30_2, rq_50_0, rq_51_0, rq_51_1, rq_51_2, rq_51_3, rq_51_4, rq_51_5, rq_56_0, rq_56_1, rq_56_2, rq_58_1, rq_58_3, rq_58_4, rq_58_5, rq_58_7, rq_58_8, rq_58_11, rq_58_12, rq_58_13, rq_58_14, rq_58_15, rq_58_25, rq_58_26, rq_58_29, rq_58_30, rq_58_31, rq_3, rq_11, rq_31, rq_law, rv_s, cl_i, cl_r, cl_n, tl_s, tl_n, kont_some, le4_0, le4_1, le4_2, le4_3, le4_4, eq_self, or_true, true_or, and_true, true_and, f2, f3, hT.2 b hb, s105 (show a < 32 by omega), h2, Bool.true_and, Bool.not_true, Bool.not_false, n1]
theorem h141c {a b : Nat} {x y : Int32} (p r : Bool) (hA : HA G l n D w dw sn N) (hT : HT G l n D w dw sn N) : ev 141 70 [some (.ref (58 : Nat)), some (.int (nI a)), some (.int (nI b)), some (.int x), some (.int y), some (.int (bi (p = true))), none, none] [.int (bi (r = true))] KF G J (RQ q) = some ((KF, G, J, RQ q), some (.int (bi (ovM w p r = true)))) := by
  have f2 := inb_nI hA.1 (show 4 < 2147483648 by omega)
  have f3 := cl_nI (show l < 2147483648 by have := hA.1; omega)
  have n1 : ¬ ((101 : Int32) = 110) := by decide
  have n2 : ¬ ((101 : Int32) = 98) := by decide
  have n3 : ¬ ((110 : Int32) = 98) := by decide
  have n4 : ¬ ((110 : Int32) = 101) := by decide
  have n5 : ¬ ((98 : Int32) = 101) := by decide
  have n6 : ¬ ((98 : Int32) = 110) := by decide
  simp only [e141_0, e141_1, e141_2, e141_5, e141_6, e141_7, e141_8, e141_11, e141_15, e141_16, e141_19, e141_21, e141_22, e141_25, e141_27, e141_29, e141_32, e141_33, e141_34, e141_37, e141_38, e141_41, e141_42, e141_44, e141_45, e141_46, e141_49, e141_52, e141_53, e141_56, e141_57, e141_58, e141_59, e141_62, e141_65, e141_66, e141_69, e141_70, e141_72, e141_73, e141_76, e141_77, e141_80, e141_81, e141_83, e141_85, e141_87, e141_90, e141_92, e141_95, e141_97, e141_99, e141_102, e141_104, e141_107, e141_109, e141_111, e141_114, e141_116, e141_119, e141_121, e141_124, e141_125, e141_128, e141_129, kf_0, ik_1, ik_2, ik_3, kf_8, ik_9, kf_10, ik_11, ik_28, ik_29, kf_30, ik_31, ik_48, ik_49, kf_50, kf_51, ik_52, ik_53, ik_54, kf_55, kf_56, ik_57, kf_58, ik_59, ik_60, ik_61, ik_62, ik_63, ik_64, ik_65, ik_66, ik_67, ik_68, ik_69, ik_70, ik_71, ik_72, ik_73, ik_74, rq_0_0, rq_0_1, rq_0_2, rq_0_3, rq_0_4, rq_0_5, rq_0_6, rq_0_7, rq_0_8, rq_8_0, rq_10_0, rq_10_1, rq_10_2, rq_30_0, rq_30_1, rq_30_2, rq_50_0, rq_51_0, rq_51_1, rq_51_2, rq_51_3, rq_51_4, rq_51_5, rq_56_0, rq_56_1, rq_56_2, rq_58_1, rq_58_3, rq_58_4, rq_58_5, rq_58_7, rq_58_8, rq_58_11, rq_58_12, rq_58_13, rq_58_14, rq_58_15, rq_58_25, rq_58_26, rq_58_29, rq_58_30, rq_58_31, rq_3, rq_11, rq_31, rq_law, rv_s, cl_i, cl_r, cl_n, tl_s, tl_n, kont_some, le4_0, le4_1, le4_2, le4_3, le4_4, eq_self, or_true, true_or, and_true, true_and, hT.1, f2, f3, hA.2.1.1, ovM, bi_0]
  by_cases h1 : w 0 = 101
  · cases p <;> cases r <;> simp only [h1, n1, n2, ↓reduceIte, not_true_eq_false, not_false_eq_true, Bool.false_eq_true, bi, decide_true, decide_false, Bool.true_and, Bool.false_and, Bool.or_false, Bool.false_or]
  · by_cases h2 : w 0 = 110
    · cases p <;> cases r <;> simp only [h2, n3, n4, ↓reduceIte, not_true_eq_false, not_false_eq_true, Bool.false_eq_true, bi, decide_true, decide_false, Bool.true_and, Bool.false_and, Bool.or_false, Bool.false_or]
    · by_cases h3 : w 0 = 98
      · cases p <;> cases r <;> simp only [h3, n5, n6, ↓reduceIte, not_true_eq_false, not_false_eq_true, Bool.false_eq_true, bi, decide_true, decide_false, Bool.true_and, Bool.false_and, Bool.or_false, Bool.false_or, Bool.and_false]
      · simp only [h1, h2, h3, ↓reduceIte, not_false_eq_true, Bool.false_eq_true, bi, decide_false, Bool.false_and, Bool.or_false]
theorem ovM_eq {t : Int32} (x : Bool) : ovM w x (innB (w 3) D t a b) = ((!asE (w 0) || x) && (!asK (w 0) || innB (w 3) D t a b) && (asE (w 0) || asK (w 0))) := by
  unfold ovM asE asK
  by_cases h1 : w 0 = 101
  · simp [h1]
  · by_cases h2 : w 0 = 110
    · simp [h2]
    · by_cases h3 : w 0 = 98 <;> simp [h1, h2, h3]
theorem s141 (hM : HM G n D) (hA : HA G l n D w dw sn N) (hT : HT G l n D w dw sn N) (hW : WD D n) (ha : a < n) (hb : b < n) (hf : D a 1 = D b 1) (hab : ahB D a b = true) : run 141 [.ref (58 : Nat), .int (nI a), .int (nI b)] KF G J (RQ q) = some ((KF, G, J, RQ q), some (.int (bi (ovrB w D (toM w D n dw sn N b) a b = true)))) := by
  have h16 := hM.2.1
  have hlt : (nI b < nI a) = (b < a) := propext (nI_ltI (by omega) (by omega))
  have e1 : ovrB w D (toM w D n dw sn N b) a b = ovM w (eaB (w 4) D b a) (payB (w 3) D b && !bt (hldM w D n dw sn N b) a) := by
    have e2 : bt (hldM w D n dw sn N b) a = bt (D b 9 ||| tldM w D n dw sn N b) a := by
      unfold hldM
      rw [bt_msk (by omega), b_or]
      simp [ha, hab, fldB, hf]
    rw [e2, show (payB (w 3) D b && !bt (D b 9 ||| tldM w D n dw sn N b) a) = innB (w 3) D (tldM w D n dw sn N b) a b from rfl, ovM_eq]
    unfold ovrB toM
    by_cases hk : asK (w 0) = true
    · simp only [hk, ↓reduceIte]
    · simp [hk]
  rw [e1, run_141, eaM hW ha hb]
  simp only [e141_0, e141_1, e141_2, e141_5, e141_6, e141_7, e141_8, e141_11, e141_15, e141_16, e141_19, e141_21, e141_22, e141_25, e141_27, e141_29, e141_32, e141_33, e141_34, e141_37, e141_38, e141_41, e141_42, e141_44, e141_45, e141_46, e141_49, e141_52, e141_53, e141_56, e141_57, e141_58, e141_59, e141_62, e141_65, e141_66, e141_69, e141_70, e141_72, e141_73, e141_76, e141_77, e141_80, e141_81, e141_83, e141_85, e141_87, e141_90, e141_92, e141_95, e141_97, e141_99, e141_102, e141_104, e141_107, e141_109, e141_111, e141_114, e141_116, e141_119, e141_121, e141_124, e141_125, e141_128, e141_129, kf_0, ik_1, ik_2, ik_3, kf_8, ik_9, kf_10, ik_11, ik_28, ik_29, kf_30, ik_31, ik_48, ik_49, kf_50, kf_51, ik_52, ik_53, ik_54, kf_55, kf_56, ik_57, kf_58, ik_59, ik_60, ik_61, ik_62, ik_63, ik_64, ik_65, ik_66, ik_67, ik_68, ik_69, ik_70, ik_71, ik_72, ik_73, ik_74, rq_0_0, rq_0_1, rq_0_2, rq_0_3, rq_0_4, rq_0_5, rq_0_6, rq_0_7, rq_0_8, rq_8_0, rq_10_0, rq_10_1, rq_10_2, rq_30_0, rq_30_1, rq_30_2, rq_50_0, rq_51_0, rq_51_1, rq_51_2, rq_51_3, rq_51_4, rq_51_5, rq_56_0, rq_56_1, rq_56_2, rq_58_1, rq_58_3, rq_58_4, rq_58_5, rq_58_7, rq_58_8, rq_58_11, rq_58_12, rq_58_13, rq_58_14, rq_58_15, rq_58_25, rq_58_26, rq_58_29, rq_58_30, rq_58_31, rq_3, rq_11, rq_31, rq_law, rv_s, cl_i, cl_r, cl_n, tl_s, tl_n, kont_some, le4_0, le4_1, le4_2, le4_3, le4_4, eq_self, or_true, true_or, and_true, true_and, s139 hM hA hT ha, s139 hM hA hT hb]
  rw [h141a, h141b hM hA hT ha hb, h141c _ _ hA hT]
  simp only [hlt]
theorem s142 (hM : HM G n D) (hA : HA G l n D w dw sn N) (hT : HT G l n D w dw sn N) (hW : WD D n) (ha : a < n) (hb : b < n) (hf : D a 1 = D b 1) (hab : a ≠ b) : run 142 [.ref (58 : Nat), .int (nI a), .int (nI b)] KF G J (RQ q) = some ((KF, G, J, RQ q), some (.int (bi (prvX w D n dw sn N a b = true)))) := by
  rw [run_142]
  unfold prvX
  simp only [e142_0, e142_1, e142_2, e142_3, e142_6, e142_9, e142_10, e142_11, e142_12, e142_15, e142_18, e142_19, e142_20, e142_21, e142_24, e142_27, e142_28, e142_31, e142_32, kf_0, ik_1, ik_2, ik_3, kf_8, ik_9, kf_10, ik_11, ik_28, ik_29, kf_30, ik_31, ik_48, ik_49, kf_50, kf_51, ik_52, ik_53, ik_54, kf_55, kf_56, ik_57, kf_58, ik_59, ik_60, ik_61, ik_62, ik_63, ik_64, ik_65, ik_66, ik_67, ik_68, ik_69, ik_70, ik_71, ik_72, ik_73, ik_74, rq_0_0, rq_0_1, rq_0_2, rq_0_3, rq_0_4, rq_0_5, rq_0_6, rq_0_7, rq_0_8, rq_8_0, rq_10_0, rq_10_1, rq_10_2, rq_30_0, rq_30_1, rq_30_2, rq_50_0, rq_51_0, rq_51_1, rq_51_2, rq_51_3, rq_51_4, rq_51_5, rq_56_0, rq_56_1, rq_56_2, rq_58_1, rq_58_3, rq_58_4, rq_58_5, rq_58_7, rq_58_8, rq_58_11, rq_58_12, rq_58_13, rq_58_14, rq_58_15, rq_58_25, rq_58_26, rq_58_29, rq_58_30, rq_58_31, rq_3, rq_11, rq_31, rq_law, rv_s, cl_i, cl_r, cl_n, tl_s, tl_n, kont_some, le4_0, le4_1, le4_2, le4_3, le4_4, eq_self, or_true, true_or, and_true, true_and, s135 hM hb ha, bi_0]
  by_cases h : ahB D b a = true
  · simp only [h, ↓reduceIte, not_true_eq_false, e142_0, e142_1, e142_2, e142_3, e142_6, e142_9, e142_10, e142_11, e142_12, e142_15, e142_18, e142_19, e142_20, e142_21, e142_24, e142_27, e142_28, e142_31, e142_32, kf_0, ik_1, ik_2, ik_3, kf_8, ik_9, kf_10, ik_11, ik_28, ik_29, kf_30, ik_31, ik_48, ik_49, kf_50, kf_51, ik_52, ik_53, ik_54, kf_55, kf_56, ik_57, kf_58, ik_59, ik_60, ik_61, ik_62, ik_63, ik_64, ik_65, ik_66, ik_67, ik_68, ik_69, ik_70, ik_71, ik_72, ik_73, ik_74, rq_0_0, rq_0_1, rq_0_2, rq_0_3, rq_0_4, rq_0_5, rq_0_6, rq_0_7, rq_0_8, rq_8_0, rq_10_0, rq_10_1, rq_10_2, rq_30_0, rq_30_1, rq_30_2, rq_50_0, rq_51_0, rq_51_1, rq_51_2, rq_51_3, rq_51_4, rq_51_5, rq_56_0, rq_56_1, rq_56_2, rq_58_1, rq_58_3, rq_58_4, rq_58_5, rq_58_7, rq_58_8, rq_58_11, rq_58_12, rq_58_13, rq_58_14, rq_58_15, rq_58_25, rq_58_26, rq_58_29, rq_58_30, rq_58_31, rq_3, rq_11, rq_31, rq_law, rv_s, cl_i, cl_r, cl_n, tl_s, tl_n, kont_some, le4_0, le4_1, le4_2, le4_3, le4_4, eq_self, or_true, true_or, and_true, true_and, s141 hM hA hT hW hb ha hf.symm h, bi_01]
  · have h' : ahB D a b = true := (ah_tot hab).resolve_right h
    simp only [h, ↓reduceIte, not_false_eq_true, Bool.false_eq_true, e142_0, e142_1, e142_2, e142_3, e142_6, e142_9, e142_10, e142_11, e142_12, e142_15, e142_18, e142_19, e142_20, e142_21, e142_24, e142_27, e142_28, e142_31, e142_32, kf_0, ik_1, ik_2, ik_3, kf_8, ik_9, kf_10, ik_11, ik_28, ik_29, kf_30, ik_31, ik_48, ik_49, kf_50, kf_51, ik_52, ik_53, ik_54, kf_55, kf_56, ik_57, kf_58, ik_59, ik_60, ik_61, ik_62, ik_63, ik_64, ik_65, ik_66, ik_67, ik_68, ik_69, ik_70, ik_71, ik_72, ik_73, ik_74, rq_0_0, rq_0_1, rq_0_2, rq_0_3, rq_0_4, rq_0_5, rq_0_6, rq_0_7, rq_0_8, rq_8_0, rq_10_0, rq_10_1, rq_10_2, rq_30_0, rq_30_1, rq_30_2, rq_50_0, rq_51_0, rq_51_1, rq_51_2, rq_51_3, rq_51_4, rq_51_5, rq_56_0, rq_56_1, rq_56_2, rq_58_1, rq_58_3, rq_58_4, rq_58_5, rq_58_7, rq_58_8, rq_58_11, rq_58_12, rq_58_13, rq_58_14, rq_58_15, rq_58_25, rq_58_26, rq_58_29, rq_58_30, rq_58_31, rq_3, rq_11, rq_31, rq_law, rv_s, cl_i, cl_r, cl_n, tl_s, tl_n, kont_some, le4_0, le4_1, le4_2, le4_3, le4_4, eq_self, or_true, true_or, and_true, true_and, s141 hM hA hT hW ha hb hf h', bi_0]
    cases ovrB w D (toM w D n dw sn N b) a b <;> simp only [Bool.false_eq_true, Bool.not_true, Bool.not_false, bi, ↓reduceIte, not_true_eq_false, not_false_eq_true]
end MCOURT
