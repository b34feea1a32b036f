/-! the Court opens: every two deeds of a field are settled -/
def dkM (D : DT) (n : Nat) (f : Int32) : Int32 := msk (fun j => fldB D f j) n
def ahM (D : DT) (n : Nat) (dk : Int32) (b : Nat) : Int32 := msk (fun j => bt dk j && ahB D j b) n
def toM (w : Nat → Int32) (D : DT) (n : Nat) (dw sn N : Nat → Int32) (b : Nat) : Int32 := if asK (w 0) = true then tldM w D n dw sn N b else 0
def toS (w : Nat → Int32) (D : DT) (n : Nat) (N : Nat → Int32) (b : Nat) (S : SG) : SG := if asK (w 0) = true then tldS w D n N b S else S
def op1 (w : Nat → Int32) (D : DT) (n : Nat) (dw sn N : Nat → Int32) (dk : Int32) (S : SG) : Nat → SG
  | 0 => S
  | i + 1 => if bt dk i = true then up2 (up2 (toS w D n N i (up2 (op1 w D n dw sn N dk S i) 52 i (ahM D n dk i))) 53 i (toM w D n dw sn N i)) 54 i 0 else op1 w D n dw sn N dk S i
def op2i (w : Nat → Int32) (D : DT) (dk : Int32) (T : SG) (b : Nat) (B : Nat → Int32) : Nat → (Nat → Int32)
  | 0 => B
  | a + 1 => if bt dk b = true ∧ bt (T 52 b) a = true then setB (op2i w D dk T b B a) (ovrB w D (T 53 b) a b) a b else op2i w D dk T b B a
def op2 (w : Nat → Int32) (D : DT) (n : Nat) (dk : Int32) (T : SG) (B : Nat → Int32) : Nat → (Nat → Int32)
  | 0 => B
  | b + 1 => op2i w D dk T b (op2 w D n dk T B b) n
def opn (w : Nat → Int32) (D : DT) (n : Nat) (dw sn N : Nat → Int32) (f : Int32) (S : SG) : SG := row54 (op1 w D n dw sn N (dkM D n f) (up2 S 51 7 (dkM D n f)) n) (op2 w D n (dkM D n f) (op1 w D n dw sn N (dkM D n f) (up2 S 51 7 (dkM D n f)) n) (op1 w D n dw sn N (dkM D n f) (up2 S 51 7 (dkM D n f)) n 54) n)
theorem tldS_ne {w : Nat → Int32} {D : DT} {n b : Nat} {N : Nat → Int32} {S : SG} {c s : Nat} (h : c ≠ 50) : tldS w D n N b S c s = S c s := by
  unfold tldS srS w50
  split
  · rfl
  · split
    · simp [h, up2]
    · rfl
theorem toS_ne {w : Nat → Int32} {D : DT} {n b : Nat} {N : Nat → Int32} {S : SG} {c s : Nat} (h : c ≠ 50) : toS w D n N b S c s = S c s := by
  unfold toS
  split
  · exact tldS_ne h
  · rfl
theorem op1_ne {w : Nat → Int32} {D : DT} {n : Nat} {dw sn N : Nat → Int32} {dk : Int32} {S : SG} {c s : Nat} (h : c ≠ 50) (h2 : c ≠ 52) (h3 : c ≠ 53) (h4 : c ≠ 54) (i : Nat) : op1 w D n dw sn N dk S i c s = S c s := by
  induction i with
  | zero => rfl
  | succ i ih =>
    unfold op1
    split
    · rw [up2_at, up2_at, toS_ne h, up2_at]
      simp [h2, h3, h4, ih]
    · exact ih
section OPEN
variable {G S T : SG} {J : SJ} {q ql n c b : Nat} {D : DT}
def WFi (D : DT) (n : Nat) : Prop := ∀ j, j < n → inb (D j 1) 6 = true ∧ inb (D j 2) 12 = true
theorem h8a (f : Int32) (hX : HX G n D) (hw : WFi D n) (hl : KF[ql]? = some (.inr 3)) (hl5 : ql < 50) (dk : Int32) (hdk : S 51 7 = dk) : ev 8 19 [some (.ref (51 : Nat)), some (.ref ql), some (.int f), some (.int (nI 0)), none] [] KF (mix G (op1 (G ql) D n (G 28) (G 29) (G 1) dk S 0)) J (RQ ql) = ev 8 19 [some (.ref (51 : Nat)), some (.ref ql), some (.int f), some (.int (nI n)), none] [] KF (mix G (op1 (G ql) D n (G 28) (G 29) (G 1) dk S n)) J (RQ ql) := by
  refine iter (fun i => ev 8 19 [some (.ref (51 : Nat)), some (.ref ql), some (.int f), some (.int (nI i)), none] [] KF (mix G (op1 (G ql) D n (G 28) (G 29) (G 1) dk S i)) J (RQ ql)) n (fun i hi => ?_)
  have h16 := hX.2.1
  have f1 := lt_nI hi (show n < 2147483648 by omega)
  have f2 := inb_nI (show i < 16 by omega) (show 16 < 2147483648 by omega)
  have f3 := cl_nI (show i < 2147483648 by omega)
  have f4 := kf_deed (show i < 16 by omega)
  have f5 : i < 32 := by omega
  have f6 : i < 16 := by omega
  have hn := hX.1
  have d0 := hX.2.2 i 0 hi (by omega)
  have d1 := hX.2.2 i 1 hi (by omega)
  have d2 := hX.2.2 i 2 hi (by omega)
  have d3 := hX.2.2 i 3 hi (by omega)
  have d4 := hX.2.2 i 4 hi (by omega)
  have d5 := hX.2.2 i 5 hi (by omega)
  have d6 := hX.2.2 i 6 hi (by omega)
  have d7 := hX.2.2 i 7 hi (by omega)
  have d8 := hX.2.2 i 8 hi (by omega)
  have d9 := hX.2.2 i 9 hi (by omega)
  have mq := fun (S : SG) a => mix_low (G := G) (S := S) (c := ql) (s := a) hl5
  have o51 : op1 (G ql) D n (G 28) (G 29) (G 1) dk S i 51 7 = dk := by rw [op1_ne (by omega) (by omega) (by omega) (by omega)]; exact hdk
  have u51 : up2 (op1 (G ql) D n (G 28) (G 29) (G 1) dk S i) 52 i (ahM D n dk i) 51 7 = dk := by rw [up2_at]; simp [o51]
  have ea : msk (fun j => bt dk j && ahB D j i) n = ahM D n dk i := rfl
  have hk := asK
  rw [e8_19]
  simp only [e8_0, e8_1, e8_2, e8_5, e8_6, e8_7, e8_10, e8_11, e8_14, e8_17, e8_18, e8_20, e8_21, e8_24, e8_27, e8_30, e8_31, e8_34, e8_35, e8_38, e8_41, e8_42, e8_45, e8_46, e8_47, e8_48, e8_49, e8_52, e8_55, e8_56, e8_57, e8_60, e8_61, e8_62, e8_65, e8_68, e8_71, e8_72, e8_73, e8_76, e8_77, e8_80, e8_83, e8_84, e8_85, e8_86, e8_89, e8_90, e8_91, e8_92, e8_95, e8_98, e8_99, e8_101, e8_102, e8_105, e8_108, e8_111, e8_112, e8_116, e8_117, e8_120, e8_123, e8_126, e8_127, e8_130, e8_131, e8_134, e8_137, e8_138, e8_141, e8_142, e8_143, e8_145, e8_148, e8_151, e8_152, e8_154, e8_155, e8_158, e8_161, e8_164, e8_167, e8_170, kf_0, ik_1, ik_2, ik_3, kf_8, ik_9, kf_10, ik_11, ik_28, ik_29, kf_30, ik_31, ik_48, ik_49, kf_50, kf_51, ik_52, ik_53, ik_54, kf_55, kf_56, ik_57, kf_58, ik_59, ik_60, ik_61, ik_62, ik_63, ik_64, ik_65, ik_66, ik_67, ik_68, ik_69, ik_70, ik_71, ik_72, ik_73, ik_74, rq_0_0, rq_0_1, rq_0_2, rq_0_3, rq_0_4, rq_0_5, rq_0_6, rq_0_7, rq_0_8, rq_8_0, rq_10_0, rq_10_1, rq_10_2, rq_30_0, rq_30_1, rq_30_2, rq_50_0, rq_51_0, rq_51_1, rq_51_2, rq_51_3, rq_51_4, rq_51_5, rq_56_0, rq_56_1, rq_56_2, rq_58_1, rq_58_3, rq_58_4, rq_58_5, rq_58_7, rq_58_8, rq_58_11, rq_58_12, rq_58_13, rq_58_14, rq_58_15, rq_58_25, rq_58_26, rq_58_29, rq_58_30, rq_58_31, rq_3, rq_11, rq_31, rq_law, rv_s, cl_i, cl_r, cl_n, tl_s, tl_n, kont_some, le4_0, le4_1, le4_2, le4_3, le4_4, eq_self, or_true, true_or, and_true, true_and, mg_0, pg_0, mg_1, pg_1, mg_2, pg_2, mg_8, pg_8, mg_9, pg_9, mg_10, pg_10, mg_28, pg_28, mg_29, pg_29, mg_30, pg_30, mg_48, pg_48, mg_49, pg_49, mg_59, pg_59, mg_60, pg_60, mg_61, pg_61, mg_62, pg_62, mg_63, pg_63, mg_64, pg_64, mg_65, pg_65, mg_66, pg_66, mg_67, pg_67, mg_68, pg_68, mg_69, pg_69, mg_72, pg_72, mg_73, pg_73, mg_74, pg_74, ms_50, ps_50, ms_51, ps_51, ms_52, ps_52, ms_53, ps_53, ms_54, ps_54, ms_56, ps_56, ms_57, ps_57, ms_70, ps_70, ms_71, ps_71, mg_58_0, pg_58_0, mg_58_2, pg_58_2, mg_58_6, pg_58_6, mg_58_9, pg_58_9, mg_58_10, pg_58_10, ms_58_16, ps_58_16, ms_58_17, ps_58_17, ms_58_18, ps_58_18, ms_58_19, ps_58_19, ms_58_20, ps_58_20, ms_58_21, ps_58_21, ms_58_22, ps_58_22, ms_58_23, ps_58_23, ms_58_24, ps_58_24, ms_58_27, ps_58_27, ms_58_28, ps_58_28, mg_58_32, pg_58_32, mg_58_33, pg_58_33, f1, f2, f3, hn, nI_1, ↓reduceIte, o51, u51, ea, s101 f5, s15 _ hX.mix hi, hl, mq, s37, s16 hX hi hl hl5 (hw i hi).1 (hw i hi).2, bi_0, op1, toM, toS, asK, decide_eq_true_eq]
  by_cases hb : bt dk i = true
  · by_cases hk : G ql 0 = 110 ∨ G ql 0 = 98 <;> simp only [hb, hk, not_true_eq_false, not_false_eq_true, ↓reduceIte, e8_0, e8_1, e8_2, e8_5, e8_6, e8_7, e8_10, e8_11, e8_14, e8_17, e8_18, e8_20, e8_21, e8_24, e8_27, e8_30, e8_31, e8_34, e8_35, e8_38, e8_41, e8_42, e8_45, e8_46, e8_47, e8_48, e8_49, e8_52, e8_55, e8_56, e8_57, e8_60, e8_61, e8_62, e8_65, e8_68, e8_71, e8_72, e8_73, e8_76, e8_77, e8_80, e8_83, e8_84, e8_85, e8_86, e8_89, e8_90, e8_91, e8_92, e8_95, e8_98, e8_99, e8_101, e8_102, e8_105, e8_108, e8_111, e8_112, e8_116, e8_117, e8_120, e8_123, e8_126, e8_127, e8_130, e8_131, e8_134, e8_137, e8_138, e8_141, e8_142, e8_143, e8_145, e8_148, e8_151, e8_152, e8_154, e8_155, e8_158, e8_161, e8_164, e8_167, e8_170, kf_0, ik_1, ik_2, ik_3, kf_8, ik_9, kf_10, ik_11, ik_28, ik_29, kf_30, ik_31, ik_48, ik_49, kf_50, kf_51, ik_52, ik_53, ik_54, kf_55, kf_56, ik_57, kf_58, ik_59, ik_60, ik_61, ik_62, ik_63, ik_64, ik_65, ik_66, ik_67, ik_68, ik_69, ik_70, ik_71, ik_72, ik_73, ik_74, rq_0_0, rq_0_1, rq_0_2, rq_0_3, rq_0_4, rq_0_5, rq_0_6, rq_0_7, rq_0_8, rq_8_0, rq_10_0, rq_10_1, rq_10_2, rq_30_0, rq_30_1, rq_30_2, rq_50_0, rq_51_0, rq_51_1, rq_51_2, rq_51_3, rq_51_4, rq_51_5, rq_56_0, rq_56_1, rq_56_2, rq_58_1, rq_58_3, rq_58_4, rq_58_5, rq_58_7, rq_58_8, rq_58_11, rq_58_12, rq_58_13, rq_58_14, rq_58_15, rq_58_25, rq_58_26, rq_58_29, rq_58_30, rq_58_31, rq_3, rq_11, rq_31, rq_law, rv_s, cl_i, cl_r, cl_n, tl_s, tl_n, kont_some, le4_0, le4_1, le4_2, le4_3, le4_4, eq_self, or_true, true_or, and_true, true_and, mg_0, pg_0, mg_1, pg_1, mg_2, pg_2, mg_8, pg_8, mg_9, pg_9, mg_10, pg_10, mg_28, pg_28, mg_29, pg_29, mg_30, pg_30, mg_48, pg_48, mg_49, pg_49, mg_59, pg_59, mg_60, pg_60, mg_61, pg_61, mg_62, pg_62, mg_63, pg_63, mg_64, pg_64, mg_65, pg_65, mg_66, pg_66, mg_67, pg_67, mg_68, pg_68, mg_69, pg_69, mg_72, pg_72, mg_73, pg_73, mg_74, pg_74, ms_50, ps_50, ms_51, ps_51, ms_52, ps_52, ms_53, ps_53, ms_54, ps_54, ms_56, ps_56, ms_57, ps_57, ms_70, ps_70, ms_71, ps_71, mg_58_0, pg_58_0, mg_58_2, pg_58_2, mg_58_6, pg_58_6, mg_58_9, pg_58_9, mg_58_10, pg_58_10, ms_58_16, ps_58_16, ms_58_17, ps_58_17, ms_58_18, ps_58_18, ms_58_19, ps_58_19, ms_58_20, ps_58_20, ms_58_21, ps_58_21, ms_58_22, ps_58_22, ms_58_23, ps_58_23, ms_58_24, ps_58_24, ms_58_27, ps_58_27, ms_58_28, ps_58_28, mg_58_32, pg_58_32, mg_58_33, pg_58_33, f1, f2, f3, nI_1]
  · simp only [hb, not_false_eq_true, ↓reduceIte, Bool.false_eq_true]
theorem h8i (f : Int32) (hX : HX G n D) (hl : KF[ql]? = some (.inr 3)) (hl5 : ql < 50) (dk : Int32) (hdk : T 51 7 = dk) (hb : b < n) (B : Nat → Int32) : ev 8 114 [some (.ref (51 : Nat)), some (.ref ql), some (.int f), some (.int (nI b)), some (.int (nI 0))] [] KF (mix G (row54 T (op2i (G ql) D dk T b B 0))) J (RQ ql) = ev 8 114 [some (.ref (51 : Nat)), some (.ref ql), some (.int f), some (.int (nI b)), some (.int (nI n))] [] KF (mix G (row54 T (op2i (G ql) D dk T b B n))) J (RQ ql) := by
  refine iter (fun i => ev 8 114 [some (.ref (51 : Nat)), some (.ref ql), some (.int f), some (.int (nI b)), some (.int (nI i))] [] KF (mix G (row54 T (op2i (G ql) D dk T b B i))) J (RQ ql)) n (fun i hi => ?_)
  have h16 := hX.2.1
  have f1 := lt_nI hi (show n < 2147483648 by omega)
  have f2 := inb_nI (show i < 16 by omega) (show 16 < 2147483648 by omega)
  have f3 := cl_nI (show i < 2147483648 by omega)
  have f4 := kf_deed (show i < 16 by omega)
  have f5 : i < 32 := by omega
  have f6 : i < 16 := by omega
  have hn := hX.1
  have d0 := hX.2.2 i 0 hi (by omega)
  have d1 := hX.2.2 i 1 hi (by omega)
  have d2 := hX.2.2 i 2 hi (by omega)
  have d3 := hX.2.2 i 3 hi (by omega)
  have d4 := hX.2.2 i 4 hi (by omega)
  have d5 := hX.2.2 i 5 hi (by omega)
  have d6 := hX.2.2 i 6 hi (by omega)
  have d7 := hX.2.2 i 7 hi (by omega)
  have d8 := hX.2.2 i 8 hi (by omega)
  have d9 := hX.2.2 i 9 hi (by omega)
  have g2 := inb_nI (show b < 16 by omega) (show 16 < 2147483648 by omega)
  have g3 := cl_nI (show b < 2147483648 by omega)
  have g5 : b < 32 := by omega
  rw [e8_114]
  simp only [e8_0, e8_1, e8_2, e8_5, e8_6, e8_7, e8_10, e8_11, e8_14, e8_17, e8_18, e8_20, e8_21, e8_24, e8_27, e8_30, e8_31, e8_34, e8_35, e8_38, e8_41, e8_42, e8_45, e8_46, e8_47, e8_48, e8_49, e8_52, e8_55, e8_56, e8_57, e8_60, e8_61, e8_62, e8_65, e8_68, e8_71, e8_72, e8_73, e8_76, e8_77, e8_80, e8_83, e8_84, e8_85, e8_86, e8_89, e8_90, e8_91, e8_92, e8_95, e8_98, e8_99, e8_101, e8_102, e8_105, e8_108, e8_111, e8_112, e8_116, e8_117, e8_120, e8_123, e8_126, e8_127, e8_130, e8_131, e8_134, e8_137, e8_138, e8_141, e8_142, e8_143, e8_145, e8_148, e8_151, e8_152, e8_154, e8_155, e8_158, e8_161, e8_164, e8_167, e8_170, kf_0, ik_1, ik_2, ik_3, kf_8, ik_9, kf_10, ik_11, ik_28, ik_29, kf_30, ik_31, ik_48, ik_49, kf_50, kf_51, ik_52, ik_53, ik_54, kf_55, kf_56, ik_57, kf_58, ik_59, ik_60, ik_61, ik_62, ik_63, ik_64, ik_65, ik_66, ik_67, ik_68, ik_69, ik_70, ik_71, ik_72, ik_73, ik_74, rq_0_0, rq_0_1, rq_0_2, rq_0_3, rq_0_4, rq_0_5, rq_0_6, rq_0_7, rq_0_8, rq_8_0, rq_10_0, rq_10_1, rq_10_2, rq_30_0, rq_30_1, rq_30_2, rq_50_0, rq_51_0, rq_51_1, rq_51_2, rq_51_3, rq_51_4, rq_51_5, rq_56_0, rq_56_1, rq_56_2, rq_58_1, rq_58_3, rq_58_4, rq_58_5, rq_58_7, rq_58_8, rq_58_11, rq_58_12, rq_58_13, rq_58_14, rq_58_15, rq_58_25, rq_58_26, rq_58_29, rq_58_30, rq_58_31, rq_3, rq_11, rq_31, rq_law, rv_s, cl_i, cl_r, cl_n, tl_s, tl_n, kont_some, le4_0, le4_1, le4_2, le4_3, le4_4, eq_self, or_true, true_or, and_true, true_and, mg_0, pg_0, mg_1, pg_1, mg_2, pg_2, mg_8, pg_8, mg_9, pg_9, mg_10, pg_10, mg_28, pg_28, mg_29, pg_29, mg_30, pg_30, mg_48, pg_48, mg_49, pg_49, mg_59, pg_59, mg_60, pg_60, mg_61, pg_61, mg_62, pg_62, mg_63, pg_63, mg_64, pg_64, mg_65, pg_65, mg_66, pg_66, mg_67, pg_67, mg_68, pg_68, mg_69, pg_69, mg_72, pg_72, mg_73, pg_73, mg_74, pg_74, ms_50, ps_50, ms_51, ps_51, ms_52, ps_52, ms_53, ps_53, ms_54, ps_54, ms_56, ps_56, ms_57, ps_57, ms_70, ps_70, ms_71, ps_71, mg_58_0, pg_58_0, mg_58_2, pg_58_2, mg_58_6, pg_58_6, mg_58_9, pg_58_9, mg_58_10, pg_58_10, ms_58_16, ps_58_16, ms_58_17, ps_58_17, ms_58_18, ps_58_18, ms_58_19, ps_58_19, ms_58_20, ps_58_20, ms_58_21, ps_58_21, ms_58_22, ps_58_22, ms_58_23, ps_58_23, ms_58_24, ps_58_24, ms_58_27, ps_58_27, ms_58_28, ps_58_28, mg_58_32, pg_58_32, mg_58_33, pg_58_33, f1, g2, g3, hn, nI_1, ↓reduceIte, row54_51, row54_52, hdk, s101 f5, s101 g5, s9 hX hi hb hl hl5, bi_0, op2i]
  by_cases h1 : bt dk b = true <;> by_cases h2 : bt (T 52 b) i = true <;> simp only [h1, h2, not_true_eq_false, not_false_eq_true, ↓reduceIte, Bool.false_eq_true, and_self, and_true, and_false, false_and]
def j4 (n : Nat) : Nat → Option Value
  | 0 => none
  | _ + 1 => some (.int (nI n))
theorem h8o (f : Int32) (hX : HX G n D) (hl : KF[ql]? = some (.inr 3)) (hl5 : ql < 50) (dk : Int32) (hdk : T 51 7 = dk) (B : Nat → Int32) : ev 8 100 [some (.ref (51 : Nat)), some (.ref ql), some (.int f), some (.int (nI 0)), j4 n 0] [] KF (mix G (row54 T (op2 (G ql) D n dk T B 0))) J (RQ ql) = ev 8 100 [some (.ref (51 : Nat)), some (.ref ql), some (.int f), some (.int (nI n)), j4 n n] [] KF (mix G (row54 T (op2 (G ql) D n dk T B n))) J (RQ ql) := by
  refine iter (fun i => ev 8 100 [some (.ref (51 : Nat)), some (.ref ql), some (.int f), some (.int (nI i)), j4 n i] [] KF (mix G (row54 T (op2 (G ql) D n dk T B i))) J (RQ ql)) n (fun i hi => ?_)
  have h16 := hX.2.1
  have f1 := lt_nI hi (show n < 2147483648 by omega)
  have f2 := inb_nI (show i < 16 by omega) (show 16 < 2147483648 by omega)
  have f3 := cl_nI (show i < 2147483648 by omega)
  have f4 := kf_deed (show i < 16 by omega)
  have f5 : i < 32 := by omega
  have f6 : i < 16 := by omega
  have hn := hX.1
  have d0 := hX.2.2 i 0 hi (by omega)
  have d1 := hX.2.2 i 1 hi (by omega)
  have d2 := hX.2.2 i 2 hi (by omega)
  have d3 := hX.2.2 i 3 hi (by omega)
  have d4 := hX.2.2 i 4 hi (by omega)
  have d5 := hX.2.2 i 5 hi (by omega)
  have d6 := hX.2.2 i 6 hi (by omega)
  have d7 := hX.2.2 i 7 hi (by omega)
  have d8 := hX.2.2 i 8 hi (by omega)
  have d9 := hX.2.2 i 9 hi (by omega)
  rw [e8_100]
  simp only [e8_0, e8_1, e8_2, e8_5, e8_6, e8_7, e8_10, e8_11, e8_14, e8_17, e8_18, e8_20, e8_21, e8_24, e8_27, e8_30, e8_31, e8_34, e8_35, e8_38, e8_41, e8_42, e8_45, e8_46, e8_47, e8_48, e8_49, e8_52, e8_55, e8_56, e8_57, e8_60, e8_61, e8_62, e8_65, e8_68, e8_71, e8_72, e8_73, e8_76, e8_77, e8_80, e8_83, e8_84, e8_85, e8_86, e8_89, e8_90, e8_91, e8_92, e8_95, e8_98, e8_99, e8_101, e8_102, e8_105, e8_108, e8_111, e8_112, e8_116, e8_117, e8_120, e8_123, e8_126, e8_127, e8_130, e8_131, e8_134, e8_137, e8_138, e8_141, e8_142, e8_143, e8_145, e8_148, e8_151, e8_152, e8_154, e8_155, e8_158, e8_161, e8_164, e8_167, e8_170, kf_0, ik_1, ik_2, ik_3, kf_8, ik_9, kf_10, ik_11, ik_28, ik_29, kf_30, ik_31, ik_48, ik_49, kf_50, kf_51, ik_52, ik_53, ik_54, kf_55, kf_56, ik_57, kf_58, ik_59, ik_60, ik_61, ik_62, ik_63, ik_64, ik_65, ik_66, ik_67, ik_68, ik_69, ik_70, ik_71, ik_72, ik_73, ik_74, rq_0_0, rq_0_1, rq_0_2, rq_0_3, rq_0_4, rq_0_5, rq_0_6, rq_0_7, rq_0_8, rq_8_0, rq_10_0, rq_10_1, rq_10_2, rq_30_0, rq_30_1, rq_30_2, rq_50_0, rq_51_0, rq_51_1, rq_51_2, rq_51_3, rq_51_4, rq_51_5, rq_56_0, rq_56_1, rq_56_2, rq_58_1, rq_58_3, rq_58_4, rq_58_5, rq_58_7, rq_58_8, rq_58_11, rq_58_12, rq_58_13, rq_58_14, rq_58_15, rq_58_25, rq_58_26, rq_58_29, rq_58_30, rq_58_31, rq_3, rq_11, rq_31, rq_law, rv_s, cl_i, cl_r, cl_n, tl_s, tl_n, kont_some, le4_0, le4_1, le4_2, le4_3, le4_4, eq_self, or_true, true_or, and_true, true_and, mg_0, pg_0, mg_1, pg_1, mg_2, pg_2, mg_8, pg_8, mg_9, pg_9, mg_10, pg_10, mg_28, pg_28, mg_29, pg_29, mg_30, pg_30, mg_48, pg_48, mg_49, pg_49, mg_59, pg_59, mg_60, pg_60, mg_61, pg_61, mg_62, pg_62, mg_63, pg_63, mg_64, pg_64, mg_65, pg_65, mg_66, pg_66, mg_67, pg_67, mg_68, pg_68, mg_69, pg_69, mg_72, pg_72, mg_73, pg_73, mg_74, pg_74, ms_50, ps_50, ms_51, ps_51, ms_52, ps_52, ms_53, ps_53, ms_54, ps_54, ms_56, ps_56, ms_57, ps_57, ms_70, ps_70, ms_71, ps_71, mg_58_0, pg_58_0, mg_58_2, pg_58_2, mg_58_6, pg_58_6, mg_58_9, pg_58_9, mg_58_10, pg_58_10, ms_58_16, ps_58_16, ms_58_17, ps_58_17, ms_58_18, ps_58_18, ms_58_19, ps_58_19, ms_58_20, ps_58_20, ms_58_21, ps_58_21, ms_58_22, ps_58_22, ms_58_23, ps_58_23, ms_58_24, ps_58_24, ms_58_27, ps_58_27, ms_58_28, ps_58_28, mg_58_32, pg_58_32, mg_58_33, pg_58_33, f1, hn, ↓reduceIte]
  refine (h8i f hX hl hl5 dk hdk hi (op2 (G ql) D n dk T B i)).trans ?_
  rw [e8_114]
  simp only [e8_0, e8_1, e8_2, e8_5, e8_6, e8_7, e8_10, e8_11, e8_14, e8_17, e8_18, e8_20, e8_21, e8_24, e8_27, e8_30, e8_31, e8_34, e8_35, e8_38, e8_41, e8_42, e8_45, e8_46, e8_47, e8_48, e8_49, e8_52, e8_55, e8_56, e8_57, e8_60, e8_61, e8_62, e8_65, e8_68, e8_71, e8_72, e8_73, e8_76, e8_77, e8_80, e8_83, e8_84, e8_85, e8_86, e8_89, e8_90, e8_91, e8_92, e8_95, e8_98, e8_99, e8_101, e8_102, e8_105, e8_108, e8_111, e8_112, e8_116, e8_117, e8_120, e8_123, e8_126, e8_127, e8_130, e8_131, e8_134, e8_137, e8_138, e8_141, e8_142, e8_143, e8_145, e8_148, e8_151, e8_152, e8_154, e8_155, e8_158, e8_161, e8_164, e8_167, e8_170, kf_0, ik_1, ik_2, ik_3, kf_8, ik_9, kf_10, ik_11, ik_28, ik_29, kf_30, ik_31, ik_48, ik_49, kf_50, kf_51, ik_52, ik_53, ik_54, kf_55, kf_56, ik_57, kf_58, ik_59, ik_60, ik_61, ik_62, ik_63, ik_64, ik_65, ik_66, ik_67, ik_68, ik_69, ik_70, ik_71, ik_72, ik_73, ik_74, rq_0_0, rq_0_1, rq_0_2, rq_0_3, rq_0_4, rq_0_5, rq_0_6, rq_0_7, rq_0_8, rq_8_0, rq_10_0, rq_10_1, rq_10_2, rq_30_0, rq_30_1, rq_30_2, rq_50_0, rq_51_0, rq_51_1, rq_51_2, rq_51_3, rq_51_4, rq_51_5, rq_56_0, rq_56_1, rq_56_2, rq_58_1, rq_58_3, rq_58_4, rq_58_5, rq_58_7, rq_58_8, rq_58_11, rq_58_12, rq_58_13, rq_58_14, rq_58_15, rq_58_25, rq_58_26, rq_58_29, rq_58_30, rq_58_31, rq_3, rq_11, rq_31, rq_law, rv_s, cl_i, cl_r, cl_n, tl_s, tl_n, kont_some, le4_0, le4_1, le4_2, le4_3, le4_4, eq_self, or_true, true_or, and_true, true_and, mg_0, pg_0, mg_1, pg_1, mg_2, pg_2, mg_8, pg_8, mg_9, pg_9, mg_10, pg_10, mg_28, pg_28, mg_29, pg_29, mg_30, pg_30, mg_48, pg_48, mg_49, pg_49, mg_59, pg_59, mg_60, pg_60, mg_61, pg_61, mg_62, pg_62, mg_63, pg_63, mg_64, pg_64, mg_65, pg_65, mg_66, pg_66, mg_67, pg_67, mg_68, pg_68, mg_69, pg_69, mg_72, pg_72, mg_73, pg_73, mg_74, pg_74, ms_50, ps_50, ms_51, ps_51, ms_52, ps_52, ms_53, ps_53, ms_54, ps_54, ms_56, ps_56, ms_57, ps_57, ms_70, ps_70, ms_71, ps_71, mg_58_0, pg_58_0, mg_58_2, pg_58_2, mg_58_6, pg_58_6, mg_58_9, pg_58_9, mg_58_10, pg_58_10, ms_58_16, ps_58_16, ms_58_17, ps_58_17, ms_58_18, ps_58_18, ms_58_19, ps_58_19, ms_58_20, ps_58_20, ms_58_21, ps_58_21, ms_58_22, ps_58_22, ms_58_23, ps_58_23, ms_58_24, ps_58_24, ms_58_27, ps_58_27, ms_58_28, ps_58_28, mg_58_32, pg_58_32, mg_58_33, pg_58_33, hn, nI_1, Int32.lt_irrefl, ↓reduceIte, op2, j4]
theorem s8 (f : Int32) (hX : HX G n D) (hw : WFi D n) (hl : KF[ql]? = some (.inr 3)) (hl5 : ql < 50) : run 8 [.ref (51 : Nat), .ref ql, .int f] KF (mix G S) J (RQ q) = some ((KF, mix G (opn (G ql) D n (G 28) (G 29) (G 1) f S), J, RQ ql), none) := by
  rw [run_8]
  have hn := hX.1
  have ed : msk (fun j => fldB D f j) n = dkM D n f := rfl
  simp only [e8_0, e8_1, e8_2, e8_5, e8_6, e8_7, e8_10, e8_11, e8_14, e8_17, e8_18, e8_20, e8_21, e8_24, e8_27, e8_30, e8_31, e8_34, e8_35, e8_38, e8_41, e8_42, e8_45, e8_46, e8_47, e8_48, e8_49, e8_52, e8_55, e8_56, e8_57, e8_60, e8_61, e8_62, e8_65, e8_68, e8_71, e8_72, e8_73, e8_76, e8_77, e8_80, e8_83, e8_84, e8_85, e8_86, e8_89, e8_90, e8_91, e8_92, e8_95, e8_98, e8_99, e8_101, e8_102, e8_105, e8_108, e8_111, e8_112, e8_116, e8_117, e8_120, e8_123, e8_126, e8_127, e8_130, e8_131, e8_134, e8_137, e8_138, e8_141, e8_142, e8_143, e8_145, e8_148, e8_151, e8_152, e8_154, e8_155, e8_158, e8_161, e8_164, e8_167, e8_170, kf_0, ik_1, ik_2, ik_3, kf_8, ik_9, kf_10, ik_11, ik_28, ik_29, kf_30, ik_31, ik_48, ik_49, kf_50, kf_51, ik_52, ik_53, ik_54, kf_55, kf_56, ik_57, kf_58, ik_59, ik_60, ik_61, ik_62, ik_63, ik_64, ik_65, ik_66, ik_67, ik_68, ik_69, ik_70, ik_71, ik_72, ik_73, ik_74, rq_0_0, rq_0_1, rq_0_2, rq_0_3, rq_0_4, rq_0_5, rq_0_6, rq_0_7, rq_0_8, rq_8_0, rq_10_0, rq_10_1, rq_10_2, rq_30_0, rq_30_1, rq_30_2, rq_50_0, rq_51_0, rq_51_1, rq_51_2, rq_51_3, rq_51_4, rq_51_5, rq_56_0, rq_56_1, rq_56_2, rq_58_1, rq_58_3, rq_58_4, rq_58_5, rq_58_7, rq_58_8, rq_58_11, rq_58_12, rq_58_13, rq_58_14, rq_58_15, rq_58_25, rq_58_26, rq_58_29, rq_58_30, rq_58_31, rq_3, rq_11, rq_31, rq_law, rv_s, cl_i, cl_r, cl_n, tl_s, tl_n, kont_some, le4_0, le4_1, le4_2, le4_3, le4_4, eq_self, or_true, true_or, and_true, true_and, mg_0, pg_0, mg_1, pg_1, mg_2, pg_2, mg_8, pg_8, mg_9, pg_9, mg_10, pg_10, mg_28, pg_28, mg_29, pg_29, mg_30, pg_30, mg_48, pg_48, mg_49, pg_49, mg_59, pg_59, mg_60, pg_60, mg_61, pg_61, mg_62, pg_62, mg_63, pg_63, mg_64, pg_64, mg_65, pg_65, mg_66, pg_66, mg_67, pg_67, mg_68, pg_68, mg_69, pg_69, mg_72, pg_72, mg_73, pg_73, mg_74, pg_74, ms_50, ps_50, ms_51, ps_51, ms_52, ps_52, ms_53, ps_53, ms_54, ps_54, ms_56, ps_56, ms_57, ps_57, ms_70, ps_70, ms_71, ps_71, mg_58_0, pg_58_0, mg_58_2, pg_58_2, mg_58_6, pg_58_6, mg_58_9, pg_58_9, mg_58_10, pg_58_10, ms_58_16, ps_58_16, ms_58_17, ps_58_17, ms_58_18, ps_58_18, ms_58_19, ps_58_19, ms_58_20, ps_58_20, ms_58_21, ps_58_21, ms_58_22, ps_58_22, ms_58_23, ps_58_23, ms_58_24, ps_58_24, ms_58_27, ps_58_27, ms_58_28, ps_58_28, mg_58_32, pg_58_32, mg_58_33, pg_58_33, rq_put, s2 _ hX.mix, ed]
  have hdk : up2 S 51 7 (dkM D n f) 51 7 = dkM D n f := by simp [up2]
  refine (h8a f hX hw hl hl5 (dkM D n f) hdk).trans ?_
  rw [e8_19]
  simp only [e8_0, e8_1, e8_2, e8_5, e8_6, e8_7, e8_10, e8_11, e8_14, e8_17, e8_18, e8_20, e8_21, e8_24, e8_27, e8_30, e8_31, e8_34, e8_35, e8_38, e8_41, e8_42, e8_45, e8_46, e8_47, e8_48, e8_49, e8_52, e8_55, e8_56, e8_57, e8_60, e8_61, e8_62, e8_65, e8_68, e8_71, e8_72, e8_73, e8_76, e8_77, e8_80, e8_83, e8_84, e8_85, e8_86, e8_89, e8_90, e8_91, e8_92, e8_95, e8_98, e8_99, e8_101, e8_102, e8_105, e8_108, e8_111, e8_112, e8_116, e8_117, e8_120, e8_123, e8_126, e8_127, e8_130, e8_131, e8_134, e8_137, e8_138, e8_141, e8_142, e8_143, e8_145, e8_148, e8_151, e8_152, e8_154, e8_155, e8_158, e8_161, e8_164, e8_167, e8_170, kf_0, ik_1, ik_2, ik_3, kf_8, ik_9, kf_10, ik_11, ik_28, ik_29, kf_30, ik_31, ik_48, ik_49, kf_50, kf_51, ik_52, ik_53, ik_54, kf_55, kf_56, ik_57, kf_58, ik_59, ik_60, ik_61, ik_62, ik_63, ik_64, ik_65, ik_66, ik_67, ik_68, ik_69, ik_70, ik_71, ik_72, ik_73, ik_74, rq_0_0, rq_0_1, rq_0_2, rq_0_3, rq_0_4, rq_0_5, rq_0_6, rq_0_7, rq_0_8, rq_8_0, rq_10_0, rq_10_1, rq_10_2, rq_30_0, rq_30_1, rq_30_2, rq_50_0, rq_51_0, rq_51_1, rq_51_2, rq_51_3, rq_51_4, rq_51_5, rq_56_0, rq_56_1, rq_56_2, rq_58_1, rq_58_3, rq_58_4, rq_58_5, rq_58_7, rq_58_8, rq_58_11, rq_58_12, rq_58_13, rq_58_14, rq_58_15, rq_58_25, rq_58_26, rq_58_29, rq_58_30, rq_58_31, rq_3, rq_11, rq_31, rq_law, rv_s, cl_i, cl_r, cl_n, tl_s, tl_n, kont_some, le4_0, le4_1, le4_2, le4_3, le4_4, eq_self, or_true, true_or, and_true, true_and, mg_0, pg_0, mg_1, pg_1, mg_2, pg_2, mg_8, pg_8, mg_9, pg_9, mg_10, pg_10, mg_28, pg_28, mg_29, pg_29, mg_30, pg_30, mg_48, pg_48, mg_49, pg_49, mg_59, pg_59, mg_60, pg_60, mg_61, pg_61, mg_62, pg_62, mg_63, pg_63, mg_64, pg_64, mg_65, pg_65, mg_66, pg_66, mg_67, pg_67, mg_68, pg_68, mg_69, pg_69, mg_72, pg_72, mg_73, pg_73, mg_74, pg_74, ms_50, ps_50, ms_51, ps_51, ms_52, ps_52, ms_53, ps_53, ms_54, ps_54, ms_56, ps_56, ms_57, ps_57, ms_70, ps_70, ms_71, ps_71, mg_58_0, pg_58_0, mg_58_2, pg_58_2, mg_58_6, pg_58_6, mg_58_9, pg_58_9, mg_58_10, pg_58_10, ms_58_16, ps_58_16, ms_58_17, ps_58_17, ms_58_18, ps_58_18, ms_58_19, ps_58_19, ms_58_20, ps_58_20, ms_58_21, ps_58_21, ms_58_22, ps_58_22, ms_58_23, ps_58_23, ms_58_24, ps_58_24, ms_58_27, ps_58_27, ms_58_28, ps_58_28, mg_58_32, pg_58_32, mg_58_33, pg_58_33, hn, Int32.lt_irrefl, ↓reduceIte]
  have hT : op1 (G ql) D n (G 28) (G 29) (G 1) (dkM D n f) (up2 S 51 7 (dkM D n f)) n 51 7 = dkM D n f := by rw [op1_ne (by omega) (by omega) (by omega) (by omega)]; exact hdk
  have h := h8o (J := J) (T := op1 (G ql) D n (G 28) (G 29) (G 1) (dkM D n f) (up2 S 51 7 (dkM D n f)) n) f hX hl hl5 (dkM D n f) hT (op1 (G ql) D n (G 28) (G 29) (G 1) (dkM D n f) (up2 S 51 7 (dkM D n f)) n 54)
  rw [show op2 (G ql) D n (dkM D n f) (op1 (G ql) D n (G 28) (G 29) (G 1) (dkM D n f) (up2 S 51 7 (dkM D n f)) n) (op1 (G ql) D n (G 28) (G 29) (G 1) (dkM D n f) (up2 S 51 7 (dkM D n f)) n 54) 0 = op1 (G ql) D n (G 28) (G 29) (G 1) (dkM D n f) (up2 S 51 7 (dkM D n f)) n 54 from rfl, row54_self] at h
  refine h.trans ?_
  rw [e8_100]
  simp only [e8_0, e8_1, e8_2, e8_5, e8_6, e8_7, e8_10, e8_11, e8_14, e8_17, e8_18, e8_20, e8_21, e8_24, e8_27, e8_30, e8_31, e8_34, e8_35, e8_38, e8_41, e8_42, e8_45, e8_46, e8_47, e8_48, e8_49, e8_52, e8_55, e8_56, e8_57, e8_60, e8_61, e8_62, e8_65, e8_68, e8_71, e8_72, e8_73, e8_76, e8_77, e8_80, e8_83, e8_84, e8_85, e8_86, e8_89, e8_90, e8_91, e8_92, e8_95, e8_98, e8_99, e8_101, e8_102, e8_105, e8_108, e8_111, e8_112, e8_116, e8_117, e8_120, e8_123, e8_126, e8_127, e8_130, e8_131, e8_134, e8_137, e8_138, e8_141, e8_142, e8_143, e8_145, e8_148, e8_151, e8_152, e8_154, e8_155, e8_158, e8_161, e8_164, e8_167, e8_170, kf_0, ik_1, ik_2, ik_3, kf_8, ik_9, kf_10, ik_11, ik_28, ik_29, kf_30, ik_31, ik_48, ik_49, kf_50, kf_51, ik_52, ik_53, ik_54, kf_55, kf_56, ik_57, kf_58, ik_59, ik_60, ik_61, ik_62, ik_63, ik_64, ik_65, ik_66, ik_67, ik_68, ik_69, ik_70, ik_71, ik_72, ik_73, ik_74, rq_0_0, rq_0_1, rq_0_2, rq_0_3, rq_0_4, rq_0_5, rq_0_6, rq_0_7, rq_0_8, rq_8_0, rq_10_0, rq_10_1, rq_10_2, rq_30_0, rq_30_1, rq_30_2, rq_50_0, rq_51_0, rq_51_1, rq_51_2, rq_51_3, rq_51_4, rq_51_5, rq_56_0, rq_56_1, rq_56_2, rq_58_1, rq_58_3, rq_58_4, rq_58_5, rq_58_7, rq_58_8, rq_58_11, rq_58_12, rq_58_13, rq_58_14, rq_58_15, rq_58_25, rq_58_26, rq_58_29, rq_58_30, rq_58_31, rq_3, rq_11, rq_31, rq_law, rv_s, cl_i, cl_r, cl_n, tl_s, tl_n, kont_some, le4_0, le4_1, le4_2, le4_3, le4_4, eq_self, or_true, true_or, and_true, true_and, mg_0, pg_0, mg_1, pg_1, mg_2, pg_2, mg_8, pg_8, mg_9, pg_9, mg_10, pg_10, mg_28, pg_28, mg_29, pg_29, mg_30, pg_30, mg_48, pg_48, mg_49, pg_49, mg_59, pg_59, mg_60, pg_60, mg_61, pg_61, mg_62, pg_62, mg_63, pg_63, mg_64, pg_64, mg_65, pg_65, mg_66, pg_66, mg_67, pg_67, mg_68, pg_68, mg_69, pg_69, mg_72, pg_72, mg_73, pg_73, mg_74, pg_74, ms_50, ps_50, ms_51, ps_51, ms_52, ps_52, ms_53, ps_53, ms_54, ps_54, ms_56, ps_56, ms_57, ps_57, ms_70, ps_70, ms_71, ps_71, mg_58_0, pg_58_0, mg_58_2, pg_58_2, mg_58_6, pg_58_6, mg_58_9, pg_58_9, mg_58_10, pg_58_10, ms_58_16, ps_58_16, ms_58_17, ps_58_17, ms_58_18, ps_58_18, ms_58_19, ps_58_19, ms_58_20, ps_58_20, ms_58_21, ps_58_21, ms_58_22, ps_58_22, ms_58_23, ps_58_23, ms_58_24, ps_58_24, ms_58_27, ps_58_27, ms_58_28, ps_58_28, mg_58_32, pg_58_32, mg_58_33, pg_58_33, hn, Int32.lt_irrefl, ↓reduceIte]
  rfl
end OPEN
