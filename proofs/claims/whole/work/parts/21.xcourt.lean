/-! the Court: what one is told, which of two prevails -/
def entC (days : Int32) (D : DT) (j : Nat) : Int32 := if ¬ D j 5 = -1 ∧ ¬ days < D j 5 - D j 4 then D j 5 else 1000
def eaB (days : Int32) (D : DT) (b a : Nat) : Bool := decide (entC days D b < entC days D a ∨ (entC days D b = entC days D a ∧ ¬ entC days D b = 1000 ∧ b < a))
def payB (g : Int32) (D : DT) (j : Nat) : Bool := decide (¬ g = 0 ∨ (D j 0 = 1 ∨ D j 0 = 4 ∨ D j 0 = 3))
def innB (g : Int32) (D : DT) (t : Int32) (a b : Nat) : Bool := payB g D b && !(bt (D b 9 ||| t) a)
def asE (o : Int32) : Bool := decide (o = 101 ∨ o = 98)
def asK (o : Int32) : Bool := decide (o = 110 ∨ o = 98)
/-- a made ahead of b: does b prevail; w: the law, t: what b was told -/
def ovrB (w : Nat → Int32) (D : DT) (t : Int32) (a b : Nat) : Bool := (!asE (w 0) || eaB (w 4) D b a) && (!asK (w 0) || innB (w 3) D t a b) && (asE (w 0) || asK (w 0))
section COURT
variable {G S : SG} {J : SJ} {q n c : Nat} {D : DT}
theorem s12 (hc : KF[c]? = some (.inr 2)) (hq : KF[q]? = some (.inr 3)) : run 12 [.ref (51 : Nat), .ref c] KF G J (RQ q) = some ((KF, G, J, RQ q), some (.int (if ¬ G c 5 = -1 ∧ ¬ G q 4 < G c 5 - G c 4 then G c 5 else 1000))) := by
  rw [run_12]
  simp only [e12_0, e12_1, e12_4, e12_5, e12_8, e12_9, e12_12, e12_13, e12_16, e12_17, e12_18, e12_21, e12_24, e12_27, e12_28, e12_31, e12_32, e12_33, e12_34, e12_37, e12_38, e12_41, e12_44, e12_47, kf_0, ik_1, ik_2, ik_3, kf_8, ik_9, kf_10, ik_11, ik_28, ik_29, kf_30, ik_31, ik_48, ik_49, kf_50, kf_51, ik_52, ik_53, ik_54, kf_55, kf_56, ik_57, kf_58, ik_59, ik_60, ik_61, ik_62, ik_63, ik_64, ik_65, ik_66, ik_67, ik_68, ik_69, ik_70, ik_71, ik_72, ik_73, ik_74, rq_0_0, rq_0_1, rq_0_2, rq_0_3, rq_0_4, rq_0_5, rq_0_6, rq_0_7, rq_0_8, rq_8_0, rq_10_0, rq_10_1, rq_10_2, rq_30_0, rq_30_1, rq_30_2, rq_50_0, rq_51_0, rq_51_1, rq_51_2, rq_51_3, rq_51_4, rq_51_5, rq_56_0, rq_56_1, rq_56_2, rq_58_1, rq_58_3, rq_58_4, rq_58_5, rq_58_7, rq_58_8, rq_58_11, rq_58_12, rq_58_13, rq_58_14, rq_58_15, rq_58_25, rq_58_26, rq_58_29, rq_58_30, rq_58_31, rq_3, rq_11, rq_31, rq_law, rv_s, cl_i, cl_r, cl_n, tl_s, tl_n, kont_some, le4_0, le4_1, le4_2, le4_3, le4_4, eq_self, or_true, true_or, and_true, true_and, hc, hq]
  by_cases h1 : G c 5 = -1 <;> by_cases h2 : G q 4 < G c 5 - G c 4 <;> simp only [h1, h2, ↓reduceIte, e12_0, e12_1, e12_4, e12_5, e12_8, e12_9, e12_12, e12_13, e12_16, e12_17, e12_18, e12_21, e12_24, e12_27, e12_28, e12_31, e12_32, e12_33, e12_34, e12_37, e12_38, e12_41, e12_44, e12_47, kf_0, ik_1, ik_2, ik_3, kf_8, ik_9, kf_10, ik_11, ik_28, ik_29, kf_30, ik_31, ik_48, ik_49, kf_50, kf_51, ik_52, ik_53, ik_54, kf_55, kf_56, ik_57, kf_58, ik_59, ik_60, ik_61, ik_62, ik_63, ik_64, ik_65, ik_66, ik_67, ik_68, ik_69, ik_70, ik_71, ik_72, ik_73, ik_74, rq_0_0, rq_0_1, rq_0_2, rq_0_3, rq_0_4, rq_0_5, rq_0_6, rq_0_7, rq_0_8, rq_8_0, rq_10_0, rq_10_1, rq_10_2, rq_30_0, rq_30_1, rq_30_2, rq_50_0, rq_51_0, rq_51_1, rq_51_2, rq_51_3, rq_51_4, rq_51_5, rq_56_0, rq_56_1, rq_56_2, rq_58_1, rq_58_3, rq_58_4, rq_58_5, rq_58_7, rq_58_8, rq_58_11, rq_58_12, rq_58_13, rq_58_14, rq_58_15, rq_58_25, rq_58_26, rq_58_29, rq_58_30, rq_58_31, rq_3, rq_11, rq_31, rq_law, rv_s, cl_i, cl_r, cl_n, tl_s, tl_n, kont_some, le4_0, le4_1, le4_2, le4_3, le4_4, eq_self, or_true, true_or, and_true, true_and, hc, hq, not_true_eq_false, not_false_eq_true, false_and, and_false, and_self, show ¬ ((1 : Int32) = 0) by decide]
theorem s11 {a b : Nat} (hX : HX G n D) (ha : a < n) (hb : b < n) (hq : KF[q]? = some (.inr 3)) : run 11 [.ref (51 : Nat), .int (nI b), .int (nI a)] KF G J (RQ q) = some ((KF, G, J, RQ q), some (.int (bi (eaB (G q 4) D b a = true)))) := by
  rw [run_11]
  have h16 := hX.2.1
  have fa := inb_nI (show a < 16 by omega) (show 16 < 2147483648 by omega)
  have fb := inb_nI (show b < 16 by omega) (show 16 < 2147483648 by omega)
  have ga := cl_nI (show a < 2147483648 by omega)
  have gb := cl_nI (show b < 2147483648 by omega)
  have ka := kf_deed (show a < 16 by omega)
  have kb := kf_deed (show b < 16 by omega)
  have da4 := hX.2.2 a 4 ha (by omega)
  have db4 := hX.2.2 b 4 hb (by omega)
  have da5 := hX.2.2 a 5 ha (by omega)
  have db5 := hX.2.2 b 5 hb (by omega)
  have ea : (if ¬ D a 5 = -1 ∧ ¬ G q 4 < D a 5 - D a 4 then D a 5 else 1000) = entC (G q 4) D a := rfl
  have eb : (if ¬ D b 5 = -1 ∧ ¬ G q 4 < D b 5 - D b 4 then D b 5 else 1000) = entC (G q 4) D b := rfl
  have hab : (nI b < nI a) = (b < a) := propext (nI_ltI (by omega) (by omega))
  simp only [e11_0, e11_1, e11_2, e11_5, e11_8, e11_9, e11_10, e11_13, e11_14, e11_15, e11_16, e11_19, e11_22, e11_23, e11_24, e11_27, e11_29, e11_30, e11_32, e11_35, e11_36, e11_38, e11_41, e11_42, e11_45, e11_48, e11_49, e11_50, e11_53, e11_54, e11_57, e11_58, kf_0, ik_1, ik_2, ik_3, kf_8, ik_9, kf_10, ik_11, ik_28, ik_29, kf_30, ik_31, ik_48, ik_49, kf_50, kf_51, ik_52, ik_53, ik_54, kf_55, kf_56, ik_57, kf_58, ik_59, ik_60, ik_61, ik_62, ik_63, ik_64, ik_65, ik_66, ik_67, ik_68, ik_69, ik_70, ik_71, ik_72, ik_73, ik_74, rq_0_0, rq_0_1, rq_0_2, rq_0_3, rq_0_4, rq_0_5, rq_0_6, rq_0_7, rq_0_8, rq_8_0, rq_10_0, rq_10_1, rq_10_2, rq_30_0, rq_30_1, rq_30_2, rq_50_0, rq_51_0, rq_51_1, rq_51_2, rq_51_3, rq_51_4, rq_51_5, rq_56_0, rq_56_1, rq_56_2, rq_58_1, rq_58_3, rq_58_4, rq_58_5, rq_58_7, rq_58_8, rq_58_11, rq_58_12, rq_58_13, rq_58_14, rq_58_15, rq_58_25, rq_58_26, rq_58_29, rq_58_30, rq_58_31, rq_3, rq_11, rq_31, rq_law, rv_s, cl_i, cl_r, cl_n, tl_s, tl_n, kont_some, le4_0, le4_1, le4_2, le4_3, le4_4, eq_self, or_true, true_or, and_true, true_and, fa, fb, ga, gb, s12 ka hq, s12 kb hq, da4, da5, db4, db5, ea, eb, hab, bi, eaB, decide_eq_true_eq]
  generalize entC (G q 4) D b = x
  generalize entC (G q 4) D a = y
  by_cases h1 : x < y
  · simp only [h1, ↓reduceIte, true_or]
  by_cases h2 : x = y
  · subst h2
    by_cases h3 : x = 1000 <;> by_cases h4 : b < a <;> simp only [h3, h4, Int32.lt_irrefl, ↓reduceIte, not_true_eq_false, not_false_eq_true, and_true, and_false, false_and, or_false, true_and, false_or]
  · simp only [h1, h2, ↓reduceIte, false_and, or_false]
theorem s13 {a b : Nat} (hX : HX G n D) (ha : a < n) (hb : b < n) (hq : KF[q]? = some (.inr 3)) : run 13 [.ref (51 : Nat), .int (nI a), .int (nI b)] KF G J (RQ q) = some ((KF, G, J, RQ q), some (.int (bi (innB (G q 3) D (G 53 b) a b = true)))) := by
  rw [run_13]
  have h16 := hX.2.1
  have fb := inb_nI (show b < 16 by omega) (show 16 < 2147483648 by omega)
  have gb := cl_nI (show b < 2147483648 by omega)
  have kb := kf_deed (show b < 16 by omega)
  have f5 : a < 32 := by omega
  have db0 := hX.2.2 b 0 hb (by omega)
  have db9 := hX.2.2 b 9 hb (by omega)
  simp only [e13_0, e13_1, e13_4, e13_7, e13_8, e13_9, e13_10, e13_11, e13_14, e13_17, e13_20, e13_21, e13_24, e13_27, e13_28, e13_31, e13_32, e13_35, e13_36, e13_37, e13_38, e13_39, e13_42, e13_45, e13_46, e13_49, e13_50, kf_0, ik_1, ik_2, ik_3, kf_8, ik_9, kf_10, ik_11, ik_28, ik_29, kf_30, ik_31, ik_48, ik_49, kf_50, kf_51, ik_52, ik_53, ik_54, kf_55, kf_56, ik_57, kf_58, ik_59, ik_60, ik_61, ik_62, ik_63, ik_64, ik_65, ik_66, ik_67, ik_68, ik_69, ik_70, ik_71, ik_72, ik_73, ik_74, rq_0_0, rq_0_1, rq_0_2, rq_0_3, rq_0_4, rq_0_5, rq_0_6, rq_0_7, rq_0_8, rq_8_0, rq_10_0, rq_10_1, rq_10_2, rq_30_0, rq_30_1, rq_30_2, rq_50_0, rq_51_0, rq_51_1, rq_51_2, rq_51_3, rq_51_4, rq_51_5, rq_56_0, rq_56_1, rq_56_2, rq_58_1, rq_58_3, rq_58_4, rq_58_5, rq_58_7, rq_58_8, rq_58_11, rq_58_12, rq_58_13, rq_58_14, rq_58_15, rq_58_25, rq_58_26, rq_58_29, rq_58_30, rq_58_31, rq_3, rq_11, rq_31, rq_law, rv_s, cl_i, cl_r, cl_n, tl_s, tl_n, kont_some, le4_0, le4_1, le4_2, le4_3, le4_4, eq_self, or_true, true_or, and_true, true_and, fb, gb, kb, hq, s30, s101 f5, db0, db9, bi_0, bi, innB, payB, decide_eq_true_eq, Bool.and_eq_true, Bool.not_eq_true']
  by_cases h1 : G q 3 = 0 <;> by_cases h2 : D b 0 = 1 ∨ D b 0 = 4 ∨ D b 0 = 3 <;> by_cases h3 : bt (D b 9 ||| G 53 b) a = true <;> simp [h1, h2, h3]
theorem s10 {a b : Nat} (hX : HX G n D) (ha : a < n) (hb : b < n) (hq : KF[q]? = some (.inr 3)) : run 10 [.ref (51 : Nat), .int (nI a), .int (nI b)] KF G J (RQ q) = some ((KF, G, J, RQ q), some (.int (bi (ovrB (G q) D (G 53 b) a b = true)))) := by
  rw [run_10]
  simp only [e10_0, e10_1, e10_4, e10_7, e10_10, e10_11, e10_12, e10_13, e10_16, e10_19, e10_20, e10_21, e10_22, e10_25, e10_28, e10_31, e10_32, e10_33, e10_34, e10_37, e10_40, e10_41, e10_42, e10_43, e10_46, e10_49, e10_52, e10_53, e10_56, e10_59, e10_62, e10_63, e10_66, e10_67, kf_0, ik_1, ik_2, ik_3, kf_8, ik_9, kf_10, ik_11, ik_28, ik_29, kf_30, ik_31, ik_48, ik_49, kf_50, kf_51, ik_52, ik_53, ik_54, kf_55, kf_56, ik_57, kf_58, ik_59, ik_60, ik_61, ik_62, ik_63, ik_64, ik_65, ik_66, ik_67, ik_68, ik_69, ik_70, ik_71, ik_72, ik_73, ik_74, rq_0_0, rq_0_1, rq_0_2, rq_0_3, rq_0_4, rq_0_5, rq_0_6, rq_0_7, rq_0_8, rq_8_0, rq_10_0, rq_10_1, rq_10_2, rq_30_0, rq_30_1, rq_30_2, rq_50_0, rq_51_0, rq_51_1, rq_51_2, rq_51_3, rq_51_4, rq_51_5, rq_56_0, rq_56_1, rq_56_2, rq_58_1, rq_58_3, rq_58_4, rq_58_5, rq_58_7, rq_58_8, rq_58_11, rq_58_12, rq_58_13, rq_58_14, rq_58_15, rq_58_25, rq_58_26, rq_58_29, rq_58_30, rq_58_31, rq_3, rq_11, rq_31, rq_law, rv_s, cl_i, cl_r, cl_n, tl_s, tl_n, kont_some, le4_0, le4_1, le4_2, le4_3, le4_4, eq_self, or_true, true_or, and_true, true_and, hq, s36, s37, s11 hX ha hb hq, s13 hX ha hb hq, bi_0, bi, ovrB, asE, asK, Bool.and_eq_true, Bool.or_eq_true, Bool.not_eq_true', decide_eq_true_eq, decide_eq_false_iff_not]
  by_cases h1 : G q 0 = 101 ∨ G q 0 = 98 <;> by_cases h2 : G q 0 = 110 ∨ G q 0 = 98 <;> by_cases h3 : eaB (G q 4) D b a = true <;> by_cases h4 : innB (G q 3) D (G 53 b) a b = true <;> simp [h1, h2, h3, h4]
/-- what settle does to the rows of beaters -/
def setB (B : Nat → Int32) (o : Bool) (a b : Nat) : Nat → Int32 := if o = true then upd (upd B a (B a ||| b1 b)) b (upd B a (B a ||| b1 b) b &&& (b1 a ^^^ -1)) else upd (upd B a (B a &&& (b1 b ^^^ -1))) b (upd B a (B a &&& (b1 b ^^^ -1)) b ||| b1 a)
def row54 (S : SG) (B : Nat → Int32) : SG := fun c s => if c = 54 then B s else S c s
theorem row54_54 (S : SG) (B : Nat → Int32) (s : Nat) : row54 S B 54 s = B s := id rfl
theorem row54_53 (S : SG) (B : Nat → Int32) (s : Nat) : row54 S B 53 s = S 53 s := id rfl
theorem row54_52 (S : SG) (B : Nat → Int32) (s : Nat) : row54 S B 52 s = S 52 s := id rfl
theorem row54_51 (S : SG) (B : Nat → Int32) (s : Nat) : row54 S B 51 s = S 51 s := id rfl
theorem row54_p (S : SG) (B : Nat → Int32) (s : Nat) (v : Int32) : up2 (row54 S B) 54 s v = row54 S (upd B s v) := by
  funext c t
  by_cases h : c = 54 <;> simp [up2, row54, upd, h]
theorem row54_self (S : SG) : row54 S (S 54) = S := by
  funext c t
  by_cases h : c = 54 <;> simp [row54, h]
theorem s9 {a b : Nat} {B : Nat → Int32} (hX : HX G n D) (ha : a < n) (hb : b < n) (hq : KF[q]? = some (.inr 3)) (hq5 : q < 50) : run 9 [.ref (51 : Nat), .int (nI a), .int (nI b)] KF (mix G (row54 S B)) J (RQ q) = some ((KF, mix G (row54 S (setB B (ovrB (G q) D (S 53 b) a b) a b)), J, RQ q), none) := by
  rw [run_9]
  have h16 := hX.2.1
  have fa := inb_nI (show a < 16 by omega) (show 16 < 2147483648 by omega)
  have fb := inb_nI (show b < 16 by omega) (show 16 < 2147483648 by omega)
  have ga := cl_nI (show a < 2147483648 by omega)
  have gb := cl_nI (show b < 2147483648 by omega)
  have eq9 : mix G (row54 S B) q = G q := by
    funext s
    exact mix_low hq5
  simp only [e9_0, e9_1, e9_2, e9_3, e9_6, e9_9, e9_10, e9_13, e9_14, e9_15, e9_16, e9_17, e9_20, e9_21, e9_22, e9_23, e9_26, e9_27, e9_28, e9_29, e9_30, e9_33, e9_34, e9_35, e9_36, e9_37, e9_40, e9_41, e9_44, e9_45, e9_46, e9_47, e9_48, e9_51, e9_52, e9_53, e9_54, e9_55, e9_56, e9_59, e9_60, e9_61, e9_62, e9_63, e9_66, e9_67, e9_68, kf_0, ik_1, ik_2, ik_3, kf_8, ik_9, kf_10, ik_11, ik_28, ik_29, kf_30, ik_31, ik_48, ik_49, kf_50, kf_51, ik_52, ik_53, ik_54, kf_55, kf_56, ik_57, kf_58, ik_59, ik_60, ik_61, ik_62, ik_63, ik_64, ik_65, ik_66, ik_67, ik_68, ik_69, ik_70, ik_71, ik_72, ik_73, ik_74, rq_0_0, rq_0_1, rq_0_2, rq_0_3, rq_0_4, rq_0_5, rq_0_6, rq_0_7, rq_0_8, rq_8_0, rq_10_0, rq_10_1, rq_10_2, rq_30_0, rq_30_1, rq_30_2, rq_50_0, rq_51_0, rq_51_1, rq_51_2, rq_51_3, rq_51_4, rq_51_5, rq_56_0, rq_56_1, rq_56_2, rq_58_1, rq_58_3, rq_58_4, rq_58_5, rq_58_7, rq_58_8, rq_58_11, rq_58_12, rq_58_13, rq_58_14, rq_58_15, rq_58_25, rq_58_26, rq_58_29, rq_58_30, rq_58_31, rq_3, rq_11, rq_31, rq_law, rv_s, cl_i, cl_r, cl_n, tl_s, tl_n, kont_some, le4_0, le4_1, le4_2, le4_3, le4_4, eq_self, or_true, true_or, and_true, true_and, s10 hX.mix ha hb hq, eq9, ms_53, row54_53, bi_0]
  by_cases ho : ovrB (G q) D (S 53 b) a b = true
  · simp only [ho, not_true_eq_false, ↓reduceIte, e9_0, e9_1, e9_2, e9_3, e9_6, e9_9, e9_10, e9_13, e9_14, e9_15, e9_16, e9_17, e9_20, e9_21, e9_22, e9_23, e9_26, e9_27, e9_28, e9_29, e9_30, e9_33, e9_34, e9_35, e9_36, e9_37, e9_40, e9_41, e9_44, e9_45, e9_46, e9_47, e9_48, e9_51, e9_52, e9_53, e9_54, e9_55, e9_56, e9_59, e9_60, e9_61, e9_62, e9_63, e9_66, e9_67, e9_68, kf_0, ik_1, ik_2, ik_3, kf_8, ik_9, kf_10, ik_11, ik_28, ik_29, kf_30, ik_31, ik_48, ik_49, kf_50, kf_51, ik_52, ik_53, ik_54, kf_55, kf_56, ik_57, kf_58, ik_59, ik_60, ik_61, ik_62, ik_63, ik_64, ik_65, ik_66, ik_67, ik_68, ik_69, ik_70, ik_71, ik_72, ik_73, ik_74, rq_0_0, rq_0_1, rq_0_2, rq_0_3, rq_0_4, rq_0_5, rq_0_6, rq_0_7, rq_0_8, rq_8_0, rq_10_0, rq_10_1, rq_10_2, rq_30_0, rq_30_1, rq_30_2, rq_50_0, rq_51_0, rq_51_1, rq_51_2, rq_51_3, rq_51_4, rq_51_5, rq_56_0, rq_56_1, rq_56_2, rq_58_1, rq_58_3, rq_58_4, rq_58_5, rq_58_7, rq_58_8, rq_58_11, rq_58_12, rq_58_13, rq_58_14, rq_58_15, rq_58_25, rq_58_26, rq_58_29, rq_58_30, rq_58_31, rq_3, rq_11, rq_31, rq_law, rv_s, cl_i, cl_r, cl_n, tl_s, tl_n, kont_some, le4_0, le4_1, le4_2, le4_3, le4_4, eq_self, or_true, true_or, and_true, true_and, mg_0, pg_0, mg_1, pg_1, mg_2, pg_2, mg_8, pg_8, mg_9, pg_9, mg_10, pg_10, mg_28, pg_28, mg_29, pg_29, mg_30, pg_30, mg_48, pg_48, mg_49, pg_49, mg_59, pg_59, mg_60, pg_60, mg_61, pg_61, mg_62, pg_62, mg_63, pg_63, mg_64, pg_64, mg_65, pg_65, mg_66, pg_66, mg_67, pg_67, mg_68, pg_68, mg_69, pg_69, mg_72, pg_72, mg_73, pg_73, mg_74, pg_74, ms_50, ps_50, ms_51, ps_51, ms_52, ps_52, ms_53, ps_53, ms_54, ps_54, ms_56, ps_56, ms_57, ps_57, ms_70, ps_70, ms_71, ps_71, mg_58_0, pg_58_0, mg_58_2, pg_58_2, mg_58_6, pg_58_6, mg_58_9, pg_58_9, mg_58_10, pg_58_10, ms_58_16, ps_58_16, ms_58_17, ps_58_17, ms_58_18, ps_58_18, ms_58_19, ps_58_19, ms_58_20, ps_58_20, ms_58_21, ps_58_21, ms_58_22, ps_58_22, ms_58_23, ps_58_23, ms_58_24, ps_58_24, ms_58_27, ps_58_27, ms_58_28, ps_58_28, mg_58_32, pg_58_32, mg_58_33, pg_58_33, fa, fb, ga, gb, s100, b1_eq, row54_54, row54_p, setB]
  · simp only [ho, Bool.false_eq_true, not_false_eq_true, ↓reduceIte, e9_0, e9_1, e9_2, e9_3, e9_6, e9_9, e9_10, e9_13, e9_14, e9_15, e9_16, e9_17, e9_20, e9_21, e9_22, e9_23, e9_26, e9_27, e9_28, e9_29, e9_30, e9_33, e9_34, e9_35, e9_36, e9_37, e9_40, e9_41, e9_44, e9_45, e9_46, e9_47, e9_48, e9_51, e9_52, e9_53, e9_54, e9_55, e9_56, e9_59, e9_60, e9_61, e9_62, e9_63, e9_66, e9_67, e9_68, kf_0, ik_1, ik_2, ik_3, kf_8, ik_9, kf_10, ik_11, ik_28, ik_29, kf_30, ik_31, ik_48, ik_49, kf_50, kf_51, ik_52, ik_53, ik_54, kf_55, kf_56, ik_57, kf_58, ik_59, ik_60, ik_61, ik_62, ik_63, ik_64, ik_65, ik_66, ik_67, ik_68, ik_69, ik_70, ik_71, ik_72, ik_73, ik_74, rq_0_0, rq_0_1, rq_0_2, rq_0_3, rq_0_4, rq_0_5, rq_0_6, rq_0_7, rq_0_8, rq_8_0, rq_10_0, rq_10_1, rq_10_2, rq_30_0, rq_30_1, rq_30_2, rq_50_0, rq_51_0, rq_51_1, rq_51_2, rq_51_3, rq_51_4, rq_51_5, rq_56_0, rq_56_1, rq_56_2, rq_58_1, rq_58_3, rq_58_4, rq_58_5, rq_58_7, rq_58_8, rq_58_11, rq_58_12, rq_58_13, rq_58_14, rq_58_15, rq_58_25, rq_58_26, rq_58_29, rq_58_30, rq_58_31, rq_3, rq_11, rq_31, rq_law, rv_s, cl_i, cl_r, cl_n, tl_s, tl_n, kont_some, le4_0, le4_1, le4_2, le4_3, le4_4, eq_self, or_true, true_or, and_true, true_and, mg_0, pg_0, mg_1, pg_1, mg_2, pg_2, mg_8, pg_8, mg_9, pg_9, mg_10, pg_10, mg_28, pg_28, mg_29, pg_29, mg_30, pg_30, mg_48, pg_48, mg_49, pg_49, mg_59, pg_59, mg_60, pg_60, mg_61, pg_61, mg_62, pg_62, mg_63, pg_63, mg_64, pg_64, mg_65, pg_65, mg_66, pg_66, mg_67, pg_67, mg_68, pg_68, mg_69, pg_69, mg_72, pg_72, mg_73, pg_73, mg_74, pg_74, ms_50, ps_50, ms_51, ps_51, ms_52, ps_52, ms_53, ps_53, ms_54, ps_54, ms_56, ps_56, ms_57, ps_57, ms_70, ps_70, ms_71, ps_71, mg_58_0, pg_58_0, mg_58_2, pg_58_2, mg_58_6, pg_58_6, mg_58_9, pg_58_9, mg_58_10, pg_58_10, ms_58_16, ps_58_16, ms_58_17, ps_58_17, ms_58_18, ps_58_18, ms_58_19, ps_58_19, ms_58_20, ps_58_20, ms_58_21, ps_58_21, ms_58_22, ps_58_22, ms_58_23, ps_58_23, ms_58_24, ps_58_24, ms_58_27, ps_58_27, ms_58_28, ps_58_28, mg_58_32, pg_58_32, mg_58_33, pg_58_33, fa, fb, ga, gb, s100, b1_eq, row54_54, row54_p, setB]
theorem s18 {c : Nat} (hX : HX G n D) (hc : KF[c]? = some (.inr 2)) : run 18 [.ref (51 : Nat), .ref c] KF G J (RQ q) = some ((KF, G, J, RQ q), some (.int (msk (fun j => fldB D (G c 1) j && cbfB D j && decide (¬ G c 4 < D j 5)) n))) := by
  have h16 := hX.2.1
  have st : ∀ i, i ≤ n → msk (fun j => fldB D (G c 1) j && cbfB D j && (decide (n ≤ j) || decide (i ≤ j) || decide (¬ G c 4 < D j 5))) n = msk (fun j => fldB D (G c 1) j && cbfB D j && (decide (i ≤ j) || decide (¬ G c 4 < D j 5))) n := fun i hi => msk_congr (fun j hj => by simp [Nat.not_le.mpr hj])
  have key : ev 18 14 [some (.ref (51 : Nat)), some (.ref c), some (.int (msk (fun j => fldB D (G c 1) j && cbfB D j && (decide (0 ≤ j) || decide (¬ G c 4 < D j 5))) n)), some (.int (nI 0))] [] KF G J (RQ q) = ev 18 14 [some (.ref (51 : Nat)), some (.ref c), some (.int (msk (fun j => fldB D (G c 1) j && cbfB D j && (decide (n ≤ j) || decide (¬ G c 4 < D j 5))) n)), some (.int (nI n))] [] KF G J (RQ q) := iter (fun i => ev 18 14 [some (.ref (51 : Nat)), some (.ref c), some (.int (msk (fun j => fldB D (G c 1) j && cbfB D j && (decide (i ≤ j) || decide (¬ G c 4 < D j 5))) n)), some (.int (nI i))] [] KF G J (RQ q)) n (fun i hi => by
    have h16 := hX.2.1
    have f1 := lt_nI hi (show n < 2147483648 by omega)
    have f2 := inb_nI (show i < 16 by omega) (show 16 < 2147483648 by omega)
    have f3 := cl_nI (show i < 2147483648 by omega)
    have f4 := kf_deed (show i < 16 by omega)
    have f5 : i < 32 := by omega
    have f6 : i < 16 := by omega
    have hn := hX.1
    have d0 := hX.2.2 i 0 hi (by omega)
    have d1 := hX.2.2 i 1 hi (by omega)
    have d2 := hX.2.2 i 2 hi (by omega)
    have d3 := hX.2.2 i 3 hi (by omega)
    have d4 := hX.2.2 i 4 hi (by omega)
    have d5 := hX.2.2 i 5 hi (by omega)
    have d6 := hX.2.2 i 6 hi (by omega)
    have d7 := hX.2.2 i 7 hi (by omega)
    have d8 := hX.2.2 i 8 hi (by omega)
    have d9 := hX.2.2 i 9 hi (by omega)
    have stp : msk (fun j => fldB D (G c 1) j && cbfB D j && (decide (i + 1 ≤ j) || decide (¬ G c 4 < D j 5))) n = if G c 4 < D i 5 then msk (fun j => fldB D (G c 1) j && cbfB D j && (decide (i ≤ j) || decide (¬ G c 4 < D j 5))) n &&& (b1 i ^^^ -1) else msk (fun j => fldB D (G c 1) j && cbfB D j && (decide (i ≤ j) || decide (¬ G c 4 < D j 5))) n := by
      symm
      apply msk_ext (by omega)
      intro m hm
      split
      · next hlt =>
        rw [b_and, bt_not hm, bt_b1 (by omega), bt_msk (by omega)]
        by_cases e1 : m = i
        · subst e1; simp [hlt]
        · by_cases e2 : m < i
          · simp [e1, Nat.not_le.mpr e2, show ¬ i + 1 ≤ m by omega]
          · simp [e1, show i ≤ m by omega, show i + 1 ≤ m by omega]
      · next hlt =>
        rw [bt_msk (by omega)]
        by_cases e1 : m = i
        · subst e1; simp [hlt]
        · by_cases e2 : m < i
          · simp [Nat.not_le.mpr e2, show ¬ i + 1 ≤ m by omega]
          · simp [show i ≤ m by omega, show i + 1 ≤ m by omega]
    rw [stp, e18_14]
    simp only [e18_0, e18_1, e18_4, e18_5, e18_8, e18_11, e18_12, e18_13, e18_15, e18_16, e18_19, e18_22, e18_25, e18_26, e18_29, e18_32, e18_33, e18_34, e18_37, e18_38, e18_41, e18_44, e18_45, e18_46, e18_49, e18_50, e18_51, e18_52, e18_53, e18_56, e18_59, e18_60, kf_0, ik_1, ik_2, ik_3, kf_8, ik_9, kf_10, ik_11, ik_28, ik_29, kf_30, ik_31, ik_48, ik_49, kf_50, kf_51, ik_52, ik_53, ik_54, kf_55, kf_56, ik_57, kf_58, ik_59, ik_60, ik_61, ik_62, ik_63, ik_64, ik_65, ik_66, ik_67, ik_68, ik_69, ik_70, ik_71, ik_72, ik_73, ik_74, rq_0_0, rq_0_1, rq_0_2, rq_0_3, rq_0_4, rq_0_5, rq_0_6, rq_0_7, rq_0_8, rq_8_0, rq_10_0, rq_10_1, rq_10_2, rq_30_0, rq_30_1, rq_30_2, rq_50_0, rq_51_0, rq_51_1, rq_51_2, rq_51_3, rq_51_4, rq_51_5, rq_56_0, rq_56_1, rq_56_2, rq_58_1, rq_58_3, rq_58_4, rq_58_5, rq_58_7, rq_58_8, rq_58_11, rq_58_12, rq_58_13, rq_58_14, rq_58_15, rq_58_25, rq_58_26, rq_58_29, rq_58_30, rq_58_31, rq_3, rq_11, rq_31, rq_law, rv_s, cl_i, cl_r, cl_n, tl_s, tl_n, kont_some, le4_0, le4_1, le4_2, le4_3, le4_4, eq_self, or_true, true_or, and_true, true_and, f1, f2, f3, f4, hn, d0, d1, d2, d3, d4, d5, d6, d7, d8, d9, nI_1, b1_eq, ↓reduceIte, hc, s100]
    (repeat' split) <;> first | rfl | simp_all)
  rw [run_18]
  simp only [e18_0, e18_1, e18_4, e18_5, e18_8, e18_11, e18_12, e18_13, e18_15, e18_16, e18_19, e18_22, e18_25, e18_26, e18_29, e18_32, e18_33, e18_34, e18_37, e18_38, e18_41, e18_44, e18_45, e18_46, e18_49, e18_50, e18_51, e18_52, e18_53, e18_56, e18_59, e18_60, kf_0, ik_1, ik_2, ik_3, kf_8, ik_9, kf_10, ik_11, ik_28, ik_29, kf_30, ik_31, ik_48, ik_49, kf_50, kf_51, ik_52, ik_53, ik_54, kf_55, kf_56, ik_57, kf_58, ik_59, ik_60, ik_61, ik_62, ik_63, ik_64, ik_65, ik_66, ik_67, ik_68, ik_69, ik_70, ik_71, ik_72, ik_73, ik_74, rq_0_0, rq_0_1, rq_0_2, rq_0_3, rq_0_4, rq_0_5, rq_0_6, rq_0_7, rq_0_8, rq_8_0, rq_10_0, rq_10_1, rq_10_2, rq_30_0, rq_30_1, rq_30_2, rq_50_0, rq_51_0, rq_51_1, rq_51_2, rq_51_3, rq_51_4, rq_51_5, rq_56_0, rq_56_1, rq_56_2, rq_58_1, rq_58_3, rq_58_4, rq_58_5, rq_58_7, rq_58_8, rq_58_11, rq_58_12, rq_58_13, rq_58_14, rq_58_15, rq_58_25, rq_58_26, rq_58_29, rq_58_30, rq_58_31, rq_3, rq_11, rq_31, rq_law, rv_s, cl_i, cl_r, cl_n, tl_s, tl_n, kont_some, le4_0, le4_1, le4_2, le4_3, le4_4, eq_self, or_true, true_or, and_true, true_and, hc, s3 _ hX]
  have e0 : msk (fun j => fldB D (G c 1) j && cbfB D j && (decide (0 ≤ j) || decide (¬ G c 4 < D j 5))) n = msk (fun j => fldB D (G c 1) j && cbfB D j) n := msk_congr (fun j _ => by simp)
  rw [e0] at key
  refine key.trans ?_
  rw [e18_14]
  simp only [e18_0, e18_1, e18_4, e18_5, e18_8, e18_11, e18_12, e18_13, e18_15, e18_16, e18_19, e18_22, e18_25, e18_26, e18_29, e18_32, e18_33, e18_34, e18_37, e18_38, e18_41, e18_44, e18_45, e18_46, e18_49, e18_50, e18_51, e18_52, e18_53, e18_56, e18_59, e18_60, kf_0, ik_1, ik_2, ik_3, kf_8, ik_9, kf_10, ik_11, ik_28, ik_29, kf_30, ik_31, ik_48, ik_49, kf_50, kf_51, ik_52, ik_53, ik_54, kf_55, kf_56, ik_57, kf_58, ik_59, ik_60, ik_61, ik_62, ik_63, ik_64, ik_65, ik_66, ik_67, ik_68, ik_69, ik_70, ik_71, ik_72, ik_73, ik_74, rq_0_0, rq_0_1, rq_0_2, rq_0_3, rq_0_4, rq_0_5, rq_0_6, rq_0_7, rq_0_8, rq_8_0, rq_10_0, rq_10_1, rq_10_2, rq_30_0, rq_30_1, rq_30_2, rq_50_0, rq_51_0, rq_51_1, rq_51_2, rq_51_3, rq_51_4, rq_51_5, rq_56_0, rq_56_1, rq_56_2, rq_58_1, rq_58_3, rq_58_4, rq_58_5, rq_58_7, rq_58_8, rq_58_11, rq_58_12, rq_58_13, rq_58_14, rq_58_15, rq_58_25, rq_58_26, rq_58_29, rq_58_30, rq_58_31, rq_3, rq_11, rq_31, rq_law, rv_s, cl_i, cl_r, cl_n, tl_s, tl_n, kont_some, le4_0, le4_1, le4_2, le4_3, le4_4, eq_self, or_true, true_or, and_true, true_and, hX.1, Int32.lt_irrefl, ↓reduceIte]
  have e1 : msk (fun j => fldB D (G c 1) j && cbfB D j && (decide (n ≤ j) || decide (¬ G c 4 < D j 5))) n = msk (fun j => fldB D (G c 1) j && cbfB D j && decide (¬ G c 4 < D j 5)) n := msk_congr (fun j hj => by simp [Nat.not_le.mpr hj])
  rw [e1]
end COURT
