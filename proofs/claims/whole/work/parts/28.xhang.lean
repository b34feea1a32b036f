/-! on which entry, which knowing it hangs, in the class -/
section HANG
variable {G S T : SG} {J : SJ} {q ql n c : Nat} {D D' : DT}
theorem HX_up {i a : Nat} {v : Int32} (h : HX G n D) (hi : i < n) : HX (up2 G (12 + i) a v) n (up2 D i a v) := by
  have h16 := h.2.1
  refine ⟨by rw [up2_at, if_neg (by omega)]; exact h.1, h16, fun j b hj hb => ?_⟩
  rw [up2_at, up2_at]
  by_cases e : j = i ∧ b = a
  · rw [if_pos e, if_pos ⟨by omega, e.2⟩]
  · rw [if_neg e, if_neg (fun z => e ⟨by omega, z.2⟩)]
    exact h.2.2 j b hj hb
theorem WFi_up {i a : Nat} {v : Int32} (h : WFi D n) (ha : a ≠ 1) (ha2 : a ≠ 2) : WFi (up2 D i a v) n := by
  intro j hj
  rw [up2_at, up2_at, if_neg (fun z => ha z.2.symm), if_neg (fun z => ha2 z.2.symm)]
  exact h j hj
theorem up2_back {i a : Nat} {v : Int32} (h : HX G n D) (hi : i < n) (ha : a < 10) : up2 (up2 G (12 + i) a v) (12 + i) a (D i a) = G := by
  rw [up2_same, ← h.2.2 i a hi ha, up2_self]
theorem low_pg {i : Nat} (hi : i < 16) (S : SG) (s : Nat) (v : Int32) : up2 (mix G S) (12 + i) s v = mix (up2 G (12 + i) s v) S := up2_mixG (scr_low (by omega))
/-- open and follow, as the loops call them -/
theorem s8f (f : Int32) (hX : HX G n D) (hw : WFi D n) (hl : KF[ql]? = some (.inr 3)) (hl5 : ql < 50) : run 8 [.ref (51 : Nat), .ref ql, .int f] KF (mix G S) J (RQ q) = some ((KF, mix G (opn (G ql) D n (G 28) (G 29) (G 1) f S), J, RQ ql), none) := s8 f hX hw hl hl5
def heF (w : Nat → Int32) (D : DT) (n : Nat) (dw sn N : Nat → Int32) (f root before : Int32) : Nat → Nat → Int32
  | 0, _ => -1
  | k + 1, i => if fldB D f i = true ∧ entB D i = true ∧ ¬ ownX w (up2 D i 5 (-1)) n dw sn N f root = before then nI i else heF w D n dw sn N f root before k (i + 1)
theorem h55 (f root before : Int32) (hX : HX G n D) (hw : WFi D n) (hl : KF[ql]? = some (.inr 3)) (hl5 : ql < 12) : ∀ (k i : Nat), i + k = n → ∀ (S : SG) (o6 o7 : Option Value),
    ∃ S', ev 55 23 [some (.ref (56 : Nat)), some (.ref ql), some (.int f), some (.int root), some (.int before), some (.int (nI i)), o6, o7] [] KF (mix G S) J (RQ ql) = some ((KF, mix G S', J, RQ ql), some (.int (heF (G ql) D n (G 28) (G 29) (G 1) f root before k i))) := by
  intro k
  have h16 := hX.2.1
  have hn := hX.1
  induction k with
  | zero =>
    intro i hi S o6 o7
    obtain rfl : i = n := by omega
    refine ⟨S, ?_⟩
    rw [e55_23]
    simp only [e55_0, e55_1, e55_4, e55_5, e55_6, e55_9, e55_10, e55_11, e55_14, e55_15, e55_18, e55_20, e55_21, e55_25, e55_26, e55_29, e55_32, e55_35, e55_36, e55_39, e55_42, e55_44, e55_45, e55_47, e55_49, e55_52, e55_53, e55_56, e55_58, e55_61, e55_64, e55_66, e55_69, e55_71, e55_73, e55_74, e55_77, e55_78, e55_81, e55_82, e55_83, e55_86, e55_87, e55_88, e55_91, e55_93, e55_95, e55_98, e55_99, e55_102, e55_104, e55_107, e55_109, e55_110, e55_113, e55_116, e55_117, kf_0, ik_1, ik_2, ik_3, kf_8, ik_9, kf_10, ik_11, ik_28, ik_29, kf_30, ik_31, ik_48, ik_49, kf_50, kf_51, ik_52, ik_53, ik_54, kf_55, kf_56, ik_57, kf_58, ik_59, ik_60, ik_61, ik_62, ik_63, ik_64, ik_65, ik_66, ik_67, ik_68, ik_69, ik_70, ik_71, ik_72, ik_73, ik_74, rq_0_0, rq_0_1, rq_0_2, rq_0_3, rq_0_4, rq_0_5, rq_0_6, rq_0_7, rq_0_8, rq_8_0, rq_10_0, rq_10_1, rq_10_2, rq_30_0, rq_30_1, rq_30_2, rq_50_0, rq_51_0, rq_51_1, rq_51_2, rq_51_3, rq_51_4, rq_51_5, rq_56_0, rq_56_1, rq_56_2, rq_58_1, rq_58_3, rq_58_4, rq_58_5, rq_58_7, rq_58_8, rq_58_11, rq_58_12, rq_58_13, rq_58_14, rq_58_15, rq_58_25, rq_58_26, rq_58_29, rq_58_30, rq_58_31, rq_3, rq_11, rq_31, rq_law, rv_s, cl_i, cl_r, cl_n, tl_s, tl_n, kont_some, le4_0, le4_1, le4_2, le4_3, le4_4, eq_self, or_true, true_or, and_true, true_and, mg_0, pg_0, mg_1, pg_1, mg_2, pg_2, mg_8, pg_8, mg_9, pg_9, mg_10, pg_10, mg_28, pg_28, mg_29, pg_29, mg_30, pg_30, mg_48, pg_48, mg_49, pg_49, mg_59, pg_59, mg_60, pg_60, mg_61, pg_61, mg_62, pg_62, mg_63, pg_63, mg_64, pg_64, mg_65, pg_65, mg_66, pg_66, mg_67, pg_67, mg_68, pg_68, mg_69, pg_69, mg_72, pg_72, mg_73, pg_73, mg_74, pg_74, ms_50, ps_50, ms_51, ps_51, ms_52, ps_52, ms_53, ps_53, ms_54, ps_54, ms_56, ps_56, ms_57, ps_57, ms_70, ps_70, ms_71, ps_71, mg_58_0, pg_58_0, mg_58_2, pg_58_2, mg_58_6, pg_58_6, mg_58_9, pg_58_9, mg_58_10, pg_58_10, ms_58_16, ps_58_16, ms_58_17, ps_58_17, ms_58_18, ps_58_18, ms_58_19, ps_58_19, ms_58_20, ps_58_20, ms_58_21, ps_58_21, ms_58_22, ps_58_22, ms_58_23, ps_58_23, ms_58_24, ps_58_24, ms_58_27, ps_58_27, ms_58_28, ps_58_28, mg_58_32, pg_58_32, mg_58_33, pg_58_33, hn, Int32.lt_irrefl, ↓reduceIte, heF]
  | succ k ih =>
    intro i hik S o6 o7
    have hi : i < n := by omega
    have h16 := hX.2.1
    have f1 := lt_nI hi (show n < 2147483648 by omega)
    have f2 := inb_nI (show i < 16 by omega) (show 16 < 2147483648 by omega)
    have f3 := cl_nI (show i < 2147483648 by omega)
    have f4 := kf_deed (show i < 16 by omega)
    have f5 : i < 32 := by omega
    have f6 : i < 16 := by omega
    have hn := hX.1
    have d0 := hX.2.2 i 0 hi (by omega)
    have d1 := hX.2.2 i 1 hi (by omega)
    have d2 := hX.2.2 i 2 hi (by omega)
    have d3 := hX.2.2 i 3 hi (by omega)
    have d4 := hX.2.2 i 4 hi (by omega)
    have d5 := hX.2.2 i 5 hi (by omega)
    have d6 := hX.2.2 i 6 hi (by omega)
    have d7 := hX.2.2 i 7 hi (by omega)
    have d8 := hX.2.2 i 8 hi (by omega)
    have d9 := hX.2.2 i 9 hi (by omega)
    have m0 := fun (S : SG) a => mix_low (G := G) (S := S) (c := 12 + i) (s := a) (by omega)
    rw [e55_23]
    simp only [e55_0, e55_1, e55_4, e55_5, e55_6, e55_9, e55_10, e55_11, e55_14, e55_15, e55_18, e55_20, e55_21, e55_25, e55_26, e55_29, e55_32, e55_35, e55_36, e55_39, e55_42, e55_44, e55_45, e55_47, e55_49, e55_52, e55_53, e55_56, e55_58, e55_61, e55_64, e55_66, e55_69, e55_71, e55_73, e55_74, e55_77, e55_78, e55_81, e55_82, e55_83, e55_86, e55_87, e55_88, e55_91, e55_93, e55_95, e55_98, e55_99, e55_102, e55_104, e55_107, e55_109, e55_110, e55_113, e55_116, e55_117, kf_0, ik_1, ik_2, ik_3, kf_8, ik_9, kf_10, ik_11, ik_28, ik_29, kf_30, ik_31, ik_48, ik_49, kf_50, kf_51, ik_52, ik_53, ik_54, kf_55, kf_56, ik_57, kf_58, ik_59, ik_60, ik_61, ik_62, ik_63, ik_64, ik_65, ik_66, ik_67, ik_68, ik_69, ik_70, ik_71, ik_72, ik_73, ik_74, rq_0_0, rq_0_1, rq_0_2, rq_0_3, rq_0_4, rq_0_5, rq_0_6, rq_0_7, rq_0_8, rq_8_0, rq_10_0, rq_10_1, rq_10_2, rq_30_0, rq_30_1, rq_30_2, rq_50_0, rq_51_0, rq_51_1, rq_51_2, rq_51_3, rq_51_4, rq_51_5, rq_56_0, rq_56_1, rq_56_2, rq_58_1, rq_58_3, rq_58_4, rq_58_5, rq_58_7, rq_58_8, rq_58_11, rq_58_12, rq_58_13, rq_58_14, rq_58_15, rq_58_25, rq_58_26, rq_58_29, rq_58_30, rq_58_31, rq_3, rq_11, rq_31, rq_law, rv_s, cl_i, cl_r, cl_n, tl_s, tl_n, kont_some, le4_0, le4_1, le4_2, le4_3, le4_4, eq_self, or_true, true_or, and_true, true_and, mg_0, pg_0, mg_1, pg_1, mg_2, pg_2, mg_8, pg_8, mg_9, pg_9, mg_10, pg_10, mg_28, pg_28, mg_29, pg_29, mg_30, pg_30, mg_48, pg_48, mg_49, pg_49, mg_59, pg_59, mg_60, pg_60, mg_61, pg_61, mg_62, pg_62, mg_63, pg_63, mg_64, pg_64, mg_65, pg_65, mg_66, pg_66, mg_67, pg_67, mg_68, pg_68, mg_69, pg_69, mg_72, pg_72, mg_73, pg_73, mg_74, pg_74, ms_50, ps_50, ms_51, ps_51, ms_52, ps_52, ms_53, ps_53, ms_54, ps_54, ms_56, ps_56, ms_57, ps_57, ms_70, ps_70, ms_71, ps_71, mg_58_0, pg_58_0, mg_58_2, pg_58_2, mg_58_6, pg_58_6, mg_58_9, pg_58_9, mg_58_10, pg_58_10, ms_58_16, ps_58_16, ms_58_17, ps_58_17, ms_58_18, ps_58_18, ms_58_19, ps_58_19, ms_58_20, ps_58_20, ms_58_21, ps_58_21, ms_58_22, ps_58_22, ms_58_23, ps_58_23, ms_58_24, ps_58_24, ms_58_27, ps_58_27, ms_58_28, ps_58_28, mg_58_32, pg_58_32, mg_58_33, pg_58_33, f1, f2, f3, f4, hn, d0, d1, d2, d3, d4, d5, d6, d7, d8, d9, nI_1, b1_eq, ↓reduceIte, m0, s31, bi_0]
    by_cases h1 : D i 1 = f
    · by_cases h2 : D i 5 = -1
      · obtain ⟨S', h⟩ := ih (i + 1) (by omega) S (some (.ref (12 + i))) o7
        refine ⟨S', ?_⟩
        simp only [h1, h2, ↓reduceIte, not_true_eq_false, not_false_eq_true, heF, fldB, entB, decide_true, decide_false, Bool.false_eq_true, false_and, and_false]
        exact h
      · have hX' : HX (up2 G (12 + i) 5 (-1)) n (up2 D i 5 (-1)) := HX_up hX hi
        have hw' : WFi (up2 D i 5 (-1)) n := WFi_up hw (by omega) (by omega)
        have r1 : up2 G (12 + i) 5 (-1) ql = G ql := up2_ne (by omega)
        have r2 : up2 G (12 + i) 5 (-1) 28 = G 28 := up2_ne (by omega)
        have r3 : up2 G (12 + i) 5 (-1) 29 = G 29 := up2_ne (by omega)
        have r4 : up2 G (12 + i) 5 (-1) 1 = G 1 := up2_ne (by omega)
        have ho := fun S => s8 (q := ql) (J := J) (S := S) f hX' hw' hl (by omega)
        have hfo := fun S => s51 (q := ql) (J := J) (S := S) root hX'
        rw [r1, r2, r3, r4] at ho
        have hb := up2_back (v := -1) hX hi (a := 5) (by omega)
        have e3 : folS (up2 D i 5 (-1)) n root (opn (G ql) (up2 D i 5 (-1)) n (G 28) (G 29) (G 1) f S) 56 3 = ownX (G ql) (up2 D i 5 (-1)) n (G 28) (G 29) (G 1) f root := ofS_3 h16
        by_cases h3 : ownX (G ql) (up2 D i 5 (-1)) n (G 28) (G 29) (G 1) f root = before
        · obtain ⟨S', h⟩ := ih (i + 1) (by omega) (folS (up2 D i 5 (-1)) n root (opn (G ql) (up2 D i 5 (-1)) n (G 28) (G 29) (G 1) f S)) (some (.ref (12 + i))) (some (.int (D i 5)))
          refine ⟨S', ?_⟩
          simp only [h1, h2, ↓reduceIte, not_true_eq_false, not_false_eq_true, heF, fldB, entB, decide_true, and_false, true_and, e55_0, e55_1, e55_4, e55_5, e55_6, e55_9, e55_10, e55_11, e55_14, e55_15, e55_18, e55_20, e55_21, e55_25, e55_26, e55_29, e55_32, e55_35, e55_36, e55_39, e55_42, e55_44, e55_45, e55_47, e55_49, e55_52, e55_53, e55_56, e55_58, e55_61, e55_64, e55_66, e55_69, e55_71, e55_73, e55_74, e55_77, e55_78, e55_81, e55_82, e55_83, e55_86, e55_87, e55_88, e55_91, e55_93, e55_95, e55_98, e55_99, e55_102, e55_104, e55_107, e55_109, e55_110, e55_113, e55_116, e55_117, kf_0, ik_1, ik_2, ik_3, kf_8, ik_9, kf_10, ik_11, ik_28, ik_29, kf_30, ik_31, ik_48, ik_49, kf_50, kf_51, ik_52, ik_53, ik_54, kf_55, kf_56, ik_57, kf_58, ik_59, ik_60, ik_61, ik_62, ik_63, ik_64, ik_65, ik_66, ik_67, ik_68, ik_69, ik_70, ik_71, ik_72, ik_73, ik_74, rq_0_0, rq_0_1, rq_0_2, rq_0_3, rq_0_4, rq_0_5, rq_0_6, rq_0_7, rq_0_8, rq_8_0, rq_10_0, rq_10_1, rq_10_2, rq_30_0, rq_30_1, rq_30_2, rq_50_0, rq_51_0, rq_51_1, rq_51_2, rq_51_3, rq_51_4, rq_51_5, rq_56_0, rq_56_1, rq_56_2, rq_58_1, rq_58_3, rq_58_4, rq_58_5, rq_58_7, rq_58_8, rq_58_11, rq_58_12, rq_58_13, rq_58_14, rq_58_15, rq_58_25, rq_58_26, rq_58_29, rq_58_30, rq_58_31, rq_3, rq_11, rq_31, rq_law, rv_s, cl_i, cl_r, cl_n, tl_s, tl_n, kont_some, le4_0, le4_1, le4_2, le4_3, le4_4, eq_self, or_true, true_or, and_true, true_and, mg_0, pg_0, mg_1, pg_1, mg_2, pg_2, mg_8, pg_8, mg_9, pg_9, mg_10, pg_10, mg_28, pg_28, mg_29, pg_29, mg_30, pg_30, mg_48, pg_48, mg_49, pg_49, mg_59, pg_59, mg_60, pg_60, mg_61, pg_61, mg_62, pg_62, mg_63, pg_63, mg_64, pg_64, mg_65, pg_65, mg_66, pg_66, mg_67, pg_67, mg_68, pg_68, mg_69, pg_69, mg_72, pg_72, mg_73, pg_73, mg_74, pg_74, ms_50, ps_50, ms_51, ps_51, ms_52, ps_52, ms_53, ps_53, ms_54, ps_54, ms_56, ps_56, ms_57, ps_57, ms_70, ps_70, ms_71, ps_71, mg_58_0, pg_58_0, mg_58_2, pg_58_2, mg_58_6, pg_58_6, mg_58_9, pg_58_9, mg_58_10, pg_58_10, ms_58_16, ps_58_16, ms_58_17, ps_58_17, ms_58_18, ps_58_18, ms_58_19, ps_58_19, ms_58_20, ps_58_20, ms_58_21, ps_58_21, ms_58_22, ps_58_22, ms_58_23, ps_58_23, ms_58_24, ps_58_24, ms_58_27, ps_58_27, ms_58_28, ps_58_28, mg_58_32, pg_58_32, mg_58_33, pg_58_33, f4, low_pg f6, ho, hfo, hb, e3, h3, nI_1]
          exact h
        · refine ⟨folS (up2 D i 5 (-1)) n root (opn (G ql) (up2 D i 5 (-1)) n (G 28) (G 29) (G 1) f S), ?_⟩
          simp only [h1, h2, ↓reduceIte, not_true_eq_false, not_false_eq_true, heF, fldB, entB, decide_true, and_true, true_and, and_self, e55_0, e55_1, e55_4, e55_5, e55_6, e55_9, e55_10, e55_11, e55_14, e55_15, e55_18, e55_20, e55_21, e55_25, e55_26, e55_29, e55_32, e55_35, e55_36, e55_39, e55_42, e55_44, e55_45, e55_47, e55_49, e55_52, e55_53, e55_56, e55_58, e55_61, e55_64, e55_66, e55_69, e55_71, e55_73, e55_74, e55_77, e55_78, e55_81, e55_82, e55_83, e55_86, e55_87, e55_88, e55_91, e55_93, e55_95, e55_98, e55_99, e55_102, e55_104, e55_107, e55_109, e55_110, e55_113, e55_116, e55_117, kf_0, ik_1, ik_2, ik_3, kf_8, ik_9, kf_10, ik_11, ik_28, ik_29, kf_30, ik_31, ik_48, ik_49, kf_50, kf_51, ik_52, ik_53, ik_54, kf_55, kf_56, ik_57, kf_58, ik_59, ik_60, ik_61, ik_62, ik_63, ik_64, ik_65, ik_66, ik_67, ik_68, ik_69, ik_70, ik_71, ik_72, ik_73, ik_74, rq_0_0, rq_0_1, rq_0_2, rq_0_3, rq_0_4, rq_0_5, rq_0_6, rq_0_7, rq_0_8, rq_8_0, rq_10_0, rq_10_1, rq_10_2, rq_30_0, rq_30_1, rq_30_2, rq_50_0, rq_51_0, rq_51_1, rq_51_2, rq_51_3, rq_51_4, rq_51_5, rq_56_0, rq_56_1, rq_56_2, rq_58_1, rq_58_3, rq_58_4, rq_58_5, rq_58_7, rq_58_8, rq_58_11, rq_58_12, rq_58_13, rq_58_14, rq_58_15, rq_58_25, rq_58_26, rq_58_29, rq_58_30, rq_58_31, rq_3, rq_11, rq_31, rq_law, rv_s, cl_i, cl_r, cl_n, tl_s, tl_n, kont_some, le4_0, le4_1, le4_2, le4_3, le4_4, eq_self, or_true, true_or, and_true, true_and, mg_0, pg_0, mg_1, pg_1, mg_2, pg_2, mg_8, pg_8, mg_9, pg_9, mg_10, pg_10, mg_28, pg_28, mg_29, pg_29, mg_30, pg_30, mg_48, pg_48, mg_49, pg_49, mg_59, pg_59, mg_60, pg_60, mg_61, pg_61, mg_62, pg_62, mg_63, pg_63, mg_64, pg_64, mg_65, pg_65, mg_66, pg_66, mg_67, pg_67, mg_68, pg_68, mg_69, pg_69, mg_72, pg_72, mg_73, pg_73, mg_74, pg_74, ms_50, ps_50, ms_51, ps_51, ms_52, ps_52, ms_53, ps_53, ms_54, ps_54, ms_56, ps_56, ms_57, ps_57, ms_70, ps_70, ms_71, ps_71, mg_58_0, pg_58_0, mg_58_2, pg_58_2, mg_58_6, pg_58_6, mg_58_9, pg_58_9, mg_58_10, pg_58_10, ms_58_16, ps_58_16, ms_58_17, ps_58_17, ms_58_18, ps_58_18, ms_58_19, ps_58_19, ms_58_20, ps_58_20, ms_58_21, ps_58_21, ms_58_22, ps_58_22, ms_58_23, ps_58_23, ms_58_24, ps_58_24, ms_58_27, ps_58_27, ms_58_28, ps_58_28, mg_58_32, pg_58_32, mg_58_33, pg_58_33, f4, low_pg f6, ho, hfo, hb, e3, h3, nI_1]
    · obtain ⟨S', h⟩ := ih (i + 1) (by omega) S (some (.ref (12 + i))) o7
      refine ⟨S', ?_⟩
      simp only [h1, ↓reduceIte, heF, fldB, decide_false, Bool.false_eq_true, false_and]
      exact h
theorem s55 (f root : Int32) (hX : HX G n D) (hw : WFi D n) (hl : KF[ql]? = some (.inr 3)) (hl5 : ql < 12) : ∃ S', run 55 [.ref (56 : Nat), .ref ql, .int f, .int root] KF (mix G S) J (RQ q) = some ((KF, mix G S', J, RQ ql), some (.int (heF (G ql) D n (G 28) (G 29) (G 1) f root (ownX (G ql) D n (G 28) (G 29) (G 1) f root) n 0))) := by
  have h16 := hX.2.1
  obtain ⟨S', h⟩ := h55 (J := J) f root (ownX (G ql) D n (G 28) (G 29) (G 1) f root) hX hw hl hl5 n 0 (by omega) (folS D n root (opn (G ql) D n (G 28) (G 29) (G 1) f S)) none none
  refine ⟨S', ?_⟩
  have e3 : folS D n root (opn (G ql) D n (G 28) (G 29) (G 1) f S) 56 3 = ownX (G ql) D n (G 28) (G 29) (G 1) f root := ofS_3 h16
  rw [run_55]
  simp only [e55_0, e55_1, e55_4, e55_5, e55_6, e55_9, e55_10, e55_11, e55_14, e55_15, e55_18, e55_20, e55_21, e55_25, e55_26, e55_29, e55_32, e55_35, e55_36, e55_39, e55_42, e55_44, e55_45, e55_47, e55_49, e55_52, e55_53, e55_56, e55_58, e55_61, e55_64, e55_66, e55_69, e55_71, e55_73, e55_74, e55_77, e55_78, e55_81, e55_82, e55_83, e55_86, e55_87, e55_88, e55_91, e55_93, e55_95, e55_98, e55_99, e55_102, e55_104, e55_107, e55_109, e55_110, e55_113, e55_116, e55_117, kf_0, ik_1, ik_2, ik_3, kf_8, ik_9, kf_10, ik_11, ik_28, ik_29, kf_30, ik_31, ik_48, ik_49, kf_50, kf_51, ik_52, ik_53, ik_54, kf_55, kf_56, ik_57, kf_58, ik_59, ik_60, ik_61, ik_62, ik_63, ik_64, ik_65, ik_66, ik_67, ik_68, ik_69, ik_70, ik_71, ik_72, ik_73, ik_74, rq_0_0, rq_0_1, rq_0_2, rq_0_3, rq_0_4, rq_0_5, rq_0_6, rq_0_7, rq_0_8, rq_8_0, rq_10_0, rq_10_1, rq_10_2, rq_30_0, rq_30_1, rq_30_2, rq_50_0, rq_51_0, rq_51_1, rq_51_2, rq_51_3, rq_51_4, rq_51_5, rq_56_0, rq_56_1, rq_56_2, rq_58_1, rq_58_3, rq_58_4, rq_58_5, rq_58_7, rq_58_8, rq_58_11, rq_58_12, rq_58_13, rq_58_14, rq_58_15, rq_58_25, rq_58_26, rq_58_29, rq_58_30, rq_58_31, rq_3, rq_11, rq_31, rq_law, rv_s, cl_i, cl_r, cl_n, tl_s, tl_n, kont_some, le4_0, le4_1, le4_2, le4_3, le4_4, eq_self, or_true, true_or, and_true, true_and, mg_0, pg_0, mg_1, pg_1, mg_2, pg_2, mg_8, pg_8, mg_9, pg_9, mg_10, pg_10, mg_28, pg_28, mg_29, pg_29, mg_30, pg_30, mg_48, pg_48, mg_49, pg_49, mg_59, pg_59, mg_60, pg_60, mg_61, pg_61, mg_62, pg_62, mg_63, pg_63, mg_64, pg_64, mg_65, pg_65, mg_66, pg_66, mg_67, pg_67, mg_68, pg_68, mg_69, pg_69, mg_72, pg_72, mg_73, pg_73, mg_74, pg_74, ms_50, ps_50, ms_51, ps_51, ms_52, ps_52, ms_53, ps_53, ms_54, ps_54, ms_56, ps_56, ms_57, ps_57, ms_70, ps_70, ms_71, ps_71, mg_58_0, pg_58_0, mg_58_2, pg_58_2, mg_58_6, pg_58_6, mg_58_9, pg_58_9, mg_58_10, pg_58_10, ms_58_16, ps_58_16, ms_58_17, ps_58_17, ms_58_18, ps_58_18, ms_58_19, ps_58_19, ms_58_20, ps_58_20, ms_58_21, ps_58_21, ms_58_22, ps_58_22, ms_58_23, ps_58_23, ms_58_24, ps_58_24, ms_58_27, ps_58_27, ms_58_28, ps_58_28, mg_58_32, pg_58_32, mg_58_33, pg_58_33, s8 f hX hw hl (show ql < 50 by omega), s51 root hX, e3]
  exact h
end HANG
