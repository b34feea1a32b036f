/-! the least pair of which it hangs; rings; in the class -/
section KNOW2
variable {G S T : SG} {J : SJ} {q ql n c : Nat} {D D' : DT} {w dw sn N : Nat → Int32}
def hkI (w : Nat → Int32) (D : DT) (n : Nat) (dw sn N : Nat → Int32) (f root before : Int32) (d : Nat) : Nat → Nat → Option Nat
  | 0, _ => none
  | m + 1, k => if fldB D f d = true ∧ fldB D f k = true ∧ ahB D k d = true ∧ ¬ ownX w (flip9 D d k) n dw sn N f root = before then some k else hkI w D n dw sn N f root before d m (k + 1)
def hkO (w : Nat → Int32) (D : DT) (n : Nat) (dw sn N : Nat → Int32) (f root before : Int32) : Nat → Nat → Option (Nat × Nat)
  | 0, _ => none
  | m + 1, d => match hkI w D n dw sn N f root before d n 0 with
    | some k => some (d, k)
    | none => hkO w D n dw sn N f root before m (d + 1)
theorem h56i (f root before : Int32) (hX : HX G n D) (hl : KF[ql]? = some (.inr 3)) (hl5 : ql < 12) {d : Nat} (hd : d < n) : ∀ (m k : Nat), k + m = n → ∀ (S : SG), crtOk (G ql) D n (G 28) (G 29) (G 1) f S →
    ∃ S', crtOk (G ql) D n (G 28) (G 29) (G 1) f S' ∧ ev 56 38 [some (.ref (56 : Nat)), some (.ref ql), some (.int f), some (.int root), some (.int before), some (.int (nI d)), some (.int (nI k))] [] KF (mix G S) J (RQ ql) = (match hkI (G ql) D n (G 28) (G 29) (G 1) f root before d m k with
      | some k' => some ((KF, mix G S', J, RQ ql), some (.int (nI d * 16 + nI k')))
      | none => ev 56 23 [some (.ref (56 : Nat)), some (.ref ql), some (.int f), some (.int root), some (.int before), some (.int (nI (d + 1))), some (.int (nI n))] [] KF (mix G S') J (RQ ql)) := by
  intro m
  have h16 := hX.2.1
  have hn := hX.1
  have g2 := inb_nI (show d < 16 by omega) (show 16 < 2147483648 by omega)
  have g3 := cl_nI (show d < 2147483648 by omega)
  have g4 := kf_deed (show d < 16 by omega)
  have m0 := fun (S : SG) a => mix_low (G := G) (S := S) (c := 12 + d) (s := a) (by omega)
  have d1 := hX.2.2 d 1 hd (by omega)
  induction m with
  | zero =>
    intro k hk S hC
    obtain rfl : k = n := by omega
    refine ⟨S, hC, ?_⟩
    rw [e56_38]
    simp only [e56_0, e56_1, e56_4, e56_5, e56_6, e56_9, e56_10, e56_11, e56_14, e56_15, e56_18, e56_20, e56_21, e56_25, e56_26, e56_29, e56_32, e56_35, e56_36, e56_40, e56_41, e56_44, e56_47, e56_50, e56_51, e56_54, e56_57, e56_59, e56_60, e56_63, e56_64, e56_67, e56_68, e56_71, e56_74, e56_76, e56_77, e56_79, e56_82, e56_85, e56_86, e56_88, e56_90, e56_91, e56_94, e56_96, e56_99, e56_101, e56_103, e56_104, e56_106, e56_107, e56_108, e56_111, e56_114, e56_117, e56_120, e56_121, kf_0, ik_1, ik_2, ik_3, kf_8, ik_9, kf_10, ik_11, ik_28, ik_29, kf_30, ik_31, ik_48, ik_49, kf_50, kf_51, ik_52, ik_53, ik_54, kf_55, kf_56, ik_57, kf_58, ik_59, ik_60, ik_61, ik_62, ik_63, ik_64, ik_65, ik_66, ik_67, ik_68, ik_69, ik_70, ik_71, ik_72, ik_73, ik_74, rq_0_0, rq_0_1, rq_0_2, rq_0_3, rq_0_4, rq_0_5, rq_0_6, rq_0_7, rq_0_8, rq_8_0, rq_10_0, rq_10_1, rq_10_2, rq_30_0, rq_30_1, rq_30_2, rq_50_0, rq_51_0, rq_51_1, rq_51_2, rq_51_3, rq_51_4, rq_51_5, rq_56_0, rq_56_1, rq_56_2, rq_58_1, rq_58_3, rq_58_4, rq_58_5, rq_58_7, rq_58_8, rq_58_11, rq_58_12, rq_58_13, rq_58_14, rq_58_15, rq_58_25, rq_58_26, rq_58_29, rq_58_30, rq_58_31, rq_3, rq_11, rq_31, rq_law, rv_s, cl_i, cl_r, cl_n, tl_s, tl_n, kont_some, le4_0, le4_1, le4_2, le4_3, le4_4, eq_self, or_true, true_or, and_true, true_and, mg_0, pg_0, mg_1, pg_1, mg_2, pg_2, mg_8, pg_8, mg_9, pg_9, mg_10, pg_10, mg_28, pg_28, mg_29, pg_29, mg_30, pg_30, mg_48, pg_48, mg_49, pg_49, mg_59, pg_59, mg_60, pg_60, mg_61, pg_61, mg_62, pg_62, mg_63, pg_63, mg_64, pg_64, mg_65, pg_65, mg_66, pg_66, mg_67, pg_67, mg_68, pg_68, mg_69, pg_69, mg_72, pg_72, mg_73, pg_73, mg_74, pg_74, ms_50, ps_50, ms_51, ps_51, ms_52, ps_52, ms_53, ps_53, ms_54, ps_54, ms_56, ps_56, ms_57, ps_57, ms_70, ps_70, ms_71, ps_71, mg_58_0, pg_58_0, mg_58_2, pg_58_2, mg_58_6, pg_58_6, mg_58_9, pg_58_9, mg_58_10, pg_58_10, ms_58_16, ps_58_16, ms_58_17, ps_58_17, ms_58_18, ps_58_18, ms_58_19, ps_58_19, ms_58_20, ps_58_20, ms_58_21, ps_58_21, ms_58_22, ps_58_22, ms_58_23, ps_58_23, ms_58_24, ps_58_24, ms_58_27, ps_58_27, ms_58_28, ps_58_28, mg_58_32, pg_58_32, mg_58_33, pg_58_33, hn, Int32.lt_irrefl, ↓reduceIte, hkI, nI_1]
  | succ m ih =>
    intro k hkm S hC
    have hk : k < n := by omega
    have f1 := lt_nI hk (show n < 2147483648 by omega)
    have f5 : k < 32 := by omega
    rw [e56_38]
    simp only [e56_0, e56_1, e56_4, e56_5, e56_6, e56_9, e56_10, e56_11, e56_14, e56_15, e56_18, e56_20, e56_21, e56_25, e56_26, e56_29, e56_32, e56_35, e56_36, e56_40, e56_41, e56_44, e56_47, e56_50, e56_51, e56_54, e56_57, e56_59, e56_60, e56_63, e56_64, e56_67, e56_68, e56_71, e56_74, e56_76, e56_77, e56_79, e56_82, e56_85, e56_86, e56_88, e56_90, e56_91, e56_94, e56_96, e56_99, e56_101, e56_103, e56_104, e56_106, e56_107, e56_108, e56_111, e56_114, e56_117, e56_120, e56_121, kf_0, ik_1, ik_2, ik_3, kf_8, ik_9, kf_10, ik_11, ik_28, ik_29, kf_30, ik_31, ik_48, ik_49, kf_50, kf_51, ik_52, ik_53, ik_54, kf_55, kf_56, ik_57, kf_58, ik_59, ik_60, ik_61, ik_62, ik_63, ik_64, ik_65, ik_66, ik_67, ik_68, ik_69, ik_70, ik_71, ik_72, ik_73, ik_74, rq_0_0, rq_0_1, rq_0_2, rq_0_3, rq_0_4, rq_0_5, rq_0_6, rq_0_7, rq_0_8, rq_8_0, rq_10_0, rq_10_1, rq_10_2, rq_30_0, rq_30_1, rq_30_2, rq_50_0, rq_51_0, rq_51_1, rq_51_2, rq_51_3, rq_51_4, rq_51_5, rq_56_0, rq_56_1, rq_56_2, rq_58_1, rq_58_3, rq_58_4, rq_58_5, rq_58_7, rq_58_8, rq_58_11, rq_58_12, rq_58_13, rq_58_14, rq_58_15, rq_58_25, rq_58_26, rq_58_29, rq_58_30, rq_58_31, rq_3, rq_11, rq_31, rq_law, rv_s, cl_i, cl_r, cl_n, tl_s, tl_n, kont_some, le4_0, le4_1, le4_2, le4_3, le4_4, eq_self, or_true, true_or, and_true, true_and, mg_0, pg_0, mg_1, pg_1, mg_2, pg_2, mg_8, pg_8, mg_9, pg_9, mg_10, pg_10, mg_28, pg_28, mg_29, pg_29, mg_30, pg_30, mg_48, pg_48, mg_49, pg_49, mg_59, pg_59, mg_60, pg_60, mg_61, pg_61, mg_62, pg_62, mg_63, pg_63, mg_64, pg_64, mg_65, pg_65, mg_66, pg_66, mg_67, pg_67, mg_68, pg_68, mg_69, pg_69, mg_72, pg_72, mg_73, pg_73, mg_74, pg_74, ms_50, ps_50, ms_51, ps_51, ms_52, ps_52, ms_53, ps_53, ms_54, ps_54, ms_56, ps_56, ms_57, ps_57, ms_70, ps_70, ms_71, ps_71, mg_58_0, pg_58_0, mg_58_2, pg_58_2, mg_58_6, pg_58_6, mg_58_9, pg_58_9, mg_58_10, pg_58_10, ms_58_16, ps_58_16, ms_58_17, ps_58_17, ms_58_18, ps_58_18, ms_58_19, ps_58_19, ms_58_20, ps_58_20, ms_58_21, ps_58_21, ms_58_22, ps_58_22, ms_58_23, ps_58_23, ms_58_24, ps_58_24, ms_58_27, ps_58_27, ms_58_28, ps_58_28, mg_58_32, pg_58_32, mg_58_33, pg_58_33, hn, f1, g2, g3, g4, m0, d1, ↓reduceIte, s101 f5, bi_0]
    by_cases hfd : D d 1 = f
    · have hfd' : fldB D f d = true := by simp [fldB, hfd]
      have e52 : S 52 d = ahM D n (dkM D n f) d := hC.2.2.1 d hd hfd'
      have eb : bt (S 52 d) k = (fldB D f k && ahB D k d) := by
        rw [e52]
        unfold ahM
        rw [bt_msk (by omega), bt_dkM h16]
        simp [hk]
      simp only [hfd, ↓reduceIte, eb]
      by_cases hc : fldB D f k = true ∧ ahB D k d = true
      · obtain ⟨S1, hr, hC1⟩ := s57 (J := J) root hX hl hl5 hd hk hfd' hc.1 hc.2 hC
        simp only [hc.1, hc.2, Bool.and_self, not_true_eq_false, ↓reduceIte, hr, e56_0, e56_1, e56_4, e56_5, e56_6, e56_9, e56_10, e56_11, e56_14, e56_15, e56_18, e56_20, e56_21, e56_25, e56_26, e56_29, e56_32, e56_35, e56_36, e56_40, e56_41, e56_44, e56_47, e56_50, e56_51, e56_54, e56_57, e56_59, e56_60, e56_63, e56_64, e56_67, e56_68, e56_71, e56_74, e56_76, e56_77, e56_79, e56_82, e56_85, e56_86, e56_88, e56_90, e56_91, e56_94, e56_96, e56_99, e56_101, e56_103, e56_104, e56_106, e56_107, e56_108, e56_111, e56_114, e56_117, e56_120, e56_121, kf_0, ik_1, ik_2, ik_3, kf_8, ik_9, kf_10, ik_11, ik_28, ik_29, kf_30, ik_31, ik_48, ik_49, kf_50, kf_51, ik_52, ik_53, ik_54, kf_55, kf_56, ik_57, kf_58, ik_59, ik_60, ik_61, ik_62, ik_63, ik_64, ik_65, ik_66, ik_67, ik_68, ik_69, ik_70, ik_71, ik_72, ik_73, ik_74, rq_0_0, rq_0_1, rq_0_2, rq_0_3, rq_0_4, rq_0_5, rq_0_6, rq_0_7, rq_0_8, rq_8_0, rq_10_0, rq_10_1, rq_10_2, rq_30_0, rq_30_1, rq_30_2, rq_50_0, rq_51_0, rq_51_1, rq_51_2, rq_51_3, rq_51_4, rq_51_5, rq_56_0, rq_56_1, rq_56_2, rq_58_1, rq_58_3, rq_58_4, rq_58_5, rq_58_7, rq_58_8, rq_58_11, rq_58_12, rq_58_13, rq_58_14, rq_58_15, rq_58_25, rq_58_26, rq_58_29, rq_58_30, rq_58_31, rq_3, rq_11, rq_31, rq_law, rv_s, cl_i, cl_r, cl_n, tl_s, tl_n, kont_some, le4_0, le4_1, le4_2, le4_3, le4_4, eq_self, or_true, true_or, and_true, true_and]
        by_cases ho : ownX (G ql) (flip9 D d k) n (G 28) (G 29) (G 1) f root = before
        · obtain ⟨S', hC', h⟩ := ih (k + 1) (by omega) S1 hC1
          refine ⟨S', hC', ?_⟩
          simp only [ho, ↓reduceIte, hkI, not_true_eq_false, and_false, nI_1]
          exact h
        · refine ⟨S1, hC1, ?_⟩
          simp only [ho, ↓reduceIte, hkI, hfd', hc.1, hc.2, not_false_eq_true, and_self]
      · have hc' : (fldB D f k && ahB D k d) = false := by
          cases h1 : fldB D f k <;> cases h2 : ahB D k d <;> simp_all
        obtain ⟨S', hC', h⟩ := ih (k + 1) (by omega) S hC
        refine ⟨S', hC', ?_⟩
        have hc2 : ¬ (fldB D f d = true ∧ fldB D f k = true ∧ ahB D k d = true ∧ ¬ ownX (G ql) (flip9 D d k) n (G 28) (G 29) (G 1) f root = before) := fun z => hc ⟨z.2.1, z.2.2.1⟩
        simp only [hc', Bool.false_eq_true, not_false_eq_true, ↓reduceIte, hkI, hc2, e56_0, e56_1, e56_4, e56_5, e56_6, e56_9, e56_10, e56_11, e56_14, e56_15, e56_18, e56_20, e56_21, e56_25, e56_26, e56_29, e56_32, e56_35, e56_36, e56_40, e56_41, e56_44, e56_47, e56_50, e56_51, e56_54, e56_57, e56_59, e56_60, e56_63, e56_64, e56_67, e56_68, e56_71, e56_74, e56_76, e56_77, e56_79, e56_82, e56_85, e56_86, e56_88, e56_90, e56_91, e56_94, e56_96, e56_99, e56_101, e56_103, e56_104, e56_106, e56_107, e56_108, e56_111, e56_114, e56_117, e56_120, e56_121, kf_0, ik_1, ik_2, ik_3, kf_8, ik_9, kf_10, ik_11, ik_28, ik_29, kf_30, ik_31, ik_48, ik_49, kf_50, kf_51, ik_52, ik_53, ik_54, kf_55, kf_56, ik_57, kf_58, ik_59, ik_60, ik_61, ik_62, ik_63, ik_64, ik_65, ik_66, ik_67, ik_68, ik_69, ik_70, ik_71, ik_72, ik_73, ik_74, rq_0_0, rq_0_1, rq_0_2, rq_0_3, rq_0_4, rq_0_5, rq_0_6, rq_0_7, rq_0_8, rq_8_0, rq_10_0, rq_10_1, rq_10_2, rq_30_0, rq_30_1, rq_30_2, rq_50_0, rq_51_0, rq_51_1, rq_51_2, rq_51_3, rq_51_4, rq_51_5, rq_56_0, rq_56_1, rq_56_2, rq_58_1, rq_58_3, rq_58_4, rq_58_5, rq_58_7, rq_58_8, rq_58_11, rq_58_12, rq_58_13, rq_58_14, rq_58_15, rq_58_25, rq_58_26, rq_58_29, rq_58_30, rq_58_31, rq_3, rq_11, rq_31, rq_law, rv_s, cl_i, cl_r, cl_n, tl_s, tl_n, kont_some, le4_0, le4_1, le4_2, le4_3, le4_4, eq_self, or_true, true_or, and_true, true_and, nI_1]
        exact h
    · obtain ⟨S', hC', h⟩ := ih (k + 1) (by omega) S hC
      refine ⟨S', hC', ?_⟩
      have hc2 : ¬ (fldB D f d = true ∧ fldB D f k = true ∧ ahB D k d = true ∧ ¬ ownX (G ql) (flip9 D d k) n (G 28) (G 29) (G 1) f root = before) := fun z => hfd (by simpa [fldB] using z.1)
      simp only [hfd, ↓reduceIte, hkI, hc2, nI_1]
      exact h
def hkI32 (o : Option (Nat × Nat)) : Int32 := match o with
  | none => -1
  | some p => nI p.1 * 16 + nI p.2
theorem h56o (f root before : Int32) (hX : HX G n D) (hl : KF[ql]? = some (.inr 3)) (hl5 : ql < 12) : ∀ (m d : Nat), d + m = n → ∀ (S : SG) (o6 : Option Value), crtOk (G ql) D n (G 28) (G 29) (G 1) f S →
    ∃ S', ev 56 23 [some (.ref (56 : Nat)), some (.ref ql), some (.int f), some (.int root), some (.int before), some (.int (nI d)), o6] [] KF (mix G S) J (RQ ql) = some ((KF, mix G S', J, RQ ql), some (.int (hkI32 (hkO (G ql) D n (G 28) (G 29) (G 1) f root before m d)))) := by
  intro m
  have h16 := hX.2.1
  have hn := hX.1
  induction m with
  | zero =>
    intro d hd S o6 hC
    obtain rfl : d = n := by omega
    refine ⟨S, ?_⟩
    rw [e56_23]
    simp only [e56_0, e56_1, e56_4, e56_5, e56_6, e56_9, e56_10, e56_11, e56_14, e56_15, e56_18, e56_20, e56_21, e56_25, e56_26, e56_29, e56_32, e56_35, e56_36, e56_40, e56_41, e56_44, e56_47, e56_50, e56_51, e56_54, e56_57, e56_59, e56_60, e56_63, e56_64, e56_67, e56_68, e56_71, e56_74, e56_76, e56_77, e56_79, e56_82, e56_85, e56_86, e56_88, e56_90, e56_91, e56_94, e56_96, e56_99, e56_101, e56_103, e56_104, e56_106, e56_107, e56_108, e56_111, e56_114, e56_117, e56_120, e56_121, kf_0, ik_1, ik_2, ik_3, kf_8, ik_9, kf_10, ik_11, ik_28, ik_29, kf_30, ik_31, ik_48, ik_49, kf_50, kf_51, ik_52, ik_53, ik_54, kf_55, kf_56, ik_57, kf_58, ik_59, ik_60, ik_61, ik_62, ik_63, ik_64, ik_65, ik_66, ik_67, ik_68, ik_69, ik_70, ik_71, ik_72, ik_73, ik_74, rq_0_0, rq_0_1, rq_0_2, rq_0_3, rq_0_4, rq_0_5, rq_0_6, rq_0_7, rq_0_8, rq_8_0, rq_10_0, rq_10_1, rq_10_2, rq_30_0, rq_30_1, rq_30_2, rq_50_0, rq_51_0, rq_51_1, rq_51_2, rq_51_3, rq_51_4, rq_51_5, rq_56_0, rq_56_1, rq_56_2, rq_58_1, rq_58_3, rq_58_4, rq_58_5, rq_58_7, rq_58_8, rq_58_11, rq_58_12, rq_58_13, rq_58_14, rq_58_15, rq_58_25, rq_58_26, rq_58_29, rq_58_30, rq_58_31, rq_3, rq_11, rq_31, rq_law, rv_s, cl_i, cl_r, cl_n, tl_s, tl_n, kont_some, le4_0, le4_1, le4_2, le4_3, le4_4, eq_self, or_true, true_or, and_true, true_and, mg_0, pg_0, mg_1, pg_1, mg_2, pg_2, mg_8, pg_8, mg_9, pg_9, mg_10, pg_10, mg_28, pg_28, mg_29, pg_29, mg_30, pg_30, mg_48, pg_48, mg_49, pg_49, mg_59, pg_59, mg_60, pg_60, mg_61, pg_61, mg_62, pg_62, mg_63, pg_63, mg_64, pg_64, mg_65, pg_65, mg_66, pg_66, mg_67, pg_67, mg_68, pg_68, mg_69, pg_69, mg_72, pg_72, mg_73, pg_73, mg_74, pg_74, ms_50, ps_50, ms_51, ps_51, ms_52, ps_52, ms_53, ps_53, ms_54, ps_54, ms_56, ps_56, ms_57, ps_57, ms_70, ps_70, ms_71, ps_71, mg_58_0, pg_58_0, mg_58_2, pg_58_2, mg_58_6, pg_58_6, mg_58_9, pg_58_9, mg_58_10, pg_58_10, ms_58_16, ps_58_16, ms_58_17, ps_58_17, ms_58_18, ps_58_18, ms_58_19, ps_58_19, ms_58_20, ps_58_20, ms_58_21, ps_58_21, ms_58_22, ps_58_22, ms_58_23, ps_58_23, ms_58_24, ps_58_24, ms_58_27, ps_58_27, ms_58_28, ps_58_28, mg_58_32, pg_58_32, mg_58_33, pg_58_33, hn, Int32.lt_irrefl, ↓reduceIte, hkO, hkI32]
  | succ m ih =>
    intro d hdm S o6 hC
    have hd : d < n := by omega
    have f1 := lt_nI hd (show n < 2147483648 by omega)
    obtain ⟨S1, hC1, h1⟩ := h56i (J := J) f root before hX hl hl5 hd n 0 (by omega) S hC
    rw [e56_23]
    simp only [e56_0, e56_1, e56_4, e56_5, e56_6, e56_9, e56_10, e56_11, e56_14, e56_15, e56_18, e56_20, e56_21, e56_25, e56_26, e56_29, e56_32, e56_35, e56_36, e56_40, e56_41, e56_44, e56_47, e56_50, e56_51, e56_54, e56_57, e56_59, e56_60, e56_63, e56_64, e56_67, e56_68, e56_71, e56_74, e56_76, e56_77, e56_79, e56_82, e56_85, e56_86, e56_88, e56_90, e56_91, e56_94, e56_96, e56_99, e56_101, e56_103, e56_104, e56_106, e56_107, e56_108, e56_111, e56_114, e56_117, e56_120, e56_121, kf_0, ik_1, ik_2, ik_3, kf_8, ik_9, kf_10, ik_11, ik_28, ik_29, kf_30, ik_31, ik_48, ik_49, kf_50, kf_51, ik_52, ik_53, ik_54, kf_55, kf_56, ik_57, kf_58, ik_59, ik_60, ik_61, ik_62, ik_63, ik_64, ik_65, ik_66, ik_67, ik_68, ik_69, ik_70, ik_71, ik_72, ik_73, ik_74, rq_0_0, rq_0_1, rq_0_2, rq_0_3, rq_0_4, rq_0_5, rq_0_6, rq_0_7, rq_0_8, rq_8_0, rq_10_0, rq_10_1, rq_10_2, rq_30_0, rq_30_1, rq_30_2, rq_50_0, rq_51_0, rq_51_1, rq_51_2, rq_51_3, rq_51_4, rq_51_5, rq_56_0, rq_56_1, rq_56_2, rq_58_1, rq_58_3, rq_58_4, rq_58_5, rq_58_7, rq_58_8, rq_58_11, rq_58_12, rq_58_13, rq_58_14, rq_58_15, rq_58_25, rq_58_26, rq_58_29, rq_58_30, rq_58_31, rq_3, rq_11, rq_31, rq_law, rv_s, cl_i, cl_r, cl_n, tl_s, tl_n, kont_some, le4_0, le4_1, le4_2, le4_3, le4_4, eq_self, or_true, true_or, and_true, true_and, mg_0, pg_0, mg_1, pg_1, mg_2, pg_2, mg_8, pg_8, mg_9, pg_9, mg_10, pg_10, mg_28, pg_28, mg_29, pg_29, mg_30, pg_30, mg_48, pg_48, mg_49, pg_49, mg_59, pg_59, mg_60, pg_60, mg_61, pg_61, mg_62, pg_62, mg_63, pg_63, mg_64, pg_64, mg_65, pg_65, mg_66, pg_66, mg_67, pg_67, mg_68, pg_68, mg_69, pg_69, mg_72, pg_72, mg_73, pg_73, mg_74, pg_74, ms_50, ps_50, ms_51, ps_51, ms_52, ps_52, ms_53, ps_53, ms_54, ps_54, ms_56, ps_56, ms_57, ps_57, ms_70, ps_70, ms_71, ps_71, mg_58_0, pg_58_0, mg_58_2, pg_58_2, mg_58_6, pg_58_6, mg_58_9, pg_58_9, mg_58_10, pg_58_10, ms_58_16, ps_58_16, ms_58_17, ps_58_17, ms_58_18, ps_58_18, ms_58_19, ps_58_19, ms_58_20, ps_58_20, ms_58_21, ps_58_21, ms_58_22, ps_58_22, ms_58_23, ps_58_23, ms_58_24, ps_58_24, ms_58_27, ps_58_27, ms_58_28, ps_58_28, mg_58_32, pg_58_32, mg_58_33, pg_58_33, hn, f1, ↓reduceIte]
    rw [show (ev 56 38 [some (.ref (56 : Nat)), some (.ref ql), some (.int f), some (.int root), some (.int before), some (.int (nI d)), some (.int 0)] [] KF (mix G S) J (RQ ql)) = _ from h1]
    cases hi : hkI (G ql) D n (G 28) (G 29) (G 1) f root before d n 0 with
    | some k' =>
      refine ⟨S1, ?_⟩
      simp only [hkO, hi, hkI32]
    | none =>
      obtain ⟨S', h⟩ := ih (d + 1) (by omega) S1 (some (.int (nI n))) hC1
      refine ⟨S', ?_⟩
      simp only [hkO, hi]
      exact h
theorem s56 (f root : Int32) (hX : HX G n D) (hw : WFi D n) (hl : KF[ql]? = some (.inr 3)) (hl5 : ql < 12) : ∃ S', run 56 [.ref (56 : Nat), .ref ql, .int f, .int root] KF (mix G S) J (RQ q) = some ((KF, mix G S', J, RQ ql), some (.int (hkI32 (hkO (G ql) D n (G 28) (G 29) (G 1) f root (ownX (G ql) D n (G 28) (G 29) (G 1) f root) n 0)))) := by
  have h16 := hX.2.1
  have hC : crtOk (G ql) D n (G 28) (G 29) (G 1) f (folS D n root (opn (G ql) D n (G 28) (G 29) (G 1) f S)) := by
    obtain ⟨c1, c2, c3, c4⟩ := crt_opn (w := G ql) (D := D) (dw := G 28) (sn := G 29) (N := G 1) (S := S) (f := f) h16
    exact ⟨c1, c2, c3, c4⟩
  obtain ⟨S', h⟩ := h56o (J := J) f root (ownX (G ql) D n (G 28) (G 29) (G 1) f root) hX hl hl5 n 0 (by omega) (folS D n root (opn (G ql) D n (G 28) (G 29) (G 1) f S)) none hC
  refine ⟨S', ?_⟩
  have e3 : folS D n root (opn (G ql) D n (G 28) (G 29) (G 1) f S) 56 3 = ownX (G ql) D n (G 28) (G 29) (G 1) f root := ofS_3 h16
  rw [run_56]
  simp only [e56_0, e56_1, e56_4, e56_5, e56_6, e56_9, e56_10, e56_11, e56_14, e56_15, e56_18, e56_20, e56_21, e56_25, e56_26, e56_29, e56_32, e56_35, e56_36, e56_40, e56_41, e56_44, e56_47, e56_50, e56_51, e56_54, e56_57, e56_59, e56_60, e56_63, e56_64, e56_67, e56_68, e56_71, e56_74, e56_76, e56_77, e56_79, e56_82, e56_85, e56_86, e56_88, e56_90, e56_91, e56_94, e56_96, e56_99, e56_101, e56_103, e56_104, e56_106, e56_107, e56_108, e56_111, e56_114, e56_117, e56_120, e56_121, kf_0, ik_1, ik_2, ik_3, kf_8, ik_9, kf_10, ik_11, ik_28, ik_29, kf_30, ik_31, ik_48, ik_49, kf_50, kf_51, ik_52, ik_53, ik_54, kf_55, kf_56, ik_57, kf_58, ik_59, ik_60, ik_61, ik_62, ik_63, ik_64, ik_65, ik_66, ik_67, ik_68, ik_69, ik_70, ik_71, ik_72, ik_73, ik_74, rq_0_0, rq_0_1, rq_0_2, rq_0_3, rq_0_4, rq_0_5, rq_0_6, rq_0_7, rq_0_8, rq_8_0, rq_10_0, rq_10_1, rq_10_2, rq_30_0, rq_30_1, rq_30_2, rq_50_0, rq_51_0, rq_51_1, rq_51_2, rq_51_3, rq_51_4, rq_51_5, rq_56_0, rq_56_1, rq_56_2, rq_58_1, rq_58_3, rq_58_4, rq_58_5, rq_58_7, rq_58_8, rq_58_11, rq_58_12, rq_58_13, rq_58_14, rq_58_15, rq_58_25, rq_58_26, rq_58_29, rq_58_30, rq_58_31, rq_3, rq_11, rq_31, rq_law, rv_s, cl_i, cl_r, cl_n, tl_s, tl_n, kont_some, le4_0, le4_1, le4_2, le4_3, le4_4, eq_self, or_true, true_or, and_true, true_and, mg_0, pg_0, mg_1, pg_1, mg_2, pg_2, mg_8, pg_8, mg_9, pg_9, mg_10, pg_10, mg_28, pg_28, mg_29, pg_29, mg_30, pg_30, mg_48, pg_48, mg_49, pg_49, mg_59, pg_59, mg_60, pg_60, mg_61, pg_61, mg_62, pg_62, mg_63, pg_63, mg_64, pg_64, mg_65, pg_65, mg_66, pg_66, mg_67, pg_67, mg_68, pg_68, mg_69, pg_69, mg_72, pg_72, mg_73, pg_73, mg_74, pg_74, ms_50, ps_50, ms_51, ps_51, ms_52, ps_52, ms_53, ps_53, ms_54, ps_54, ms_56, ps_56, ms_57, ps_57, ms_70, ps_70, ms_71, ps_71, mg_58_0, pg_58_0, mg_58_2, pg_58_2, mg_58_6, pg_58_6, mg_58_9, pg_58_9, mg_58_10, pg_58_10, ms_58_16, ps_58_16, ms_58_17, ps_58_17, ms_58_18, ps_58_18, ms_58_19, ps_58_19, ms_58_20, ps_58_20, ms_58_21, ps_58_21, ms_58_22, ps_58_22, ms_58_23, ps_58_23, ms_58_24, ps_58_24, ms_58_27, ps_58_27, ms_58_28, ps_58_28, mg_58_32, pg_58_32, mg_58_33, pg_58_33, s8 f hX hw hl (show ql < 50 by omega), s51 root hX, e3]
  exact h
/-! rings of three -/
def sumN (p : Nat → Nat) : Nat → Nat
  | 0 => 0
  | i + 1 => sumN p i + p i
/-- sum of p over c from lo on, below n -/
def sumF (p : Nat → Nat) : Nat → Nat → Nat
  | 0, _ => 0
  | m + 1, lo => p lo + sumF p m (lo + 1)
def r3 (set : Int32) (B : Nat → Int32) (a b c : Nat) : Bool := decide (set &&& (b1 a ||| b1 b ||| b1 c) = (b1 a ||| b1 b ||| b1 c)) && decide (¬ B a &&& (b1 a ||| b1 b ||| b1 c) = 0) && decide (¬ B b &&& (b1 a ||| b1 b ||| b1 c) = 0) && decide (¬ B c &&& (b1 a ||| b1 b ||| b1 c) = 0)
theorem h24c (set : Int32) (hX : HX G n D) {a b : Nat} (ha : a < n) (hb : b < n) : ∀ (m c : Nat), c + m = n → ∀ (r : Nat) (o6 : Option Value), ∃ o6', ev 24 38 [some (.ref (51 : Nat)), some (.int set), some (.int (nI r)), some (.int (nI a)), some (.int (nI b)), some (.int (nI c)), o6] [] KF G J (RQ q) = ev 24 20 [some (.ref (51 : Nat)), some (.int set), some (.int (nI (r + sumF (fun c => if r3 set (G 54) a b c = true then 1 else 0) m c))), some (.int (nI a)), some (.int (nI (b + 1))), some (.int (nI n)), o6'] [] KF G J (RQ q) := by
  intro m
  have h16 := hX.2.1
  have hn := hX.1
  induction m with
  | zero =>
    intro c hc r o6
    obtain rfl : c = n := by omega
    refine ⟨o6, ?_⟩
    rw [e24_38]
    simp only [e24_0, e24_1, e24_2, e24_3, e24_5, e24_6, e24_9, e24_12, e24_15, e24_16, e24_17, e24_18, e24_22, e24_23, e24_26, e24_29, e24_32, e24_34, e24_35, e24_36, e24_40, e24_41, e24_44, e24_47, e24_50, e24_51, e24_54, e24_56, e24_59, e24_60, e24_62, e24_65, e24_66, e24_68, e24_69, e24_71, e24_72, e24_74, e24_77, e24_78, e24_79, e24_81, e24_84, e24_87, e24_88, e24_90, e24_92, e24_95, e24_98, e24_99, e24_101, e24_103, e24_106, e24_109, e24_112, e24_115, e24_118, e24_121, e24_124, e24_127, e24_130, e24_131, kf_0, ik_1, ik_2, ik_3, kf_8, ik_9, kf_10, ik_11, ik_28, ik_29, kf_30, ik_31, ik_48, ik_49, kf_50, kf_51, ik_52, ik_53, ik_54, kf_55, kf_56, ik_57, kf_58, ik_59, ik_60, ik_61, ik_62, ik_63, ik_64, ik_65, ik_66, ik_67, ik_68, ik_69, ik_70, ik_71, ik_72, ik_73, ik_74, rq_0_0, rq_0_1, rq_0_2, rq_0_3, rq_0_4, rq_0_5, rq_0_6, rq_0_7, rq_0_8, rq_8_0, rq_10_0, rq_10_1, rq_10_2, rq_30_0, rq_30_1, rq_30_2, rq_50_0, rq_51_0, rq_51_1, rq_51_2, rq_51_3, rq_51_4, rq_51_5, rq_56_0, rq_56_1, rq_56_2, rq_58_1, rq_58_3, rq_58_4, rq_58_5, rq_58_7, rq_58_8, rq_58_11, rq_58_12, rq_58_13, rq_58_14, rq_58_15, rq_58_25, rq_58_26, rq_58_29, rq_58_30, rq_58_31, rq_3, rq_11, rq_31, rq_law, rv_s, cl_i, cl_r, cl_n, tl_s, tl_n, kont_some, le4_0, le4_1, le4_2, le4_3, le4_4, eq_self, or_true, true_or, and_true, true_and, hn, Int32.lt_irrefl, ↓reduceIte, sumF, nI_1, Nat.add_zero]
  | succ m ih =>
    intro c hcm r o6
    have hc : c < n := by omega
    have f1 := lt_nI hc (show n < 2147483648 by omega)
    have ha6 : a < 16 := by omega
    have hb6 : b < 16 := by omega
    have hc6 : c < 16 := by omega
    rw [e24_38]
    simp only [e24_0, e24_1, e24_2, e24_3, e24_5, e24_6, e24_9, e24_12, e24_15, e24_16, e24_17, e24_18, e24_22, e24_23, e24_26, e24_29, e24_32, e24_34, e24_35, e24_36, e24_40, e24_41, e24_44, e24_47, e24_50, e24_51, e24_54, e24_56, e24_59, e24_60, e24_62, e24_65, e24_66, e24_68, e24_69, e24_71, e24_72, e24_74, e24_77, e24_78, e24_79, e24_81, e24_84, e24_87, e24_88, e24_90, e24_92, e24_95, e24_98, e24_99, e24_101, e24_103, e24_106, e24_109, e24_112, e24_115, e24_118, e24_121, e24_124, e24_127, e24_130, e24_131, kf_0, ik_1, ik_2, ik_3, kf_8, ik_9, kf_10, ik_11, ik_28, ik_29, kf_30, ik_31, ik_48, ik_49, kf_50, kf_51, ik_52, ik_53, ik_54, kf_55, kf_56, ik_57, kf_58, ik_59, ik_60, ik_61, ik_62, ik_63, ik_64, ik_65, ik_66, ik_67, ik_68, ik_69, ik_70, ik_71, ik_72, ik_73, ik_74, rq_0_0, rq_0_1, rq_0_2, rq_0_3, rq_0_4, rq_0_5, rq_0_6, rq_0_7, rq_0_8, rq_8_0, rq_10_0, rq_10_1, rq_10_2, rq_30_0, rq_30_1, rq_30_2, rq_50_0, rq_51_0, rq_51_1, rq_51_2, rq_51_3, rq_51_4, rq_51_5, rq_56_0, rq_56_1, rq_56_2, rq_58_1, rq_58_3, rq_58_4, rq_58_5, rq_58_7, rq_58_8, rq_58_11, rq_58_12, rq_58_13, rq_58_14, rq_58_15, rq_58_25, rq_58_26, rq_58_29, rq_58_30, rq_58_31, rq_3, rq_11, rq_31, rq_law, rv_s, cl_i, cl_r, cl_n, tl_s, tl_n, kont_some, le4_0, le4_1, le4_2, le4_3, le4_4, eq_self, or_true, true_or, and_true, true_and, hn, f1, ↓reduceIte, s100, b1_eq, s19 _ ha6, s19 _ hb6, s19 _ hc6, bi_0, nI_1]
    by_cases h0 : r3 set (G 54) a b c = true
    · obtain ⟨o', h⟩ := ih (c + 1) (by omega) (r + 1) (some (.int (b1 a ||| b1 b ||| b1 c)))
      refine ⟨o', ?_⟩
      have h0' := h0
      unfold r3 at h0'
      simp only [Bool.and_eq_true, decide_eq_true_eq] at h0'
      obtain ⟨⟨⟨q1, q2⟩, q3⟩, q4⟩ := h0'
      simp only [q1, q2, q3, q4, not_true_eq_false, not_false_eq_true, ↓reduceIte, sumF, h0]
      rw [h, show r + 1 + sumF (fun c => if r3 set (G 54) a b c = true then 1 else 0) m (c + 1) = r + (1 + sumF (fun c => if r3 set (G 54) a b c = true then 1 else 0) m (c + 1)) by omega]
    · obtain ⟨o', h⟩ := ih (c + 1) (by omega) r (some (.int (b1 a ||| b1 b ||| b1 c)))
      refine ⟨o', ?_⟩
      have h0' := h0
      unfold r3 at h0'
      simp only [Bool.and_eq_true, decide_eq_true_eq] at h0'
      by_cases q1 : set &&& (b1 a ||| b1 b ||| b1 c) = (b1 a ||| b1 b ||| b1 c) <;> by_cases q2 : G 54 a &&& (b1 a ||| b1 b ||| b1 c) = 0 <;> by_cases q3 : G 54 b &&& (b1 a ||| b1 b ||| b1 c) = 0 <;> by_cases q4 : G 54 c &&& (b1 a ||| b1 b ||| b1 c) = 0 <;> first | (simp only [q1, q2, q3, q4, not_true_eq_false, not_false_eq_true, ↓reduceIte, sumF, h0, Bool.false_eq_true, Nat.zero_add]; exact h) | exact absurd ⟨⟨⟨q1, q2⟩, q3⟩, q4⟩ h0'
theorem h24b (set : Int32) (hX : HX G n D) {a : Nat} (ha : a < n) : ∀ (m b : Nat), b + m = n → ∀ (r : Nat) (o5 o6 : Option Value), ∃ o5' o6', ev 24 20 [some (.ref (51 : Nat)), some (.int set), some (.int (nI r)), some (.int (nI a)), some (.int (nI b)), o5, o6] [] KF G J (RQ q) = ev 24 4 [some (.ref (51 : Nat)), some (.int set), some (.int (nI (r + sumF (fun b => sumF (fun c => if r3 set (G 54) a b c = true then 1 else 0) (n - (b + 1)) (b + 1)) m b))), some (.int (nI (a + 1))), some (.int (nI n)), o5', o6'] [] KF G J (RQ q) := by
  intro m
  have h16 := hX.2.1
  have hn := hX.1
  induction m with
  | zero =>
    intro b hb r o5 o6
    obtain rfl : b = n := by omega
    refine ⟨o5, o6, ?_⟩
    rw [e24_20]
    simp only [e24_0, e24_1, e24_2, e24_3, e24_5, e24_6, e24_9, e24_12, e24_15, e24_16, e24_17, e24_18, e24_22, e24_23, e24_26, e24_29, e24_32, e24_34, e24_35, e24_36, e24_40, e24_41, e24_44, e24_47, e24_50, e24_51, e24_54, e24_56, e24_59, e24_60, e24_62, e24_65, e24_66, e24_68, e24_69, e24_71, e24_72, e24_74, e24_77, e24_78, e24_79, e24_81, e24_84, e24_87, e24_88, e24_90, e24_92, e24_95, e24_98, e24_99, e24_101, e24_103, e24_106, e24_109, e24_112, e24_115, e24_118, e24_121, e24_124, e24_127, e24_130, e24_131, kf_0, ik_1, ik_2, ik_3, kf_8, ik_9, kf_10, ik_11, ik_28, ik_29, kf_30, ik_31, ik_48, ik_49, kf_50, kf_51, ik_52, ik_53, ik_54, kf_55, kf_56, ik_57, kf_58, ik_59, ik_60, ik_61, ik_62, ik_63, ik_64, ik_65, ik_66, ik_67, ik_68, ik_69, ik_70, ik_71, ik_72, ik_73, ik_74, rq_0_0, rq_0_1, rq_0_2, rq_0_3, rq_0_4, rq_0_5, rq_0_6, rq_0_7, rq_0_8, rq_8_0, rq_10_0, rq_10_1, rq_10_2, rq_30_0, rq_30_1, rq_30_2, rq_50_0, rq_51_0, rq_51_1, rq_51_2, rq_51_3, rq_51_4, rq_51_5, rq_56_0, rq_56_1, rq_56_2, rq_58_1, rq_58_3, rq_58_4, rq_58_5, rq_58_7, rq_58_8, rq_58_11, rq_58_12, rq_58_13, rq_58_14, rq_58_15, rq_58_25, rq_58_26, rq_58_29, rq_58_30, rq_58_31, rq_3, rq_11, rq_31, rq_law, rv_s, cl_i, cl_r, cl_n, tl_s, tl_n, kont_some, le4_0, le4_1, le4_2, le4_3, le4_4, eq_self, or_true, true_or, and_true, true_and, hn, Int32.lt_irrefl, ↓reduceIte, sumF, nI_1, Nat.add_zero]
  | succ m ih =>
    intro b hbm r o5 o6
    have hb : b < n := by omega
    have f1 := lt_nI hb (show n < 2147483648 by omega)
    obtain ⟨o6', h1⟩ := h24c (J := J) (q := q) set hX ha hb (n - (b + 1)) (b + 1) (by omega) r o6
    obtain ⟨o5', o6'', h⟩ := ih (b + 1) (by omega) (r + sumF (fun c => if r3 set (G 54) a b c = true then 1 else 0) (n - (b + 1)) (b + 1)) (some (.int (nI n))) o6'
    refine ⟨o5', o6'', ?_⟩
    rw [e24_20]
    simp only [e24_0, e24_1, e24_2, e24_3, e24_5, e24_6, e24_9, e24_12, e24_15, e24_16, e24_17, e24_18, e24_22, e24_23, e24_26, e24_29, e24_32, e24_34, e24_35, e24_36, e24_40, e24_41, e24_44, e24_47, e24_50, e24_51, e24_54, e24_56, e24_59, e24_60, e24_62, e24_65, e24_66, e24_68, e24_69, e24_71, e24_72, e24_74, e24_77, e24_78, e24_79, e24_81, e24_84, e24_87, e24_88, e24_90, e24_92, e24_95, e24_98, e24_99, e24_101, e24_103, e24_106, e24_109, e24_112, e24_115, e24_118, e24_121, e24_124, e24_127, e24_130, e24_131, kf_0, ik_1, ik_2, ik_3, kf_8, ik_9, kf_10, ik_11, ik_28, ik_29, kf_30, ik_31, ik_48, ik_49, kf_50, kf_51, ik_52, ik_53, ik_54, kf_55, kf_56, ik_57, kf_58, ik_59, ik_60, ik_61, ik_62, ik_63, ik_64, ik_65, ik_66, ik_67, ik_68, ik_69, ik_70, ik_71, ik_72, ik_73, ik_74, rq_0_0, rq_0_1, rq_0_2, rq_0_3, rq_0_4, rq_0_5, rq_0_6, rq_0_7, rq_0_8, rq_8_0, rq_10_0, rq_10_1, rq_10_2, rq_30_0, rq_30_1, rq_30_2, rq_50_0, rq_51_0, rq_51_1, rq_51_2, rq_51_3, rq_51_4, rq_51_5, rq_56_0, rq_56_1, rq_56_2, rq_58_1, rq_58_3, rq_58_4, rq_58_5, rq_58_7, rq_58_8, rq_58_11, rq_58_12, rq_58_13, rq_58_14, rq_58_15, rq_58_25, rq_58_26, rq_58_29, rq_58_30, rq_58_31, rq_3, rq_11, rq_31, rq_law, rv_s, cl_i, cl_r, cl_n, tl_s, tl_n, kont_some, le4_0, le4_1, le4_2, le4_3, le4_4, eq_self, or_true, true_or, and_true, true_and, hn, f1, ↓reduceIte, nI_1]
    rw [h1, h, sumF]
    rw [show r + sumF (fun c => if r3 set (G 54) a b c = true then 1 else 0) (n - (b + 1)) (b + 1) + sumF (fun b => sumF (fun c => if r3 set (G 54) a b c = true then 1 else 0) (n - (b + 1)) (b + 1)) m (b + 1) = r + (sumF (fun c => if r3 set (G 54) a b c = true then 1 else 0) (n - (b + 1)) (b + 1) + sumF (fun b => sumF (fun c => if r3 set (G 54) a b c = true then 1 else 0) (n - (b + 1)) (b + 1)) m (b + 1)) by omega]
def rng (set : Int32) (B : Nat → Int32) (n m a : Nat) : Nat := sumF (fun a => sumF (fun b => sumF (fun c => if r3 set B a b c = true then 1 else 0) (n - (b + 1)) (b + 1)) (n - (a + 1)) (a + 1)) m a
theorem h24a (set : Int32) (hX : HX G n D) : ∀ (m a : Nat), a + m = n → ∀ (r : Nat) (o4 o5 o6 : Option Value), ev 24 4 [some (.ref (51 : Nat)), some (.int set), some (.int (nI r)), some (.int (nI a)), o4, o5, o6] [] KF G J (RQ q) = some ((KF, G, J, RQ q), some (.int (nI (r + rng set (G 54) n m a)))) := by
  intro m
  have h16 := hX.2.1
  have hn := hX.1
  induction m with
  | zero =>
    intro a ha r o4 o5 o6
    obtain rfl : a = n := by omega
    rw [e24_4]
    simp only [e24_0, e24_1, e24_2, e24_3, e24_5, e24_6, e24_9, e24_12, e24_15, e24_16, e24_17, e24_18, e24_22, e24_23, e24_26, e24_29, e24_32, e24_34, e24_35, e24_36, e24_40, e24_41, e24_44, e24_47, e24_50, e24_51, e24_54, e24_56, e24_59, e24_60, e24_62, e24_65, e24_66, e24_68, e24_69, e24_71, e24_72, e24_74, e24_77, e24_78, e24_79, e24_81, e24_84, e24_87, e24_88, e24_90, e24_92, e24_95, e24_98, e24_99, e24_101, e24_103, e24_106, e24_109, e24_112, e24_115, e24_118, e24_121, e24_124, e24_127, e24_130, e24_131, kf_0, ik_1, ik_2, ik_3, kf_8, ik_9, kf_10, ik_11, ik_28, ik_29, kf_30, ik_31, ik_48, ik_49, kf_50, kf_51, ik_52, ik_53, ik_54, kf_55, kf_56, ik_57, kf_58, ik_59, ik_60, ik_61, ik_62, ik_63, ik_64, ik_65, ik_66, ik_67, ik_68, ik_69, ik_70, ik_71, ik_72, ik_73, ik_74, rq_0_0, rq_0_1, rq_0_2, rq_0_3, rq_0_4, rq_0_5, rq_0_6, rq_0_7, rq_0_8, rq_8_0, rq_10_0, rq_10_1, rq_10_2, rq_30_0, rq_30_1, rq_30_2, rq_50_0, rq_51_0, rq_51_1, rq_51_2, rq_51_3, rq_51_4, rq_51_5, rq_56_0, rq_56_1, rq_56_2, rq_58_1, rq_58_3, rq_58_4, rq_58_5, rq_58_7, rq_58_8, rq_58_11, rq_58_12, rq_58_13, rq_58_14, rq_58_15, rq_58_25, rq_58_26, rq_58_29, rq_58_30, rq_58_31, rq_3, rq_11, rq_31, rq_law, rv_s, cl_i, cl_r, cl_n, tl_s, tl_n, kont_some, le4_0, le4_1, le4_2, le4_3, le4_4, eq_self, or_true, true_or, and_true, true_and, hn, Int32.lt_irrefl, ↓reduceIte, rng, sumF, Nat.add_zero]
  | succ m ih =>
    intro a ham r o4 o5 o6
    have ha : a < n := by omega
    have f1 := lt_nI ha (show n < 2147483648 by omega)
    obtain ⟨o5', o6', h1⟩ := h24b (J := J) (q := q) set hX ha (n - (a + 1)) (a + 1) (by omega) r o5 o6
    rw [e24_4]
    simp only [e24_0, e24_1, e24_2, e24_3, e24_5, e24_6, e24_9, e24_12, e24_15, e24_16, e24_17, e24_18, e24_22, e24_23, e24_26, e24_29, e24_32, e24_34, e24_35, e24_36, e24_40, e24_41, e24_44, e24_47, e24_50, e24_51, e24_54, e24_56, e24_59, e24_60, e24_62, e24_65, e24_66, e24_68, e24_69, e24_71, e24_72, e24_74, e24_77, e24_78, e24_79, e24_81, e24_84, e24_87, e24_88, e24_90, e24_92, e24_95, e24_98, e24_99, e24_101, e24_103, e24_106, e24_109, e24_112, e24_115, e24_118, e24_121, e24_124, e24_127, e24_130, e24_131, kf_0, ik_1, ik_2, ik_3, kf_8, ik_9, kf_10, ik_11, ik_28, ik_29, kf_30, ik_31, ik_48, ik_49, kf_50, kf_51, ik_52, ik_53, ik_54, kf_55, kf_56, ik_57, kf_58, ik_59, ik_60, ik_61, ik_62, ik_63, ik_64, ik_65, ik_66, ik_67, ik_68, ik_69, ik_70, ik_71, ik_72, ik_73, ik_74, rq_0_0, rq_0_1, rq_0_2, rq_0_3, rq_0_4, rq_0_5, rq_0_6, rq_0_7, rq_0_8, rq_8_0, rq_10_0, rq_10_1, rq_10_2, rq_30_0, rq_30_1, rq_30_2, rq_50_0, rq_51_0, rq_51_1, rq_51_2, rq_51_3, rq_51_4, rq_51_5, rq_56_0, rq_56_1, rq_56_2, rq_58_1, rq_58_3, rq_58_4, rq_58_5, rq_58_7, rq_58_8, rq_58_11, rq_58_12, rq_58_13, rq_58_14, rq_58_15, rq_58_25, rq_58_26, rq_58_29, rq_58_30, rq_58_31, rq_3, rq_11, rq_31, rq_law, rv_s, cl_i, cl_r, cl_n, tl_s, tl_n, kont_some, le4_0, le4_1, le4_2, le4_3, le4_4, eq_self, or_true, true_or, and_true, true_and, hn, f1, ↓reduceIte, nI_1]
    rw [h1, ih (a + 1) (by omega)]
    unfold rng
    rw [sumF]
    rw [show ∀ x y z : Nat, x + y + z = x + (y + z) by omega]
theorem s24 (set : Int32) (hX : HX G n D) : run 24 [.ref (51 : Nat), .int set] KF G J (RQ q) = some ((KF, G, J, RQ q), some (.int (nI (rng set (G 54) n n 0)))) := by
  rw [run_24]
  simp only [e24_0, e24_1, e24_2, e24_3, e24_5, e24_6, e24_9, e24_12, e24_15, e24_16, e24_17, e24_18, e24_22, e24_23, e24_26, e24_29, e24_32, e24_34, e24_35, e24_36, e24_40, e24_41, e24_44, e24_47, e24_50, e24_51, e24_54, e24_56, e24_59, e24_60, e24_62, e24_65, e24_66, e24_68, e24_69, e24_71, e24_72, e24_74, e24_77, e24_78, e24_79, e24_81, e24_84, e24_87, e24_88, e24_90, e24_92, e24_95, e24_98, e24_99, e24_101, e24_103, e24_106, e24_109, e24_112, e24_115, e24_118, e24_121, e24_124, e24_127, e24_130, e24_131, kf_0, ik_1, ik_2, ik_3, kf_8, ik_9, kf_10, ik_11, ik_28, ik_29, kf_30, ik_31, ik_48, ik_49, kf_50, kf_51, ik_52, ik_53, ik_54, kf_55, kf_56, ik_57, kf_58, ik_59, ik_60, ik_61, ik_62, ik_63, ik_64, ik_65, ik_66, ik_67, ik_68, ik_69, ik_70, ik_71, ik_72, ik_73, ik_74, rq_0_0, rq_0_1, rq_0_2, rq_0_3, rq_0_4, rq_0_5, rq_0_6, rq_0_7, rq_0_8, rq_8_0, rq_10_0, rq_10_1, rq_10_2, rq_30_0, rq_30_1, rq_30_2, rq_50_0, rq_51_0, rq_51_1, rq_51_2, rq_51_3, rq_51_4, rq_51_5, rq_56_0, rq_56_1, rq_56_2, rq_58_1, rq_58_3, rq_58_4, rq_58_5, rq_58_7, rq_58_8, rq_58_11, rq_58_12, rq_58_13, rq_58_14, rq_58_15, rq_58_25, rq_58_26, rq_58_29, rq_58_30, rq_58_31, rq_3, rq_11, rq_31, rq_law, rv_s, cl_i, cl_r, cl_n, tl_s, tl_n, kont_some, le4_0, le4_1, le4_2, le4_3, le4_4, eq_self, or_true, true_or, and_true, true_and]
  have := h24a (J := J) (q := q) set hX n 0 (by omega) 0 none none none
  rw [Nat.zero_add] at this
  exact this
end KNOW2
