/-! what is lost -/
section OPS14
variable {G S : SG} {J : SJ} {q n l : Nat} {D : DT} {w dw sn N r : Nat → Int32}
def pdB (w : Nat → Int32) (D : DT) (p : Int32) (f : Nat) (j : Nat) : Bool := fldB D (nI f) j && pasB D j && decide (D j 2 = p) && payB (w 3) D j
def lsM (w : Nat → Int32) (D : DT) (n : Nat) (dw sn N r : Nat → Int32) (p : Int32) : Nat → Int32
  | 0 => 0
  | k + 1 => lsM w D n dw sn N r p k ||| (msk (pdB w D p k) n &&& (orUs (chX w D n dw sn N (nI k) (r k)) 0 ^^^ -1))
def usM (w : Nat → Int32) (D : DT) (n : Nat) (dw sn N r : Nat → Int32) : Nat → Int32
  | 0 => 0
  | k + 1 => orUs (chX w D n dw sn N (nI k) (r k)) (usM w D n dw sn N r k)
theorem cont_f {L : List Nat} {j : Nat} : (L.contains j = false) ↔ ¬ j ∈ L := by
  rw [← List.contains_iff_mem, Bool.not_eq_true]
theorem ch32 {f root : Int32} (hn : n ≤ 16) : ∀ d, d ∈ chX w D n dw sn N f root → d < 32 := fun d hd => by
  have := (chn_mem _ _ _ d hd).1
  omega
theorem bt_usM (hn : n ≤ 16) {j : Nat} (hj : j < 32) : ∀ k, bt (usM w D n dw sn N r k) j = true ↔ ∃ f, f < k ∧ j ∈ chX w D n dw sn N (nI f) (r f) := by
  intro k
  induction k with
  | zero =>
    unfold usM
    rw [b_0]
    simp
  | succ k ih =>
    unfold usM
    rw [bt_orUs _ (ch32 hn) _ _ hj, Bool.or_eq_true, ih, List.contains_iff_mem]
    constructor
    · rintro (⟨f, hf, h⟩ | h)
      · exact ⟨f, by omega, h⟩
      · exact ⟨k, by omega, h⟩
    · rintro ⟨f, hf, h⟩
      by_cases e : f = k
      · exact Or.inr (by rw [← e]; exact h)
      · exact Or.inl ⟨f, by omega, h⟩
theorem bt_lsM (hn : n ≤ 16) {p : Int32} {j : Nat} (hj : j < 32) : ∀ k, bt (lsM w D n dw sn N r p k) j = true ↔ ∃ f, f < k ∧ j < n ∧ pdB w D p f j = true ∧ ¬ j ∈ chX w D n dw sn N (nI f) (r f) := by
  intro k
  induction k with
  | zero =>
    unfold lsM
    rw [b_0]
    simp
  | succ k ih =>
    unfold lsM
    rw [b_or, Bool.or_eq_true, ih, b_and, bt_not hj, bt_msk (by omega), bt_orUs _ (ch32 hn) _ _ hj]
    simp only [b_0, Bool.false_or, Bool.and_eq_true, decide_eq_true_eq, Bool.not_eq_true', cont_f]
    constructor
    · rintro (⟨f, hf, h⟩ | h)
      · exact ⟨f, by omega, h⟩
      · exact ⟨k, by omega, h.1.1, h.1.2, h.2⟩
    · rintro ⟨f, hf, h⟩
      by_cases e : f = k
      · subst e
        exact Or.inr ⟨⟨h.1, h.2.1⟩, h.2.2⟩
      · exact Or.inl ⟨f, by omega, h⟩
theorem ls_eq {p : Int32} {nf : Nat} (hn : n ≤ 16) (hf6 : nf ≤ 6) (hD : ∀ j, j < n → ∃ f, f < nf ∧ D j 1 = nI f) : msk (fun j => pasB D j && payB (w 3) D j && decide (D j 2 = p) && !bt (usM w D n dw sn N r nf) j) n = lsM w D n dw sn N r p nf := by
  symm
  apply msk_ext (by omega)
  intro j hj
  rw [Bool.eq_iff_iff, bt_lsM hn hj]
  simp only [Bool.and_eq_true, decide_eq_true_eq, Bool.not_eq_true']
  have hu : bt (usM w D n dw sn N r nf) j = false ↔ ¬ ∃ f, f < nf ∧ j ∈ chX w D n dw sn N (nI f) (r f) := by
    rw [← bt_usM hn hj, Bool.not_eq_true]
  rw [hu]
  constructor
  · rintro ⟨f, hf, hjn, hp, hc⟩
    unfold pdB at hp
    simp only [Bool.and_eq_true, decide_eq_true_eq] at hp
    refine ⟨hjn, ⟨⟨hp.1.1.2, hp.2⟩, hp.1.2⟩, ?_⟩
    rintro ⟨f', hf', hc'⟩
    have h1 := (chn_mem _ _ _ j hc').2.1
    have h2 := hp.1.1.1
    unfold fldB at h1 h2
    rw [decide_eq_true_eq] at h1 h2
    have := (nI_eq (show f < 2147483648 by omega) (show f' < 2147483648 by omega)).mp (h2.symm.trans h1)
    subst this
    exact hc hc'
  · rintro ⟨hjn, ⟨⟨h1, h2⟩, h3⟩, h4⟩
    obtain ⟨f, hf, ef⟩ := hD j hjn
    refine ⟨f, hf, hjn, ?_, fun z => h4 ⟨f, hf, z⟩⟩
    unfold pdB fldB
    simp [ef, h1, h2, h3]
theorem h82 {i nf : Nat} {p : Int32} (hX : HX G n D) (hW : WD D n) (h4 : i < 4) (hnf : G 0 10 = nI nf) (h6 : nf ≤ 6) : ∀ (m k : Nat), k + m = nf → ∀ (S : SG) (q : Nat), KF[q]? = some (.inr 3) → ∃ S' q', KF[q']? = some (.inr 3) ∧ ev 82 24 [some (.ref (0 : Nat)), some (.int (nI i)), some (.int p), some (.int (lsM (G (4 + i)) D n (G 28) (G 29) (G 1) (G 2) p k)), some (.int (nI k))] [] KF (mix G S) J (RQ q) = some ((KF, mix G S', J, RQ q'), some (.int (lsM (G (4 + i)) D n (G 28) (G 29) (G 1) (G 2) p nf))) := by
  have h16 := hX.2.1
  have f1 := inb_nI h4 (show 4 < 2147483648 by omega)
  have f2 := cl_nI (show i < 2147483648 by omega)
  have f3 := kf_law h4
  intro m
  induction m with
  | zero =>
    intro k hk S q hq
    obtain rfl : k = nf := by omega
    refine ⟨S, q, hq, ?_⟩
    rw [e82_24]
    simp only [e82_0, e82_1, e82_2, e82_5, e82_8, e82_9, e82_10, e82_13, e82_16, e82_18, e82_19, e82_20, e82_21, e82_22, e82_26, e82_27, e82_30, e82_33, e82_34, e82_37, e82_38, e82_41, e82_42, e82_43, e82_45, e82_48, e82_49, e82_52, e82_53, e82_56, e82_58, e82_59, e82_62, e82_63, e82_64, e82_67, e82_68, e82_71, e82_72, e82_75, e82_78, e82_79, e82_82, e82_85, e82_86, e82_87, e82_88, e82_89, e82_90, e82_93, e82_96, e82_97, kf_0, ik_1, ik_2, ik_3, kf_8, ik_9, kf_10, ik_11, ik_28, ik_29, kf_30, ik_31, ik_48, ik_49, kf_50, kf_51, ik_52, ik_53, ik_54, kf_55, kf_56, ik_57, kf_58, ik_59, ik_60, ik_61, ik_62, ik_63, ik_64, ik_65, ik_66, ik_67, ik_68, ik_69, ik_70, ik_71, ik_72, ik_73, ik_74, rq_0_0, rq_0_1, rq_0_2, rq_0_3, rq_0_4, rq_0_5, rq_0_6, rq_0_7, rq_0_8, rq_8_0, rq_10_0, rq_10_1, rq_10_2, rq_30_0, rq_30_1, rq_30_2, rq_50_0, rq_51_0, rq_51_1, rq_51_2, rq_51_3, rq_51_4, rq_51_5, rq_56_0, rq_56_1, rq_56_2, rq_58_1, rq_58_3, rq_58_4, rq_58_5, rq_58_7, rq_58_8, rq_58_11, rq_58_12, rq_58_13, rq_58_14, rq_58_15, rq_58_25, rq_58_26, rq_58_29, rq_58_30, rq_58_31, rq_3, rq_11, rq_31, rq_law, rv_s, cl_i, cl_r, cl_n, tl_s, tl_n, kont_some, le4_0, le4_1, le4_2, le4_3, le4_4, eq_self, or_true, true_or, and_true, true_and, mg_0, pg_0, mg_1, pg_1, mg_2, pg_2, mg_8, pg_8, mg_9, pg_9, mg_10, pg_10, mg_28, pg_28, mg_29, pg_29, mg_30, pg_30, mg_48, pg_48, mg_49, pg_49, mg_59, pg_59, mg_60, pg_60, mg_61, pg_61, mg_62, pg_62, mg_63, pg_63, mg_64, pg_64, mg_65, pg_65, mg_66, pg_66, mg_67, pg_67, mg_68, pg_68, mg_69, pg_69, mg_72, pg_72, mg_73, pg_73, mg_74, pg_74, ms_50, ps_50, ms_51, ps_51, ms_52, ps_52, ms_53, ps_53, ms_54, ps_54, ms_56, ps_56, ms_57, ps_57, ms_70, ps_70, ms_71, ps_71, mg_58_0, pg_58_0, mg_58_2, pg_58_2, mg_58_6, pg_58_6, mg_58_9, pg_58_9, mg_58_10, pg_58_10, ms_58_16, ps_58_16, ms_58_17, ps_58_17, ms_58_18, ps_58_18, ms_58_19, ps_58_19, ms_58_20, ps_58_20, ms_58_21, ps_58_21, ms_58_22, ps_58_22, ms_58_23, ps_58_23, ms_58_24, ps_58_24, ms_58_27, ps_58_27, ms_58_28, ps_58_28, mg_58_32, pg_58_32, mg_58_33, pg_58_33, hnf, Int32.lt_irrefl, ↓reduceIte]
  | succ m ih =>
    intro k hkm S q hq
    have hk : k < nf := by omega
    have g0 := lt_nI hk (show nf < 2147483648 by omega)
    have g1 := inb_nI (show k < 6 by omega) (show 6 < 2147483648 by omega)
    have g2 := cl_nI (show k < 2147483648 by omega)
    have x8 := s8 (J := J) (q := q) (S := S) (nI k) hX hW.wf f3 (show 4 + i < 50 by omega)
    have x51 := s51g (S := S) (w := G (4 + i)) (dw := G 28) (sn := G 29) (N := G 1) (J := J) (q := 4 + i) (f := nI k) (root := G 2 k) hX
    have m51 : mix G (ofS (G (4 + i)) D n (G 28) (G 29) (G 1) (nI k) (G 2 k) S) 51 7 = dkM D n (nI k) := by rw [ms_51, ofS_eq h16, w56_51, opn_51]
    have m5 : mix G (ofS (G (4 + i)) D n (G 28) (G 29) (G 1) (nI k) (G 2 k) S) 56 5 = orUs (chX (G (4 + i)) D n (G 28) (G 29) (G 1) (nI k) (G 2 k)) 0 := by rw [ms_56, ofS_eq h16, w56_5]
    have x21 := s21 (J := J) (q := 4 + i) (G := mix G (ofS (G (4 + i)) D n (G 28) (G 29) (G 1) (nI k) (G 2 k) S)) p hX.mix
    have x23 := s23 (J := J) (q := 4 + i) (G := mix G (ofS (G (4 + i)) D n (G 28) (G 29) (G 1) (nI k) (G 2 k) S)) (msk (fun j => bt (dkM D n (nI k)) j && pasB D j && decide (D j 2 = p)) n) hX.mix f3
    rw [m51] at x21
    have e : msk (fun j => bt (msk (fun j => bt (dkM D n (nI k)) j && pasB D j && decide (D j 2 = p)) n) j && (decide (¬ mix G (ofS (G (4 + i)) D n (G 28) (G 29) (G 1) (nI k) (G 2 k) S) (4 + i) 3 = 0) || decide (D j 0 = 1 ∨ D j 0 = 4 ∨ D j 0 = 3))) n = msk (pdB (G (4 + i)) D p k) n := msk_congr (fun j hj => by
      rw [bt_msk (by omega), bt_dkM h16, mix_low (by omega)]
      unfold pdB payB
      simp [hj])
    rw [e] at x23
    obtain ⟨S', q', hq', h⟩ := ih (k + 1) (by omega) (ofS (G (4 + i)) D n (G 28) (G 29) (G 1) (nI k) (G 2 k) S) (4 + i) f3
    refine ⟨S', q', hq', ?_⟩
    generalize ofS (G (4 + i)) D n (G 28) (G 29) (G 1) (nI k) (G 2 k) S = T at x51 x21 x23 m5 h
    have m5' : T 56 5 = orUs (chX (G (4 + i)) D n (G 28) (G 29) (G 1) (nI k) (G 2 k)) 0 := by rw [← ms_56 G T]; exact m5
    rw [e82_24]
    simp only [e82_0, e82_1, e82_2, e82_5, e82_8, e82_9, e82_10, e82_13, e82_16, e82_18, e82_19, e82_20, e82_21, e82_22, e82_26, e82_27, e82_30, e82_33, e82_34, e82_37, e82_38, e82_41, e82_42, e82_43, e82_45, e82_48, e82_49, e82_52, e82_53, e82_56, e82_58, e82_59, e82_62, e82_63, e82_64, e82_67, e82_68, e82_71, e82_72, e82_75, e82_78, e82_79, e82_82, e82_85, e82_86, e82_87, e82_88, e82_89, e82_90, e82_93, e82_96, e82_97, kf_0, ik_1, ik_2, ik_3, kf_8, ik_9, kf_10, ik_11, ik_28, ik_29, kf_30, ik_31, ik_48, ik_49, kf_50, kf_51, ik_52, ik_53, ik_54, kf_55, kf_56, ik_57, kf_58, ik_59, ik_60, ik_61, ik_62, ik_63, ik_64, ik_65, ik_66, ik_67, ik_68, ik_69, ik_70, ik_71, ik_72, ik_73, ik_74, rq_0_0, rq_0_1, rq_0_2, rq_0_3, rq_0_4, rq_0_5, rq_0_6, rq_0_7, rq_0_8, rq_8_0, rq_10_0, rq_10_1, rq_10_2, rq_30_0, rq_30_1, rq_30_2, rq_50_0, rq_51_0, rq_51_1, rq_51_2, rq_51_3, rq_51_4, rq_51_5, rq_56_0, rq_56_1, rq_56_2, rq_58_1, rq_58_3, rq_58_4, rq_58_5, rq_58_7, rq_58_8, rq_58_11, rq_58_12, rq_58_13, rq_58_14, rq_58_15, rq_58_25, rq_58_26, rq_58_29, rq_58_30, rq_58_31, rq_3, rq_11, rq_31, rq_law, rv_s, cl_i, cl_r, cl_n, tl_s, tl_n, kont_some, le4_0, le4_1, le4_2, le4_3, le4_4, eq_self, or_true, true_or, and_true, true_and, mg_0, pg_0, mg_1, pg_1, mg_2, pg_2, mg_8, pg_8, mg_9, pg_9, mg_10, pg_10, mg_28, pg_28, mg_29, pg_29, mg_30, pg_30, mg_48, pg_48, mg_49, pg_49, mg_59, pg_59, mg_60, pg_60, mg_61, pg_61, mg_62, pg_62, mg_63, pg_63, mg_64, pg_64, mg_65, pg_65, mg_66, pg_66, mg_67, pg_67, mg_68, pg_68, mg_69, pg_69, mg_72, pg_72, mg_73, pg_73, mg_74, pg_74, ms_50, ps_50, ms_51, ps_51, ms_52, ps_52, ms_53, ps_53, ms_54, ps_54, ms_56, ps_56, ms_57, ps_57, ms_70, ps_70, ms_71, ps_71, mg_58_0, pg_58_0, mg_58_2, pg_58_2, mg_58_6, pg_58_6, mg_58_9, pg_58_9, mg_58_10, pg_58_10, ms_58_16, ps_58_16, ms_58_17, ps_58_17, ms_58_18, ps_58_18, ms_58_19, ps_58_19, ms_58_20, ps_58_20, ms_58_21, ps_58_21, ms_58_22, ps_58_22, ms_58_23, ps_58_23, ms_58_24, ps_58_24, ms_58_27, ps_58_27, ms_58_28, ps_58_28, mg_58_32, pg_58_32, mg_58_33, pg_58_33, hnf, g0, g1, g2, f1, f2, f3, ↓reduceIte, x8, x51, x21, x23, m5', nI_1]
    exact h
theorem orUs_snoc : ∀ (L : List Nat) (d : Nat) (us : Int32), orUs (L ++ [d]) us = orUs L us ||| b1 d := by
  intro L
  induction L with
  | nil => intro d us; rfl
  | cons e L ih =>
    intro d us
    rw [List.cons_append]
    unfold orUs
    exact ih d _
theorem h158i {f : Nat} {root us p : Int32} {o1 : Option Value} {L : List Nat} (hL : chX w D n dw sn N (nI f) root = L) (hL16 : L.length ≤ 16) : ev 158 48 [some (.ref (58 : Nat)), o1, some (.int p), some (.int us), some (.int (nI f)), some (.int 0)] [] KF (mix G (owS w D n dw sn N (nI f) root S)) J (RQ q) = ev 158 29 [some (.ref (58 : Nat)), o1, some (.int p), some (.int (orUs L us)), some (.int (nI (f + 1))), some (.int (nI L.length))] [] KF (mix G (owS w D n dw sn N (nI f) root S)) J (RQ q) := by
  have m27 : owS w D n dw sn N (nI f) root S 58 27 = nI L.length := by unfold owS; rw [c71_27, hL]
  have m71 : ∀ k, k < L.length → owS w D n dw sn N (nI f) root S 71 k = nI (L.getD k 0) := fun k hk => by
    unfold owS
    rw [c71_71, hL, wrO_at, if_pos (by omega), Nat.sub_zero]
  generalize owS w D n dw sn N (nI f) root S = T at m27 m71 ⊢
  have key : ev 158 48 [some (.ref (58 : Nat)), o1, some (.int p), some (.int (orUs (L.take 0) us)), some (.int (nI f)), some (.int (nI 0))] [] KF (mix G T) J (RQ q) = ev 158 48 [some (.ref (58 : Nat)), o1, some (.int p), some (.int (orUs (L.take L.length) us)), some (.int (nI f)), some (.int (nI L.length))] [] KF (mix G T) J (RQ q) := iter (fun k => ev 158 48 [some (.ref (58 : Nat)), o1, some (.int p), some (.int (orUs (L.take k) us)), some (.int (nI f)), some (.int (nI k))] [] KF (mix G T) J (RQ q)) L.length (fun k hk => by
    have g0 := lt_nI hk (show L.length < 2147483648 by omega)
    have g1 := inb_nI (show k < 16 by omega) (show 16 < 2147483648 by omega)
    have g2 := cl_nI (show k < 2147483648 by omega)
    rw [e158_48]
    simp only [e158_0, e158_1, e158_2, e158_5, e158_8, e158_9, e158_10, e158_13, e158_16, e158_18, e158_19, e158_20, e158_21, e158_24, e158_25, e158_26, e158_27, e158_31, e158_32, e158_35, e158_38, e158_39, e158_41, e158_44, e158_45, e158_46, e158_50, e158_51, e158_54, e158_57, e158_58, e158_59, e158_60, e158_63, e158_65, e158_66, e158_67, e158_68, e158_69, e158_72, e158_75, e158_78, e158_81, e158_82, e158_84, e158_85, e158_87, e158_89, e158_90, e158_93, e158_96, e158_98, e158_99, e158_101, e158_104, e158_107, e158_108, e158_110, e158_113, e158_116, e158_117, e158_119, e158_120, e158_123, e158_124, e158_127, e158_128, e158_130, e158_133, e158_136, e158_137, e158_139, e158_140, e158_143, e158_144, e158_145, e158_147, e158_150, e158_153, e158_155, kf_0, ik_1, ik_2, ik_3, kf_8, ik_9, kf_10, ik_11, ik_28, ik_29, kf_30, ik_31, ik_48, ik_49, kf_50, kf_51, ik_52, ik_53, ik_54, kf_55, kf_56, ik_57, kf_58, ik_59, ik_60, ik_61, ik_62, ik_63, ik_64, ik_65, ik_66, ik_67, ik_68, ik_69, ik_70, ik_71, ik_72, ik_73, ik_74, rq_0_0, rq_0_1, rq_0_2, rq_0_3, rq_0_4, rq_0_5, rq_0_6, rq_0_7, rq_0_8, rq_8_0, rq_10_0, rq_10_1, rq_10_2, rq_30_0, rq_30_1, rq_30_2, rq_50_0, rq_51_0, rq_51_1, rq_51_2, rq_51_3, rq_51_4, rq_51_5, rq_56_0, rq_56_1, rq_56_2, rq_58_1, rq_58_3, rq_58_4, rq_58_5, rq_58_7, rq_58_8, rq_58_11, rq_58_12, rq_58_13, rq_58_14, rq_58_15, rq_58_25, rq_58_26, rq_58_29, rq_58_30, rq_58_31, rq_3, rq_11, rq_31, rq_law, rv_s, cl_i, cl_r, cl_n, tl_s, tl_n, kont_some, le4_0, le4_1, le4_2, le4_3, le4_4, eq_self, or_true, true_or, and_true, true_and, mg_0, pg_0, mg_1, pg_1, mg_2, pg_2, mg_8, pg_8, mg_9, pg_9, mg_10, pg_10, mg_28, pg_28, mg_29, pg_29, mg_30, pg_30, mg_48, pg_48, mg_49, pg_49, mg_59, pg_59, mg_60, pg_60, mg_61, pg_61, mg_62, pg_62, mg_63, pg_63, mg_64, pg_64, mg_65, pg_65, mg_66, pg_66, mg_67, pg_67, mg_68, pg_68, mg_69, pg_69, mg_72, pg_72, mg_73, pg_73, mg_74, pg_74, ms_50, ps_50, ms_51, ps_51, ms_52, ps_52, ms_53, ps_53, ms_54, ps_54, ms_56, ps_56, ms_57, ps_57, ms_70, ps_70, ms_71, ps_71, mg_58_0, pg_58_0, mg_58_2, pg_58_2, mg_58_6, pg_58_6, mg_58_9, pg_58_9, mg_58_10, pg_58_10, ms_58_16, ps_58_16, ms_58_17, ps_58_17, ms_58_18, ps_58_18, ms_58_19, ps_58_19, ms_58_20, ps_58_20, ms_58_21, ps_58_21, ms_58_22, ps_58_22, ms_58_23, ps_58_23, ms_58_24, ps_58_24, ms_58_27, ps_58_27, ms_58_28, ps_58_28, mg_58_32, pg_58_32, mg_58_33, pg_58_33, m27, m71 k hk, g0, g1, g2, ↓reduceIte, b1_eq, nI_1, take_getD hk, orUs_snoc])
  rw [List.take_zero, List.take_length, nI_0] at key
  refine key.trans ?_
  rw [e158_48]
  simp only [e158_0, e158_1, e158_2, e158_5, e158_8, e158_9, e158_10, e158_13, e158_16, e158_18, e158_19, e158_20, e158_21, e158_24, e158_25, e158_26, e158_27, e158_31, e158_32, e158_35, e158_38, e158_39, e158_41, e158_44, e158_45, e158_46, e158_50, e158_51, e158_54, e158_57, e158_58, e158_59, e158_60, e158_63, e158_65, e158_66, e158_67, e158_68, e158_69, e158_72, e158_75, e158_78, e158_81, e158_82, e158_84, e158_85, e158_87, e158_89, e158_90, e158_93, e158_96, e158_98, e158_99, e158_101, e158_104, e158_107, e158_108, e158_110, e158_113, e158_116, e158_117, e158_119, e158_120, e158_123, e158_124, e158_127, e158_128, e158_130, e158_133, e158_136, e158_137, e158_139, e158_140, e158_143, e158_144, e158_145, e158_147, e158_150, e158_153, e158_155, kf_0, ik_1, ik_2, ik_3, kf_8, ik_9, kf_10, ik_11, ik_28, ik_29, kf_30, ik_31, ik_48, ik_49, kf_50, kf_51, ik_52, ik_53, ik_54, kf_55, kf_56, ik_57, kf_58, ik_59, ik_60, ik_61, ik_62, ik_63, ik_64, ik_65, ik_66, ik_67, ik_68, ik_69, ik_70, ik_71, ik_72, ik_73, ik_74, rq_0_0, rq_0_1, rq_0_2, rq_0_3, rq_0_4, rq_0_5, rq_0_6, rq_0_7, rq_0_8, rq_8_0, rq_10_0, rq_10_1, rq_10_2, rq_30_0, rq_30_1, rq_30_2, rq_50_0, rq_51_0, rq_51_1, rq_51_2, rq_51_3, rq_51_4, rq_51_5, rq_56_0, rq_56_1, rq_56_2, rq_58_1, rq_58_3, rq_58_4, rq_58_5, rq_58_7, rq_58_8, rq_58_11, rq_58_12, rq_58_13, rq_58_14, rq_58_15, rq_58_25, rq_58_26, rq_58_29, rq_58_30, rq_58_31, rq_3, rq_11, rq_31, rq_law, rv_s, cl_i, cl_r, cl_n, tl_s, tl_n, kont_some, le4_0, le4_1, le4_2, le4_3, le4_4, eq_self, or_true, true_or, and_true, true_and, mg_0, pg_0, mg_1, pg_1, mg_2, pg_2, mg_8, pg_8, mg_9, pg_9, mg_10, pg_10, mg_28, pg_28, mg_29, pg_29, mg_30, pg_30, mg_48, pg_48, mg_49, pg_49, mg_59, pg_59, mg_60, pg_60, mg_61, pg_61, mg_62, pg_62, mg_63, pg_63, mg_64, pg_64, mg_65, pg_65, mg_66, pg_66, mg_67, pg_67, mg_68, pg_68, mg_69, pg_69, mg_72, pg_72, mg_73, pg_73, mg_74, pg_74, ms_50, ps_50, ms_51, ps_51, ms_52, ps_52, ms_53, ps_53, ms_54, ps_54, ms_56, ps_56, ms_57, ps_57, ms_70, ps_70, ms_71, ps_71, mg_58_0, pg_58_0, mg_58_2, pg_58_2, mg_58_6, pg_58_6, mg_58_9, pg_58_9, mg_58_10, pg_58_10, ms_58_16, ps_58_16, ms_58_17, ps_58_17, ms_58_18, ps_58_18, ms_58_19, ps_58_19, ms_58_20, ps_58_20, ms_58_21, ps_58_21, ms_58_22, ps_58_22, ms_58_23, ps_58_23, ms_58_24, ps_58_24, ms_58_27, ps_58_27, ms_58_28, ps_58_28, mg_58_32, pg_58_32, mg_58_33, pg_58_33, m27, Int32.lt_irrefl, ↓reduceIte, nI_1]
theorem h158a {nf : Nat} {p : Int32} {o1 : Option Value} (hM : HM G n D) (hA : HA G l n D w dw sn N) (hW : WD D n) (hnf : G 58 2 = nI nf) (h6 : nf ≤ 6) : ∀ (m k : Nat), k + m = nf → ∀ (S : SG) (o5 : Option Value), HT (mix G S) l n D w dw sn N → ∃ S', HT (mix G S') l n D w dw sn N ∧ ev 158 29 [some (.ref (58 : Nat)), o1, some (.int p), some (.int (usM w D n dw sn N (G 60) k)), some (.int (nI k)), o5] [] KF (mix G S) J (RQ q) = ev 158 87 [some (.ref (58 : Nat)), o1, some (.int p), some (.int (usM w D n dw sn N (G 60) nf)), some (.int 0), some (.int 0)] [] KF (mix G S') J (RQ q) := by
  intro m
  induction m with
  | zero =>
    intro k hk S o5 hT
    obtain rfl : k = nf := by omega
    refine ⟨S, hT, ?_⟩
    rw [e158_29]
    simp only [e158_0, e158_1, e158_2, e158_5, e158_8, e158_9, e158_10, e158_13, e158_16, e158_18, e158_19, e158_20, e158_21, e158_24, e158_25, e158_26, e158_27, e158_31, e158_32, e158_35, e158_38, e158_39, e158_41, e158_44, e158_45, e158_46, e158_50, e158_51, e158_54, e158_57, e158_58, e158_59, e158_60, e158_63, e158_65, e158_66, e158_67, e158_68, e158_69, e158_72, e158_75, e158_78, e158_81, e158_82, e158_84, e158_85, e158_89, e158_90, e158_93, e158_96, e158_98, e158_99, e158_101, e158_104, e158_107, e158_108, e158_110, e158_113, e158_116, e158_117, e158_119, e158_120, e158_123, e158_124, e158_127, e158_128, e158_130, e158_133, e158_136, e158_137, e158_139, e158_140, e158_143, e158_144, e158_145, e158_147, e158_150, e158_153, e158_155, kf_0, ik_1, ik_2, ik_3, kf_8, ik_9, kf_10, ik_11, ik_28, ik_29, kf_30, ik_31, ik_48, ik_49, kf_50, kf_51, ik_52, ik_53, ik_54, kf_55, kf_56, ik_57, kf_58, ik_59, ik_60, ik_61, ik_62, ik_63, ik_64, ik_65, ik_66, ik_67, ik_68, ik_69, ik_70, ik_71, ik_72, ik_73, ik_74, rq_0_0, rq_0_1, rq_0_2, rq_0_3, rq_0_4, rq_0_5, rq_0_6, rq_0_7, rq_0_8, rq_8_0, rq_10_0, rq_10_1, rq_10_2, rq_30_0, rq_30_1, rq_30_2, rq_50_0, rq_51_0, rq_51_1, rq_51_2, rq_51_3, rq_51_4, rq_51_5, rq_56_0, rq_56_1, rq_56_2, rq_58_1, rq_58_3, rq_58_4, rq_58_5, rq_58_7, rq_58_8, rq_58_11, rq_58_12, rq_58_13, rq_58_14, rq_58_15, rq_58_25, rq_58_26, rq_58_29, rq_58_30, rq_58_31, rq_3, rq_11, rq_31, rq_law, rv_s, cl_i, cl_r, cl_n, tl_s, tl_n, kont_some, le4_0, le4_1, le4_2, le4_3, le4_4, eq_self, or_true, true_or, and_true, true_and, mg_0, pg_0, mg_1, pg_1, mg_2, pg_2, mg_8, pg_8, mg_9, pg_9, mg_10, pg_10, mg_28, pg_28, mg_29, pg_29, mg_30, pg_30, mg_48, pg_48, mg_49, pg_49, mg_59, pg_59, mg_60, pg_60, mg_61, pg_61, mg_62, pg_62, mg_63, pg_63, mg_64, pg_64, mg_65, pg_65, mg_66, pg_66, mg_67, pg_67, mg_68, pg_68, mg_69, pg_69, mg_72, pg_72, mg_73, pg_73, mg_74, pg_74, ms_50, ps_50, ms_51, ps_51, ms_52, ps_52, ms_53, ps_53, ms_54, ps_54, ms_56, ps_56, ms_57, ps_57, ms_70, ps_70, ms_71, ps_71, mg_58_0, pg_58_0, mg_58_2, pg_58_2, mg_58_6, pg_58_6, mg_58_9, pg_58_9, mg_58_10, pg_58_10, ms_58_16, ps_58_16, ms_58_17, ps_58_17, ms_58_18, ps_58_18, ms_58_19, ps_58_19, ms_58_20, ps_58_20, ms_58_21, ps_58_21, ms_58_22, ps_58_22, ms_58_23, ps_58_23, ms_58_24, ps_58_24, ms_58_27, ps_58_27, ms_58_28, ps_58_28, mg_58_32, pg_58_32, mg_58_33, pg_58_33, hnf, Int32.lt_irrefl, ↓reduceIte]
  | succ m ih =>
    intro k hkm S o5 hT
    have hk : k < nf := by omega
    have g0 := lt_nI hk (show nf < 2147483648 by omega)
    have y147 := s147 (J := J) (q := q) hM hA hT hW (show k < 6 by omega)
    have yi := h158i (G := G) (S := S) (J := J) (q := q) (w := w) (D := D) (n := n) (dw := dw) (sn := sn) (N := N) (f := k) (root := G 60 k) (us := usM w D n dw sn N (G 60) k) (o1 := o1) (p := p) rfl (chn_len _ _ _)
    obtain ⟨S', hT', h⟩ := ih (k + 1) (by omega) (owS w D n dw sn N (nI k) (G 60 k) S) (some (.int (nI (chX w D n dw sn N (nI k) (G 60 k)).length))) (HT.c71 hT)
    refine ⟨S', hT', ?_⟩
    rw [e158_29]
    simp only [e158_0, e158_1, e158_2, e158_5, e158_8, e158_9, e158_10, e158_13, e158_16, e158_18, e158_19, e158_20, e158_21, e158_24, e158_25, e158_26, e158_27, e158_31, e158_32, e158_35, e158_38, e158_39, e158_41, e158_44, e158_45, e158_46, e158_50, e158_51, e158_54, e158_57, e158_58, e158_59, e158_60, e158_63, e158_65, e158_66, e158_67, e158_68, e158_69, e158_72, e158_75, e158_78, e158_81, e158_82, e158_84, e158_85, e158_89, e158_90, e158_93, e158_96, e158_98, e158_99, e158_101, e158_104, e158_107, e158_108, e158_110, e158_113, e158_116, e158_117, e158_119, e158_120, e158_123, e158_124, e158_127, e158_128, e158_130, e158_133, e158_136, e158_137, e158_139, e158_140, e158_143, e158_144, e158_145, e158_147, e158_150, e158_153, e158_155, kf_0, ik_1, ik_2, ik_3, kf_8, ik_9, kf_10, ik_11, ik_28, ik_29, kf_30, ik_31, ik_48, ik_49, kf_50, kf_51, ik_52, ik_53, ik_54, kf_55, kf_56, ik_57, kf_58, ik_59, ik_60, ik_61, ik_62, ik_63, ik_64, ik_65, ik_66, ik_67, ik_68, ik_69, ik_70, ik_71, ik_72, ik_73, ik_74, rq_0_0, rq_0_1, rq_0_2, rq_0_3, rq_0_4, rq_0_5, rq_0_6, rq_0_7, rq_0_8, rq_8_0, rq_10_0, rq_10_1, rq_10_2, rq_30_0, rq_30_1, rq_30_2, rq_50_0, rq_51_0, rq_51_1, rq_51_2, rq_51_3, rq_51_4, rq_51_5, rq_56_0, rq_56_1, rq_56_2, rq_58_1, rq_58_3, rq_58_4, rq_58_5, rq_58_7, rq_58_8, rq_58_11, rq_58_12, rq_58_13, rq_58_14, rq_58_15, rq_58_25, rq_58_26, rq_58_29, rq_58_30, rq_58_31, rq_3, rq_11, rq_31, rq_law, rv_s, cl_i, cl_r, cl_n, tl_s, tl_n, kont_some, le4_0, le4_1, le4_2, le4_3, le4_4, eq_self, or_true, true_or, and_true, true_and, mg_0, pg_0, mg_1, pg_1, mg_2, pg_2, mg_8, pg_8, mg_9, pg_9, mg_10, pg_10, mg_28, pg_28, mg_29, pg_29, mg_30, pg_30, mg_48, pg_48, mg_49, pg_49, mg_59, pg_59, mg_60, pg_60, mg_61, pg_61, mg_62, pg_62, mg_63, pg_63, mg_64, pg_64, mg_65, pg_65, mg_66, pg_66, mg_67, pg_67, mg_68, pg_68, mg_69, pg_69, mg_72, pg_72, mg_73, pg_73, mg_74, pg_74, ms_50, ps_50, ms_51, ps_51, ms_52, ps_52, ms_53, ps_53, ms_54, ps_54, ms_56, ps_56, ms_57, ps_57, ms_70, ps_70, ms_71, ps_71, mg_58_0, pg_58_0, mg_58_2, pg_58_2, mg_58_6, pg_58_6, mg_58_9, pg_58_9, mg_58_10, pg_58_10, ms_58_16, ps_58_16, ms_58_17, ps_58_17, ms_58_18, ps_58_18, ms_58_19, ps_58_19, ms_58_20, ps_58_20, ms_58_21, ps_58_21, ms_58_22, ps_58_22, ms_58_23, ps_58_23, ms_58_24, ps_58_24, ms_58_27, ps_58_27, ms_58_28, ps_58_28, mg_58_32, pg_58_32, mg_58_33, pg_58_33, hnf, g0, ↓reduceIte, y147]
    exact yi.trans h
theorem h158b {p us : Int32} {o1 : Option Value} (hM : HM G n D) (hA : HA G l n D w dw sn N) (hT : HT G l n D w dw sn N) : ev 158 87 [some (.ref (58 : Nat)), o1, some (.int p), some (.int us), some (.int 0), some (.int 0)] [] KF G J (RQ q) = some ((KF, G, J, RQ q), some (.int (msk (fun j => pasB D j && payB (w 3) D j && decide (D j 2 = p) && !bt us j) n))) := by
  have key : ev 158 87 [some (.ref (58 : Nat)), o1, some (.int p), some (.int us), some (.int (msk (fun j => pasB D j && payB (w 3) D j && decide (D j 2 = p) && !bt us j) 0)), some (.int (nI 0))] [] KF G J (RQ q) = ev 158 87 [some (.ref (58 : Nat)), o1, some (.int p), some (.int us), some (.int (msk (fun j => pasB D j && payB (w 3) D j && decide (D j 2 = p) && !bt us j) n)), some (.int (nI n))] [] KF G J (RQ q) := iter (fun i => ev 158 87 [some (.ref (58 : Nat)), o1, some (.int p), some (.int us), some (.int (msk (fun j => pasB D j && payB (w 3) D j && decide (D j 2 = p) && !bt us j) i)), some (.int (nI i))] [] KF G J (RQ q)) n (fun i hi => by
    have h16 := hM.2.1
    have f1 := lt_nI hi (show n < 2147483648 by omega)
    have f2 := inb_nI (show i < 16 by omega) (show 16 < 2147483648 by omega)
    have f3 := cl_nI (show i < 2147483648 by omega)
    have f5 : i < 32 := by omega
    have f6 : i < 16 := by omega
    have hn := hM.1
    have t0 := fun (J : SJ) (q : Nat) => s113_0 (J := J) (q := q) hM hi
    have t1 := fun (J : SJ) (q : Nat) => s113_1 (J := J) (q := q) hM hi
    have t2 := fun (J : SJ) (q : Nat) => s113_2 (J := J) (q := q) hM hi
    have t3 := fun (J : SJ) (q : Nat) => s113_3 (J := J) (q := q) hM hi
    have t4 := fun (J : SJ) (q : Nat) => s113_4 (J := J) (q := q) hM hi
    have t5 := fun (J : SJ) (q : Nat) => s113_5 (J := J) (q := q) hM hi
    have t6 := fun (J : SJ) (q : Nat) => s113_6 (J := J) (q := q) hM hi
    have t7 := fun (J : SJ) (q : Nat) => s113_7 (J := J) (q := q) hM hi
    have t8 := fun (J : SJ) (q : Nat) => s113_8 (J := J) (q := q) hM hi
    have t9 := fun (J : SJ) (q : Nat) => s113_9 (J := J) (q := q) hM hi
    rw [e158_87]
    simp only [e158_0, e158_1, e158_2, e158_5, e158_8, e158_9, e158_10, e158_13, e158_16, e158_18, e158_19, e158_20, e158_21, e158_24, e158_25, e158_26, e158_27, e158_29, e158_31, e158_32, e158_35, e158_38, e158_39, e158_41, e158_44, e158_45, e158_46, e158_48, e158_50, e158_51, e158_54, e158_57, e158_58, e158_59, e158_60, e158_63, e158_65, e158_66, e158_67, e158_68, e158_69, e158_72, e158_75, e158_78, e158_81, e158_82, e158_84, e158_85, e158_89, e158_90, e158_93, e158_96, e158_98, e158_99, e158_101, e158_104, e158_107, e158_108, e158_110, e158_113, e158_116, e158_117, e158_119, e158_120, e158_123, e158_124, e158_127, e158_128, e158_130, e158_133, e158_136, e158_137, e158_139, e158_140, e158_143, e158_144, e158_145, e158_147, e158_150, e158_153, e158_155, kf_0, ik_1, ik_2, ik_3, kf_8, ik_9, kf_10, ik_11, ik_28, ik_29, kf_30, ik_31, ik_48, ik_49, kf_50, kf_51, ik_52, ik_53, ik_54, kf_55, kf_56, ik_57, kf_58, ik_59, ik_60, ik_61, ik_62, ik_63, ik_64, ik_65, ik_66, ik_67, ik_68, ik_69, ik_70, ik_71, ik_72, ik_73, ik_74, rq_0_0, rq_0_1, rq_0_2, rq_0_3, rq_0_4, rq_0_5, rq_0_6, rq_0_7, rq_0_8, rq_8_0, rq_10_0, rq_10_1, rq_10_2, rq_30_0, rq_30_1, rq_30_2, rq_50_0, rq_51_0, rq_51_1, rq_51_2, rq_51_3, rq_51_4, rq_51_5, rq_56_0, rq_56_1, rq_56_2, rq_58_1, rq_58_3, rq_58_4, rq_58_5, rq_58_7, rq_58_8, rq_58_11, rq_58_12, rq_58_13, rq_58_14, rq_58_15, rq_58_25, rq_58_26, rq_58_29, rq_58_30, rq_58_31, rq_3, rq_11, rq_31, rq_law, rv_s, cl_i, cl_r, cl_n, tl_s, tl_n, kont_some, le4_0, le4_1, le4_2, le4_3, le4_4, eq_self, or_true, true_or, and_true, true_and, f1, f2, f3, hn, t0, t1, t2, t3, t4, t5, t6, t7, t8, t9, nI_1, b1_eq, ↓reduceIte, s129 hM hi, s140 hM hA hT hi, s105 f5, bi_0, msk, decide_eq_true_eq, Bool.and_eq_true, Bool.not_eq_true']
    by_cases c1 : pasB D i = true
    · by_cases c2 : payB (w 3) D i = true
      · by_cases c3 : D i 2 = p
        · cases c4 : bt us i <;> simp only [c1, c2, c3, c4, ↓reduceIte, not_true_eq_false, not_false_eq_true, e158_0, e158_1, e158_2, e158_5, e158_8, e158_9, e158_10, e158_13, e158_16, e158_18, e158_19, e158_20, e158_21, e158_24, e158_25, e158_26, e158_27, e158_29, e158_31, e158_32, e158_35, e158_38, e158_39, e158_41, e158_44, e158_45, e158_46, e158_48, e158_50, e158_51, e158_54, e158_57, e158_58, e158_59, e158_60, e158_63, e158_65, e158_66, e158_67, e158_68, e158_69, e158_72, e158_75, e158_78, e158_81, e158_82, e158_84, e158_85, e158_89, e158_90, e158_93, e158_96, e158_98, e158_99, e158_101, e158_104, e158_107, e158_108, e158_110, e158_113, e158_116, e158_117, e158_119, e158_120, e158_123, e158_124, e158_127, e158_128, e158_130, e158_133, e158_136, e158_137, e158_139, e158_140, e158_143, e158_144, e158_145, e158_147, e158_150, e158_153, e158_155, kf_0, ik_1, ik_2, ik_3, kf_8, ik_9, kf_10, ik_11, ik_28, ik_29, kf_30, ik_31, ik_48, ik_49, kf_50, kf_51, ik_52, ik_53, ik_54, kf_55, kf_56, ik_57, kf_58, ik_59, ik_60, ik_61, ik_62, ik_63, ik_64, ik_65, ik_66, ik_67, ik_68, ik_69, ik_70, ik_71, ik_72, ik_73, ik_74, rq_0_0, rq_0_1, rq_0_2, rq_0_3, rq_0_4, rq_0_5, rq_0_6, rq_0_7, rq_0_8, rq_8_0, rq_10_0, rq_10_1, rq_10_2, rq_30_0, rq_30_1, rq_30_2, rq_50_0, rq_51_0, rq_51_1, rq_51_2, rq_51_3, rq_51_4, rq_51_5, rq_56_0, rq_56_1, rq_56_2, rq_58_1, rq_58_3, rq_58_4, rq_58_5, rq_58_7, rq_58_8, rq_58_11, rq_58_12, rq_58_13, rq_58_14, rq_58_15, rq_58_25, rq_58_26, rq_58_29, rq_58_30, rq_58_31, rq_3, rq_11, rq_31, rq_law, rv_s, cl_i, cl_r, cl_n, tl_s, tl_n, kont_some, le4_0, le4_1, le4_2, le4_3, le4_4, eq_self, or_true, true_or, and_true, true_and, and_false, false_and, and_self, nI_1, b1_eq, Int32.or_zero, Bool.false_eq_true, Bool.true_eq_false, s105 f5, bi_0]
        · simp only [c1, c2, c3, ↓reduceIte, not_true_eq_false, e158_0, e158_1, e158_2, e158_5, e158_8, e158_9, e158_10, e158_13, e158_16, e158_18, e158_19, e158_20, e158_21, e158_24, e158_25, e158_26, e158_27, e158_29, e158_31, e158_32, e158_35, e158_38, e158_39, e158_41, e158_44, e158_45, e158_46, e158_48, e158_50, e158_51, e158_54, e158_57, e158_58, e158_59, e158_60, e158_63, e158_65, e158_66, e158_67, e158_68, e158_69, e158_72, e158_75, e158_78, e158_81, e158_82, e158_84, e158_85, e158_89, e158_90, e158_93, e158_96, e158_98, e158_99, e158_101, e158_104, e158_107, e158_108, e158_110, e158_113, e158_116, e158_117, e158_119, e158_120, e158_123, e158_124, e158_127, e158_128, e158_130, e158_133, e158_136, e158_137, e158_139, e158_140, e158_143, e158_144, e158_145, e158_147, e158_150, e158_153, e158_155, kf_0, ik_1, ik_2, ik_3, kf_8, ik_9, kf_10, ik_11, ik_28, ik_29, kf_30, ik_31, ik_48, ik_49, kf_50, kf_51, ik_52, ik_53, ik_54, kf_55, kf_56, ik_57, kf_58, ik_59, ik_60, ik_61, ik_62, ik_63, ik_64, ik_65, ik_66, ik_67, ik_68, ik_69, ik_70, ik_71, ik_72, ik_73, ik_74, rq_0_0, rq_0_1, rq_0_2, rq_0_3, rq_0_4, rq_0_5, rq_0_6, rq_0_7, rq_0_8, rq_8_0, rq_10_0, rq_10_1, rq_10_2, rq_30_0, rq_30_1, rq_30_2, rq_50_0, rq_51_0, rq_51_1, rq_51_2, rq_51_3, rq_51_4, rq_51_5, rq_56_0, rq_56_1, rq_56_2, rq_58_1, rq_58_3, rq_58_4, rq_58_5, rq_58_7, rq_58_8, rq_58_11, rq_58_12, rq_58_13, rq_58_14, rq_58_15, rq_58_25, rq_58_26, rq_58_29, rq_58_30, rq_58_31, rq_3, rq_11, rq_31, rq_law, rv_s, cl_i, cl_r, cl_n, tl_s, tl_n, kont_some, le4_0, le4_1, le4_2, le4_3, le4_4, eq_self, or_true, true_or, and_true, true_and, and_false, false_and, nI_1, Int32.or_zero]
      · simp only [c1, c2, ↓reduceIte, not_true_eq_false, not_false_eq_true, e158_0, e158_1, e158_2, e158_5, e158_8, e158_9, e158_10, e158_13, e158_16, e158_18, e158_19, e158_20, e158_21, e158_24, e158_25, e158_26, e158_27, e158_29, e158_31, e158_32, e158_35, e158_38, e158_39, e158_41, e158_44, e158_45, e158_46, e158_48, e158_50, e158_51, e158_54, e158_57, e158_58, e158_59, e158_60, e158_63, e158_65, e158_66, e158_67, e158_68, e158_69, e158_72, e158_75, e158_78, e158_81, e158_82, e158_84, e158_85, e158_89, e158_90, e158_93, e158_96, e158_98, e158_99, e158_101, e158_104, e158_107, e158_108, e158_110, e158_113, e158_116, e158_117, e158_119, e158_120, e158_123, e158_124, e158_127, e158_128, e158_130, e158_133, e158_136, e158_137, e158_139, e158_140, e158_143, e158_144, e158_145, e158_147, e158_150, e158_153, e158_155, kf_0, ik_1, ik_2, ik_3, kf_8, ik_9, kf_10, ik_11, ik_28, ik_29, kf_30, ik_31, ik_48, ik_49, kf_50, kf_51, ik_52, ik_53, ik_54, kf_55, kf_56, ik_57, kf_58, ik_59, ik_60, ik_61, ik_62, ik_63, ik_64, ik_65, ik_66, ik_67, ik_68, ik_69, ik_70, ik_71, ik_72, ik_73, ik_74, rq_0_0, rq_0_1, rq_0_2, rq_0_3, rq_0_4, rq_0_5, rq_0_6, rq_0_7, rq_0_8, rq_8_0, rq_10_0, rq_10_1, rq_10_2, rq_30_0, rq_30_1, rq_30_2, rq_50_0, rq_51_0, rq_51_1, rq_51_2, rq_51_3, rq_51_4, rq_51_5, rq_56_0, rq_56_1, rq_56_2, rq_58_1, rq_58_3, rq_58_4, rq_58_5, rq_58_7, rq_58_8, rq_58_11, rq_58_12, rq_58_13, rq_58_14, rq_58_15, rq_58_25, rq_58_26, rq_58_29, rq_58_30, rq_58_31, rq_3, rq_11, rq_31, rq_law, rv_s, cl_i, cl_r, cl_n, tl_s, tl_n, kont_some, le4_0, le4_1, le4_2, le4_3, le4_4, eq_self, or_true, true_or, and_true, true_and, and_false, false_and, Bool.false_eq_true, nI_1, Int32.or_zero]
    · simp only [c1, ↓reduceIte, not_false_eq_true, e158_0, e158_1, e158_2, e158_5, e158_8, e158_9, e158_10, e158_13, e158_16, e158_18, e158_19, e158_20, e158_21, e158_24, e158_25, e158_26, e158_27, e158_29, e158_31, e158_32, e158_35, e158_38, e158_39, e158_41, e158_44, e158_45, e158_46, e158_48, e158_50, e158_51, e158_54, e158_57, e158_58, e158_59, e158_60, e158_63, e158_65, e158_66, e158_67, e158_68, e158_69, e158_72, e158_75, e158_78, e158_81, e158_82, e158_84, e158_85, e158_89, e158_90, e158_93, e158_96, e158_98, e158_99, e158_101, e158_104, e158_107, e158_108, e158_110, e158_113, e158_116, e158_117, e158_119, e158_120, e158_123, e158_124, e158_127, e158_128, e158_130, e158_133, e158_136, e158_137, e158_139, e158_140, e158_143, e158_144, e158_145, e158_147, e158_150, e158_153, e158_155, kf_0, ik_1, ik_2, ik_3, kf_8, ik_9, kf_10, ik_11, ik_28, ik_29, kf_30, ik_31, ik_48, ik_49, kf_50, kf_51, ik_52, ik_53, ik_54, kf_55, kf_56, ik_57, kf_58, ik_59, ik_60, ik_61, ik_62, ik_63, ik_64, ik_65, ik_66, ik_67, ik_68, ik_69, ik_70, ik_71, ik_72, ik_73, ik_74, rq_0_0, rq_0_1, rq_0_2, rq_0_3, rq_0_4, rq_0_5, rq_0_6, rq_0_7, rq_0_8, rq_8_0, rq_10_0, rq_10_1, rq_10_2, rq_30_0, rq_30_1, rq_30_2, rq_50_0, rq_51_0, rq_51_1, rq_51_2, rq_51_3, rq_51_4, rq_51_5, rq_56_0, rq_56_1, rq_56_2, rq_58_1, rq_58_3, rq_58_4, rq_58_5, rq_58_7, rq_58_8, rq_58_11, rq_58_12, rq_58_13, rq_58_14, rq_58_15, rq_58_25, rq_58_26, rq_58_29, rq_58_30, rq_58_31, rq_3, rq_11, rq_31, rq_law, rv_s, cl_i, cl_r, cl_n, tl_s, tl_n, kont_some, le4_0, le4_1, le4_2, le4_3, le4_4, eq_self, or_true, true_or, and_true, true_and, and_false, false_and, Bool.false_eq_true, nI_1, Int32.or_zero])
  rw [nI_0] at key
  refine key.trans ?_
  rw [e158_87]
  simp only [e158_0, e158_1, e158_2, e158_5, e158_8, e158_9, e158_10, e158_13, e158_16, e158_18, e158_19, e158_20, e158_21, e158_24, e158_25, e158_26, e158_27, e158_29, e158_31, e158_32, e158_35, e158_38, e158_39, e158_41, e158_44, e158_45, e158_46, e158_48, e158_50, e158_51, e158_54, e158_57, e158_58, e158_59, e158_60, e158_63, e158_65, e158_66, e158_67, e158_68, e158_69, e158_72, e158_75, e158_78, e158_81, e158_82, e158_84, e158_85, e158_89, e158_90, e158_93, e158_96, e158_98, e158_99, e158_101, e158_104, e158_107, e158_108, e158_110, e158_113, e158_116, e158_117, e158_119, e158_120, e158_123, e158_124, e158_127, e158_128, e158_130, e158_133, e158_136, e158_137, e158_139, e158_140, e158_143, e158_144, e158_145, e158_147, e158_150, e158_153, e158_155, kf_0, ik_1, ik_2, ik_3, kf_8, ik_9, kf_10, ik_11, ik_28, ik_29, kf_30, ik_31, ik_48, ik_49, kf_50, kf_51, ik_52, ik_53, ik_54, kf_55, kf_56, ik_57, kf_58, ik_59, ik_60, ik_61, ik_62, ik_63, ik_64, ik_65, ik_66, ik_67, ik_68, ik_69, ik_70, ik_71, ik_72, ik_73, ik_74, rq_0_0, rq_0_1, rq_0_2, rq_0_3, rq_0_4, rq_0_5, rq_0_6, rq_0_7, rq_0_8, rq_8_0, rq_10_0, rq_10_1, rq_10_2, rq_30_0, rq_30_1, rq_30_2, rq_50_0, rq_51_0, rq_51_1, rq_51_2, rq_51_3, rq_51_4, rq_51_5, rq_56_0, rq_56_1, rq_56_2, rq_58_1, rq_58_3, rq_58_4, rq_58_5, rq_58_7, rq_58_8, rq_58_11, rq_58_12, rq_58_13, rq_58_14, rq_58_15, rq_58_25, rq_58_26, rq_58_29, rq_58_30, rq_58_31, rq_3, rq_11, rq_31, rq_law, rv_s, cl_i, cl_r, cl_n, tl_s, tl_n, kont_some, le4_0, le4_1, le4_2, le4_3, le4_4, eq_self, or_true, true_or, and_true, true_and, hM.1, Int32.lt_irrefl, ↓reduceIte]
theorem usM_congr {r' : Nat → Int32} : ∀ k, (∀ f, f < k → r f = r' f) → usM w D n dw sn N r k = usM w D n dw sn N r' k := by
  intro k
  induction k with
  | zero => intro _; rfl
  | succ k ih => intro h; unfold usM; rw [ih (fun f hf => h f (by omega)), h k (by omega)]
theorem same_lost (l p : Int32) : SAME 82 158 [.int l, .int p] := same_of (fun G J q np nf nl pg n D hq hR => by
  have hR' := hR
  obtain ⟨a1, a2, a3, a4, a5, a6, a7, ⟨hX, hM, hN⟩, a9⟩ := hR
  have h16 := hX.2.1
  have hnl : nl < 2147483648 := by have := a5.2.2.1; omega
  have hnp : np < 2147483648 := by have := a1.2.2; omega
  have hW := hN.wd a1.2.2 a3.2.2
  by_cases h1 : ¬ l < 0 ∧ l < nI nl
  case neg =>
    refine ⟨G, G, J, J, q, q, .int (-101), hq, ⟨np, nf, nl, pg, n, D, hR'⟩, ?_, ?_⟩
    · rw [run_82]
      simp only [e82_0, e82_1, e82_2, e82_5, e82_8, e82_9, e82_10, e82_13, e82_16, e82_18, e82_19, e82_20, e82_21, e82_22, e82_26, e82_27, e82_30, e82_33, e82_34, e82_37, e82_38, e82_41, e82_42, e82_43, e82_45, e82_48, e82_49, e82_52, e82_53, e82_56, e82_58, e82_59, e82_62, e82_63, e82_64, e82_67, e82_68, e82_71, e82_72, e82_75, e82_78, e82_79, e82_82, e82_85, e82_86, e82_87, e82_88, e82_89, e82_90, e82_93, e82_96, e82_97, kf_0, ik_1, ik_2, ik_3, kf_8, ik_9, kf_10, ik_11, ik_28, ik_29, kf_30, ik_31, ik_48, ik_49, kf_50, kf_51, ik_52, ik_53, ik_54, kf_55, kf_56, ik_57, kf_58, ik_59, ik_60, ik_61, ik_62, ik_63, ik_64, ik_65, ik_66, ik_67, ik_68, ik_69, ik_70, ik_71, ik_72, ik_73, ik_74, rq_0_0, rq_0_1, rq_0_2, rq_0_3, rq_0_4, rq_0_5, rq_0_6, rq_0_7, rq_0_8, rq_8_0, rq_10_0, rq_10_1, rq_10_2, rq_30_0, rq_30_1, rq_30_2, rq_50_0, rq_51_0, rq_51_1, rq_51_2, rq_51_3, rq_51_4, rq_51_5, rq_56_0, rq_56_1, rq_56_2, rq_58_1, rq_58_3, rq_58_4, rq_58_5, rq_58_7, rq_58_8, rq_58_11, rq_58_12, rq_58_13, rq_58_14, rq_58_15, rq_58_25, rq_58_26, rq_58_29, rq_58_30, rq_58_31, rq_3, rq_11, rq_31, rq_law, rv_s, cl_i, cl_r, cl_n, tl_s, tl_n, kont_some, le4_0, le4_1, le4_2, le4_3, le4_4, eq_self, or_true, true_or, and_true, true_and, s95, a5.1, bi_0, h1, not_true_eq_false, not_false_eq_true, ↓reduceIte]
    · rw [run_158]
      simp only [e158_0, e158_1, e158_2, e158_5, e158_8, e158_9, e158_10, e158_13, e158_16, e158_18, e158_19, e158_20, e158_21, e158_24, e158_25, e158_26, e158_27, e158_31, e158_32, e158_35, e158_38, e158_39, e158_41, e158_44, e158_45, e158_46, e158_48, e158_50, e158_51, e158_54, e158_57, e158_58, e158_59, e158_60, e158_63, e158_65, e158_66, e158_67, e158_68, e158_69, e158_72, e158_75, e158_78, e158_81, e158_82, e158_84, e158_85, e158_87, e158_89, e158_90, e158_93, e158_96, e158_98, e158_99, e158_101, e158_104, e158_107, e158_108, e158_110, e158_113, e158_116, e158_117, e158_119, e158_120, e158_123, e158_124, e158_127, e158_128, e158_130, e158_133, e158_136, e158_137, e158_139, e158_140, e158_143, e158_144, e158_145, e158_147, e158_150, e158_153, e158_155, kf_0, ik_1, ik_2, ik_3, kf_8, ik_9, kf_10, ik_11, ik_28, ik_29, kf_30, ik_31, ik_48, ik_49, kf_50, kf_51, ik_52, ik_53, ik_54, kf_55, kf_56, ik_57, kf_58, ik_59, ik_60, ik_61, ik_62, ik_63, ik_64, ik_65, ik_66, ik_67, ik_68, ik_69, ik_70, ik_71, ik_72, ik_73, ik_74, rq_0_0, rq_0_1, rq_0_2, rq_0_3, rq_0_4, rq_0_5, rq_0_6, rq_0_7, rq_0_8, rq_8_0, rq_10_0, rq_10_1, rq_10_2, rq_30_0, rq_30_1, rq_30_2, rq_50_0, rq_51_0, rq_51_1, rq_51_2, rq_51_3, rq_51_4, rq_51_5, rq_56_0, rq_56_1, rq_56_2, rq_58_1, rq_58_3, rq_58_4, rq_58_5, rq_58_7, rq_58_8, rq_58_11, rq_58_12, rq_58_13, rq_58_14, rq_58_15, rq_58_25, rq_58_26, rq_58_29, rq_58_30, rq_58_31, rq_3, rq_11, rq_31, rq_law, rv_s, cl_i, cl_r, cl_n, tl_s, tl_n, kont_some, le4_0, le4_1, le4_2, le4_3, le4_4, eq_self, or_true, true_or, and_true, true_and, s128 a5.2.1 hnl, bi_0, h1, not_true_eq_false, not_false_eq_true, ↓reduceIte]
  by_cases h2 : ¬ p < 0 ∧ p < nI np
  case neg =>
    refine ⟨G, G, J, J, q, q, .int (-101), hq, ⟨np, nf, nl, pg, n, D, hR'⟩, ?_, ?_⟩
    · rw [run_82]
      simp only [e82_0, e82_1, e82_2, e82_5, e82_8, e82_9, e82_10, e82_13, e82_16, e82_18, e82_19, e82_20, e82_21, e82_22, e82_26, e82_27, e82_30, e82_33, e82_34, e82_37, e82_38, e82_41, e82_42, e82_43, e82_45, e82_48, e82_49, e82_52, e82_53, e82_56, e82_58, e82_59, e82_62, e82_63, e82_64, e82_67, e82_68, e82_71, e82_72, e82_75, e82_78, e82_79, e82_82, e82_85, e82_86, e82_87, e82_88, e82_89, e82_90, e82_93, e82_96, e82_97, kf_0, ik_1, ik_2, ik_3, kf_8, ik_9, kf_10, ik_11, ik_28, ik_29, kf_30, ik_31, ik_48, ik_49, kf_50, kf_51, ik_52, ik_53, ik_54, kf_55, kf_56, ik_57, kf_58, ik_59, ik_60, ik_61, ik_62, ik_63, ik_64, ik_65, ik_66, ik_67, ik_68, ik_69, ik_70, ik_71, ik_72, ik_73, ik_74, rq_0_0, rq_0_1, rq_0_2, rq_0_3, rq_0_4, rq_0_5, rq_0_6, rq_0_7, rq_0_8, rq_8_0, rq_10_0, rq_10_1, rq_10_2, rq_30_0, rq_30_1, rq_30_2, rq_50_0, rq_51_0, rq_51_1, rq_51_2, rq_51_3, rq_51_4, rq_51_5, rq_56_0, rq_56_1, rq_56_2, rq_58_1, rq_58_3, rq_58_4, rq_58_5, rq_58_7, rq_58_8, rq_58_11, rq_58_12, rq_58_13, rq_58_14, rq_58_15, rq_58_25, rq_58_26, rq_58_29, rq_58_30, rq_58_31, rq_3, rq_11, rq_31, rq_law, rv_s, cl_i, cl_r, cl_n, tl_s, tl_n, kont_some, le4_0, le4_1, le4_2, le4_3, le4_4, eq_self, or_true, true_or, and_true, true_and, s95, s92, a5.1, a1.1, bi_0, h1, h2, not_true_eq_false, not_false_eq_true, ↓reduceIte, and_self]
    · rw [run_158]
      simp only [e158_0, e158_1, e158_2, e158_5, e158_8, e158_9, e158_10, e158_13, e158_16, e158_18, e158_19, e158_20, e158_21, e158_24, e158_25, e158_26, e158_27, e158_31, e158_32, e158_35, e158_38, e158_39, e158_41, e158_44, e158_45, e158_46, e158_48, e158_50, e158_51, e158_54, e158_57, e158_58, e158_59, e158_60, e158_63, e158_65, e158_66, e158_67, e158_68, e158_69, e158_72, e158_75, e158_78, e158_81, e158_82, e158_84, e158_85, e158_87, e158_89, e158_90, e158_93, e158_96, e158_98, e158_99, e158_101, e158_104, e158_107, e158_108, e158_110, e158_113, e158_116, e158_117, e158_119, e158_120, e158_123, e158_124, e158_127, e158_128, e158_130, e158_133, e158_136, e158_137, e158_139, e158_140, e158_143, e158_144, e158_145, e158_147, e158_150, e158_153, e158_155, kf_0, ik_1, ik_2, ik_3, kf_8, ik_9, kf_10, ik_11, ik_28, ik_29, kf_30, ik_31, ik_48, ik_49, kf_50, kf_51, ik_52, ik_53, ik_54, kf_55, kf_56, ik_57, kf_58, ik_59, ik_60, ik_61, ik_62, ik_63, ik_64, ik_65, ik_66, ik_67, ik_68, ik_69, ik_70, ik_71, ik_72, ik_73, ik_74, rq_0_0, rq_0_1, rq_0_2, rq_0_3, rq_0_4, rq_0_5, rq_0_6, rq_0_7, rq_0_8, rq_8_0, rq_10_0, rq_10_1, rq_10_2, rq_30_0, rq_30_1, rq_30_2, rq_50_0, rq_51_0, rq_51_1, rq_51_2, rq_51_3, rq_51_4, rq_51_5, rq_56_0, rq_56_1, rq_56_2, rq_58_1, rq_58_3, rq_58_4, rq_58_5, rq_58_7, rq_58_8, rq_58_11, rq_58_12, rq_58_13, rq_58_14, rq_58_15, rq_58_25, rq_58_26, rq_58_29, rq_58_30, rq_58_31, rq_3, rq_11, rq_31, rq_law, rv_s, cl_i, cl_r, cl_n, tl_s, tl_n, kont_some, le4_0, le4_1, le4_2, le4_3, le4_4, eq_self, or_true, true_or, and_true, true_and, s128 a5.2.1 hnl, s108 a1.2.1 hnp, bi_0, h1, h2, not_true_eq_false, not_false_eq_true, ↓reduceIte, and_self]
  obtain ⟨i, hi, rfl⟩ := nJ_of hnl h1
  have h4 : i < 4 := by have := a5.2.2.1; omega
  have hA := hR'.ha hi
  obtain ⟨S1, q1, hq1, hx⟩ := h82 (J := J) (p := p) hX hW h4 a3.1 a3.2.2 nf 0 (by omega) G q hq
  rw [mix_self] at hx
  have y137 := s137 (J := J) (q := q1) (S := S1) hM hA hW
  obtain ⟨S2, hT2, hm⟩ := h158a (J := J) (q := q1) (o1 := some (.int (nI i))) (p := p) hM hA hW a3.2.1 a3.2.2 nf 0 (by omega) (tkS (G (4 + i)) D n (G 28) (G 29) (G 1) i S1 n) none tk_HT
  have hm2 := h158b (J := J) (q := q1) (p := p) (us := usM (G (4 + i)) D n (G 28) (G 29) (G 1) (G 60) nf) (o1 := some (.int (nI i))) hM.mix hA.mix hT2
  have eu : usM (G (4 + i)) D n (G 28) (G 29) (G 1) (G 60) nf = usM (G (4 + i)) D n (G 28) (G 29) (G 1) (G 2) nf := usM_congr nf (fun f hf => a4 f (by have := a3.2.2; omega))
  rw [eu, ls_eq h16 a3.2.2 (fun j hj => (hN j hj).1)] at hm2
  rw [eu] at hm
  refine ⟨mix G S1, mix G S2, J, J, q1, q1, .int (lsM (G (4 + i)) D n (G 28) (G 29) (G 1) (G 2) p nf), hq1, ⟨np, nf, nl, pg, n, D, hR'.mx⟩, ?_, ?_⟩
  · rw [run_82]
    simp only [e82_0, e82_1, e82_2, e82_5, e82_8, e82_9, e82_10, e82_13, e82_16, e82_18, e82_19, e82_20, e82_21, e82_22, e82_26, e82_27, e82_30, e82_33, e82_34, e82_37, e82_38, e82_41, e82_42, e82_43, e82_45, e82_48, e82_49, e82_52, e82_53, e82_56, e82_58, e82_59, e82_62, e82_63, e82_64, e82_67, e82_68, e82_71, e82_72, e82_75, e82_78, e82_79, e82_82, e82_85, e82_86, e82_87, e82_88, e82_89, e82_90, e82_93, e82_96, e82_97, kf_0, ik_1, ik_2, ik_3, kf_8, ik_9, kf_10, ik_11, ik_28, ik_29, kf_30, ik_31, ik_48, ik_49, kf_50, kf_51, ik_52, ik_53, ik_54, kf_55, kf_56, ik_57, kf_58, ik_59, ik_60, ik_61, ik_62, ik_63, ik_64, ik_65, ik_66, ik_67, ik_68, ik_69, ik_70, ik_71, ik_72, ik_73, ik_74, rq_0_0, rq_0_1, rq_0_2, rq_0_3, rq_0_4, rq_0_5, rq_0_6, rq_0_7, rq_0_8, rq_8_0, rq_10_0, rq_10_1, rq_10_2, rq_30_0, rq_30_1, rq_30_2, rq_50_0, rq_51_0, rq_51_1, rq_51_2, rq_51_3, rq_51_4, rq_51_5, rq_56_0, rq_56_1, rq_56_2, rq_58_1, rq_58_3, rq_58_4, rq_58_5, rq_58_7, rq_58_8, rq_58_11, rq_58_12, rq_58_13, rq_58_14, rq_58_15, rq_58_25, rq_58_26, rq_58_29, rq_58_30, rq_58_31, rq_3, rq_11, rq_31, rq_law, rv_s, cl_i, cl_r, cl_n, tl_s, tl_n, kont_some, le4_0, le4_1, le4_2, le4_3, le4_4, eq_self, or_true, true_or, and_true, true_and, s95, s92, a5.1, a1.1, bi_0, h1, h2, not_true_eq_false, not_false_eq_true, ↓reduceIte, and_self]
    exact hx
  · rw [run_158]
    simp only [e158_0, e158_1, e158_2, e158_5, e158_8, e158_9, e158_10, e158_13, e158_16, e158_18, e158_19, e158_20, e158_21, e158_24, e158_25, e158_26, e158_27, e158_31, e158_32, e158_35, e158_38, e158_39, e158_41, e158_44, e158_45, e158_46, e158_48, e158_50, e158_51, e158_54, e158_57, e158_58, e158_59, e158_60, e158_63, e158_65, e158_66, e158_67, e158_68, e158_69, e158_72, e158_75, e158_78, e158_81, e158_82, e158_84, e158_85, e158_87, e158_89, e158_90, e158_93, e158_96, e158_98, e158_99, e158_101, e158_104, e158_107, e158_108, e158_110, e158_113, e158_116, e158_117, e158_119, e158_120, e158_123, e158_124, e158_127, e158_128, e158_130, e158_133, e158_136, e158_137, e158_139, e158_140, e158_143, e158_144, e158_145, e158_147, e158_150, e158_153, e158_155, kf_0, ik_1, ik_2, ik_3, kf_8, ik_9, kf_10, ik_11, ik_28, ik_29, kf_30, ik_31, ik_48, ik_49, kf_50, kf_51, ik_52, ik_53, ik_54, kf_55, kf_56, ik_57, kf_58, ik_59, ik_60, ik_61, ik_62, ik_63, ik_64, ik_65, ik_66, ik_67, ik_68, ik_69, ik_70, ik_71, ik_72, ik_73, ik_74, rq_0_0, rq_0_1, rq_0_2, rq_0_3, rq_0_4, rq_0_5, rq_0_6, rq_0_7, rq_0_8, rq_8_0, rq_10_0, rq_10_1, rq_10_2, rq_30_0, rq_30_1, rq_30_2, rq_50_0, rq_51_0, rq_51_1, rq_51_2, rq_51_3, rq_51_4, rq_51_5, rq_56_0, rq_56_1, rq_56_2, rq_58_1, rq_58_3, rq_58_4, rq_58_5, rq_58_7, rq_58_8, rq_58_11, rq_58_12, rq_58_13, rq_58_14, rq_58_15, rq_58_25, rq_58_26, rq_58_29, rq_58_30, rq_58_31, rq_3, rq_11, rq_31, rq_law, rv_s, cl_i, cl_r, cl_n, tl_s, tl_n, kont_some, le4_0, le4_1, le4_2, le4_3, le4_4, eq_self, or_true, true_or, and_true, true_and, s128 (show mix G S1 58 10 = nI nl by rw [mg_58_10]; exact a5.2.1) hnl, s108 (show mix G S1 58 0 = nI np by rw [mg_58_0]; exact a1.2.1) hnp, bi_0, h1, h2, y137, not_true_eq_false, not_false_eq_true, ↓reduceIte, and_self]
    exact hm.trans hm2)
end OPS14
