/-! debts that ride, and their rank -/
section OPS12
variable {G S : SG} {J : SJ} {q n l : Nat} {D : DT} {w dw sn N : Nat → Int32}
theorem rdB_eq {f os : Int32} {B : Nat → Int32} {L : List Nat} {j : Nat} (hn : n ≤ 16) (hB : rowsOk D n f B (prvX w D n dw sn N)) (hL : ∀ d, d ∈ L → d < n ∧ fldB D f d = true ∧ pasB D d = true) (hj : j < n) : rdB D n (dkM D n f) os (orUs L 0) B j = rdP w D n dw sn N f os L j := by
  unfold rdB rdP
  rw [bt_dkM hn, decide_eq_true hj, Bool.true_and]
  by_cases h1 : fldB D f j = true
  case neg => simp [h1]
  by_cases h2 : pasB D j = true
  · simp [h2]
  have h2' : pasB D j = false := by simpa using h2
  rw [h1, h2']
  congr 1
  rw [Bool.eq_iff_iff, decide_eq_true_eq, and_zero, List.all_eq_true]
  constructor
  · intro z d hd
    obtain ⟨hdn, hdf, hdp⟩ := hL d hd
    have hne : d ≠ j := fun e => by rw [e, h2'] at hdp; cases hdp
    have := z d (by omega)
    rw [hB j d hj h1 (by omega), b_and, bt_orUs L (fun e he => by have := (hL e he).1; omega) 0 d (by omega), bt_pfM hn] at this
    rw [Bool.not_eq_true', Bool.and_eq_false_iff]
    by_cases y1 : D d 2 = D j 2
    · right
      cases y2 : prvX w D n dw sn N d j with
      | false => rfl
      | true => exact absurd (by simp [hdn, hdf, hdp, hne, y1, y2, hd, b_0]) this
    · left
      simp [y1]
  · intro z y hy
    rw [hB j y hj h1 hy, b_and, bt_orUs L (fun e he => by have := (hL e he).1; omega) 0 y hy, bt_pfM hn]
    intro x
    simp only [Bool.and_eq_true, decide_eq_true_eq, Bool.or_eq_true, b_0, Bool.false_eq_true, false_or, List.contains_iff_mem] at x
    have := z y x.2.1
    simp [x.1.2, x.2.2.2.2] at this
theorem s53o {f root : Int32} (hX : HX G n D) (hw : WFi D n) : run 53 [.ref (56 : Nat)] KF (mix G (ofS w D n dw sn N f root S)) J (RQ q) = some ((KF, mix G (ofS w D n dw sn N f root S), J, RQ q), some (.int (riM w D n dw sn N f root))) := by
  have h16 := hX.2.1
  have m54 : mix G (ofS w D n dw sn N f root S) 54 = opn w D n dw sn N f S 54 := by
    funext s
    rw [ms_54, ofS_eq h16, w56_54]
  have m51 : mix G (ofS w D n dw sn N f root S) 51 7 = dkM D n f := by rw [ms_51, ofS_eq h16, w56_51, opn_51]
  have m4 : mix G (ofS w D n dw sn N f root S) 56 4 = orOs D (chX w D n dw sn N f root) (bx root) := by rw [ms_56, ofS_eq h16, w56_4]
  have m5 : mix G (ofS w D n dw sn N f root S) 56 5 = orUs (chX w D n dw sn N f root) 0 := by rw [ms_56, ofS_eq h16, w56_5]
  rw [s53 hX.mix hw, m51, m4, m5, m54]
  have e : msk (rdB D n (dkM D n f) (orOs D (chX w D n dw sn N f root) (bx root)) (orUs (chX w D n dw sn N f root) 0) (opn w D n dw sn N f S 54)) n = riM w D n dw sn N f root := msk_congr (fun j hj => rdB_eq h16 (opn_rows h16) (fun d hd => chn_mem _ _ _ d hd) hj)
  rw [e]
def mrk (D : DT) (n : Nat) (pv : Nat → Nat → Bool) : Nat → Int32 → Int32
  | 0, s => oI (fstP D n pv (bt s))
  | m + 1, s => match fstP D n pv (bt s) with
    | none => -1
    | some d => mrk D n pv m (s &&& (b1 d ^^^ -1))
def subF (D : DT) (n : Nat) (f s : Int32) : Prop := ∀ j, j < 32 → bt s j = true → j < n ∧ fldB D f j = true
theorem subF_del {f s : Int32} {d : Nat} (h : subF D n f s) : subF D n f (s &&& (b1 d ^^^ -1)) := fun j hj z => by
  rw [b_and, Bool.and_eq_true] at z
  exact h j hj z.1
theorem subF_0 {f s : Int32} (h : subF D n f s) {pv : Nat → Nat → Bool} (hn : n ≤ 16) : fstP D n pv (bt s) = none ↔ s = 0 := by
  rw [fstP_none]
  constructor
  · intro z
    apply b_ext
    intro i hi
    rw [b_0]
    cases y : bt s i with
    | false => rfl
    | true => rw [z i (h i hi y).1] at y; cases y
  · intro z j hj
    rw [z, b_0]
theorem rnk_eq {f : Int32} {B : Nat → Int32} {pv : Nat → Nat → Bool} {p : Nat} (hn : n ≤ 16) (hB : rowsOk D n f B pv) : ∀ (m i k : Nat), i + m = p → m < k → ∀ s, subF D n f s → rnk D n B p k s i = mrk D n pv m s := by
  intro m
  induction m with
  | zero =>
    intro i k hi hk s hs
    match k, hk with
    | k + 1, _ =>
      unfold rnk mrk
      rw [firM_eq hn hB hs]
      cases hf : fstP D n pv (bt s) with
      | none => rfl
      | some d => simp only [show i = p by omega, ↓reduceIte]; rfl
  | succ m ih =>
    intro i k hi hk s hs
    match k, hk with
    | k + 1, hk =>
      unfold rnk mrk
      rw [firM_eq hn hB hs]
      cases hf : fstP D n pv (bt s) with
      | none => rfl
      | some d =>
        simp only [show ¬ i = p by omega, ↓reduceIte]
        exact ih (i + 1) k (by omega) (by omega) _ (subF_del hs)
theorem ri_sub {f root : Int32} (hn : n ≤ 16) : subF D n f (riM w D n dw sn N f root) := fun j hj z => by
  unfold riM at z
  rw [bt_msk (by omega), Bool.and_eq_true, decide_eq_true_eq] at z
  refine ⟨z.1, ?_⟩
  have := z.2
  unfold rdP at this
  simp only [Bool.and_eq_true] at this
  exact this.1.1.1
theorem s54o {f root : Int32} {p : Nat} (hX : HX G n D) (hp : p < 16) : run 54 [.ref (56 : Nat), .int (riM w D n dw sn N f root), .int (nI p)] KF (mix G (ofS w D n dw sn N f root S)) J (RQ q) = some ((KF, mix G (ofS w D n dw sn N f root S), J, RQ q), some (.int (mrk D n (prvX w D n dw sn N) p (riM w D n dw sn N f root)))) := by
  have h16 := hX.2.1
  have m54 : mix G (ofS w D n dw sn N f root S) 54 = opn w D n dw sn N f S 54 := by
    funext s
    rw [ms_54, ofS_eq h16, w56_54]
  rw [s54 _ hX.mix hp, m54, rnk_eq h16 (opn_rows h16) p 0 16 (by omega) (by omega) _ (ri_sub h16)]
theorem h150 {f : Int32} {p : Nat} {o1 o2 : Option Value} (hM : HM G n D) (hA : HA G l n D w dw sn N) (hT : HT G l n D w dw sn N) (hW : WD D n) (hp : p < 16) : ∀ (m i : Nat), i + m = p → ∀ s, subF D n f s → ev 150 66 [some (.ref (58 : Nat)), o1, o2, some (.int (nI (10 + p))), some (.int s), some (.int (nI (10 + i)))] [] KF G J (RQ q) = some ((KF, G, J, RQ q), some (.int (mrk D n (prvX w D n dw sn N) m s))) := by
  have h16 := hM.2.1
  intro m
  induction m with
  | zero =>
    intro i hi s hs
    obtain rfl : i = p := by omega
    have h0 := subF_0 (pv := prvX w D n dw sn N) hs h16
    have h144 := s144 (J := J) (q := q) (set := s) (f := f) hM hA hT hW (fun j hj z => by simpa [fldB] using (hs j (by omega) z).2)
    rw [e150_66]
    by_cases z : s = 0
    · simp only [e150_0, e150_1, e150_2, e150_5, e150_8, e150_9, e150_10, e150_13, e150_16, e150_18, e150_19, e150_20, e150_23, e150_24, e150_25, e150_28, e150_31, e150_34, e150_37, e150_39, e150_40, e150_41, e150_42, e150_45, e150_46, e150_47, e150_50, e150_52, e150_53, e150_56, e150_58, e150_61, e150_62, e150_64, e150_68, e150_69, e150_72, e150_74, e150_77, e150_79, e150_80, e150_81, e150_83, e150_86, e150_87, e150_88, e150_89, e150_90, e150_92, e150_95, e150_98, e150_100, e150_103, e150_104, e150_107, e150_108, e150_110, e150_113, kf_0, ik_1, ik_2, ik_3, kf_8, ik_9, kf_10, ik_11, ik_28, ik_29, kf_30, ik_31, ik_48, ik_49, kf_50, kf_51, ik_52, ik_53, ik_54, kf_55, kf_56, ik_57, kf_58, ik_59, ik_60, ik_61, ik_62, ik_63, ik_64, ik_65, ik_66, ik_67, ik_68, ik_69, ik_70, ik_71, ik_72, ik_73, ik_74, rq_0_0, rq_0_1, rq_0_2, rq_0_3, rq_0_4, rq_0_5, rq_0_6, rq_0_7, rq_0_8, rq_8_0, rq_10_0, rq_10_1, rq_10_2, rq_30_0, rq_30_1, rq_30_2, rq_50_0, rq_51_0, rq_51_1, rq_51_2, rq_51_3, rq_51_4, rq_51_5, rq_56_0, rq_56_1, rq_56_2, rq_58_1, rq_58_3, rq_58_4, rq_58_5, rq_58_7, rq_58_8, rq_58_11, rq_58_12, rq_58_13, rq_58_14, rq_58_15, rq_58_25, rq_58_26, rq_58_29, rq_58_30, rq_58_31, rq_3, rq_11, rq_31, rq_law, rv_s, cl_i, cl_r, cl_n, tl_s, tl_n, kont_some, le4_0, le4_1, le4_2, le4_3, le4_4, eq_self, or_true, true_or, and_true, true_and, Int32.lt_irrefl, z, ↓reduceIte, mrk]
      rw [← z, h0.mpr z]
      rfl
    · simp only [e150_0, e150_1, e150_2, e150_5, e150_8, e150_9, e150_10, e150_13, e150_16, e150_18, e150_19, e150_20, e150_23, e150_24, e150_25, e150_28, e150_31, e150_34, e150_37, e150_39, e150_40, e150_41, e150_42, e150_45, e150_46, e150_47, e150_50, e150_52, e150_53, e150_56, e150_58, e150_61, e150_62, e150_64, e150_68, e150_69, e150_72, e150_74, e150_77, e150_79, e150_80, e150_81, e150_83, e150_86, e150_87, e150_88, e150_89, e150_90, e150_92, e150_95, e150_98, e150_100, e150_103, e150_104, e150_107, e150_108, e150_110, e150_113, kf_0, ik_1, ik_2, ik_3, kf_8, ik_9, kf_10, ik_11, ik_28, ik_29, kf_30, ik_31, ik_48, ik_49, kf_50, kf_51, ik_52, ik_53, ik_54, kf_55, kf_56, ik_57, kf_58, ik_59, ik_60, ik_61, ik_62, ik_63, ik_64, ik_65, ik_66, ik_67, ik_68, ik_69, ik_70, ik_71, ik_72, ik_73, ik_74, rq_0_0, rq_0_1, rq_0_2, rq_0_3, rq_0_4, rq_0_5, rq_0_6, rq_0_7, rq_0_8, rq_8_0, rq_10_0, rq_10_1, rq_10_2, rq_30_0, rq_30_1, rq_30_2, rq_50_0, rq_51_0, rq_51_1, rq_51_2, rq_51_3, rq_51_4, rq_51_5, rq_56_0, rq_56_1, rq_56_2, rq_58_1, rq_58_3, rq_58_4, rq_58_5, rq_58_7, rq_58_8, rq_58_11, rq_58_12, rq_58_13, rq_58_14, rq_58_15, rq_58_25, rq_58_26, rq_58_29, rq_58_30, rq_58_31, rq_3, rq_11, rq_31, rq_law, rv_s, cl_i, cl_r, cl_n, tl_s, tl_n, kont_some, le4_0, le4_1, le4_2, le4_3, le4_4, eq_self, or_true, true_or, and_true, true_and, Int32.lt_irrefl, z, ↓reduceIte, h144, mrk]
  | succ m ih =>
    intro i hi s hs
    have g0 := lt_nI (show 10 + i < 10 + p by omega) (show 10 + p < 2147483648 by omega)
    have h0 := subF_0 (pv := prvX w D n dw sn N) hs h16
    have h144 := s144 (J := J) (q := q) (set := s) (f := f) hM hA hT hW (fun j hj z => by simpa [fldB] using (hs j (by omega) z).2)
    rw [e150_66]
    cases hf : fstP D n (prvX w D n dw sn N) (bt s) with
    | none =>
      have z := h0.mp hf
      have e : mrk D n (prvX w D n dw sn N) (m + 1) s = -1 := by unfold mrk; rw [hf]
      rw [e]
      simp only [e150_0, e150_1, e150_2, e150_5, e150_8, e150_9, e150_10, e150_13, e150_16, e150_18, e150_19, e150_20, e150_23, e150_24, e150_25, e150_28, e150_31, e150_34, e150_37, e150_39, e150_40, e150_41, e150_42, e150_45, e150_46, e150_47, e150_50, e150_52, e150_53, e150_56, e150_58, e150_61, e150_62, e150_64, e150_68, e150_69, e150_72, e150_74, e150_77, e150_79, e150_80, e150_81, e150_83, e150_86, e150_87, e150_88, e150_89, e150_90, e150_92, e150_95, e150_98, e150_100, e150_103, e150_104, e150_107, e150_108, e150_110, e150_113, kf_0, ik_1, ik_2, ik_3, kf_8, ik_9, kf_10, ik_11, ik_28, ik_29, kf_30, ik_31, ik_48, ik_49, kf_50, kf_51, ik_52, ik_53, ik_54, kf_55, kf_56, ik_57, kf_58, ik_59, ik_60, ik_61, ik_62, ik_63, ik_64, ik_65, ik_66, ik_67, ik_68, ik_69, ik_70, ik_71, ik_72, ik_73, ik_74, rq_0_0, rq_0_1, rq_0_2, rq_0_3, rq_0_4, rq_0_5, rq_0_6, rq_0_7, rq_0_8, rq_8_0, rq_10_0, rq_10_1, rq_10_2, rq_30_0, rq_30_1, rq_30_2, rq_50_0, rq_51_0, rq_51_1, rq_51_2, rq_51_3, rq_51_4, rq_51_5, rq_56_0, rq_56_1, rq_56_2, rq_58_1, rq_58_3, rq_58_4, rq_58_5, rq_58_7, rq_58_8, rq_58_11, rq_58_12, rq_58_13, rq_58_14, rq_58_15, rq_58_25, rq_58_26, rq_58_29, rq_58_30, rq_58_31, rq_3, rq_11, rq_31, rq_law, rv_s, cl_i, cl_r, cl_n, tl_s, tl_n, kont_some, le4_0, le4_1, le4_2, le4_3, le4_4, eq_self, or_true, true_or, and_true, true_and, g0, z, ↓reduceIte]
    | some d =>
      have z : ¬ s = 0 := fun y => by rw [h0.mpr y] at hf; cases hf
      have e : mrk D n (prvX w D n dw sn N) (m + 1) s = mrk D n (prvX w D n dw sn N) m (s &&& (b1 d ^^^ -1)) := by
        rw [mrk, hf]
      rw [hf] at h144
      rw [e]
      simp only [e150_0, e150_1, e150_2, e150_5, e150_8, e150_9, e150_10, e150_13, e150_16, e150_18, e150_19, e150_20, e150_23, e150_24, e150_25, e150_28, e150_31, e150_34, e150_37, e150_39, e150_40, e150_41, e150_42, e150_45, e150_46, e150_47, e150_50, e150_52, e150_53, e150_56, e150_58, e150_61, e150_62, e150_64, e150_68, e150_69, e150_72, e150_74, e150_77, e150_79, e150_80, e150_81, e150_83, e150_86, e150_87, e150_88, e150_89, e150_90, e150_92, e150_95, e150_98, e150_100, e150_103, e150_104, e150_107, e150_108, e150_110, e150_113, kf_0, ik_1, ik_2, ik_3, kf_8, ik_9, kf_10, ik_11, ik_28, ik_29, kf_30, ik_31, ik_48, ik_49, kf_50, kf_51, ik_52, ik_53, ik_54, kf_55, kf_56, ik_57, kf_58, ik_59, ik_60, ik_61, ik_62, ik_63, ik_64, ik_65, ik_66, ik_67, ik_68, ik_69, ik_70, ik_71, ik_72, ik_73, ik_74, rq_0_0, rq_0_1, rq_0_2, rq_0_3, rq_0_4, rq_0_5, rq_0_6, rq_0_7, rq_0_8, rq_8_0, rq_10_0, rq_10_1, rq_10_2, rq_30_0, rq_30_1, rq_30_2, rq_50_0, rq_51_0, rq_51_1, rq_51_2, rq_51_3, rq_51_4, rq_51_5, rq_56_0, rq_56_1, rq_56_2, rq_58_1, rq_58_3, rq_58_4, rq_58_5, rq_58_7, rq_58_8, rq_58_11, rq_58_12, rq_58_13, rq_58_14, rq_58_15, rq_58_25, rq_58_26, rq_58_29, rq_58_30, rq_58_31, rq_3, rq_11, rq_31, rq_law, rv_s, cl_i, cl_r, cl_n, tl_s, tl_n, kont_some, le4_0, le4_1, le4_2, le4_3, le4_4, eq_self, or_true, true_or, and_true, true_and, g0, z, ↓reduceIte, h144, oI_s, b1_eq, nI_1]
      exact ih (i + 1) (by omega) _ (subF_del hs)
theorem same_debts (l f k : Int32) : SAME 77 150 [.int l, .int f, .int k] := same_of (fun G J q np nf nl pg n D hq hR => by
  have hR' := hR
  obtain ⟨a1, a2, a3, a4, a5, a6, a7, ⟨hX, hM, hN⟩, a9⟩ := hR
  have h16 := hX.2.1
  have hnl : nl < 2147483648 := by have := a5.2.2.1; omega
  have hnf : nf < 2147483648 := by have := a3.2.2; omega
  have hW := hN.wd a1.2.2 a3.2.2
  have e10 : (10 : Int64) = (10 : Int32).toInt64 := by decide
  have e25 : (25 : Int64) = (25 : Int32).toInt64 := by decide
  by_cases h1 : ¬ l < 0 ∧ l < nI nl
  case neg =>
    refine ⟨G, G, J, J, q, q, .int (-101), hq, ⟨np, nf, nl, pg, n, D, hR'⟩, ?_, ?_⟩
    · rw [run_77]
      simp only [e77_0, e77_1, e77_2, e77_5, e77_8, e77_9, e77_10, e77_13, e77_16, e77_18, e77_19, e77_20, e77_23, e77_24, e77_27, e77_30, e77_32, e77_33, e77_34, e77_37, e77_38, e77_41, e77_42, e77_43, e77_44, e77_47, e77_48, e77_51, e77_52, e77_55, e77_56, e77_57, e77_60, e77_61, e77_64, e77_67, e77_69, e77_70, e77_73, e77_75, e77_78, e77_81, e77_82, e77_85, e77_87, e77_88, e77_90, e77_91, e77_94, kf_0, ik_1, ik_2, ik_3, kf_8, ik_9, kf_10, ik_11, ik_28, ik_29, kf_30, ik_31, ik_48, ik_49, kf_50, kf_51, ik_52, ik_53, ik_54, kf_55, kf_56, ik_57, kf_58, ik_59, ik_60, ik_61, ik_62, ik_63, ik_64, ik_65, ik_66, ik_67, ik_68, ik_69, ik_70, ik_71, ik_72, ik_73, ik_74, rq_0_0, rq_0_1, rq_0_2, rq_0_3, rq_0_4, rq_0_5, rq_0_6, rq_0_7, rq_0_8, rq_8_0, rq_10_0, rq_10_1, rq_10_2, rq_30_0, rq_30_1, rq_30_2, rq_50_0, rq_51_0, rq_51_1, rq_51_2, rq_51_3, rq_51_4, rq_51_5, rq_56_0, rq_56_1, rq_56_2, rq_58_1, rq_58_3, rq_58_4, rq_58_5, rq_58_7, rq_58_8, rq_58_11, rq_58_12, rq_58_13, rq_58_14, rq_58_15, rq_58_25, rq_58_26, rq_58_29, rq_58_30, rq_58_31, rq_3, rq_11, rq_31, rq_law, rv_s, cl_i, cl_r, cl_n, tl_s, tl_n, kont_some, le4_0, le4_1, le4_2, le4_3, le4_4, eq_self, or_true, true_or, and_true, true_and, s95, a5.1, bi_0, h1, not_true_eq_false, not_false_eq_true, ↓reduceIte]
    · rw [run_150]
      simp only [e150_0, e150_1, e150_2, e150_5, e150_8, e150_9, e150_10, e150_13, e150_16, e150_18, e150_19, e150_20, e150_23, e150_24, e150_25, e150_28, e150_31, e150_34, e150_37, e150_39, e150_40, e150_41, e150_42, e150_45, e150_46, e150_47, e150_50, e150_52, e150_53, e150_56, e150_58, e150_61, e150_62, e150_64, e150_68, e150_69, e150_72, e150_74, e150_77, e150_79, e150_80, e150_81, e150_83, e150_86, e150_87, e150_88, e150_89, e150_90, e150_92, e150_95, e150_98, e150_100, e150_103, e150_104, e150_107, e150_108, e150_110, e150_113, kf_0, ik_1, ik_2, ik_3, kf_8, ik_9, kf_10, ik_11, ik_28, ik_29, kf_30, ik_31, ik_48, ik_49, kf_50, kf_51, ik_52, ik_53, ik_54, kf_55, kf_56, ik_57, kf_58, ik_59, ik_60, ik_61, ik_62, ik_63, ik_64, ik_65, ik_66, ik_67, ik_68, ik_69, ik_70, ik_71, ik_72, ik_73, ik_74, rq_0_0, rq_0_1, rq_0_2, rq_0_3, rq_0_4, rq_0_5, rq_0_6, rq_0_7, rq_0_8, rq_8_0, rq_10_0, rq_10_1, rq_10_2, rq_30_0, rq_30_1, rq_30_2, rq_50_0, rq_51_0, rq_51_1, rq_51_2, rq_51_3, rq_51_4, rq_51_5, rq_56_0, rq_56_1, rq_56_2, rq_58_1, rq_58_3, rq_58_4, rq_58_5, rq_58_7, rq_58_8, rq_58_11, rq_58_12, rq_58_13, rq_58_14, rq_58_15, rq_58_25, rq_58_26, rq_58_29, rq_58_30, rq_58_31, rq_3, rq_11, rq_31, rq_law, rv_s, cl_i, cl_r, cl_n, tl_s, tl_n, kont_some, le4_0, le4_1, le4_2, le4_3, le4_4, eq_self, or_true, true_or, and_true, true_and, s128 a5.2.1 hnl, bi_0, h1, not_true_eq_false, not_false_eq_true, ↓reduceIte]
  by_cases h2 : ¬ f < 0 ∧ f < nI nf
  case neg =>
    refine ⟨G, G, J, J, q, q, .int (-101), hq, ⟨np, nf, nl, pg, n, D, hR'⟩, ?_, ?_⟩
    · rw [run_77]
      simp only [e77_0, e77_1, e77_2, e77_5, e77_8, e77_9, e77_10, e77_13, e77_16, e77_18, e77_19, e77_20, e77_23, e77_24, e77_27, e77_30, e77_32, e77_33, e77_34, e77_37, e77_38, e77_41, e77_42, e77_43, e77_44, e77_47, e77_48, e77_51, e77_52, e77_55, e77_56, e77_57, e77_60, e77_61, e77_64, e77_67, e77_69, e77_70, e77_73, e77_75, e77_78, e77_81, e77_82, e77_85, e77_87, e77_88, e77_90, e77_91, e77_94, kf_0, ik_1, ik_2, ik_3, kf_8, ik_9, kf_10, ik_11, ik_28, ik_29, kf_30, ik_31, ik_48, ik_49, kf_50, kf_51, ik_52, ik_53, ik_54, kf_55, kf_56, ik_57, kf_58, ik_59, ik_60, ik_61, ik_62, ik_63, ik_64, ik_65, ik_66, ik_67, ik_68, ik_69, ik_70, ik_71, ik_72, ik_73, ik_74, rq_0_0, rq_0_1, rq_0_2, rq_0_3, rq_0_4, rq_0_5, rq_0_6, rq_0_7, rq_0_8, rq_8_0, rq_10_0, rq_10_1, rq_10_2, rq_30_0, rq_30_1, rq_30_2, rq_50_0, rq_51_0, rq_51_1, rq_51_2, rq_51_3, rq_51_4, rq_51_5, rq_56_0, rq_56_1, rq_56_2, rq_58_1, rq_58_3, rq_58_4, rq_58_5, rq_58_7, rq_58_8, rq_58_11, rq_58_12, rq_58_13, rq_58_14, rq_58_15, rq_58_25, rq_58_26, rq_58_29, rq_58_30, rq_58_31, rq_3, rq_11, rq_31, rq_law, rv_s, cl_i, cl_r, cl_n, tl_s, tl_n, kont_some, le4_0, le4_1, le4_2, le4_3, le4_4, eq_self, or_true, true_or, and_true, true_and, s95, s93, a5.1, a3.1, bi_0, h1, h2, not_true_eq_false, not_false_eq_true, ↓reduceIte, and_self]
    · rw [run_150]
      simp only [e150_0, e150_1, e150_2, e150_5, e150_8, e150_9, e150_10, e150_13, e150_16, e150_18, e150_19, e150_20, e150_23, e150_24, e150_25, e150_28, e150_31, e150_34, e150_37, e150_39, e150_40, e150_41, e150_42, e150_45, e150_46, e150_47, e150_50, e150_52, e150_53, e150_56, e150_58, e150_61, e150_62, e150_64, e150_68, e150_69, e150_72, e150_74, e150_77, e150_79, e150_80, e150_81, e150_83, e150_86, e150_87, e150_88, e150_89, e150_90, e150_92, e150_95, e150_98, e150_100, e150_103, e150_104, e150_107, e150_108, e150_110, e150_113, kf_0, ik_1, ik_2, ik_3, kf_8, ik_9, kf_10, ik_11, ik_28, ik_29, kf_30, ik_31, ik_48, ik_49, kf_50, kf_51, ik_52, ik_53, ik_54, kf_55, kf_56, ik_57, kf_58, ik_59, ik_60, ik_61, ik_62, ik_63, ik_64, ik_65, ik_66, ik_67, ik_68, ik_69, ik_70, ik_71, ik_72, ik_73, ik_74, rq_0_0, rq_0_1, rq_0_2, rq_0_3, rq_0_4, rq_0_5, rq_0_6, rq_0_7, rq_0_8, rq_8_0, rq_10_0, rq_10_1, rq_10_2, rq_30_0, rq_30_1, rq_30_2, rq_50_0, rq_51_0, rq_51_1, rq_51_2, rq_51_3, rq_51_4, rq_51_5, rq_56_0, rq_56_1, rq_56_2, rq_58_1, rq_58_3, rq_58_4, rq_58_5, rq_58_7, rq_58_8, rq_58_11, rq_58_12, rq_58_13, rq_58_14, rq_58_15, rq_58_25, rq_58_26, rq_58_29, rq_58_30, rq_58_31, rq_3, rq_11, rq_31, rq_law, rv_s, cl_i, cl_r, cl_n, tl_s, tl_n, kont_some, le4_0, le4_1, le4_2, le4_3, le4_4, eq_self, or_true, true_or, and_true, true_and, s128 a5.2.1 hnl, s110 a3.2.1 hnf, bi_0, h1, h2, not_true_eq_false, not_false_eq_true, ↓reduceIte, and_self]
  obtain ⟨i, hi, rfl⟩ := nJ_of hnl h1
  obtain ⟨j, hj, rfl⟩ := nJ_of hnf h2
  have h4 : i < 4 := by have := a5.2.2.1; omega
  have h6 : j < 6 := by have := a3.2.2; omega
  have f1 := inb_nI h4 (show 4 < 2147483648 by omega)
  have f2 := cl_nI (show i < 2147483648 by omega)
  have f3 := kf_law h4
  have g1 := inb_nI h6 (show 6 < 2147483648 by omega)
  have g2 := cl_nI (show j < 2147483648 by omega)
  have hA := hR'.ha hi
  have e60 : G 60 j = G 2 j := a4 j h6
  have x8 := s8g (J := J) (q := q) (nI j) hX hW.wf f3 (show 4 + i < 50 by omega)
  have x51 := s51g (S := G) (w := G (4 + i)) (dw := G 28) (sn := G 29) (N := G 1) (J := J) (q := 4 + i) (f := nI j) (root := G 2 j) hX
  have x53 := s53o (S := G) (w := G (4 + i)) (dw := G 28) (sn := G 29) (N := G 1) (J := J) (q := 4 + i) (f := nI j) (root := G 2 j) hX hW.wf
  have x54 := fun p hp => s54o (S := G) (w := G (4 + i)) (dw := G 28) (sn := G 29) (N := G 1) (J := J) (q := 4 + i) (f := nI j) (root := G 2 j) (p := p) hX hp
  have x2 : mix G (opn (G (4 + i)) D n (G 28) (G 29) (G 1) (nI j) G) 2 j = G 2 j := by rw [mg_2]
  generalize ofS (G (4 + i)) D n (G 28) (G 29) (G 1) (nI j) (G 2 j) G = T at x51 x53 x54
  generalize opn (G (4 + i)) D n (G 28) (G 29) (G 1) (nI j) G = T0 at x8 x51 x2
  have y137 := s137 (J := J) (q := 4 + i) (S := T) hM hA hW
  have y149 := s149 (J := J) (q := 4 + i) (S := tkS (G (4 + i)) D n (G 28) (G 29) (G 1) i T n) hM hA tk_HT hW h6
  rw [e60] at y149
  have vl := s128 (J := J) (q := 4 + i) (show mix G T 58 10 = nI nl by rw [mg_58_10]; exact a5.2.1) hnl (nI i)
  have vf := s110 (J := J) (q := 4 + i) (show mix G T 58 2 = nI nf by rw [mg_58_2]; exact a3.2.1) hnf (nI j)
  have hT2 : HT (mix G (owS (G (4 + i)) D n (G 28) (G 29) (G 1) (nI j) (G 2 j) (tkS (G (4 + i)) D n (G 28) (G 29) (G 1) i T n))) i n D (G (4 + i)) (G 28) (G 29) (G 1) := HT.c71 tk_HT
  generalize owS (G (4 + i)) D n (G 28) (G 29) (G 1) (nI j) (G 2 j) (tkS (G (4 + i)) D n (G 28) (G 29) (G 1) i T n) = T2 at y149 hT2
  have hsub := ri_sub (w := G (4 + i)) (D := D) (dw := G 28) (sn := G 29) (N := G 1) (f := nI j) (root := G 2 j) h16
  by_cases k0 : k = 0
  · unfold riM at x53 y149
    generalize rdP (G (4 + i)) D n (G 28) (G 29) (G 1) (nI j) (orOs D (chX (G (4 + i)) D n (G 28) (G 29) (G 1) (nI j) (G 2 j)) (bx (G 2 j))) (chX (G (4 + i)) D n (G 28) (G 29) (G 1) (nI j) (G 2 j)) = pr at x53 y149
    have c1 := s168 (K := KF) (G := mix G T) (J := J) (R := RQ (4 + i)) (p := pr) h16
    have c2 := s106m (K := KF) (G := mix G T2) (J := J) (R := RQ (4 + i)) (p := pr) h16
    refine ⟨mix G T, mix G T2, J, J, 4 + i, 4 + i, .int (nI (cnt pr n)), f3, ⟨np, nf, nl, pg, n, D, hR'.mx⟩, ?_, ?_⟩
    · rw [run_77]
      simp only [e77_0, e77_1, e77_2, e77_5, e77_8, e77_9, e77_10, e77_13, e77_16, e77_18, e77_19, e77_20, e77_23, e77_24, e77_27, e77_30, e77_32, e77_33, e77_34, e77_37, e77_38, e77_41, e77_42, e77_43, e77_44, e77_47, e77_48, e77_51, e77_52, e77_55, e77_56, e77_57, e77_60, e77_61, e77_64, e77_67, e77_69, e77_70, e77_73, e77_75, e77_78, e77_81, e77_82, e77_85, e77_87, e77_88, e77_90, e77_91, e77_94, kf_0, ik_1, ik_2, ik_3, kf_8, ik_9, kf_10, ik_11, ik_28, ik_29, kf_30, ik_31, ik_48, ik_49, kf_50, kf_51, ik_52, ik_53, ik_54, kf_55, kf_56, ik_57, kf_58, ik_59, ik_60, ik_61, ik_62, ik_63, ik_64, ik_65, ik_66, ik_67, ik_68, ik_69, ik_70, ik_71, ik_72, ik_73, ik_74, rq_0_0, rq_0_1, rq_0_2, rq_0_3, rq_0_4, rq_0_5, rq_0_6, rq_0_7, rq_0_8, rq_8_0, rq_10_0, rq_10_1, rq_10_2, rq_30_0, rq_30_1, rq_30_2, rq_50_0, rq_51_0, rq_51_1, rq_51_2, rq_51_3, rq_51_4, rq_51_5, rq_56_0, rq_56_1, rq_56_2, rq_58_1, rq_58_3, rq_58_4, rq_58_5, rq_58_7, rq_58_8, rq_58_11, rq_58_12, rq_58_13, rq_58_14, rq_58_15, rq_58_25, rq_58_26, rq_58_29, rq_58_30, rq_58_31, rq_3, rq_11, rq_31, rq_law, rv_s, cl_i, cl_r, cl_n, tl_s, tl_n, kont_some, le4_0, le4_1, le4_2, le4_3, le4_4, eq_self, or_true, true_or, and_true, true_and, s95, s93, a5.1, a3.1, bi_0, h1, h2, k0, f1, f2, g1, g2, x8, x2, x51, x53, c1, not_true_eq_false, not_false_eq_true, ↓reduceIte, and_self]
    · rw [run_150]
      simp only [e150_0, e150_1, e150_2, e150_5, e150_8, e150_9, e150_10, e150_13, e150_16, e150_18, e150_19, e150_20, e150_23, e150_24, e150_25, e150_28, e150_31, e150_34, e150_37, e150_39, e150_40, e150_41, e150_42, e150_45, e150_46, e150_47, e150_50, e150_52, e150_53, e150_56, e150_58, e150_61, e150_62, e150_64, e150_68, e150_69, e150_72, e150_74, e150_77, e150_79, e150_80, e150_81, e150_83, e150_86, e150_87, e150_88, e150_89, e150_90, e150_92, e150_95, e150_98, e150_100, e150_103, e150_104, e150_107, e150_108, e150_110, e150_113, kf_0, ik_1, ik_2, ik_3, kf_8, ik_9, kf_10, ik_11, ik_28, ik_29, kf_30, ik_31, ik_48, ik_49, kf_50, kf_51, ik_52, ik_53, ik_54, kf_55, kf_56, ik_57, kf_58, ik_59, ik_60, ik_61, ik_62, ik_63, ik_64, ik_65, ik_66, ik_67, ik_68, ik_69, ik_70, ik_71, ik_72, ik_73, ik_74, rq_0_0, rq_0_1, rq_0_2, rq_0_3, rq_0_4, rq_0_5, rq_0_6, rq_0_7, rq_0_8, rq_8_0, rq_10_0, rq_10_1, rq_10_2, rq_30_0, rq_30_1, rq_30_2, rq_50_0, rq_51_0, rq_51_1, rq_51_2, rq_51_3, rq_51_4, rq_51_5, rq_56_0, rq_56_1, rq_56_2, rq_58_1, rq_58_3, rq_58_4, rq_58_5, rq_58_7, rq_58_8, rq_58_11, rq_58_12, rq_58_13, rq_58_14, rq_58_15, rq_58_25, rq_58_26, rq_58_29, rq_58_30, rq_58_31, rq_3, rq_11, rq_31, rq_law, rv_s, cl_i, cl_r, cl_n, tl_s, tl_n, kont_some, le4_0, le4_1, le4_2, le4_3, le4_4, eq_self, or_true, true_or, and_true, true_and, vl, vf, bi_0, h1, h2, k0, y137, y149, c2, not_true_eq_false, not_false_eq_true, ↓reduceIte, and_self]
  by_cases h3 : ¬ k < 10 ∧ ¬ 25 < k
  case neg =>
    have h26 : ¬ (¬ k < 10 ∧ k < 26) := fun z => h3 ⟨z.1, by rw [i26] at z; exact z.2⟩
    refine ⟨G, G, J, J, q, q, .int (-102), hq, ⟨np, nf, nl, pg, n, D, hR'⟩, ?_, ?_⟩
    · rw [run_77]
      simp only [e77_0, e77_1, e77_2, e77_5, e77_8, e77_9, e77_10, e77_13, e77_16, e77_18, e77_19, e77_20, e77_23, e77_24, e77_27, e77_30, e77_32, e77_33, e77_34, e77_37, e77_38, e77_41, e77_42, e77_43, e77_44, e77_47, e77_48, e77_51, e77_52, e77_55, e77_56, e77_57, e77_60, e77_61, e77_64, e77_67, e77_69, e77_70, e77_73, e77_75, e77_78, e77_81, e77_82, e77_85, e77_87, e77_88, e77_90, e77_91, e77_94, kf_0, ik_1, ik_2, ik_3, kf_8, ik_9, kf_10, ik_11, ik_28, ik_29, kf_30, ik_31, ik_48, ik_49, kf_50, kf_51, ik_52, ik_53, ik_54, kf_55, kf_56, ik_57, kf_58, ik_59, ik_60, ik_61, ik_62, ik_63, ik_64, ik_65, ik_66, ik_67, ik_68, ik_69, ik_70, ik_71, ik_72, ik_73, ik_74, rq_0_0, rq_0_1, rq_0_2, rq_0_3, rq_0_4, rq_0_5, rq_0_6, rq_0_7, rq_0_8, rq_8_0, rq_10_0, rq_10_1, rq_10_2, rq_30_0, rq_30_1, rq_30_2, rq_50_0, rq_51_0, rq_51_1, rq_51_2, rq_51_3, rq_51_4, rq_51_5, rq_56_0, rq_56_1, rq_56_2, rq_58_1, rq_58_3, rq_58_4, rq_58_5, rq_58_7, rq_58_8, rq_58_11, rq_58_12, rq_58_13, rq_58_14, rq_58_15, rq_58_25, rq_58_26, rq_58_29, rq_58_30, rq_58_31, rq_3, rq_11, rq_31, rq_law, rv_s, cl_i, cl_r, cl_n, tl_s, tl_n, kont_some, le4_0, le4_1, le4_2, le4_3, le4_4, eq_self, or_true, true_or, and_true, true_and, s95, s93, s97, a5.1, a3.1, bi_0, h1, h2, k0, h26, not_true_eq_false, not_false_eq_true, ↓reduceIte, and_self]
    · rw [run_150]
      simp only [e150_0, e150_1, e150_2, e150_5, e150_8, e150_9, e150_10, e150_13, e150_16, e150_18, e150_19, e150_20, e150_23, e150_24, e150_25, e150_28, e150_31, e150_34, e150_37, e150_39, e150_40, e150_41, e150_42, e150_45, e150_46, e150_47, e150_50, e150_52, e150_53, e150_56, e150_58, e150_61, e150_62, e150_64, e150_68, e150_69, e150_72, e150_74, e150_77, e150_79, e150_80, e150_81, e150_83, e150_86, e150_87, e150_88, e150_89, e150_90, e150_92, e150_95, e150_98, e150_100, e150_103, e150_104, e150_107, e150_108, e150_110, e150_113, kf_0, ik_1, ik_2, ik_3, kf_8, ik_9, kf_10, ik_11, ik_28, ik_29, kf_30, ik_31, ik_48, ik_49, kf_50, kf_51, ik_52, ik_53, ik_54, kf_55, kf_56, ik_57, kf_58, ik_59, ik_60, ik_61, ik_62, ik_63, ik_64, ik_65, ik_66, ik_67, ik_68, ik_69, ik_70, ik_71, ik_72, ik_73, ik_74, rq_0_0, rq_0_1, rq_0_2, rq_0_3, rq_0_4, rq_0_5, rq_0_6, rq_0_7, rq_0_8, rq_8_0, rq_10_0, rq_10_1, rq_10_2, rq_30_0, rq_30_1, rq_30_2, rq_50_0, rq_51_0, rq_51_1, rq_51_2, rq_51_3, rq_51_4, rq_51_5, rq_56_0, rq_56_1, rq_56_2, rq_58_1, rq_58_3, rq_58_4, rq_58_5, rq_58_7, rq_58_8, rq_58_11, rq_58_12, rq_58_13, rq_58_14, rq_58_15, rq_58_25, rq_58_26, rq_58_29, rq_58_30, rq_58_31, rq_3, rq_11, rq_31, rq_law, rv_s, cl_i, cl_r, cl_n, tl_s, tl_n, kont_some, le4_0, le4_1, le4_2, le4_3, le4_4, eq_self, or_true, true_or, and_true, true_and, s128 a5.2.1 hnl, s110 a3.2.1 hnf, s104, e10, e25, wd_lt, bi_0, h1, h2, k0, h3, not_true_eq_false, not_false_eq_true, ↓reduceIte, and_self]
  obtain ⟨p, hp, ep, -, -⟩ := place h3
  have h26 : (¬ k < 10 ∧ k < 26) = True := eq_true ⟨h3.1, by rw [i26]; exact h3.2⟩
  have ek : k = nI (10 + p) := by
    have : k = k - 10 + 10 := (Int32.sub_add_cancel k 10).symm
    rw [this, ep, show (10 : Int32) = nI 10 by decide, nI_add, Nat.add_comm]
  have y150 := h150 (J := J) (q := 4 + i) (f := nI j) (o1 := some (.int (nI i))) (o2 := some (.int (nI j))) hM.mix hA.mix hT2 hW hp p 0 (by omega) _ hsub
  rw [← ek, show nI (10 + 0) = 10 by decide] at y150
  refine ⟨mix G T, mix G T2, J, J, 4 + i, 4 + i, .int (mrk D n (prvX (G (4 + i)) D n (G 28) (G 29) (G 1)) p (riM (G (4 + i)) D n (G 28) (G 29) (G 1) (nI j) (G 2 j))), f3, ⟨np, nf, nl, pg, n, D, hR'.mx⟩, ?_, ?_⟩
  · rw [run_77]
    simp only [e77_0, e77_1, e77_2, e77_5, e77_8, e77_9, e77_10, e77_13, e77_16, e77_18, e77_19, e77_20, e77_23, e77_24, e77_27, e77_30, e77_32, e77_33, e77_34, e77_37, e77_38, e77_41, e77_42, e77_43, e77_44, e77_47, e77_48, e77_51, e77_52, e77_55, e77_56, e77_57, e77_60, e77_61, e77_64, e77_67, e77_69, e77_70, e77_73, e77_75, e77_78, e77_81, e77_82, e77_85, e77_87, e77_88, e77_90, e77_91, e77_94, kf_0, ik_1, ik_2, ik_3, kf_8, ik_9, kf_10, ik_11, ik_28, ik_29, kf_30, ik_31, ik_48, ik_49, kf_50, kf_51, ik_52, ik_53, ik_54, kf_55, kf_56, ik_57, kf_58, ik_59, ik_60, ik_61, ik_62, ik_63, ik_64, ik_65, ik_66, ik_67, ik_68, ik_69, ik_70, ik_71, ik_72, ik_73, ik_74, rq_0_0, rq_0_1, rq_0_2, rq_0_3, rq_0_4, rq_0_5, rq_0_6, rq_0_7, rq_0_8, rq_8_0, rq_10_0, rq_10_1, rq_10_2, rq_30_0, rq_30_1, rq_30_2, rq_50_0, rq_51_0, rq_51_1, rq_51_2, rq_51_3, rq_51_4, rq_51_5, rq_56_0, rq_56_1, rq_56_2, rq_58_1, rq_58_3, rq_58_4, rq_58_5, rq_58_7, rq_58_8, rq_58_11, rq_58_12, rq_58_13, rq_58_14, rq_58_15, rq_58_25, rq_58_26, rq_58_29, rq_58_30, rq_58_31, rq_3, rq_11, rq_31, rq_law, rv_s, cl_i, cl_r, cl_n, tl_s, tl_n, kont_some, le4_0, le4_1, le4_2, le4_3, le4_4, eq_self, or_true, true_or, and_true, true_and, s95, s93, s97, a5.1, a3.1, bi_0, h1, h2, k0, h26, ep, f1, f2, g1, g2, x8, x2, x51, x53, x54 p hp, not_true_eq_false, not_false_eq_true, ↓reduceIte, and_self]
  · rw [run_150]
    simp only [e150_0, e150_1, e150_2, e150_5, e150_8, e150_9, e150_10, e150_13, e150_16, e150_18, e150_19, e150_20, e150_23, e150_24, e150_25, e150_28, e150_31, e150_34, e150_37, e150_39, e150_40, e150_41, e150_42, e150_45, e150_46, e150_47, e150_50, e150_52, e150_53, e150_56, e150_58, e150_61, e150_62, e150_64, e150_68, e150_69, e150_72, e150_74, e150_77, e150_79, e150_80, e150_81, e150_83, e150_86, e150_87, e150_88, e150_89, e150_90, e150_92, e150_95, e150_98, e150_100, e150_103, e150_104, e150_107, e150_108, e150_110, e150_113, kf_0, ik_1, ik_2, ik_3, kf_8, ik_9, kf_10, ik_11, ik_28, ik_29, kf_30, ik_31, ik_48, ik_49, kf_50, kf_51, ik_52, ik_53, ik_54, kf_55, kf_56, ik_57, kf_58, ik_59, ik_60, ik_61, ik_62, ik_63, ik_64, ik_65, ik_66, ik_67, ik_68, ik_69, ik_70, ik_71, ik_72, ik_73, ik_74, rq_0_0, rq_0_1, rq_0_2, rq_0_3, rq_0_4, rq_0_5, rq_0_6, rq_0_7, rq_0_8, rq_8_0, rq_10_0, rq_10_1, rq_10_2, rq_30_0, rq_30_1, rq_30_2, rq_50_0, rq_51_0, rq_51_1, rq_51_2, rq_51_3, rq_51_4, rq_51_5, rq_56_0, rq_56_1, rq_56_2, rq_58_1, rq_58_3, rq_58_4, rq_58_5, rq_58_7, rq_58_8, rq_58_11, rq_58_12, rq_58_13, rq_58_14, rq_58_15, rq_58_25, rq_58_26, rq_58_29, rq_58_30, rq_58_31, rq_3, rq_11, rq_31, rq_law, rv_s, cl_i, cl_r, cl_n, tl_s, tl_n, kont_some, le4_0, le4_1, le4_2, le4_3, le4_4, eq_self, or_true, true_or, and_true, true_and, vl, vf, s104, e10, e25, wd_lt, bi_0, h1, h2, k0, h3, y137, y149, not_true_eq_false, not_false_eq_true, ↓reduceIte, and_self]
    exact y150)
end OPS12
