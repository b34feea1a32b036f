/-! THE SEARCH, in the class -/
def ldy (D : DT) (o : Option Nat) : Int32 := match o with
  | none => -1
  | some b => D b 5
def lastF (D : DT) (u : Nat → Bool) (name day : Int32) : Nat → Option Nat
  | 0 => none
  | i + 1 => if u i = true ∧ pasB D i = true ∧ D i 7 = name ∧ ¬ day < D i 5 ∧ ¬ D i 5 < ldy D (lastF D u name day i) then some i else lastF D u name day i
def gatM (D : DT) (fm : Int32) (name lo hi : Int32) (n : Nat) : Int32 := msk (fun j => bt fm j && decide (D j 6 = name) && decide (¬ D j 5 < lo) && decide (¬ hi < D j 5)) n
def srch (D : DT) (fm day : Int32) (n : Nat) : Nat → Int32 → Int32 → Int32 → Int32 → Nat → Int32 × Nat × Int32
  | 0, name, _, _, fo, st => (fo, st, name)
  | k + 1, name, hi, u, fo, st => match lastF D (bt u) name day n with
    | none => (fo ||| gatM D fm name 0 hi n, st, name)
    | some d => srch D fm day n k (D d 6) (D d 5) (u &&& (b1 d ^^^ -1)) (fo ||| gatM D fm name (D d 5) hi n) (st + 1)
theorem lastF_lt {D : DT} {u : Nat → Bool} {name day : Int32} {n d : Nat} (h : lastF D u name day n = some d) : d < n ∧ u d = true ∧ pasB D d = true ∧ D d 7 = name ∧ ¬ day < D d 5 := by
  induction n with
  | zero => cases h
  | succ n ih =>
    unfold lastF at h
    split at h
    · next hc =>
      cases h
      exact ⟨by omega, hc.1, hc.2.1, hc.2.2.1, hc.2.2.2.1⟩
    · obtain ⟨h1, h2⟩ := ih h
      exact ⟨by omega, h2⟩
def w50 (S : SG) (fo st nm : Int32) : SG := fun c s => if c = 50 ∧ s = 2 then fo else if c = 50 ∧ s = 3 then st else if c = 50 ∧ s = 4 then nm else S c s
theorem w50_1 (S : SG) (a b c : Int32) : w50 S a b c 50 1 = S 50 1 := id rfl
theorem w50_2 (S : SG) (a b c : Int32) : w50 S a b c 50 2 = a := id rfl
theorem w50_3 (S : SG) (a b c : Int32) : w50 S a b c 50 3 = b := id rfl
theorem w50_4 (S : SG) (a b c : Int32) : w50 S a b c 50 4 = c := id rfl
theorem w50_p2 (S : SG) (a b c x : Int32) : up2 (w50 S a b c) 50 2 x = w50 S x b c := by
  funext u v
  by_cases h : u = 50 ∧ v = 2 <;> simp [up2, w50, h]
theorem w50_p3 (S : SG) (a b c x : Int32) : up2 (w50 S a b c) 50 3 x = w50 S a x c := by
  funext u v
  by_cases h : u = 50
  · subst h
    by_cases h1 : v = 2 <;> by_cases h2 : v = 3 <;> simp [up2, w50, h1, h2]
  · simp [up2, w50, h]
theorem w50_p4 (S : SG) (a b c x : Int32) : up2 (w50 S a b c) 50 4 x = w50 S a b x := by
  funext u v
  by_cases h : u = 50
  · subst h
    by_cases h1 : v = 2 <;> by_cases h2 : v = 3 <;> by_cases h3 : v = 4 <;> simp [up2, w50, h1, h2, h3] <;> omega
  · simp [up2, w50, h]
theorem w50_in (S : SG) (a b c : Int32) : up2 (up2 (up2 S 50 2 a) 50 3 b) 50 4 c = w50 S a b c := by
  funext u v
  by_cases h : u = 50
  · subst h
    by_cases h1 : v = 2 <;> by_cases h2 : v = 3 <;> by_cases h3 : v = 4 <;> simp [up2, w50, h1, h2, h3] <;> omega
  · simp [up2, w50, h]
def jk (b : Nat) : Nat → Option Value
  | 0 => none
  | i + 1 => some (.ref (b + i))
section SEARCH
variable {G S : SG} {J : SJ} {q n c : Nat} {D : DT}
theorem oI_s (i : Nat) : oI (some i) = nI i := id rfl
theorem ldy_s (D : DT) (i : Nat) : ldy D (some i) = D i 5 := id rfl
theorem s48 (u day : Int32) (hX : HX G n D) : run 48 [.ref (50 : Nat), .int u, .int day] KF G J (RQ q) = some ((KF, G, J, RQ q), some (.int (oI (lastF D (bt u) (G 50 4) day n)))) := by
  have key : ev 48 8 [some (.ref (50 : Nat)), some (.int u), some (.int day), some (.int (oI (lastF D (bt u) (G 50 4) day 0))), some (.int (ldy D (lastF D (bt u) (G 50 4) day 0))), some (.int (nI 0)), jk 12 0] [] KF G J (RQ q) = ev 48 8 [some (.ref (50 : Nat)), some (.int u), some (.int day), some (.int (oI (lastF D (bt u) (G 50 4) day n))), some (.int (ldy D (lastF D (bt u) (G 50 4) day n))), some (.int (nI n)), jk 12 n] [] KF G J (RQ q) := iter (fun i => ev 48 8 [some (.ref (50 : Nat)), some (.int u), some (.int day), some (.int (oI (lastF D (bt u) (G 50 4) day i))), some (.int (ldy D (lastF D (bt u) (G 50 4) day i))), some (.int (nI i)), jk 12 i] [] KF G J (RQ q)) n (fun i hi => by
    have h16 := hX.2.1
    have f1 := lt_nI hi (show n < 2147483648 by omega)
    have f2 := inb_nI (show i < 16 by omega) (show 16 < 2147483648 by omega)
    have f3 := cl_nI (show i < 2147483648 by omega)
    have f4 := kf_deed (show i < 16 by omega)
    have f5 : i < 32 := by omega
    have f6 : i < 16 := by omega
    have hn := hX.1
    have d0 := hX.2.2 i 0 hi (by omega)
    have d1 := hX.2.2 i 1 hi (by omega)
    have d2 := hX.2.2 i 2 hi (by omega)
    have d3 := hX.2.2 i 3 hi (by omega)
    have d4 := hX.2.2 i 4 hi (by omega)
    have d5 := hX.2.2 i 5 hi (by omega)
    have d6 := hX.2.2 i 6 hi (by omega)
    have d7 := hX.2.2 i 7 hi (by omega)
    have d8 := hX.2.2 i 8 hi (by omega)
    have d9 := hX.2.2 i 9 hi (by omega)
    rw [e48_8]
    simp only [e48_0, e48_1, e48_2, e48_3, e48_5, e48_6, e48_10, e48_11, e48_14, e48_17, e48_20, e48_21, e48_24, e48_27, e48_29, e48_30, e48_32, e48_33, e48_35, e48_38, e48_41, e48_43, e48_46, e48_49, e48_51, e48_54, e48_55, e48_58, e48_61, e48_63, e48_66, e48_67, e48_70, e48_72, e48_75, e48_77, e48_80, e48_82, e48_83, e48_85, e48_88, e48_90, e48_93, e48_96, e48_97, kf_0, ik_1, ik_2, ik_3, kf_8, ik_9, kf_10, ik_11, ik_28, ik_29, kf_30, ik_31, ik_48, ik_49, kf_50, kf_51, ik_52, ik_53, ik_54, kf_55, kf_56, ik_57, kf_58, ik_59, ik_60, ik_61, ik_62, ik_63, ik_64, ik_65, ik_66, ik_67, ik_68, ik_69, ik_70, ik_71, ik_72, ik_73, ik_74, rq_0_0, rq_0_1, rq_0_2, rq_0_3, rq_0_4, rq_0_5, rq_0_6, rq_0_7, rq_0_8, rq_8_0, rq_10_0, rq_10_1, rq_10_2, rq_30_0, rq_30_1, rq_30_2, rq_50_0, rq_51_0, rq_51_1, rq_51_2, rq_51_3, rq_51_4, rq_51_5, rq_56_0, rq_56_1, rq_56_2, rq_58_1, rq_58_3, rq_58_4, rq_58_5, rq_58_7, rq_58_8, rq_58_11, rq_58_12, rq_58_13, rq_58_14, rq_58_15, rq_58_25, rq_58_26, rq_58_29, rq_58_30, rq_58_31, rq_3, rq_11, rq_31, rq_law, rv_s, cl_i, cl_r, cl_n, tl_s, tl_n, kont_some, le4_0, le4_1, le4_2, le4_3, le4_4, eq_self, or_true, true_or, and_true, true_and, f1, f2, f3, f4, hn, d0, d1, d2, d3, d4, d5, d6, d7, d8, d9, nI_1, b1_eq, ↓reduceIte, s101 f5, s29, bi_0, jk, lastF, pasB, decide_eq_true_eq]
    (repeat' split) <;> first | rfl | simp_all [oI, ldy])
  rw [run_48]
  simp only [e48_0, e48_1, e48_2, e48_3, e48_5, e48_6, e48_10, e48_11, e48_14, e48_17, e48_20, e48_21, e48_24, e48_27, e48_29, e48_30, e48_32, e48_33, e48_35, e48_38, e48_41, e48_43, e48_46, e48_49, e48_51, e48_54, e48_55, e48_58, e48_61, e48_63, e48_66, e48_67, e48_70, e48_72, e48_75, e48_77, e48_80, e48_82, e48_83, e48_85, e48_88, e48_90, e48_93, e48_96, e48_97, kf_0, ik_1, ik_2, ik_3, kf_8, ik_9, kf_10, ik_11, ik_28, ik_29, kf_30, ik_31, ik_48, ik_49, kf_50, kf_51, ik_52, ik_53, ik_54, kf_55, kf_56, ik_57, kf_58, ik_59, ik_60, ik_61, ik_62, ik_63, ik_64, ik_65, ik_66, ik_67, ik_68, ik_69, ik_70, ik_71, ik_72, ik_73, ik_74, rq_0_0, rq_0_1, rq_0_2, rq_0_3, rq_0_4, rq_0_5, rq_0_6, rq_0_7, rq_0_8, rq_8_0, rq_10_0, rq_10_1, rq_10_2, rq_30_0, rq_30_1, rq_30_2, rq_50_0, rq_51_0, rq_51_1, rq_51_2, rq_51_3, rq_51_4, rq_51_5, rq_56_0, rq_56_1, rq_56_2, rq_58_1, rq_58_3, rq_58_4, rq_58_5, rq_58_7, rq_58_8, rq_58_11, rq_58_12, rq_58_13, rq_58_14, rq_58_15, rq_58_25, rq_58_26, rq_58_29, rq_58_30, rq_58_31, rq_3, rq_11, rq_31, rq_law, rv_s, cl_i, cl_r, cl_n, tl_s, tl_n, kont_some, le4_0, le4_1, le4_2, le4_3, le4_4, eq_self, or_true, true_or, and_true, true_and]
  refine key.trans ?_
  rw [e48_8]
  simp only [e48_0, e48_1, e48_2, e48_3, e48_5, e48_6, e48_10, e48_11, e48_14, e48_17, e48_20, e48_21, e48_24, e48_27, e48_29, e48_30, e48_32, e48_33, e48_35, e48_38, e48_41, e48_43, e48_46, e48_49, e48_51, e48_54, e48_55, e48_58, e48_61, e48_63, e48_66, e48_67, e48_70, e48_72, e48_75, e48_77, e48_80, e48_82, e48_83, e48_85, e48_88, e48_90, e48_93, e48_96, e48_97, kf_0, ik_1, ik_2, ik_3, kf_8, ik_9, kf_10, ik_11, ik_28, ik_29, kf_30, ik_31, ik_48, ik_49, kf_50, kf_51, ik_52, ik_53, ik_54, kf_55, kf_56, ik_57, kf_58, ik_59, ik_60, ik_61, ik_62, ik_63, ik_64, ik_65, ik_66, ik_67, ik_68, ik_69, ik_70, ik_71, ik_72, ik_73, ik_74, rq_0_0, rq_0_1, rq_0_2, rq_0_3, rq_0_4, rq_0_5, rq_0_6, rq_0_7, rq_0_8, rq_8_0, rq_10_0, rq_10_1, rq_10_2, rq_30_0, rq_30_1, rq_30_2, rq_50_0, rq_51_0, rq_51_1, rq_51_2, rq_51_3, rq_51_4, rq_51_5, rq_56_0, rq_56_1, rq_56_2, rq_58_1, rq_58_3, rq_58_4, rq_58_5, rq_58_7, rq_58_8, rq_58_11, rq_58_12, rq_58_13, rq_58_14, rq_58_15, rq_58_25, rq_58_26, rq_58_29, rq_58_30, rq_58_31, rq_3, rq_11, rq_31, rq_law, rv_s, cl_i, cl_r, cl_n, tl_s, tl_n, kont_some, le4_0, le4_1, le4_2, le4_3, le4_4, eq_self, or_true, true_or, and_true, true_and, hX.1, Int32.lt_irrefl, ↓reduceIte]
theorem up2_same (S : SG) (c s : Nat) (v w : Int32) : up2 (up2 S c s v) c s w = up2 S c s w := by
  funext a b
  by_cases h : a = c ∧ b = s <;> simp [up2, h]
theorem up2_self (S : SG) (c s : Nat) : up2 S c s (S c s) = S := by
  funext a b
  by_cases h : a = c ∧ b = s
  · obtain ⟨rfl, rfl⟩ := h
    simp [up2]
  · simp [up2, h]
theorem s49 (lo hi2 fo st nm : Int32) (hX : HX G n D) : run 49 [.ref (50 : Nat), .int lo, .int hi2] KF (mix G (w50 S fo st nm)) J (RQ q) = some ((KF, mix G (w50 S (fo ||| gatM D (S 50 1) nm lo hi2 n) st nm), J, RQ q), none) := by
  have key : ev 49 2 [some (.ref (50 : Nat)), some (.int lo), some (.int hi2), some (.int (nI 0)), jk 12 0] [] KF (mix G (w50 S (fo ||| gatM D (S 50 1) nm lo hi2 0) st nm)) J (RQ q) = ev 49 2 [some (.ref (50 : Nat)), some (.int lo), some (.int hi2), some (.int (nI n)), jk 12 n] [] KF (mix G (w50 S (fo ||| gatM D (S 50 1) nm lo hi2 n) st nm)) J (RQ q) := iter (fun i => ev 49 2 [some (.ref (50 : Nat)), some (.int lo), some (.int hi2), some (.int (nI i)), jk 12 i] [] KF (mix G (w50 S (fo ||| gatM D (S 50 1) nm lo hi2 i) st nm)) J (RQ q)) n (fun i hi => by
    have h16 := hX.2.1
    have f1 := lt_nI hi (show n < 2147483648 by omega)
    have f2 := inb_nI (show i < 16 by omega) (show 16 < 2147483648 by omega)
    have f3 := cl_nI (show i < 2147483648 by omega)
    have f4 := kf_deed (show i < 16 by omega)
    have f5 : i < 32 := by omega
    have f6 : i < 16 := by omega
    have hn := hX.1
    have d0 := hX.2.2 i 0 hi (by omega)
    have d1 := hX.2.2 i 1 hi (by omega)
    have d2 := hX.2.2 i 2 hi (by omega)
    have d3 := hX.2.2 i 3 hi (by omega)
    have d4 := hX.2.2 i 4 hi (by omega)
    have d5 := hX.2.2 i 5 hi (by omega)
    have d6 := hX.2.2 i 6 hi (by omega)
    have d7 := hX.2.2 i 7 hi (by omega)
    have d8 := hX.2.2 i 8 hi (by omega)
    have d9 := hX.2.2 i 9 hi (by omega)
    have m0 := fun (S : SG) a => mix_low (G := G) (S := S) (c := 12 + i) (s := a) (by omega)
    rw [e49_2]
    simp only [e49_0, e49_1, e49_3, e49_4, e49_7, e49_10, e49_13, e49_14, e49_17, e49_20, e49_21, e49_22, e49_24, e49_25, e49_28, e49_29, e49_32, e49_35, e49_37, e49_40, e49_41, e49_44, e49_47, e49_49, e49_52, e49_53, e49_56, e49_58, e49_61, e49_62, e49_65, e49_66, e49_66r, e49_67, e49_70, e49_71, e49_74, e49_75, e49_78, e49_81, e49_84, kf_0, ik_1, ik_2, ik_3, kf_8, ik_9, kf_10, ik_11, ik_28, ik_29, kf_30, ik_31, ik_48, ik_49, kf_50, kf_51, ik_52, ik_53, ik_54, kf_55, kf_56, ik_57, kf_58, ik_59, ik_60, ik_61, ik_62, ik_63, ik_64, ik_65, ik_66, ik_67, ik_68, ik_69, ik_70, ik_71, ik_72, ik_73, ik_74, rq_0_0, rq_0_1, rq_0_2, rq_0_3, rq_0_4, rq_0_5, rq_0_6, rq_0_7, rq_0_8, rq_8_0, rq_10_0, rq_10_1, rq_10_2, rq_30_0, rq_30_1, rq_30_2, rq_50_0, rq_51_0, rq_51_1, rq_51_2, rq_51_3, rq_51_4, rq_51_5, rq_56_0, rq_56_1, rq_56_2, rq_58_1, rq_58_3, rq_58_4, rq_58_5, rq_58_7, rq_58_8, rq_58_11, rq_58_12, rq_58_13, rq_58_14, rq_58_15, rq_58_25, rq_58_26, rq_58_29, rq_58_30, rq_58_31, rq_3, rq_11, rq_31, rq_law, rv_s, cl_i, cl_r, cl_n, tl_s, tl_n, kont_some, le4_0, le4_1, le4_2, le4_3, le4_4, eq_self, or_true, true_or, and_true, true_and, mg_0, pg_0, mg_1, pg_1, mg_2, pg_2, mg_8, pg_8, mg_9, pg_9, mg_10, pg_10, mg_28, pg_28, mg_29, pg_29, mg_30, pg_30, mg_48, pg_48, mg_49, pg_49, mg_59, pg_59, mg_60, pg_60, mg_61, pg_61, mg_62, pg_62, mg_63, pg_63, mg_64, pg_64, mg_65, pg_65, mg_66, pg_66, mg_67, pg_67, mg_68, pg_68, mg_69, pg_69, mg_72, pg_72, mg_73, pg_73, mg_74, pg_74, ms_50, ps_50, ms_51, ps_51, ms_52, ps_52, ms_53, ps_53, ms_54, ps_54, ms_56, ps_56, ms_57, ps_57, ms_70, ps_70, ms_71, ps_71, mg_58_0, pg_58_0, mg_58_2, pg_58_2, mg_58_6, pg_58_6, mg_58_9, pg_58_9, mg_58_10, pg_58_10, ms_58_16, ps_58_16, ms_58_17, ps_58_17, ms_58_18, ps_58_18, ms_58_19, ps_58_19, ms_58_20, ps_58_20, ms_58_21, ps_58_21, ms_58_22, ps_58_22, ms_58_23, ps_58_23, ms_58_24, ps_58_24, ms_58_27, ps_58_27, ms_58_28, ps_58_28, mg_58_32, pg_58_32, mg_58_33, pg_58_33, f1, f2, f3, f4, hn, d0, d1, d2, d3, d4, d5, d6, d7, d8, d9, nI_1, b1_eq, ↓reduceIte, m0, s101 f5, s29, s100, bi_0, jk, w50_1, w50_2, w50_3, w50_4, w50_p2, gatM, msk, decide_eq_true_eq, Bool.and_eq_true]
    (repeat' split) <;> first | rfl | simp_all [Int32.or_assoc])
  rw [run_49]
  simp only [e49_0, e49_1, e49_3, e49_4, e49_7, e49_10, e49_13, e49_14, e49_17, e49_20, e49_21, e49_22, e49_24, e49_25, e49_28, e49_29, e49_32, e49_35, e49_37, e49_40, e49_41, e49_44, e49_47, e49_49, e49_52, e49_53, e49_56, e49_58, e49_61, e49_62, e49_65, e49_66, e49_66r, e49_67, e49_70, e49_71, e49_74, e49_75, e49_78, e49_81, e49_84, kf_0, ik_1, ik_2, ik_3, kf_8, ik_9, kf_10, ik_11, ik_28, ik_29, kf_30, ik_31, ik_48, ik_49, kf_50, kf_51, ik_52, ik_53, ik_54, kf_55, kf_56, ik_57, kf_58, ik_59, ik_60, ik_61, ik_62, ik_63, ik_64, ik_65, ik_66, ik_67, ik_68, ik_69, ik_70, ik_71, ik_72, ik_73, ik_74, rq_0_0, rq_0_1, rq_0_2, rq_0_3, rq_0_4, rq_0_5, rq_0_6, rq_0_7, rq_0_8, rq_8_0, rq_10_0, rq_10_1, rq_10_2, rq_30_0, rq_30_1, rq_30_2, rq_50_0, rq_51_0, rq_51_1, rq_51_2, rq_51_3, rq_51_4, rq_51_5, rq_56_0, rq_56_1, rq_56_2, rq_58_1, rq_58_3, rq_58_4, rq_58_5, rq_58_7, rq_58_8, rq_58_11, rq_58_12, rq_58_13, rq_58_14, rq_58_15, rq_58_25, rq_58_26, rq_58_29, rq_58_30, rq_58_31, rq_3, rq_11, rq_31, rq_law, rv_s, cl_i, cl_r, cl_n, tl_s, tl_n, kont_some, le4_0, le4_1, le4_2, le4_3, le4_4, eq_self, or_true, true_or, and_true, true_and]
  have e0 : fo ||| gatM D (S 50 1) nm lo hi2 0 = fo := by simp [gatM, msk]
  rw [e0] at key
  refine key.trans ?_
  rw [e49_2]
  simp only [e49_0, e49_1, e49_3, e49_4, e49_7, e49_10, e49_13, e49_14, e49_17, e49_20, e49_21, e49_22, e49_24, e49_25, e49_28, e49_29, e49_32, e49_35, e49_37, e49_40, e49_41, e49_44, e49_47, e49_49, e49_52, e49_53, e49_56, e49_58, e49_61, e49_62, e49_65, e49_66, e49_66r, e49_67, e49_70, e49_71, e49_74, e49_75, e49_78, e49_81, e49_84, kf_0, ik_1, ik_2, ik_3, kf_8, ik_9, kf_10, ik_11, ik_28, ik_29, kf_30, ik_31, ik_48, ik_49, kf_50, kf_51, ik_52, ik_53, ik_54, kf_55, kf_56, ik_57, kf_58, ik_59, ik_60, ik_61, ik_62, ik_63, ik_64, ik_65, ik_66, ik_67, ik_68, ik_69, ik_70, ik_71, ik_72, ik_73, ik_74, rq_0_0, rq_0_1, rq_0_2, rq_0_3, rq_0_4, rq_0_5, rq_0_6, rq_0_7, rq_0_8, rq_8_0, rq_10_0, rq_10_1, rq_10_2, rq_30_0, rq_30_1, rq_30_2, rq_50_0, rq_51_0, rq_51_1, rq_51_2, rq_51_3, rq_51_4, rq_51_5, rq_56_0, rq_56_1, rq_56_2, rq_58_1, rq_58_3, rq_58_4, rq_58_5, rq_58_7, rq_58_8, rq_58_11, rq_58_12, rq_58_13, rq_58_14, rq_58_15, rq_58_25, rq_58_26, rq_58_29, rq_58_30, rq_58_31, rq_3, rq_11, rq_31, rq_law, rv_s, cl_i, cl_r, cl_n, tl_s, tl_n, kont_some, le4_0, le4_1, le4_2, le4_3, le4_4, eq_self, or_true, true_or, and_true, true_and, mg_0, pg_0, mg_1, pg_1, mg_2, pg_2, mg_8, pg_8, mg_9, pg_9, mg_10, pg_10, mg_28, pg_28, mg_29, pg_29, mg_30, pg_30, mg_48, pg_48, mg_49, pg_49, mg_59, pg_59, mg_60, pg_60, mg_61, pg_61, mg_62, pg_62, mg_63, pg_63, mg_64, pg_64, mg_65, pg_65, mg_66, pg_66, mg_67, pg_67, mg_68, pg_68, mg_69, pg_69, mg_72, pg_72, mg_73, pg_73, mg_74, pg_74, ms_50, ps_50, ms_51, ps_51, ms_52, ps_52, ms_53, ps_53, ms_54, ps_54, ms_56, ps_56, ms_57, ps_57, ms_70, ps_70, ms_71, ps_71, mg_58_0, pg_58_0, mg_58_2, pg_58_2, mg_58_6, pg_58_6, mg_58_9, pg_58_9, mg_58_10, pg_58_10, ms_58_16, ps_58_16, ms_58_17, ps_58_17, ms_58_18, ps_58_18, ms_58_19, ps_58_19, ms_58_20, ps_58_20, ms_58_21, ps_58_21, ms_58_22, ps_58_22, ms_58_23, ps_58_23, ms_58_24, ps_58_24, ms_58_27, ps_58_27, ms_58_28, ps_58_28, mg_58_32, pg_58_32, mg_58_33, pg_58_33, hX.1, Int32.lt_irrefl, ↓reduceIte]
theorem h47 (f day nm0 : Int32) (hX : HX G n D) (hS : S 50 1 = msk (fun j => fldB D f j && cbfB D j) n) : ∀ (k i : Nat), i + k = 17 → ∀ (nm hi2 u fo : Int32) (st : Nat) (o7 o8 : Option Value),
    ev 47 39 [some (.ref (50 : Nat)), some (.int f), some (.int nm0), some (.int day), some (.int u), some (.int hi2), some (.int (nI i)), o7, o8] [] KF (mix G (w50 S fo (nI st) nm)) J (RQ q) =
      some ((KF, mix G (w50 S (srch D (S 50 1) day n k nm hi2 u fo st).1 (nI (srch D (S 50 1) day n k nm hi2 u fo st).2.1) (srch D (S 50 1) day n k nm hi2 u fo st).2.2), J, RQ q), none) := by
  intro k
  have h16 := hX.2.1
  induction k with
  | zero =>
    intro i hi nm hi2 u fo st o7 o8
    obtain rfl : i = 17 := by omega
    have c1 : ((16 : Int32) < nI 17) = True := eq_true (by decide)
    rw [e47_39]
    simp only [e47_0, e47_1, e47_2, e47_5, e47_6, e47_9, e47_12, e47_13, e47_14, e47_17, e47_18, e47_19, e47_22, e47_23, e47_24, e47_27, e47_28, e47_31, e47_33, e47_34, e47_36, e47_37, e47_41, e47_43, e47_46, e47_47, e47_49, e47_50, e47_53, e47_55, e47_57, e47_58, e47_61, e47_62, e47_65, e47_66, e47_69, e47_72, e47_74, e47_75, e47_78, e47_80, e47_81, e47_83, e47_85, e47_88, e47_90, e47_91, e47_94, e47_95, e47_97, e47_99, e47_102, e47_103, e47_104, e47_105, e47_107, e47_108, e47_108r, e47_109, e47_112, e47_113, e47_114, e47_117, e47_119, e47_121, e47_122, e47_123, e47_126, e47_129, e47_131, e47_132, e47_135, e47_138, e47_141, e47_144, kf_0, ik_1, ik_2, ik_3, kf_8, ik_9, kf_10, ik_11, ik_28, ik_29, kf_30, ik_31, ik_48, ik_49, kf_50, kf_51, ik_52, ik_53, ik_54, kf_55, kf_56, ik_57, kf_58, ik_59, ik_60, ik_61, ik_62, ik_63, ik_64, ik_65, ik_66, ik_67, ik_68, ik_69, ik_70, ik_71, ik_72, ik_73, ik_74, rq_0_0, rq_0_1, rq_0_2, rq_0_3, rq_0_4, rq_0_5, rq_0_6, rq_0_7, rq_0_8, rq_8_0, rq_10_0, rq_10_1, rq_10_2, rq_30_0, rq_30_1, rq_30_2, rq_50_0, rq_51_0, rq_51_1, rq_51_2, rq_51_3, rq_51_4, rq_51_5, rq_56_0, rq_56_1, rq_56_2, rq_58_1, rq_58_3, rq_58_4, rq_58_5, rq_58_7, rq_58_8, rq_58_11, rq_58_12, rq_58_13, rq_58_14, rq_58_15, rq_58_25, rq_58_26, rq_58_29, rq_58_30, rq_58_31, rq_3, rq_11, rq_31, rq_law, rv_s, cl_i, cl_r, cl_n, tl_s, tl_n, kont_some, le4_0, le4_1, le4_2, le4_3, le4_4, eq_self, or_true, true_or, and_true, true_and, c1, ↓reduceIte, srch]
  | succ k ih =>
    intro i hi nm hi2 u fo st o7 o8
    have c1 : ((16 : Int32) < nI i) = False := by
      apply eq_false
      have : ¬ (nI 16 < nI i) := nI_nlt (by omega) (by omega)
      exact this
    rw [e47_39]
    simp only [e47_0, e47_1, e47_2, e47_5, e47_6, e47_9, e47_12, e47_13, e47_14, e47_17, e47_18, e47_19, e47_22, e47_23, e47_24, e47_27, e47_28, e47_31, e47_33, e47_34, e47_36, e47_37, e47_41, e47_43, e47_46, e47_47, e47_49, e47_50, e47_53, e47_55, e47_57, e47_58, e47_61, e47_62, e47_65, e47_66, e47_69, e47_72, e47_74, e47_75, e47_78, e47_80, e47_81, e47_83, e47_85, e47_88, e47_90, e47_91, e47_94, e47_95, e47_97, e47_99, e47_102, e47_103, e47_104, e47_105, e47_107, e47_108, e47_108r, e47_109, e47_112, e47_113, e47_114, e47_117, e47_119, e47_121, e47_122, e47_123, e47_126, e47_129, e47_131, e47_132, e47_135, e47_138, e47_141, e47_144, kf_0, ik_1, ik_2, ik_3, kf_8, ik_9, kf_10, ik_11, ik_28, ik_29, kf_30, ik_31, ik_48, ik_49, kf_50, kf_51, ik_52, ik_53, ik_54, kf_55, kf_56, ik_57, kf_58, ik_59, ik_60, ik_61, ik_62, ik_63, ik_64, ik_65, ik_66, ik_67, ik_68, ik_69, ik_70, ik_71, ik_72, ik_73, ik_74, rq_0_0, rq_0_1, rq_0_2, rq_0_3, rq_0_4, rq_0_5, rq_0_6, rq_0_7, rq_0_8, rq_8_0, rq_10_0, rq_10_1, rq_10_2, rq_30_0, rq_30_1, rq_30_2, rq_50_0, rq_51_0, rq_51_1, rq_51_2, rq_51_3, rq_51_4, rq_51_5, rq_56_0, rq_56_1, rq_56_2, rq_58_1, rq_58_3, rq_58_4, rq_58_5, rq_58_7, rq_58_8, rq_58_11, rq_58_12, rq_58_13, rq_58_14, rq_58_15, rq_58_25, rq_58_26, rq_58_29, rq_58_30, rq_58_31, rq_3, rq_11, rq_31, rq_law, rv_s, cl_i, cl_r, cl_n, tl_s, tl_n, kont_some, le4_0, le4_1, le4_2, le4_3, le4_4, eq_self, or_true, true_or, and_true, true_and, c1, ↓reduceIte, s48 _ _ hX.mix, ms_50, w50_4]
    cases hl : lastF D (bt u) nm day n with
    | none =>
      have : oI none = -1 := rfl
      simp only [this, e47_0, e47_1, e47_2, e47_5, e47_6, e47_9, e47_12, e47_13, e47_14, e47_17, e47_18, e47_19, e47_22, e47_23, e47_24, e47_27, e47_28, e47_31, e47_33, e47_34, e47_36, e47_37, e47_41, e47_43, e47_46, e47_47, e47_49, e47_50, e47_53, e47_55, e47_57, e47_58, e47_61, e47_62, e47_65, e47_66, e47_69, e47_72, e47_74, e47_75, e47_78, e47_80, e47_81, e47_83, e47_85, e47_88, e47_90, e47_91, e47_94, e47_95, e47_97, e47_99, e47_102, e47_103, e47_104, e47_105, e47_107, e47_108, e47_108r, e47_109, e47_112, e47_113, e47_114, e47_117, e47_119, e47_121, e47_122, e47_123, e47_126, e47_129, e47_131, e47_132, e47_135, e47_138, e47_141, e47_144, kf_0, ik_1, ik_2, ik_3, kf_8, ik_9, kf_10, ik_11, ik_28, ik_29, kf_30, ik_31, ik_48, ik_49, kf_50, kf_51, ik_52, ik_53, ik_54, kf_55, kf_56, ik_57, kf_58, ik_59, ik_60, ik_61, ik_62, ik_63, ik_64, ik_65, ik_66, ik_67, ik_68, ik_69, ik_70, ik_71, ik_72, ik_73, ik_74, rq_0_0, rq_0_1, rq_0_2, rq_0_3, rq_0_4, rq_0_5, rq_0_6, rq_0_7, rq_0_8, rq_8_0, rq_10_0, rq_10_1, rq_10_2, rq_30_0, rq_30_1, rq_30_2, rq_50_0, rq_51_0, rq_51_1, rq_51_2, rq_51_3, rq_51_4, rq_51_5, rq_56_0, rq_56_1, rq_56_2, rq_58_1, rq_58_3, rq_58_4, rq_58_5, rq_58_7, rq_58_8, rq_58_11, rq_58_12, rq_58_13, rq_58_14, rq_58_15, rq_58_25, rq_58_26, rq_58_29, rq_58_30, rq_58_31, rq_3, rq_11, rq_31, rq_law, rv_s, cl_i, cl_r, cl_n, tl_s, tl_n, kont_some, le4_0, le4_1, le4_2, le4_3, le4_4, eq_self, or_true, true_or, and_true, true_and, ↓reduceIte, s49 _ _ _ _ _ hX, srch, hl]
    | some d =>
      obtain ⟨hd, -⟩ := lastF_lt hl
      have g1 : (nI d = -1) = False := nI_ne_m1 (by omega)
      have g2 := inb_nI (show d < 16 by omega) (show 16 < 2147483648 by omega)
      have g3 := cl_nI (show d < 2147483648 by omega)
      have g4 := kf_deed (show d < 16 by omega)
      have m0 := fun (S : SG) a => mix_low (G := G) (S := S) (c := 12 + d) (s := a) (by omega)
      have d5 := hX.2.2 d 5 hd (by omega)
      have d6 := hX.2.2 d 6 hd (by omega)
      simp only [oI_s, g1, g2, g3, g4, m0, d5, d6, e47_0, e47_1, e47_2, e47_5, e47_6, e47_9, e47_12, e47_13, e47_14, e47_17, e47_18, e47_19, e47_22, e47_23, e47_24, e47_27, e47_28, e47_31, e47_33, e47_34, e47_36, e47_37, e47_41, e47_43, e47_46, e47_47, e47_49, e47_50, e47_53, e47_55, e47_57, e47_58, e47_61, e47_62, e47_65, e47_66, e47_69, e47_72, e47_74, e47_75, e47_78, e47_80, e47_81, e47_83, e47_85, e47_88, e47_90, e47_91, e47_94, e47_95, e47_97, e47_99, e47_102, e47_103, e47_104, e47_105, e47_107, e47_108, e47_108r, e47_109, e47_112, e47_113, e47_114, e47_117, e47_119, e47_121, e47_122, e47_123, e47_126, e47_129, e47_131, e47_132, e47_135, e47_138, e47_141, e47_144, kf_0, ik_1, ik_2, ik_3, kf_8, ik_9, kf_10, ik_11, ik_28, ik_29, kf_30, ik_31, ik_48, ik_49, kf_50, kf_51, ik_52, ik_53, ik_54, kf_55, kf_56, ik_57, kf_58, ik_59, ik_60, ik_61, ik_62, ik_63, ik_64, ik_65, ik_66, ik_67, ik_68, ik_69, ik_70, ik_71, ik_72, ik_73, ik_74, rq_0_0, rq_0_1, rq_0_2, rq_0_3, rq_0_4, rq_0_5, rq_0_6, rq_0_7, rq_0_8, rq_8_0, rq_10_0, rq_10_1, rq_10_2, rq_30_0, rq_30_1, rq_30_2, rq_50_0, rq_51_0, rq_51_1, rq_51_2, rq_51_3, rq_51_4, rq_51_5, rq_56_0, rq_56_1, rq_56_2, rq_58_1, rq_58_3, rq_58_4, rq_58_5, rq_58_7, rq_58_8, rq_58_11, rq_58_12, rq_58_13, rq_58_14, rq_58_15, rq_58_25, rq_58_26, rq_58_29, rq_58_30, rq_58_31, rq_3, rq_11, rq_31, rq_law, rv_s, cl_i, cl_r, cl_n, tl_s, tl_n, kont_some, le4_0, le4_1, le4_2, le4_3, le4_4, eq_self, or_true, true_or, and_true, true_and, mg_0, pg_0, mg_1, pg_1, mg_2, pg_2, mg_8, pg_8, mg_9, pg_9, mg_10, pg_10, mg_28, pg_28, mg_29, pg_29, mg_30, pg_30, mg_48, pg_48, mg_49, pg_49, mg_59, pg_59, mg_60, pg_60, mg_61, pg_61, mg_62, pg_62, mg_63, pg_63, mg_64, pg_64, mg_65, pg_65, mg_66, pg_66, mg_67, pg_67, mg_68, pg_68, mg_69, pg_69, mg_72, pg_72, mg_73, pg_73, mg_74, pg_74, ms_50, ps_50, ms_51, ps_51, ms_52, ps_52, ms_53, ps_53, ms_54, ps_54, ms_56, ps_56, ms_57, ps_57, ms_70, ps_70, ms_71, ps_71, mg_58_0, pg_58_0, mg_58_2, pg_58_2, mg_58_6, pg_58_6, mg_58_9, pg_58_9, mg_58_10, pg_58_10, ms_58_16, ps_58_16, ms_58_17, ps_58_17, ms_58_18, ps_58_18, ms_58_19, ps_58_19, ms_58_20, ps_58_20, ms_58_21, ps_58_21, ms_58_22, ps_58_22, ms_58_23, ps_58_23, ms_58_24, ps_58_24, ms_58_27, ps_58_27, ms_58_28, ps_58_28, mg_58_32, pg_58_32, mg_58_33, pg_58_33, ↓reduceIte, s49 _ _ _ _ _ hX, s100, b1_eq, w50_3, w50_p3, w50_p4, nI_1]
      rw [ih (i + 1) (by omega)]
      simp only [srch, hl]
theorem s47 (f nm day : Int32) (hX : HX G n D) : run 47 [.ref (50 : Nat), .int f, .int nm, .int day] KF (mix G S) J (RQ q) =
      some ((KF, mix G (w50 (up2 S 50 1 (msk (fun j => fldB D f j && cbfB D j) n)) (srch D (msk (fun j => fldB D f j && cbfB D j) n) day n 17 nm day (msk (fun j => fldB D f j && cbfB D j) n) 0 0).1 (nI (srch D (msk (fun j => fldB D f j && cbfB D j) n) day n 17 nm day (msk (fun j => fldB D f j && cbfB D j) n) 0 0).2.1) (srch D (msk (fun j => fldB D f j && cbfB D j) n) day n 17 nm day (msk (fun j => fldB D f j && cbfB D j) n) 0 0).2.2), J, RQ q), none) := by
  rw [run_47]
  have h0 : (0 : Int32) = nI 0 := rfl
  have hS1 : up2 S 50 1 (msk (fun j => fldB D f j && cbfB D j) n) 50 1 = msk (fun j => fldB D f j && cbfB D j) n := by simp [up2]
  simp only [e47_0, e47_1, e47_2, e47_5, e47_6, e47_9, e47_12, e47_13, e47_14, e47_17, e47_18, e47_19, e47_22, e47_23, e47_24, e47_27, e47_28, e47_31, e47_33, e47_34, e47_36, e47_37, e47_41, e47_43, e47_46, e47_47, e47_49, e47_50, e47_53, e47_55, e47_57, e47_58, e47_61, e47_62, e47_65, e47_66, e47_69, e47_72, e47_74, e47_75, e47_78, e47_80, e47_81, e47_83, e47_85, e47_88, e47_90, e47_91, e47_94, e47_95, e47_97, e47_99, e47_102, e47_103, e47_104, e47_105, e47_107, e47_108, e47_108r, e47_109, e47_112, e47_113, e47_114, e47_117, e47_119, e47_121, e47_122, e47_123, e47_126, e47_129, e47_131, e47_132, e47_135, e47_138, e47_141, e47_144, kf_0, ik_1, ik_2, ik_3, kf_8, ik_9, kf_10, ik_11, ik_28, ik_29, kf_30, ik_31, ik_48, ik_49, kf_50, kf_51, ik_52, ik_53, ik_54, kf_55, kf_56, ik_57, kf_58, ik_59, ik_60, ik_61, ik_62, ik_63, ik_64, ik_65, ik_66, ik_67, ik_68, ik_69, ik_70, ik_71, ik_72, ik_73, ik_74, rq_0_0, rq_0_1, rq_0_2, rq_0_3, rq_0_4, rq_0_5, rq_0_6, rq_0_7, rq_0_8, rq_8_0, rq_10_0, rq_10_1, rq_10_2, rq_30_0, rq_30_1, rq_30_2, rq_50_0, rq_51_0, rq_51_1, rq_51_2, rq_51_3, rq_51_4, rq_51_5, rq_56_0, rq_56_1, rq_56_2, rq_58_1, rq_58_3, rq_58_4, rq_58_5, rq_58_7, rq_58_8, rq_58_11, rq_58_12, rq_58_13, rq_58_14, rq_58_15, rq_58_25, rq_58_26, rq_58_29, rq_58_30, rq_58_31, rq_3, rq_11, rq_31, rq_law, rv_s, cl_i, cl_r, cl_n, tl_s, tl_n, kont_some, le4_0, le4_1, le4_2, le4_3, le4_4, eq_self, or_true, true_or, and_true, true_and, mg_0, pg_0, mg_1, pg_1, mg_2, pg_2, mg_8, pg_8, mg_9, pg_9, mg_10, pg_10, mg_28, pg_28, mg_29, pg_29, mg_30, pg_30, mg_48, pg_48, mg_49, pg_49, mg_59, pg_59, mg_60, pg_60, mg_61, pg_61, mg_62, pg_62, mg_63, pg_63, mg_64, pg_64, mg_65, pg_65, mg_66, pg_66, mg_67, pg_67, mg_68, pg_68, mg_69, pg_69, mg_72, pg_72, mg_73, pg_73, mg_74, pg_74, ms_50, ps_50, ms_51, ps_51, ms_52, ps_52, ms_53, ps_53, ms_54, ps_54, ms_56, ps_56, ms_57, ps_57, ms_70, ps_70, ms_71, ps_71, mg_58_0, pg_58_0, mg_58_2, pg_58_2, mg_58_6, pg_58_6, mg_58_9, pg_58_9, mg_58_10, pg_58_10, ms_58_16, ps_58_16, ms_58_17, ps_58_17, ms_58_18, ps_58_18, ms_58_19, ps_58_19, ms_58_20, ps_58_20, ms_58_21, ps_58_21, ms_58_22, ps_58_22, ms_58_23, ps_58_23, ms_58_24, ps_58_24, ms_58_27, ps_58_27, ms_58_28, ps_58_28, mg_58_32, pg_58_32, mg_58_33, pg_58_33, s3 _ hX.mix, w50_in, w50_1, hS1]
  have := h47 (S := up2 S 50 1 (msk (fun j => fldB D f j && cbfB D j) n)) (J := J) (q := q) f day nm hX hS1 17 0 rfl nm day (msk (fun j => fldB D f j && cbfB D j) n) 0 0 none none
  rw [hS1] at this
  exact this
end SEARCH
