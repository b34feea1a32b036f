/-! THE FIRST of some, in the class -/
def madF (D : DT) (p : Nat → Bool) : Nat → Option Nat
  | 0 => none
  | i + 1 => if p i = true ∧ (∀ m, madF D p i = some m → ahB D i m = true) then some i else madF D p i
theorem madF_lt {D : DT} {p : Nat → Bool} {n m : Nat} (h : madF D p n = some m) : m < n ∧ p m = true := by
  induction n with
  | zero => cases h
  | succ n ih =>
    unfold madF at h
    split at h
    · next hc => cases h; exact ⟨by omega, hc.1⟩
    · obtain ⟨h1, h2⟩ := ih h
      exact ⟨by omega, h2⟩
theorem madF_congr {D : DT} {p p' : Nat → Bool} {n : Nat} (h : ∀ j, j < n → p j = p' j) : madF D p n = madF D p' n := by
  induction n with
  | zero => rfl
  | succ n ih => unfold madF; rw [h n (by omega), ih (fun j hj => h j (by omega))]
def orO (a b : Option Nat) : Option Nat := match a with
  | some x => some x
  | none => b
def frsF (D : DT) (n : Nat) (s t : Nat → Bool) : Option Nat := orO (madF D (fun i => s i && !t i) n) (madF D s n)
def firM (D : DT) (n : Nat) (B : Nat → Int32) (set : Int32) : Option Nat := frsF D n (bt set) (fun i => decide (¬ B i &&& set = 0))
section FIRST
variable {G S : SG} {J : SJ} {q n c : Nat} {D : DT}
theorem mad_step {p : Nat → Bool} {i : Nat} : madF D p (i + 1) = if p i = true ∧ (∀ m, madF D p i = some m → ahB D i m = true) then some i else madF D p i := rfl
theorem oI_n : oI none = -1 := id rfl
theorem s20 (set : Int32) (hX : HX G n D) : run 20 [.ref (51 : Nat), .int set] KF G J (RQ q) = some ((KF, G, J, RQ q), some (.int (oI (firM D n (G 54) set)))) := by
  have key : ev 20 7 [some (.ref (51 : Nat)), some (.int set), some (.int (oI (madF D (bt set) 0))), some (.int (oI (madF D (fun i => bt set i && !decide (¬ G 54 i &&& set = 0)) 0))), some (.int (nI 0))] [] KF G J (RQ q) = ev 20 7 [some (.ref (51 : Nat)), some (.int set), some (.int (oI (madF D (bt set) n))), some (.int (oI (madF D (fun i => bt set i && !decide (¬ G 54 i &&& set = 0)) n))), some (.int (nI n))] [] KF G J (RQ q) := iter (fun i => ev 20 7 [some (.ref (51 : Nat)), some (.int set), some (.int (oI (madF D (bt set) i))), some (.int (oI (madF D (fun i => bt set i && !decide (¬ G 54 i &&& set = 0)) i))), some (.int (nI i))] [] KF G J (RQ q)) n (fun i hi => by
    have h16 := hX.2.1
    have f1 := lt_nI hi (show n < 2147483648 by omega)
    have f2 := inb_nI (show i < 16 by omega) (show 16 < 2147483648 by omega)
    have f3 := cl_nI (show i < 2147483648 by omega)
    have f4 := kf_deed (show i < 16 by omega)
    have f5 : i < 32 := by omega
    have f6 : i < 16 := by omega
    have hn := hX.1
    have d0 := hX.2.2 i 0 hi (by omega)
    have d1 := hX.2.2 i 1 hi (by omega)
    have d2 := hX.2.2 i 2 hi (by omega)
    have d3 := hX.2.2 i 3 hi (by omega)
    have d4 := hX.2.2 i 4 hi (by omega)
    have d5 := hX.2.2 i 5 hi (by omega)
    have d6 := hX.2.2 i 6 hi (by omega)
    have d7 := hX.2.2 i 7 hi (by omega)
    have d8 := hX.2.2 i 8 hi (by omega)
    have d9 := hX.2.2 i 9 hi (by omega)
    rw [e20_7]
    rw [mad_step, mad_step]
    have g1 : ∀ m, m < n → (nI m = -1) = False := fun m hm => nI_ne_m1 (by omega)
    simp only [e20_0, e20_1, e20_2, e20_3, e20_4, e20_5, e20_9, e20_10, e20_13, e20_16, e20_19, e20_20, e20_22, e20_25, e20_28, e20_29, e20_30, e20_33, e20_34, e20_37, e20_39, e20_40, e20_43, e20_46, e20_48, e20_49, e20_50, e20_52, e20_53, e20_56, e20_59, e20_60, e20_61, e20_64, e20_65, e20_68, e20_70, e20_71, e20_74, e20_77, e20_79, e20_80, e20_83, e20_86, e20_87, e20_88, e20_91, e20_92, e20_95, e20_96, kf_0, ik_1, ik_2, ik_3, kf_8, ik_9, kf_10, ik_11, ik_28, ik_29, kf_30, ik_31, ik_48, ik_49, kf_50, kf_51, ik_52, ik_53, ik_54, kf_55, kf_56, ik_57, kf_58, ik_59, ik_60, ik_61, ik_62, ik_63, ik_64, ik_65, ik_66, ik_67, ik_68, ik_69, ik_70, ik_71, ik_72, ik_73, ik_74, rq_0_0, rq_0_1, rq_0_2, rq_0_3, rq_0_4, rq_0_5, rq_0_6, rq_0_7, rq_0_8, rq_8_0, rq_10_0, rq_10_1, rq_10_2, rq_30_0, rq_30_1, rq_30_2, rq_50_0, rq_51_0, rq_51_1, rq_51_2, rq_51_3, rq_51_4, rq_51_5, rq_56_0, rq_56_1, rq_56_2, rq_58_1, rq_58_3, rq_58_4, rq_58_5, rq_58_7, rq_58_8, rq_58_11, rq_58_12, rq_58_13, rq_58_14, rq_58_15, rq_58_25, rq_58_26, rq_58_29, rq_58_30, rq_58_31, rq_3, rq_11, rq_31, rq_law, rv_s, cl_i, cl_r, cl_n, tl_s, tl_n, kont_some, le4_0, le4_1, le4_2, le4_3, le4_4, eq_self, or_true, true_or, and_true, true_and, f1, f2, f3, hn, ↓reduceIte, s101 f5, bi_0]
    by_cases hs : bt set i = true
    · simp only [hs, not_true_eq_false, ↓reduceIte, true_and, Bool.true_and, Bool.not_eq_true', decide_eq_false_iff_not, Classical.not_not]
      by_cases hz : G 54 i &&& set = 0
      · cases h1 : madF D (bt set) i with
        | none =>
          cases h2 : madF D (fun i => bt set i && !decide (¬ G 54 i &&& set = 0)) i with
          | none => simp [oI_n, oI_s, hz, nI_1, e20_0, e20_1, e20_2, e20_3, e20_4, e20_5, e20_9, e20_10, e20_13, e20_16, e20_19, e20_20, e20_22, e20_25, e20_28, e20_29, e20_30, e20_33, e20_34, e20_37, e20_39, e20_40, e20_43, e20_46, e20_48, e20_49, e20_50, e20_52, e20_53, e20_56, e20_59, e20_60, e20_61, e20_64, e20_65, e20_68, e20_70, e20_71, e20_74, e20_77, e20_79, e20_80, e20_83, e20_86, e20_87, e20_88, e20_91, e20_92, e20_95, e20_96, kf_0, ik_1, ik_2, ik_3, kf_8, ik_9, kf_10, ik_11, ik_28, ik_29, kf_30, ik_31, ik_48, ik_49, kf_50, kf_51, ik_52, ik_53, ik_54, kf_55, kf_56, ik_57, kf_58, ik_59, ik_60, ik_61, ik_62, ik_63, ik_64, ik_65, ik_66, ik_67, ik_68, ik_69, ik_70, ik_71, ik_72, ik_73, ik_74, rq_0_0, rq_0_1, rq_0_2, rq_0_3, rq_0_4, rq_0_5, rq_0_6, rq_0_7, rq_0_8, rq_8_0, rq_10_0, rq_10_1, rq_10_2, rq_30_0, rq_30_1, rq_30_2, rq_50_0, rq_51_0, rq_51_1, rq_51_2, rq_51_3, rq_51_4, rq_51_5, rq_56_0, rq_56_1, rq_56_2, rq_58_1, rq_58_3, rq_58_4, rq_58_5, rq_58_7, rq_58_8, rq_58_11, rq_58_12, rq_58_13, rq_58_14, rq_58_15, rq_58_25, rq_58_26, rq_58_29, rq_58_30, rq_58_31, rq_3, rq_11, rq_31, rq_law, rv_s, cl_i, cl_r, cl_n, tl_s, tl_n, kont_some, le4_0, le4_1, le4_2, le4_3, le4_4, eq_self, or_true, true_or, and_true, true_and, s19 _ f6, bi_0]
          | some m2 =>
            obtain ⟨k2, -⟩ := madF_lt h2
            have k2' : m2 < n := by omega
            by_cases ha2 : ahB D i m2 = true <;> simp [oI_n, oI_s, hz, ha2, nI_1, e20_0, e20_1, e20_2, e20_3, e20_4, e20_5, e20_9, e20_10, e20_13, e20_16, e20_19, e20_20, e20_22, e20_25, e20_28, e20_29, e20_30, e20_33, e20_34, e20_37, e20_39, e20_40, e20_43, e20_46, e20_48, e20_49, e20_50, e20_52, e20_53, e20_56, e20_59, e20_60, e20_61, e20_64, e20_65, e20_68, e20_70, e20_71, e20_74, e20_77, e20_79, e20_80, e20_83, e20_86, e20_87, e20_88, e20_91, e20_92, e20_95, e20_96, kf_0, ik_1, ik_2, ik_3, kf_8, ik_9, kf_10, ik_11, ik_28, ik_29, kf_30, ik_31, ik_48, ik_49, kf_50, kf_51, ik_52, ik_53, ik_54, kf_55, kf_56, ik_57, kf_58, ik_59, ik_60, ik_61, ik_62, ik_63, ik_64, ik_65, ik_66, ik_67, ik_68, ik_69, ik_70, ik_71, ik_72, ik_73, ik_74, rq_0_0, rq_0_1, rq_0_2, rq_0_3, rq_0_4, rq_0_5, rq_0_6, rq_0_7, rq_0_8, rq_8_0, rq_10_0, rq_10_1, rq_10_2, rq_30_0, rq_30_1, rq_30_2, rq_50_0, rq_51_0, rq_51_1, rq_51_2, rq_51_3, rq_51_4, rq_51_5, rq_56_0, rq_56_1, rq_56_2, rq_58_1, rq_58_3, rq_58_4, rq_58_5, rq_58_7, rq_58_8, rq_58_11, rq_58_12, rq_58_13, rq_58_14, rq_58_15, rq_58_25, rq_58_26, rq_58_29, rq_58_30, rq_58_31, rq_3, rq_11, rq_31, rq_law, rv_s, cl_i, cl_r, cl_n, tl_s, tl_n, kont_some, le4_0, le4_1, le4_2, le4_3, le4_4, eq_self, or_true, true_or, and_true, true_and, s19 _ f6, s6 hX hi k2', g1 m2 k2', bi_0]
        | some m1 =>
          obtain ⟨k1, -⟩ := madF_lt h1
          have k1' : m1 < n := by omega
          cases h2 : madF D (fun i => bt set i && !decide (¬ G 54 i &&& set = 0)) i with
          | none => by_cases ha1 : ahB D i m1 = true <;> simp [oI_n, oI_s, hz, ha1, nI_1, e20_0, e20_1, e20_2, e20_3, e20_4, e20_5, e20_9, e20_10, e20_13, e20_16, e20_19, e20_20, e20_22, e20_25, e20_28, e20_29, e20_30, e20_33, e20_34, e20_37, e20_39, e20_40, e20_43, e20_46, e20_48, e20_49, e20_50, e20_52, e20_53, e20_56, e20_59, e20_60, e20_61, e20_64, e20_65, e20_68, e20_70, e20_71, e20_74, e20_77, e20_79, e20_80, e20_83, e20_86, e20_87, e20_88, e20_91, e20_92, e20_95, e20_96, kf_0, ik_1, ik_2, ik_3, kf_8, ik_9, kf_10, ik_11, ik_28, ik_29, kf_30, ik_31, ik_48, ik_49, kf_50, kf_51, ik_52, ik_53, ik_54, kf_55, kf_56, ik_57, kf_58, ik_59, ik_60, ik_61, ik_62, ik_63, ik_64, ik_65, ik_66, ik_67, ik_68, ik_69, ik_70, ik_71, ik_72, ik_73, ik_74, rq_0_0, rq_0_1, rq_0_2, rq_0_3, rq_0_4, rq_0_5, rq_0_6, rq_0_7, rq_0_8, rq_8_0, rq_10_0, rq_10_1, rq_10_2, rq_30_0, rq_30_1, rq_30_2, rq_50_0, rq_51_0, rq_51_1, rq_51_2, rq_51_3, rq_51_4, rq_51_5, rq_56_0, rq_56_1, rq_56_2, rq_58_1, rq_58_3, rq_58_4, rq_58_5, rq_58_7, rq_58_8, rq_58_11, rq_58_12, rq_58_13, rq_58_14, rq_58_15, rq_58_25, rq_58_26, rq_58_29, rq_58_30, rq_58_31, rq_3, rq_11, rq_31, rq_law, rv_s, cl_i, cl_r, cl_n, tl_s, tl_n, kont_some, le4_0, le4_1, le4_2, le4_3, le4_4, eq_self, or_true, true_or, and_true, true_and, s19 _ f6, s6 hX hi k1', g1 m1 k1', bi_0]
          | some m2 =>
            obtain ⟨k2, -⟩ := madF_lt h2
            have k2' : m2 < n := by omega
            by_cases ha1 : ahB D i m1 = true <;> by_cases ha2 : ahB D i m2 = true <;> simp [oI_n, oI_s, hz, ha1, ha2, nI_1, e20_0, e20_1, e20_2, e20_3, e20_4, e20_5, e20_9, e20_10, e20_13, e20_16, e20_19, e20_20, e20_22, e20_25, e20_28, e20_29, e20_30, e20_33, e20_34, e20_37, e20_39, e20_40, e20_43, e20_46, e20_48, e20_49, e20_50, e20_52, e20_53, e20_56, e20_59, e20_60, e20_61, e20_64, e20_65, e20_68, e20_70, e20_71, e20_74, e20_77, e20_79, e20_80, e20_83, e20_86, e20_87, e20_88, e20_91, e20_92, e20_95, e20_96, kf_0, ik_1, ik_2, ik_3, kf_8, ik_9, kf_10, ik_11, ik_28, ik_29, kf_30, ik_31, ik_48, ik_49, kf_50, kf_51, ik_52, ik_53, ik_54, kf_55, kf_56, ik_57, kf_58, ik_59, ik_60, ik_61, ik_62, ik_63, ik_64, ik_65, ik_66, ik_67, ik_68, ik_69, ik_70, ik_71, ik_72, ik_73, ik_74, rq_0_0, rq_0_1, rq_0_2, rq_0_3, rq_0_4, rq_0_5, rq_0_6, rq_0_7, rq_0_8, rq_8_0, rq_10_0, rq_10_1, rq_10_2, rq_30_0, rq_30_1, rq_30_2, rq_50_0, rq_51_0, rq_51_1, rq_51_2, rq_51_3, rq_51_4, rq_51_5, rq_56_0, rq_56_1, rq_56_2, rq_58_1, rq_58_3, rq_58_4, rq_58_5, rq_58_7, rq_58_8, rq_58_11, rq_58_12, rq_58_13, rq_58_14, rq_58_15, rq_58_25, rq_58_26, rq_58_29, rq_58_30, rq_58_31, rq_3, rq_11, rq_31, rq_law, rv_s, cl_i, cl_r, cl_n, tl_s, tl_n, kont_some, le4_0, le4_1, le4_2, le4_3, le4_4, eq_self, or_true, true_or, and_true, true_and, s19 _ f6, s6 hX hi k1', s6 hX hi k2', g1 m1 k1', g1 m2 k2', bi_0]
      · cases h1 : madF D (bt set) i with
        | none => simp [oI_n, oI_s, hz, nI_1, e20_0, e20_1, e20_2, e20_3, e20_4, e20_5, e20_9, e20_10, e20_13, e20_16, e20_19, e20_20, e20_22, e20_25, e20_28, e20_29, e20_30, e20_33, e20_34, e20_37, e20_39, e20_40, e20_43, e20_46, e20_48, e20_49, e20_50, e20_52, e20_53, e20_56, e20_59, e20_60, e20_61, e20_64, e20_65, e20_68, e20_70, e20_71, e20_74, e20_77, e20_79, e20_80, e20_83, e20_86, e20_87, e20_88, e20_91, e20_92, e20_95, e20_96, kf_0, ik_1, ik_2, ik_3, kf_8, ik_9, kf_10, ik_11, ik_28, ik_29, kf_30, ik_31, ik_48, ik_49, kf_50, kf_51, ik_52, ik_53, ik_54, kf_55, kf_56, ik_57, kf_58, ik_59, ik_60, ik_61, ik_62, ik_63, ik_64, ik_65, ik_66, ik_67, ik_68, ik_69, ik_70, ik_71, ik_72, ik_73, ik_74, rq_0_0, rq_0_1, rq_0_2, rq_0_3, rq_0_4, rq_0_5, rq_0_6, rq_0_7, rq_0_8, rq_8_0, rq_10_0, rq_10_1, rq_10_2, rq_30_0, rq_30_1, rq_30_2, rq_50_0, rq_51_0, rq_51_1, rq_51_2, rq_51_3, rq_51_4, rq_51_5, rq_56_0, rq_56_1, rq_56_2, rq_58_1, rq_58_3, rq_58_4, rq_58_5, rq_58_7, rq_58_8, rq_58_11, rq_58_12, rq_58_13, rq_58_14, rq_58_15, rq_58_25, rq_58_26, rq_58_29, rq_58_30, rq_58_31, rq_3, rq_11, rq_31, rq_law, rv_s, cl_i, cl_r, cl_n, tl_s, tl_n, kont_some, le4_0, le4_1, le4_2, le4_3, le4_4, eq_self, or_true, true_or, and_true, true_and, s19 _ f6, bi_0]
        | some m1 =>
          obtain ⟨k1, -⟩ := madF_lt h1
          have k1' : m1 < n := by omega
          by_cases ha1 : ahB D i m1 = true <;> simp [oI_n, oI_s, hz, ha1, nI_1, e20_0, e20_1, e20_2, e20_3, e20_4, e20_5, e20_9, e20_10, e20_13, e20_16, e20_19, e20_20, e20_22, e20_25, e20_28, e20_29, e20_30, e20_33, e20_34, e20_37, e20_39, e20_40, e20_43, e20_46, e20_48, e20_49, e20_50, e20_52, e20_53, e20_56, e20_59, e20_60, e20_61, e20_64, e20_65, e20_68, e20_70, e20_71, e20_74, e20_77, e20_79, e20_80, e20_83, e20_86, e20_87, e20_88, e20_91, e20_92, e20_95, e20_96, kf_0, ik_1, ik_2, ik_3, kf_8, ik_9, kf_10, ik_11, ik_28, ik_29, kf_30, ik_31, ik_48, ik_49, kf_50, kf_51, ik_52, ik_53, ik_54, kf_55, kf_56, ik_57, kf_58, ik_59, ik_60, ik_61, ik_62, ik_63, ik_64, ik_65, ik_66, ik_67, ik_68, ik_69, ik_70, ik_71, ik_72, ik_73, ik_74, rq_0_0, rq_0_1, rq_0_2, rq_0_3, rq_0_4, rq_0_5, rq_0_6, rq_0_7, rq_0_8, rq_8_0, rq_10_0, rq_10_1, rq_10_2, rq_30_0, rq_30_1, rq_30_2, rq_50_0, rq_51_0, rq_51_1, rq_51_2, rq_51_3, rq_51_4, rq_51_5, rq_56_0, rq_56_1, rq_56_2, rq_58_1, rq_58_3, rq_58_4, rq_58_5, rq_58_7, rq_58_8, rq_58_11, rq_58_12, rq_58_13, rq_58_14, rq_58_15, rq_58_25, rq_58_26, rq_58_29, rq_58_30, rq_58_31, rq_3, rq_11, rq_31, rq_law, rv_s, cl_i, cl_r, cl_n, tl_s, tl_n, kont_some, le4_0, le4_1, le4_2, le4_3, le4_4, eq_self, or_true, true_or, and_true, true_and, s19 _ f6, s6 hX hi k1', g1 m1 k1', bi_0]
    · simp only [hs, not_false_eq_true, ↓reduceIte, Bool.false_eq_true, false_and, Bool.false_and, e20_0, e20_1, e20_2, e20_3, e20_4, e20_5, e20_9, e20_10, e20_13, e20_16, e20_19, e20_20, e20_22, e20_25, e20_28, e20_29, e20_30, e20_33, e20_34, e20_37, e20_39, e20_40, e20_43, e20_46, e20_48, e20_49, e20_50, e20_52, e20_53, e20_56, e20_59, e20_60, e20_61, e20_64, e20_65, e20_68, e20_70, e20_71, e20_74, e20_77, e20_79, e20_80, e20_83, e20_86, e20_87, e20_88, e20_91, e20_92, e20_95, e20_96, kf_0, ik_1, ik_2, ik_3, kf_8, ik_9, kf_10, ik_11, ik_28, ik_29, kf_30, ik_31, ik_48, ik_49, kf_50, kf_51, ik_52, ik_53, ik_54, kf_55, kf_56, ik_57, kf_58, ik_59, ik_60, ik_61, ik_62, ik_63, ik_64, ik_65, ik_66, ik_67, ik_68, ik_69, ik_70, ik_71, ik_72, ik_73, ik_74, rq_0_0, rq_0_1, rq_0_2, rq_0_3, rq_0_4, rq_0_5, rq_0_6, rq_0_7, rq_0_8, rq_8_0, rq_10_0, rq_10_1, rq_10_2, rq_30_0, rq_30_1, rq_30_2, rq_50_0, rq_51_0, rq_51_1, rq_51_2, rq_51_3, rq_51_4, rq_51_5, rq_56_0, rq_56_1, rq_56_2, rq_58_1, rq_58_3, rq_58_4, rq_58_5, rq_58_7, rq_58_8, rq_58_11, rq_58_12, rq_58_13, rq_58_14, rq_58_15, rq_58_25, rq_58_26, rq_58_29, rq_58_30, rq_58_31, rq_3, rq_11, rq_31, rq_law, rv_s, cl_i, cl_r, cl_n, tl_s, tl_n, kont_some, le4_0, le4_1, le4_2, le4_3, le4_4, eq_self, or_true, true_or, and_true, true_and, nI_1])
  rw [run_20]
  simp only [e20_0, e20_1, e20_2, e20_3, e20_4, e20_5, e20_9, e20_10, e20_13, e20_16, e20_19, e20_20, e20_22, e20_25, e20_28, e20_29, e20_30, e20_33, e20_34, e20_37, e20_39, e20_40, e20_43, e20_46, e20_48, e20_49, e20_50, e20_52, e20_53, e20_56, e20_59, e20_60, e20_61, e20_64, e20_65, e20_68, e20_70, e20_71, e20_74, e20_77, e20_79, e20_80, e20_83, e20_86, e20_87, e20_88, e20_91, e20_92, e20_95, e20_96, kf_0, ik_1, ik_2, ik_3, kf_8, ik_9, kf_10, ik_11, ik_28, ik_29, kf_30, ik_31, ik_48, ik_49, kf_50, kf_51, ik_52, ik_53, ik_54, kf_55, kf_56, ik_57, kf_58, ik_59, ik_60, ik_61, ik_62, ik_63, ik_64, ik_65, ik_66, ik_67, ik_68, ik_69, ik_70, ik_71, ik_72, ik_73, ik_74, rq_0_0, rq_0_1, rq_0_2, rq_0_3, rq_0_4, rq_0_5, rq_0_6, rq_0_7, rq_0_8, rq_8_0, rq_10_0, rq_10_1, rq_10_2, rq_30_0, rq_30_1, rq_30_2, rq_50_0, rq_51_0, rq_51_1, rq_51_2, rq_51_3, rq_51_4, rq_51_5, rq_56_0, rq_56_1, rq_56_2, rq_58_1, rq_58_3, rq_58_4, rq_58_5, rq_58_7, rq_58_8, rq_58_11, rq_58_12, rq_58_13, rq_58_14, rq_58_15, rq_58_25, rq_58_26, rq_58_29, rq_58_30, rq_58_31, rq_3, rq_11, rq_31, rq_law, rv_s, cl_i, cl_r, cl_n, tl_s, tl_n, kont_some, le4_0, le4_1, le4_2, le4_3, le4_4, eq_self, or_true, true_or, and_true, true_and]
  refine key.trans ?_
  rw [e20_7]
  have h16 := hX.2.1
  simp only [e20_0, e20_1, e20_2, e20_3, e20_4, e20_5, e20_9, e20_10, e20_13, e20_16, e20_19, e20_20, e20_22, e20_25, e20_28, e20_29, e20_30, e20_33, e20_34, e20_37, e20_39, e20_40, e20_43, e20_46, e20_48, e20_49, e20_50, e20_52, e20_53, e20_56, e20_59, e20_60, e20_61, e20_64, e20_65, e20_68, e20_70, e20_71, e20_74, e20_77, e20_79, e20_80, e20_83, e20_86, e20_87, e20_88, e20_91, e20_92, e20_95, e20_96, kf_0, ik_1, ik_2, ik_3, kf_8, ik_9, kf_10, ik_11, ik_28, ik_29, kf_30, ik_31, ik_48, ik_49, kf_50, kf_51, ik_52, ik_53, ik_54, kf_55, kf_56, ik_57, kf_58, ik_59, ik_60, ik_61, ik_62, ik_63, ik_64, ik_65, ik_66, ik_67, ik_68, ik_69, ik_70, ik_71, ik_72, ik_73, ik_74, rq_0_0, rq_0_1, rq_0_2, rq_0_3, rq_0_4, rq_0_5, rq_0_6, rq_0_7, rq_0_8, rq_8_0, rq_10_0, rq_10_1, rq_10_2, rq_30_0, rq_30_1, rq_30_2, rq_50_0, rq_51_0, rq_51_1, rq_51_2, rq_51_3, rq_51_4, rq_51_5, rq_56_0, rq_56_1, rq_56_2, rq_58_1, rq_58_3, rq_58_4, rq_58_5, rq_58_7, rq_58_8, rq_58_11, rq_58_12, rq_58_13, rq_58_14, rq_58_15, rq_58_25, rq_58_26, rq_58_29, rq_58_30, rq_58_31, rq_3, rq_11, rq_31, rq_law, rv_s, cl_i, cl_r, cl_n, tl_s, tl_n, kont_some, le4_0, le4_1, le4_2, le4_3, le4_4, eq_self, or_true, true_or, and_true, true_and, hX.1, Int32.lt_irrefl, ↓reduceIte, firM, frsF]
  cases h2 : madF D (fun i => bt set i && !decide (¬ G 54 i &&& set = 0)) n with
  | none => simp only [oI_n, orO, ↓reduceIte]
  | some m2 =>
    obtain ⟨k2, -⟩ := madF_lt h2
    simp only [oI_s, orO, nI_ne_m1 (show m2 < 2147483648 by omega), ↓reduceIte]
end FIRST
