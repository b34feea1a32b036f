/-! the Title: from owner to owner, in the class -/
def bx (x : Int32) : Int32 := (1 : Int32) <<< (x &&& 31)
def pfM (D : DT) (n : Nat) (dk g : Int32) : Int32 := msk (fun j => bt dk j && pasB D j && decide (D j 2 = g)) n
def fol (D : DT) (n : Nat) (dk : Int32) (B : Nat → Int32) : Nat → Int32 → Int32 → Int32 → Nat → (Nat → Int32) → Int32 × Int32 × Int32 × Nat × (Nat → Int32)
  | 0, ow, os, us, i, o => (ow, os, us, i, o)
  | k + 1, ow, os, us, i, o => match firM D n B (pfM D n dk ow &&& (us ^^^ -1)) with
    | none => (ow, os, us, i, o)
    | some d => fol D n dk B k (D d 3) (os ||| bx (D d 3)) (us ||| b1 d) (i + 1) (upd o i (nI d))
def w56 (S : SG) (ow os us cn : Int32) (o : Nat → Int32) : SG := fun c s => if c = 57 then o s else if c = 56 then (if s = 3 then ow else if s = 4 then os else if s = 5 then us else if s = 6 then cn else S c s) else S c s
theorem w56_3 (S : SG) (a b c d : Int32) (o : Nat → Int32) : w56 S a b c d o 56 3 = a := id rfl
theorem w56_4 (S : SG) (a b c d : Int32) (o : Nat → Int32) : w56 S a b c d o 56 4 = b := id rfl
theorem w56_5 (S : SG) (a b c d : Int32) (o : Nat → Int32) : w56 S a b c d o 56 5 = c := id rfl
theorem w56_6 (S : SG) (a b c d : Int32) (o : Nat → Int32) : w56 S a b c d o 56 6 = d := id rfl
theorem w56_57 (S : SG) (a b c d : Int32) (o : Nat → Int32) (s : Nat) : w56 S a b c d o 57 s = o s := id rfl
theorem w56_51 (S : SG) (a b c d : Int32) (o : Nat → Int32) (s : Nat) : w56 S a b c d o 51 s = S 51 s := id rfl
theorem w56_52 (S : SG) (a b c d : Int32) (o : Nat → Int32) (s : Nat) : w56 S a b c d o 52 s = S 52 s := id rfl
theorem w56_53 (S : SG) (a b c d : Int32) (o : Nat → Int32) (s : Nat) : w56 S a b c d o 53 s = S 53 s := id rfl
theorem w56_54 (S : SG) (a b c d : Int32) (o : Nat → Int32) : w56 S a b c d o 54 = S 54 := id rfl
theorem w56_ne (S : SG) (a b c d : Int32) (o : Nat → Int32) {e : Nat} (h : e ≠ 56) (h2 : e ≠ 57) : w56 S a b c d o e = S e := by
  funext s
  simp [w56, h, h2]
theorem w56_p3 (S : SG) (a b c d x : Int32) (o : Nat → Int32) : up2 (w56 S a b c d o) 56 3 x = w56 S x b c d o := by
  funext u v
  by_cases h : u = 56
  · subst h
    by_cases h1 : v = 3 <;> simp [up2, w56, h1]
  · simp [up2, w56, h]
theorem w56_p4 (S : SG) (a b c d x : Int32) (o : Nat → Int32) : up2 (w56 S a b c d o) 56 4 x = w56 S a x c d o := by
  funext u v
  by_cases h : u = 56
  · subst h
    by_cases h1 : v = 3
    · simp [up2, w56, h1]
    · by_cases h2 : v = 4 <;> simp [up2, w56, h1, h2]
  · simp [up2, w56, h]
theorem w56_p5 (S : SG) (a b c d x : Int32) (o : Nat → Int32) : up2 (w56 S a b c d o) 56 5 x = w56 S a b x d o := by
  funext u v
  by_cases h : u = 56
  · subst h
    by_cases h1 : v = 3
    · simp [up2, w56, h1]
    · by_cases h2 : v = 4
      · simp [up2, w56, h2]
      · by_cases h3 : v = 5 <;> simp [up2, w56, h1, h2, h3]
  · simp [up2, w56, h]
theorem w56_p6 (S : SG) (a b c d x : Int32) (o : Nat → Int32) : up2 (w56 S a b c d o) 56 6 x = w56 S a b c x o := by
  funext u v
  by_cases h : u = 56
  · subst h
    by_cases h1 : v = 3
    · simp [up2, w56, h1]
    · by_cases h2 : v = 4
      · simp [up2, w56, h2]
      · by_cases h3 : v = 5
        · simp [up2, w56, h3]
        · by_cases h4 : v = 6 <;> simp [up2, w56, h1, h2, h3, h4]
  · simp [up2, w56, h]
theorem w56_p57 (S : SG) (a b c d x : Int32) (o : Nat → Int32) (s : Nat) : up2 (w56 S a b c d o) 57 s x = w56 S a b c d (upd o s x) := by
  funext u v
  by_cases h : u = 57
  · subst h
    simp [up2, w56, upd]
  · simp [up2, w56, h]
theorem w56_in (S : SG) (a b c d : Int32) : up2 (up2 (up2 (up2 S 56 3 a) 56 4 b) 56 5 c) 56 6 d = w56 S a b c d (S 57) := by
  have e : S = w56 S (S 56 3) (S 56 4) (S 56 5) (S 56 6) (S 57) := by
    funext u v
    unfold w56
    by_cases h : u = 57
    · simp [h]
    · by_cases h2 : u = 56
      · subst h2
        by_cases h3 : v = 3
        · simp [h3]
        · by_cases h4 : v = 4
          · simp [h4]
          · by_cases h5 : v = 5
            · simp [h5]
            · by_cases h6 : v = 6 <;> simp [h3, h4, h5, h6]
      · simp [h, h2]
  rw [show up2 (up2 (up2 (up2 S 56 3 a) 56 4 b) 56 5 c) 56 6 d = up2 (up2 (up2 (up2 (w56 S (S 56 3) (S 56 4) (S 56 5) (S 56 6) (S 57)) 56 3 a) 56 4 b) 56 5 c) 56 6 d by rw [← e], w56_p3, w56_p4, w56_p5, w56_p6]
theorem firM_lt {D : DT} {n : Nat} {B : Nat → Int32} {set : Int32} {d : Nat} (h : firM D n B set = some d) : d < n ∧ bt set d = true := by
  unfold firM frsF orO at h
  split at h
  · next x hx =>
    cases h
    obtain ⟨h1, h2⟩ := madF_lt hx
    rw [Bool.and_eq_true] at h2
    exact ⟨h1, h2.1⟩
  · exact madF_lt h
section TITLE
variable {G S : SG} {J : SJ} {q n c : Nat} {D : DT}
theorem bx_eq (x : Int32) : (1 : Int32) <<< (x &&& 31) = bx x := id rfl
theorem bx_nI (j : Nat) : bx (nI j) = b1 j := id rfl
theorem h51 (root : Int32) (hX : HX G n D) : ∀ (k i : Nat), i + k = 16 → ∀ (ow os us : Int32) (o : Nat → Int32) (o3 : Option Value),
    ev 51 25 [some (.ref (56 : Nat)), some (.int root), some (.int (nI i)), o3] [] KF (mix G (w56 S ow os us (nI i) o)) J (RQ q) =
      some ((KF, mix G (w56 S (fol D n (S 51 7) (S 54) k ow os us i o).1 (fol D n (S 51 7) (S 54) k ow os us i o).2.1 (fol D n (S 51 7) (S 54) k ow os us i o).2.2.1 (nI (fol D n (S 51 7) (S 54) k ow os us i o).2.2.2.1) (fol D n (S 51 7) (S 54) k ow os us i o).2.2.2.2), J, RQ q), none) := by
  intro k
  have h16 := hX.2.1
  induction k with
  | zero =>
    intro i hi ow os us o o3
    obtain rfl : i = 16 := by omega
    have c1 : (nI 16 < (16 : Int32)) = False := eq_false (by decide)
    rw [e51_25]
    simp only [e51_0, e51_1, e51_2, e51_5, e51_6, e51_7, e51_10, e51_13, e51_14, e51_15, e51_18, e51_19, e51_20, e51_23, e51_24, e51_26, e51_28, e51_31, e51_32, e51_35, e51_36, e51_39, e51_40, e51_43, e51_46, e51_47, e51_50, e51_51, e51_52, e51_53, e51_56, e51_57, e51_58, e51_59, e51_62, e51_63, e51_64, e51_67, e51_68, e51_69, e51_70, e51_71, e51_71r, e51_72, e51_75, e51_76, e51_77, e51_80, e51_81, e51_81r, e51_82, e51_85, e51_86, e51_89, e51_90, e51_93, e51_94, e51_95, e51_98, e51_101, e51_102, e51_103, e51_106, e51_109, e51_110, e51_110r, e51_111, e51_114, e51_115, e51_118, e51_121, e51_122, e51_125, e51_128, e51_131, kf_0, ik_1, ik_2, ik_3, kf_8, ik_9, kf_10, ik_11, ik_28, ik_29, kf_30, ik_31, ik_48, ik_49, kf_50, kf_51, ik_52, ik_53, ik_54, kf_55, kf_56, ik_57, kf_58, ik_59, ik_60, ik_61, ik_62, ik_63, ik_64, ik_65, ik_66, ik_67, ik_68, ik_69, ik_70, ik_71, ik_72, ik_73, ik_74, rq_0_0, rq_0_1, rq_0_2, rq_0_3, rq_0_4, rq_0_5, rq_0_6, rq_0_7, rq_0_8, rq_8_0, rq_10_0, rq_10_1, rq_10_2, rq_30_0, rq_30_1, rq_30_2, rq_50_0, rq_51_0, rq_51_1, rq_51_2, rq_51_3, rq_51_4, rq_51_5, rq_56_0, rq_56_1, rq_56_2, rq_58_1, rq_58_3, rq_58_4, rq_58_5, rq_58_7, rq_58_8, rq_58_11, rq_58_12, rq_58_13, rq_58_14, rq_58_15, rq_58_25, rq_58_26, rq_58_29, rq_58_30, rq_58_31, rq_3, rq_11, rq_31, rq_law, rv_s, cl_i, cl_r, cl_n, tl_s, tl_n, kont_some, le4_0, le4_1, le4_2, le4_3, le4_4, eq_self, or_true, true_or, and_true, true_and, c1, ↓reduceIte, fol]
  | succ k ih =>
    intro i hi ow os us o o3
    have c1 : (nI i < (16 : Int32)) = True := eq_true (show nI i < nI 16 from nI_lt (show i < 16 by omega) (by omega))
    have fi := inb_nI (show i < 16 by omega) (show 16 < 2147483648 by omega)
    have gi := cl_nI (show i < 2147483648 by omega)
    have m54 : mix G (w56 S ow os us (nI i) o) 54 = S 54 := by
      funext s
      rw [ms_54, w56_54]
    have ep : msk (fun j => bt (S 51 7) j && pasB D j && decide (D j 2 = ow)) n = pfM D n (S 51 7) ow := rfl
    rw [e51_25]
    simp only [e51_0, e51_1, e51_2, e51_5, e51_6, e51_7, e51_10, e51_13, e51_14, e51_15, e51_18, e51_19, e51_20, e51_23, e51_24, e51_26, e51_28, e51_31, e51_32, e51_35, e51_36, e51_39, e51_40, e51_43, e51_46, e51_47, e51_50, e51_51, e51_52, e51_53, e51_56, e51_57, e51_58, e51_59, e51_62, e51_63, e51_64, e51_67, e51_68, e51_69, e51_70, e51_71, e51_71r, e51_72, e51_75, e51_76, e51_77, e51_80, e51_81, e51_81r, e51_82, e51_85, e51_86, e51_89, e51_90, e51_93, e51_94, e51_95, e51_98, e51_101, e51_102, e51_103, e51_106, e51_109, e51_110, e51_110r, e51_111, e51_114, e51_115, e51_118, e51_121, e51_122, e51_125, e51_128, e51_131, kf_0, ik_1, ik_2, ik_3, kf_8, ik_9, kf_10, ik_11, ik_28, ik_29, kf_30, ik_31, ik_48, ik_49, kf_50, kf_51, ik_52, ik_53, ik_54, kf_55, kf_56, ik_57, kf_58, ik_59, ik_60, ik_61, ik_62, ik_63, ik_64, ik_65, ik_66, ik_67, ik_68, ik_69, ik_70, ik_71, ik_72, ik_73, ik_74, rq_0_0, rq_0_1, rq_0_2, rq_0_3, rq_0_4, rq_0_5, rq_0_6, rq_0_7, rq_0_8, rq_8_0, rq_10_0, rq_10_1, rq_10_2, rq_30_0, rq_30_1, rq_30_2, rq_50_0, rq_51_0, rq_51_1, rq_51_2, rq_51_3, rq_51_4, rq_51_5, rq_56_0, rq_56_1, rq_56_2, rq_58_1, rq_58_3, rq_58_4, rq_58_5, rq_58_7, rq_58_8, rq_58_11, rq_58_12, rq_58_13, rq_58_14, rq_58_15, rq_58_25, rq_58_26, rq_58_29, rq_58_30, rq_58_31, rq_3, rq_11, rq_31, rq_law, rv_s, cl_i, cl_r, cl_n, tl_s, tl_n, kont_some, le4_0, le4_1, le4_2, le4_3, le4_4, eq_self, or_true, true_or, and_true, true_and, mg_0, pg_0, mg_1, pg_1, mg_2, pg_2, mg_8, pg_8, mg_9, pg_9, mg_10, pg_10, mg_28, pg_28, mg_29, pg_29, mg_30, pg_30, mg_48, pg_48, mg_49, pg_49, mg_59, pg_59, mg_60, pg_60, mg_61, pg_61, mg_62, pg_62, mg_63, pg_63, mg_64, pg_64, mg_65, pg_65, mg_66, pg_66, mg_67, pg_67, mg_68, pg_68, mg_69, pg_69, mg_72, pg_72, mg_73, pg_73, mg_74, pg_74, ms_50, ps_50, ms_51, ps_51, ms_52, ps_52, ms_53, ps_53, ms_54, ps_54, ms_56, ps_56, ms_57, ps_57, ms_70, ps_70, ms_71, ps_71, mg_58_0, pg_58_0, mg_58_2, pg_58_2, mg_58_6, pg_58_6, mg_58_9, pg_58_9, mg_58_10, pg_58_10, ms_58_16, ps_58_16, ms_58_17, ps_58_17, ms_58_18, ps_58_18, ms_58_19, ps_58_19, ms_58_20, ps_58_20, ms_58_21, ps_58_21, ms_58_22, ps_58_22, ms_58_23, ps_58_23, ms_58_24, ps_58_24, ms_58_27, ps_58_27, ms_58_28, ps_58_28, mg_58_32, pg_58_32, mg_58_33, pg_58_33, c1, ↓reduceIte, w56_3, w56_5, w56_51, s21 _ hX.mix, s20 _ hX.mix, m54, ep]
    cases hl : firM D n (S 54) (pfM D n (S 51 7) ow &&& (us ^^^ -1)) with
    | none => simp only [oI_n, e51_0, e51_1, e51_2, e51_5, e51_6, e51_7, e51_10, e51_13, e51_14, e51_15, e51_18, e51_19, e51_20, e51_23, e51_24, e51_26, e51_28, e51_31, e51_32, e51_35, e51_36, e51_39, e51_40, e51_43, e51_46, e51_47, e51_50, e51_51, e51_52, e51_53, e51_56, e51_57, e51_58, e51_59, e51_62, e51_63, e51_64, e51_67, e51_68, e51_69, e51_70, e51_71, e51_71r, e51_72, e51_75, e51_76, e51_77, e51_80, e51_81, e51_81r, e51_82, e51_85, e51_86, e51_89, e51_90, e51_93, e51_94, e51_95, e51_98, e51_101, e51_102, e51_103, e51_106, e51_109, e51_110, e51_110r, e51_111, e51_114, e51_115, e51_118, e51_121, e51_122, e51_125, e51_128, e51_131, kf_0, ik_1, ik_2, ik_3, kf_8, ik_9, kf_10, ik_11, ik_28, ik_29, kf_30, ik_31, ik_48, ik_49, kf_50, kf_51, ik_52, ik_53, ik_54, kf_55, kf_56, ik_57, kf_58, ik_59, ik_60, ik_61, ik_62, ik_63, ik_64, ik_65, ik_66, ik_67, ik_68, ik_69, ik_70, ik_71, ik_72, ik_73, ik_74, rq_0_0, rq_0_1, rq_0_2, rq_0_3, rq_0_4, rq_0_5, rq_0_6, rq_0_7, rq_0_8, rq_8_0, rq_10_0, rq_10_1, rq_10_2, rq_30_0, rq_30_1, rq_30_2, rq_50_0, rq_51_0, rq_51_1, rq_51_2, rq_51_3, rq_51_4, rq_51_5, rq_56_0, rq_56_1, rq_56_2, rq_58_1, rq_58_3, rq_58_4, rq_58_5, rq_58_7, rq_58_8, rq_58_11, rq_58_12, rq_58_13, rq_58_14, rq_58_15, rq_58_25, rq_58_26, rq_58_29, rq_58_30, rq_58_31, rq_3, rq_11, rq_31, rq_law, rv_s, cl_i, cl_r, cl_n, tl_s, tl_n, kont_some, le4_0, le4_1, le4_2, le4_3, le4_4, eq_self, or_true, true_or, and_true, true_and, ↓reduceIte, fol, hl]
    | some d =>
      obtain ⟨hd, -⟩ := firM_lt hl
      have g1 : (nI d = -1) = False := nI_ne_m1 (by omega)
      have g2 := inb_nI (show d < 16 by omega) (show 16 < 2147483648 by omega)
      have g3 := cl_nI (show d < 2147483648 by omega)
      have g4 := kf_deed (show d < 16 by omega)
      have m0 := fun (S : SG) a => mix_low (G := G) (S := S) (c := 12 + d) (s := a) (by omega)
      have d3 := hX.2.2 d 3 hd (by omega)
      simp only [oI_s, g1, g2, g3, g4, m0, d3, fi, gi, e51_0, e51_1, e51_2, e51_5, e51_6, e51_7, e51_10, e51_13, e51_14, e51_15, e51_18, e51_19, e51_20, e51_23, e51_24, e51_26, e51_28, e51_31, e51_32, e51_35, e51_36, e51_39, e51_40, e51_43, e51_46, e51_47, e51_50, e51_51, e51_52, e51_53, e51_56, e51_57, e51_58, e51_59, e51_62, e51_63, e51_64, e51_67, e51_68, e51_69, e51_70, e51_71, e51_71r, e51_72, e51_75, e51_76, e51_77, e51_80, e51_81, e51_81r, e51_82, e51_85, e51_86, e51_89, e51_90, e51_93, e51_94, e51_95, e51_98, e51_101, e51_102, e51_103, e51_106, e51_109, e51_110, e51_110r, e51_111, e51_114, e51_115, e51_118, e51_121, e51_122, e51_125, e51_128, e51_131, kf_0, ik_1, ik_2, ik_3, kf_8, ik_9, kf_10, ik_11, ik_28, ik_29, kf_30, ik_31, ik_48, ik_49, kf_50, kf_51, ik_52, ik_53, ik_54, kf_55, kf_56, ik_57, kf_58, ik_59, ik_60, ik_61, ik_62, ik_63, ik_64, ik_65, ik_66, ik_67, ik_68, ik_69, ik_70, ik_71, ik_72, ik_73, ik_74, rq_0_0, rq_0_1, rq_0_2, rq_0_3, rq_0_4, rq_0_5, rq_0_6, rq_0_7, rq_0_8, rq_8_0, rq_10_0, rq_10_1, rq_10_2, rq_30_0, rq_30_1, rq_30_2, rq_50_0, rq_51_0, rq_51_1, rq_51_2, rq_51_3, rq_51_4, rq_51_5, rq_56_0, rq_56_1, rq_56_2, rq_58_1, rq_58_3, rq_58_4, rq_58_5, rq_58_7, rq_58_8, rq_58_11, rq_58_12, rq_58_13, rq_58_14, rq_58_15, rq_58_25, rq_58_26, rq_58_29, rq_58_30, rq_58_31, rq_3, rq_11, rq_31, rq_law, rv_s, cl_i, cl_r, cl_n, tl_s, tl_n, kont_some, le4_0, le4_1, le4_2, le4_3, le4_4, eq_self, or_true, true_or, and_true, true_and, mg_0, pg_0, mg_1, pg_1, mg_2, pg_2, mg_8, pg_8, mg_9, pg_9, mg_10, pg_10, mg_28, pg_28, mg_29, pg_29, mg_30, pg_30, mg_48, pg_48, mg_49, pg_49, mg_59, pg_59, mg_60, pg_60, mg_61, pg_61, mg_62, pg_62, mg_63, pg_63, mg_64, pg_64, mg_65, pg_65, mg_66, pg_66, mg_67, pg_67, mg_68, pg_68, mg_69, pg_69, mg_72, pg_72, mg_73, pg_73, mg_74, pg_74, ms_50, ps_50, ms_51, ps_51, ms_52, ps_52, ms_53, ps_53, ms_54, ps_54, ms_56, ps_56, ms_57, ps_57, ms_70, ps_70, ms_71, ps_71, mg_58_0, pg_58_0, mg_58_2, pg_58_2, mg_58_6, pg_58_6, mg_58_9, pg_58_9, mg_58_10, pg_58_10, ms_58_16, ps_58_16, ms_58_17, ps_58_17, ms_58_18, ps_58_18, ms_58_19, ps_58_19, ms_58_20, ps_58_20, ms_58_21, ps_58_21, ms_58_22, ps_58_22, ms_58_23, ps_58_23, ms_58_24, ps_58_24, ms_58_27, ps_58_27, ms_58_28, ps_58_28, mg_58_32, pg_58_32, mg_58_33, pg_58_33, ↓reduceIte, s100, bx_eq, bx_nI, w56_3, w56_4, w56_5, w56_6, w56_p3, w56_p4, w56_p5, w56_p6, w56_p57, nI_1]
      rw [ih (i + 1) (by omega)]
      simp only [fol, hl]
def folF (D : DT) (n : Nat) (S : SG) (root : Int32) : Int32 × Int32 × Int32 × Nat × (Nat → Int32) := fol D n (S 51 7) (S 54) 16 root (bx root) 0 0 (S 57)
def folS (D : DT) (n : Nat) (root : Int32) (S : SG) : SG := w56 S (folF D n S root).1 (folF D n S root).2.1 (folF D n S root).2.2.1 (nI (folF D n S root).2.2.2.1) (folF D n S root).2.2.2.2
theorem s51 (root : Int32) (hX : HX G n D) : run 51 [.ref (56 : Nat), .int root] KF (mix G S) J (RQ q) = some ((KF, mix G (folS D n root S), J, RQ q), none) := by
  rw [run_51]
  simp only [e51_0, e51_1, e51_2, e51_5, e51_6, e51_7, e51_10, e51_13, e51_14, e51_15, e51_18, e51_19, e51_20, e51_23, e51_24, e51_26, e51_28, e51_31, e51_32, e51_35, e51_36, e51_39, e51_40, e51_43, e51_46, e51_47, e51_50, e51_51, e51_52, e51_53, e51_56, e51_57, e51_58, e51_59, e51_62, e51_63, e51_64, e51_67, e51_68, e51_69, e51_70, e51_71, e51_71r, e51_72, e51_75, e51_76, e51_77, e51_80, e51_81, e51_81r, e51_82, e51_85, e51_86, e51_89, e51_90, e51_93, e51_94, e51_95, e51_98, e51_101, e51_102, e51_103, e51_106, e51_109, e51_110, e51_110r, e51_111, e51_114, e51_115, e51_118, e51_121, e51_122, e51_125, e51_128, e51_131, kf_0, ik_1, ik_2, ik_3, kf_8, ik_9, kf_10, ik_11, ik_28, ik_29, kf_30, ik_31, ik_48, ik_49, kf_50, kf_51, ik_52, ik_53, ik_54, kf_55, kf_56, ik_57, kf_58, ik_59, ik_60, ik_61, ik_62, ik_63, ik_64, ik_65, ik_66, ik_67, ik_68, ik_69, ik_70, ik_71, ik_72, ik_73, ik_74, rq_0_0, rq_0_1, rq_0_2, rq_0_3, rq_0_4, rq_0_5, rq_0_6, rq_0_7, rq_0_8, rq_8_0, rq_10_0, rq_10_1, rq_10_2, rq_30_0, rq_30_1, rq_30_2, rq_50_0, rq_51_0, rq_51_1, rq_51_2, rq_51_3, rq_51_4, rq_51_5, rq_56_0, rq_56_1, rq_56_2, rq_58_1, rq_58_3, rq_58_4, rq_58_5, rq_58_7, rq_58_8, rq_58_11, rq_58_12, rq_58_13, rq_58_14, rq_58_15, rq_58_25, rq_58_26, rq_58_29, rq_58_30, rq_58_31, rq_3, rq_11, rq_31, rq_law, rv_s, cl_i, cl_r, cl_n, tl_s, tl_n, kont_some, le4_0, le4_1, le4_2, le4_3, le4_4, eq_self, or_true, true_or, and_true, true_and, mg_0, pg_0, mg_1, pg_1, mg_2, pg_2, mg_8, pg_8, mg_9, pg_9, mg_10, pg_10, mg_28, pg_28, mg_29, pg_29, mg_30, pg_30, mg_48, pg_48, mg_49, pg_49, mg_59, pg_59, mg_60, pg_60, mg_61, pg_61, mg_62, pg_62, mg_63, pg_63, mg_64, pg_64, mg_65, pg_65, mg_66, pg_66, mg_67, pg_67, mg_68, pg_68, mg_69, pg_69, mg_72, pg_72, mg_73, pg_73, mg_74, pg_74, ms_50, ps_50, ms_51, ps_51, ms_52, ps_52, ms_53, ps_53, ms_54, ps_54, ms_56, ps_56, ms_57, ps_57, ms_70, ps_70, ms_71, ps_71, mg_58_0, pg_58_0, mg_58_2, pg_58_2, mg_58_6, pg_58_6, mg_58_9, pg_58_9, mg_58_10, pg_58_10, ms_58_16, ps_58_16, ms_58_17, ps_58_17, ms_58_18, ps_58_18, ms_58_19, ps_58_19, ms_58_20, ps_58_20, ms_58_21, ps_58_21, ms_58_22, ps_58_22, ms_58_23, ps_58_23, ms_58_24, ps_58_24, ms_58_27, ps_58_27, ms_58_28, ps_58_28, mg_58_32, pg_58_32, mg_58_33, pg_58_33, s100, bx_eq, w56_in]
  exact h51 root hX 16 0 rfl root (bx root) 0 (S 57) none
theorem s52 {p : Nat} (hp : p < 16) {cn : Nat} (hcn : G 56 6 = nI cn) (hc16 : cn ≤ 16) : run 52 [.ref (56 : Nat), .int (nI p)] KF G J (RQ q) = some ((KF, G, J, RQ q), some (.int (if p < cn then G 57 p else -1))) := by
  rw [run_52]
  have f1 := inb_nI hp (show 16 < 2147483648 by omega)
  have f2 := cl_nI (show p < 2147483648 by omega)
  have f3 : (nI p < 0) = False := eq_false (nI_pos (by omega))
  have f4 : (nI p < nI cn) = (p < cn) := propext (nI_ltI (by omega) (by omega))
  simp only [e52_0, e52_1, e52_4, e52_5, e52_6, e52_9, e52_12, e52_13, e52_16, e52_17, e52_18, e52_21, e52_22, kf_0, ik_1, ik_2, ik_3, kf_8, ik_9, kf_10, ik_11, ik_28, ik_29, kf_30, ik_31, ik_48, ik_49, kf_50, kf_51, ik_52, ik_53, ik_54, kf_55, kf_56, ik_57, kf_58, ik_59, ik_60, ik_61, ik_62, ik_63, ik_64, ik_65, ik_66, ik_67, ik_68, ik_69, ik_70, ik_71, ik_72, ik_73, ik_74, rq_0_0, rq_0_1, rq_0_2, rq_0_3, rq_0_4, rq_0_5, rq_0_6, rq_0_7, rq_0_8, rq_8_0, rq_10_0, rq_10_1, rq_10_2, rq_30_0, rq_30_1, rq_30_2, rq_50_0, rq_51_0, rq_51_1, rq_51_2, rq_51_3, rq_51_4, rq_51_5, rq_56_0, rq_56_1, rq_56_2, rq_58_1, rq_58_3, rq_58_4, rq_58_5, rq_58_7, rq_58_8, rq_58_11, rq_58_12, rq_58_13, rq_58_14, rq_58_15, rq_58_25, rq_58_26, rq_58_29, rq_58_30, rq_58_31, rq_3, rq_11, rq_31, rq_law, rv_s, cl_i, cl_r, cl_n, tl_s, tl_n, kont_some, le4_0, le4_1, le4_2, le4_3, le4_4, eq_self, or_true, true_or, and_true, true_and, f1, f2, f3, f4, hcn, ↓reduceIte]
  (repeat' split) <;> rfl
theorem fol_cnt {dk : Int32} {B : Nat → Int32} : ∀ (k : Nat) (ow os us : Int32) (i : Nat) (o : Nat → Int32), (fol D n dk B k ow os us i o).2.2.2.1 ≤ i + k := by
  intro k
  induction k with
  | zero => intro ow os us i o; exact Nat.le_refl _
  | succ k ih =>
    intro ow os us i o
    unfold fol
    split
    · dsimp only; omega
    · next d _ =>
      have := ih (D d 3) (os ||| bx (D d 3)) (us ||| b1 d) (i + 1) (upd o i (nI d))
      omega
def rdB (D : DT) (n : Nat) (dk os us : Int32) (B : Nat → Int32) (j : Nat) : Bool := bt dk j && !pasB D j && bt os (ix (D j 2)) && decide (B j &&& (us &&& pfM D n dk (D j 2)) = 0)
def j4d (D : DT) : Nat → Option Value
  | 0 => none
  | i + 1 => some (.int (D i 2))
theorem s53 (hX : HX G n D) (hw : WFi D n) : run 53 [.ref (56 : Nat)] KF G J (RQ q) = some ((KF, G, J, RQ q), some (.int (msk (rdB D n (G 51 7) (G 56 4) (G 56 5) (G 54)) n))) := by
  have key : ev 53 12 [some (.ref (56 : Nat)), some (.int (msk (fun j => bt (G 51 7) j && !pasB D j) n)), some (.int (msk (rdB D n (G 51 7) (G 56 4) (G 56 5) (G 54)) 0)), some (.int (nI 0)), j4d D 0] [] KF G J (RQ q) = ev 53 12 [some (.ref (56 : Nat)), some (.int (msk (fun j => bt (G 51 7) j && !pasB D j) n)), some (.int (msk (rdB D n (G 51 7) (G 56 4) (G 56 5) (G 54)) n)), some (.int (nI n)), j4d D n] [] KF G J (RQ q) := iter (fun i => ev 53 12 [some (.ref (56 : Nat)), some (.int (msk (fun j => bt (G 51 7) j && !pasB D j) n)), some (.int (msk (rdB D n (G 51 7) (G 56 4) (G 56 5) (G 54)) i)), some (.int (nI i)), j4d D i] [] KF G J (RQ q)) n (fun i hi => by
    have h16 := hX.2.1
    have f1 := lt_nI hi (show n < 2147483648 by omega)
    have f2 := inb_nI (show i < 16 by omega) (show 16 < 2147483648 by omega)
    have f3 := cl_nI (show i < 2147483648 by omega)
    have f4 := kf_deed (show i < 16 by omega)
    have f5 : i < 32 := by omega
    have f6 : i < 16 := by omega
    have hn := hX.1
    have d0 := hX.2.2 i 0 hi (by omega)
    have d1 := hX.2.2 i 1 hi (by omega)
    have d2 := hX.2.2 i 2 hi (by omega)
    have d3 := hX.2.2 i 3 hi (by omega)
    have d4 := hX.2.2 i 4 hi (by omega)
    have d5 := hX.2.2 i 5 hi (by omega)
    have d6 := hX.2.2 i 6 hi (by omega)
    have d7 := hX.2.2 i 7 hi (by omega)
    have d8 := hX.2.2 i 8 hi (by omega)
    have d9 := hX.2.2 i 9 hi (by omega)
    obtain ⟨g, hg, eg⟩ := inb_of (hw i hi).2 (by omega)
    have hg32 : g < 32 := by omega
    have ep : msk (fun j => bt (G 51 7) j && pasB D j && decide (D j 2 = nI g)) n = pfM D n (G 51 7) (nI g) := rfl
    have eb : bt (msk (fun j => bt (G 51 7) j && !pasB D j) n) i = (bt (G 51 7) i && !pasB D i) := by rw [bt_msk (by omega)]; simp [hi]
    rw [e53_12]
    simp only [e53_0, e53_1, e53_4, e53_7, e53_8, e53_9, e53_10, e53_11, e53_13, e53_14, e53_17, e53_20, e53_23, e53_24, e53_27, e53_30, e53_31, e53_32, e53_35, e53_37, e53_38, e53_39, e53_42, e53_45, e53_46, e53_49, e53_51, e53_54, e53_57, e53_58, e53_61, e53_62, e53_63, e53_66, e53_67, e53_70, e53_72, e53_75, e53_76, e53_79, e53_82, e53_83, e53_84, e53_87, e53_88, e53_89, e53_92, e53_95, e53_96, kf_0, ik_1, ik_2, ik_3, kf_8, ik_9, kf_10, ik_11, ik_28, ik_29, kf_30, ik_31, ik_48, ik_49, kf_50, kf_51, ik_52, ik_53, ik_54, kf_55, kf_56, ik_57, kf_58, ik_59, ik_60, ik_61, ik_62, ik_63, ik_64, ik_65, ik_66, ik_67, ik_68, ik_69, ik_70, ik_71, ik_72, ik_73, ik_74, rq_0_0, rq_0_1, rq_0_2, rq_0_3, rq_0_4, rq_0_5, rq_0_6, rq_0_7, rq_0_8, rq_8_0, rq_10_0, rq_10_1, rq_10_2, rq_30_0, rq_30_1, rq_30_2, rq_50_0, rq_51_0, rq_51_1, rq_51_2, rq_51_3, rq_51_4, rq_51_5, rq_56_0, rq_56_1, rq_56_2, rq_58_1, rq_58_3, rq_58_4, rq_58_5, rq_58_7, rq_58_8, rq_58_11, rq_58_12, rq_58_13, rq_58_14, rq_58_15, rq_58_25, rq_58_26, rq_58_29, rq_58_30, rq_58_31, rq_3, rq_11, rq_31, rq_law, rv_s, cl_i, cl_r, cl_n, tl_s, tl_n, kont_some, le4_0, le4_1, le4_2, le4_3, le4_4, eq_self, or_true, true_or, and_true, true_and, f1, f2, f3, f4, hn, d0, d1, d2, d3, d4, d5, d6, d7, d8, d9, nI_1, b1_eq, ↓reduceIte, eg, s101 f5, s101 hg32, s21 _ hX, s19 _ f6, s100, ep, eb, bi_0, msk, rdB, j4d, ix_nI (show g < 2147483648 by omega), Bool.and_eq_true, decide_eq_true_eq, Bool.not_eq_true']
    by_cases h1 : bt (G 51 7) i = true <;> by_cases h2 : pasB D i = true <;> by_cases h3 : bt (G 56 4) g = true <;> by_cases h4 : G 54 i &&& (G 56 5 &&& pfM D n (G 51 7) (nI g)) = 0 <;> simp [h1, h2, h3, h4])
  rw [run_53]
  simp only [e53_0, e53_1, e53_4, e53_7, e53_8, e53_9, e53_10, e53_11, e53_13, e53_14, e53_17, e53_20, e53_23, e53_24, e53_27, e53_30, e53_31, e53_32, e53_35, e53_37, e53_38, e53_39, e53_42, e53_45, e53_46, e53_49, e53_51, e53_54, e53_57, e53_58, e53_61, e53_62, e53_63, e53_66, e53_67, e53_70, e53_72, e53_75, e53_76, e53_79, e53_82, e53_83, e53_84, e53_87, e53_88, e53_89, e53_92, e53_95, e53_96, kf_0, ik_1, ik_2, ik_3, kf_8, ik_9, kf_10, ik_11, ik_28, ik_29, kf_30, ik_31, ik_48, ik_49, kf_50, kf_51, ik_52, ik_53, ik_54, kf_55, kf_56, ik_57, kf_58, ik_59, ik_60, ik_61, ik_62, ik_63, ik_64, ik_65, ik_66, ik_67, ik_68, ik_69, ik_70, ik_71, ik_72, ik_73, ik_74, rq_0_0, rq_0_1, rq_0_2, rq_0_3, rq_0_4, rq_0_5, rq_0_6, rq_0_7, rq_0_8, rq_8_0, rq_10_0, rq_10_1, rq_10_2, rq_30_0, rq_30_1, rq_30_2, rq_50_0, rq_51_0, rq_51_1, rq_51_2, rq_51_3, rq_51_4, rq_51_5, rq_56_0, rq_56_1, rq_56_2, rq_58_1, rq_58_3, rq_58_4, rq_58_5, rq_58_7, rq_58_8, rq_58_11, rq_58_12, rq_58_13, rq_58_14, rq_58_15, rq_58_25, rq_58_26, rq_58_29, rq_58_30, rq_58_31, rq_3, rq_11, rq_31, rq_law, rv_s, cl_i, cl_r, cl_n, tl_s, tl_n, kont_some, le4_0, le4_1, le4_2, le4_3, le4_4, eq_self, or_true, true_or, and_true, true_and, s22 hX]
  refine key.trans ?_
  rw [e53_12]
  simp only [e53_0, e53_1, e53_4, e53_7, e53_8, e53_9, e53_10, e53_11, e53_13, e53_14, e53_17, e53_20, e53_23, e53_24, e53_27, e53_30, e53_31, e53_32, e53_35, e53_37, e53_38, e53_39, e53_42, e53_45, e53_46, e53_49, e53_51, e53_54, e53_57, e53_58, e53_61, e53_62, e53_63, e53_66, e53_67, e53_70, e53_72, e53_75, e53_76, e53_79, e53_82, e53_83, e53_84, e53_87, e53_88, e53_89, e53_92, e53_95, e53_96, kf_0, ik_1, ik_2, ik_3, kf_8, ik_9, kf_10, ik_11, ik_28, ik_29, kf_30, ik_31, ik_48, ik_49, kf_50, kf_51, ik_52, ik_53, ik_54, kf_55, kf_56, ik_57, kf_58, ik_59, ik_60, ik_61, ik_62, ik_63, ik_64, ik_65, ik_66, ik_67, ik_68, ik_69, ik_70, ik_71, ik_72, ik_73, ik_74, rq_0_0, rq_0_1, rq_0_2, rq_0_3, rq_0_4, rq_0_5, rq_0_6, rq_0_7, rq_0_8, rq_8_0, rq_10_0, rq_10_1, rq_10_2, rq_30_0, rq_30_1, rq_30_2, rq_50_0, rq_51_0, rq_51_1, rq_51_2, rq_51_3, rq_51_4, rq_51_5, rq_56_0, rq_56_1, rq_56_2, rq_58_1, rq_58_3, rq_58_4, rq_58_5, rq_58_7, rq_58_8, rq_58_11, rq_58_12, rq_58_13, rq_58_14, rq_58_15, rq_58_25, rq_58_26, rq_58_29, rq_58_30, rq_58_31, rq_3, rq_11, rq_31, rq_law, rv_s, cl_i, cl_r, cl_n, tl_s, tl_n, kont_some, le4_0, le4_1, le4_2, le4_3, le4_4, eq_self, or_true, true_or, and_true, true_and, hX.1, Int32.lt_irrefl, ↓reduceIte]
def rnk (D : DT) (n : Nat) (B : Nat → Int32) (p : Nat) : Nat → Int32 → Nat → Int32
  | 0, _, _ => -1
  | k + 1, rest, i => match firM D n B rest with
    | none => -1
    | some d => if i = p then nI d else rnk D n B p k (rest &&& (b1 d ^^^ -1)) (i + 1)
theorem h54 (ri : Int32) (hX : HX G n D) {p : Nat} (hp : p < 16) : ∀ (k i : Nat), i + k = 16 → ∀ (rest : Int32) (o5 : Option Value), ev 54 5 [some (.ref (56 : Nat)), some (.int ri), some (.int (nI p)), some (.int rest), some (.int (nI i)), o5] [] KF G J (RQ q) = some ((KF, G, J, RQ q), some (.int (rnk D n (G 54) p k rest i))) := by
  intro k
  have h16 := hX.2.1
  induction k with
  | zero =>
    intro i hi rest o5
    obtain rfl : i = 16 := by omega
    have c1 : (nI 16 < (16 : Int32)) = False := eq_false (by decide)
    rw [e54_5]
    simp only [e54_0, e54_1, e54_2, e54_3, e54_7, e54_9, e54_12, e54_13, e54_16, e54_17, e54_20, e54_22, e54_24, e54_25, e54_28, e54_30, e54_31, e54_34, e54_36, e54_37, e54_38, e54_40, e54_43, e54_44, e54_45, e54_46, e54_47, e54_50, e54_53, e54_54, kf_0, ik_1, ik_2, ik_3, kf_8, ik_9, kf_10, ik_11, ik_28, ik_29, kf_30, ik_31, ik_48, ik_49, kf_50, kf_51, ik_52, ik_53, ik_54, kf_55, kf_56, ik_57, kf_58, ik_59, ik_60, ik_61, ik_62, ik_63, ik_64, ik_65, ik_66, ik_67, ik_68, ik_69, ik_70, ik_71, ik_72, ik_73, ik_74, rq_0_0, rq_0_1, rq_0_2, rq_0_3, rq_0_4, rq_0_5, rq_0_6, rq_0_7, rq_0_8, rq_8_0, rq_10_0, rq_10_1, rq_10_2, rq_30_0, rq_30_1, rq_30_2, rq_50_0, rq_51_0, rq_51_1, rq_51_2, rq_51_3, rq_51_4, rq_51_5, rq_56_0, rq_56_1, rq_56_2, rq_58_1, rq_58_3, rq_58_4, rq_58_5, rq_58_7, rq_58_8, rq_58_11, rq_58_12, rq_58_13, rq_58_14, rq_58_15, rq_58_25, rq_58_26, rq_58_29, rq_58_30, rq_58_31, rq_3, rq_11, rq_31, rq_law, rv_s, cl_i, cl_r, cl_n, tl_s, tl_n, kont_some, le4_0, le4_1, le4_2, le4_3, le4_4, eq_self, or_true, true_or, and_true, true_and, c1, ↓reduceIte, rnk]
  | succ k ih =>
    intro i hi rest o5
    have c1 : (nI i < (16 : Int32)) = True := eq_true (show nI i < nI 16 from nI_lt (show i < 16 by omega) (by omega))
    have c2 : (nI i = nI p) = (i = p) := propext (nI_eq (by omega) (by omega))
    rw [e54_5]
    simp only [e54_0, e54_1, e54_2, e54_3, e54_7, e54_9, e54_12, e54_13, e54_16, e54_17, e54_20, e54_22, e54_24, e54_25, e54_28, e54_30, e54_31, e54_34, e54_36, e54_37, e54_38, e54_40, e54_43, e54_44, e54_45, e54_46, e54_47, e54_50, e54_53, e54_54, kf_0, ik_1, ik_2, ik_3, kf_8, ik_9, kf_10, ik_11, ik_28, ik_29, kf_30, ik_31, ik_48, ik_49, kf_50, kf_51, ik_52, ik_53, ik_54, kf_55, kf_56, ik_57, kf_58, ik_59, ik_60, ik_61, ik_62, ik_63, ik_64, ik_65, ik_66, ik_67, ik_68, ik_69, ik_70, ik_71, ik_72, ik_73, ik_74, rq_0_0, rq_0_1, rq_0_2, rq_0_3, rq_0_4, rq_0_5, rq_0_6, rq_0_7, rq_0_8, rq_8_0, rq_10_0, rq_10_1, rq_10_2, rq_30_0, rq_30_1, rq_30_2, rq_50_0, rq_51_0, rq_51_1, rq_51_2, rq_51_3, rq_51_4, rq_51_5, rq_56_0, rq_56_1, rq_56_2, rq_58_1, rq_58_3, rq_58_4, rq_58_5, rq_58_7, rq_58_8, rq_58_11, rq_58_12, rq_58_13, rq_58_14, rq_58_15, rq_58_25, rq_58_26, rq_58_29, rq_58_30, rq_58_31, rq_3, rq_11, rq_31, rq_law, rv_s, cl_i, cl_r, cl_n, tl_s, tl_n, kont_some, le4_0, le4_1, le4_2, le4_3, le4_4, eq_self, or_true, true_or, and_true, true_and, c1, c2, ↓reduceIte, s20 _ hX]
    cases hl : firM D n (G 54) rest with
    | none => simp only [oI_n, ↓reduceIte, rnk, hl]
    | some d =>
      obtain ⟨hd, -⟩ := firM_lt hl
      have g1 : (nI d = -1) = False := nI_ne_m1 (by omega)
      simp only [oI_s, g1, ↓reduceIte, s100, b1_eq, nI_1, rnk, hl, e54_0, e54_1, e54_2, e54_3, e54_7, e54_9, e54_12, e54_13, e54_16, e54_17, e54_20, e54_22, e54_24, e54_25, e54_28, e54_30, e54_31, e54_34, e54_36, e54_37, e54_38, e54_40, e54_43, e54_44, e54_45, e54_46, e54_47, e54_50, e54_53, e54_54, kf_0, ik_1, ik_2, ik_3, kf_8, ik_9, kf_10, ik_11, ik_28, ik_29, kf_30, ik_31, ik_48, ik_49, kf_50, kf_51, ik_52, ik_53, ik_54, kf_55, kf_56, ik_57, kf_58, ik_59, ik_60, ik_61, ik_62, ik_63, ik_64, ik_65, ik_66, ik_67, ik_68, ik_69, ik_70, ik_71, ik_72, ik_73, ik_74, rq_0_0, rq_0_1, rq_0_2, rq_0_3, rq_0_4, rq_0_5, rq_0_6, rq_0_7, rq_0_8, rq_8_0, rq_10_0, rq_10_1, rq_10_2, rq_30_0, rq_30_1, rq_30_2, rq_50_0, rq_51_0, rq_51_1, rq_51_2, rq_51_3, rq_51_4, rq_51_5, rq_56_0, rq_56_1, rq_56_2, rq_58_1, rq_58_3, rq_58_4, rq_58_5, rq_58_7, rq_58_8, rq_58_11, rq_58_12, rq_58_13, rq_58_14, rq_58_15, rq_58_25, rq_58_26, rq_58_29, rq_58_30, rq_58_31, rq_3, rq_11, rq_31, rq_law, rv_s, cl_i, cl_r, cl_n, tl_s, tl_n, kont_some, le4_0, le4_1, le4_2, le4_3, le4_4, eq_self, or_true, true_or, and_true, true_and]
      by_cases he : i = p
      · simp only [he, ↓reduceIte]
      · simp only [he, ↓reduceIte]
        exact ih (i + 1) (by omega) _ _
theorem s54 (ri : Int32) (hX : HX G n D) {p : Nat} (hp : p < 16) : run 54 [.ref (56 : Nat), .int ri, .int (nI p)] KF G J (RQ q) = some ((KF, G, J, RQ q), some (.int (rnk D n (G 54) p 16 ri 0))) := by
  rw [run_54]
  simp only [e54_0, e54_1, e54_2, e54_3, e54_7, e54_9, e54_12, e54_13, e54_16, e54_17, e54_20, e54_22, e54_24, e54_25, e54_28, e54_30, e54_31, e54_34, e54_36, e54_37, e54_38, e54_40, e54_43, e54_44, e54_45, e54_46, e54_47, e54_50, e54_53, e54_54, kf_0, ik_1, ik_2, ik_3, kf_8, ik_9, kf_10, ik_11, ik_28, ik_29, kf_30, ik_31, ik_48, ik_49, kf_50, kf_51, ik_52, ik_53, ik_54, kf_55, kf_56, ik_57, kf_58, ik_59, ik_60, ik_61, ik_62, ik_63, ik_64, ik_65, ik_66, ik_67, ik_68, ik_69, ik_70, ik_71, ik_72, ik_73, ik_74, rq_0_0, rq_0_1, rq_0_2, rq_0_3, rq_0_4, rq_0_5, rq_0_6, rq_0_7, rq_0_8, rq_8_0, rq_10_0, rq_10_1, rq_10_2, rq_30_0, rq_30_1, rq_30_2, rq_50_0, rq_51_0, rq_51_1, rq_51_2, rq_51_3, rq_51_4, rq_51_5, rq_56_0, rq_56_1, rq_56_2, rq_58_1, rq_58_3, rq_58_4, rq_58_5, rq_58_7, rq_58_8, rq_58_11, rq_58_12, rq_58_13, rq_58_14, rq_58_15, rq_58_25, rq_58_26, rq_58_29, rq_58_30, rq_58_31, rq_3, rq_11, rq_31, rq_law, rv_s, cl_i, cl_r, cl_n, tl_s, tl_n, kont_some, le4_0, le4_1, le4_2, le4_3, le4_4, eq_self, or_true, true_or, and_true, true_and]
  exact h54 ri hX hp 16 0 rfl ri none
end TITLE
