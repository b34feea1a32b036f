/-! what one is held to know, in the class -/
abbrev ix (x : Int32) : Nat := x.toNatClampNeg
def fmM (D : DT) (n : Nat) (f : Int32) : Int32 := msk (fun j => fldB D f j && cbfB D j) n
def srF (D : DT) (n : Nat) (f nm day : Int32) : Int32 × Nat × Int32 := srch D (fmM D n f) day n 17 nm day (fmM D n f) 0 0
def srS (D : DT) (n : Nat) (f nm day : Int32) (S : SG) : SG := w50 (up2 S 50 1 (fmM D n f)) (srF D n f nm day).1 (nI (srF D n f nm day).2.1) (srF D n f nm day).2.2
def livM (w : Nat → Int32) (D : DT) (n : Nat) (dw sn : Nat → Int32) (b : Nat) : Int32 := if w 2 = 0 then 0 else if D b 4 < sn (ix (D b 1)) then 0 else msk (fun j => decide (D j 3 = dw (ix (D b 1)))) n
def tldM (w : Nat → Int32) (D : DT) (n : Nat) (dw sn N : Nat → Int32) (b : Nat) : Int32 := if w 1 = 97 then livM w D n dw sn b ||| msk (fun j => fldB D (D b 1) j && cbfB D j && decide (¬ D b 4 < D j 5)) n else if w 1 = 99 then livM w D n dw sn b ||| (srF D n (D b 1) (N (ix (D b 2))) (D b 4)).1 else livM w D n dw sn b
def tldS (w : Nat → Int32) (D : DT) (n : Nat) (N : Nat → Int32) (b : Nat) (S : SG) : SG := if w 1 = 97 then S else if w 1 = 99 then srS D n (D b 1) (N (ix (D b 2))) (D b 4) S else S
theorem inb_of {x : Int32} {n : Nat} (h : inb x n = true) (hn : n < 2147483648) : ∃ j, j < n ∧ x = nI j := vp_in_of (inb_in h) hn
theorem inb_pos {x : Int32} {n : Nat} (h : inb x n = true) : (x < 0) = False := by
  apply eq_false
  intro z
  exact (inb_in h) (Or.inl z)
theorem inb_lt {x : Int32} {n : Nat} (h : inb x n = true) (hn : n < 2147483648) : x < Int32.ofNat n := by
  obtain ⟨j, hj, rfl⟩ := inb_of h hn
  exact nI_lt hj hn
theorem ix_nI {j : Nat} (h : j < 2147483648) : ix (nI j) = j := nI_clamp h
section HELD
variable {G S : SG} {J : SJ} {q ql n c b : Nat} {D : DT}
theorem s17' (hX : HX G n D) (hc : KF[c]? = some (.inr 2)) (hf : inb (G c 1) 6 = true) : run 17 [.ref (51 : Nat), .ref c] KF G J (RQ q) = some ((KF, G, J, RQ q), some (.int (if G c 4 < G 29 (ix (G c 1)) then 0 else msk (fun j => decide (D j 3 = G 28 (ix (G c 1)))) n))) := by
  obtain ⟨f, h6, hf⟩ := inb_of hf (by omega)
  rw [s17 hX hc hf h6, hf, ix_nI (by omega)]
theorem s47' (f nm day : Int32) (hX : HX G n D) : run 47 [.ref (50 : Nat), .int f, .int nm, .int day] KF (mix G S) J (RQ q) = some ((KF, mix G (srS D n f nm day S), J, RQ q), none) := s47 f nm day hX
theorem srS_50_2 (f nm day : Int32) : srS D n f nm day S 50 2 = (srF D n f nm day).1 := w50_2 _ _ _ _
theorem s16 (hX : HX G n D) (hb : b < n) (hl : KF[ql]? = some (.inr 3)) (hl5 : ql < 50) (hf : inb (D b 1) 6 = true) (hg : inb (D b 2) 12 = true) : run 16 [.ref (51 : Nat), .ref ql, .int (nI b)] KF (mix G S) J (RQ q) = some ((KF, mix G (tldS (G ql) D n (G 1) b S), J, RQ q), some (.int (tldM (G ql) D n (G 28) (G 29) (G 1) b))) := by
  rw [run_16]
  have h16 := hX.2.1
  have fb := inb_nI (show b < 16 by omega) (show 16 < 2147483648 by omega)
  have gb := cl_nI (show b < 2147483648 by omega)
  have kb := kf_deed (show b < 16 by omega)
  have mq := fun (S : SG) a => mix_low (G := G) (S := S) (c := ql) (s := a) hl5
  have m0 := fun (S : SG) a => mix_low (G := G) (S := S) (c := 12 + b) (s := a) (by omega)
  have d1 := hX.2.2 b 1 hb (by omega)
  have d2 := hX.2.2 b 2 hb (by omega)
  have d4 := hX.2.2 b 4 hb (by omega)
  have hf' : inb (mix G S (12 + b) 1) 6 = true := by rw [m0, d1]; exact hf
  have g1 := inb_pos hg
  have g2 : (D b 2 < Int32.ofNat (alK KF 1)) = True := eq_true (by rw [al_1.2]; exact inb_lt hg (by omega))
  have lv := s17' (q := q) (J := J) hX.mix kb hf'
  simp only [m0, d1, d4, mg_28, mg_29] at lv
  have elv : ∀ h : ¬ G ql 2 = 0, (if D b 4 < G 29 (ix (D b 1)) then (0 : Int32) else msk (fun j => decide (D j 3 = G 28 (ix (D b 1)))) n) = livM (G ql) D n (G 28) (G 29) b := fun h => by simp only [livM, h, ↓reduceIte]
  have elv0 : ∀ h : G ql 2 = 0, (0 : Int32) = livM (G ql) D n (G 28) (G 29) b := fun h => by simp only [livM, h, ↓reduceIte]
  have eu := s18 (q := q) (J := J) (hX.mix (S := S)) kb
  simp only [m0, d1, d4] at eu
  simp only [e16_0, e16_1, e16_4, e16_7, e16_8, e16_9, e16_10, e16_11, e16_14, e16_17, e16_18, e16_19, e16_22, e16_25, e16_26, e16_28, e16_29, e16_32, e16_34, e16_37, e16_39, e16_40, e16_41, e16_44, e16_45, e16_47, e16_50, e16_51, e16_54, e16_56, e16_59, e16_60, e16_63, e16_66, e16_67, e16_70, e16_71, e16_74, e16_75, e16_78, e16_79, e16_82, e16_83, e16_86, e16_87, e16_90, e16_91, e16_94, e16_95, e16_96, e16_99, e16_102, e16_104, e16_105, e16_108, e16_111, e16_112, e16_114, e16_116, kf_0, ik_1, ik_2, ik_3, kf_8, ik_9, kf_10, ik_11, ik_28, ik_29, kf_30, ik_31, ik_48, ik_49, kf_50, kf_51, ik_52, ik_53, ik_54, kf_55, kf_56, ik_57, kf_58, ik_59, ik_60, ik_61, ik_62, ik_63, ik_64, ik_65, ik_66, ik_67, ik_68, ik_69, ik_70, ik_71, ik_72, ik_73, ik_74, rq_0_0, rq_0_1, rq_0_2, rq_0_3, rq_0_4, rq_0_5, rq_0_6, rq_0_7, rq_0_8, rq_8_0, rq_10_0, rq_10_1, rq_10_2, rq_30_0, rq_30_1, rq_30_2, rq_50_0, rq_51_0, rq_51_1, rq_51_2, rq_51_3, rq_51_4, rq_51_5, rq_56_0, rq_56_1, rq_56_2, rq_58_1, rq_58_3, rq_58_4, rq_58_5, rq_58_7, rq_58_8, rq_58_11, rq_58_12, rq_58_13, rq_58_14, rq_58_15, rq_58_25, rq_58_26, rq_58_29, rq_58_30, rq_58_31, rq_3, rq_11, rq_31, rq_law, rv_s, cl_i, cl_r, cl_n, tl_s, tl_n, kont_some, le4_0, le4_1, le4_2, le4_3, le4_4, eq_self, or_true, true_or, and_true, true_and, fb, gb, kb, hl, mq]
  by_cases h2 : G ql 2 = 0 <;> by_cases h97 : G ql 1 = 97 <;> by_cases h99 : G ql 1 = 99 <;> simp only [h2, h97, h99, ↓reduceIte, e16_0, e16_1, e16_4, e16_7, e16_8, e16_9, e16_10, e16_11, e16_14, e16_17, e16_18, e16_19, e16_22, e16_25, e16_26, e16_28, e16_29, e16_32, e16_34, e16_37, e16_39, e16_40, e16_41, e16_44, e16_45, e16_47, e16_50, e16_51, e16_54, e16_56, e16_59, e16_60, e16_63, e16_66, e16_67, e16_70, e16_71, e16_74, e16_75, e16_78, e16_79, e16_82, e16_83, e16_86, e16_87, e16_90, e16_91, e16_94, e16_95, e16_96, e16_99, e16_102, e16_104, e16_105, e16_108, e16_111, e16_112, e16_114, e16_116, kf_0, ik_1, ik_2, ik_3, kf_8, ik_9, kf_10, ik_11, ik_28, ik_29, kf_30, ik_31, ik_48, ik_49, kf_50, kf_51, ik_52, ik_53, ik_54, kf_55, kf_56, ik_57, kf_58, ik_59, ik_60, ik_61, ik_62, ik_63, ik_64, ik_65, ik_66, ik_67, ik_68, ik_69, ik_70, ik_71, ik_72, ik_73, ik_74, rq_0_0, rq_0_1, rq_0_2, rq_0_3, rq_0_4, rq_0_5, rq_0_6, rq_0_7, rq_0_8, rq_8_0, rq_10_0, rq_10_1, rq_10_2, rq_30_0, rq_30_1, rq_30_2, rq_50_0, rq_51_0, rq_51_1, rq_51_2, rq_51_3, rq_51_4, rq_51_5, rq_56_0, rq_56_1, rq_56_2, rq_58_1, rq_58_3, rq_58_4, rq_58_5, rq_58_7, rq_58_8, rq_58_11, rq_58_12, rq_58_13, rq_58_14, rq_58_15, rq_58_25, rq_58_26, rq_58_29, rq_58_30, rq_58_31, rq_3, rq_11, rq_31, rq_law, rv_s, cl_i, cl_r, cl_n, tl_s, tl_n, kont_some, le4_0, le4_1, le4_2, le4_3, le4_4, eq_self, or_true, true_or, and_true, true_and, mg_0, pg_0, mg_1, pg_1, mg_2, pg_2, mg_8, pg_8, mg_9, pg_9, mg_10, pg_10, mg_28, pg_28, mg_29, pg_29, mg_30, pg_30, mg_48, pg_48, mg_49, pg_49, mg_59, pg_59, mg_60, pg_60, mg_61, pg_61, mg_62, pg_62, mg_63, pg_63, mg_64, pg_64, mg_65, pg_65, mg_66, pg_66, mg_67, pg_67, mg_68, pg_68, mg_69, pg_69, mg_72, pg_72, mg_73, pg_73, mg_74, pg_74, ms_50, ps_50, ms_51, ps_51, ms_52, ps_52, ms_53, ps_53, ms_54, ps_54, ms_56, ps_56, ms_57, ps_57, ms_70, ps_70, ms_71, ps_71, mg_58_0, pg_58_0, mg_58_2, pg_58_2, mg_58_6, pg_58_6, mg_58_9, pg_58_9, mg_58_10, pg_58_10, ms_58_16, ps_58_16, ms_58_17, ps_58_17, ms_58_18, ps_58_18, ms_58_19, ps_58_19, ms_58_20, ps_58_20, ms_58_21, ps_58_21, ms_58_22, ps_58_22, ms_58_23, ps_58_23, ms_58_24, ps_58_24, ms_58_27, ps_58_27, ms_58_28, ps_58_28, mg_58_32, pg_58_32, mg_58_33, pg_58_33, fb, gb, kb, hl, mq, m0, d1, d2, d4, lv, eu, g1, g2, hg, al_1.1, s47' _ _ _ hX, srS_50_2, tldM, tldS, livM, show ¬ ((97 : Int32) = 99) by decide, show ¬ ((99 : Int32) = 97) by decide]
def hldM (w : Nat → Int32) (D : DT) (n : Nat) (dw sn N : Nat → Int32) (b : Nat) : Int32 := msk (fun j => fldB D (D b 1) j && ahB D j b && (bt (D b 9) j || bt (tldM w D n dw sn N b) j)) n
theorem s14 (hX : HX G n D) (hb : b < n) (hl : KF[ql]? = some (.inr 3)) (hl5 : ql < 50) (hf : inb (D b 1) 6 = true) (hg : inb (D b 2) 12 = true) : run 14 [.ref (51 : Nat), .ref ql, .int (nI b)] KF (mix G S) J (RQ q) = some ((KF, mix G (tldS (G ql) D n (G 1) b S), J, RQ q), some (.int (hldM (G ql) D n (G 28) (G 29) (G 1) b))) := by
  rw [run_14]
  have h16 := hX.2.1
  have fb := inb_nI (show b < 16 by omega) (show 16 < 2147483648 by omega)
  have gb := cl_nI (show b < 2147483648 by omega)
  have kb := kf_deed (show b < 16 by omega)
  have m0 := fun (S : SG) a => mix_low (G := G) (S := S) (c := 12 + b) (s := a) (by omega)
  have d1 := hX.2.2 b 1 hb (by omega)
  have d9 := hX.2.2 b 9 hb (by omega)
  simp only [e14_0, e14_1, e14_4, e14_7, e14_8, e14_9, e14_10, e14_11, e14_12, e14_13, e14_16, e14_17, e14_20, e14_23, e14_26, e14_27, e14_30, e14_31, e14_32, e14_33, e14_36, e14_37, e14_38, kf_0, ik_1, ik_2, ik_3, kf_8, ik_9, kf_10, ik_11, ik_28, ik_29, kf_30, ik_31, ik_48, ik_49, kf_50, kf_51, ik_52, ik_53, ik_54, kf_55, kf_56, ik_57, kf_58, ik_59, ik_60, ik_61, ik_62, ik_63, ik_64, ik_65, ik_66, ik_67, ik_68, ik_69, ik_70, ik_71, ik_72, ik_73, ik_74, rq_0_0, rq_0_1, rq_0_2, rq_0_3, rq_0_4, rq_0_5, rq_0_6, rq_0_7, rq_0_8, rq_8_0, rq_10_0, rq_10_1, rq_10_2, rq_30_0, rq_30_1, rq_30_2, rq_50_0, rq_51_0, rq_51_1, rq_51_2, rq_51_3, rq_51_4, rq_51_5, rq_56_0, rq_56_1, rq_56_2, rq_58_1, rq_58_3, rq_58_4, rq_58_5, rq_58_7, rq_58_8, rq_58_11, rq_58_12, rq_58_13, rq_58_14, rq_58_15, rq_58_25, rq_58_26, rq_58_29, rq_58_30, rq_58_31, rq_3, rq_11, rq_31, rq_law, rv_s, cl_i, cl_r, cl_n, tl_s, tl_n, kont_some, le4_0, le4_1, le4_2, le4_3, le4_4, eq_self, or_true, true_or, and_true, true_and, fb, gb, kb, m0, d1, d9, s2 _ hX.mix, s15 _ hX.mix hb, s16 hX hb hl hl5 hf hg]
  have e : msk (fun j => bt (msk (fun j => fldB D (D b 1) j) n) j && ahB D j b) n &&& (D b 9 ||| tldM (G ql) D n (G 28) (G 29) (G 1) b) = hldM (G ql) D n (G 28) (G 29) (G 1) b := by
    apply msk_ext (by omega)
    intro i hi
    rw [b_and, bt_msk (by omega), b_or, bt_msk (by omega)]
    cases h1 : decide (i < n) <;> simp
  rw [e]
end HELD
