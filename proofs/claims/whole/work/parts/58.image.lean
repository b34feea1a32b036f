/-! image, restore -/
def cpD (G : SG) (c d : Nat) : SG := fun a s => if a = c ∧ s < 10 then G d s else G a s
def cp1 (G : SG) (A AD BD n i : Nat) : SG := fun c s => if AD ≤ c ∧ c < AD + i ∧ s < 10 then G (BD + (c - AD)) s else if c = A ∧ s = 3 then nI n else G c s
def cp0 (G : SG) (A B i : Nat) : SG := fun c s => if c = A ∧ s < i then G B s else G c s
def cp2 (G : SG) (A A' B B' i : Nat) : SG := fun c s => if c = A ∧ s < i then G B s else if c = A' ∧ s < i then G B' s else G c s
def rs2 (G : SG) (kf i : Nat) : SG := fun c s => if c = 61 ∧ s < i then (if s < kf then G 73 s else -1) else if c = 62 ∧ s < i then (if s < kf then G 74 s else 0) else G c s
theorem cp0_ne {G : SG} {A B i c s : Nat} (h : c ≠ A) : cp0 G A B i c s = G c s := by
  unfold cp0
  rw [if_neg (by omega)]
theorem cp2_ne {G : SG} {A A' B B' i c s : Nat} (h : c ≠ A) (h' : c ≠ A') : cp2 G A A' B B' i c s = G c s := by
  unfold cp2
  rw [if_neg (by omega), if_neg (by omega)]
theorem cp1_ne {G : SG} {A AD BD n i c s : Nat} (h : ¬ (AD ≤ c ∧ c < AD + i)) (h' : ¬ (c = A ∧ s = 3)) : cp1 G A AD BD n i c s = G c s := by
  unfold cp1
  rw [if_neg (by omega), if_neg (by omega)]
theorem rs2_ne {G : SG} {kf i c s : Nat} (h : c ≠ 61) (h' : c ≠ 62) : rs2 G kf i c s = G c s := by
  unfold rs2
  rw [if_neg (by omega), if_neg (by omega)]
theorem cp0_0 (G : SG) (A B : Nat) : cp0 G A B 0 = G := by
  funext c s
  unfold cp0
  rw [if_neg (by omega)]
theorem cp2_0 (G : SG) (A A' B B' : Nat) : cp2 G A A' B B' 0 = G := by
  funext c s
  unfold cp2
  rw [if_neg (by omega), if_neg (by omega)]
theorem rs2_0 (G : SG) (kf : Nat) : rs2 G kf 0 = G := by
  funext c s
  unfold rs2
  rw [if_neg (by omega), if_neg (by omega)]
theorem cp0_p (G : SG) (A B i : Nat) : up2 (cp0 G A B i) A i (G B i) = cp0 G A B (i + 1) := by
  funext c s
  unfold up2 cp0
  by_cases h : c = A ∧ s = i
  · rw [if_pos h, if_pos (by omega), h.2]
  · rw [if_neg h]
    by_cases h2 : c = A ∧ s < i
    · rw [if_pos h2, if_pos (by omega)]
    · rw [if_neg h2, if_neg (by omega)]
theorem cp2_p (G : SG) {A A' B B' i : Nat} (hA : A ≠ A') : up2 (up2 (cp2 G A A' B B' i) A i (G B i)) A' i (G B' i) = cp2 G A A' B B' (i + 1) := by
  funext c s
  unfold up2 cp2
  by_cases h : c = A
  · rw [if_neg (show ¬ (c = A' ∧ s = i) by omega)]
    by_cases h2 : s = i
    · rw [if_pos ⟨h, h2⟩, if_pos (by omega), h2]
    · rw [if_neg (by omega)]
      by_cases h3 : s < i
      · rw [if_pos ⟨h, h3⟩, if_pos (by omega)]
      · rw [if_neg (by omega), if_neg (by omega), if_neg (by omega), if_neg (by omega)]
  · rw [if_neg (show ¬ (c = A ∧ s = i) by omega), if_neg (show ¬ (c = A ∧ s < i) by omega), if_neg (show ¬ (c = A ∧ s < i + 1) by omega)]
    by_cases h1 : c = A'
    · by_cases h2 : s = i
      · rw [if_pos ⟨h1, h2⟩, if_pos (by omega), h2]
      · rw [if_neg (by omega)]
        by_cases h3 : s < i
        · rw [if_pos ⟨h1, h3⟩, if_pos (by omega)]
        · rw [if_neg (by omega), if_neg (by omega)]
    · rw [if_neg (by omega), if_neg (by omega), if_neg (by omega)]
theorem rs2_p (G : SG) (kf i : Nat) : up2 (up2 (rs2 G kf i) 61 i (if i < kf then G 73 i else -1)) 62 i (if i < kf then G 74 i else 0) = rs2 G kf (i + 1) := by
  funext c s
  unfold up2 rs2
  by_cases h : c = 61
  · rw [if_neg (show ¬ (c = 62 ∧ s = i) by omega)]
    by_cases h2 : s = i
    · rw [if_pos (show c = 61 ∧ s = i from ⟨h, h2⟩), if_pos (show c = 61 ∧ s < i + 1 by omega), h2]
    · rw [if_neg (show ¬ (c = 61 ∧ s = i) by omega)]
      by_cases h3 : s < i
      · rw [if_pos (show c = 61 ∧ s < i from ⟨h, h3⟩), if_pos (show c = 61 ∧ s < i + 1 by omega)]
      · rw [if_neg (show ¬ (c = 61 ∧ s < i) by omega), if_neg (show ¬ (c = 62 ∧ s < i) by omega), if_neg (show ¬ (c = 61 ∧ s < i + 1) by omega), if_neg (show ¬ (c = 62 ∧ s < i + 1) by omega)]
  · rw [if_neg (show ¬ (c = 61 ∧ s = i) by omega), if_neg (show ¬ (c = 61 ∧ s < i) by omega), if_neg (show ¬ (c = 61 ∧ s < i + 1) by omega)]
    by_cases h1 : c = 62
    · by_cases h2 : s = i
      · rw [if_pos (show c = 62 ∧ s = i from ⟨h1, h2⟩), if_pos (show c = 62 ∧ s < i + 1 by omega), h2]
      · rw [if_neg (show ¬ (c = 62 ∧ s = i) by omega)]
        by_cases h3 : s < i
        · rw [if_pos (show c = 62 ∧ s < i from ⟨h1, h3⟩), if_pos (show c = 62 ∧ s < i + 1 by omega)]
        · rw [if_neg (show ¬ (c = 62 ∧ s < i) by omega), if_neg (show ¬ (c = 62 ∧ s < i + 1) by omega)]
    · rw [if_neg (show ¬ (c = 62 ∧ s = i) by omega), if_neg (show ¬ (c = 62 ∧ s < i) by omega), if_neg (show ¬ (c = 62 ∧ s < i + 1) by omega)]
section OPS15
variable {G S : SG} {J : SJ} {R : SR} {q n : Nat} {D : DT}
theorem cpD_eq (G : SG) (c d : Nat) : up2 (up2 (up2 (up2 (up2 (begX G c (G d 0) (G d 1) (G d 2) (G d 3) (G d 4)) c 5 (G d 5)) c 6 (G d 6)) c 7 (G d 7)) c 8 (G d 8)) c 9 (G d 9) = cpD G c d := by
  funext a b
  unfold cpD
  by_cases h : a = c
  · subst h
    by_cases hb : b < 10
    · rw [if_pos ⟨rfl, hb⟩]
      simp only [up2_at]
      rcases a10 hb with rfl | rfl | rfl | rfl | rfl | rfl | rfl | rfl | rfl | rfl <;> simp [begX_at, newV]
    · rw [if_neg (by omega), fr_tac (by omega), fr_tac (by omega), fr_tac (by omega), fr_tac (by omega), fr_tac (by omega)]
      unfold begX
      rw [fr_tac (by omega), fr_tac (by omega), fr_tac (by omega), fr_tac (by omega), fr_tac (by omega), fr_tac (by omega), fr_tac (by omega), fr_tac (by omega), fr_tac (by omega), fr_tac (by omega)]
  · rw [if_neg (by omega), fr_tac (by omega), fr_tac (by omega), fr_tac (by omega), fr_tac (by omega), fr_tac (by omega), begX_ne h]
theorem s27 {c d : Nat} (hc : KF[c]? = some (.inr 2)) (hd : KF[d]? = some (.inr 2)) (hne : d ≠ c) (h8 : G d 8 = 0 ∨ G d 8 = 1) : run 27 [.ref c, .ref d] KF G J R = some ((KF, cpD G c d, J, R), none) := by
  have n1 : ∀ (f : SG) k v s, up2 f c k v d s = f d s := fun f k v s => fr_tac (by omega)
  have n2 : ∀ x0 x1 x2 x3 x4 s, begX G c x0 x1 x2 x3 x4 d s = G d s := fun x0 x1 x2 x3 x4 s => begX_ne hne
  rw [run_27]
  rw [← cpD_eq]
  simp only [e27_0, e27_1, e27_2, e27_5, e27_6, e27_9, e27_10, e27_13, e27_14, e27_17, e27_18, e27_21, e27_24, e27_25, e27_26, e27_29, e27_32, e27_33, e27_34, e27_37, e27_40, e27_41, e27_42, e27_45, e27_48, e27_49, e27_50, e27_53, e27_56, e27_57, e27_58, e27_61, e27_64, kf_0, ik_1, ik_2, ik_3, kf_8, ik_9, kf_10, ik_11, ik_28, ik_29, kf_30, ik_31, ik_48, ik_49, kf_50, kf_51, ik_52, ik_53, ik_54, kf_55, kf_56, ik_57, kf_58, ik_59, ik_60, ik_61, ik_62, ik_63, ik_64, ik_65, ik_66, ik_67, ik_68, ik_69, ik_70, ik_71, ik_72, ik_73, ik_74, rq_0_0, rq_0_1, rq_0_2, rq_0_3, rq_0_4, rq_0_5, rq_0_6, rq_0_7, rq_0_8, rq_8_0, rq_10_0, rq_10_1, rq_10_2, rq_30_0, rq_30_1, rq_30_2, rq_50_0, rq_51_0, rq_51_1, rq_51_2, rq_51_3, rq_51_4, rq_51_5, rq_56_0, rq_56_1, rq_56_2, rq_58_1, rq_58_3, rq_58_4, rq_58_5, rq_58_7, rq_58_8, rq_58_11, rq_58_12, rq_58_13, rq_58_14, rq_58_15, rq_58_25, rq_58_26, rq_58_29, rq_58_30, rq_58_31, rq_3, rq_11, rq_31, rq_law, rv_s, cl_i, cl_r, cl_n, tl_s, tl_n, kont_some, le4_0, le4_1, le4_2, le4_3, le4_4, eq_self, or_true, true_or, and_true, true_and, hc, hd, s26' _ _ _ _ _ hc, n1, n2, h8]
theorem cp1_i (G : SG) (n i : Nat) (hi : i < 16) : cpD (cp1 G 30 32 12 n i) (32 + i) (12 + i) = cp1 G 30 32 12 n (i + 1) := by
  funext c s
  have r : cp1 G 30 32 12 n i (12 + i) s = G (12 + i) s := cp1_ne (by omega) (by omega)
  unfold cpD
  rw [r]
  unfold cp1
  by_cases h : c = 32 + i ∧ s < 10
  · rw [if_pos h, if_pos (by omega), show 12 + (c - 32) = 12 + i by omega]
  · rw [if_neg h]
    by_cases h2 : 32 ≤ c ∧ c < 32 + i ∧ s < 10
    · rw [if_pos h2, if_pos (by omega)]
    · rw [if_neg h2, if_neg (show ¬ (32 ≤ c ∧ c < 32 + (i + 1) ∧ s < 10) by omega)]
theorem s1i (h3 : G 10 3 = nI n) (h16 : n ≤ 16) (h8 : ∀ j, j < n → G (12 + j) 8 = 0 ∨ G (12 + j) 8 = 1) : run 1 [.ref (30 : Nat), .ref (10 : Nat)] KF G J (RQ q) = some ((KF, cp2 (cp1 G 30 32 12 n n) 48 49 28 29 6, J, RQ q), none) := by
  have e0 : up2 G 30 3 (nI n) = cp1 G 30 32 12 n 0 := by
    funext c s
    unfold cp1
    rw [if_neg (by omega)]
    rfl
  have key : ev 1 10 [some (.ref (30 : Nat)), some (.ref (10 : Nat)), some (.int (nI 0))] [] KF (cp1 G 30 32 12 n 0) J (RQ q) = ev 1 10 [some (.ref (30 : Nat)), some (.ref (10 : Nat)), some (.int (nI n))] [] KF (cp1 G 30 32 12 n n) J (RQ q) := iter (fun i => ev 1 10 [some (.ref (30 : Nat)), some (.ref (10 : Nat)), some (.int (nI i))] [] KF (cp1 G 30 32 12 n i) J (RQ q)) n (fun i hi => by
    have g0 := lt_nI hi (show n < 2147483648 by omega)
    have g1 := inb_nI (show i < 16 by omega) (show 16 < 2147483648 by omega)
    have g2 := cl_nI (show i < 2147483648 by omega)
    have k1 := kf_kdeed (show i < 16 by omega)
    have k2 := kf_deed (show i < 16 by omega)
    have r3 : cp1 G 30 32 12 n i 30 3 = nI n := by
      unfold cp1
      rw [if_neg (by omega), if_pos ⟨rfl, rfl⟩]
    have r8 : cp1 G 30 32 12 n i (12 + i) 8 = 0 ∨ cp1 G 30 32 12 n i (12 + i) 8 = 1 := by
      rw [cp1_ne (by omega) (by omega)]
      exact h8 i hi
    rw [e1_10]
    simp only [e1_0, e1_1, e1_2, e1_5, e1_8, e1_9, e1_11, e1_12, e1_15, e1_18, e1_19, e1_22, e1_23, e1_24, e1_25, e1_28, e1_29, e1_30, e1_33, e1_36, e1_39, e1_40, e1_42, e1_44, e1_47, e1_48, e1_51, e1_52, e1_53, e1_56, e1_57, e1_58, e1_59, e1_60, e1_63, e1_64, e1_65, e1_68, e1_69, e1_70, e1_71, e1_74, e1_77, kf_0, ik_1, ik_2, ik_3, kf_8, ik_9, kf_10, ik_11, ik_28, ik_29, kf_30, ik_31, ik_48, ik_49, kf_50, kf_51, ik_52, ik_53, ik_54, kf_55, kf_56, ik_57, kf_58, ik_59, ik_60, ik_61, ik_62, ik_63, ik_64, ik_65, ik_66, ik_67, ik_68, ik_69, ik_70, ik_71, ik_72, ik_73, ik_74, rq_0_0, rq_0_1, rq_0_2, rq_0_3, rq_0_4, rq_0_5, rq_0_6, rq_0_7, rq_0_8, rq_8_0, rq_10_0, rq_10_1, rq_10_2, rq_30_0, rq_30_1, rq_30_2, rq_50_0, rq_51_0, rq_51_1, rq_51_2, rq_51_3, rq_51_4, rq_51_5, rq_56_0, rq_56_1, rq_56_2, rq_58_1, rq_58_3, rq_58_4, rq_58_5, rq_58_7, rq_58_8, rq_58_11, rq_58_12, rq_58_13, rq_58_14, rq_58_15, rq_58_25, rq_58_26, rq_58_29, rq_58_30, rq_58_31, rq_3, rq_11, rq_31, rq_law, rv_s, cl_i, cl_r, cl_n, tl_s, tl_n, kont_some, le4_0, le4_1, le4_2, le4_3, le4_4, eq_self, or_true, true_or, and_true, true_and, r3, g0, g1, g2, k1, k2, s27 k1 k2 (by omega) r8, cp1_i G n i (by omega), ↓reduceIte, nI_1])
  have r3 : cp1 G 30 32 12 n n 30 3 = nI n := by
    unfold cp1
    rw [if_neg (by omega), if_pos ⟨rfl, rfl⟩]
  have key2 : ∀ T : SG, ev 1 41 [some (.ref (30 : Nat)), some (.ref (10 : Nat)), some (.int (nI 0))] [] KF (cp2 T 48 49 28 29 0) J (RQ q) = ev 1 41 [some (.ref (30 : Nat)), some (.ref (10 : Nat)), some (.int (nI 6))] [] KF (cp2 T 48 49 28 29 6) J (RQ q) := fun T => iter (fun i => ev 1 41 [some (.ref (30 : Nat)), some (.ref (10 : Nat)), some (.int (nI i))] [] KF (cp2 T 48 49 28 29 i) J (RQ q)) 6 (fun i hi => by
    have g0 : (nI i < 6) = True := lt_nI hi (show 6 < 2147483648 by omega)
    have g1 := inb_nI hi (show 6 < 2147483648 by omega)
    have g2 := cl_nI (show i < 2147483648 by omega)
    have r1 : cp2 T 48 49 28 29 i 28 i = T 28 i := cp2_ne (by omega) (by omega)
    have r2 : ∀ v, up2 (cp2 T 48 49 28 29 i) 48 i v 29 i = T 29 i := fun v => by rw [fr_tac (by omega), cp2_ne (by omega) (by omega)]
    have hp := cp2_p T (A := 48) (A' := 49) (B := 28) (B' := 29) (i := i) (by omega)
    rw [e1_41]
    simp only [e1_0, e1_1, e1_2, e1_5, e1_8, e1_9, e1_11, e1_12, e1_15, e1_18, e1_19, e1_22, e1_23, e1_24, e1_25, e1_28, e1_29, e1_30, e1_33, e1_36, e1_39, e1_40, e1_42, e1_44, e1_47, e1_48, e1_51, e1_52, e1_53, e1_56, e1_57, e1_58, e1_59, e1_60, e1_63, e1_64, e1_65, e1_68, e1_69, e1_70, e1_71, e1_74, e1_77, kf_0, ik_1, ik_2, ik_3, kf_8, ik_9, kf_10, ik_11, ik_28, ik_29, kf_30, ik_31, ik_48, ik_49, kf_50, kf_51, ik_52, ik_53, ik_54, kf_55, kf_56, ik_57, kf_58, ik_59, ik_60, ik_61, ik_62, ik_63, ik_64, ik_65, ik_66, ik_67, ik_68, ik_69, ik_70, ik_71, ik_72, ik_73, ik_74, rq_0_0, rq_0_1, rq_0_2, rq_0_3, rq_0_4, rq_0_5, rq_0_6, rq_0_7, rq_0_8, rq_8_0, rq_10_0, rq_10_1, rq_10_2, rq_30_0, rq_30_1, rq_30_2, rq_50_0, rq_51_0, rq_51_1, rq_51_2, rq_51_3, rq_51_4, rq_51_5, rq_56_0, rq_56_1, rq_56_2, rq_58_1, rq_58_3, rq_58_4, rq_58_5, rq_58_7, rq_58_8, rq_58_11, rq_58_12, rq_58_13, rq_58_14, rq_58_15, rq_58_25, rq_58_26, rq_58_29, rq_58_30, rq_58_31, rq_3, rq_11, rq_31, rq_law, rv_s, cl_i, cl_r, cl_n, tl_s, tl_n, kont_some, le4_0, le4_1, le4_2, le4_3, le4_4, eq_self, or_true, true_or, and_true, true_and, g0, g1, g2, r1, r2, hp, ↓reduceIte, nI_1])
  rw [run_1]
  simp only [e1_0, e1_1, e1_2, e1_5, e1_8, e1_9, e1_11, e1_12, e1_15, e1_18, e1_19, e1_22, e1_23, e1_24, e1_25, e1_28, e1_29, e1_30, e1_33, e1_36, e1_39, e1_40, e1_42, e1_44, e1_47, e1_48, e1_51, e1_52, e1_53, e1_56, e1_57, e1_58, e1_59, e1_60, e1_63, e1_64, e1_65, e1_68, e1_69, e1_70, e1_71, e1_74, e1_77, kf_0, ik_1, ik_2, ik_3, kf_8, ik_9, kf_10, ik_11, ik_28, ik_29, kf_30, ik_31, ik_48, ik_49, kf_50, kf_51, ik_52, ik_53, ik_54, kf_55, kf_56, ik_57, kf_58, ik_59, ik_60, ik_61, ik_62, ik_63, ik_64, ik_65, ik_66, ik_67, ik_68, ik_69, ik_70, ik_71, ik_72, ik_73, ik_74, rq_0_0, rq_0_1, rq_0_2, rq_0_3, rq_0_4, rq_0_5, rq_0_6, rq_0_7, rq_0_8, rq_8_0, rq_10_0, rq_10_1, rq_10_2, rq_30_0, rq_30_1, rq_30_2, rq_50_0, rq_51_0, rq_51_1, rq_51_2, rq_51_3, rq_51_4, rq_51_5, rq_56_0, rq_56_1, rq_56_2, rq_58_1, rq_58_3, rq_58_4, rq_58_5, rq_58_7, rq_58_8, rq_58_11, rq_58_12, rq_58_13, rq_58_14, rq_58_15, rq_58_25, rq_58_26, rq_58_29, rq_58_30, rq_58_31, rq_3, rq_11, rq_31, rq_law, rv_s, cl_i, cl_r, cl_n, tl_s, tl_n, kont_some, le4_0, le4_1, le4_2, le4_3, le4_4, eq_self, or_true, true_or, and_true, true_and, h3, e0]
  refine key.trans ?_
  rw [e1_10]
  simp only [e1_0, e1_1, e1_2, e1_5, e1_8, e1_9, e1_11, e1_12, e1_15, e1_18, e1_19, e1_22, e1_23, e1_24, e1_25, e1_28, e1_29, e1_30, e1_33, e1_36, e1_39, e1_40, e1_42, e1_44, e1_47, e1_48, e1_51, e1_52, e1_53, e1_56, e1_57, e1_58, e1_59, e1_60, e1_63, e1_64, e1_65, e1_68, e1_69, e1_70, e1_71, e1_74, e1_77, kf_0, ik_1, ik_2, ik_3, kf_8, ik_9, kf_10, ik_11, ik_28, ik_29, kf_30, ik_31, ik_48, ik_49, kf_50, kf_51, ik_52, ik_53, ik_54, kf_55, kf_56, ik_57, kf_58, ik_59, ik_60, ik_61, ik_62, ik_63, ik_64, ik_65, ik_66, ik_67, ik_68, ik_69, ik_70, ik_71, ik_72, ik_73, ik_74, rq_0_0, rq_0_1, rq_0_2, rq_0_3, rq_0_4, rq_0_5, rq_0_6, rq_0_7, rq_0_8, rq_8_0, rq_10_0, rq_10_1, rq_10_2, rq_30_0, rq_30_1, rq_30_2, rq_50_0, rq_51_0, rq_51_1, rq_51_2, rq_51_3, rq_51_4, rq_51_5, rq_56_0, rq_56_1, rq_56_2, rq_58_1, rq_58_3, rq_58_4, rq_58_5, rq_58_7, rq_58_8, rq_58_11, rq_58_12, rq_58_13, rq_58_14, rq_58_15, rq_58_25, rq_58_26, rq_58_29, rq_58_30, rq_58_31, rq_3, rq_11, rq_31, rq_law, rv_s, cl_i, cl_r, cl_n, tl_s, tl_n, kont_some, le4_0, le4_1, le4_2, le4_3, le4_4, eq_self, or_true, true_or, and_true, true_and, r3, Int32.lt_irrefl, ↓reduceIte]
  have k2 := key2 (cp1 G 30 32 12 n n)
  rw [cp2_0, nI_0] at k2
  refine k2.trans ?_
  rw [e1_41]
  simp only [e1_0, e1_1, e1_2, e1_5, e1_8, e1_9, e1_11, e1_12, e1_15, e1_18, e1_19, e1_22, e1_23, e1_24, e1_25, e1_28, e1_29, e1_30, e1_33, e1_36, e1_39, e1_40, e1_42, e1_44, e1_47, e1_48, e1_51, e1_52, e1_53, e1_56, e1_57, e1_58, e1_59, e1_60, e1_63, e1_64, e1_65, e1_68, e1_69, e1_70, e1_71, e1_74, e1_77, kf_0, ik_1, ik_2, ik_3, kf_8, ik_9, kf_10, ik_11, ik_28, ik_29, kf_30, ik_31, ik_48, ik_49, kf_50, kf_51, ik_52, ik_53, ik_54, kf_55, kf_56, ik_57, kf_58, ik_59, ik_60, ik_61, ik_62, ik_63, ik_64, ik_65, ik_66, ik_67, ik_68, ik_69, ik_70, ik_71, ik_72, ik_73, ik_74, rq_0_0, rq_0_1, rq_0_2, rq_0_3, rq_0_4, rq_0_5, rq_0_6, rq_0_7, rq_0_8, rq_8_0, rq_10_0, rq_10_1, rq_10_2, rq_30_0, rq_30_1, rq_30_2, rq_50_0, rq_51_0, rq_51_1, rq_51_2, rq_51_3, rq_51_4, rq_51_5, rq_56_0, rq_56_1, rq_56_2, rq_58_1, rq_58_3, rq_58_4, rq_58_5, rq_58_7, rq_58_8, rq_58_11, rq_58_12, rq_58_13, rq_58_14, rq_58_15, rq_58_25, rq_58_26, rq_58_29, rq_58_30, rq_58_31, rq_3, rq_11, rq_31, rq_law, rv_s, cl_i, cl_r, cl_n, tl_s, tl_n, kont_some, le4_0, le4_1, le4_2, le4_3, le4_4, eq_self, or_true, true_or, and_true, true_and, show ¬ (nI 6 < 6) by decide, ↓reduceIte]
theorem cp1_r (G : SG) (n i : Nat) (hi : i < 16) : cpD (cp1 G 10 12 32 n i) (12 + i) (32 + i) = cp1 G 10 12 32 n (i + 1) := by
  funext c s
  have r : cp1 G 10 12 32 n i (32 + i) s = G (32 + i) s := cp1_ne (by omega) (by omega)
  unfold cpD
  rw [r]
  unfold cp1
  by_cases h : c = 12 + i ∧ s < 10
  · rw [if_pos h, if_pos (by omega), show 32 + (c - 12) = 32 + i by omega]
  · rw [if_neg h]
    by_cases h2 : 12 ≤ c ∧ c < 12 + i ∧ s < 10
    · rw [if_pos h2, if_pos (by omega)]
    · rw [if_neg h2, if_neg (show ¬ (12 ≤ c ∧ c < 12 + (i + 1) ∧ s < 10) by omega)]
theorem s1r (h3 : G 30 3 = nI n) (h16 : n ≤ 16) (h8 : ∀ j, j < n → G (32 + j) 8 = 0 ∨ G (32 + j) 8 = 1) : run 1 [.ref (10 : Nat), .ref (30 : Nat)] KF G J (RQ q) = some ((KF, cp2 (cp1 G 10 12 32 n n) 28 29 48 49 6, J, RQ q), none) := by
  have e0 : up2 G 10 3 (nI n) = cp1 G 10 12 32 n 0 := by
    funext c s
    unfold cp1
    rw [if_neg (by omega)]
    rfl
  have key : ev 1 10 [some (.ref (10 : Nat)), some (.ref (30 : Nat)), some (.int (nI 0))] [] KF (cp1 G 10 12 32 n 0) J (RQ q) = ev 1 10 [some (.ref (10 : Nat)), some (.ref (30 : Nat)), some (.int (nI n))] [] KF (cp1 G 10 12 32 n n) J (RQ q) := iter (fun i => ev 1 10 [some (.ref (10 : Nat)), some (.ref (30 : Nat)), some (.int (nI i))] [] KF (cp1 G 10 12 32 n i) J (RQ q)) n (fun i hi => by
    have g0 := lt_nI hi (show n < 2147483648 by omega)
    have g1 := inb_nI (show i < 16 by omega) (show 16 < 2147483648 by omega)
    have g2 := cl_nI (show i < 2147483648 by omega)
    have k1 := kf_deed (show i < 16 by omega)
    have k2 := kf_kdeed (show i < 16 by omega)
    have r3 : cp1 G 10 12 32 n i 10 3 = nI n := by
      unfold cp1
      rw [if_neg (by omega), if_pos ⟨rfl, rfl⟩]
    have r8 : cp1 G 10 12 32 n i (32 + i) 8 = 0 ∨ cp1 G 10 12 32 n i (32 + i) 8 = 1 := by
      rw [cp1_ne (by omega) (by omega)]
      exact h8 i hi
    rw [e1_10]
    simp only [e1_0, e1_1, e1_2, e1_5, e1_8, e1_9, e1_11, e1_12, e1_15, e1_18, e1_19, e1_22, e1_23, e1_24, e1_25, e1_28, e1_29, e1_30, e1_33, e1_36, e1_39, e1_40, e1_42, e1_44, e1_47, e1_48, e1_51, e1_52, e1_53, e1_56, e1_57, e1_58, e1_59, e1_60, e1_63, e1_64, e1_65, e1_68, e1_69, e1_70, e1_71, e1_74, e1_77, kf_0, ik_1, ik_2, ik_3, kf_8, ik_9, kf_10, ik_11, ik_28, ik_29, kf_30, ik_31, ik_48, ik_49, kf_50, kf_51, ik_52, ik_53, ik_54, kf_55, kf_56, ik_57, kf_58, ik_59, ik_60, ik_61, ik_62, ik_63, ik_64, ik_65, ik_66, ik_67, ik_68, ik_69, ik_70, ik_71, ik_72, ik_73, ik_74, rq_0_0, rq_0_1, rq_0_2, rq_0_3, rq_0_4, rq_0_5, rq_0_6, rq_0_7, rq_0_8, rq_8_0, rq_10_0, rq_10_1, rq_10_2, rq_30_0, rq_30_1, rq_30_2, rq_50_0, rq_51_0, rq_51_1, rq_51_2, rq_51_3, rq_51_4, rq_51_5, rq_56_0, rq_56_1, rq_56_2, rq_58_1, rq_58_3, rq_58_4, rq_58_5, rq_58_7, rq_58_8, rq_58_11, rq_58_12, rq_58_13, rq_58_14, rq_58_15, rq_58_25, rq_58_26, rq_58_29, rq_58_30, rq_58_31, rq_3, rq_11, rq_31, rq_law, rv_s, cl_i, cl_r, cl_n, tl_s, tl_n, kont_some, le4_0, le4_1, le4_2, le4_3, le4_4, eq_self, or_true, true_or, and_true, true_and, r3, g0, g1, g2, k1, k2, s27 k1 k2 (by omega) r8, cp1_r G n i (by omega), ↓reduceIte, nI_1])
  have r3 : cp1 G 10 12 32 n n 10 3 = nI n := by
    unfold cp1
    rw [if_neg (by omega), if_pos ⟨rfl, rfl⟩]
  have key2 : ∀ T : SG, ev 1 41 [some (.ref (10 : Nat)), some (.ref (30 : Nat)), some (.int (nI 0))] [] KF (cp2 T 28 29 48 49 0) J (RQ q) = ev 1 41 [some (.ref (10 : Nat)), some (.ref (30 : Nat)), some (.int (nI 6))] [] KF (cp2 T 28 29 48 49 6) J (RQ q) := fun T => iter (fun i => ev 1 41 [some (.ref (10 : Nat)), some (.ref (30 : Nat)), some (.int (nI i))] [] KF (cp2 T 28 29 48 49 i) J (RQ q)) 6 (fun i hi => by
    have g0 : (nI i < 6) = True := lt_nI hi (show 6 < 2147483648 by omega)
    have g1 := inb_nI hi (show 6 < 2147483648 by omega)
    have g2 := cl_nI (show i < 2147483648 by omega)
    have r1 : cp2 T 28 29 48 49 i 48 i = T 48 i := cp2_ne (by omega) (by omega)
    have r2 : ∀ v, up2 (cp2 T 28 29 48 49 i) 28 i v 49 i = T 49 i := fun v => by rw [fr_tac (by omega), cp2_ne (by omega) (by omega)]
    have hp := cp2_p T (A := 28) (A' := 29) (B := 48) (B' := 49) (i := i) (by omega)
    rw [e1_41]
    simp only [e1_0, e1_1, e1_2, e1_5, e1_8, e1_9, e1_11, e1_12, e1_15, e1_18, e1_19, e1_22, e1_23, e1_24, e1_25, e1_28, e1_29, e1_30, e1_33, e1_36, e1_39, e1_40, e1_42, e1_44, e1_47, e1_48, e1_51, e1_52, e1_53, e1_56, e1_57, e1_58, e1_59, e1_60, e1_63, e1_64, e1_65, e1_68, e1_69, e1_70, e1_71, e1_74, e1_77, kf_0, ik_1, ik_2, ik_3, kf_8, ik_9, kf_10, ik_11, ik_28, ik_29, kf_30, ik_31, ik_48, ik_49, kf_50, kf_51, ik_52, ik_53, ik_54, kf_55, kf_56, ik_57, kf_58, ik_59, ik_60, ik_61, ik_62, ik_63, ik_64, ik_65, ik_66, ik_67, ik_68, ik_69, ik_70, ik_71, ik_72, ik_73, ik_74, rq_0_0, rq_0_1, rq_0_2, rq_0_3, rq_0_4, rq_0_5, rq_0_6, rq_0_7, rq_0_8, rq_8_0, rq_10_0, rq_10_1, rq_10_2, rq_30_0, rq_30_1, rq_30_2, rq_50_0, rq_51_0, rq_51_1, rq_51_2, rq_51_3, rq_51_4, rq_51_5, rq_56_0, rq_56_1, rq_56_2, rq_58_1, rq_58_3, rq_58_4, rq_58_5, rq_58_7, rq_58_8, rq_58_11, rq_58_12, rq_58_13, rq_58_14, rq_58_15, rq_58_25, rq_58_26, rq_58_29, rq_58_30, rq_58_31, rq_3, rq_11, rq_31, rq_law, rv_s, cl_i, cl_r, cl_n, tl_s, tl_n, kont_some, le4_0, le4_1, le4_2, le4_3, le4_4, eq_self, or_true, true_or, and_true, true_and, g0, g1, g2, r1, r2, hp, ↓reduceIte, nI_1])
  rw [run_1]
  simp only [e1_0, e1_1, e1_2, e1_5, e1_8, e1_9, e1_11, e1_12, e1_15, e1_18, e1_19, e1_22, e1_23, e1_24, e1_25, e1_28, e1_29, e1_30, e1_33, e1_36, e1_39, e1_40, e1_42, e1_44, e1_47, e1_48, e1_51, e1_52, e1_53, e1_56, e1_57, e1_58, e1_59, e1_60, e1_63, e1_64, e1_65, e1_68, e1_69, e1_70, e1_71, e1_74, e1_77, kf_0, ik_1, ik_2, ik_3, kf_8, ik_9, kf_10, ik_11, ik_28, ik_29, kf_30, ik_31, ik_48, ik_49, kf_50, kf_51, ik_52, ik_53, ik_54, kf_55, kf_56, ik_57, kf_58, ik_59, ik_60, ik_61, ik_62, ik_63, ik_64, ik_65, ik_66, ik_67, ik_68, ik_69, ik_70, ik_71, ik_72, ik_73, ik_74, rq_0_0, rq_0_1, rq_0_2, rq_0_3, rq_0_4, rq_0_5, rq_0_6, rq_0_7, rq_0_8, rq_8_0, rq_10_0, rq_10_1, rq_10_2, rq_30_0, rq_30_1, rq_30_2, rq_50_0, rq_51_0, rq_51_1, rq_51_2, rq_51_3, rq_51_4, rq_51_5, rq_56_0, rq_56_1, rq_56_2, rq_58_1, rq_58_3, rq_58_4, rq_58_5, rq_58_7, rq_58_8, rq_58_11, rq_58_12, rq_58_13, rq_58_14, rq_58_15, rq_58_25, rq_58_26, rq_58_29, rq_58_30, rq_58_31, rq_3, rq_11, rq_31, rq_law, rv_s, cl_i, cl_r, cl_n, tl_s, tl_n, kont_some, le4_0, le4_1, le4_2, le4_3, le4_4, eq_self, or_true, true_or, and_true, true_and, h3, e0]
  refine key.trans ?_
  rw [e1_10]
  simp only [e1_0, e1_1, e1_2, e1_5, e1_8, e1_9, e1_11, e1_12, e1_15, e1_18, e1_19, e1_22, e1_23, e1_24, e1_25, e1_28, e1_29, e1_30, e1_33, e1_36, e1_39, e1_40, e1_42, e1_44, e1_47, e1_48, e1_51, e1_52, e1_53, e1_56, e1_57, e1_58, e1_59, e1_60, e1_63, e1_64, e1_65, e1_68, e1_69, e1_70, e1_71, e1_74, e1_77, kf_0, ik_1, ik_2, ik_3, kf_8, ik_9, kf_10, ik_11, ik_28, ik_29, kf_30, ik_31, ik_48, ik_49, kf_50, kf_51, ik_52, ik_53, ik_54, kf_55, kf_56, ik_57, kf_58, ik_59, ik_60, ik_61, ik_62, ik_63, ik_64, ik_65, ik_66, ik_67, ik_68, ik_69, ik_70, ik_71, ik_72, ik_73, ik_74, rq_0_0, rq_0_1, rq_0_2, rq_0_3, rq_0_4, rq_0_5, rq_0_6, rq_0_7, rq_0_8, rq_8_0, rq_10_0, rq_10_1, rq_10_2, rq_30_0, rq_30_1, rq_30_2, rq_50_0, rq_51_0, rq_51_1, rq_51_2, rq_51_3, rq_51_4, rq_51_5, rq_56_0, rq_56_1, rq_56_2, rq_58_1, rq_58_3, rq_58_4, rq_58_5, rq_58_7, rq_58_8, rq_58_11, rq_58_12, rq_58_13, rq_58_14, rq_58_15, rq_58_25, rq_58_26, rq_58_29, rq_58_30, rq_58_31, rq_3, rq_11, rq_31, rq_law, rv_s, cl_i, cl_r, cl_n, tl_s, tl_n, kont_some, le4_0, le4_1, le4_2, le4_3, le4_4, eq_self, or_true, true_or, and_true, true_and, r3, Int32.lt_irrefl, ↓reduceIte]
  have k2 := key2 (cp1 G 10 12 32 n n)
  rw [cp2_0, nI_0] at k2
  refine k2.trans ?_
  rw [e1_41]
  simp only [e1_0, e1_1, e1_2, e1_5, e1_8, e1_9, e1_11, e1_12, e1_15, e1_18, e1_19, e1_22, e1_23, e1_24, e1_25, e1_28, e1_29, e1_30, e1_33, e1_36, e1_39, e1_40, e1_42, e1_44, e1_47, e1_48, e1_51, e1_52, e1_53, e1_56, e1_57, e1_58, e1_59, e1_60, e1_63, e1_64, e1_65, e1_68, e1_69, e1_70, e1_71, e1_74, e1_77, kf_0, ik_1, ik_2, ik_3, kf_8, ik_9, kf_10, ik_11, ik_28, ik_29, kf_30, ik_31, ik_48, ik_49, kf_50, kf_51, ik_52, ik_53, ik_54, kf_55, kf_56, ik_57, kf_58, ik_59, ik_60, ik_61, ik_62, ik_63, ik_64, ik_65, ik_66, ik_67, ik_68, ik_69, ik_70, ik_71, ik_72, ik_73, ik_74, rq_0_0, rq_0_1, rq_0_2, rq_0_3, rq_0_4, rq_0_5, rq_0_6, rq_0_7, rq_0_8, rq_8_0, rq_10_0, rq_10_1, rq_10_2, rq_30_0, rq_30_1, rq_30_2, rq_50_0, rq_51_0, rq_51_1, rq_51_2, rq_51_3, rq_51_4, rq_51_5, rq_56_0, rq_56_1, rq_56_2, rq_58_1, rq_58_3, rq_58_4, rq_58_5, rq_58_7, rq_58_8, rq_58_11, rq_58_12, rq_58_13, rq_58_14, rq_58_15, rq_58_25, rq_58_26, rq_58_29, rq_58_30, rq_58_31, rq_3, rq_11, rq_31, rq_law, rv_s, cl_i, cl_r, cl_n, tl_s, tl_n, kont_some, le4_0, le4_1, le4_2, le4_3, le4_4, eq_self, or_true, true_or, and_true, true_and, show ¬ (nI 6 < 6) by decide, ↓reduceIte]
theorem s160 {nf : Nat} (h2 : G 58 2 = nI nf) (h6 : G 58 6 = nI n) : run 160 [.ref (58 : Nat)] KF G J (RQ q) = some ((KF, up2 (up2 (cp2 (cp0 G 72 63 160) 73 74 61 62 6) 58 32 (nI nf)) 58 33 (nI n), J, RQ q), some (.int (nI n))) := by
  have key : ev 160 2 [some (.ref (58 : Nat)), some (.int (nI 0))] [] KF (cp0 G 72 63 0) J (RQ q) = ev 160 2 [some (.ref (58 : Nat)), some (.int (nI 160))] [] KF (cp0 G 72 63 160) J (RQ q) := iter (fun i => ev 160 2 [some (.ref (58 : Nat)), some (.int (nI i))] [] KF (cp0 G 72 63 i) J (RQ q)) 160 (fun i hi => by
    have g0 : (nI i < 160) = True := lt_nI hi (show 160 < 2147483648 by omega)
    have g1 := inb_nI hi (show 160 < 2147483648 by omega)
    have g2 := cl_nI (show i < 2147483648 by omega)
    have r1 : cp0 G 72 63 i 63 i = G 63 i := cp0_ne (by omega)
    rw [e160_2]
    simp only [e160_0, e160_1, e160_3, e160_6, e160_9, e160_10, e160_13, e160_14, e160_15, e160_18, e160_19, e160_20, e160_21, e160_24, e160_27, e160_28, e160_30, e160_32, e160_35, e160_36, e160_39, e160_40, e160_41, e160_44, e160_45, e160_46, e160_47, e160_48, e160_51, e160_52, e160_53, e160_56, e160_57, e160_58, e160_59, e160_62, e160_65, e160_66, e160_67, e160_70, e160_73, e160_74, e160_75, e160_78, e160_81, e160_82, e160_85, kf_0, ik_1, ik_2, ik_3, kf_8, ik_9, kf_10, ik_11, ik_28, ik_29, kf_30, ik_31, ik_48, ik_49, kf_50, kf_51, ik_52, ik_53, ik_54, kf_55, kf_56, ik_57, kf_58, ik_59, ik_60, ik_61, ik_62, ik_63, ik_64, ik_65, ik_66, ik_67, ik_68, ik_69, ik_70, ik_71, ik_72, ik_73, ik_74, rq_0_0, rq_0_1, rq_0_2, rq_0_3, rq_0_4, rq_0_5, rq_0_6, rq_0_7, rq_0_8, rq_8_0, rq_10_0, rq_10_1, rq_10_2, rq_30_0, rq_30_1, rq_30_2, rq_50_0, rq_51_0, rq_51_1, rq_51_2, rq_51_3, rq_51_4, rq_51_5, rq_56_0, rq_56_1, rq_56_2, rq_58_1, rq_58_3, rq_58_4, rq_58_5, rq_58_7, rq_58_8, rq_58_11, rq_58_12, rq_58_13, rq_58_14, rq_58_15, rq_58_25, rq_58_26, rq_58_29, rq_58_30, rq_58_31, rq_3, rq_11, rq_31, rq_law, rv_s, cl_i, cl_r, cl_n, tl_s, tl_n, kont_some, le4_0, le4_1, le4_2, le4_3, le4_4, eq_self, or_true, true_or, and_true, true_and, g0, g1, g2, r1, cp0_p, ↓reduceIte, nI_1])
  rw [cp0_0, nI_0] at key
  have key2 : ∀ T : SG, ev 160 29 [some (.ref (58 : Nat)), some (.int (nI 0))] [] KF (cp2 T 73 74 61 62 0) J (RQ q) = ev 160 29 [some (.ref (58 : Nat)), some (.int (nI 6))] [] KF (cp2 T 73 74 61 62 6) J (RQ q) := fun T => iter (fun i => ev 160 29 [some (.ref (58 : Nat)), some (.int (nI i))] [] KF (cp2 T 73 74 61 62 i) J (RQ q)) 6 (fun i hi => by
    have g0 : (nI i < 6) = True := lt_nI hi (show 6 < 2147483648 by omega)
    have g1 := inb_nI hi (show 6 < 2147483648 by omega)
    have g2 := cl_nI (show i < 2147483648 by omega)
    have r1 : cp2 T 73 74 61 62 i 61 i = T 61 i := cp2_ne (by omega) (by omega)
    have r2 : ∀ v, up2 (cp2 T 73 74 61 62 i) 73 i v 62 i = T 62 i := fun v => by rw [fr_tac (by omega), cp2_ne (by omega) (by omega)]
    have hp := cp2_p T (A := 73) (A' := 74) (B := 61) (B' := 62) (i := i) (by omega)
    rw [e160_29]
    simp only [e160_0, e160_1, e160_3, e160_6, e160_9, e160_10, e160_13, e160_14, e160_15, e160_18, e160_19, e160_20, e160_21, e160_24, e160_27, e160_28, e160_30, e160_32, e160_35, e160_36, e160_39, e160_40, e160_41, e160_44, e160_45, e160_46, e160_47, e160_48, e160_51, e160_52, e160_53, e160_56, e160_57, e160_58, e160_59, e160_62, e160_65, e160_66, e160_67, e160_70, e160_73, e160_74, e160_75, e160_78, e160_81, e160_82, e160_85, kf_0, ik_1, ik_2, ik_3, kf_8, ik_9, kf_10, ik_11, ik_28, ik_29, kf_30, ik_31, ik_48, ik_49, kf_50, kf_51, ik_52, ik_53, ik_54, kf_55, kf_56, ik_57, kf_58, ik_59, ik_60, ik_61, ik_62, ik_63, ik_64, ik_65, ik_66, ik_67, ik_68, ik_69, ik_70, ik_71, ik_72, ik_73, ik_74, rq_0_0, rq_0_1, rq_0_2, rq_0_3, rq_0_4, rq_0_5, rq_0_6, rq_0_7, rq_0_8, rq_8_0, rq_10_0, rq_10_1, rq_10_2, rq_30_0, rq_30_1, rq_30_2, rq_50_0, rq_51_0, rq_51_1, rq_51_2, rq_51_3, rq_51_4, rq_51_5, rq_56_0, rq_56_1, rq_56_2, rq_58_1, rq_58_3, rq_58_4, rq_58_5, rq_58_7, rq_58_8, rq_58_11, rq_58_12, rq_58_13, rq_58_14, rq_58_15, rq_58_25, rq_58_26, rq_58_29, rq_58_30, rq_58_31, rq_3, rq_11, rq_31, rq_law, rv_s, cl_i, cl_r, cl_n, tl_s, tl_n, kont_some, le4_0, le4_1, le4_2, le4_3, le4_4, eq_self, or_true, true_or, and_true, true_and, g0, g1, g2, r1, r2, hp, ↓reduceIte, nI_1])
  have q2 : cp2 (cp0 G 72 63 160) 73 74 61 62 6 58 2 = nI nf := by rw [cp2_ne (by omega) (by omega), cp0_ne (by omega)]; exact h2
  have q6 : ∀ v, up2 (cp2 (cp0 G 72 63 160) 73 74 61 62 6) 58 32 v 58 6 = nI n := fun v => by rw [fr_tac (by omega), cp2_ne (by omega) (by omega), cp0_ne (by omega)]; exact h6
  have q6' : ∀ v v', up2 (up2 (cp2 (cp0 G 72 63 160) 73 74 61 62 6) 58 32 v) 58 33 v' 58 6 = nI n := fun v v' => by rw [fr_tac (by omega)]; exact q6 v
  rw [run_160]
  simp only [e160_0, e160_1, e160_3, e160_6, e160_9, e160_10, e160_13, e160_14, e160_15, e160_18, e160_19, e160_20, e160_21, e160_24, e160_27, e160_28, e160_30, e160_32, e160_35, e160_36, e160_39, e160_40, e160_41, e160_44, e160_45, e160_46, e160_47, e160_48, e160_51, e160_52, e160_53, e160_56, e160_57, e160_58, e160_59, e160_62, e160_65, e160_66, e160_67, e160_70, e160_73, e160_74, e160_75, e160_78, e160_81, e160_82, e160_85, kf_0, ik_1, ik_2, ik_3, kf_8, ik_9, kf_10, ik_11, ik_28, ik_29, kf_30, ik_31, ik_48, ik_49, kf_50, kf_51, ik_52, ik_53, ik_54, kf_55, kf_56, ik_57, kf_58, ik_59, ik_60, ik_61, ik_62, ik_63, ik_64, ik_65, ik_66, ik_67, ik_68, ik_69, ik_70, ik_71, ik_72, ik_73, ik_74, rq_0_0, rq_0_1, rq_0_2, rq_0_3, rq_0_4, rq_0_5, rq_0_6, rq_0_7, rq_0_8, rq_8_0, rq_10_0, rq_10_1, rq_10_2, rq_30_0, rq_30_1, rq_30_2, rq_50_0, rq_51_0, rq_51_1, rq_51_2, rq_51_3, rq_51_4, rq_51_5, rq_56_0, rq_56_1, rq_56_2, rq_58_1, rq_58_3, rq_58_4, rq_58_5, rq_58_7, rq_58_8, rq_58_11, rq_58_12, rq_58_13, rq_58_14, rq_58_15, rq_58_25, rq_58_26, rq_58_29, rq_58_30, rq_58_31, rq_3, rq_11, rq_31, rq_law, rv_s, cl_i, cl_r, cl_n, tl_s, tl_n, kont_some, le4_0, le4_1, le4_2, le4_3, le4_4, eq_self, or_true, true_or, and_true, true_and]
  refine key.trans ?_
  rw [e160_2]
  simp only [e160_0, e160_1, e160_3, e160_6, e160_9, e160_10, e160_13, e160_14, e160_15, e160_18, e160_19, e160_20, e160_21, e160_24, e160_27, e160_28, e160_30, e160_32, e160_35, e160_36, e160_39, e160_40, e160_41, e160_44, e160_45, e160_46, e160_47, e160_48, e160_51, e160_52, e160_53, e160_56, e160_57, e160_58, e160_59, e160_62, e160_65, e160_66, e160_67, e160_70, e160_73, e160_74, e160_75, e160_78, e160_81, e160_82, e160_85, kf_0, ik_1, ik_2, ik_3, kf_8, ik_9, kf_10, ik_11, ik_28, ik_29, kf_30, ik_31, ik_48, ik_49, kf_50, kf_51, ik_52, ik_53, ik_54, kf_55, kf_56, ik_57, kf_58, ik_59, ik_60, ik_61, ik_62, ik_63, ik_64, ik_65, ik_66, ik_67, ik_68, ik_69, ik_70, ik_71, ik_72, ik_73, ik_74, rq_0_0, rq_0_1, rq_0_2, rq_0_3, rq_0_4, rq_0_5, rq_0_6, rq_0_7, rq_0_8, rq_8_0, rq_10_0, rq_10_1, rq_10_2, rq_30_0, rq_30_1, rq_30_2, rq_50_0, rq_51_0, rq_51_1, rq_51_2, rq_51_3, rq_51_4, rq_51_5, rq_56_0, rq_56_1, rq_56_2, rq_58_1, rq_58_3, rq_58_4, rq_58_5, rq_58_7, rq_58_8, rq_58_11, rq_58_12, rq_58_13, rq_58_14, rq_58_15, rq_58_25, rq_58_26, rq_58_29, rq_58_30, rq_58_31, rq_3, rq_11, rq_31, rq_law, rv_s, cl_i, cl_r, cl_n, tl_s, tl_n, kont_some, le4_0, le4_1, le4_2, le4_3, le4_4, eq_self, or_true, true_or, and_true, true_and, show ¬ (nI 160 < 160) by decide, ↓reduceIte]
  have k2 := key2 (cp0 G 72 63 160)
  rw [cp2_0, nI_0] at k2
  refine k2.trans ?_
  rw [e160_29]
  simp only [e160_0, e160_1, e160_3, e160_6, e160_9, e160_10, e160_13, e160_14, e160_15, e160_18, e160_19, e160_20, e160_21, e160_24, e160_27, e160_28, e160_30, e160_32, e160_35, e160_36, e160_39, e160_40, e160_41, e160_44, e160_45, e160_46, e160_47, e160_48, e160_51, e160_52, e160_53, e160_56, e160_57, e160_58, e160_59, e160_62, e160_65, e160_66, e160_67, e160_70, e160_73, e160_74, e160_75, e160_78, e160_81, e160_82, e160_85, kf_0, ik_1, ik_2, ik_3, kf_8, ik_9, kf_10, ik_11, ik_28, ik_29, kf_30, ik_31, ik_48, ik_49, kf_50, kf_51, ik_52, ik_53, ik_54, kf_55, kf_56, ik_57, kf_58, ik_59, ik_60, ik_61, ik_62, ik_63, ik_64, ik_65, ik_66, ik_67, ik_68, ik_69, ik_70, ik_71, ik_72, ik_73, ik_74, rq_0_0, rq_0_1, rq_0_2, rq_0_3, rq_0_4, rq_0_5, rq_0_6, rq_0_7, rq_0_8, rq_8_0, rq_10_0, rq_10_1, rq_10_2, rq_30_0, rq_30_1, rq_30_2, rq_50_0, rq_51_0, rq_51_1, rq_51_2, rq_51_3, rq_51_4, rq_51_5, rq_56_0, rq_56_1, rq_56_2, rq_58_1, rq_58_3, rq_58_4, rq_58_5, rq_58_7, rq_58_8, rq_58_11, rq_58_12, rq_58_13, rq_58_14, rq_58_15, rq_58_25, rq_58_26, rq_58_29, rq_58_30, rq_58_31, rq_3, rq_11, rq_31, rq_law, rv_s, cl_i, cl_r, cl_n, tl_s, tl_n, kont_some, le4_0, le4_1, le4_2, le4_3, le4_4, eq_self, or_true, true_or, and_true, true_and, show ¬ (nI 6 < 6) by decide, q2, q6, q6', ↓reduceIte]
theorem same_image : SAME 84 160 [] := same_of (fun G J q np nf nl pg n D hq hR => by
  have hR' := hR
  obtain ⟨a1, a2, a3, a4, a5, a6, a7, ⟨hX, hM, hN⟩, a9⟩ := hR
  have h16 := hX.2.1
  have h6 := a3.2.2
  have hx := s1i (J := J) (q := q) hX.1 h16 (fun j hj => by rw [hX.2.2 j 8 hj (by omega)]; exact (hN j hj).2.2.2.2.2.1)
  have b2 : up2 (cp2 (cp1 G 30 32 12 n n) 48 49 28 29 6) 0 12 1 58 2 = nI nf := by rw [fr_tac (by omega), cp2_ne (by omega) (by omega), cp1_ne (by omega) (by omega)]; exact a3.2.1
  have b6 : up2 (cp2 (cp1 G 30 32 12 n n) 48 49 28 29 6) 0 12 1 58 6 = nI n := by rw [fr_tac (by omega), cp2_ne (by omega) (by omega), cp1_ne (by omega) (by omega)]; exact hM.1
  have hm := s160 (J := J) (q := q) b2 b6
  have e : ∀ c s, ¬ (32 ≤ c ∧ c ≤ 49) → ¬ (72 ≤ c ∧ c ≤ 74) → ¬ (c = 0 ∧ s = 12) → ¬ (c = 58 ∧ (s = 32 ∨ s = 33)) → ¬ (c = 30 ∧ s = 3) → up2 (up2 (cp2 (cp0 (up2 (cp2 (cp1 G 30 32 12 n n) 48 49 28 29 6) 0 12 1) 72 63 160) 73 74 61 62 6) 58 32 (nI nf)) 58 33 (nI n) c s = G c s := fun c s z1 z2 z3 z4 z5 => by
    rw [fr_tac (by omega), fr_tac (by omega), cp2_ne (by omega) (by omega), cp0_ne (by omega), fr_tac (by omega), cp2_ne (by omega) (by omega), cp1_ne (by omega) (by omega)]
  have e2 : ∀ c s, ¬ (72 ≤ c ∧ c ≤ 74) → ¬ (c = 0 ∧ s = 12) → ¬ (c = 58 ∧ (s = 32 ∨ s = 33)) → up2 (up2 (cp2 (cp0 (up2 (cp2 (cp1 G 30 32 12 n n) 48 49 28 29 6) 0 12 1) 72 63 160) 73 74 61 62 6) 58 32 (nI nf)) 58 33 (nI n) c s = cp2 (cp1 G 30 32 12 n n) 48 49 28 29 6 c s := fun c s z1 z2 z3 => by
    rw [fr_tac (by omega), fr_tac (by omega), cp2_ne (by omega) (by omega), cp0_ne (by omega), fr_tac (by omega)]
  refine ⟨up2 (cp2 (cp1 G 30 32 12 n n) 48 49 28 29 6) 0 12 1, up2 (up2 (cp2 (cp0 (up2 (cp2 (cp1 G 30 32 12 n n) 48 49 28 29 6) 0 12 1) 72 63 160) 73 74 61 62 6) 58 32 (nI nf)) 58 33 (nI n), J, J, q, q, .int (nI n), hq, ⟨np, nf, nl, pg, n, D, a1.c (fun c s hc => e c s (by omega) (by omega) (by omega) (by omega) (by omega)), a2.c (fun c s hc => e c s (by omega) (by omega) (by omega) (by omega) (by omega)), a3.c (fun c s hc => e c s (by omega) (by omega) (by omega) (by omega) (by omega)), a4.c (fun c s hc => e c s (by omega) (by omega) (by omega) (by omega) (by omega)), a5.c (fun c s hc => e c s (by omega) (by omega) (by omega) (by omega) (by omega)), a6.c (fun c s hc => e c s (by omega) (by omega) (by omega) (by omega) (by omega)), a7.c (fun c s hc => e c s (by omega) (by omega) (by omega) (by omega) (by omega)), ⟨hX.c (fun c s hc => e c s (by omega) (by omega) (by omega) (by omega) (by omega)), hM.c (fun c s hc => e c s (by omega) (by omega) (by omega) (by omega) (by omega)), hN⟩, Or.inr ⟨n, nf, D, ?_, ?_, ?_, h16, ?_, Nat.le_refl _, hN, fun j a hj ha => ⟨?_, ?_⟩, fun f hf => ⟨?_, ?_⟩, fun f hf hf6 => ⟨?_, ?_⟩⟩⟩, ?_, hm⟩
  · rw [fr_tac (by omega), fr_tac (by omega), cp2_ne (by omega) (by omega), cp0_ne (by omega), up2_at, if_pos ⟨rfl, rfl⟩]
  · rw [up2_at, if_pos ⟨rfl, rfl⟩]
  · rw [e2 30 3 (by omega) (by omega) (by omega), cp2_ne (by omega) (by omega)]
    unfold cp1
    rw [if_neg (by omega), if_pos ⟨rfl, rfl⟩]
  · rw [fr_tac (by omega), up2_at, if_pos ⟨rfl, rfl⟩]
  · rw [e2 (32 + j) a (by omega) (by omega) (by omega), cp2_ne (by omega) (by omega)]
    unfold cp1
    rw [if_pos (by omega), show 12 + (32 + j - 32) = 12 + j by omega]
    exact hX.2.2 j a hj ha
  · rw [fr_tac (by omega), fr_tac (by omega), cp2_ne (by omega) (by omega)]
    unfold cp0
    rw [if_pos (by omega), fr_tac (by omega), cp2_ne (by omega) (by omega), cp1_ne (by omega) (by omega)]
    exact hM.2.2 j a hj ha
  · rw [e2 48 f (by omega) (by omega) (by omega), fr_tac (by omega), fr_tac (by omega)]
    unfold cp2
    rw [if_pos (by omega), if_pos (by omega), cp0_ne (by omega), cp1_ne (by omega) (by omega), fr_tac (by omega), if_neg (by omega), if_neg (by omega), cp1_ne (by omega) (by omega)]
    exact (a7.1 f hf).1
  · rw [e2 49 f (by omega) (by omega) (by omega), fr_tac (by omega), fr_tac (by omega)]
    unfold cp2
    rw [if_neg (show ¬ (74 = 73 ∧ f < 6) by omega), if_pos (show 74 = 74 ∧ f < 6 by omega), if_neg (show ¬ (49 = 48 ∧ f < 6) by omega), if_pos (show 49 = 49 ∧ f < 6 by omega), cp0_ne (by omega), cp1_ne (by omega) (by omega), fr_tac (by omega), if_neg (by omega), if_neg (by omega), cp1_ne (by omega) (by omega)]
    exact (a7.1 f hf).2
  · rw [e2 48 f (by omega) (by omega) (by omega)]
    unfold cp2
    rw [if_pos (by omega), cp1_ne (by omega) (by omega)]
    exact (a7.2 f hf hf6).1
  · rw [e2 49 f (by omega) (by omega) (by omega)]
    unfold cp2
    rw [if_neg (by omega), if_pos (by omega), cp1_ne (by omega) (by omega)]
    exact (a7.2 f hf hf6).2
  · have r : up2 (cp2 (cp1 G 30 32 12 n n) 48 49 28 29 6) 0 12 1 30 3 = nI n := by
      rw [fr_tac (by omega), cp2_ne (by omega) (by omega)]
      unfold cp1
      rw [if_neg (by omega), if_pos ⟨rfl, rfl⟩]
    rw [run_84]
    simp only [e84_0, e84_1, e84_4, e84_5, e84_8, e84_11, e84_12, e84_13, e84_16, e84_17, e84_20, e84_23, kf_0, ik_1, ik_2, ik_3, kf_8, ik_9, kf_10, ik_11, ik_28, ik_29, kf_30, ik_31, ik_48, ik_49, kf_50, kf_51, ik_52, ik_53, ik_54, kf_55, kf_56, ik_57, kf_58, ik_59, ik_60, ik_61, ik_62, ik_63, ik_64, ik_65, ik_66, ik_67, ik_68, ik_69, ik_70, ik_71, ik_72, ik_73, ik_74, rq_0_0, rq_0_1, rq_0_2, rq_0_3, rq_0_4, rq_0_5, rq_0_6, rq_0_7, rq_0_8, rq_8_0, rq_10_0, rq_10_1, rq_10_2, rq_30_0, rq_30_1, rq_30_2, rq_50_0, rq_51_0, rq_51_1, rq_51_2, rq_51_3, rq_51_4, rq_51_5, rq_56_0, rq_56_1, rq_56_2, rq_58_1, rq_58_3, rq_58_4, rq_58_5, rq_58_7, rq_58_8, rq_58_11, rq_58_12, rq_58_13, rq_58_14, rq_58_15, rq_58_25, rq_58_26, rq_58_29, rq_58_30, rq_58_31, rq_3, rq_11, rq_31, rq_law, rv_s, cl_i, cl_r, cl_n, tl_s, tl_n, kont_some, le4_0, le4_1, le4_2, le4_3, le4_4, eq_self, or_true, true_or, and_true, true_and, hx, r])
theorem s161 {nf kf kn : Nat} (h33 : G 58 33 = nI kn) (hk : kn ≤ 16) (h32 : G 58 32 = nI kf) (hf6 : nf ≤ 6) (hkf : kf ≤ nf) (h2 : G 58 2 = nI nf) : run 161 [.ref (58 : Nat)] KF G J (RQ q) = some ((KF, up2 (rs2 (cp0 G 63 72 160) kf nf) 58 6 (nI kn), J, RQ q), some (.int (nI kn))) := by
  have key : ev 161 13 [some (.ref (58 : Nat)), some (.int (nI 0))] [] KF (cp0 G 63 72 0) J (RQ q) = ev 161 13 [some (.ref (58 : Nat)), some (.int (nI 160))] [] KF (cp0 G 63 72 160) J (RQ q) := iter (fun i => ev 161 13 [some (.ref (58 : Nat)), some (.int (nI i))] [] KF (cp0 G 63 72 i) J (RQ q)) 160 (fun i hi => by
    have g0 : (nI i < 160) = True := lt_nI hi (show 160 < 2147483648 by omega)
    have g1 := inb_nI hi (show 160 < 2147483648 by omega)
    have g2 := cl_nI (show i < 2147483648 by omega)
    have r1 : cp0 G 63 72 i 72 i = G 72 i := cp0_ne (by omega)
    rw [e161_13]
    simp only [e161_0, e161_1, e161_4, e161_5, e161_8, e161_10, e161_11, e161_12, e161_14, e161_17, e161_20, e161_21, e161_24, e161_25, e161_26, e161_29, e161_30, e161_31, e161_32, e161_35, e161_38, e161_39, e161_41, e161_42, e161_45, e161_48, e161_49, e161_52, e161_53, e161_54, e161_55, e161_58, e161_61, e161_62, e161_65, e161_66, e161_67, e161_70, e161_71, e161_72, e161_73, e161_76, e161_77, e161_78, e161_79, e161_82, e161_85, e161_86, e161_89, e161_90, e161_91, e161_94, e161_95, e161_96, e161_99, e161_102, e161_103, e161_104, e161_107, e161_110, e161_111, e161_114, kf_0, ik_1, ik_2, ik_3, kf_8, ik_9, kf_10, ik_11, ik_28, ik_29, kf_30, ik_31, ik_48, ik_49, kf_50, kf_51, ik_52, ik_53, ik_54, kf_55, kf_56, ik_57, kf_58, ik_59, ik_60, ik_61, ik_62, ik_63, ik_64, ik_65, ik_66, ik_67, ik_68, ik_69, ik_70, ik_71, ik_72, ik_73, ik_74, rq_0_0, rq_0_1, rq_0_2, rq_0_3, rq_0_4, rq_0_5, rq_0_6, rq_0_7, rq_0_8, rq_8_0, rq_10_0, rq_10_1, rq_10_2, rq_30_0, rq_30_1, rq_30_2, rq_50_0, rq_51_0, rq_51_1, rq_51_2, rq_51_3, rq_51_4, rq_51_5, rq_56_0, rq_56_1, rq_56_2, rq_58_1, rq_58_3, rq_58_4, rq_58_5, rq_58_7, rq_58_8, rq_58_11, rq_58_12, rq_58_13, rq_58_14, rq_58_15, rq_58_25, rq_58_26, rq_58_29, rq_58_30, rq_58_31, rq_3, rq_11, rq_31, rq_law, rv_s, cl_i, cl_r, cl_n, tl_s, tl_n, kont_some, le4_0, le4_1, le4_2, le4_3, le4_4, eq_self, or_true, true_or, and_true, true_and, g0, g1, g2, r1, cp0_p, ↓reduceIte, nI_1])
  rw [cp0_0, nI_0] at key
  have t32 : cp0 G 63 72 160 58 32 = nI kf := by rw [cp0_ne (by omega)]; exact h32
  have t2 : cp0 G 63 72 160 58 2 = nI nf := by rw [cp0_ne (by omega)]; exact h2
  have t33 : cp0 G 63 72 160 58 33 = nI kn := by rw [cp0_ne (by omega)]; exact h33
  generalize cp0 G 63 72 160 = T at key t32 t2 t33 ⊢
  have key2 : ev 161 40 [some (.ref (58 : Nat)), some (.int (nI 0))] [] KF (rs2 T kf 0) J (RQ q) = ev 161 40 [some (.ref (58 : Nat)), some (.int (nI nf))] [] KF (rs2 T kf nf) J (RQ q) := iter (fun i => ev 161 40 [some (.ref (58 : Nat)), some (.int (nI i))] [] KF (rs2 T kf i) J (RQ q)) nf (fun i hi => by
    have g0 := lt_nI hi (show nf < 2147483648 by omega)
    have g1 := inb_nI (show i < 6 by omega) (show 6 < 2147483648 by omega)
    have g2 := cl_nI (show i < 2147483648 by omega)
    have g3 : (nI i < nI kf) = (i < kf) := propext (nI_ltI (by omega) (by omega))
    have r2 : rs2 T kf i 58 2 = nI nf := by rw [rs2_ne (by omega) (by omega)]; exact t2
    have r32 : rs2 T kf i 58 32 = nI kf := by rw [rs2_ne (by omega) (by omega)]; exact t32
    have r32' : ∀ v, up2 (rs2 T kf i) 61 i v 58 32 = nI kf := fun v => by rw [fr_tac (by omega)]; exact r32
    have r73 : rs2 T kf i 73 i = T 73 i := rs2_ne (by omega) (by omega)
    have r74 : ∀ v, up2 (rs2 T kf i) 61 i v 74 i = T 74 i := fun v => by rw [fr_tac (by omega), rs2_ne (by omega) (by omega)]
    have hp := rs2_p T kf i
    rw [e161_40]
    by_cases z : i < kf
    · simp only [z, ↓reduceIte] at hp
      simp only [e161_0, e161_1, e161_4, e161_5, e161_8, e161_10, e161_11, e161_12, e161_14, e161_17, e161_20, e161_21, e161_24, e161_25, e161_26, e161_29, e161_30, e161_31, e161_32, e161_35, e161_38, e161_39, e161_41, e161_42, e161_45, e161_48, e161_49, e161_52, e161_53, e161_54, e161_55, e161_58, e161_61, e161_62, e161_65, e161_66, e161_67, e161_70, e161_71, e161_72, e161_73, e161_76, e161_77, e161_78, e161_79, e161_82, e161_85, e161_86, e161_89, e161_90, e161_91, e161_94, e161_95, e161_96, e161_99, e161_102, e161_103, e161_104, e161_107, e161_110, e161_111, e161_114, kf_0, ik_1, ik_2, ik_3, kf_8, ik_9, kf_10, ik_11, ik_28, ik_29, kf_30, ik_31, ik_48, ik_49, kf_50, kf_51, ik_52, ik_53, ik_54, kf_55, kf_56, ik_57, kf_58, ik_59, ik_60, ik_61, ik_62, ik_63, ik_64, ik_65, ik_66, ik_67, ik_68, ik_69, ik_70, ik_71, ik_72, ik_73, ik_74, rq_0_0, rq_0_1, rq_0_2, rq_0_3, rq_0_4, rq_0_5, rq_0_6, rq_0_7, rq_0_8, rq_8_0, rq_10_0, rq_10_1, rq_10_2, rq_30_0, rq_30_1, rq_30_2, rq_50_0, rq_51_0, rq_51_1, rq_51_2, rq_51_3, rq_51_4, rq_51_5, rq_56_0, rq_56_1, rq_56_2, rq_58_1, rq_58_3, rq_58_4, rq_58_5, rq_58_7, rq_58_8, rq_58_11, rq_58_12, rq_58_13, rq_58_14, rq_58_15, rq_58_25, rq_58_26, rq_58_29, rq_58_30, rq_58_31, rq_3, rq_11, rq_31, rq_law, rv_s, cl_i, cl_r, cl_n, tl_s, tl_n, kont_some, le4_0, le4_1, le4_2, le4_3, le4_4, eq_self, or_true, true_or, and_true, true_and, g0, g1, g2, g3, z, r2, r32, r32', r73, r74, hp, ↓reduceIte, nI_1]
    · simp only [z, ↓reduceIte] at hp
      simp only [e161_0, e161_1, e161_4, e161_5, e161_8, e161_10, e161_11, e161_12, e161_14, e161_17, e161_20, e161_21, e161_24, e161_25, e161_26, e161_29, e161_30, e161_31, e161_32, e161_35, e161_38, e161_39, e161_41, e161_42, e161_45, e161_48, e161_49, e161_52, e161_53, e161_54, e161_55, e161_58, e161_61, e161_62, e161_65, e161_66, e161_67, e161_70, e161_71, e161_72, e161_73, e161_76, e161_77, e161_78, e161_79, e161_82, e161_85, e161_86, e161_89, e161_90, e161_91, e161_94, e161_95, e161_96, e161_99, e161_102, e161_103, e161_104, e161_107, e161_110, e161_111, e161_114, kf_0, ik_1, ik_2, ik_3, kf_8, ik_9, kf_10, ik_11, ik_28, ik_29, kf_30, ik_31, ik_48, ik_49, kf_50, kf_51, ik_52, ik_53, ik_54, kf_55, kf_56, ik_57, kf_58, ik_59, ik_60, ik_61, ik_62, ik_63, ik_64, ik_65, ik_66, ik_67, ik_68, ik_69, ik_70, ik_71, ik_72, ik_73, ik_74, rq_0_0, rq_0_1, rq_0_2, rq_0_3, rq_0_4, rq_0_5, rq_0_6, rq_0_7, rq_0_8, rq_8_0, rq_10_0, rq_10_1, rq_10_2, rq_30_0, rq_30_1, rq_30_2, rq_50_0, rq_51_0, rq_51_1, rq_51_2, rq_51_3, rq_51_4, rq_51_5, rq_56_0, rq_56_1, rq_56_2, rq_58_1, rq_58_3, rq_58_4, rq_58_5, rq_58_7, rq_58_8, rq_58_11, rq_58_12, rq_58_13, rq_58_14, rq_58_15, rq_58_25, rq_58_26, rq_58_29, rq_58_30, rq_58_31, rq_3, rq_11, rq_31, rq_law, rv_s, cl_i, cl_r, cl_n, tl_s, tl_n, kont_some, le4_0, le4_1, le4_2, le4_3, le4_4, eq_self, or_true, true_or, and_true, true_and, g0, g1, g2, g3, z, r2, r32, r32', r73, r74, hp, ↓reduceIte, nI_1])
  rw [rs2_0, nI_0] at key2
  have m1 : (nI kn = -1) = False := nI_ne_m1 (by omega)
  have r2 : rs2 T kf nf 58 2 = nI nf := by rw [rs2_ne (by omega) (by omega)]; exact t2
  have r33 : rs2 T kf nf 58 33 = nI kn := by rw [rs2_ne (by omega) (by omega)]; exact t33
  have r6 : up2 (rs2 T kf nf) 58 6 (nI kn) 58 6 = nI kn := by rw [up2_at, if_pos ⟨rfl, rfl⟩]
  rw [run_161]
  simp only [e161_0, e161_1, e161_4, e161_5, e161_8, e161_10, e161_11, e161_12, e161_14, e161_17, e161_20, e161_21, e161_24, e161_25, e161_26, e161_29, e161_30, e161_31, e161_32, e161_35, e161_38, e161_39, e161_41, e161_42, e161_45, e161_48, e161_49, e161_52, e161_53, e161_54, e161_55, e161_58, e161_61, e161_62, e161_65, e161_66, e161_67, e161_70, e161_71, e161_72, e161_73, e161_76, e161_77, e161_78, e161_79, e161_82, e161_85, e161_86, e161_89, e161_90, e161_91, e161_94, e161_95, e161_96, e161_99, e161_102, e161_103, e161_104, e161_107, e161_110, e161_111, e161_114, kf_0, ik_1, ik_2, ik_3, kf_8, ik_9, kf_10, ik_11, ik_28, ik_29, kf_30, ik_31, ik_48, ik_49, kf_50, kf_51, ik_52, ik_53, ik_54, kf_55, kf_56, ik_57, kf_58, ik_59, ik_60, ik_61, ik_62, ik_63, ik_64, ik_65, ik_66, ik_67, ik_68, ik_69, ik_70, ik_71, ik_72, ik_73, ik_74, rq_0_0, rq_0_1, rq_0_2, rq_0_3, rq_0_4, rq_0_5, rq_0_6, rq_0_7, rq_0_8, rq_8_0, rq_10_0, rq_10_1, rq_10_2, rq_30_0, rq_30_1, rq_30_2, rq_50_0, rq_51_0, rq_51_1, rq_51_2, rq_51_3, rq_51_4, rq_51_5, rq_56_0, rq_56_1, rq_56_2, rq_58_1, rq_58_3, rq_58_4, rq_58_5, rq_58_7, rq_58_8, rq_58_11, rq_58_12, rq_58_13, rq_58_14, rq_58_15, rq_58_25, rq_58_26, rq_58_29, rq_58_30, rq_58_31, rq_3, rq_11, rq_31, rq_law, rv_s, cl_i, cl_r, cl_n, tl_s, tl_n, kont_some, le4_0, le4_1, le4_2, le4_3, le4_4, eq_self, or_true, true_or, and_true, true_and, h33, m1, ↓reduceIte]
  refine key.trans ?_
  rw [e161_13]
  simp only [e161_0, e161_1, e161_4, e161_5, e161_8, e161_10, e161_11, e161_12, e161_14, e161_17, e161_20, e161_21, e161_24, e161_25, e161_26, e161_29, e161_30, e161_31, e161_32, e161_35, e161_38, e161_39, e161_41, e161_42, e161_45, e161_48, e161_49, e161_52, e161_53, e161_54, e161_55, e161_58, e161_61, e161_62, e161_65, e161_66, e161_67, e161_70, e161_71, e161_72, e161_73, e161_76, e161_77, e161_78, e161_79, e161_82, e161_85, e161_86, e161_89, e161_90, e161_91, e161_94, e161_95, e161_96, e161_99, e161_102, e161_103, e161_104, e161_107, e161_110, e161_111, e161_114, kf_0, ik_1, ik_2, ik_3, kf_8, ik_9, kf_10, ik_11, ik_28, ik_29, kf_30, ik_31, ik_48, ik_49, kf_50, kf_51, ik_52, ik_53, ik_54, kf_55, kf_56, ik_57, kf_58, ik_59, ik_60, ik_61, ik_62, ik_63, ik_64, ik_65, ik_66, ik_67, ik_68, ik_69, ik_70, ik_71, ik_72, ik_73, ik_74, rq_0_0, rq_0_1, rq_0_2, rq_0_3, rq_0_4, rq_0_5, rq_0_6, rq_0_7, rq_0_8, rq_8_0, rq_10_0, rq_10_1, rq_10_2, rq_30_0, rq_30_1, rq_30_2, rq_50_0, rq_51_0, rq_51_1, rq_51_2, rq_51_3, rq_51_4, rq_51_5, rq_56_0, rq_56_1, rq_56_2, rq_58_1, rq_58_3, rq_58_4, rq_58_5, rq_58_7, rq_58_8, rq_58_11, rq_58_12, rq_58_13, rq_58_14, rq_58_15, rq_58_25, rq_58_26, rq_58_29, rq_58_30, rq_58_31, rq_3, rq_11, rq_31, rq_law, rv_s, cl_i, cl_r, cl_n, tl_s, tl_n, kont_some, le4_0, le4_1, le4_2, le4_3, le4_4, eq_self, or_true, true_or, and_true, true_and, show ¬ (nI 160 < 160) by decide, ↓reduceIte]
  refine key2.trans ?_
  rw [e161_40]
  simp only [e161_0, e161_1, e161_4, e161_5, e161_8, e161_10, e161_11, e161_12, e161_14, e161_17, e161_20, e161_21, e161_24, e161_25, e161_26, e161_29, e161_30, e161_31, e161_32, e161_35, e161_38, e161_39, e161_41, e161_42, e161_45, e161_48, e161_49, e161_52, e161_53, e161_54, e161_55, e161_58, e161_61, e161_62, e161_65, e161_66, e161_67, e161_70, e161_71, e161_72, e161_73, e161_76, e161_77, e161_78, e161_79, e161_82, e161_85, e161_86, e161_89, e161_90, e161_91, e161_94, e161_95, e161_96, e161_99, e161_102, e161_103, e161_104, e161_107, e161_110, e161_111, e161_114, kf_0, ik_1, ik_2, ik_3, kf_8, ik_9, kf_10, ik_11, ik_28, ik_29, kf_30, ik_31, ik_48, ik_49, kf_50, kf_51, ik_52, ik_53, ik_54, kf_55, kf_56, ik_57, kf_58, ik_59, ik_60, ik_61, ik_62, ik_63, ik_64, ik_65, ik_66, ik_67, ik_68, ik_69, ik_70, ik_71, ik_72, ik_73, ik_74, rq_0_0, rq_0_1, rq_0_2, rq_0_3, rq_0_4, rq_0_5, rq_0_6, rq_0_7, rq_0_8, rq_8_0, rq_10_0, rq_10_1, rq_10_2, rq_30_0, rq_30_1, rq_30_2, rq_50_0, rq_51_0, rq_51_1, rq_51_2, rq_51_3, rq_51_4, rq_51_5, rq_56_0, rq_56_1, rq_56_2, rq_58_1, rq_58_3, rq_58_4, rq_58_5, rq_58_7, rq_58_8, rq_58_11, rq_58_12, rq_58_13, rq_58_14, rq_58_15, rq_58_25, rq_58_26, rq_58_29, rq_58_30, rq_58_31, rq_3, rq_11, rq_31, rq_law, rv_s, cl_i, cl_r, cl_n, tl_s, tl_n, kont_some, le4_0, le4_1, le4_2, le4_3, le4_4, eq_self, or_true, true_or, and_true, true_and, r2, r33, r6, Int32.lt_irrefl, ↓reduceIte]
theorem same_restore : SAME 85 161 [] := same_of (fun G J q np nf nl pg n D hq hR => by
  have hR' := hR
  obtain ⟨a1, a2, a3, a4, a5, a6, a7, ⟨hX, hM, hN⟩, a9⟩ := hR
  have h6 := a3.2.2
  have a9' := a9
  rcases a9 with ⟨z1, z2⟩ | ⟨kn, kf, E, z1, z2, z3, z4, z5, z6, z7, z8, z9, z10⟩
  · refine ⟨G, G, J, J, q, q, .int (-103), hq, ⟨np, nf, nl, pg, n, D, hR'⟩, ?_, ?_⟩
    · rw [run_85]
      simp only [e85_0, e85_1, e85_4, e85_7, e85_9, e85_10, e85_11, e85_14, e85_15, e85_18, e85_21, e85_22, e85_25, e85_28, kf_0, ik_1, ik_2, ik_3, kf_8, ik_9, kf_10, ik_11, ik_28, ik_29, kf_30, ik_31, ik_48, ik_49, kf_50, kf_51, ik_52, ik_53, ik_54, kf_55, kf_56, ik_57, kf_58, ik_59, ik_60, ik_61, ik_62, ik_63, ik_64, ik_65, ik_66, ik_67, ik_68, ik_69, ik_70, ik_71, ik_72, ik_73, ik_74, rq_0_0, rq_0_1, rq_0_2, rq_0_3, rq_0_4, rq_0_5, rq_0_6, rq_0_7, rq_0_8, rq_8_0, rq_10_0, rq_10_1, rq_10_2, rq_30_0, rq_30_1, rq_30_2, rq_50_0, rq_51_0, rq_51_1, rq_51_2, rq_51_3, rq_51_4, rq_51_5, rq_56_0, rq_56_1, rq_56_2, rq_58_1, rq_58_3, rq_58_4, rq_58_5, rq_58_7, rq_58_8, rq_58_11, rq_58_12, rq_58_13, rq_58_14, rq_58_15, rq_58_25, rq_58_26, rq_58_29, rq_58_30, rq_58_31, rq_3, rq_11, rq_31, rq_law, rv_s, cl_i, cl_r, cl_n, tl_s, tl_n, kont_some, le4_0, le4_1, le4_2, le4_3, le4_4, eq_self, or_true, true_or, and_true, true_and, z1, ↓reduceIte]
    · rw [run_161]
      simp only [e161_0, e161_1, e161_4, e161_5, e161_8, e161_10, e161_11, e161_12, e161_14, e161_17, e161_20, e161_21, e161_24, e161_25, e161_26, e161_29, e161_30, e161_31, e161_32, e161_35, e161_38, e161_39, e161_40, e161_41, e161_42, e161_45, e161_48, e161_49, e161_52, e161_53, e161_54, e161_55, e161_58, e161_61, e161_62, e161_65, e161_66, e161_67, e161_70, e161_71, e161_72, e161_73, e161_76, e161_77, e161_78, e161_79, e161_82, e161_85, e161_86, e161_89, e161_90, e161_91, e161_94, e161_95, e161_96, e161_99, e161_102, e161_103, e161_104, e161_107, e161_110, e161_111, e161_114, kf_0, ik_1, ik_2, ik_3, kf_8, ik_9, kf_10, ik_11, ik_28, ik_29, kf_30, ik_31, ik_48, ik_49, kf_50, kf_51, ik_52, ik_53, ik_54, kf_55, kf_56, ik_57, kf_58, ik_59, ik_60, ik_61, ik_62, ik_63, ik_64, ik_65, ik_66, ik_67, ik_68, ik_69, ik_70, ik_71, ik_72, ik_73, ik_74, rq_0_0, rq_0_1, rq_0_2, rq_0_3, rq_0_4, rq_0_5, rq_0_6, rq_0_7, rq_0_8, rq_8_0, rq_10_0, rq_10_1, rq_10_2, rq_30_0, rq_30_1, rq_30_2, rq_50_0, rq_51_0, rq_51_1, rq_51_2, rq_51_3, rq_51_4, rq_51_5, rq_56_0, rq_56_1, rq_56_2, rq_58_1, rq_58_3, rq_58_4, rq_58_5, rq_58_7, rq_58_8, rq_58_11, rq_58_12, rq_58_13, rq_58_14, rq_58_15, rq_58_25, rq_58_26, rq_58_29, rq_58_30, rq_58_31, rq_3, rq_11, rq_31, rq_law, rv_s, cl_i, cl_r, cl_n, tl_s, tl_n, kont_some, le4_0, le4_1, le4_2, le4_3, le4_4, eq_self, or_true, true_or, and_true, true_and, z2, ↓reduceIte]
  have hx := s1r (J := J) (q := q) z3 z4 (fun j hj => by rw [(z8 j 8 hj (by omega)).1]; exact (z7 j hj).2.2.2.2.2.1)
  have b : ∀ s, cp2 (cp1 G 10 12 32 kn kn) 28 29 48 49 6 58 s = G 58 s := fun s => by rw [cp2_ne (by omega) (by omega), cp1_ne (by omega) (by omega)]
  have hm := s161 (J := J) (q := q) (G := cp2 (cp1 G 10 12 32 kn kn) 28 29 48 49 6) ((b 33).trans z2) z4 ((b 32).trans z5) h6 z6 ((b 2).trans a3.2.1)
  have e : ∀ c s, ¬ (12 ≤ c ∧ c ≤ 29) → ¬ (61 ≤ c ∧ c ≤ 63) → ¬ (c = 10 ∧ s = 3) → ¬ (c = 58 ∧ s = 6) → up2 (rs2 (cp0 (cp2 (cp1 G 10 12 32 kn kn) 28 29 48 49 6) 63 72 160) kf nf) 58 6 (nI kn) c s = G c s := fun c s y1 y2 y3 y4 => by
    rw [fr_tac (by omega), rs2_ne (by omega) (by omega), cp0_ne (by omega), cp2_ne (by omega) (by omega), cp1_ne (by omega) (by omega)]
  have e2 : ∀ c s, c < 58 → up2 (rs2 (cp0 (cp2 (cp1 G 10 12 32 kn kn) 28 29 48 49 6) 63 72 160) kf nf) 58 6 (nI kn) c s = cp2 (cp1 G 10 12 32 kn kn) 28 29 48 49 6 c s := fun c s y1 => by
    rw [fr_tac (by omega), rs2_ne (by omega) (by omega), cp0_ne (by omega)]
  refine ⟨cp2 (cp1 G 10 12 32 kn kn) 28 29 48 49 6, up2 (rs2 (cp0 (cp2 (cp1 G 10 12 32 kn kn) 28 29 48 49 6) 63 72 160) kf nf) 58 6 (nI kn), J, J, q, q, .int (nI kn), hq, ⟨np, nf, nl, pg, kn, E, a1.c (fun c s hc => e c s (by omega) (by omega) (by omega) (by omega)), a2.c (fun c s hc => e c s (by omega) (by omega) (by omega) (by omega)), a3.c (fun c s hc => e c s (by omega) (by omega) (by omega) (by omega)), a4.c (fun c s hc => e c s (by omega) (by omega) (by omega) (by omega)), a5.c (fun c s hc => e c s (by omega) (by omega) (by omega) (by omega)), a6.c (fun c s hc => e c s (by omega) (by omega) (by omega) (by omega)), ⟨fun f hf => ⟨?_, ?_⟩, fun f hf hf6 => ⟨?_, ?_⟩⟩, ⟨⟨?_, z4, fun j a hj ha => ?_⟩, ⟨?_, z4, fun j a hj ha => ?_⟩, z7⟩, a9'.c (fun c s hc => e c s (by omega) (by omega) (by omega) (by omega))⟩, ?_, hm⟩
  · have r : rs2 (cp0 (cp2 (cp1 G 10 12 32 kn kn) 28 29 48 49 6) 63 72 160) kf nf 61 f = if f < kf then G 73 f else -1 := by
      unfold rs2
      rw [if_pos ⟨rfl, hf⟩, cp0_ne (by omega), cp2_ne (by omega) (by omega), cp1_ne (by omega) (by omega)]
    rw [e2 28 f (by omega), fr_tac (by omega), r]
    unfold cp2
    rw [if_pos (show 28 = 28 ∧ f < 6 by omega), cp1_ne (by omega) (by omega)]
    by_cases y : f < kf
    · rw [if_pos y]
      exact (z9 f y).1
    · rw [if_neg y]
      exact (z10 f (by omega) (by omega)).1.symm
  · have r : rs2 (cp0 (cp2 (cp1 G 10 12 32 kn kn) 28 29 48 49 6) 63 72 160) kf nf 62 f = if f < kf then G 74 f else 0 := by
      unfold rs2
      rw [if_neg (show ¬ (62 = 61 ∧ f < nf) by omega), if_pos ⟨rfl, hf⟩, cp0_ne (by omega), cp2_ne (by omega) (by omega), cp1_ne (by omega) (by omega)]
    rw [e2 29 f (by omega), fr_tac (by omega), r]
    unfold cp2
    rw [if_neg (show ¬ (29 = 28 ∧ f < 6) by omega), if_pos (show 29 = 29 ∧ f < 6 by omega), cp1_ne (by omega) (by omega)]
    by_cases y : f < kf
    · rw [if_pos y]
      exact (z9 f y).2
    · rw [if_neg y]
      exact (z10 f (by omega) (by omega)).2.symm
  · rw [e2 28 f (by omega)]
    unfold cp2
    rw [if_pos (by omega), cp1_ne (by omega) (by omega)]
    exact (z10 f (by omega) hf6).1
  · rw [e2 29 f (by omega)]
    unfold cp2
    rw [if_neg (by omega), if_pos (by omega), cp1_ne (by omega) (by omega)]
    exact (z10 f (by omega) hf6).2
  · rw [e2 10 3 (by omega), cp2_ne (by omega) (by omega)]
    unfold cp1
    rw [if_neg (by omega), if_pos ⟨rfl, rfl⟩]
  · rw [e2 (12 + j) a (by omega), cp2_ne (by omega) (by omega)]
    unfold cp1
    rw [if_pos (by omega), show 32 + (12 + j - 12) = 32 + j by omega]
    exact (z8 j a hj ha).1
  · rw [up2_at, if_pos ⟨rfl, rfl⟩]
  · rw [fr_tac (by omega), rs2_ne (by omega) (by omega)]
    unfold cp0
    rw [if_pos (by omega), cp2_ne (by omega) (by omega), cp1_ne (by omega) (by omega)]
    exact (z8 j a hj ha).2
  · have r : cp2 (cp1 G 10 12 32 kn kn) 28 29 48 49 6 10 3 = nI kn := by
      rw [cp2_ne (by omega) (by omega)]
      unfold cp1
      rw [if_neg (by omega), if_pos ⟨rfl, rfl⟩]
    rw [run_85]
    simp only [e85_0, e85_1, e85_4, e85_7, e85_9, e85_10, e85_11, e85_14, e85_15, e85_18, e85_21, e85_22, e85_25, e85_28, kf_0, ik_1, ik_2, ik_3, kf_8, ik_9, kf_10, ik_11, ik_28, ik_29, kf_30, ik_31, ik_48, ik_49, kf_50, kf_51, ik_52, ik_53, ik_54, kf_55, kf_56, ik_57, kf_58, ik_59, ik_60, ik_61, ik_62, ik_63, ik_64, ik_65, ik_66, ik_67, ik_68, ik_69, ik_70, ik_71, ik_72, ik_73, ik_74, rq_0_0, rq_0_1, rq_0_2, rq_0_3, rq_0_4, rq_0_5, rq_0_6, rq_0_7, rq_0_8, rq_8_0, rq_10_0, rq_10_1, rq_10_2, rq_30_0, rq_30_1, rq_30_2, rq_50_0, rq_51_0, rq_51_1, rq_51_2, rq_51_3, rq_51_4, rq_51_5, rq_56_0, rq_56_1, rq_56_2, rq_58_1, rq_58_3, rq_58_4, rq_58_5, rq_58_7, rq_58_8, rq_58_11, rq_58_12, rq_58_13, rq_58_14, rq_58_15, rq_58_25, rq_58_26, rq_58_29, rq_58_30, rq_58_31, rq_3, rq_11, rq_31, rq_law, rv_s, cl_i, cl_r, cl_n, tl_s, tl_n, kont_some, le4_0, le4_1, le4_2, le4_3, le4_4, eq_self, or_true, true_or, and_true, true_and, z1, show ¬ ((1 : Int32) = 0) by decide, hx, r, ↓reduceIte])
end OPS15
