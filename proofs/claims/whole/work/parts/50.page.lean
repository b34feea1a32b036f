/-! THE PAGE: the letters of a law -/
def stg (s c : Int32) : Int32 := if s = -1 then -1 else if s = 0 then (if c = 100 ∨ c = 101 ∨ c = 110 ∨ c = 98 then 1 else -1) else if s = 1 then (if c = 97 ∨ c = 99 ∨ c = 120 then 2 else -1) else if ¬ s < 5 then (if s < 8 ∧ ¬ c < 48 ∧ ¬ 57 < c then s + 1 else -1) else if c = 108 ∧ s < 3 then 3 else if c = 103 ∧ s < 4 then 4 else if c = 104 then 5 else -1
def stN (cd : Nat → Int32) : Nat → Int32
  | 0 => 0
  | k + 1 => stg (stN cd k) (cd k)
def flt (cd : Nat → Int32) : Nat → Nat → Nat
  | 0, k => k
  | m + 1, k => if stN cd (k + 1) = -1 then k else flt cd m (k + 1)
def tkU (w : Nat → Int32) (k : Nat) (c : Int32) : Nat → Int32 := if k = 0 then upd w 0 c else if k = 1 then upd w 1 c else if c = 108 then upd w 2 1 else if c = 103 then upd w 3 1 else upd w 4 (if c = 104 then 0 else 10 * w 4 + c - 48)
def tkF (a : Nat) : Int32 := if a = 0 then 100 else if a = 1 then 120 else if a = 4 then 999 else 0
def tkR (cd : Nat → Int32) : Nat → Nat → Int32
  | 0 => tkF
  | k + 1 => tkU (tkR cd k) k (cd k)
theorem stg_m1 (c : Int32) : stg (-1) c = -1 := by simp [stg]
theorem stN_m1 {cd : Nat → Int32} {k : Nat} (h : stN cd k = -1) : ∀ m, stN cd (k + m) = -1 := by
  intro m
  induction m with
  | zero => exact h
  | succ m ih => rw [← Nat.add_assoc]; unfold stN; rw [ih, stg_m1]
theorem stg_t {t : Nat} (ht : t ≤ 8) {c : Int32} (h : ¬ stg (nI t) c = -1) : ∃ t', t' ≤ 8 ∧ stg (nI t) c = nI t' ∧ (t = 0 → t' = 1) ∧ (t = 1 → t' = 2) ∧ (2 ≤ t → 2 ≤ t') ∧ (2 ≤ t → t < 5 → c = 108 ∨ c = 103 ∨ c = 104) ∧ (5 ≤ t → ¬ 57 < c) := by
  have a0 : ∀ t, t ≤ 8 → (¬ nI t = -1) ∧ ((nI t = 0) = (t = 0)) ∧ ((nI t = 1) = (t = 1)) ∧ ((nI t < 5) = (t < 5)) ∧ ((nI t < 8) = (t < 8)) ∧ ((nI t < 3) = (t < 3)) ∧ ((nI t < 4) = (t < 4)) := fun t ht => ⟨by rw [nI_ne_m1 (by omega)]; exact id, propext (nI_eq (b := 0) (by omega) (by omega)), propext (nI_eq (b := 1) (by omega) (by omega)), propext (nI_ltI (b := 5) (by omega) (by omega)), propext (nI_ltI (b := 8) (by omega) (by omega)), propext (nI_ltI (b := 3) (by omega) (by omega)), propext (nI_ltI (b := 4) (by omega) (by omega))⟩
  obtain ⟨b1', b2, b3, b4, b5, b6, b7⟩ := a0 t ht
  unfold stg at h ⊢
  rw [if_neg b1'] at h ⊢
  simp only [b2, b3, b4, b5, b6, b7] at h ⊢
  by_cases z0 : t = 0
  · subst z0
    simp only [↓reduceIte] at h ⊢
    split at h
    · next z => rw [if_pos z]; exact ⟨1, by (try intros); first | omega | contradiction, rfl, fun _ => rfl, by (try intros); first | omega | contradiction, by (try intros); first | omega | contradiction, by (try intros); first | omega | contradiction, by (try intros); first | omega | contradiction⟩
    · exact absurd rfl h
  by_cases z1 : t = 1
  · subst z1
    simp only [↓reduceIte, z0] at h ⊢
    split at h
    · next z => rw [if_pos z]; exact ⟨2, by (try intros); first | omega | contradiction, rfl, by (try intros); first | omega | contradiction, fun _ => rfl, by (try intros); first | omega | contradiction, by (try intros); first | omega | contradiction, by (try intros); first | omega | contradiction⟩
    · exact absurd rfl h
  simp only [z0, z1, ↓reduceIte] at h ⊢
  by_cases z5 : t < 5
  · simp only [z5, not_true_eq_false, ↓reduceIte] at h ⊢
    split at h
    · next z => rw [if_pos z]; exact ⟨3, by (try intros); first | omega | contradiction, rfl, by (try intros); first | omega | contradiction, by (try intros); first | omega | contradiction, by (try intros); first | omega | contradiction, fun _ _ => Or.inl z.1, by (try intros); first | omega | contradiction⟩
    · next y1 =>
      rw [if_neg y1]
      split at h
      · next z => rw [if_pos z]; exact ⟨4, by (try intros); first | omega | contradiction, rfl, by (try intros); first | omega | contradiction, by (try intros); first | omega | contradiction, by (try intros); first | omega | contradiction, fun _ _ => Or.inr (Or.inl z.1), by (try intros); first | omega | contradiction⟩
      · next y2 =>
        rw [if_neg y2]
        split at h
        · next z => rw [if_pos z]; exact ⟨5, by (try intros); first | omega | contradiction, rfl, by (try intros); first | omega | contradiction, by (try intros); first | omega | contradiction, by (try intros); first | omega | contradiction, fun _ _ => Or.inr (Or.inr z), by (try intros); first | omega | contradiction⟩
        · exact absurd rfl h
  · simp only [z5, not_false_eq_true, ↓reduceIte] at h ⊢
    split at h
    · next z => rw [if_pos z, nI_1]; exact ⟨t + 1, by (try intros); first | omega | contradiction, rfl, by (try intros); first | omega | contradiction, by (try intros); first | omega | contradiction, by (try intros); first | omega | contradiction, by (try intros); first | omega | contradiction, fun _ => z.2.2⟩
    · exact absurd rfl h
theorem flt_ok {cd : Nat → Int32} {pg : Nat} : ∀ (m k : Nat), k + m = pg → ¬ stN cd k = -1 → (flt cd m k = pg ∧ ¬ stN cd pg = -1) ∨ (flt cd m k < pg ∧ stN cd pg = -1) := by
  intro m
  induction m with
  | zero =>
    intro k hk h
    obtain rfl : k = pg := by omega
    exact Or.inl ⟨rfl, h⟩
  | succ m ih =>
    intro k hk h
    unfold flt
    by_cases z : stN cd (k + 1) = -1
    · rw [if_pos z]
      refine Or.inr ⟨by omega, ?_⟩
      have := stN_m1 z m
      rwa [show k + 1 + m = pg by omega] at this
    · rw [if_neg z]
      exact ih (k + 1) (by omega) z
theorem tkR_01 (cd : Nat → Int32) (k : Nat) : (tkR cd k 2 = 0 ∨ tkR cd k 2 = 1) ∧ (tkR cd k 3 = 0 ∨ tkR cd k 3 = 1) := by
  induction k with
  | zero => exact ⟨Or.inl rfl, Or.inl rfl⟩
  | succ k ih =>
    unfold tkR tkU
    split
    · exact ih
    · split
      · exact ih
      · split
        · exact ⟨Or.inr rfl, ih.2⟩
        · split
          · exact ⟨ih.1, Or.inr rfl⟩
          · exact ih
def rowL (G : SG) (c : Nat) (w : Nat → Int32) : SG := fun a s => if a = c ∧ s < 5 then w s else G a s
theorem rowL_ne {G : SG} {c a s : Nat} {w : Nat → Int32} (h : a ≠ c) : rowL G c w a s = G a s := by simp [rowL, h]
theorem rowL_at {G : SG} {c s : Nat} {w : Nat → Int32} (h : s < 5) : rowL G c w c s = w s := by simp [rowL, h]
theorem rowL_p {G : SG} {c s : Nat} {w : Nat → Int32} {v : Int32} (h : s < 5) : up2 (rowL G c w) c s v = rowL G c (upd w s v) := by
  funext a b
  unfold up2 rowL upd
  by_cases h1 : a = c
  · by_cases h2 : b = s
    · simp [h1, h2, h]
    · simp [h1, h2]
  · simp [h1]
section PAGE
variable {K : List KD} {G S : SG} {J : SJ} {R : SR} {q pg c : Nat} {cd w : Nat → Int32}
theorem s44 (s c : Int32) : run 44 [.int s, .int c] K G J R = some ((K, G, J, R), some (.int (stg s c))) := by
  rw [run_44]
  simp only [e44_0, e44_1, e44_2, e44_5, e44_6, e44_7, e44_8, e44_11, e44_12, e44_14, e44_17, e44_18, e44_20, e44_23, e44_24, e44_26, e44_29, e44_30, e44_32, e44_35, e44_36, e44_39, e44_40, e44_41, e44_42, e44_43, e44_46, e44_47, e44_49, e44_52, e44_53, e44_55, e44_58, e44_59, e44_61, e44_64, e44_65, e44_68, e44_69, e44_70, e44_71, e44_72, e44_75, e44_76, e44_78, e44_81, e44_82, e44_84, e44_87, e44_88, e44_90, e44_93, e44_94, e44_95, e44_96, e44_99, e44_100, e44_101, e44_102, e44_104, e44_107, e44_108, e44_109, e44_112, e44_113, e44_114, e44_115, e44_117, e44_120, e44_121, e44_122, e44_125, e44_126, e44_127, e44_128, e44_130, e44_133, e44_134, e44_137, e44_138, kf_0, ik_1, ik_2, ik_3, kf_8, ik_9, kf_10, ik_11, ik_28, ik_29, kf_30, ik_31, ik_48, ik_49, kf_50, kf_51, ik_52, ik_53, ik_54, kf_55, kf_56, ik_57, kf_58, ik_59, ik_60, ik_61, ik_62, ik_63, ik_64, ik_65, ik_66, ik_67, ik_68, ik_69, ik_70, ik_71, ik_72, ik_73, ik_74, rq_0_0, rq_0_1, rq_0_2, rq_0_3, rq_0_4, rq_0_5, rq_0_6, rq_0_7, rq_0_8, rq_8_0, rq_10_0, rq_10_1, rq_10_2, rq_30_0, rq_30_1, rq_30_2, rq_50_0, rq_51_0, rq_51_1, rq_51_2, rq_51_3, rq_51_4, rq_51_5, rq_56_0, rq_56_1, rq_56_2, rq_58_1, rq_58_3, rq_58_4, rq_58_5, rq_58_7, rq_58_8, rq_58_11, rq_58_12, rq_58_13, rq_58_14, rq_58_15, rq_58_25, rq_58_26, rq_58_29, rq_58_30, rq_58_31, rq_3, rq_11, rq_31, rq_law, rv_s, cl_i, cl_r, cl_n, tl_s, tl_n, kont_some, le4_0, le4_1, le4_2, le4_3, le4_4, eq_self, or_true, true_or, and_true, true_and, stg]
  (repeat' split) <;> simp_all
theorem h42 (h8 : G 8 1 = nI pg) (hpg : pg ≤ 16) (hcd : ∀ i, i < pg → G 9 i = cd i) : ∀ (m k : Nat), k + m = pg → ev 42 4 [some (.ref (8 : Nat)), some (.int (stN cd k)), some (.int (nI k))] [] KF G J (RQ q) = some ((KF, G, J, RQ q), some (.int (nI (flt cd m k)))) := by
  intro m
  induction m with
  | zero =>
    intro k hk
    obtain rfl : k = pg := by omega
    rw [e42_4]
    simp only [e42_0, e42_1, e42_2, e42_3, e42_5, e42_6, e42_9, e42_12, e42_13, e42_14, e42_17, e42_18, e42_19, e42_22, e42_23, e42_24, e42_25, e42_28, e42_29, e42_30, e42_33, e42_36, e42_37, e42_40, kf_0, ik_1, ik_2, ik_3, kf_8, ik_9, kf_10, ik_11, ik_28, ik_29, kf_30, ik_31, ik_48, ik_49, kf_50, kf_51, ik_52, ik_53, ik_54, kf_55, kf_56, ik_57, kf_58, ik_59, ik_60, ik_61, ik_62, ik_63, ik_64, ik_65, ik_66, ik_67, ik_68, ik_69, ik_70, ik_71, ik_72, ik_73, ik_74, rq_0_0, rq_0_1, rq_0_2, rq_0_3, rq_0_4, rq_0_5, rq_0_6, rq_0_7, rq_0_8, rq_8_0, rq_10_0, rq_10_1, rq_10_2, rq_30_0, rq_30_1, rq_30_2, rq_50_0, rq_51_0, rq_51_1, rq_51_2, rq_51_3, rq_51_4, rq_51_5, rq_56_0, rq_56_1, rq_56_2, rq_58_1, rq_58_3, rq_58_4, rq_58_5, rq_58_7, rq_58_8, rq_58_11, rq_58_12, rq_58_13, rq_58_14, rq_58_15, rq_58_25, rq_58_26, rq_58_29, rq_58_30, rq_58_31, rq_3, rq_11, rq_31, rq_law, rv_s, cl_i, cl_r, cl_n, tl_s, tl_n, kont_some, le4_0, le4_1, le4_2, le4_3, le4_4, eq_self, or_true, true_or, and_true, true_and, h8, Int32.lt_irrefl, ↓reduceIte, flt]
  | succ m ih =>
    intro k hkm
    have hk : k < pg := by omega
    have g0 := lt_nI hk (show pg < 2147483648 by omega)
    have g1 := inb_nI (show k < 16 by omega) (show 16 < 2147483648 by omega)
    have g2 := cl_nI (show k < 2147483648 by omega)
    have e : stg (stN cd k) (cd k) = stN cd (k + 1) := rfl
    rw [e42_4]
    simp only [e42_0, e42_1, e42_2, e42_3, e42_5, e42_6, e42_9, e42_12, e42_13, e42_14, e42_17, e42_18, e42_19, e42_22, e42_23, e42_24, e42_25, e42_28, e42_29, e42_30, e42_33, e42_36, e42_37, e42_40, kf_0, ik_1, ik_2, ik_3, kf_8, ik_9, kf_10, ik_11, ik_28, ik_29, kf_30, ik_31, ik_48, ik_49, kf_50, kf_51, ik_52, ik_53, ik_54, kf_55, kf_56, ik_57, kf_58, ik_59, ik_60, ik_61, ik_62, ik_63, ik_64, ik_65, ik_66, ik_67, ik_68, ik_69, ik_70, ik_71, ik_72, ik_73, ik_74, rq_0_0, rq_0_1, rq_0_2, rq_0_3, rq_0_4, rq_0_5, rq_0_6, rq_0_7, rq_0_8, rq_8_0, rq_10_0, rq_10_1, rq_10_2, rq_30_0, rq_30_1, rq_30_2, rq_50_0, rq_51_0, rq_51_1, rq_51_2, rq_51_3, rq_51_4, rq_51_5, rq_56_0, rq_56_1, rq_56_2, rq_58_1, rq_58_3, rq_58_4, rq_58_5, rq_58_7, rq_58_8, rq_58_11, rq_58_12, rq_58_13, rq_58_14, rq_58_15, rq_58_25, rq_58_26, rq_58_29, rq_58_30, rq_58_31, rq_3, rq_11, rq_31, rq_law, rv_s, cl_i, cl_r, cl_n, tl_s, tl_n, kont_some, le4_0, le4_1, le4_2, le4_3, le4_4, eq_self, or_true, true_or, and_true, true_and, h8, g0, g1, g2, hcd k hk, s44, e, ↓reduceIte, nI_1, flt]
    by_cases z : stN cd (k + 1) = -1
    · simp only [z, ↓reduceIte]
    · simp only [z, ↓reduceIte]
      exact ih (k + 1) (by omega)
theorem s42 (h8 : G 8 1 = nI pg) (hpg : pg ≤ 16) (hcd : ∀ i, i < pg → G 9 i = cd i) : run 42 [.ref (8 : Nat)] KF G J (RQ q) = some ((KF, G, J, RQ q), some (.int (nI (flt cd pg 0)))) := by
  rw [run_42]
  simp only [e42_0, e42_1, e42_2, e42_3, e42_5, e42_6, e42_9, e42_12, e42_13, e42_14, e42_17, e42_18, e42_19, e42_22, e42_23, e42_24, e42_25, e42_28, e42_29, e42_30, e42_33, e42_36, e42_37, e42_40, kf_0, ik_1, ik_2, ik_3, kf_8, ik_9, kf_10, ik_11, ik_28, ik_29, kf_30, ik_31, ik_48, ik_49, kf_50, kf_51, ik_52, ik_53, ik_54, kf_55, kf_56, ik_57, kf_58, ik_59, ik_60, ik_61, ik_62, ik_63, ik_64, ik_65, ik_66, ik_67, ik_68, ik_69, ik_70, ik_71, ik_72, ik_73, ik_74, rq_0_0, rq_0_1, rq_0_2, rq_0_3, rq_0_4, rq_0_5, rq_0_6, rq_0_7, rq_0_8, rq_8_0, rq_10_0, rq_10_1, rq_10_2, rq_30_0, rq_30_1, rq_30_2, rq_50_0, rq_51_0, rq_51_1, rq_51_2, rq_51_3, rq_51_4, rq_51_5, rq_56_0, rq_56_1, rq_56_2, rq_58_1, rq_58_3, rq_58_4, rq_58_5, rq_58_7, rq_58_8, rq_58_11, rq_58_12, rq_58_13, rq_58_14, rq_58_15, rq_58_25, rq_58_26, rq_58_29, rq_58_30, rq_58_31, rq_3, rq_11, rq_31, rq_law, rv_s, cl_i, cl_r, cl_n, tl_s, tl_n, kont_some, le4_0, le4_1, le4_2, le4_3, le4_4, eq_self, or_true, true_or, and_true, true_and]
  exact h42 h8 hpg hcd pg 0 (by omega)
theorem s43 (h8 : G 8 1 = nI pg) (hpg : pg ≤ 16) (hcd : ∀ i, i < pg → G 9 i = cd i) : run 43 [.ref (8 : Nat)] KF G J (RQ q) = some ((KF, G, J, RQ q), some (.int (bi (¬ stN cd pg < 2 ∧ ¬ stN cd pg = 5)))) := by
  have key : ev 43 4 [some (.ref (8 : Nat)), some (.int (stN cd 0)), some (.int (nI 0))] [] KF G J (RQ q) = ev 43 4 [some (.ref (8 : Nat)), some (.int (stN cd pg)), some (.int (nI pg))] [] KF G J (RQ q) := iter (fun i => ev 43 4 [some (.ref (8 : Nat)), some (.int (stN cd i)), some (.int (nI i))] [] KF G J (RQ q)) pg (fun i hi => by
    have g0 := lt_nI hi (show pg < 2147483648 by omega)
    have g1 := inb_nI (show i < 16 by omega) (show 16 < 2147483648 by omega)
    have g2 := cl_nI (show i < 2147483648 by omega)
    rw [e43_4]
    simp only [e43_0, e43_1, e43_2, e43_3, e43_5, e43_6, e43_9, e43_12, e43_13, e43_14, e43_17, e43_18, e43_19, e43_22, e43_23, e43_26, e43_29, e43_30, e43_31, e43_34, e43_35, e43_36, e43_39, e43_40, e43_43, e43_44, kf_0, ik_1, ik_2, ik_3, kf_8, ik_9, kf_10, ik_11, ik_28, ik_29, kf_30, ik_31, ik_48, ik_49, kf_50, kf_51, ik_52, ik_53, ik_54, kf_55, kf_56, ik_57, kf_58, ik_59, ik_60, ik_61, ik_62, ik_63, ik_64, ik_65, ik_66, ik_67, ik_68, ik_69, ik_70, ik_71, ik_72, ik_73, ik_74, rq_0_0, rq_0_1, rq_0_2, rq_0_3, rq_0_4, rq_0_5, rq_0_6, rq_0_7, rq_0_8, rq_8_0, rq_10_0, rq_10_1, rq_10_2, rq_30_0, rq_30_1, rq_30_2, rq_50_0, rq_51_0, rq_51_1, rq_51_2, rq_51_3, rq_51_4, rq_51_5, rq_56_0, rq_56_1, rq_56_2, rq_58_1, rq_58_3, rq_58_4, rq_58_5, rq_58_7, rq_58_8, rq_58_11, rq_58_12, rq_58_13, rq_58_14, rq_58_15, rq_58_25, rq_58_26, rq_58_29, rq_58_30, rq_58_31, rq_3, rq_11, rq_31, rq_law, rv_s, cl_i, cl_r, cl_n, tl_s, tl_n, kont_some, le4_0, le4_1, le4_2, le4_3, le4_4, eq_self, or_true, true_or, and_true, true_and, h8, g0, g1, g2, hcd i hi, s44, ↓reduceIte, nI_1, stN])
  rw [run_43]
  simp only [e43_0, e43_1, e43_2, e43_3, e43_5, e43_6, e43_9, e43_12, e43_13, e43_14, e43_17, e43_18, e43_19, e43_22, e43_23, e43_26, e43_29, e43_30, e43_31, e43_34, e43_35, e43_36, e43_39, e43_40, e43_43, e43_44, kf_0, ik_1, ik_2, ik_3, kf_8, ik_9, kf_10, ik_11, ik_28, ik_29, kf_30, ik_31, ik_48, ik_49, kf_50, kf_51, ik_52, ik_53, ik_54, kf_55, kf_56, ik_57, kf_58, ik_59, ik_60, ik_61, ik_62, ik_63, ik_64, ik_65, ik_66, ik_67, ik_68, ik_69, ik_70, ik_71, ik_72, ik_73, ik_74, rq_0_0, rq_0_1, rq_0_2, rq_0_3, rq_0_4, rq_0_5, rq_0_6, rq_0_7, rq_0_8, rq_8_0, rq_10_0, rq_10_1, rq_10_2, rq_30_0, rq_30_1, rq_30_2, rq_50_0, rq_51_0, rq_51_1, rq_51_2, rq_51_3, rq_51_4, rq_51_5, rq_56_0, rq_56_1, rq_56_2, rq_58_1, rq_58_3, rq_58_4, rq_58_5, rq_58_7, rq_58_8, rq_58_11, rq_58_12, rq_58_13, rq_58_14, rq_58_15, rq_58_25, rq_58_26, rq_58_29, rq_58_30, rq_58_31, rq_3, rq_11, rq_31, rq_law, rv_s, cl_i, cl_r, cl_n, tl_s, tl_n, kont_some, le4_0, le4_1, le4_2, le4_3, le4_4, eq_self, or_true, true_or, and_true, true_and]
  refine key.trans ?_
  rw [e43_4]
  simp only [e43_0, e43_1, e43_2, e43_3, e43_5, e43_6, e43_9, e43_12, e43_13, e43_14, e43_17, e43_18, e43_19, e43_22, e43_23, e43_26, e43_29, e43_30, e43_31, e43_34, e43_35, e43_36, e43_39, e43_40, e43_43, e43_44, kf_0, ik_1, ik_2, ik_3, kf_8, ik_9, kf_10, ik_11, ik_28, ik_29, kf_30, ik_31, ik_48, ik_49, kf_50, kf_51, ik_52, ik_53, ik_54, kf_55, kf_56, ik_57, kf_58, ik_59, ik_60, ik_61, ik_62, ik_63, ik_64, ik_65, ik_66, ik_67, ik_68, ik_69, ik_70, ik_71, ik_72, ik_73, ik_74, rq_0_0, rq_0_1, rq_0_2, rq_0_3, rq_0_4, rq_0_5, rq_0_6, rq_0_7, rq_0_8, rq_8_0, rq_10_0, rq_10_1, rq_10_2, rq_30_0, rq_30_1, rq_30_2, rq_50_0, rq_51_0, rq_51_1, rq_51_2, rq_51_3, rq_51_4, rq_51_5, rq_56_0, rq_56_1, rq_56_2, rq_58_1, rq_58_3, rq_58_4, rq_58_5, rq_58_7, rq_58_8, rq_58_11, rq_58_12, rq_58_13, rq_58_14, rq_58_15, rq_58_25, rq_58_26, rq_58_29, rq_58_30, rq_58_31, rq_3, rq_11, rq_31, rq_law, rv_s, cl_i, cl_r, cl_n, tl_s, tl_n, kont_some, le4_0, le4_1, le4_2, le4_3, le4_4, eq_self, or_true, true_or, and_true, true_and, h8, Int32.lt_irrefl, ↓reduceIte]
  by_cases z1 : stN cd pg < 2 <;> by_cases z2 : stN cd pg = 5 <;> simp only [z1, z2, bi, ↓reduceIte, e43_0, e43_1, e43_2, e43_3, e43_5, e43_6, e43_9, e43_12, e43_13, e43_14, e43_17, e43_18, e43_19, e43_22, e43_23, e43_26, e43_29, e43_30, e43_31, e43_34, e43_35, e43_36, e43_39, e43_40, e43_43, e43_44, kf_0, ik_1, ik_2, ik_3, kf_8, ik_9, kf_10, ik_11, ik_28, ik_29, kf_30, ik_31, ik_48, ik_49, kf_50, kf_51, ik_52, ik_53, ik_54, kf_55, kf_56, ik_57, kf_58, ik_59, ik_60, ik_61, ik_62, ik_63, ik_64, ik_65, ik_66, ik_67, ik_68, ik_69, ik_70, ik_71, ik_72, ik_73, ik_74, rq_0_0, rq_0_1, rq_0_2, rq_0_3, rq_0_4, rq_0_5, rq_0_6, rq_0_7, rq_0_8, rq_8_0, rq_10_0, rq_10_1, rq_10_2, rq_30_0, rq_30_1, rq_30_2, rq_50_0, rq_51_0, rq_51_1, rq_51_2, rq_51_3, rq_51_4, rq_51_5, rq_56_0, rq_56_1, rq_56_2, rq_58_1, rq_58_3, rq_58_4, rq_58_5, rq_58_7, rq_58_8, rq_58_11, rq_58_12, rq_58_13, rq_58_14, rq_58_15, rq_58_25, rq_58_26, rq_58_29, rq_58_30, rq_58_31, rq_3, rq_11, rq_31, rq_law, rv_s, cl_i, cl_r, cl_n, tl_s, tl_n, kont_some, le4_0, le4_1, le4_2, le4_3, le4_4, eq_self, or_true, true_or, and_true, true_and, not_true_eq_false, not_false_eq_true, and_self, and_false, false_and, show ¬ ((5 : Int32) < 2) by decide]
theorem s35 {k : Nat} (x : Int32) (hk : k < 16) (hc : KF[c]? = some (.inr 3)) : run 35 [.ref c, .int (nI k), .int x] KF (rowL G c w) J R = some ((KF, rowL G c (tkU w k x), J, R), none) := by
  have k0 : (nI k = 0) = (k = 0) := propext (nI_eq (b := 0) (by omega) (by omega))
  have k1 : (nI k = 1) = (k = 1) := propext (nI_eq (b := 1) (by omega) (by omega))
  have p0 := fun v => rowL_p (G := G) (c := c) (w := w) (v := v) (show 0 < 5 by omega)
  have p1 := fun v => rowL_p (G := G) (c := c) (w := w) (v := v) (show 1 < 5 by omega)
  have p2 := fun v => rowL_p (G := G) (c := c) (w := w) (v := v) (show 2 < 5 by omega)
  have p3 := fun v => rowL_p (G := G) (c := c) (w := w) (v := v) (show 3 < 5 by omega)
  have p4 := fun v => rowL_p (G := G) (c := c) (w := w) (v := v) (show 4 < 5 by omega)
  have r4 := rowL_at (G := G) (c := c) (w := w) (show 4 < 5 by omega)
  rw [run_35]
  by_cases z0 : k = 0
  · simp only [e35_0, e35_1, e35_4, e35_5, e35_6, e35_9, e35_12, e35_13, e35_14, e35_17, e35_18, e35_19, e35_22, e35_25, e35_26, e35_28, e35_31, e35_32, e35_33, e35_36, e35_39, e35_40, e35_42, e35_45, e35_46, e35_47, e35_50, e35_53, e35_54, e35_55, e35_57, e35_60, e35_61, e35_64, e35_66, e35_67, e35_70, e35_71, e35_72, e35_73, e35_75, e35_76, e35_79, kf_0, ik_1, ik_2, ik_3, kf_8, ik_9, kf_10, ik_11, ik_28, ik_29, kf_30, ik_31, ik_48, ik_49, kf_50, kf_51, ik_52, ik_53, ik_54, kf_55, kf_56, ik_57, kf_58, ik_59, ik_60, ik_61, ik_62, ik_63, ik_64, ik_65, ik_66, ik_67, ik_68, ik_69, ik_70, ik_71, ik_72, ik_73, ik_74, rq_0_0, rq_0_1, rq_0_2, rq_0_3, rq_0_4, rq_0_5, rq_0_6, rq_0_7, rq_0_8, rq_8_0, rq_10_0, rq_10_1, rq_10_2, rq_30_0, rq_30_1, rq_30_2, rq_50_0, rq_51_0, rq_51_1, rq_51_2, rq_51_3, rq_51_4, rq_51_5, rq_56_0, rq_56_1, rq_56_2, rq_58_1, rq_58_3, rq_58_4, rq_58_5, rq_58_7, rq_58_8, rq_58_11, rq_58_12, rq_58_13, rq_58_14, rq_58_15, rq_58_25, rq_58_26, rq_58_29, rq_58_30, rq_58_31, rq_3, rq_11, rq_31, rq_law, rv_s, cl_i, cl_r, cl_n, tl_s, tl_n, kont_some, le4_0, le4_1, le4_2, le4_3, le4_4, eq_self, or_true, true_or, and_true, true_and, hc, nI_0, z0, p0, p1, p2, p3, p4, r4, ↓reduceIte, tkU]
  by_cases z1 : k = 1
  · simp only [e35_0, e35_1, e35_4, e35_5, e35_6, e35_9, e35_12, e35_13, e35_14, e35_17, e35_18, e35_19, e35_22, e35_25, e35_26, e35_28, e35_31, e35_32, e35_33, e35_36, e35_39, e35_40, e35_42, e35_45, e35_46, e35_47, e35_50, e35_53, e35_54, e35_55, e35_57, e35_60, e35_61, e35_64, e35_66, e35_67, e35_70, e35_71, e35_72, e35_73, e35_75, e35_76, e35_79, kf_0, ik_1, ik_2, ik_3, kf_8, ik_9, kf_10, ik_11, ik_28, ik_29, kf_30, ik_31, ik_48, ik_49, kf_50, kf_51, ik_52, ik_53, ik_54, kf_55, kf_56, ik_57, kf_58, ik_59, ik_60, ik_61, ik_62, ik_63, ik_64, ik_65, ik_66, ik_67, ik_68, ik_69, ik_70, ik_71, ik_72, ik_73, ik_74, rq_0_0, rq_0_1, rq_0_2, rq_0_3, rq_0_4, rq_0_5, rq_0_6, rq_0_7, rq_0_8, rq_8_0, rq_10_0, rq_10_1, rq_10_2, rq_30_0, rq_30_1, rq_30_2, rq_50_0, rq_51_0, rq_51_1, rq_51_2, rq_51_3, rq_51_4, rq_51_5, rq_56_0, rq_56_1, rq_56_2, rq_58_1, rq_58_3, rq_58_4, rq_58_5, rq_58_7, rq_58_8, rq_58_11, rq_58_12, rq_58_13, rq_58_14, rq_58_15, rq_58_25, rq_58_26, rq_58_29, rq_58_30, rq_58_31, rq_3, rq_11, rq_31, rq_law, rv_s, cl_i, cl_r, cl_n, tl_s, tl_n, kont_some, le4_0, le4_1, le4_2, le4_3, le4_4, eq_self, or_true, true_or, and_true, true_and, hc, z1, p0, p1, p2, p3, p4, r4, ↓reduceIte, tkU, show nI 1 = 1 by decide, show ¬ (1 = 0) by decide, show ¬ ((1 : Int32) = 0) by decide]
  by_cases z2 : x = 108
  · simp only [e35_0, e35_1, e35_4, e35_5, e35_6, e35_9, e35_12, e35_13, e35_14, e35_17, e35_18, e35_19, e35_22, e35_25, e35_26, e35_28, e35_31, e35_32, e35_33, e35_36, e35_39, e35_40, e35_42, e35_45, e35_46, e35_47, e35_50, e35_53, e35_54, e35_55, e35_57, e35_60, e35_61, e35_64, e35_66, e35_67, e35_70, e35_71, e35_72, e35_73, e35_75, e35_76, e35_79, kf_0, ik_1, ik_2, ik_3, kf_8, ik_9, kf_10, ik_11, ik_28, ik_29, kf_30, ik_31, ik_48, ik_49, kf_50, kf_51, ik_52, ik_53, ik_54, kf_55, kf_56, ik_57, kf_58, ik_59, ik_60, ik_61, ik_62, ik_63, ik_64, ik_65, ik_66, ik_67, ik_68, ik_69, ik_70, ik_71, ik_72, ik_73, ik_74, rq_0_0, rq_0_1, rq_0_2, rq_0_3, rq_0_4, rq_0_5, rq_0_6, rq_0_7, rq_0_8, rq_8_0, rq_10_0, rq_10_1, rq_10_2, rq_30_0, rq_30_1, rq_30_2, rq_50_0, rq_51_0, rq_51_1, rq_51_2, rq_51_3, rq_51_4, rq_51_5, rq_56_0, rq_56_1, rq_56_2, rq_58_1, rq_58_3, rq_58_4, rq_58_5, rq_58_7, rq_58_8, rq_58_11, rq_58_12, rq_58_13, rq_58_14, rq_58_15, rq_58_25, rq_58_26, rq_58_29, rq_58_30, rq_58_31, rq_3, rq_11, rq_31, rq_law, rv_s, cl_i, cl_r, cl_n, tl_s, tl_n, kont_some, le4_0, le4_1, le4_2, le4_3, le4_4, eq_self, or_true, true_or, and_true, true_and, hc, k0, k1, z0, z1, z2, p0, p1, p2, p3, p4, r4, ↓reduceIte, tkU]
  by_cases z3 : x = 103
  · simp only [e35_0, e35_1, e35_4, e35_5, e35_6, e35_9, e35_12, e35_13, e35_14, e35_17, e35_18, e35_19, e35_22, e35_25, e35_26, e35_28, e35_31, e35_32, e35_33, e35_36, e35_39, e35_40, e35_42, e35_45, e35_46, e35_47, e35_50, e35_53, e35_54, e35_55, e35_57, e35_60, e35_61, e35_64, e35_66, e35_67, e35_70, e35_71, e35_72, e35_73, e35_75, e35_76, e35_79, kf_0, ik_1, ik_2, ik_3, kf_8, ik_9, kf_10, ik_11, ik_28, ik_29, kf_30, ik_31, ik_48, ik_49, kf_50, kf_51, ik_52, ik_53, ik_54, kf_55, kf_56, ik_57, kf_58, ik_59, ik_60, ik_61, ik_62, ik_63, ik_64, ik_65, ik_66, ik_67, ik_68, ik_69, ik_70, ik_71, ik_72, ik_73, ik_74, rq_0_0, rq_0_1, rq_0_2, rq_0_3, rq_0_4, rq_0_5, rq_0_6, rq_0_7, rq_0_8, rq_8_0, rq_10_0, rq_10_1, rq_10_2, rq_30_0, rq_30_1, rq_30_2, rq_50_0, rq_51_0, rq_51_1, rq_51_2, rq_51_3, rq_51_4, rq_51_5, rq_56_0, rq_56_1, rq_56_2, rq_58_1, rq_58_3, rq_58_4, rq_58_5, rq_58_7, rq_58_8, rq_58_11, rq_58_12, rq_58_13, rq_58_14, rq_58_15, rq_58_25, rq_58_26, rq_58_29, rq_58_30, rq_58_31, rq_3, rq_11, rq_31, rq_law, rv_s, cl_i, cl_r, cl_n, tl_s, tl_n, kont_some, le4_0, le4_1, le4_2, le4_3, le4_4, eq_self, or_true, true_or, and_true, true_and, hc, k0, k1, z0, z1, z3, p0, p1, p2, p3, p4, r4, ↓reduceIte, tkU, show ¬ ((103 : Int32) = 108) by decide]
  by_cases z4 : x = 104
  · simp only [e35_0, e35_1, e35_4, e35_5, e35_6, e35_9, e35_12, e35_13, e35_14, e35_17, e35_18, e35_19, e35_22, e35_25, e35_26, e35_28, e35_31, e35_32, e35_33, e35_36, e35_39, e35_40, e35_42, e35_45, e35_46, e35_47, e35_50, e35_53, e35_54, e35_55, e35_57, e35_60, e35_61, e35_64, e35_66, e35_67, e35_70, e35_71, e35_72, e35_73, e35_75, e35_76, e35_79, kf_0, ik_1, ik_2, ik_3, kf_8, ik_9, kf_10, ik_11, ik_28, ik_29, kf_30, ik_31, ik_48, ik_49, kf_50, kf_51, ik_52, ik_53, ik_54, kf_55, kf_56, ik_57, kf_58, ik_59, ik_60, ik_61, ik_62, ik_63, ik_64, ik_65, ik_66, ik_67, ik_68, ik_69, ik_70, ik_71, ik_72, ik_73, ik_74, rq_0_0, rq_0_1, rq_0_2, rq_0_3, rq_0_4, rq_0_5, rq_0_6, rq_0_7, rq_0_8, rq_8_0, rq_10_0, rq_10_1, rq_10_2, rq_30_0, rq_30_1, rq_30_2, rq_50_0, rq_51_0, rq_51_1, rq_51_2, rq_51_3, rq_51_4, rq_51_5, rq_56_0, rq_56_1, rq_56_2, rq_58_1, rq_58_3, rq_58_4, rq_58_5, rq_58_7, rq_58_8, rq_58_11, rq_58_12, rq_58_13, rq_58_14, rq_58_15, rq_58_25, rq_58_26, rq_58_29, rq_58_30, rq_58_31, rq_3, rq_11, rq_31, rq_law, rv_s, cl_i, cl_r, cl_n, tl_s, tl_n, kont_some, le4_0, le4_1, le4_2, le4_3, le4_4, eq_self, or_true, true_or, and_true, true_and, hc, k0, k1, z0, z1, z4, p0, p1, p2, p3, p4, r4, ↓reduceIte, tkU, show ¬ ((104 : Int32) = 108) by decide, show ¬ ((104 : Int32) = 103) by decide]
  simp only [e35_0, e35_1, e35_4, e35_5, e35_6, e35_9, e35_12, e35_13, e35_14, e35_17, e35_18, e35_19, e35_22, e35_25, e35_26, e35_28, e35_31, e35_32, e35_33, e35_36, e35_39, e35_40, e35_42, e35_45, e35_46, e35_47, e35_50, e35_53, e35_54, e35_55, e35_57, e35_60, e35_61, e35_64, e35_66, e35_67, e35_70, e35_71, e35_72, e35_73, e35_75, e35_76, e35_79, kf_0, ik_1, ik_2, ik_3, kf_8, ik_9, kf_10, ik_11, ik_28, ik_29, kf_30, ik_31, ik_48, ik_49, kf_50, kf_51, ik_52, ik_53, ik_54, kf_55, kf_56, ik_57, kf_58, ik_59, ik_60, ik_61, ik_62, ik_63, ik_64, ik_65, ik_66, ik_67, ik_68, ik_69, ik_70, ik_71, ik_72, ik_73, ik_74, rq_0_0, rq_0_1, rq_0_2, rq_0_3, rq_0_4, rq_0_5, rq_0_6, rq_0_7, rq_0_8, rq_8_0, rq_10_0, rq_10_1, rq_10_2, rq_30_0, rq_30_1, rq_30_2, rq_50_0, rq_51_0, rq_51_1, rq_51_2, rq_51_3, rq_51_4, rq_51_5, rq_56_0, rq_56_1, rq_56_2, rq_58_1, rq_58_3, rq_58_4, rq_58_5, rq_58_7, rq_58_8, rq_58_11, rq_58_12, rq_58_13, rq_58_14, rq_58_15, rq_58_25, rq_58_26, rq_58_29, rq_58_30, rq_58_31, rq_3, rq_11, rq_31, rq_law, rv_s, cl_i, cl_r, cl_n, tl_s, tl_n, kont_some, le4_0, le4_1, le4_2, le4_3, le4_4, eq_self, or_true, true_or, and_true, true_and, hc, k0, k1, z0, z1, z2, z3, z4, p0, p1, p2, p3, p4, r4, ↓reduceIte, tkU]
theorem s45 {l : Nat} (hl : l < 4) (h8 : G 8 1 = nI pg) (hpg : pg ≤ 16) (hcd : ∀ i, i < pg → G 9 i = cd i) (h0 : ∀ s, s < 5 → G (4 + l) s = tkF s) : run 45 [.ref (8 : Nat), .ref (4 + l)] KF G J (RQ q) = some ((KF, rowL G (4 + l) (tkR cd pg), J, RQ q), none) := by
  have hc := kf_law hl
  have e0 : rowL G (4 + l) (tkR cd 0) = G := by
    funext a b
    unfold rowL
    split
    · next z => rw [z.1, h0 b z.2]; rfl
    · rfl
  have key : ev 45 2 [some (.ref (8 : Nat)), some (.ref (4 + l)), some (.int (nI 0))] [] KF (rowL G (4 + l) (tkR cd 0)) J (RQ q) = ev 45 2 [some (.ref (8 : Nat)), some (.ref (4 + l)), some (.int (nI pg))] [] KF (rowL G (4 + l) (tkR cd pg)) J (RQ q) := iter (fun i => ev 45 2 [some (.ref (8 : Nat)), some (.ref (4 + l)), some (.int (nI i))] [] KF (rowL G (4 + l) (tkR cd i)) J (RQ q)) pg (fun i hi => by
    have g0 := lt_nI hi (show pg < 2147483648 by omega)
    have g1 := inb_nI (show i < 16 by omega) (show 16 < 2147483648 by omega)
    have g2 := cl_nI (show i < 2147483648 by omega)
    have r8 : rowL G (4 + l) (tkR cd i) 8 1 = nI pg := by rw [rowL_ne (by omega)]; exact h8
    have r9 : rowL G (4 + l) (tkR cd i) 9 i = cd i := by rw [rowL_ne (by omega)]; exact hcd i hi
    rw [e45_2]
    simp only [e45_0, e45_1, e45_3, e45_4, e45_7, e45_10, e45_11, e45_12, e45_13, e45_16, e45_17, e45_18, e45_21, e45_24, e45_27, kf_0, ik_1, ik_2, ik_3, kf_8, ik_9, kf_10, ik_11, ik_28, ik_29, kf_30, ik_31, ik_48, ik_49, kf_50, kf_51, ik_52, ik_53, ik_54, kf_55, kf_56, ik_57, kf_58, ik_59, ik_60, ik_61, ik_62, ik_63, ik_64, ik_65, ik_66, ik_67, ik_68, ik_69, ik_70, ik_71, ik_72, ik_73, ik_74, rq_0_0, rq_0_1, rq_0_2, rq_0_3, rq_0_4, rq_0_5, rq_0_6, rq_0_7, rq_0_8, rq_8_0, rq_10_0, rq_10_1, rq_10_2, rq_30_0, rq_30_1, rq_30_2, rq_50_0, rq_51_0, rq_51_1, rq_51_2, rq_51_3, rq_51_4, rq_51_5, rq_56_0, rq_56_1, rq_56_2, rq_58_1, rq_58_3, rq_58_4, rq_58_5, rq_58_7, rq_58_8, rq_58_11, rq_58_12, rq_58_13, rq_58_14, rq_58_15, rq_58_25, rq_58_26, rq_58_29, rq_58_30, rq_58_31, rq_3, rq_11, rq_31, rq_law, rv_s, cl_i, cl_r, cl_n, tl_s, tl_n, kont_some, le4_0, le4_1, le4_2, le4_3, le4_4, eq_self, or_true, true_or, and_true, true_and, r8, g0, g1, g2, r9, hc, s35 _ (show i < 16 by omega) hc, ↓reduceIte, nI_1, tkR])
  rw [e0] at key
  have r8 : rowL G (4 + l) (tkR cd pg) 8 1 = nI pg := by rw [rowL_ne (by omega)]; exact h8
  rw [run_45]
  simp only [e45_0, e45_1, e45_3, e45_4, e45_7, e45_10, e45_11, e45_12, e45_13, e45_16, e45_17, e45_18, e45_21, e45_24, e45_27, kf_0, ik_1, ik_2, ik_3, kf_8, ik_9, kf_10, ik_11, ik_28, ik_29, kf_30, ik_31, ik_48, ik_49, kf_50, kf_51, ik_52, ik_53, ik_54, kf_55, kf_56, ik_57, kf_58, ik_59, ik_60, ik_61, ik_62, ik_63, ik_64, ik_65, ik_66, ik_67, ik_68, ik_69, ik_70, ik_71, ik_72, ik_73, ik_74, rq_0_0, rq_0_1, rq_0_2, rq_0_3, rq_0_4, rq_0_5, rq_0_6, rq_0_7, rq_0_8, rq_8_0, rq_10_0, rq_10_1, rq_10_2, rq_30_0, rq_30_1, rq_30_2, rq_50_0, rq_51_0, rq_51_1, rq_51_2, rq_51_3, rq_51_4, rq_51_5, rq_56_0, rq_56_1, rq_56_2, rq_58_1, rq_58_3, rq_58_4, rq_58_5, rq_58_7, rq_58_8, rq_58_11, rq_58_12, rq_58_13, rq_58_14, rq_58_15, rq_58_25, rq_58_26, rq_58_29, rq_58_30, rq_58_31, rq_3, rq_11, rq_31, rq_law, rv_s, cl_i, cl_r, cl_n, tl_s, tl_n, kont_some, le4_0, le4_1, le4_2, le4_3, le4_4, eq_self, or_true, true_or, and_true, true_and]
  refine key.trans ?_
  rw [e45_2]
  simp only [e45_0, e45_1, e45_3, e45_4, e45_7, e45_10, e45_11, e45_12, e45_13, e45_16, e45_17, e45_18, e45_21, e45_24, e45_27, kf_0, ik_1, ik_2, ik_3, kf_8, ik_9, kf_10, ik_11, ik_28, ik_29, kf_30, ik_31, ik_48, ik_49, kf_50, kf_51, ik_52, ik_53, ik_54, kf_55, kf_56, ik_57, kf_58, ik_59, ik_60, ik_61, ik_62, ik_63, ik_64, ik_65, ik_66, ik_67, ik_68, ik_69, ik_70, ik_71, ik_72, ik_73, ik_74, rq_0_0, rq_0_1, rq_0_2, rq_0_3, rq_0_4, rq_0_5, rq_0_6, rq_0_7, rq_0_8, rq_8_0, rq_10_0, rq_10_1, rq_10_2, rq_30_0, rq_30_1, rq_30_2, rq_50_0, rq_51_0, rq_51_1, rq_51_2, rq_51_3, rq_51_4, rq_51_5, rq_56_0, rq_56_1, rq_56_2, rq_58_1, rq_58_3, rq_58_4, rq_58_5, rq_58_7, rq_58_8, rq_58_11, rq_58_12, rq_58_13, rq_58_14, rq_58_15, rq_58_25, rq_58_26, rq_58_29, rq_58_30, rq_58_31, rq_3, rq_11, rq_31, rq_law, rv_s, cl_i, cl_r, cl_n, tl_s, tl_n, kont_some, le4_0, le4_1, le4_2, le4_3, le4_4, eq_self, or_true, true_or, and_true, true_and, r8, Int32.lt_irrefl, ↓reduceIte]
end PAGE
