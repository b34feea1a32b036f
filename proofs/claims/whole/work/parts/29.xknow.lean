/-! on which knowing it hangs, in the class -/
section KNOW
variable {G S T : SG} {J : SJ} {q ql n c : Nat} {D D' : DT} {w dw sn N : Nat → Int32}
theorem fld9 (h : ∀ j a, a ≠ 9 → D' j a = D j a) (f : Int32) (j : Nat) : fldB D' f j = fldB D f j := by simp [fldB, h]
theorem cbf9 (h : ∀ j a, a ≠ 9 → D' j a = D j a) (j : Nat) : cbfB D' j = cbfB D j := by simp [cbfB, h]
theorem pas9 (h : ∀ j a, a ≠ 9 → D' j a = D j a) (j : Nat) : pasB D' j = pasB D j := by simp [pasB, h]
theorem ah9 (h : ∀ j a, a ≠ 9 → D' j a = D j a) (a b : Nat) : ahB D' a b = ahB D a b := by simp [ahB, h]
theorem last9 (h : ∀ j a, a ≠ 9 → D' j a = D j a) (u : Nat → Bool) (nm day : Int32) (i : Nat) : lastF D' u nm day i = lastF D u nm day i := by
  induction i with
  | zero => rfl
  | succ i ih =>
    unfold lastF
    rw [ih, pas9 h]
    have e : ldy D' (lastF D u nm day i) = ldy D (lastF D u nm day i) := by
      unfold ldy
      split <;> simp [h]
    rw [e, h i 7 (by omega), h i 5 (by omega)]
theorem gat9 (h : ∀ j a, a ≠ 9 → D' j a = D j a) (fm nm lo hi : Int32) : gatM D' fm nm lo hi n = gatM D fm nm lo hi n := by simp [gatM, h]
theorem srch9 (h : ∀ j a, a ≠ 9 → D' j a = D j a) (fm day : Int32) : ∀ (k : Nat) (nm hi u fo : Int32) (st : Nat), srch D' fm day n k nm hi u fo st = srch D fm day n k nm hi u fo st := by
  intro k
  induction k with
  | zero => intro nm hi u fo st; rfl
  | succ k ih =>
    intro nm hi u fo st
    unfold srch
    rw [last9 h]
    cases lastF D (bt u) nm day n with
    | none => simp only [gat9 h]
    | some d => simp only [gat9 h, ih, h d 6 (by omega), h d 5 (by omega)]
theorem fmx9 (h : ∀ j a, a ≠ 9 → D' j a = D j a) (f : Int32) : fmM D' n f = fmM D n f := by simp [fmM, fld9 h, cbf9 h]
theorem srF9 (h : ∀ j a, a ≠ 9 → D' j a = D j a) (f nm day : Int32) : srF D' n f nm day = srF D n f nm day := by
  unfold srF
  rw [fmx9 h, srch9 h]
theorem tld9 (h : ∀ j a, a ≠ 9 → D' j a = D j a) (b : Nat) : tldM w D' n dw sn N b = tldM w D n dw sn N b := by
  unfold tldM livM
  simp [fld9 h, cbf9 h, srF9 h, h]
theorem to9 (h : ∀ j a, a ≠ 9 → D' j a = D j a) (b : Nat) : toM w D' n dw sn N b = toM w D n dw sn N b := by
  unfold toM
  rw [tld9 h]
theorem ea9 (h : ∀ j a, a ≠ 9 → D' j a = D j a) (days : Int32) (a b : Nat) : eaB days D' a b = eaB days D a b := by simp [eaB, entC, h]
theorem ov9 (h : ∀ j a, a ≠ 9 → D' j a = D j a) (t : Int32) (a b : Nat) (h9 : bt (D' b 9) a = bt (D b 9) a) : ovrB w D' t a b = ovrB w D t a b := by
  unfold ovrB innB payB
  rw [ea9 h, b_or, b_or, h9, h b 0 (by omega)]
/-- one knowing turned over -/
abbrev flip9 (D : DT) (d k : Nat) : DT := up2 D d 9 (D d 9 ^^^ b1 k)
theorem flip9_ne (D : DT) (d k : Nat) : ∀ j a, a ≠ 9 → flip9 D d k j a = D j a := fun j a ha => by
  show up2 D d 9 (D d 9 ^^^ b1 k) j a = D j a
  rw [up2_at, if_neg (fun z => ha z.2)]
theorem prv9 {d k : Nat} (hk : k < 32) {y x : Nat} (hx : x ≠ y) (hp : ¬ (x = k ∧ y = d)) (hp2 : ¬ (x = d ∧ y = k)) (hx32 : x < 32) (hy32 : y < 32) : prvX w (flip9 D d k) n dw sn N y x = prvX w D n dw sn N y x := by
  have h := flip9_ne D d k
  have b9 : ∀ a b, ¬ (a = k ∧ b = d) → bt (flip9 D d k b 9) a = bt (D b 9) a := by
    intro a b hab
    show bt (up2 D d 9 (D d 9 ^^^ b1 k) b 9) a = _
    rw [up2_at]
    by_cases e : b = d
    · subst e
      rw [if_pos ⟨rfl, rfl⟩, b_xor, bt_b1 hk, decide_eq_false (fun z => hab ⟨z, rfl⟩), Bool.xor_false]
    · rw [if_neg (fun z => e z.1)]
  unfold prvX
  rw [ah9 h, to9 h, to9 h, ov9 h _ x y (b9 x y hp), ov9 h _ y x (b9 y x (fun z => hp2 ⟨z.2, z.1⟩))]
/-- the court as open leaves it -/
def crtOk (w : Nat → Int32) (D : DT) (n : Nat) (dw sn N : Nat → Int32) (f : Int32) (S : SG) : Prop := S 51 7 = dkM D n f ∧ rowsOk D n f (S 54) (prvX w D n dw sn N) ∧ (∀ x, x < n → fldB D f x = true → S 52 x = ahM D n (dkM D n f) x) ∧ (∀ x, x < n → fldB D f x = true → S 53 x = toM w D n dw sn N x)
theorem crt_opn {f : Int32} (hn : n ≤ 16) : crtOk w D n dw sn N f (opn w D n dw sn N f S) := ⟨opn_51, opn_rows hn, fun _ hx hd => opn_52 hn hx hd, fun _ hx hd => opn_53 hn hx hd⟩
/-- settling one pair by another table keeps the rows right for that table -/
theorem rows_set {f : Int32} {B : Nat → Int32} {d k : Nat} {pv pv' : Nat → Nat → Bool} (hn : n ≤ 16) (hB : rowsOk D n f B pv) (hd : d < n) (hk : k < n) (hdk : k ≠ d) (hfd : fldB D f d = true) (hfk : fldB D f k = true) (o : Bool) (h1 : pv' d k = o) (h2 : pv' k d = !o)
    (hpv : ∀ y x, x < n → y < n → x ≠ y → ¬ (x = k ∧ y = d) → ¬ (x = d ∧ y = k) → pv' y x = pv y x) : rowsOk D n f (setB B o k d) pv' := by
  intro x y hx hf hy
  rw [setB_bt hdk (by omega) (by omega) x hy]
  by_cases e1 : x = k ∧ y = d
  · obtain ⟨rfl, rfl⟩ := e1
    simp [hd, hfd, h1, Ne.symm hdk]
  · rw [if_neg e1]
    by_cases e2 : x = d ∧ y = k
    · obtain ⟨rfl, rfl⟩ := e2
      simp [hk, hfk, h2, hdk]
    · rw [if_neg e2, hB x y hx hf hy]
      by_cases hyn : y < n
      · by_cases hxy : y = x
        · simp [hxy]
        · rw [hpv y x hx hyn (fun z => hxy z.symm) e1 e2]
      · simp [hyn]
theorem row_w56 (S : SG) (B : Nat → Int32) (a b c d : Int32) (o : Nat → Int32) : w56 (row54 S B) a b c d o = row54 (w56 S a b c d o) B := by
  funext u v
  by_cases h : u = 54
  · subst h; rfl
  · by_cases h1 : u = 57
    · simp [w56, row54, h, h1]
    · by_cases h2 : u = 56 <;> simp [w56, row54, h, h1, h2]
theorem s57 {d k : Nat} {f : Int32} (root : Int32) (hX : HX G n D) (hl : KF[ql]? = some (.inr 3)) (hl5 : ql < 12) (hd : d < n) (hk : k < n) (hfd : fldB D f d = true) (hfk : fldB D f k = true) (hah : ahB D k d = true) (hC : crtOk (G ql) D n (G 28) (G 29) (G 1) f S) :
    ∃ S', run 57 [.ref (56 : Nat), .int (nI d), .int (nI k), .int root] KF (mix G S) J (RQ ql) = some ((KF, mix G S', J, RQ ql), some (.int (ownX (G ql) (flip9 D d k) n (G 28) (G 29) (G 1) f root))) ∧ crtOk (G ql) D n (G 28) (G 29) (G 1) f S' := by
  have h16 := hX.2.1
  obtain ⟨c1, c2, c3, c4⟩ := hC
  have hdk : k ≠ d := fun z => by rw [z, ah_irr] at hah; exact absurd hah (by simp)
  have g2 := inb_nI (show d < 16 by omega) (show 16 < 2147483648 by omega)
  have g3 := cl_nI (show d < 2147483648 by omega)
  have g4 := kf_deed (show d < 16 by omega)
  have g6 : d < 16 := by omega
  have m0 := fun (G S : SG) a => mix_low (G := G) (S := S) (c := 12 + d) (s := a) (by omega)
  have d9 := hX.2.2 d 9 hd (by omega)
  have hX' : HX (up2 G (12 + d) 9 (D d 9 ^^^ b1 k)) n (flip9 D d k) := HX_up hX hd
  have hb := up2_back (v := D d 9 ^^^ b1 k) hX hd (a := 9) (by omega)
  have r1 : up2 G (12 + d) 9 (D d 9 ^^^ b1 k) ql = G ql := up2_ne (by omega)
  have t1 : S 53 d = toM (G ql) D n (G 28) (G 29) (G 1) d := c4 d hd hfd
  have s1 := s9 (J := J) (q := ql) (S := S) (B := S 54) hX' hk hd hl (by omega)
  rw [row54_self, r1] at s1
  have f1 := s51 (J := J) (q := ql) (S := row54 S (setB (S 54) (ovrB (G ql) (flip9 D d k) (S 53 d) k d) k d)) root hX'
  have hrow : rowsOk D n f (setB (S 54) (ovrB (G ql) (flip9 D d k) (S 53 d) k d) k d) (prvX (G ql) (flip9 D d k) n (G 28) (G 29) (G 1)) := by
    refine rows_set h16 c2 hd hk hdk hfd hfk _ ?_ ?_ (fun y x hx hy hxy e1 e2 => prv9 (by omega) hxy e1 e2 (by omega) (by omega))
    · unfold prvX
      rw [ah9 (flip9_ne D d k), hah, if_pos rfl, to9 (flip9_ne D d k), t1]
    · unfold prvX
      rw [ah9 (flip9_ne D d k), ah_not hah, if_neg (by simp), to9 (flip9_ne D d k), t1]
  have hrow' : rowsOk (flip9 D d k) n f (setB (S 54) (ovrB (G ql) (flip9 D d k) (S 53 d) k d) k d) (prvX (G ql) (flip9 D d k) n (G 28) (G 29) (G 1)) := by
    intro x y hx hf hy
    rw [fld9 (flip9_ne D d k)] at hf ⊢
    exact hrow x y hx hf hy
  have hdk9 : dkM (flip9 D d k) n f = dkM D n f := by simp [dkM, fld9 (flip9_ne D d k)]
  have eo : (folF (flip9 D d k) n (row54 S (setB (S 54) (ovrB (G ql) (flip9 D d k) (S 53 d) k d) k d)) root).1 = ownX (G ql) (flip9 D d k) n (G 28) (G 29) (G 1) f root := by
    unfold folF
    rw [row54_51, c1, ← hdk9]
    rw [show row54 S (setB (S 54) (ovrB (G ql) (flip9 D d k) (S 53 d) k d) k d) 54 = setB (S 54) (ovrB (G ql) (flip9 D d k) (S 53 d) k d) k d from rfl, fol_eq h16 hrow', folP_list]
    rfl
  have fs : folS (flip9 D d k) n root (row54 S (setB (S 54) (ovrB (G ql) (flip9 D d k) (S 53 d) k d) k d)) = row54 (w56 S (ownX (G ql) (flip9 D d k) n (G 28) (G 29) (G 1) f root) (folF (flip9 D d k) n (row54 S (setB (S 54) (ovrB (G ql) (flip9 D d k) (S 53 d) k d) k d)) root).2.1 (folF (flip9 D d k) n (row54 S (setB (S 54) (ovrB (G ql) (flip9 D d k) (S 53 d) k d) k d)) root).2.2.1 (nI (folF (flip9 D d k) n (row54 S (setB (S 54) (ovrB (G ql) (flip9 D d k) (S 53 d) k d) k d)) root).2.2.2.1) (folF (flip9 D d k) n (row54 S (setB (S 54) (ovrB (G ql) (flip9 D d k) (S 53 d) k d) k d)) root).2.2.2.2) (setB (S 54) (ovrB (G ql) (flip9 D d k) (S 53 d) k d) k d) := by
    unfold folS
    rw [row_w56, eo]
  rw [fs] at f1
  have hfin : rowsOk D n f (setB (setB (S 54) (ovrB (G ql) (flip9 D d k) (S 53 d) k d) k d) (ovrB (G ql) D (S 53 d) k d) k d) (prvX (G ql) D n (G 28) (G 29) (G 1)) := by
    refine rows_set h16 hrow hd hk hdk hfd hfk _ ?_ ?_ (fun y x hx hy hxy e1 e2 => (prv9 (by omega) hxy e1 e2 (by omega) (by omega)).symm)
    · unfold prvX
      rw [hah, if_pos rfl, t1]
    · unfold prvX
      rw [ah_not hah, if_neg (by simp), t1]
  generalize (folF (flip9 D d k) n (row54 S (setB (S 54) (ovrB (G ql) (flip9 D d k) (S 53 d) k d) k d)) root).2.1 = x1 at f1
  generalize (folF (flip9 D d k) n (row54 S (setB (S 54) (ovrB (G ql) (flip9 D d k) (S 53 d) k d) k d)) root).2.2.1 = x2 at f1
  generalize (nI (folF (flip9 D d k) n (row54 S (setB (S 54) (ovrB (G ql) (flip9 D d k) (S 53 d) k d) k d)) root).2.2.2.1) = x3 at f1
  generalize (folF (flip9 D d k) n (row54 S (setB (S 54) (ovrB (G ql) (flip9 D d k) (S 53 d) k d) k d)) root).2.2.2.2 = x4 at f1
  generalize setB (S 54) (ovrB (G ql) (flip9 D d k) (S 53 d) k d) k d = B1 at *
  have s2' := s9 (J := J) (q := ql) (S := w56 S (ownX (G ql) (flip9 D d k) n (G 28) (G 29) (G 1) f root) x1 x2 x3 x4) (B := B1) hX hk hd hl (by omega)
  rw [w56_53] at s2'
  refine ⟨row54 (w56 S (ownX (G ql) (flip9 D d k) n (G 28) (G 29) (G 1) f root) x1 x2 x3 x4) (setB B1 (ovrB (G ql) D (S 53 d) k d) k d), ?_, ?_⟩
  · rw [run_57]
    have e56 : row54 (w56 S (ownX (G ql) (flip9 D d k) n (G 28) (G 29) (G 1) f root) x1 x2 x3 x4) (setB B1 (ovrB (G ql) D (S 53 d) k d) k d) 56 3 = ownX (G ql) (flip9 D d k) n (G 28) (G 29) (G 1) f root := rfl
    simp only [e57_0, e57_1, e57_4, e57_7, e57_8, e57_9, e57_11, e57_13, e57_16, e57_18, e57_20, e57_22, e57_23, e57_26, e57_27, e57_30, e57_31, e57_34, e57_35, e57_36, e57_39, e57_40, e57_41, e57_44, e57_46, e57_48, e57_51, e57_52, e57_55, e57_56, e57_57, e57_60, e57_61, e57_64, kf_0, ik_1, ik_2, ik_3, kf_8, ik_9, kf_10, ik_11, ik_28, ik_29, kf_30, ik_31, ik_48, ik_49, kf_50, kf_51, ik_52, ik_53, ik_54, kf_55, kf_56, ik_57, kf_58, ik_59, ik_60, ik_61, ik_62, ik_63, ik_64, ik_65, ik_66, ik_67, ik_68, ik_69, ik_70, ik_71, ik_72, ik_73, ik_74, rq_0_0, rq_0_1, rq_0_2, rq_0_3, rq_0_4, rq_0_5, rq_0_6, rq_0_7, rq_0_8, rq_8_0, rq_10_0, rq_10_1, rq_10_2, rq_30_0, rq_30_1, rq_30_2, rq_50_0, rq_51_0, rq_51_1, rq_51_2, rq_51_3, rq_51_4, rq_51_5, rq_56_0, rq_56_1, rq_56_2, rq_58_1, rq_58_3, rq_58_4, rq_58_5, rq_58_7, rq_58_8, rq_58_11, rq_58_12, rq_58_13, rq_58_14, rq_58_15, rq_58_25, rq_58_26, rq_58_29, rq_58_30, rq_58_31, rq_3, rq_11, rq_31, rq_law, rv_s, cl_i, cl_r, cl_n, tl_s, tl_n, kont_some, le4_0, le4_1, le4_2, le4_3, le4_4, eq_self, or_true, true_or, and_true, true_and, mg_0, pg_0, mg_1, pg_1, mg_2, pg_2, mg_8, pg_8, mg_9, pg_9, mg_10, pg_10, mg_28, pg_28, mg_29, pg_29, mg_30, pg_30, mg_48, pg_48, mg_49, pg_49, mg_59, pg_59, mg_60, pg_60, mg_61, pg_61, mg_62, pg_62, mg_63, pg_63, mg_64, pg_64, mg_65, pg_65, mg_66, pg_66, mg_67, pg_67, mg_68, pg_68, mg_69, pg_69, mg_72, pg_72, mg_73, pg_73, mg_74, pg_74, ms_50, ps_50, ms_51, ps_51, ms_52, ps_52, ms_53, ps_53, ms_54, ps_54, ms_56, ps_56, ms_57, ps_57, ms_70, ps_70, ms_71, ps_71, mg_58_0, pg_58_0, mg_58_2, pg_58_2, mg_58_6, pg_58_6, mg_58_9, pg_58_9, mg_58_10, pg_58_10, ms_58_16, ps_58_16, ms_58_17, ps_58_17, ms_58_18, ps_58_18, ms_58_19, ps_58_19, ms_58_20, ps_58_20, ms_58_21, ps_58_21, ms_58_22, ps_58_22, ms_58_23, ps_58_23, ms_58_24, ps_58_24, ms_58_27, ps_58_27, ms_58_28, ps_58_28, mg_58_32, pg_58_32, mg_58_33, pg_58_33, g2, g3, g4, m0, d9, s100, b1_eq, low_pg g6, s1, f1, hb, s2', e56]
  · exact ⟨c1, hfin, c3, c4⟩
end KNOW
