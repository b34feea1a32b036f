/-! what a method answers is of its kind; the world at the start -/
section SHAPE
variable {k pc : Nat} {L : LV} {st : List Value} {K : List KD} {G : SG} {J : SJ} {R : SR} {r : RES}
def shp (k : Nat) (v : Option Value) : Prop := (mret k = some .int → ∃ w, v = some (.int w)) ∧ (mret k = some .long → ∃ w, v = some (.long w))
theorem stepJ_ret {ins : Instr} (h : stepJ k ins pc L st K G J R = some (.inr (.inl r))) : shp k r.2 := by
  cases ins
  case ireturn =>
    simp only [stepJ] at h
    split at h
    · obtain ⟨hc, h⟩ := if_some h
      cases h
      refine ⟨fun _ => ⟨_, rfl⟩, fun z => ?_⟩
      rw [z] at hc
      rcases hc with hc | ⟨hc, -⟩ <;> cases hc
    · cases h
  case lreturn =>
    simp only [stepJ] at h
    split at h
    · obtain ⟨hc, h⟩ := if_some h
      cases h
      refine ⟨fun z => ?_, fun _ => ⟨_, rfl⟩⟩
      rw [z] at hc
      cases hc
    · cases h
  case return_ =>
    simp only [stepJ] at h
    split at h
    · obtain ⟨hc, h⟩ := if_some h
      cases h
      refine ⟨fun z => ?_, fun z => ?_⟩ <;> (rw [z] at hc; cases hc)
    · cases h
  all_goals exfalso
  all_goals simp only [stepJ, popI, popL, popR, popV, gI, gL, gR, set1, set2, jp, bI, bL, nx, calA] at h
  all_goals (repeat' split at h)
  all_goals cases h
theorem exec_ret : ∀ (n : Nat) {pc : Nat} {L : LV} {st : List Value} {K : List KD} {G : SG} {J : SJ} {R : SR} {r : RES}, exec n k pc L st K G J R = some r → shp k r.2 := by
  intro n
  induction n with
  | zero => intro pc L st K G J R r h; cases h
  | succ n ih =>
    intro pc L st K G J R r h
    rw [exec] at h
    cases hs : stepI k pc L st K G J R with
    | none => rw [hs] at h; cases h
    | some a =>
      rw [hs] at h
      obtain ⟨ins, len, hd, hl, hj⟩ := stepI_inv hs
      obtain ⟨⟨pc', L', st'⟩, K', G', J', R'⟩ | r' | ⟨k', as, pc', L', st'⟩ := a
      · exact ih h
      · cases h
        exact stepJ_ret hj
      · dsimp only at h
        cases hc : exec n k' 0 (entL (mL k') as) [] K G J R with
        | none => rw [hc] at h; cases h
        | some q =>
          obtain ⟨⟨K', G', J', R'⟩, v⟩ := q
          rw [hc] at h
          exact ih h
theorem run_ret {as : List Value} (h : run k as K G J R = some r) : shp k r.2 := by
  obtain ⟨n, h⟩ := ev_some.mp h
  exact exec_ret n h
end SHAPE
theorem arrV_congr {cA : ClassId} {n : Nat} {f g : Nat → Value} (h : ∀ j, j < n → f j = g j) : arrV cA n f = arrV cA n g := by
  unfold arrV
  have e : (fun j : Fin n => f j.val) = (fun j : Fin n => g j.val) := funext (fun j => h j.val j.isLt)
  rw [e]
theorem eqR_at {R : SR} (h : eqR R = true) {c : Nat} {kd : KD} (hk : KF[c]? = some kd) : (match kd with
    | .inr ci => (List.range (cN ci)).all (fun s => match cTy ci s with
      | .object _ => decide (R c s = RQ 55 c s)
      | .array _ => decide (R c s = RQ 55 c s)
      | _ => true)
    | .inl q => decide (q.1 < 2) || (List.range q.2).all (fun j => decide (R c j = RQ 55 c j))) = true := by
  unfold eqR at h
  rw [List.all_eq_true] at h
  have hc : c < 75 := (List.getElem?_eq_some_iff.mp hk).1
  have := h c (List.mem_range.mpr hc)
  rw [hk] at this
  cases kd <;> exact this
theorem Rp_R {D : va_G} {dA : Nat → ClassId} {sz : Nat} {G : SG} {J : SJ} {R : SR} {H : Heap} (hP : Rp D dA sz KF G J R H) (h : eqR R = true) : Rp D dA sz KF G J (RQ 55) H := by
  refine ⟨fun c q hq => ?_, hP.2⟩
  have hlen : c < KF.length := by
    have := (List.getElem?_eq_some_iff.mp hq).1
    unfold wld at this
    rwa [List.length_mapIdx] at this
  obtain ⟨kd, hk⟩ : ∃ kd, KF[c]? = some kd := ⟨_, List.getElem?_eq_getElem hlen⟩
  rw [wld_at hk] at hq
  cases hq
  have h1 := hP.1 c _ (wld_at hk)
  have h2 := eqR_at h hk
  cases kd with
  | inl q =>
    dsimp only at h2
    unfold ent at h1 ⊢
    dsimp only at h1 ⊢
    by_cases z : q.1 < 2
    · rw [if_pos z] at h1 ⊢
      exact h1
    · rw [if_neg z] at h1 ⊢
      rw [decide_eq_false z, Bool.false_or, List.all_eq_true] at h2
      have e : vp_cell (dA q.1) (q.2, .inr (.inr (.inr (.inr (fun j => (R c j).map (fun a => sz + a)))))) = vp_cell (dA q.1) (q.2, .inr (.inr (.inr (.inr (fun j => (RQ 55 c j).map (fun a => sz + a)))))) := by
        rw [vp_cell_q, vp_cell_q]
        refine arrV_congr (fun j hj => ?_)
        have := h2 j (List.mem_range.mpr hj)
        rw [decide_eq_true_eq] at this
        rw [this]
      unfold va_at at h1 ⊢
      dsimp only at h1 ⊢
      rw [← e]
      exact h1
  | inr ci =>
    dsimp only at h2
    have e : ent dA sz G J R c (.inr ci) = ent dA sz G J (RQ 55) c (.inr ci) := by
      unfold ent
      dsimp only
      congr 2
      refine List.map_congr_left (fun s hs => ?_)
      rw [List.all_eq_true] at h2
      have h3 := h2 s hs
      unfold fv
      generalize cTy ci s = ty at h3 ⊢
      cases ty <;> first | rfl | (dsimp only at h3 ⊢; rw [decide_eq_true_eq] at h3; rw [h3])
    rw [← e]
    exact h1
theorem ini_spec : ∃ (K1 : List KD) (G1 : SG) (J1 : SJ) (R1 : SR) (G2 : SG) (J2 : SJ) (R2 : SR), exec 700 58 0 (entL (mL 58) [.ref (0 : Nat)]) [] [.inr 7] (zr (fun _ _ => 0) 0 0) (zr (fun _ _ => 0) 0 0) (zr (fun _ _ => none) 0 none) = some ((K1, G1, J1, R1), none) ∧ K1.length = 58 ∧ exec 300 103 0 (entL (mL 103) [.ref (58 : Nat)]) [] (K1 ++ [.inr 8]) (zr G1 58 0) (zr J1 58 0) (zr R1 58 none) = some ((KF, G2, J2, R2), none) ∧ relP G2 ∧ eqR R2 = true := by
  have h := iniB_ok
  unfold iniB at h
  cases h1 : ini1 with
  | none => rw [h1] at h; cases h
  | some r1 =>
    cases h2 : ini2 with
    | none => rw [h1, h2] at h; cases h
    | some r2 =>
      rw [h1, h2] at h
      dsimp only at h
      simp only [Bool.and_eq_true, decide_eq_true_eq] at h
      obtain ⟨⟨⟨⟨⟨c1, c2⟩, c3⟩, c4⟩, c5⟩, c6⟩ := h
      obtain ⟨⟨K1, G1, J1, R1⟩, v1⟩ := r1
      obtain ⟨⟨K2, G2, J2, R2⟩, v2⟩ := r2
      have e2 : exec 300 103 0 (entL (mL 103) [.ref (58 : Nat)]) [] (K1 ++ [.inr 8]) (zr G1 58 0) (zr J1 58 0) (zr R1 58 none) = some ((K2, G2, J2, R2), v2) := by
        unfold ini2 at h2
        rw [h1] at h2
        exact h2
      dsimp only at c1 c2 c3 c4 c5 c6
      rw [Option.isNone_iff_eq_none] at c2 c4
      subst c2
      subst c4
      subst c3
      exact ⟨K1, G1, J1, R1, G2, J2, R2, h1, c1, e2, relB_P c5, c6⟩
theorem rel_ini {G : SG} (h : relP G) : RELx G := by
  obtain ⟨h1, h2, h3, h4, h5, h6, h7, h8, h9, h10, h11, h12, h13, h14, h15, h16⟩ := h
  refine ⟨0, 0, 0, 0, 0, fun _ _ => 0, ⟨h1, h2, by omega⟩, h3, ⟨h4, h5, by omega⟩, h6, ⟨h7, h8, by omega, fun l hl => absurd hl (by omega), fun l _ hl => h9 l hl⟩, ⟨h10, h11, by omega, fun i hi => absurd hi (by omega)⟩, ⟨fun f hf => absurd hf (by omega), fun f _ hf => h12 f hf⟩, ⟨⟨h13, by omega, fun j a hj => absurd hj (by omega)⟩, ⟨h14, by omega, fun j a hj => absurd hj (by omega)⟩, fun j hj => absurd hj (by omega)⟩, Or.inl ⟨h15, h16⟩⟩
