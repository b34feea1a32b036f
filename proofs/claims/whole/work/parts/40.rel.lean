/-! the class and the model agree -/
def Rpe (G : SG) (np : Nat) : Prop := G 0 9 = nI np ∧ G 58 0 = nI np ∧ np ≤ 12
def Rnm (G : SG) : Prop := ∀ p, p < 12 → G 59 p = G 1 p
def Rfi (G : SG) (nf : Nat) : Prop := G 0 10 = nI nf ∧ G 58 2 = nI nf ∧ nf ≤ 6
def Rrt (G : SG) : Prop := ∀ f, f < 6 → G 60 f = G 2 f
def Rla (G : SG) (nl : Nat) : Prop := G 0 11 = nI nl ∧ G 58 10 = nI nl ∧ nl ≤ 4 ∧ (∀ l, l < nl → G 65 l = G (4 + l) 0 ∧ G 66 l = G (4 + l) 1 ∧ G 67 l = G (4 + l) 2 ∧ G 68 l = G (4 + l) 3 ∧ G 69 l = G (4 + l) 4) ∧ ∀ l, nl ≤ l → l < 4 → G (4 + l) 0 = 100 ∧ G (4 + l) 1 = 120 ∧ G (4 + l) 2 = 0 ∧ G (4 + l) 3 = 0 ∧ G (4 + l) 4 = 999
def Rpg (G : SG) (pg : Nat) : Prop := G 8 1 = nI pg ∧ G 58 9 = nI pg ∧ pg ≤ 16 ∧ ∀ i, i < pg → G 9 i = G 64 i ∧ ∃ c, c < 127 ∧ G 64 i = nI c
def Rdw (G : SG) (nf : Nat) : Prop := (∀ f, f < nf → G 61 f = G 28 f ∧ G 62 f = G 29 f) ∧ ∀ f, nf ≤ f → f < 6 → G 28 f = -1 ∧ G 29 f = 0
def WN (D : DT) (n np nf : Nat) : Prop := ∀ j, j < n → (∃ f, f < nf ∧ D j 1 = nI f) ∧ (∃ p, p < np ∧ D j 2 = nI p) ∧ (∃ p, p < np ∧ D j 3 = nI p) ∧ ¬ D j 5 < -1 ∧ ¬ 999 < D j 5 ∧ (D j 8 = 0 ∨ D j 8 = 1) ∧ ¬ D j 4 < 0
def Rde (G : SG) (n : Nat) (D : DT) (np nf : Nat) : Prop := HX G n D ∧ HM G n D ∧ WN D n np nf
def Rke (G : SG) (np nf : Nat) : Prop := (G 0 12 = 0 ∧ G 58 33 = -1) ∨ ∃ (kn kf : Nat) (E : DT), G 0 12 = 1 ∧ G 58 33 = nI kn ∧ G 30 3 = nI kn ∧ kn ≤ 16 ∧ G 58 32 = nI kf ∧ kf ≤ nf ∧ WN E kn np nf ∧ (∀ j a, j < kn → a < 10 → G (32 + j) a = E j a ∧ G 72 (10 * j + a) = E j a) ∧ (∀ f, f < kf → G 73 f = G 48 f ∧ G 74 f = G 49 f) ∧ ∀ f, kf ≤ f → f < 6 → G 48 f = -1 ∧ G 49 f = 0
def REL (G : SG) (np nf nl pg n : Nat) (D : DT) : Prop := Rpe G np ∧ Rnm G ∧ Rfi G nf ∧ Rrt G ∧ Rla G nl ∧ Rpg G pg ∧ Rdw G nf ∧ Rde G n D np nf ∧ Rke G np nf
def RELx (G : SG) : Prop := ∃ (np nf nl pg n : Nat) (D : DT), REL G np nf nl pg n D
section REL
variable {G G' S : SG} {J : SJ} {q np nf nl pg n : Nat} {D : DT}
theorem Rpe.c (h : Rpe G np) (e : ∀ c s, (c = 0 ∧ s = 9) ∨ (c = 58 ∧ s = 0) → G' c s = G c s) : Rpe G' np := by
  unfold Rpe at *
  rw [e 0 9 (by omega), e 58 0 (by omega)]
  exact h
theorem Rnm.c (h : Rnm G) (e : ∀ c s, c = 1 ∨ c = 59 → G' c s = G c s) : Rnm G' := fun p hp => by
  rw [e 59 p (by omega), e 1 p (by omega)]
  exact h p hp
theorem Rfi.c (h : Rfi G nf) (e : ∀ c s, (c = 0 ∧ s = 10) ∨ (c = 58 ∧ s = 2) → G' c s = G c s) : Rfi G' nf := by
  unfold Rfi at *
  rw [e 0 10 (by omega), e 58 2 (by omega)]
  exact h
theorem Rrt.c (h : Rrt G) (e : ∀ c s, c = 2 ∨ c = 60 → G' c s = G c s) : Rrt G' := fun p hp => by
  rw [e 60 p (by omega), e 2 p (by omega)]
  exact h p hp
theorem Rla.c (h : Rla G nl) (e : ∀ c s, (c = 0 ∧ s = 11) ∨ (c = 58 ∧ s = 10) ∨ (4 ≤ c ∧ c ≤ 7) ∨ (65 ≤ c ∧ c ≤ 69) → G' c s = G c s) : Rla G' nl := by
  obtain ⟨h1, h2, h3, h4, h5⟩ := h
  refine ⟨by rw [e 0 11 (by omega)]; exact h1, by rw [e 58 10 (by omega)]; exact h2, h3, fun l hl => ?_, fun l hl hl4 => ?_⟩
  · rw [e 65 l (by omega), e 66 l (by omega), e 67 l (by omega), e 68 l (by omega), e 69 l (by omega), e (4 + l) 0 (by omega), e (4 + l) 1 (by omega), e (4 + l) 2 (by omega), e (4 + l) 3 (by omega), e (4 + l) 4 (by omega)]
    exact h4 l hl
  · rw [e (4 + l) 0 (by omega), e (4 + l) 1 (by omega), e (4 + l) 2 (by omega), e (4 + l) 3 (by omega), e (4 + l) 4 (by omega)]
    exact h5 l hl hl4
theorem Rpg.c (h : Rpg G pg) (e : ∀ c s, (c = 8 ∧ s = 1) ∨ (c = 58 ∧ s = 9) ∨ c = 9 ∨ c = 64 → G' c s = G c s) : Rpg G' pg := by
  obtain ⟨h1, h2, h3, h4⟩ := h
  refine ⟨by rw [e 8 1 (by omega)]; exact h1, by rw [e 58 9 (by omega)]; exact h2, h3, fun i hi => ?_⟩
  rw [e 9 i (by omega), e 64 i (by omega)]
  exact h4 i hi
theorem Rdw.c (h : Rdw G nf) (e : ∀ c s, c = 28 ∨ c = 29 ∨ c = 61 ∨ c = 62 → G' c s = G c s) : Rdw G' nf := by
  refine ⟨fun f hf => ?_, fun f hf hf6 => ?_⟩
  · rw [e 61 f (by omega), e 62 f (by omega), e 28 f (by omega), e 29 f (by omega)]
    exact h.1 f hf
  · rw [e 28 f (by omega), e 29 f (by omega)]
    exact h.2 f hf hf6
theorem HX.c (h : HX G n D) (e : ∀ c s, (c = 10 ∧ s = 3) ∨ (12 ≤ c ∧ c ≤ 27) → G' c s = G c s) : HX G' n D := ⟨by rw [e 10 3 (by omega)]; exact h.1, h.2.1, fun j a hj ha => by rw [e (12 + j) a (by have := h.2.1; omega)]; exact h.2.2 j a hj ha⟩
theorem HM.c (h : HM G n D) (e : ∀ c s, (c = 58 ∧ s = 6) ∨ c = 63 → G' c s = G c s) : HM G' n D := ⟨by rw [e 58 6 (by omega)]; exact h.1, h.2.1, fun j a hj ha => by rw [e 63 (10 * j + a) (by omega)]; exact h.2.2 j a hj ha⟩
theorem Rde.c (h : Rde G n D np nf) (e : ∀ c s, (c = 10 ∧ s = 3) ∨ (12 ≤ c ∧ c ≤ 27) ∨ (c = 58 ∧ s = 6) ∨ c = 63 → G' c s = G c s) : Rde G' n D np nf := ⟨h.1.c (fun c s hc => e c s (by omega)), h.2.1.c (fun c s hc => e c s (by omega)), h.2.2⟩
theorem Rke.c (h : Rke G np nf) (e : ∀ c s, (c = 0 ∧ s = 12) ∨ (c = 58 ∧ (s = 32 ∨ s = 33)) ∨ (c = 30 ∧ s = 3) ∨ (32 ≤ c ∧ c ≤ 49) ∨ (72 ≤ c ∧ c ≤ 74) → G' c s = G c s) : Rke G' np nf := by
  rcases h with ⟨h1, h2⟩ | ⟨kn, kf, E, h1, h2, h3, h4, h5, h6, h7, h8, h9, h10⟩
  · exact Or.inl ⟨by rw [e 0 12 (by omega)]; exact h1, by rw [e 58 33 (by omega)]; exact h2⟩
  · refine Or.inr ⟨kn, kf, E, by rw [e 0 12 (by omega)]; exact h1, by rw [e 58 33 (by omega)]; exact h2, by rw [e 30 3 (by omega)]; exact h3, h4, by rw [e 58 32 (by omega)]; exact h5, h6, h7, fun j a hj ha => ?_, fun f hf => ?_, fun f hf hf6 => ?_⟩
    · rw [e (32 + j) a (by omega), e 72 (10 * j + a) (by omega)]
      exact h8 j a hj ha
    · rw [e 73 f (by omega), e 74 f (by omega), e 48 f (by omega), e 49 f (by omega)]
      exact h9 f hf
    · rw [e 48 f (by omega), e 49 f (by omega)]
      exact h10 f hf hf6
theorem WN.up {np' nf' : Nat} (h : WN D n np nf) (h1 : np ≤ np') (h2 : nf ≤ nf') : WN D n np' nf' := fun j hj => by
  obtain ⟨⟨f, hf, ef⟩, ⟨p, hp, ep⟩, ⟨t, ht, et⟩, hr⟩ := h j hj
  exact ⟨⟨f, by omega, ef⟩, ⟨p, by omega, ep⟩, ⟨t, by omega, et⟩, hr⟩
theorem Rke.up {np' nf' : Nat} (h : Rke G np nf) (h1 : np ≤ np') (h2 : nf ≤ nf') : Rke G np' nf' := by
  rcases h with h | ⟨kn, kf, E, a1, a2, a3, a4, a5, a6, a7, a8⟩
  · exact Or.inl h
  · exact Or.inr ⟨kn, kf, E, a1, a2, a3, a4, a5, by omega, a7.up h1 h2, a8⟩
theorem WN.wd (h : WN D n np nf) (h1 : np ≤ 12) (h2 : nf ≤ 6) : WD D n := fun j hj => by
  obtain ⟨⟨f, hf, ef⟩, ⟨p, hp, ep⟩, ⟨t, ht, et⟩, h5, h6, -⟩ := h j hj
  exact ⟨by rw [ef]; exact inb_nI (by omega) (by omega), by rw [ep]; exact inb_nI (by omega) (by omega), by rw [et]; exact inb_nI (by omega) (by omega), h5, h6⟩
/-- what REL speaks of is no scratch -/
theorem REL.mx (h : REL G np nf nl pg n D) : REL (mix G S) np nf nl pg n D := by
  have e : ∀ c s, scr c s = false → mix G S c s = G c s := fun c s hc => by rw [mix_at, hc]; rfl
  obtain ⟨a1, a2, a3, a4, a5, a6, a7, a8, a9⟩ := h
  refine ⟨a1.c (fun c s hc => e c s ?_), a2.c (fun c s hc => e c s ?_), a3.c (fun c s hc => e c s ?_), a4.c (fun c s hc => e c s ?_), a5.c (fun c s hc => e c s ?_), a6.c (fun c s hc => e c s ?_), a7.c (fun c s hc => e c s ?_), a8.c (fun c s hc => e c s ?_), a9.c (fun c s hc => e c s ?_)⟩ <;> simp [scr] <;> omega
theorem mix_self (G : SG) : mix G G = G := by
  funext c s
  simp [mix]
/-- the laws as the model keeps them -/
theorem REL.ha {l : Nat} (h : REL G np nf nl pg n D) (hl : l < nl) : HA G l n D (G (4 + l)) (G 28) (G 29) (G 1) := by
  obtain ⟨a1, a2, a3, a4, a5, a6, a7, a8, a9⟩ := h
  refine ⟨by have := a5.2.2.1; omega, a5.2.2.2.1 l hl, fun j hj => ?_, fun p hp => a2 p hp⟩
  obtain ⟨⟨f, hf, ef⟩, -⟩ := a8.2.2 j hj
  rw [ef, ix_nI (by have := a3.2.2; omega)]
  exact a7.1 f hf
/-- one operation: the same answer, and the agreement stays -/
def SAME (kx km : Nat) (as : List Value) : Prop := ∀ (G : SG) (J : SJ) (q : Nat), KF[q]? = some (.inr 3) → RELx G → ∃ (G1 G2 : SG) (J1 J2 : SJ) (q1 q2 : Nat) (v : Value), KF[q2]? = some (.inr 3) ∧ RELx G2 ∧ run kx (.ref (0 : Nat) :: as) KF G J (RQ q) = some ((KF, G1, J1, RQ q1), some v) ∧ run km (.ref (58 : Nat) :: as) KF G1 J1 (RQ q1) = some ((KF, G2, J2, RQ q2), some v)
theorem same_of {kx km : Nat} {as : List Value} (h : ∀ (G : SG) (J : SJ) (q np nf nl pg n : Nat) (D : DT), KF[q]? = some (.inr 3) → REL G np nf nl pg n D → ∃ (G1 G2 : SG) (J1 J2 : SJ) (q1 q2 : Nat) (v : Value), KF[q2]? = some (.inr 3) ∧ RELx G2 ∧ run kx (.ref (0 : Nat) :: as) KF G J (RQ q) = some ((KF, G1, J1, RQ q1), some v) ∧ run km (.ref (58 : Nat) :: as) KF G1 J1 (RQ q1) = some ((KF, G2, J2, RQ q2), some v)) : SAME kx km as := by
  rintro G J q hq ⟨np, nf, nl, pg, n, D, hR⟩
  exact h G J q np nf nl pg n D hq hR
end REL
