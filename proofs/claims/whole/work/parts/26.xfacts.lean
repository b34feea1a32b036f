/-! what the court's rows say, without the machine -/
section FACTS
variable {w : Nat → Int32} {D : DT} {n : Nat} {dw sn N : Nat → Int32} {S : SG}
theorem ah_irr (a : Nat) : ahB D a a = false := by simp [ahB, Int32.lt_irrefl]
theorem i32_asymm {x y : Int32} (h : x < y) : ¬ y < x := fun z => by
  have h1 := Int32.lt_iff_toInt_lt.mp h
  have h2 := Int32.lt_iff_toInt_lt.mp z
  omega
theorem i32_tri (x y : Int32) : x < y ∨ x = y ∨ y < x := by
  rcases Int.lt_trichotomy x.toInt y.toInt with h | h | h
  · exact Or.inl (Int32.lt_iff_toInt_lt.mpr h)
  · exact Or.inr (Or.inl (Int32.toInt_inj.mp h))
  · exact Or.inr (Or.inr (Int32.lt_iff_toInt_lt.mpr h))
theorem ah_not {a b : Nat} (h : ahB D a b = true) : ahB D b a = false := by
  simp only [ahB, decide_eq_true_eq, decide_eq_false_iff_not] at *
  rcases h with h | ⟨h1, h2⟩
  · rintro (h' | ⟨h3, -⟩)
    · exact i32_asymm h h'
    · rw [h3] at h; exact Int32.lt_irrefl h
  · rintro (h' | ⟨h3, h4⟩)
    · rw [h1] at h'; exact Int32.lt_irrefl h'
    · omega
theorem ah_tot {a b : Nat} (h : a ≠ b) : ahB D a b = true ∨ ahB D b a = true := by
  simp only [ahB, decide_eq_true_eq]
  rcases i32_tri (D a 4) (D b 4) with h1 | h1 | h1
  · exact Or.inl (Or.inl h1)
  · rcases Nat.lt_or_gt_of_ne h with h2 | h2
    · exact Or.inl (Or.inr ⟨h1, h2⟩)
    · exact Or.inr (Or.inr ⟨h1.symm, h2⟩)
  · exact Or.inr (Or.inl h1)
theorem setB_bt {B : Nat → Int32} {o : Bool} {a b : Nat} (hab : a ≠ b) (ha : a < 32) (hb : b < 32) (x : Nat) {y : Nat} (hy : y < 32) : bt (setB B o a b x) y = if x = a ∧ y = b then o else if x = b ∧ y = a then !o else bt (B x) y := by
  unfold setB
  cases o
  · simp only [Bool.false_eq_true, ↓reduceIte]
    by_cases h1 : x = b
    · subst h1
      have h2 : ¬ x = a := fun z => hab z.symm
      simp only [upd, ↓reduceIte, h2, false_and, true_and, Bool.not_false]
      rw [b_or, bt_b1 ha]
      by_cases h3 : y = a <;> simp [h3]
    · by_cases h2 : x = a
      · subst h2
        simp only [upd, h1, ↓reduceIte, true_and, false_and]
        rw [b_and, bt_not hy, bt_b1 hb]
        by_cases h3 : y = b <;> simp [h3]
      · simp [upd, h1, h2]
  · simp only [↓reduceIte]
    by_cases h1 : x = b
    · subst h1
      have h2 : ¬ x = a := fun z => hab z.symm
      simp only [upd, ↓reduceIte, h2, false_and, true_and, Bool.not_true]
      rw [b_and, bt_not hy, bt_b1 ha]
      by_cases h3 : y = a <;> simp [h3]
    · by_cases h2 : x = a
      · subst h2
        simp only [upd, h1, ↓reduceIte, true_and, false_and]
        rw [b_or, bt_b1 hb]
        by_cases h3 : y = b <;> simp [h3]
      · simp [upd, h1, h2]
theorem op1_at {dk : Int32} (hn : n ≤ 16) : ∀ (i x : Nat), x < i → bt dk x = true → op1 w D n dw sn N dk S i 52 x = ahM D n dk x ∧ op1 w D n dw sn N dk S i 53 x = toM w D n dw sn N x ∧ op1 w D n dw sn N dk S i 54 x = 0 := by
  intro i
  induction i with
  | zero => intro x hx; omega
  | succ i ih =>
    intro x hx hd
    unfold op1
    by_cases hxi : x = i
    · subst hxi
      simp only [hd, ↓reduceIte]
      refine ⟨?_, ?_, ?_⟩
      · rw [up2_at, up2_at, toS_ne (by omega), up2_at]
        simp
      · rw [up2_at, up2_at]
        simp
      · rw [up2_at]
        simp
    · obtain ⟨h1, h2, h3⟩ := ih x (by omega) hd
      by_cases hb : bt dk i = true
      · simp only [hb, ↓reduceIte]
        refine ⟨?_, ?_, ?_⟩
        · rw [up2_at, up2_at, toS_ne (by omega), up2_at]
          simp [hxi, h1]
        · rw [up2_at, up2_at, toS_ne (by omega), up2_at]
          simp [hxi, h2]
        · rw [up2_at, up2_at, toS_ne (by omega), up2_at]
          simp [hxi, h3]
      · simp only [hb, Bool.false_eq_true, ↓reduceIte]
        exact ⟨h1, h2, h3⟩
/-- bits of the rows when the pairs (a, b), a made ahead of b, with pr a b are settled; ov a b: b prevails -/
def matB (D : DT) (n : Nat) (dk : Int32) (ov : Nat → Nat → Bool) (pr : Nat → Nat → Bool) (x y : Nat) : Bool := decide (y < n) && bt dk y && (if ahB D x y = true then pr x y && ov x y else ahB D y x && pr y x && !ov y x)
theorem op2i_at {dk : Int32} {T : SG} {b : Nat} {B : Nat → Int32} {ov : Nat → Nat → Bool} (hn : n ≤ 16) (hb : b < n) (hov : ∀ a, bt dk b = true → ov a b = ovrB w D (T 53 b) a b) (h52 : bt dk b = true → T 52 b = ahM D n dk b)
    (hB : ∀ x y, x < n → bt dk x = true → y < 32 → bt (B x) y = matB D n dk ov (fun _ b' => decide (b' < b)) x y) : ∀ (i : Nat), i ≤ n → ∀ x y, x < n → bt dk x = true → y < 32 → bt (op2i w D dk T b B i x) y = matB D n dk ov (fun a' b' => decide (b' < b) || (decide (b' = b) && decide (a' < i))) x y := by
  intro i
  induction i with
  | zero =>
    intro _ x y hx hd hy
    rw [show op2i w D dk T b B 0 x = B x from rfl, hB x y hx hd hy]
    simp [matB]
  | succ i ih =>
    intro hi x y hx hd hy
    have IH := ih (by omega)
    unfold op2i
    by_cases hdb : bt dk b = true
    · rw [h52 hdb]
      have ea : bt (ahM D n dk b) i = (bt dk i && ahB D i b) := by
        unfold ahM
        rw [bt_msk (by omega)]
        simp [show i < n by omega]
      rw [ea]
      by_cases hc : bt dk i = true ∧ ahB D i b = true
      · have hib : i ≠ b := fun z => by rw [z, ah_irr] at hc; exact absurd hc.2 (by simp)
        rw [if_pos ⟨hdb, by simp [hc]⟩, setB_bt hib (by omega) (by omega) x hy, IH x y hx hd hy]
        have hov' := hov i hdb
        by_cases h1 : x = i ∧ y = b
        · obtain ⟨rfl, rfl⟩ := h1
          simp [matB, hc.2, hb, hdb, hov']
        · by_cases h2 : x = b ∧ y = i
          · obtain ⟨rfl, rfl⟩ := h2
            simp [matB, hc.1, hc.2, ah_not hc.2, show y < n by omega, hov', hib]
          · rw [if_neg h1, if_neg h2]
            unfold matB
            by_cases hxy : ahB D x y = true
            · simp only [hxy, ↓reduceIte]
              have : (y = b ∧ x < i) ↔ (y = b ∧ x < i + 1) := by
                constructor
                · rintro ⟨e1, e2⟩; exact ⟨e1, by omega⟩
                · rintro ⟨e1, e2⟩
                  refine ⟨e1, ?_⟩
                  rcases Nat.lt_or_ge x i with q | q
                  · exact q
                  · exact absurd ⟨by omega, e1⟩ h1
              have e3 : (decide (y = b) && decide (x < i)) = (decide (y = b) && decide (x < i + 1)) := by
                rw [← Bool.decide_and, ← Bool.decide_and]
                exact decide_eq_decide.mpr this
              rw [e3]
            · simp only [hxy, Bool.false_eq_true, ↓reduceIte]
              have : (x = b ∧ y < i) ↔ (x = b ∧ y < i + 1) := by
                constructor
                · rintro ⟨e1, e2⟩; exact ⟨e1, by omega⟩
                · rintro ⟨e1, e2⟩
                  refine ⟨e1, ?_⟩
                  rcases Nat.lt_or_ge y i with q | q
                  · exact q
                  · exact absurd ⟨e1, by omega⟩ h2
              have e3 : (decide (x = b) && decide (y < i)) = (decide (x = b) && decide (y < i + 1)) := by
                rw [← Bool.decide_and, ← Bool.decide_and]
                exact decide_eq_decide.mpr this
              rw [e3]
      · have hc' : (bt dk i && ahB D i b) = false := by
          cases h1 : bt dk i <;> cases h2 : ahB D i b <;> simp_all
        rw [hc', if_neg (by simp), IH x y hx hd hy]
        unfold matB
        by_cases hxy : ahB D x y = true
        · simp only [hxy, ↓reduceIte]
          by_cases e : y = b ∧ x = i
          · obtain ⟨rfl, rfl⟩ := e
            exact absurd ⟨hd, hxy⟩ hc
          · have e3 : (decide (y = b) && decide (x < i)) = (decide (y = b) && decide (x < i + 1)) := by
              rw [← Bool.decide_and, ← Bool.decide_and]
              exact decide_eq_decide.mpr ⟨fun ⟨a1, a2⟩ => ⟨a1, by omega⟩, fun ⟨a1, a2⟩ => ⟨a1, by
                rcases Nat.lt_or_ge x i with q | q
                · exact q
                · exact absurd ⟨a1, by omega⟩ e⟩⟩
            rw [e3]
        · simp only [hxy, Bool.false_eq_true, ↓reduceIte]
          by_cases e : x = b ∧ y = i
          · obtain ⟨rfl, rfl⟩ := e
            by_cases hdy : bt dk y = true
            · have : ahB D y x = false := by
                cases h2 : ahB D y x with
                | false => rfl
                | true => exact absurd ⟨hdy, h2⟩ hc
              simp [this]
            · simp [hdy]
          · have e3 : (decide (x = b) && decide (y < i)) = (decide (x = b) && decide (y < i + 1)) := by
              rw [← Bool.decide_and, ← Bool.decide_and]
              exact decide_eq_decide.mpr ⟨fun ⟨a1, a2⟩ => ⟨a1, by omega⟩, fun ⟨a1, a2⟩ => ⟨a1, by
                rcases Nat.lt_or_ge y i with q | q
                · exact q
                · exact absurd ⟨a1, by omega⟩ e⟩⟩
            rw [e3]
    · rw [if_neg (fun z => hdb z.1), IH x y hx hd hy]
      unfold matB
      by_cases hxy : ahB D x y = true
      · simp only [hxy, ↓reduceIte]
        by_cases e : y = b
        · subst e
          simp [hdb]
        · simp [e]
      · simp only [hxy, Bool.false_eq_true, ↓reduceIte]
        by_cases e : x = b
        · subst e
          exact absurd hd hdb
        · simp [e]
theorem op2_at {dk : Int32} {T : SG} {B : Nat → Int32} {ov : Nat → Nat → Bool} (hn : n ≤ 16) (hov : ∀ a b, b < n → bt dk b = true → ov a b = ovrB w D (T 53 b) a b) (h52 : ∀ b, b < n → bt dk b = true → T 52 b = ahM D n dk b)
    (hB : ∀ x, x < n → bt dk x = true → B x = 0) : ∀ (b : Nat), b ≤ n → ∀ x y, x < n → bt dk x = true → y < 32 → bt (op2 w D n dk T B b x) y = matB D n dk ov (fun _ b' => decide (b' < b)) x y := by
  intro b
  induction b with
  | zero =>
    intro _ x y hx hd hy
    rw [show op2 w D n dk T B 0 x = B x from rfl, hB x hx hd, b_0]
    simp [matB]
  | succ b ih =>
    intro hb x y hx hd hy
    unfold op2
    rw [op2i_at hn (show b < n by omega) (fun a h => hov a b (by omega) h) (fun h => h52 b (by omega) h) (ih (by omega)) n (Nat.le_refl n) x y hx hd hy]
    unfold matB
    have key : ∀ a' b', a' < n → (decide (b' < b) || (decide (b' = b) && decide (a' < n))) = decide (b' < b + 1) := by
      intro a' b' ha'
      rcases Nat.lt_trichotomy b' b with h | h | h
      · simp [h, show b' < b + 1 by omega]
      · simp [h, ha']
      · simp [show ¬ b' < b by omega, show ¬ b' = b by omega, show ¬ b' < b + 1 by omega]
    dsimp only
    rw [key x y hx]
    by_cases hy2 : y < n
    · rw [key y x hy2]
    · simp [hy2]
/-- y prevails over x, by the class -/
def prvX (w : Nat → Int32) (D : DT) (n : Nat) (dw sn N : Nat → Int32) (y x : Nat) : Bool := if ahB D x y = true then ovrB w D (toM w D n dw sn N y) x y else !ovrB w D (toM w D n dw sn N x) y x
theorem opn_54 (hn : n ≤ 16) {f : Int32} {x y : Nat} (hx : x < n) (hd : fldB D f x = true) (hy : y < 32) : bt (opn w D n dw sn N f S 54 x) y = (decide (y < n) && fldB D f y && decide (y ≠ x) && prvX w D n dw sn N y x) := by
  have hdx : ∀ z, z < n → bt (dkM D n f) z = fldB D f z := by
    intro z hz
    unfold dkM
    rw [bt_msk (by omega)]
    simp [hz]
  unfold opn
  rw [row54_54, op2_at (ov := fun a b => ovrB w D (toM w D n dw sn N b) a b) hn (fun a b hb h => by rw [(op1_at hn n b hb h).2.1]) (fun b hb h => (op1_at hn n b hb h).1) (fun z hz h => (op1_at hn n z hz h).2.2) n (Nat.le_refl n) x y hx (by rw [hdx x hx]; exact hd) hy]
  unfold matB prvX
  by_cases hy2 : y < n
  · rw [hdx y hy2]
    by_cases hyx : y = x
    · subst hyx
      simp [ah_irr]
    · by_cases h1 : ahB D x y = true
      · simp [hy2, hyx, h1]
      · have h2 : ahB D y x = true := by
          rcases ah_tot (D := D) (fun z => hyx z.symm) with h | h
          · exact absurd h h1
          · exact h
        simp [hx, hy2, hyx, h1, h2]
  · simp [hy2]
theorem opn_51 {f : Int32} : opn w D n dw sn N f S 51 7 = dkM D n f := by
  unfold opn
  rw [row54_51, op1_ne (by omega) (by omega) (by omega) (by omega), up2_at]
  simp
theorem opn_52 (hn : n ≤ 16) {f : Int32} {x : Nat} (hx : x < n) (hd : fldB D f x = true) : opn w D n dw sn N f S 52 x = ahM D n (dkM D n f) x := by
  unfold opn
  rw [row54_52]
  refine (op1_at hn n x hx ?_).1
  unfold dkM
  rw [bt_msk (by omega)]
  simp [hx, hd]
theorem opn_53 (hn : n ≤ 16) {f : Int32} {x : Nat} (hx : x < n) (hd : fldB D f x = true) : opn w D n dw sn N f S 53 x = toM w D n dw sn N x := by
  unfold opn
  rw [row54_53]
  refine (op1_at hn n x hx ?_).2.1
  unfold dkM
  rw [bt_msk (by omega)]
  simp [hx, hd]
theorem opn_57 {f : Int32} : opn w D n dw sn N f S 57 = S 57 := by
  funext s
  unfold opn row54
  rw [if_neg (by omega), op1_ne (by omega) (by omega) (by omega) (by omega), up2_at]
  simp
end FACTS
