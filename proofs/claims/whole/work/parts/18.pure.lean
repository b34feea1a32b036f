/-! pure words: deeds as a table D, sets as bits -/
abbrev DT : Type := Nat → Nat → Int32
def HX (G : SG) (n : Nat) (D : DT) : Prop := G 10 3 = nI n ∧ n ≤ 16 ∧ ∀ j a, j < n → a < 10 → G (12 + j) a = D j a
def fldB (D : DT) (f : Int32) (j : Nat) : Bool := decide (D j 1 = f)
def cbfB (D : DT) (j : Nat) : Bool := decide (¬ D j 5 = -1 ∧ ¬ D j 0 = 4 ∧ D j 8 = 0)
def pasB (D : DT) (j : Nat) : Bool := decide (¬ D j 0 = 3)
def entB (D : DT) (j : Nat) : Bool := decide (¬ D j 5 = -1)
def ahB (D : DT) (a b : Nat) : Bool := decide (D a 4 < D b 4 ∨ (D a 4 = D b 4 ∧ a < b))
def oI (o : Option Nat) : Int32 := match o with
  | none => -1
  | some j => nI j
def cnt (p : Nat → Bool) : Nat → Nat
  | 0 => 0
  | n + 1 => if p n = true then cnt p n + 1 else cnt p n
theorem cnt_le (p : Nat → Bool) (n : Nat) : cnt p n ≤ n := by
  induction n with
  | zero => exact Nat.le_refl _
  | succ n ih => unfold cnt; split <;> omega
theorem cnt_congr {p p' : Nat → Bool} {n : Nat} (h : ∀ j, j < n → p j = p' j) : cnt p n = cnt p' n := by
  induction n with
  | zero => rfl
  | succ n ih => unfold cnt; rw [h n (by omega), ih (fun j hj => h j (by omega))]
theorem nI_ne_m1 {j : Nat} (h : j < 2147483648) : (nI j = -1) = False := by
  apply eq_false
  intro z
  have h1 := nI_toInt (n := j) h
  rw [z] at h1
  have h2 : (-1 : Int32).toInt = -1 := by decide
  omega
/-! scratch -/
def scr (c s : Nat) : Bool := (decide (50 ≤ c) && decide (c ≤ 54)) || decide (c = 56) || decide (c = 57) || decide (c = 70) || decide (c = 71) || (decide (c = 58) && ((decide (16 ≤ s) && decide (s ≤ 24)) || decide (s = 27) || decide (s = 28)))
def mix (G S : SG) : SG := fun c s => if scr c s = true then S c s else G c s
theorem mix_at (G S : SG) (c s : Nat) : mix G S c s = if scr c s = true then S c s else G c s := id rfl
theorem up2_at {α : Type} (f : Nat → Nat → α) (c k : Nat) (v : α) (a b : Nat) : up2 f c k v a b = if a = c ∧ b = k then v else f a b := id rfl
theorem up2_mixS {G S : SG} {c s : Nat} {v : Int32} (h : scr c s = true) : up2 (mix G S) c s v = mix G (up2 S c s v) := by
  funext a b
  by_cases e : a = c ∧ b = s
  · obtain ⟨rfl, rfl⟩ := e
    simp [up2, mix, h]
  · simp [up2, mix, e]
theorem up2_mixG {G S : SG} {c s : Nat} {v : Int32} (h : scr c s = false) : up2 (mix G S) c s v = mix (up2 G c s v) S := by
  funext a b
  by_cases e : a = c ∧ b = s
  · obtain ⟨rfl, rfl⟩ := e
    simp [up2, mix, h]
  · simp [up2, mix, e]
theorem scr_low {c s : Nat} (h : c < 50) : scr c s = false := by
  simp [scr]
  omega
theorem mix_low {G S : SG} {c s : Nat} (h : c < 50) : mix G S c s = G c s := by
  rw [mix_at, scr_low h]
  rfl
theorem HX.mix {G S : SG} {n : Nat} {D : DT} (h : HX G n D) : HX (mix G S) n D := ⟨by rw [mix_low (by omega)]; exact h.1, h.2.1, fun j a hj ha => by rw [mix_low (by have := h.2.1; omega)]; exact h.2.2 j a hj ha⟩
theorem mg_0 (G S : SG) (s : Nat) : mix G S 0 s = G 0 s := by simp [mix, scr]
theorem pg_0 (G S : SG) (s : Nat) (v : Int32) : up2 (mix G S) 0 s v = mix (up2 G 0 s v) S := up2_mixG (by simp [scr])
theorem mg_1 (G S : SG) (s : Nat) : mix G S 1 s = G 1 s := by simp [mix, scr]
theorem pg_1 (G S : SG) (s : Nat) (v : Int32) : up2 (mix G S) 1 s v = mix (up2 G 1 s v) S := up2_mixG (by simp [scr])
theorem mg_2 (G S : SG) (s : Nat) : mix G S 2 s = G 2 s := by simp [mix, scr]
theorem pg_2 (G S : SG) (s : Nat) (v : Int32) : up2 (mix G S) 2 s v = mix (up2 G 2 s v) S := up2_mixG (by simp [scr])
theorem mg_8 (G S : SG) (s : Nat) : mix G S 8 s = G 8 s := by simp [mix, scr]
theorem pg_8 (G S : SG) (s : Nat) (v : Int32) : up2 (mix G S) 8 s v = mix (up2 G 8 s v) S := up2_mixG (by simp [scr])
theorem mg_9 (G S : SG) (s : Nat) : mix G S 9 s = G 9 s := by simp [mix, scr]
theorem pg_9 (G S : SG) (s : Nat) (v : Int32) : up2 (mix G S) 9 s v = mix (up2 G 9 s v) S := up2_mixG (by simp [scr])
theorem mg_10 (G S : SG) (s : Nat) : mix G S 10 s = G 10 s := by simp [mix, scr]
theorem pg_10 (G S : SG) (s : Nat) (v : Int32) : up2 (mix G S) 10 s v = mix (up2 G 10 s v) S := up2_mixG (by simp [scr])
theorem mg_28 (G S : SG) (s : Nat) : mix G S 28 s = G 28 s := by simp [mix, scr]
theorem pg_28 (G S : SG) (s : Nat) (v : Int32) : up2 (mix G S) 28 s v = mix (up2 G 28 s v) S := up2_mixG (by simp [scr])
theorem mg_29 (G S : SG) (s : Nat) : mix G S 29 s = G 29 s := by simp [mix, scr]
theorem pg_29 (G S : SG) (s : Nat) (v : Int32) : up2 (mix G S) 29 s v = mix (up2 G 29 s v) S := up2_mixG (by simp [scr])
theorem mg_30 (G S : SG) (s : Nat) : mix G S 30 s = G 30 s := by simp [mix, scr]
theorem pg_30 (G S : SG) (s : Nat) (v : Int32) : up2 (mix G S) 30 s v = mix (up2 G 30 s v) S := up2_mixG (by simp [scr])
theorem mg_48 (G S : SG) (s : Nat) : mix G S 48 s = G 48 s := by simp [mix, scr]
theorem pg_48 (G S : SG) (s : Nat) (v : Int32) : up2 (mix G S) 48 s v = mix (up2 G 48 s v) S := up2_mixG (by simp [scr])
theorem mg_49 (G S : SG) (s : Nat) : mix G S 49 s = G 49 s := by simp [mix, scr]
theorem pg_49 (G S : SG) (s : Nat) (v : Int32) : up2 (mix G S) 49 s v = mix (up2 G 49 s v) S := up2_mixG (by simp [scr])
theorem mg_59 (G S : SG) (s : Nat) : mix G S 59 s = G 59 s := by simp [mix, scr]
theorem pg_59 (G S : SG) (s : Nat) (v : Int32) : up2 (mix G S) 59 s v = mix (up2 G 59 s v) S := up2_mixG (by simp [scr])
theorem mg_60 (G S : SG) (s : Nat) : mix G S 60 s = G 60 s := by simp [mix, scr]
theorem pg_60 (G S : SG) (s : Nat) (v : Int32) : up2 (mix G S) 60 s v = mix (up2 G 60 s v) S := up2_mixG (by simp [scr])
theorem mg_61 (G S : SG) (s : Nat) : mix G S 61 s = G 61 s := by simp [mix, scr]
theorem pg_61 (G S : SG) (s : Nat) (v : Int32) : up2 (mix G S) 61 s v = mix (up2 G 61 s v) S := up2_mixG (by simp [scr])
theorem mg_62 (G S : SG) (s : Nat) : mix G S 62 s = G 62 s := by simp [mix, scr]
theorem pg_62 (G S : SG) (s : Nat) (v : Int32) : up2 (mix G S) 62 s v = mix (up2 G 62 s v) S := up2_mixG (by simp [scr])
theorem mg_63 (G S : SG) (s : Nat) : mix G S 63 s = G 63 s := by simp [mix, scr]
theorem pg_63 (G S : SG) (s : Nat) (v : Int32) : up2 (mix G S) 63 s v = mix (up2 G 63 s v) S := up2_mixG (by simp [scr])
theorem mg_64 (G S : SG) (s : Nat) : mix G S 64 s = G 64 s := by simp [mix, scr]
theorem pg_64 (G S : SG) (s : Nat) (v : Int32) : up2 (mix G S) 64 s v = mix (up2 G 64 s v) S := up2_mixG (by simp [scr])
theorem mg_65 (G S : SG) (s : Nat) : mix G S 65 s = G 65 s := by simp [mix, scr]
theorem pg_65 (G S : SG) (s : Nat) (v : Int32) : up2 (mix G S) 65 s v = mix (up2 G 65 s v) S := up2_mixG (by simp [scr])
theorem mg_66 (G S : SG) (s : Nat) : mix G S 66 s = G 66 s := by simp [mix, scr]
theorem pg_66 (G S : SG) (s : Nat) (v : Int32) : up2 (mix G S) 66 s v = mix (up2 G 66 s v) S := up2_mixG (by simp [scr])
theorem mg_67 (G S : SG) (s : Nat) : mix G S 67 s = G 67 s := by simp [mix, scr]
theorem pg_67 (G S : SG) (s : Nat) (v : Int32) : up2 (mix G S) 67 s v = mix (up2 G 67 s v) S := up2_mixG (by simp [scr])
theorem mg_68 (G S : SG) (s : Nat) : mix G S 68 s = G 68 s := by simp [mix, scr]
theorem pg_68 (G S : SG) (s : Nat) (v : Int32) : up2 (mix G S) 68 s v = mix (up2 G 68 s v) S := up2_mixG (by simp [scr])
theorem mg_69 (G S : SG) (s : Nat) : mix G S 69 s = G 69 s := by simp [mix, scr]
theorem pg_69 (G S : SG) (s : Nat) (v : Int32) : up2 (mix G S) 69 s v = mix (up2 G 69 s v) S := up2_mixG (by simp [scr])
theorem mg_72 (G S : SG) (s : Nat) : mix G S 72 s = G 72 s := by simp [mix, scr]
theorem pg_72 (G S : SG) (s : Nat) (v : Int32) : up2 (mix G S) 72 s v = mix (up2 G 72 s v) S := up2_mixG (by simp [scr])
theorem mg_73 (G S : SG) (s : Nat) : mix G S 73 s = G 73 s := by simp [mix, scr]
theorem pg_73 (G S : SG) (s : Nat) (v : Int32) : up2 (mix G S) 73 s v = mix (up2 G 73 s v) S := up2_mixG (by simp [scr])
theorem mg_74 (G S : SG) (s : Nat) : mix G S 74 s = G 74 s := by simp [mix, scr]
theorem pg_74 (G S : SG) (s : Nat) (v : Int32) : up2 (mix G S) 74 s v = mix (up2 G 74 s v) S := up2_mixG (by simp [scr])
theorem ms_50 (G S : SG) (s : Nat) : mix G S 50 s = S 50 s := by simp [mix, scr]
theorem ps_50 (G S : SG) (s : Nat) (v : Int32) : up2 (mix G S) 50 s v = mix G (up2 S 50 s v) := up2_mixS (by simp [scr])
theorem ms_51 (G S : SG) (s : Nat) : mix G S 51 s = S 51 s := by simp [mix, scr]
theorem ps_51 (G S : SG) (s : Nat) (v : Int32) : up2 (mix G S) 51 s v = mix G (up2 S 51 s v) := up2_mixS (by simp [scr])
theorem ms_52 (G S : SG) (s : Nat) : mix G S 52 s = S 52 s := by simp [mix, scr]
theorem ps_52 (G S : SG) (s : Nat) (v : Int32) : up2 (mix G S) 52 s v = mix G (up2 S 52 s v) := up2_mixS (by simp [scr])
theorem ms_53 (G S : SG) (s : Nat) : mix G S 53 s = S 53 s := by simp [mix, scr]
theorem ps_53 (G S : SG) (s : Nat) (v : Int32) : up2 (mix G S) 53 s v = mix G (up2 S 53 s v) := up2_mixS (by simp [scr])
theorem ms_54 (G S : SG) (s : Nat) : mix G S 54 s = S 54 s := by simp [mix, scr]
theorem ps_54 (G S : SG) (s : Nat) (v : Int32) : up2 (mix G S) 54 s v = mix G (up2 S 54 s v) := up2_mixS (by simp [scr])
theorem ms_56 (G S : SG) (s : Nat) : mix G S 56 s = S 56 s := by simp [mix, scr]
theorem ps_56 (G S : SG) (s : Nat) (v : Int32) : up2 (mix G S) 56 s v = mix G (up2 S 56 s v) := up2_mixS (by simp [scr])
theorem ms_57 (G S : SG) (s : Nat) : mix G S 57 s = S 57 s := by simp [mix, scr]
theorem ps_57 (G S : SG) (s : Nat) (v : Int32) : up2 (mix G S) 57 s v = mix G (up2 S 57 s v) := up2_mixS (by simp [scr])
theorem ms_70 (G S : SG) (s : Nat) : mix G S 70 s = S 70 s := by simp [mix, scr]
theorem ps_70 (G S : SG) (s : Nat) (v : Int32) : up2 (mix G S) 70 s v = mix G (up2 S 70 s v) := up2_mixS (by simp [scr])
theorem ms_71 (G S : SG) (s : Nat) : mix G S 71 s = S 71 s := by simp [mix, scr]
theorem ps_71 (G S : SG) (s : Nat) (v : Int32) : up2 (mix G S) 71 s v = mix G (up2 S 71 s v) := up2_mixS (by simp [scr])
theorem mg_58_0 (G S : SG) : mix G S 58 0 = G 58 0 := by simp [mix, scr]
theorem pg_58_0 (G S : SG) (v : Int32) : up2 (mix G S) 58 0 v = mix (up2 G 58 0 v) S := up2_mixG (by simp [scr])
theorem mg_58_2 (G S : SG) : mix G S 58 2 = G 58 2 := by simp [mix, scr]
theorem pg_58_2 (G S : SG) (v : Int32) : up2 (mix G S) 58 2 v = mix (up2 G 58 2 v) S := up2_mixG (by simp [scr])
theorem mg_58_6 (G S : SG) : mix G S 58 6 = G 58 6 := by simp [mix, scr]
theorem pg_58_6 (G S : SG) (v : Int32) : up2 (mix G S) 58 6 v = mix (up2 G 58 6 v) S := up2_mixG (by simp [scr])
theorem mg_58_9 (G S : SG) : mix G S 58 9 = G 58 9 := by simp [mix, scr]
theorem pg_58_9 (G S : SG) (v : Int32) : up2 (mix G S) 58 9 v = mix (up2 G 58 9 v) S := up2_mixG (by simp [scr])
theorem mg_58_10 (G S : SG) : mix G S 58 10 = G 58 10 := by simp [mix, scr]
theorem pg_58_10 (G S : SG) (v : Int32) : up2 (mix G S) 58 10 v = mix (up2 G 58 10 v) S := up2_mixG (by simp [scr])
theorem ms_58_16 (G S : SG) : mix G S 58 16 = S 58 16 := by simp [mix, scr]
theorem ps_58_16 (G S : SG) (v : Int32) : up2 (mix G S) 58 16 v = mix G (up2 S 58 16 v) := up2_mixS (by simp [scr])
theorem ms_58_17 (G S : SG) : mix G S 58 17 = S 58 17 := by simp [mix, scr]
theorem ps_58_17 (G S : SG) (v : Int32) : up2 (mix G S) 58 17 v = mix G (up2 S 58 17 v) := up2_mixS (by simp [scr])
theorem ms_58_18 (G S : SG) : mix G S 58 18 = S 58 18 := by simp [mix, scr]
theorem ps_58_18 (G S : SG) (v : Int32) : up2 (mix G S) 58 18 v = mix G (up2 S 58 18 v) := up2_mixS (by simp [scr])
theorem ms_58_19 (G S : SG) : mix G S 58 19 = S 58 19 := by simp [mix, scr]
theorem ps_58_19 (G S : SG) (v : Int32) : up2 (mix G S) 58 19 v = mix G (up2 S 58 19 v) := up2_mixS (by simp [scr])
theorem ms_58_20 (G S : SG) : mix G S 58 20 = S 58 20 := by simp [mix, scr]
theorem ps_58_20 (G S : SG) (v : Int32) : up2 (mix G S) 58 20 v = mix G (up2 S 58 20 v) := up2_mixS (by simp [scr])
theorem ms_58_21 (G S : SG) : mix G S 58 21 = S 58 21 := by simp [mix, scr]
theorem ps_58_21 (G S : SG) (v : Int32) : up2 (mix G S) 58 21 v = mix G (up2 S 58 21 v) := up2_mixS (by simp [scr])
theorem ms_58_22 (G S : SG) : mix G S 58 22 = S 58 22 := by simp [mix, scr]
theorem ps_58_22 (G S : SG) (v : Int32) : up2 (mix G S) 58 22 v = mix G (up2 S 58 22 v) := up2_mixS (by simp [scr])
theorem ms_58_23 (G S : SG) : mix G S 58 23 = S 58 23 := by simp [mix, scr]
theorem ps_58_23 (G S : SG) (v : Int32) : up2 (mix G S) 58 23 v = mix G (up2 S 58 23 v) := up2_mixS (by simp [scr])
theorem ms_58_24 (G S : SG) : mix G S 58 24 = S 58 24 := by simp [mix, scr]
theorem ps_58_24 (G S : SG) (v : Int32) : up2 (mix G S) 58 24 v = mix G (up2 S 58 24 v) := up2_mixS (by simp [scr])
theorem ms_58_27 (G S : SG) : mix G S 58 27 = S 58 27 := by simp [mix, scr]
theorem ps_58_27 (G S : SG) (v : Int32) : up2 (mix G S) 58 27 v = mix G (up2 S 58 27 v) := up2_mixS (by simp [scr])
theorem ms_58_28 (G S : SG) : mix G S 58 28 = S 58 28 := by simp [mix, scr]
theorem ps_58_28 (G S : SG) (v : Int32) : up2 (mix G S) 58 28 v = mix G (up2 S 58 28 v) := up2_mixS (by simp [scr])
theorem mg_58_32 (G S : SG) : mix G S 58 32 = G 58 32 := by simp [mix, scr]
theorem pg_58_32 (G S : SG) (v : Int32) : up2 (mix G S) 58 32 v = mix (up2 G 58 32 v) S := up2_mixG (by simp [scr])
theorem mg_58_33 (G S : SG) : mix G S 58 33 = G 58 33 := by simp [mix, scr]
theorem pg_58_33 (G S : SG) (v : Int32) : up2 (mix G S) 58 33 v = mix (up2 G 58 33 v) S := up2_mixG (by simp [scr])
