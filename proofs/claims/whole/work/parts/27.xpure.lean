/-! the class's answers in pure words -/
def anyB (n : Nat) (p : Nat → Bool) : Bool := (List.range n).any p
theorem anyB_iff {n : Nat} {p : Nat → Bool} : anyB n p = true ↔ ∃ y, y < n ∧ p y = true := by
  simp [anyB, List.any_eq_true]
theorem anyB_congr {n : Nat} {p p' : Nat → Bool} (h : ∀ y, y < n → p y = p' y) : anyB n p = anyB n p' := by
  apply Bool.eq_iff_iff.mpr
  rw [anyB_iff, anyB_iff]
  constructor
  · rintro ⟨y, h1, h2⟩; exact ⟨y, h1, by rw [← h y h1]; exact h2⟩
  · rintro ⟨y, h1, h2⟩; exact ⟨y, h1, by rw [h y h1]; exact h2⟩
/-- THE FIRST of the set s; pv y x: y prevails over x -/
def fstP (D : DT) (n : Nat) (pv : Nat → Nat → Bool) (s : Nat → Bool) : Option Nat := frsF D n s (fun x => anyB n (fun y => s y && decide (y ≠ x) && pv y x))
theorem frsF_congr {D : DT} {n : Nat} {s s' t t' : Nat → Bool} (h : ∀ j, j < n → s j = s' j) (h2 : ∀ j, j < n → s j = true → t j = t' j) : frsF D n s t = frsF D n s' t' := by
  unfold frsF
  rw [madF_congr h, madF_congr (p := fun i => s i && !t i) (p' := fun i => s' i && !t' i) (fun j hj => by
    show (s j && !t j) = (s' j && !t' j)
    rw [← h j hj]
    cases hs : s j with
    | false => rfl
    | true => rw [h2 j hj hs])]
theorem fstP_congr {D : DT} {n : Nat} {pv pv' : Nat → Nat → Bool} {s s' : Nat → Bool} (h : ∀ j, j < n → s j = s' j) (h2 : ∀ x y, x < n → y < n → s x = true → s y = true → y ≠ x → pv y x = pv' y x) : fstP D n pv s = fstP D n pv' s' := by
  unfold fstP
  refine frsF_congr h (fun x hx hs => anyB_congr (fun y hy => ?_))
  rw [← h y hy]
  cases hsy : s y with
  | false => rfl
  | true =>
    by_cases e : y = x
    · simp [e]
    · rw [h2 x y hx hy hs hsy e]
theorem fstP_lt {D : DT} {n : Nat} {pv : Nat → Nat → Bool} {s : Nat → Bool} {d : Nat} (h : fstP D n pv s = some d) : d < n ∧ s d = true := by
  unfold fstP frsF orO at h
  split at h
  · next x hx =>
    cases h
    obtain ⟨h1, h2⟩ := madF_lt hx
    rw [Bool.and_eq_true] at h2
    exact ⟨h1, h2.1⟩
  · exact madF_lt h
theorem and_zero {x y : Int32} : x &&& y = 0 ↔ ∀ i, i < 32 → ¬ (bt x i = true ∧ bt y i = true) := by
  constructor
  · intro h i _ ⟨h1, h2⟩
    have := b_and x y i
    rw [h, b_0, h1, h2] at this
    exact absurd this (by simp)
  · intro h
    apply b_ext
    intro i hi
    rw [b_and, b_0]
    have := h i hi
    cases h1 : bt x i <;> cases h2 : bt y i <;> simp_all
/-- the rows B say who prevails among the deeds of the field f -/
def rowsOk (D : DT) (n : Nat) (f : Int32) (B : Nat → Int32) (pv : Nat → Nat → Bool) : Prop := ∀ x y, x < n → fldB D f x = true → y < 32 → bt (B x) y = (decide (y < n) && fldB D f y && decide (y ≠ x) && pv y x)
theorem firM_eq {D : DT} {n : Nat} {f : Int32} {B : Nat → Int32} {pv : Nat → Nat → Bool} {set : Int32} (hn : n ≤ 16) (hB : rowsOk D n f B pv) (hs : ∀ j, j < 32 → bt set j = true → j < n ∧ fldB D f j = true) : firM D n B set = fstP D n pv (bt set) := by
  unfold firM fstP
  refine frsF_congr (fun _ _ => rfl) (fun x hx hsx => ?_)
  obtain ⟨-, hfx⟩ := hs x (by omega) hsx
  apply Bool.eq_iff_iff.mpr
  rw [anyB_iff, decide_eq_true_eq, and_zero]
  constructor
  · intro h
    simp only [Classical.not_forall, Classical.not_not] at h
    obtain ⟨y, hy, h1, h2⟩ := h
    rw [hB x y hx hfx hy] at h1
    simp only [Bool.and_eq_true, decide_eq_true_eq] at h1
    exact ⟨y, h1.1.1.1, by simp [h2, h1.1.2, h1.2]⟩
  · rintro ⟨y, hy, h1⟩ h
    simp only [Bool.and_eq_true, decide_eq_true_eq] at h1
    obtain ⟨-, hfy⟩ := hs y (by omega) h1.1.1
    refine h y (by omega) ⟨?_, h1.1.1⟩
    rw [hB x y hx hfx (by omega)]
    simp [hy, hfy, h1.1.2, h1.2]
def folP (D : DT) (n : Nat) (f : Int32) (pv : Nat → Nat → Bool) : Nat → Int32 → Int32 → Int32 → Nat → (Nat → Int32) → Int32 × Int32 × Int32 × Nat × (Nat → Int32)
  | 0, ow, os, us, i, o => (ow, os, us, i, o)
  | k + 1, ow, os, us, i, o => match fstP D n pv (fun j => fldB D f j && pasB D j && decide (D j 2 = ow) && !bt us j) with
    | none => (ow, os, us, i, o)
    | some d => folP D n f pv k (D d 3) (os ||| bx (D d 3)) (us ||| b1 d) (i + 1) (upd o i (nI d))
theorem bt_dkM {D : DT} {n : Nat} {f : Int32} (hn : n ≤ 16) (j : Nat) : bt (dkM D n f) j = (decide (j < n) && fldB D f j) := by
  unfold dkM
  rw [bt_msk (by omega)]
theorem bt_pfM {D : DT} {n : Nat} {f g : Int32} (hn : n ≤ 16) (j : Nat) : bt (pfM D n (dkM D n f) g) j = (decide (j < n) && (fldB D f j && pasB D j && decide (D j 2 = g))) := by
  unfold pfM
  rw [bt_msk (by omega), bt_dkM hn]
  cases h : decide (j < n) <;> simp
theorem fol_eq {D : DT} {n : Nat} {f : Int32} {B : Nat → Int32} {pv : Nat → Nat → Bool} (hn : n ≤ 16) (hB : rowsOk D n f B pv) : ∀ (k : Nat) (ow os us : Int32) (i : Nat) (o : Nat → Int32), fol D n (dkM D n f) B k ow os us i o = folP D n f pv k ow os us i o := by
  intro k
  induction k with
  | zero => intro ow os us i o; rfl
  | succ k ih =>
    intro ow os us i o
    unfold fol folP
    have e : firM D n B (pfM D n (dkM D n f) ow &&& (us ^^^ -1)) = fstP D n pv (fun j => fldB D f j && pasB D j && decide (D j 2 = ow) && !bt us j) := by
      have hb : ∀ j, j < 32 → bt (pfM D n (dkM D n f) ow &&& (us ^^^ -1)) j = (decide (j < n) && (fldB D f j && pasB D j && decide (D j 2 = ow) && !bt us j)) := by
        intro j hj
        rw [b_and, bt_not hj, bt_pfM hn]
        cases h : decide (j < n) <;> simp
      rw [firM_eq hn hB (fun j hj h => by
        rw [hb j hj] at h
        simp only [Bool.and_eq_true, decide_eq_true_eq] at h
        exact ⟨h.1, h.2.1.1.1⟩)]
      exact fstP_congr (fun j hj => by rw [hb j (by omega)]; simp [hj]) (fun _ _ _ _ _ _ _ => rfl)
    rw [e]
    cases fstP D n pv (fun j => fldB D f j && pasB D j && decide (D j 2 = ow) && !bt us j) with
    | none => rfl
    | some d => exact ih _ _ _ _ _
theorem opn_rows {w : Nat → Int32} {D : DT} {n : Nat} {dw sn N : Nat → Int32} {S : SG} {f : Int32} (hn : n ≤ 16) : rowsOk D n f (opn w D n dw sn N f S 54) (prvX w D n dw sn N) := fun _ _ hx hd hy => opn_54 hn hx hd hy
theorem folF_eq {w : Nat → Int32} {D : DT} {n : Nat} {dw sn N : Nat → Int32} {S : SG} {f root : Int32} (hn : n ≤ 16) : folF D n (opn w D n dw sn N f S) root = folP D n f (prvX w D n dw sn N) 16 root (bx root) 0 0 (S 57) := by
  unfold folF
  rw [opn_51, fol_eq hn (opn_rows hn), opn_57]
def chn (D : DT) (n : Nat) (f : Int32) (pv : Nat → Nat → Bool) : Nat → Int32 → Int32 → List Nat
  | 0, _, _ => []
  | k + 1, ow, us => match fstP D n pv (fun j => fldB D f j && pasB D j && decide (D j 2 = ow) && !bt us j) with
    | none => []
    | some d => d :: chn D n f pv k (D d 3) (us ||| b1 d)
def lastOw (D : DT) : List Nat → Int32 → Int32
  | [], ow => ow
  | d :: l, _ => lastOw D l (D d 3)
def orOs (D : DT) : List Nat → Int32 → Int32
  | [], os => os
  | d :: l, os => orOs D l (os ||| bx (D d 3))
def orUs : List Nat → Int32 → Int32
  | [], us => us
  | d :: l, us => orUs l (us ||| b1 d)
def wrO : (Nat → Int32) → Nat → List Nat → (Nat → Int32)
  | o, _, [] => o
  | o, i, d :: l => wrO (upd o i (nI d)) (i + 1) l
theorem folP_list {D : DT} {n : Nat} {f : Int32} {pv : Nat → Nat → Bool} : ∀ (k : Nat) (ow os us : Int32) (i : Nat) (o : Nat → Int32), folP D n f pv k ow os us i o = (lastOw D (chn D n f pv k ow us) ow, orOs D (chn D n f pv k ow us) os, orUs (chn D n f pv k ow us) us, i + (chn D n f pv k ow us).length, wrO o i (chn D n f pv k ow us)) := by
  intro k
  induction k with
  | zero => intro ow os us i o; rfl
  | succ k ih =>
    intro ow os us i o
    unfold folP chn
    cases fstP D n pv (fun j => fldB D f j && pasB D j && decide (D j 2 = ow) && !bt us j) with
    | none => rfl
    | some d =>
      dsimp only
      rw [ih]
      simp only [lastOw, orOs, orUs, wrO, List.length_cons]
      rw [show i + 1 + (chn D n f pv k (D d 3) (us ||| b1 d)).length = i + ((chn D n f pv k (D d 3) (us ||| b1 d)).length + 1) by omega]
theorem wrO_at : ∀ (l : List Nat) (o : Nat → Int32) (i p : Nat), wrO o i l p = if i ≤ p ∧ p < i + l.length then nI (l.getD (p - i) 0) else o p := by
  intro l
  induction l with
  | nil =>
    intro o i p
    rw [if_neg (by simp only [List.length_nil]; omega)]
    rfl
  | cons d l ih =>
    intro o i p
    unfold wrO
    rw [ih]
    by_cases h1 : i + 1 ≤ p ∧ p < i + 1 + l.length
    · rw [if_pos h1, if_pos (by simp; omega)]
      obtain ⟨r, hr⟩ : ∃ r, p - i = r + 1 := ⟨p - i - 1, by omega⟩
      rw [hr, show p - (i + 1) = r by omega]
      rfl
    · rw [if_neg h1]
      by_cases h2 : p = i
      · subst h2
        rw [if_pos (by simp)]
        simp [upd]
      · rw [if_neg (by simp; omega)]
        simp [upd, h2]
theorem chn_len {D : DT} {n : Nat} {f : Int32} {pv : Nat → Nat → Bool} : ∀ (k : Nat) (ow us : Int32), (chn D n f pv k ow us).length ≤ k := by
  intro k
  induction k with
  | zero => intro ow us; exact Nat.le_refl _
  | succ k ih =>
    intro ow us
    unfold chn
    cases fstP D n pv (fun j => fldB D f j && pasB D j && decide (D j 2 = ow) && !bt us j) with
    | none => exact Nat.zero_le _
    | some d =>
      have := ih (D d 3) (us ||| b1 d)
      simp only [List.length_cons]
      omega
theorem chn_mem {D : DT} {n : Nat} {f : Int32} {pv : Nat → Nat → Bool} : ∀ (k : Nat) (ow us : Int32) (d : Nat), d ∈ chn D n f pv k ow us → d < n ∧ fldB D f d = true ∧ pasB D d = true := by
  intro k
  induction k with
  | zero => intro ow us d h; cases h
  | succ k ih =>
    intro ow us d h
    unfold chn at h
    cases hf : fstP D n pv (fun j => fldB D f j && pasB D j && decide (D j 2 = ow) && !bt us j) with
    | none => rw [hf] at h; cases h
    | some e =>
      rw [hf] at h
      rcases List.mem_cons.mp h with rfl | h
      · obtain ⟨h1, h2⟩ := fstP_lt hf
        simp only [Bool.and_eq_true] at h2
        exact ⟨h1, h2.1.1.1, h2.1.1.2⟩
      · exact ih _ _ _ h
/-- the deeds used, by the class -/
def chX (w : Nat → Int32) (D : DT) (n : Nat) (dw sn N : Nat → Int32) (f root : Int32) : List Nat := chn D n f (prvX w D n dw sn N) 16 root 0
def ownX (w : Nat → Int32) (D : DT) (n : Nat) (dw sn N : Nat → Int32) (f root : Int32) : Int32 := lastOw D (chX w D n dw sn N f root) root
section RUNS
variable {G S : SG} {J : SJ} {q ql n c : Nat} {D : DT}
/-- open, then follow -/
def ofS (w : Nat → Int32) (D : DT) (n : Nat) (dw sn N : Nat → Int32) (f root : Int32) (S : SG) : SG := folS D n root (opn w D n dw sn N f S)
theorem ofS_eq {w : Nat → Int32} {dw sn N : Nat → Int32} {f root : Int32} (hn : n ≤ 16) : ofS w D n dw sn N f root S = w56 (opn w D n dw sn N f S) (ownX w D n dw sn N f root) (orOs D (chX w D n dw sn N f root) (bx root)) (orUs (chX w D n dw sn N f root) 0) (nI (chX w D n dw sn N f root).length) (wrO (S 57) 0 (chX w D n dw sn N f root)) := by
  unfold ofS folS
  rw [folF_eq hn, folP_list]
  simp only [Nat.zero_add]
  rfl
theorem ofS_3 {w : Nat → Int32} {dw sn N : Nat → Int32} {f root : Int32} (hn : n ≤ 16) : ofS w D n dw sn N f root S 56 3 = ownX w D n dw sn N f root := by rw [ofS_eq hn, w56_3]
theorem ofS_6 {w : Nat → Int32} {dw sn N : Nat → Int32} {f root : Int32} (hn : n ≤ 16) : ofS w D n dw sn N f root S 56 6 = nI (chX w D n dw sn N f root).length := by rw [ofS_eq hn, w56_6]
end RUNS
