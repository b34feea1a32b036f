/-! the world behind both constructors -/
def KF : List KD := [.inr 7, .inl (0, 12), .inl (0, 6), .inl (3, 4), .inr 3, .inr 3, .inr 3, .inr 3, .inr 4, .inl (0, 16), .inr 0, .inl (2, 16), .inr 2, .inr 2, .inr 2, .inr 2, .inr 2, .inr 2, .inr 2, .inr 2, .inr 2, .inr 2, .inr 2, .inr 2, .inr 2, .inr 2, .inr 2, .inr 2, .inl (0, 6), .inl (0, 6), .inr 0, .inl (2, 16), .inr 2, .inr 2, .inr 2, .inr 2, .inr 2, .inr 2, .inr 2, .inr 2, .inr 2, .inr 2, .inr 2, .inr 2, .inr 2, .inr 2, .inr 2, .inr 2, .inl (0, 6), .inl (0, 6), .inr 5, .inr 1, .inl (0, 16), .inl (0, 16), .inl (0, 16), .inr 3, .inr 6, .inl (0, 16), .inr 8, .inl (0, 12), .inl (0, 6), .inl (0, 6), .inl (0, 6), .inl (0, 160), .inl (0, 16), .inl (0, 4), .inl (0, 4), .inl (1, 4), .inl (1, 4), .inl (0, 4), .inl (0, 16), .inl (0, 16), .inl (0, 160), .inl (0, 6), .inl (0, 6)]
def RF (c s : Nat) : Option Nat := match c with
  | 0 => ([1, 2, 3, 8, 10, 30, 50, 51, 56] : List Nat)[s]?
  | 3 => some (4 + s)
  | 8 => some 9
  | 10 => ([11, 28, 29] : List Nat)[s]?
  | 11 => some (12 + s)
  | 30 => ([31, 48, 49] : List Nat)[s]?
  | 31 => some (32 + s)
  | 50 => some 10
  | 51 => ([10, 1, 50, 52, 53, 54] : List Nat)[s]?
  | 56 => ([10, 51, 57] : List Nat)[s]?
  | 58 => ([0, 59, 0, 60, 61, 62, 0, 63, 64, 0, 0, 65, 66, 67, 68, 69, 0, 0, 0, 0, 0, 0, 0, 0, 0, 70, 71, 0, 0, 72, 73, 74] : List Nat)[s]?
  | _ => none
def RQ (q : Nat) : SR := up2 RF 51 6 (some q)
theorem kf_0 : KF[0]? = some (.inr 7) := id rfl
theorem ik_1 (i : Int32) : inK KF 1 0 i = inb i 12 := id rfl
theorem ik_2 (i : Int32) : inK KF 2 0 i = inb i 6 := id rfl
theorem ik_3 (i : Int32) : inK KF 3 2 i = inb i 4 := id rfl
theorem kf_8 : KF[8]? = some (.inr 4) := id rfl
theorem ik_9 (i : Int32) : inK KF 9 0 i = inb i 16 := id rfl
theorem kf_10 : KF[10]? = some (.inr 0) := id rfl
theorem ik_11 (i : Int32) : inK KF 11 2 i = inb i 16 := id rfl
theorem ik_28 (i : Int32) : inK KF 28 0 i = inb i 6 := id rfl
theorem ik_29 (i : Int32) : inK KF 29 0 i = inb i 6 := id rfl
theorem kf_30 : KF[30]? = some (.inr 0) := id rfl
theorem ik_31 (i : Int32) : inK KF 31 2 i = inb i 16 := id rfl
theorem ik_48 (i : Int32) : inK KF 48 0 i = inb i 6 := id rfl
theorem ik_49 (i : Int32) : inK KF 49 0 i = inb i 6 := id rfl
theorem kf_50 : KF[50]? = some (.inr 5) := id rfl
theorem kf_51 : KF[51]? = some (.inr 1) := id rfl
theorem ik_52 (i : Int32) : inK KF 52 0 i = inb i 16 := id rfl
theorem ik_53 (i : Int32) : inK KF 53 0 i = inb i 16 := id rfl
theorem ik_54 (i : Int32) : inK KF 54 0 i = inb i 16 := id rfl
theorem kf_55 : KF[55]? = some (.inr 3) := id rfl
theorem kf_56 : KF[56]? = some (.inr 6) := id rfl
theorem ik_57 (i : Int32) : inK KF 57 0 i = inb i 16 := id rfl
theorem kf_58 : KF[58]? = some (.inr 8) := id rfl
theorem ik_59 (i : Int32) : inK KF 59 0 i = inb i 12 := id rfl
theorem ik_60 (i : Int32) : inK KF 60 0 i = inb i 6 := id rfl
theorem ik_61 (i : Int32) : inK KF 61 0 i = inb i 6 := id rfl
theorem ik_62 (i : Int32) : inK KF 62 0 i = inb i 6 := id rfl
theorem ik_63 (i : Int32) : inK KF 63 0 i = inb i 160 := id rfl
theorem ik_64 (i : Int32) : inK KF 64 0 i = inb i 16 := id rfl
theorem ik_65 (i : Int32) : inK KF 65 0 i = inb i 4 := id rfl
theorem ik_66 (i : Int32) : inK KF 66 0 i = inb i 4 := id rfl
theorem ik_67 (i : Int32) : inK KF 67 1 i = inb i 4 := id rfl
theorem ik_68 (i : Int32) : inK KF 68 1 i = inb i 4 := id rfl
theorem ik_69 (i : Int32) : inK KF 69 0 i = inb i 4 := id rfl
theorem ik_70 (i : Int32) : inK KF 70 0 i = inb i 16 := id rfl
theorem ik_71 (i : Int32) : inK KF 71 0 i = inb i 16 := id rfl
theorem ik_72 (i : Int32) : inK KF 72 0 i = inb i 160 := id rfl
theorem ik_73 (i : Int32) : inK KF 73 0 i = inb i 6 := id rfl
theorem ik_74 (i : Int32) : inK KF 74 0 i = inb i 6 := id rfl
theorem kf_law {j : Nat} (h : j < 4) : KF[4 + j]? = some (.inr 3) := by
  match j, h with
  | 0, _ => rfl
  | 1, _ => rfl
  | 2, _ => rfl
  | 3, _ => rfl
theorem kf_deed {j : Nat} (h : j < 16) : KF[12 + j]? = some (.inr 2) := by
  match j, h with
  | 0, _ => rfl
  | 1, _ => rfl
  | 2, _ => rfl
  | 3, _ => rfl
  | 4, _ => rfl
  | 5, _ => rfl
  | 6, _ => rfl
  | 7, _ => rfl
  | 8, _ => rfl
  | 9, _ => rfl
  | 10, _ => rfl
  | 11, _ => rfl
  | 12, _ => rfl
  | 13, _ => rfl
  | 14, _ => rfl
  | 15, _ => rfl
  | j + 16, h => exact absurd h (by omega)
theorem kf_kdeed {j : Nat} (h : j < 16) : KF[32 + j]? = some (.inr 2) := by
  match j, h with
  | 0, _ => rfl
  | 1, _ => rfl
  | 2, _ => rfl
  | 3, _ => rfl
  | 4, _ => rfl
  | 5, _ => rfl
  | 6, _ => rfl
  | 7, _ => rfl
  | 8, _ => rfl
  | 9, _ => rfl
  | 10, _ => rfl
  | 11, _ => rfl
  | 12, _ => rfl
  | 13, _ => rfl
  | 14, _ => rfl
  | 15, _ => rfl
  | j + 16, h => exact absurd h (by omega)
theorem al_1 : isA KF 1 = true ∧ alK KF 1 = 12 := by decide +kernel
theorem rq_0_0 (q : Nat) : RQ q 0 0 = some 1 := id rfl
theorem rq_0_1 (q : Nat) : RQ q 0 1 = some 2 := id rfl
theorem rq_0_2 (q : Nat) : RQ q 0 2 = some 3 := id rfl
theorem rq_0_3 (q : Nat) : RQ q 0 3 = some 8 := id rfl
theorem rq_0_4 (q : Nat) : RQ q 0 4 = some 10 := id rfl
theorem rq_0_5 (q : Nat) : RQ q 0 5 = some 30 := id rfl
theorem rq_0_6 (q : Nat) : RQ q 0 6 = some 50 := id rfl
theorem rq_0_7 (q : Nat) : RQ q 0 7 = some 51 := id rfl
theorem rq_0_8 (q : Nat) : RQ q 0 8 = some 56 := id rfl
theorem rq_8_0 (q : Nat) : RQ q 8 0 = some 9 := id rfl
theorem rq_10_0 (q : Nat) : RQ q 10 0 = some 11 := id rfl
theorem rq_10_1 (q : Nat) : RQ q 10 1 = some 28 := id rfl
theorem rq_10_2 (q : Nat) : RQ q 10 2 = some 29 := id rfl
theorem rq_30_0 (q : Nat) : RQ q 30 0 = some 31 := id rfl
theorem rq_30_1 (q : Nat) : RQ q 30 1 = some 48 := id rfl
theorem rq_30_2 (q : Nat) : RQ q 30 2 = some 49 := id rfl
theorem rq_50_0 (q : Nat) : RQ q 50 0 = some 10 := id rfl
theorem rq_51_0 (q : Nat) : RQ q 51 0 = some 10 := id rfl
theorem rq_51_1 (q : Nat) : RQ q 51 1 = some 1 := id rfl
theorem rq_51_2 (q : Nat) : RQ q 51 2 = some 50 := id rfl
theorem rq_51_3 (q : Nat) : RQ q 51 3 = some 52 := id rfl
theorem rq_51_4 (q : Nat) : RQ q 51 4 = some 53 := id rfl
theorem rq_51_5 (q : Nat) : RQ q 51 5 = some 54 := id rfl
theorem rq_56_0 (q : Nat) : RQ q 56 0 = some 10 := id rfl
theorem rq_56_1 (q : Nat) : RQ q 56 1 = some 51 := id rfl
theorem rq_56_2 (q : Nat) : RQ q 56 2 = some 57 := id rfl
theorem rq_58_1 (q : Nat) : RQ q 58 1 = some 59 := id rfl
theorem rq_58_3 (q : Nat) : RQ q 58 3 = some 60 := id rfl
theorem rq_58_4 (q : Nat) : RQ q 58 4 = some 61 := id rfl
theorem rq_58_5 (q : Nat) : RQ q 58 5 = some 62 := id rfl
theorem rq_58_7 (q : Nat) : RQ q 58 7 = some 63 := id rfl
theorem rq_58_8 (q : Nat) : RQ q 58 8 = some 64 := id rfl
theorem rq_58_11 (q : Nat) : RQ q 58 11 = some 65 := id rfl
theorem rq_58_12 (q : Nat) : RQ q 58 12 = some 66 := id rfl
theorem rq_58_13 (q : Nat) : RQ q 58 13 = some 67 := id rfl
theorem rq_58_14 (q : Nat) : RQ q 58 14 = some 68 := id rfl
theorem rq_58_15 (q : Nat) : RQ q 58 15 = some 69 := id rfl
theorem rq_58_25 (q : Nat) : RQ q 58 25 = some 70 := id rfl
theorem rq_58_26 (q : Nat) : RQ q 58 26 = some 71 := id rfl
theorem rq_58_29 (q : Nat) : RQ q 58 29 = some 72 := id rfl
theorem rq_58_30 (q : Nat) : RQ q 58 30 = some 73 := id rfl
theorem rq_58_31 (q : Nat) : RQ q 58 31 = some 74 := id rfl
theorem rq_3 (q j : Nat) : RQ q 3 j = some (4 + j) := by simp [RQ, up2, RF]
theorem rq_11 (q j : Nat) : RQ q 11 j = some (12 + j) := by simp [RQ, up2, RF]
theorem rq_31 (q j : Nat) : RQ q 31 j = some (32 + j) := by simp [RQ, up2, RF]
theorem rq_law (q : Nat) : RQ q 51 6 = some q := id rfl
theorem rq_put (q r : Nat) : up2 (RQ q) 51 6 (some r) = RQ r := by
  funext a b
  by_cases h : a = 51 ∧ b = 6 <;> simp [RQ, up2, h]
theorem rv_s (a : Nat) : rv (some a) = .ref a := id rfl
theorem cl_i (x : Int32) : cl (some (.int x)) = some (.int x) := id rfl
theorem cl_r (x : Nat) : cl (some (.ref x)) = some (.ref x) := id rfl
theorem cl_n : cl none = none := id rfl
theorem tl_s (v : Value) (st : List Value) : (some v).toList ++ st = v :: st := id rfl
theorem tl_n (st : List Value) : (none : Option Value).toList ++ st = st := id rfl
theorem le4_0 : ([] : List Value).length ≤ 4 := by decide
theorem le4_1 (a : Value) : [a].length ≤ 4 := by simp
theorem le4_2 (a b : Value) : [a, b].length ≤ 4 := by simp
theorem le4_3 (a b c : Value) : [a, b, c].length ≤ 4 := by simp
theorem le4_4 (a b c d : Value) : [a, b, c, d].length ≤ 4 := by simp
def bi (c : Prop) [Decidable c] : Int32 := if c then 1 else 0
theorem bi_01 (c : Prop) [Decidable c] : bi c = 0 ∨ bi c = 1 := by unfold bi; split <;> simp
theorem bi_0 (c : Prop) [Decidable c] : (bi c = 0) = ¬ c := by unfold bi; split <;> simp [*]
theorem bi_1 (c : Prop) [Decidable c] : (bi c = 1) = c := by unfold bi; split <;> simp [*]
theorem zz_0 : ((0 : Int32) = 0 ∨ (0 : Int32) = 1) = True := by simp
theorem zz_1 : ((1 : Int32) = 0 ∨ (1 : Int32) = 1) = True := by simp
theorem iter {α : Type} (e : Nat → α) (n : Nat) (h : ∀ i, i < n → e i = e (i + 1)) : e 0 = e n := by
  induction n with
  | zero => rfl
  | succ n ih => exact (ih (fun i hi => h i (by omega))).trans (h n (by omega))
