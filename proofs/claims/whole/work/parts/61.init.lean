/-! both constructors, by the kernel -/
def ini1 : Option RES := exec 700 58 0 (entL (mL 58) [.ref (0 : Nat)]) [] [.inr 7] (zr (fun _ _ => 0) 0 0) (zr (fun _ _ => 0) 0 0) (zr (fun _ _ => none) 0 none)
def ini2 : Option RES := match ini1 with
  | some ((K, G, J, R), _) => exec 300 103 0 (entL (mL 103) [.ref (58 : Nat)]) [] (K ++ [.inr 8]) (zr G 58 0) (zr J 58 0) (zr R 58 none)
  | none => none
def eqR (R : SR) : Bool := (List.range 75).all (fun c => match KF[c]? with
  | some (.inr ci) => (List.range (cN ci)).all (fun s => match cTy ci s with
    | .object _ => decide (R c s = RQ 55 c s)
    | .array _ => decide (R c s = RQ 55 c s)
    | _ => true)
  | some (.inl q) => decide (q.1 < 2) || (List.range q.2).all (fun j => decide (R c j = RQ 55 c j))
  | none => false)
def relP (G : SG) : Prop := G 0 9 = 0 ∧ G 58 0 = 0 ∧ (∀ p, p < 12 → G 59 p = G 1 p) ∧ G 0 10 = 0 ∧ G 58 2 = 0 ∧ (∀ f, f < 6 → G 60 f = G 2 f) ∧ G 0 11 = 0 ∧ G 58 10 = 0 ∧ (∀ l, l < 4 → G (4 + l) 0 = 100 ∧ G (4 + l) 1 = 120 ∧ G (4 + l) 2 = 0 ∧ G (4 + l) 3 = 0 ∧ G (4 + l) 4 = 999) ∧ G 8 1 = 0 ∧ G 58 9 = 0 ∧ (∀ f, f < 6 → G 28 f = -1 ∧ G 29 f = 0) ∧ G 10 3 = 0 ∧ G 58 6 = 0 ∧ G 0 12 = 0 ∧ G 58 33 = -1
def relB (G : SG) : Bool := decide (G 0 9 = 0) && (decide (G 58 0 = 0) && ((List.range 12).all (fun p => decide (G 59 p = G 1 p)) && (decide (G 0 10 = 0) && (decide (G 58 2 = 0) && ((List.range 6).all (fun f => decide (G 60 f = G 2 f)) && (decide (G 0 11 = 0) && (decide (G 58 10 = 0) && ((List.range 4).all (fun l => decide (G (4 + l) 0 = 100) && (decide (G (4 + l) 1 = 120) && (decide (G (4 + l) 2 = 0) && (decide (G (4 + l) 3 = 0) && decide (G (4 + l) 4 = 999))))) && (decide (G 8 1 = 0) && (decide (G 58 9 = 0) && ((List.range 6).all (fun f => decide (G 28 f = -1) && decide (G 29 f = 0)) && (decide (G 10 3 = 0) && (decide (G 58 6 = 0) && (decide (G 0 12 = 0) && decide (G 58 33 = -1)))))))))))))))
theorem relB_P {G : SG} (h : relB G = true) : relP G := by
  unfold relB at h
  simp only [Bool.and_eq_true, decide_eq_true_eq, List.all_eq_true, List.mem_range] at h
  exact h
def iniB : Bool := match ini1, ini2 with
  | some r1, some r2 => decide (r1.1.1.length = 58) && r1.2.isNone && decide (r2.1.1 = KF) && r2.2.isNone && relB r2.1.2.1 && eqR r2.1.2.2.2
  | _, _ => false
theorem iniB_ok : iniB = true := by decide +kernel
