/-! AN INTERPRETER over abstract cells: cell c stands at the address sz + c -/
abbrev KD : Type := (Nat × Nat) ⊕ Nat
abbrev SG : Type := Nat → Nat → Int32
abbrev SJ : Type := Nat → Nat → Int64
abbrev SR : Type := Nat → Nat → Option Nat
abbrev LV : Type := List (Option Value)
abbrev STO : Type := List KD × SG × SJ × SR
abbrev RES : Type := STO × Option Value
abbrev FRM : Type := Nat × LV × List Value
abbrev ACT : Type := (FRM × STO) ⊕ (RES ⊕ (Nat × List Value × FRM))
def up2 {α : Type} (f : Nat → Nat → α) (c k : Nat) (v : α) : Nat → Nat → α := fun a b => if a = c ∧ b = k then v else f a b
def zr {α : Type} (f : Nat → Nat → α) (c : Nat) (v : α) : Nat → Nat → α := fun a b => if a = c then v else f a b
def aty (t : Nat) : FieldType := match t with
  | 0 => .int
  | 1 => .boolean
  | t => .object (cnm t)
def rv (q : Option Nat) : Value := match q with
  | some a => .ref a
  | none => .null
def fv (G : SG) (J : SJ) (R : SR) (ty : FieldType) (c s : Nat) : Value := match ty with
  | .long => .long (J c s)
  | .object _ => rv (R c s)
  | .array _ => rv (R c s)
  | _ => .int (G c s)
def wrF (ty : FieldType) (v : Value) (c s : Nat) (G : SG) (J : SJ) (R : SR) : Option (SG × SJ × SR) := match ty, v with
  | .int, .int x => some (up2 G c s x, J, R)
  | .boolean, .int x => if x = 0 ∨ x = 1 then some (up2 G c s x, J, R) else none
  | .long, .long x => some (G, up2 J c s x, R)
  | .object _, .ref q => some (G, J, up2 R c s (some q))
  | .array _, .ref q => some (G, J, up2 R c s (some q))
  | _, _ => none
section POPS
variable {α : Type}
def popI (st : List Value) (f : Int32 → List Value → Option α) : Option α := match st with
  | .int x :: r => f x r
  | _ => none
def popL (st : List Value) (f : Int64 → List Value → Option α) : Option α := match st with
  | .long x :: r => f x r
  | _ => none
def popR (st : List Value) (f : Nat → List Value → Option α) : Option α := match st with
  | .ref x :: r => f x r
  | _ => none
def popV (st : List Value) (f : Value → List Value → Option α) : Option α := match st with
  | v :: r => f v r
  | _ => none
def gI (L : LV) (i : Nat) (f : Int32 → Option α) : Option α := match L[i]? with
  | some (some (.int x)) => f x
  | _ => none
def gL (L : LV) (i : Nat) (f : Int64 → Option α) : Option α := match L[i]? with
  | some (some (.long x)) => f x
  | _ => none
def gR (L : LV) (i : Nat) (f : Nat → Option α) : Option α := match L[i]? with
  | some (some (.ref x)) => f x
  | _ => none
def cl (o : Option Value) : Option Value := match o with
  | some v => if v.category = 2 then none else some v
  | none => none
def clr (L : LV) (i : Nat) : LV := match i with
  | 0 => L
  | j + 1 => L.set j (cl (L.getD j none))
def set1 (L : LV) (i : Nat) (v : Value) (f : LV → Option α) : Option α := if i < L.length then f ((clr L i).set i (some v)) else none
def set2 (L : LV) (i : Nat) (v : Value) (f : LV → Option α) : Option α := if i + 1 < L.length then f (((clr L i).set i (some v)).set (i + 1) none) else none
def jp (pc : Nat) (off : Int) (f : Nat → Option α) : Option α := if (pc : Int) + off = (((pc : Int) + off).toNat : Int) then f ((pc : Int) + off).toNat else none
end POPS
def nx (pc : Nat) (L : LV) (st : List Value) (K : List KD) (G : SG) (J : SJ) (R : SR) : Option ACT := some (.inl ((pc, L, st), (K, G, J, R)))
def cmpB (op : Jvm.ClassFile.Cond) (x y : Int32) : Bool := match op with
  | .eq => decide (x = y)
  | .ne => decide (x ≠ y)
  | .lt => decide (x < y)
  | .ge => decide (y ≤ x)
  | .gt => decide (y < x)
  | .le => decide (x ≤ y)
def inb (i : Int32) (n : Nat) : Bool := !(decide (i < 0) || decide (n ≤ i.toNatClampNeg))
def entA (as : List Value) : LV := as.flatMap (fun v => if v.category = 2 then [some v, none] else [some v])
def entL (n : Nat) (as : List Value) : LV := entA as ++ List.replicate (n - (entA as).length) none
def okl (ins : Instr) (len : Nat) : Bool := match ins with
  | .tableswitch _ _ _ _ => true
  | .bipush _ | .ldc _ | .iload _ | .lload _ | .aload _ | .istore _ | .lstore _ | .astore _ | .newarray _ => len == 2
  | .sipush _ | .ldc2_w _ | .ldc_w _ | .iinc _ _ | .goto _ | .ifCond _ _ | .if_icmp _ _ | .getfield _ | .putfield _ | .anewarray _ | .new _ | .invokevirtual _ | .invokestatic _ | .invokespecial _ => len == 3
  | _ => len == 1
def calA (k k' : Nat) (as : List Value) (pc : Nat) (L : LV) (r : List Value) : Option ACT := if k' < 169 ∧ mdp k' < mdp k ∧ r.length ≤ 4 ∧ (entA as).length ≤ mL k' then some (.inr (.inr (k', as, (pc + 3, L, r)))) else none
def bI (st : List Value) (f : Int32 → Int32 → Int32) (g : List Value → Option ACT) : Option ACT := popI st fun y r => popI r fun x r => g (.int (f x y) :: r)
def bL (st : List Value) (f : Int64 → Int64 → Int64) (g : List Value → Option ACT) : Option ACT := popL st fun y r => popL r fun x r => g (.long (f x y) :: r)
def stepJ (k : Nat) (ins : Instr) (pc : Nat) (L : LV) (st : List Value) (K : List KD) (G : SG) (J : SJ) (R : SR) : Option ACT := match ins with
  | .iconst n => nx (pc + 1) L (.int (Int32.ofInt n) :: st) K G J R
  | .bipush n => nx (pc + 2) L (.int (Int8.ofInt n).toInt32 :: st) K G J R
  | .sipush n => nx (pc + 3) L (.int (Int16.ofInt n).toInt32 :: st) K G J R
  | .lconst n => nx (pc + 1) L (.long (Int64.ofNat (n : Nat)) :: st) K G J R
  | .ldc i => match kc (mo k) i with
    | some v => nx (pc + 2) L (.int v :: st) K G J R
    | none => none
  | .ldc_w i => match kc (mo k) i with
    | some v => nx (pc + 3) L (.int v :: st) K G J R
    | none => none
  | .ldc2_w i => match kl (mo k) i with
    | some v => nx (pc + 3) L (.long v :: st) K G J R
    | none => none
  | .iload_n i => gI L i fun x => nx (pc + 1) L (.int x :: st) K G J R
  | .iload i => gI L i fun x => nx (pc + 2) L (.int x :: st) K G J R
  | .lload_n i => gL L i fun x => nx (pc + 1) L (.long x :: st) K G J R
  | .lload i => gL L i fun x => nx (pc + 2) L (.long x :: st) K G J R
  | .aload_n i => gR L i fun x => nx (pc + 1) L (.ref x :: st) K G J R
  | .aload i => gR L i fun x => nx (pc + 2) L (.ref x :: st) K G J R
  | .istore_n i => popI st fun x r => set1 L i (.int x) fun L => nx (pc + 1) L r K G J R
  | .istore i => popI st fun x r => set1 L i (.int x) fun L => nx (pc + 2) L r K G J R
  | .lstore_n i => popL st fun x r => set2 L i (.long x) fun L => nx (pc + 1) L r K G J R
  | .lstore i => popL st fun x r => set2 L i (.long x) fun L => nx (pc + 2) L r K G J R
  | .astore_n i => popR st fun x r => set1 L i (.ref x) fun L => nx (pc + 1) L r K G J R
  | .astore i => popR st fun x r => set1 L i (.ref x) fun L => nx (pc + 2) L r K G J R
  | .iinc i n => gI L i fun x => set1 L i (.int (x + Int32.ofInt n)) fun L => nx (pc + 3) L st K G J R
  | .dup => popV st fun v r => if v.category = 1 then nx (pc + 1) L (v :: v :: r) K G J R else none
  | .pop => popV st fun v r => if v.category = 1 then nx (pc + 1) L r K G J R else none
  | .dup2 => popV st fun v r => popV r fun w r => if v.category = 1 ∧ w.category = 1 then nx (pc + 1) L (v :: w :: v :: w :: r) K G J R else none
  | .iadd => bI st (fun x y => x + y) fun st => nx (pc + 1) L st K G J R
  | .isub => bI st (fun x y => x - y) fun st => nx (pc + 1) L st K G J R
  | .imul => bI st (fun x y => x * y) fun st => nx (pc + 1) L st K G J R
  | .iand => bI st (fun x y => x &&& y) fun st => nx (pc + 1) L st K G J R
  | .ior => bI st (fun x y => x ||| y) fun st => nx (pc + 1) L st K G J R
  | .ixor => bI st (fun x y => x ^^^ y) fun st => nx (pc + 1) L st K G J R
  | .ishl => bI st (fun x y => x <<< (y &&& 31)) fun st => nx (pc + 1) L st K G J R
  | .ishr => bI st (fun x y => x >>> (y &&& 31)) fun st => nx (pc + 1) L st K G J R
  | .iushr => bI st (fun x y => (x.toUInt32 >>> (y.toUInt32 &&& Int32.toUInt32 31)).toInt32) fun st => nx (pc + 1) L st K G J R
  | .ineg => popI st fun x r => nx (pc + 1) L (.int (-x) :: r) K G J R
  | .idiv => popI st fun y r => popI r fun x r => if y = 0 then none else nx (pc + 1) L (.int (x / y) :: r) K G J R
  | .irem => popI st fun y r => popI r fun x r => if y = 0 then none else nx (pc + 1) L (.int (x - x / y * y) :: r) K G J R
  | .i2l => popI st fun x r => nx (pc + 1) L (.long x.toInt64 :: r) K G J R
  | .l2i => popL st fun x r => nx (pc + 1) L (.int x.toInt32 :: r) K G J R
  | .ladd => bL st (fun x y => x + y) fun st => nx (pc + 1) L st K G J R
  | .lmul => bL st (fun x y => x * y) fun st => nx (pc + 1) L st K G J R
  | .land => bL st (fun x y => x &&& y) fun st => nx (pc + 1) L st K G J R
  | .lor => bL st (fun x y => x ||| y) fun st => nx (pc + 1) L st K G J R
  | .lushr => popI st fun y r => popL r fun x r => nx (pc + 1) L (.long (x.toUInt64 >>> (y.toInt64.toUInt64 &&& Int64.toUInt64 63)).toInt64 :: r) K G J R
  | .lshl => popI st fun y r => popL r fun x r => nx (pc + 1) L (.long (x <<< (y.toInt64 &&& 63)) :: r) K G J R
  | .lcmp => popL st fun y r => popL r fun x r => nx (pc + 1) L (.int (lg_cmp x y) :: r) K G J R
  | .goto off => jp pc off fun t => nx t L st K G J R
  | .ifCond op off => popI st fun x r => jp pc off fun t => if cmpB op x 0 = true then nx t L r K G J R else nx (pc + 3) L r K G J R
  | .if_icmp op off => popI st fun y r => popI r fun x r => jp pc off fun t => if cmpB op x y = true then nx t L r K G J R else nx (pc + 3) L r K G J R
  | .tableswitch dflt lo hi offs => popI st fun x r => if x.toInt < lo ∨ hi < x.toInt then jp pc dflt fun t => nx t L r K G J R else match offs[(x.toInt - lo).toNat]? with
    | some off => jp pc off fun t => nx t L r K G J R
    | none => none
  | .getfield i => match fl (mo k) i with
    | some (ci, s) => popR st fun c r => if K[c]? = some (.inr ci) then nx (pc + 3) L (fv G J R (cTy ci s) c s :: r) K G J R else none
    | none => none
  | .putfield i => match fl (mo k) i with
    | some (ci, s) => popV st fun v r => popR r fun c r => if K[c]? = some (.inr ci) ∧ ((cT ci s).2.2.2 = false ∨ ((cT ci s).2.2.2 = true ∧ mkd k = 2 ∧ ci = mo k)) then (match wrF (cTy ci s) v c s G J R with
      | some (G', J', R') => nx (pc + 3) L r K G' J' R'
      | none => none) else none
    | none => none
  | .iaload => popI st fun i r => popR r fun c r => match K[c]? with
    | some (.inl (0, n)) => if inb i n = true then nx (pc + 1) L (.int (G c i.toNatClampNeg) :: r) K G J R else none
    | _ => none
  | .baload => popI st fun i r => popR r fun c r => match K[c]? with
    | some (.inl (1, n)) => if inb i n = true then nx (pc + 1) L (.int (G c i.toNatClampNeg) :: r) K G J R else none
    | _ => none
  | .aaload => popI st fun i r => popR r fun c r => match K[c]? with
    | some (.inl (t + 2, n)) => if inb i n = true ∧ t < 2 then nx (pc + 1) L (rv (R c i.toNatClampNeg) :: r) K G J R else none
    | _ => none
  | .iastore => popI st fun x r => popI r fun i r => popR r fun c r => match K[c]? with
    | some (.inl (0, n)) => if inb i n = true then nx (pc + 1) L r K (up2 G c i.toNatClampNeg x) J R else none
    | _ => none
  | .bastore => popI st fun x r => popI r fun i r => popR r fun c r => match K[c]? with
    | some (.inl (1, n)) => if inb i n = true ∧ (x = 0 ∨ x = 1) then nx (pc + 1) L r K (up2 G c i.toNatClampNeg x) J R else none
    | _ => none
  | .aastore => popR st fun q r => popI r fun i r => popR r fun c r => match K[c]? with
    | some (.inl (t + 2, n)) => if inb i n = true ∧ K[q]? = some (.inr (t + 2)) ∧ t < 2 then nx (pc + 1) L r K G J (up2 R c i.toNatClampNeg (some q)) else none
    | _ => none
  | .arraylength => popR st fun c r => match K[c]? with
    | some (.inl (t, n)) => if t < 4 then nx (pc + 1) L (.int (Int32.ofNat n) :: r) K G J R else none
    | _ => none
  | .newarray ty => popI st fun x r => if ¬ x < 0 ∧ x.toNatClampNeg ≤ 1000 then (match ty with
    | .int => nx (pc + 2) L (.ref K.length :: r) (K ++ [.inl (0, x.toNatClampNeg)]) (zr G K.length 0) J R
    | .boolean => nx (pc + 2) L (.ref K.length :: r) (K ++ [.inl (1, x.toNatClampNeg)]) (zr G K.length 0) J R
    | _ => none) else none
  | .anewarray i => match clk (mo k) i with
    | some ci => popI st fun x r => if ¬ x < 0 ∧ x.toNatClampNeg ≤ 1000 ∧ (ci = 2 ∨ ci = 3) then nx (pc + 3) L (.ref K.length :: r) (K ++ [.inl (ci, x.toNatClampNeg)]) G J (zr R K.length none) else none
    | none => none
  | .new i => match clk (mo k) i with
    | some ci => nx (pc + 3) L (.ref K.length :: st) (K ++ [.inr ci]) (zr G K.length 0) (zr J K.length 0) (zr R K.length none)
    | none => none
  | .ireturn => match st with
    | [.int v] => if mret k = some .int ∨ (mret k = some .boolean ∧ (v = 0 ∨ v = 1)) then some (.inr (.inl ((K, G, J, R), some (.int v)))) else none
    | _ => none
  | .lreturn => match st with
    | [.long v] => if mret k = some .long then some (.inr (.inl ((K, G, J, R), some (.long v)))) else none
    | _ => none
  | .return_ => match st with
    | [] => if mret k = none then some (.inr (.inl ((K, G, J, R), none))) else none
    | _ => none
  | .invokevirtual i => match ml (mo k) i with
    | some k' => if mnp k' ≤ st.length then popR (st.drop (mnp k')) fun c r => if K[c]? = some (.inr (mo k')) ∧ mkd k' = 1 then calA k k' (.ref c :: (st.take (mnp k')).reverse) pc L r else none else none
    | none => none
  | .invokestatic i => match ml (mo k) i with
    | some k' => if k' = 169 then popI st fun y r => popI r fun x r => if 1 ≤ mdp k ∧ r.length ≤ 4 then nx (pc + 3) L (.int (if y < x then y else x) :: r) K G J R else none else if mnp k' ≤ st.length ∧ mkd k' = 0 then calA k k' (st.take (mnp k')).reverse pc L (st.drop (mnp k')) else none
    | none => none
  | .invokespecial i => if ol (mo k) i = true then popR st fun _ r => if 1 ≤ mdp k ∧ r.length ≤ 4 then nx (pc + 3) L r K G J R else none else match ml (mo k) i with
    | some k' => if mnp k' ≤ st.length then popR (st.drop (mnp k')) fun c r => if mkd k' = 2 then calA k k' (.ref c :: (st.take (mnp k')).reverse) pc L r else none else none
    | none => none
  | _ => none
def stepI (k pc : Nat) (L : LV) (st : List Value) (K : List KD) (G : SG) (J : SJ) (R : SR) : Option ACT := match decode (mb k) pc with
  | .ok (ins, len) => if okl ins len = true then stepJ k ins pc L st K G J R else none
  | .error _ => none
def exec : Nat → Nat → Nat → LV → List Value → List KD → SG → SJ → SR → Option RES
  | 0, _, _, _, _, _, _, _, _ => none
  | n + 1, k, pc, L, st, K, G, J, R => match stepI k pc L st K G J R with
    | none => none
    | some (.inl ((pc', L', st'), (K', G', J', R'))) => exec n k pc' L' st' K' G' J' R'
    | some (.inr (.inl r)) => some r
    | some (.inr (.inr (k', as, (pc', L', st')))) => match exec n k' 0 (entL (mL k') as) [] K G J R with
      | none => none
      | some ((K', G', J', R'), v) => exec n k pc' L' (v.toList ++ st') K' G' J' R'
theorem exec_mono : ∀ (n : Nat) (k pc : Nat) (L : LV) (st : List Value) (K : List KD) (G : SG) (J : SJ) (R : SR) (r : RES), exec n k pc L st K G J R = some r → exec (n + 1) k pc L st K G J R = some r := by
  intro n
  induction n with
  | zero => intro k pc L st K G J R r h; cases h
  | succ n ih =>
    intro k pc L st K G J R r h
    rw [exec] at h ⊢
    cases hs : stepI k pc L st K G J R with
    | none => rw [hs] at h; cases h
    | some a =>
      rw [hs] at h
      obtain ⟨⟨pc', L', st'⟩, K', G', J', R'⟩ | r' | ⟨k', as, pc', L', st'⟩ := a
      · exact ih _ _ _ _ _ _ _ _ _ h
      · exact h
      · dsimp only at h ⊢
        cases hc : exec n k' 0 (entL (mL k') as) [] K G J R with
        | none => rw [hc] at h; cases h
        | some q =>
          obtain ⟨⟨K', G', J', R'⟩, v⟩ := q
          rw [hc] at h
          rw [ih _ _ _ _ _ _ _ _ _ hc]
          exact ih _ _ _ _ _ _ _ _ _ h
theorem exec_le {n m : Nat} (hnm : n ≤ m) {k pc : Nat} {L : LV} {st : List Value} {K : List KD} {G : SG} {J : SJ} {R : SR} {r : RES} (h : exec n k pc L st K G J R = some r) : exec m k pc L st K G J R = some r := by
  induction hnm with
  | refl => exact h
  | step _ ih => exact exec_mono _ _ _ _ _ _ _ _ _ _ ih
