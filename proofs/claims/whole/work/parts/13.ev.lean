/-! what the interpreter comes to, without its fuel -/
noncomputable def ev (k pc : Nat) (L : LV) (st : List Value) (K : List KD) (G : SG) (J : SJ) (R : SR) : Option RES :=
  @dite _ (∃ (r : RES) (n : Nat), exec n k pc L st K G J R = some r) (Classical.propDecidable _) (fun h => some h.choose) (fun _ => none)
noncomputable def run (k : Nat) (as : List Value) (K : List KD) (G : SG) (J : SJ) (R : SR) : Option RES := ev k 0 (entL (mL k) as) [] K G J R
def kont (x : Option RES) (f : Option Value → List KD → SG → SJ → SR → Option RES) : Option RES := match x with
  | some ((K, G, J, R), v) => f v K G J R
  | none => none
theorem kont_some (K : List KD) (G : SG) (J : SJ) (R : SR) (v : Option Value) (f : Option Value → List KD → SG → SJ → SR → Option RES) : kont (some ((K, G, J, R), v)) f = f v K G J R := rfl
section EV
variable {k pc pc' : Nat} {L L' : LV} {st st' : List Value} {K K' : List KD} {G G' : SG} {J J' : SJ} {R R' : SR} {r : RES}
theorem ev_some : ev k pc L st K G J R = some r ↔ ∃ n, exec n k pc L st K G J R = some r := by
  unfold ev
  constructor
  · intro h
    split at h
    · next hx =>
      cases h
      exact hx.choose_spec
    · cases h
  · rintro ⟨n, h⟩
    have hx : ∃ (r : RES) (n : Nat), exec n k pc L st K G J R = some r := ⟨r, n, h⟩
    rw [dif_pos hx]
    obtain ⟨n2, h2⟩ := hx.choose_spec
    have h3 := exec_le (Nat.le_max_left n n2) h
    have h4 := exec_le (Nat.le_max_right n n2) h2
    exact h4.symm.trans h3
theorem opt_ext {α : Type} {x y : Option α} (h : ∀ a, x = some a ↔ y = some a) : x = y := by
  cases x with
  | none =>
    cases y with
    | none => rfl
    | some b => exact ((h b).mpr rfl)
  | some a => exact ((h a).mp rfl).symm
theorem ev_next (h : stepI k pc L st K G J R = some (.inl ((pc', L', st'), (K', G', J', R')))) : ev k pc L st K G J R = ev k pc' L' st' K' G' J' R' := by
  apply opt_ext
  intro r
  rw [ev_some, ev_some]
  constructor
  · rintro ⟨n, hn⟩
    cases n with
    | zero => cases hn
    | succ n =>
      rw [exec, h] at hn
      exact ⟨n, hn⟩
  · rintro ⟨n, hn⟩
    exact ⟨n + 1, by rw [exec, h]; exact hn⟩
theorem ev_ret (h : stepI k pc L st K G J R = some (.inr (.inl r))) : ev k pc L st K G J R = some r := ev_some.mpr ⟨1, by rw [exec, h]⟩
theorem ev_call {k' : Nat} {as : List Value} (h : stepI k pc L st K G J R = some (.inr (.inr (k', as, (pc', L', st'))))) : ev k pc L st K G J R = kont (run k' as K G J R) (fun v K G J R => ev k pc' L' (v.toList ++ st') K G J R) := by
  apply opt_ext
  intro r
  rw [ev_some]
  constructor
  · rintro ⟨n, hn⟩
    cases n with
    | zero => cases hn
    | succ n =>
      rw [exec, h] at hn
      dsimp only at hn
      cases hc : exec n k' 0 (entL (mL k') as) [] K G J R with
      | none => rw [hc] at hn; cases hn
      | some q =>
        obtain ⟨⟨K', G', J', R'⟩, v⟩ := q
        rw [hc] at hn
        have h1 : run k' as K G J R = some ((K', G', J', R'), v) := ev_some.mpr ⟨n, hc⟩
        rw [h1, kont_some]
        exact ev_some.mpr ⟨n, hn⟩
  · intro hk
    cases hc : run k' as K G J R with
    | none => rw [hc] at hk; cases hk
    | some q =>
      obtain ⟨⟨K', G', J', R'⟩, v⟩ := q
      rw [hc, kont_some] at hk
      obtain ⟨n1, h1⟩ := ev_some.mp hc
      obtain ⟨n2, h2⟩ := ev_some.mp hk
      refine ⟨max n1 n2 + 1, ?_⟩
      rw [exec, h]
      dsimp only
      rw [exec_le (Nat.le_max_left n1 n2) h1]
      exact exec_le (Nat.le_max_right n1 n2) h2
variable {b : ByteArray} {o : Nat}
theorem stepI_of {ins : Instr} {len : Nat} (hb : mb k = b) (hd : decode b pc = .ok (ins, len)) (hl : okl ins len = true) : stepI k pc L st K G J R = stepJ k ins pc L st K G J R := by
  subst hb
  unfold stepI
  rw [hd]
  exact if_pos hl
theorem e_iconst (hb : mb k = b) {n : Int} {v : Int32} (hd : decode b pc = .ok (.iconst n, 1)) (hv : Int32.ofInt n = v) : ev k pc L st K G J R = ev k (pc + 1) L (.int v :: st) K G J R := by subst hv; exact ev_next (stepI_of hb hd rfl)
theorem e_bipush (hb : mb k = b) {n : Int} {v : Int32} (hd : decode b pc = .ok (.bipush n, 2)) (hv : (Int8.ofInt n).toInt32 = v) : ev k pc L st K G J R = ev k (pc + 2) L (.int v :: st) K G J R := by subst hv; exact ev_next (stepI_of hb hd rfl)
theorem e_sipush (hb : mb k = b) {n : Int} {v : Int32} (hd : decode b pc = .ok (.sipush n, 3)) (hv : (Int16.ofInt n).toInt32 = v) : ev k pc L st K G J R = ev k (pc + 3) L (.int v :: st) K G J R := by subst hv; exact ev_next (stepI_of hb hd rfl)
theorem e_lconst (hb : mb k = b) {n : Fin 2} {v : Int64} (hd : decode b pc = .ok (.lconst n, 1)) (hv : Int64.ofNat (n : Nat) = v) : ev k pc L st K G J R = ev k (pc + 1) L (.long v :: st) K G J R := by subst hv; exact ev_next (stepI_of hb hd rfl)
theorem e_ldc (hb : mb k = b) (ho : mo k = o) {i : Nat} {v : Int32} (hd : decode b pc = .ok (.ldc i, 2)) (hv : kc o i = some v) : ev k pc L st K G J R = ev k (pc + 2) L (.int v :: st) K G J R := by
  subst ho
  exact ev_next ((stepI_of hb hd rfl).trans (by simp only [stepJ, hv]; rfl))
theorem e_ldc_w (hb : mb k = b) (ho : mo k = o) {i : Nat} {v : Int32} (hd : decode b pc = .ok (.ldc_w i, 3)) (hv : kc o i = some v) : ev k pc L st K G J R = ev k (pc + 3) L (.int v :: st) K G J R := by
  subst ho
  exact ev_next ((stepI_of hb hd rfl).trans (by simp only [stepJ, hv]; rfl))
theorem e_ldc2_w (hb : mb k = b) (ho : mo k = o) {i : Nat} {v : Int64} (hd : decode b pc = .ok (.ldc2_w i, 3)) (hv : kl o i = some v) : ev k pc L st K G J R = ev k (pc + 3) L (.long v :: st) K G J R := by
  subst ho
  exact ev_next ((stepI_of hb hd rfl).trans (by simp only [stepJ, hv]; rfl))
theorem gI_eq {α : Type} {i : Nat} {x : Int32} {f : Int32 → Option α} (h : L[i]? = some (some (.int x))) : gI L i f = f x := by unfold gI; rw [h]
theorem gL_eq {α : Type} {i : Nat} {x : Int64} {f : Int64 → Option α} (h : L[i]? = some (some (.long x))) : gL L i f = f x := by unfold gL; rw [h]
theorem gR_eq {α : Type} {i : Nat} {x : Nat} {f : Nat → Option α} (h : L[i]? = some (some (.ref x))) : gR L i f = f x := by unfold gR; rw [h]
theorem e_iload_n (hb : mb k = b) {i : Fin 4} {x : Int32} (hd : decode b pc = .ok (.iload_n i, 1)) (h : L[(i : Nat)]? = some (some (.int x))) : ev k pc L st K G J R = ev k (pc + 1) L (.int x :: st) K G J R := ev_next ((stepI_of hb hd rfl).trans (by simp only [stepJ]; rw [gI_eq h]; rfl))
theorem e_iload (hb : mb k = b) {i : Nat} {x : Int32} (hd : decode b pc = .ok (.iload i, 2)) (h : L[i]? = some (some (.int x))) : ev k pc L st K G J R = ev k (pc + 2) L (.int x :: st) K G J R := ev_next ((stepI_of hb hd rfl).trans (by simp only [stepJ]; rw [gI_eq h]; rfl))
theorem e_lload_n (hb : mb k = b) {i : Fin 4} {x : Int64} (hd : decode b pc = .ok (.lload_n i, 1)) (h : L[(i : Nat)]? = some (some (.long x))) : ev k pc L st K G J R = ev k (pc + 1) L (.long x :: st) K G J R := ev_next ((stepI_of hb hd rfl).trans (by simp only [stepJ]; rw [gL_eq h]; rfl))
theorem e_lload (hb : mb k = b) {i : Nat} {x : Int64} (hd : decode b pc = .ok (.lload i, 2)) (h : L[i]? = some (some (.long x))) : ev k pc L st K G J R = ev k (pc + 2) L (.long x :: st) K G J R := ev_next ((stepI_of hb hd rfl).trans (by simp only [stepJ]; rw [gL_eq h]; rfl))
theorem e_aload_n (hb : mb k = b) {i : Fin 4} {x : Nat} (hd : decode b pc = .ok (.aload_n i, 1)) (h : L[(i : Nat)]? = some (some (.ref x))) : ev k pc L st K G J R = ev k (pc + 1) L (.ref x :: st) K G J R := ev_next ((stepI_of hb hd rfl).trans (by simp only [stepJ]; rw [gR_eq h]; rfl))
theorem e_aload (hb : mb k = b) {i : Nat} {x : Nat} (hd : decode b pc = .ok (.aload i, 2)) (h : L[i]? = some (some (.ref x))) : ev k pc L st K G J R = ev k (pc + 2) L (.ref x :: st) K G J R := ev_next ((stepI_of hb hd rfl).trans (by simp only [stepJ]; rw [gR_eq h]; rfl))
theorem set1_eq {α : Type} {i : Nat} {v : Value} {f : LV → Option α} (hi : i < L.length) (h : (clr L i).set i (some v) = L') : set1 L i v f = f L' := by unfold set1; rw [if_pos hi, h]
theorem set2_eq {α : Type} {i : Nat} {v : Value} {f : LV → Option α} (hi : i + 1 < L.length) (h : ((clr L i).set i (some v)).set (i + 1) none = L') : set2 L i v f = f L' := by unfold set2; rw [if_pos hi, h]
theorem e_istore_n (hb : mb k = b) {i : Fin 4} {x : Int32} (hd : decode b pc = .ok (.istore_n i, 1)) (hi : (i : Nat) < L.length) (h : (clr L i).set i (some (.int x)) = L') : ev k pc L (.int x :: st) K G J R = ev k (pc + 1) L' st K G J R := ev_next ((stepI_of hb hd rfl).trans (by simp only [stepJ, popI]; rw [set1_eq hi h]; rfl))
theorem e_istore (hb : mb k = b) {i : Nat} {x : Int32} (hd : decode b pc = .ok (.istore i, 2)) (hi : (i : Nat) < L.length) (h : (clr L i).set i (some (.int x)) = L') : ev k pc L (.int x :: st) K G J R = ev k (pc + 2) L' st K G J R := ev_next ((stepI_of hb hd rfl).trans (by simp only [stepJ, popI]; rw [set1_eq hi h]; rfl))
theorem e_astore_n (hb : mb k = b) {i : Fin 4} {x : Nat} (hd : decode b pc = .ok (.astore_n i, 1)) (hi : (i : Nat) < L.length) (h : (clr L i).set i (some (.ref x)) = L') : ev k pc L (.ref x :: st) K G J R = ev k (pc + 1) L' st K G J R := ev_next ((stepI_of hb hd rfl).trans (by simp only [stepJ, popR]; rw [set1_eq hi h]; rfl))
theorem e_astore (hb : mb k = b) {i : Nat} {x : Nat} (hd : decode b pc = .ok (.astore i, 2)) (hi : (i : Nat) < L.length) (h : (clr L i).set i (some (.ref x)) = L') : ev k pc L (.ref x :: st) K G J R = ev k (pc + 2) L' st K G J R := ev_next ((stepI_of hb hd rfl).trans (by simp only [stepJ, popR]; rw [set1_eq hi h]; rfl))
theorem e_lstore_n (hb : mb k = b) {i : Fin 4} {x : Int64} (hd : decode b pc = .ok (.lstore_n i, 1)) (hi : (i : Nat) + 1 < L.length) (h : ((clr L i).set i (some (.long x))).set (i + 1) none = L') : ev k pc L (.long x :: st) K G J R = ev k (pc + 1) L' st K G J R := ev_next ((stepI_of hb hd rfl).trans (by simp only [stepJ, popL]; rw [set2_eq hi h]; rfl))
theorem e_lstore (hb : mb k = b) {i : Nat} {x : Int64} (hd : decode b pc = .ok (.lstore i, 2)) (hi : (i : Nat) + 1 < L.length) (h : ((clr L i).set i (some (.long x))).set (i + 1) none = L') : ev k pc L (.long x :: st) K G J R = ev k (pc + 2) L' st K G J R := ev_next ((stepI_of hb hd rfl).trans (by simp only [stepJ, popL]; rw [set2_eq hi h]; rfl))
theorem e_iinc (hb : mb k = b) {i : Nat} {n : Int} {x c : Int32} (hd : decode b pc = .ok (.iinc i n, 3)) (hx : L[i]? = some (some (.int x))) (hc : Int32.ofInt n = c) (hi : i < L.length) (h : (clr L i).set i (some (.int (x + c))) = L') : ev k pc L st K G J R = ev k (pc + 3) L' st K G J R := by
  subst hc
  exact ev_next ((stepI_of hb hd rfl).trans (by simp only [stepJ]; rw [gI_eq hx, set1_eq hi h]; rfl))
theorem e_dupI (hb : mb k = b) {x : Int32} (hd : decode b pc = .ok (.dup, 1)) : ev k pc L (.int x :: st) K G J R = ev k (pc + 1) L (.int x :: .int x :: st) K G J R := ev_next ((stepI_of hb hd rfl).trans rfl)
theorem e_dupR (hb : mb k = b) {x : Nat} (hd : decode b pc = .ok (.dup, 1)) : ev k pc L (.ref x :: st) K G J R = ev k (pc + 1) L (.ref x :: .ref x :: st) K G J R := ev_next ((stepI_of hb hd rfl).trans rfl)
theorem e_popI (hb : mb k = b) {x : Int32} (hd : decode b pc = .ok (.pop, 1)) : ev k pc L (.int x :: st) K G J R = ev k (pc + 1) L st K G J R := ev_next ((stepI_of hb hd rfl).trans rfl)
theorem e_dup2IR (hb : mb k = b) {x : Int32} {y : Nat} (hd : decode b pc = .ok (.dup2, 1)) : ev k pc L (.int x :: .ref y :: st) K G J R = ev k (pc + 1) L (.int x :: .ref y :: .int x :: .ref y :: st) K G J R := ev_next ((stepI_of hb hd rfl).trans rfl)
theorem e_iadd (hb : mb k = b) {x y : Int32} (hd : decode b pc = .ok (.iadd, 1)) : ev k pc L (.int y :: .int x :: st) K G J R = ev k (pc + 1) L (.int (x + y) :: st) K G J R := ev_next ((stepI_of hb hd rfl).trans rfl)
theorem e_isub (hb : mb k = b) {x y : Int32} (hd : decode b pc = .ok (.isub, 1)) : ev k pc L (.int y :: .int x :: st) K G J R = ev k (pc + 1) L (.int (x - y) :: st) K G J R := ev_next ((stepI_of hb hd rfl).trans rfl)
theorem e_imul (hb : mb k = b) {x y : Int32} (hd : decode b pc = .ok (.imul, 1)) : ev k pc L (.int y :: .int x :: st) K G J R = ev k (pc + 1) L (.int (x * y) :: st) K G J R := ev_next ((stepI_of hb hd rfl).trans rfl)
theorem e_iand (hb : mb k = b) {x y : Int32} (hd : decode b pc = .ok (.iand, 1)) : ev k pc L (.int y :: .int x :: st) K G J R = ev k (pc + 1) L (.int (x &&& y) :: st) K G J R := ev_next ((stepI_of hb hd rfl).trans rfl)
theorem e_ior (hb : mb k = b) {x y : Int32} (hd : decode b pc = .ok (.ior, 1)) : ev k pc L (.int y :: .int x :: st) K G J R = ev k (pc + 1) L (.int (x ||| y) :: st) K G J R := ev_next ((stepI_of hb hd rfl).trans rfl)
theorem e_ixor (hb : mb k = b) {x y : Int32} (hd : decode b pc = .ok (.ixor, 1)) : ev k pc L (.int y :: .int x :: st) K G J R = ev k (pc + 1) L (.int (x ^^^ y) :: st) K G J R := ev_next ((stepI_of hb hd rfl).trans rfl)
theorem e_ishl (hb : mb k = b) {x y : Int32} (hd : decode b pc = .ok (.ishl, 1)) : ev k pc L (.int y :: .int x :: st) K G J R = ev k (pc + 1) L (.int (x <<< (y &&& 31)) :: st) K G J R := ev_next ((stepI_of hb hd rfl).trans rfl)
theorem e_ishr (hb : mb k = b) {x y : Int32} (hd : decode b pc = .ok (.ishr, 1)) : ev k pc L (.int y :: .int x :: st) K G J R = ev k (pc + 1) L (.int (x >>> (y &&& 31)) :: st) K G J R := ev_next ((stepI_of hb hd rfl).trans rfl)
theorem e_iushr (hb : mb k = b) {x y : Int32} (hd : decode b pc = .ok (.iushr, 1)) : ev k pc L (.int y :: .int x :: st) K G J R = ev k (pc + 1) L (.int ((x.toUInt32 >>> (y.toUInt32 &&& Int32.toUInt32 31)).toInt32) :: st) K G J R := ev_next ((stepI_of hb hd rfl).trans rfl)
theorem e_ladd (hb : mb k = b) {x y : Int64} (hd : decode b pc = .ok (.ladd, 1)) : ev k pc L (.long y :: .long x :: st) K G J R = ev k (pc + 1) L (.long (x + y) :: st) K G J R := ev_next ((stepI_of hb hd rfl).trans rfl)
theorem e_lmul (hb : mb k = b) {x y : Int64} (hd : decode b pc = .ok (.lmul, 1)) : ev k pc L (.long y :: .long x :: st) K G J R = ev k (pc + 1) L (.long (x * y) :: st) K G J R := ev_next ((stepI_of hb hd rfl).trans rfl)
theorem e_land (hb : mb k = b) {x y : Int64} (hd : decode b pc = .ok (.land, 1)) : ev k pc L (.long y :: .long x :: st) K G J R = ev k (pc + 1) L (.long (x &&& y) :: st) K G J R := ev_next ((stepI_of hb hd rfl).trans rfl)
theorem e_lor (hb : mb k = b) {x y : Int64} (hd : decode b pc = .ok (.lor, 1)) : ev k pc L (.long y :: .long x :: st) K G J R = ev k (pc + 1) L (.long (x ||| y) :: st) K G J R := ev_next ((stepI_of hb hd rfl).trans rfl)
theorem e_idiv (hb : mb k = b) {x y : Int32} (hd : decode b pc = .ok (.idiv, 1)) (hy : ¬ y = 0) : ev k pc L (.int y :: .int x :: st) K G J R = ev k (pc + 1) L (.int (x / y) :: st) K G J R := ev_next ((stepI_of hb hd rfl).trans (by simp only [stepJ, popI]; rw [if_neg hy]; rfl))
theorem e_irem (hb : mb k = b) {x y : Int32} (hd : decode b pc = .ok (.irem, 1)) (hy : ¬ y = 0) : ev k pc L (.int y :: .int x :: st) K G J R = ev k (pc + 1) L (.int (x - x / y * y) :: st) K G J R := ev_next ((stepI_of hb hd rfl).trans (by simp only [stepJ, popI]; rw [if_neg hy]; rfl))
theorem e_ineg (hb : mb k = b) {x : Int32} (hd : decode b pc = .ok (.ineg, 1)) : ev k pc L (.int x :: st) K G J R = ev k (pc + 1) L (.int (-x) :: st) K G J R := ev_next ((stepI_of hb hd rfl).trans rfl)
theorem e_i2l (hb : mb k = b) {x : Int32} (hd : decode b pc = .ok (.i2l, 1)) : ev k pc L (.int x :: st) K G J R = ev k (pc + 1) L (.long x.toInt64 :: st) K G J R := ev_next ((stepI_of hb hd rfl).trans rfl)
theorem e_l2i (hb : mb k = b) {x : Int64} (hd : decode b pc = .ok (.l2i, 1)) : ev k pc L (.long x :: st) K G J R = ev k (pc + 1) L (.int x.toInt32 :: st) K G J R := ev_next ((stepI_of hb hd rfl).trans rfl)
theorem e_lushr (hb : mb k = b) {x : Int64} {y : Int32} (hd : decode b pc = .ok (.lushr, 1)) : ev k pc L (.int y :: .long x :: st) K G J R = ev k (pc + 1) L (.long (x.toUInt64 >>> (y.toInt64.toUInt64 &&& Int64.toUInt64 63)).toInt64 :: st) K G J R := ev_next ((stepI_of hb hd rfl).trans rfl)
theorem e_lshl (hb : mb k = b) {x : Int64} {y : Int32} (hd : decode b pc = .ok (.lshl, 1)) : ev k pc L (.int y :: .long x :: st) K G J R = ev k (pc + 1) L (.long (x <<< (y.toInt64 &&& 63)) :: st) K G J R := ev_next ((stepI_of hb hd rfl).trans rfl)
theorem e_lcmp (hb : mb k = b) {x y : Int64} (hd : decode b pc = .ok (.lcmp, 1)) : ev k pc L (.long y :: .long x :: st) K G J R = ev k (pc + 1) L (.int (lg_cmp x y) :: st) K G J R := ev_next ((stepI_of hb hd rfl).trans rfl)
theorem jp_eq {α : Type} {off : Int} {t : Nat} {f : Nat → Option α} (h : (pc : Int) + off = (t : Int)) : jp pc off f = f t := by
  unfold jp
  rw [h]
  simp
theorem e_goto (hb : mb k = b) {off : Int} {t : Nat} (hd : decode b pc = .ok (.goto off, 3)) (h : (pc : Int) + off = (t : Int)) : ev k pc L st K G J R = ev k t L st K G J R := ev_next ((stepI_of hb hd rfl).trans (by simp only [stepJ]; rw [jp_eq h]; rfl))
theorem e_if (hb : mb k = b) {op : Jvm.ClassFile.Cond} {off : Int} {t : Nat} {x : Int32} {c : Prop} [Decidable c] (hd : decode b pc = .ok (.ifCond op off, 3)) (h : (pc : Int) + off = (t : Int)) (hc : cmpB op x 0 = true ↔ c) : ev k pc L (.int x :: st) K G J R = if c then ev k t L st K G J R else ev k (pc + 3) L st K G J R := by
  split
  · next h1 => exact ev_next ((stepI_of hb hd rfl).trans (by simp only [stepJ, popI]; rw [jp_eq h, if_pos (hc.mpr h1)]; rfl))
  · next h1 => exact ev_next ((stepI_of hb hd rfl).trans (by simp only [stepJ, popI]; rw [jp_eq h, if_neg (fun z => h1 (hc.mp z))]; rfl))
theorem e_ifN (hb : mb k = b) {op : Jvm.ClassFile.Cond} {off : Int} {t : Nat} {x : Int32} {c : Prop} [Decidable c] (hd : decode b pc = .ok (.ifCond op off, 3)) (h : (pc : Int) + off = (t : Int)) (hc : cmpB op x 0 = true ↔ ¬ c) : ev k pc L (.int x :: st) K G J R = if c then ev k (pc + 3) L st K G J R else ev k t L st K G J R := by
  rw [e_if hb hd h hc]
  by_cases h1 : c
  · rw [if_neg (fun z => z h1), if_pos h1]
  · rw [if_pos h1, if_neg h1]
theorem e_icmp (hb : mb k = b) {op : Jvm.ClassFile.Cond} {off : Int} {t : Nat} {x y : Int32} {c : Prop} [Decidable c] (hd : decode b pc = .ok (.if_icmp op off, 3)) (h : (pc : Int) + off = (t : Int)) (hc : cmpB op x y = true ↔ c) : ev k pc L (.int y :: .int x :: st) K G J R = if c then ev k t L st K G J R else ev k (pc + 3) L st K G J R := by
  split
  · next h1 => exact ev_next ((stepI_of hb hd rfl).trans (by simp only [stepJ, popI]; rw [jp_eq h, if_pos (hc.mpr h1)]; rfl))
  · next h1 => exact ev_next ((stepI_of hb hd rfl).trans (by simp only [stepJ, popI]; rw [jp_eq h, if_neg (fun z => h1 (hc.mp z))]; rfl))
theorem e_icmpN (hb : mb k = b) {op : Jvm.ClassFile.Cond} {off : Int} {t : Nat} {x y : Int32} {c : Prop} [Decidable c] (hd : decode b pc = .ok (.if_icmp op off, 3)) (h : (pc : Int) + off = (t : Int)) (hc : cmpB op x y = true ↔ ¬ c) : ev k pc L (.int y :: .int x :: st) K G J R = if c then ev k (pc + 3) L st K G J R else ev k t L st K G J R := by
  rw [e_icmp hb hd h hc]
  by_cases h1 : c
  · rw [if_neg (fun z => z h1), if_pos h1]
  · rw [if_pos h1, if_neg h1]
theorem c_eq {x y : Int32} : cmpB .eq x y = true ↔ x = y := by simp [cmpB]
theorem c_ne {x y : Int32} : cmpB .ne x y = true ↔ ¬ x = y := by simp [cmpB]
theorem c_lt {x y : Int32} : cmpB .lt x y = true ↔ x < y := by simp [cmpB]
theorem c_ge {x y : Int32} : cmpB .ge x y = true ↔ ¬ x < y := by simp [cmpB, Int32.not_lt]
theorem c_gt {x y : Int32} : cmpB .gt x y = true ↔ y < x := by simp [cmpB]
theorem c_le {x y : Int32} : cmpB .le x y = true ↔ ¬ y < x := by simp [cmpB, Int32.not_lt]
theorem e_tabI (hb : mb k = b) {dflt lo hi off : Int} {offs : Array Int} {len t : Nat} {x : Int32} (hd : decode b pc = .ok (.tableswitch dflt lo hi offs, len)) (hx : ¬ (x.toInt < lo ∨ hi < x.toInt)) (ho : offs[(x.toInt - lo).toNat]? = some off) (h : (pc : Int) + off = (t : Int)) : ev k pc L (.int x :: st) K G J R = ev k t L st K G J R :=
  ev_next ((stepI_of hb hd rfl).trans (by simp only [stepJ, popI]; rw [if_neg hx, ho]; dsimp only; rw [jp_eq h]; rfl))
theorem e_tabO (hb : mb k = b) {dflt lo hi : Int} {offs : Array Int} {len t : Nat} {x : Int32} (hd : decode b pc = .ok (.tableswitch dflt lo hi offs, len)) (hx : x.toInt < lo ∨ hi < x.toInt) (h : (pc : Int) + dflt = (t : Int)) : ev k pc L (.int x :: st) K G J R = ev k t L st K G J R :=
  ev_next ((stepI_of hb hd rfl).trans (by simp only [stepJ, popI]; rw [if_pos hx, jp_eq h]; rfl))
theorem e_get (hb : mb k = b) (ho : mo k = o) {i ci f c : Nat} (hd : decode b pc = .ok (.getfield i, 3)) (hf : fl o i = some (ci, f)) (hc : K[c]? = some (.inr ci)) : ev k pc L (.ref c :: st) K G J R = ev k (pc + 3) L (fv G J R (cTy ci f) c f :: st) K G J R := by
  subst ho
  exact ev_next ((stepI_of hb hd rfl).trans (by simp only [stepJ, hf, popR]; rw [if_pos hc]; rfl))
theorem e_getI (hb : mb k = b) (ho : mo k = o) {i ci f c : Nat} (hd : decode b pc = .ok (.getfield i, 3)) (hf : fl o i = some (ci, f)) (ht : cTy ci f = .int ∨ cTy ci f = .boolean) (hc : K[c]? = some (.inr ci)) : ev k pc L (.ref c :: st) K G J R = ev k (pc + 3) L (.int (G c f) :: st) K G J R := by
  rw [e_get hb ho hd hf hc]
  rcases ht with ht | ht <;> rw [ht] <;> rfl
theorem e_getL (hb : mb k = b) (ho : mo k = o) {i ci f c : Nat} (hd : decode b pc = .ok (.getfield i, 3)) (hf : fl o i = some (ci, f)) (ht : cTy ci f = .long) (hc : K[c]? = some (.inr ci)) : ev k pc L (.ref c :: st) K G J R = ev k (pc + 3) L (.long (J c f) :: st) K G J R := by
  rw [e_get hb ho hd hf hc, ht]
  rfl
theorem e_getR (hb : mb k = b) (ho : mo k = o) {i ci f c : Nat} {ty : FieldType} (hd : decode b pc = .ok (.getfield i, 3)) (hf : fl o i = some (ci, f)) (ht : cTy ci f = ty) (hr : ty.isReference = true) (hc : K[c]? = some (.inr ci)) : ev k pc L (.ref c :: st) K G J R = ev k (pc + 3) L (rv (R c f) :: st) K G J R := by
  rw [e_get hb ho hd hf hc, ht]
  cases ty <;> first | rfl | cases hr
theorem e_put (hb : mb k = b) (ho : mo k = o) {i ci f c : Nat} {v : Value} (hd : decode b pc = .ok (.putfield i, 3)) (hf : fl o i = some (ci, f)) (hfin : (cT ci f).2.2.2 = false) (hw : wrF (cTy ci f) v c f G J R = some (G', J', R')) (hc : K[c]? = some (.inr ci)) : ev k pc L (v :: .ref c :: st) K G J R = ev k (pc + 3) L st K G' J' R' := by
  subst ho
  exact ev_next ((stepI_of hb hd rfl).trans (by simp only [stepJ, hf, popV, popR]; rw [if_pos ⟨hc, Or.inl hfin⟩, hw]; rfl))
theorem e_putI (hb : mb k = b) (ho : mo k = o) {i ci f c : Nat} {x : Int32} (hd : decode b pc = .ok (.putfield i, 3)) (hf : fl o i = some (ci, f)) (hfin : (cT ci f).2.2.2 = false) (ht : cTy ci f = .int) (hc : K[c]? = some (.inr ci)) : ev k pc L (.int x :: .ref c :: st) K G J R = ev k (pc + 3) L st K (up2 G c f x) J R := e_put hb ho hd hf hfin (by rw [ht]; rfl) hc
theorem e_putZ (hb : mb k = b) (ho : mo k = o) {i ci f c : Nat} {x : Int32} (hd : decode b pc = .ok (.putfield i, 3)) (hf : fl o i = some (ci, f)) (hfin : (cT ci f).2.2.2 = false) (ht : cTy ci f = .boolean) (hc : K[c]? = some (.inr ci)) (hx : x = 0 ∨ x = 1) : ev k pc L (.int x :: .ref c :: st) K G J R = ev k (pc + 3) L st K (up2 G c f x) J R := e_put hb ho hd hf hfin (by rw [ht]; exact if_pos hx) hc
theorem e_putL (hb : mb k = b) (ho : mo k = o) {i ci f c : Nat} {x : Int64} (hd : decode b pc = .ok (.putfield i, 3)) (hf : fl o i = some (ci, f)) (hfin : (cT ci f).2.2.2 = false) (ht : cTy ci f = .long) (hc : K[c]? = some (.inr ci)) : ev k pc L (.long x :: .ref c :: st) K G J R = ev k (pc + 3) L st K G (up2 J c f x) R := e_put hb ho hd hf hfin (by rw [ht]; rfl) hc
theorem e_putR (hb : mb k = b) (ho : mo k = o) {i ci f c x : Nat} {n : String} (hd : decode b pc = .ok (.putfield i, 3)) (hf : fl o i = some (ci, f)) (hfin : (cT ci f).2.2.2 = false) (ht : cTy ci f = .object n) (hc : K[c]? = some (.inr ci)) : ev k pc L (.ref x :: .ref c :: st) K G J R = ev k (pc + 3) L st K G J (up2 R c f (some x)) := e_put hb ho hd hf hfin (by rw [ht]; rfl) hc
theorem e_iaload (hb : mb k = b) {i : Int32} {c n : Nat} (hd : decode b pc = .ok (.iaload, 1)) (hc : K[c]? = some (.inl (0, n))) (hi : inb i n = true) : ev k pc L (.int i :: .ref c :: st) K G J R = ev k (pc + 1) L (.int (G c i.toNatClampNeg) :: st) K G J R := ev_next ((stepI_of hb hd rfl).trans (by simp only [stepJ, popI, popR]; rw [hc]; exact if_pos hi))
theorem e_baload (hb : mb k = b) {i : Int32} {c n : Nat} (hd : decode b pc = .ok (.baload, 1)) (hc : K[c]? = some (.inl (1, n))) (hi : inb i n = true) : ev k pc L (.int i :: .ref c :: st) K G J R = ev k (pc + 1) L (.int (G c i.toNatClampNeg) :: st) K G J R := ev_next ((stepI_of hb hd rfl).trans (by simp only [stepJ, popI, popR]; rw [hc]; exact if_pos hi))
theorem e_aaload (hb : mb k = b) {i : Int32} {c t n : Nat} (hd : decode b pc = .ok (.aaload, 1)) (hc : K[c]? = some (.inl (t + 2, n))) (ht : t < 2) (hi : inb i n = true) : ev k pc L (.int i :: .ref c :: st) K G J R = ev k (pc + 1) L (rv (R c i.toNatClampNeg) :: st) K G J R := ev_next ((stepI_of hb hd rfl).trans (by simp only [stepJ, popI, popR]; rw [hc]; (try dsimp only); rw [if_pos ⟨hi, ht⟩]; rfl))
theorem e_iastore (hb : mb k = b) {i x : Int32} {c n : Nat} (hd : decode b pc = .ok (.iastore, 1)) (hc : K[c]? = some (.inl (0, n))) (hi : inb i n = true) : ev k pc L (.int x :: .int i :: .ref c :: st) K G J R = ev k (pc + 1) L st K (up2 G c i.toNatClampNeg x) J R := ev_next ((stepI_of hb hd rfl).trans (by simp only [stepJ, popI, popR]; rw [hc]; exact if_pos hi))
theorem e_bastore (hb : mb k = b) {i x : Int32} {c n : Nat} (hd : decode b pc = .ok (.bastore, 1)) (hc : K[c]? = some (.inl (1, n))) (hi : inb i n = true) (hx : x = 0 ∨ x = 1) : ev k pc L (.int x :: .int i :: .ref c :: st) K G J R = ev k (pc + 1) L st K (up2 G c i.toNatClampNeg x) J R := ev_next ((stepI_of hb hd rfl).trans (by simp only [stepJ, popI, popR]; rw [hc]; exact if_pos ⟨hi, hx⟩))
theorem e_alen (hb : mb k = b) {c t n : Nat} (hd : decode b pc = .ok (.arraylength, 1)) (hc : K[c]? = some (.inl (t, n))) (ht : t < 4) : ev k pc L (.ref c :: st) K G J R = ev k (pc + 1) L (.int (Int32.ofNat n) :: st) K G J R := ev_next ((stepI_of hb hd rfl).trans (by simp only [stepJ, popR]; rw [hc]; (try dsimp only); rw [if_pos ht]; rfl))
def inK (K : List KD) (c t : Nat) (i : Int32) : Bool := match K[c]? with
  | some (.inl q) => (if t = 2 then decide (2 ≤ q.1 ∧ q.1 < 4) else decide (q.1 = t)) && inb i q.2
  | _ => false
def isA (K : List KD) (c : Nat) : Bool := match K[c]? with
  | some (.inl q) => decide (q.1 < 4)
  | _ => false
def alK (K : List KD) (c : Nat) : Nat := match K[c]? with
  | some (.inl q) => q.2
  | _ => 0
theorem inK_inv {c t : Nat} {i : Int32} (h : inK K c t i = true) : ∃ q : Nat × Nat, K[c]? = some (.inl q) ∧ (if t = 2 then decide (2 ≤ q.1 ∧ q.1 < 4) else decide (q.1 = t)) = true ∧ inb i q.2 = true := by
  unfold inK at h
  split at h
  · next q hq =>
    rw [Bool.and_eq_true] at h
    exact ⟨q, hq, h.1, h.2⟩
  · cases h
theorem e_ialoadK (hb : mb k = b) {i : Int32} {c : Nat} (hd : decode b pc = .ok (.iaload, 1)) (hi : inK K c 0 i = true) : ev k pc L (.int i :: .ref c :: st) K G J R = ev k (pc + 1) L (.int (G c i.toNatClampNeg) :: st) K G J R := by
  obtain ⟨⟨t, n⟩, h1, h2, h3⟩ := inK_inv hi
  have h4 : t = 0 := by simpa using h2
  subst h4
  exact e_iaload hb hd h1 h3
theorem e_baloadK (hb : mb k = b) {i : Int32} {c : Nat} (hd : decode b pc = .ok (.baload, 1)) (hi : inK K c 1 i = true) : ev k pc L (.int i :: .ref c :: st) K G J R = ev k (pc + 1) L (.int (G c i.toNatClampNeg) :: st) K G J R := by
  obtain ⟨⟨t, n⟩, h1, h2, h3⟩ := inK_inv hi
  have h4 : t = 1 := by simpa using h2
  subst h4
  exact e_baload hb hd h1 h3
theorem e_aaloadK (hb : mb k = b) {i : Int32} {c : Nat} (hd : decode b pc = .ok (.aaload, 1)) (hi : inK K c 2 i = true) : ev k pc L (.int i :: .ref c :: st) K G J R = ev k (pc + 1) L (rv (R c i.toNatClampNeg) :: st) K G J R := by
  obtain ⟨⟨t, n⟩, h1, h2, h3⟩ := inK_inv hi
  have h4 : 2 ≤ t ∧ t < 4 := by simpa using h2
  obtain ⟨t', rfl⟩ : ∃ t', t = t' + 2 := ⟨t - 2, by omega⟩
  exact e_aaload hb hd h1 (by omega) h3
theorem e_iastoreK (hb : mb k = b) {i x : Int32} {c : Nat} (hd : decode b pc = .ok (.iastore, 1)) (hi : inK K c 0 i = true) : ev k pc L (.int x :: .int i :: .ref c :: st) K G J R = ev k (pc + 1) L st K (up2 G c i.toNatClampNeg x) J R := by
  obtain ⟨⟨t, n⟩, h1, h2, h3⟩ := inK_inv hi
  have h4 : t = 0 := by simpa using h2
  subst h4
  exact e_iastore hb hd h1 h3
theorem e_bastoreK (hb : mb k = b) {i x : Int32} {c : Nat} (hd : decode b pc = .ok (.bastore, 1)) (hi : inK K c 1 i = true) (hx : x = 0 ∨ x = 1) : ev k pc L (.int x :: .int i :: .ref c :: st) K G J R = ev k (pc + 1) L st K (up2 G c i.toNatClampNeg x) J R := by
  obtain ⟨⟨t, n⟩, h1, h2, h3⟩ := inK_inv hi
  have h4 : t = 1 := by simpa using h2
  subst h4
  exact e_bastore hb hd h1 h3 hx
theorem e_alenK (hb : mb k = b) {c : Nat} (hd : decode b pc = .ok (.arraylength, 1)) (hi : isA K c = true) : ev k pc L (.ref c :: st) K G J R = ev k (pc + 1) L (.int (Int32.ofNat (alK K c)) :: st) K G J R := by
  unfold isA at hi
  split at hi
  · next q hq =>
    obtain ⟨t, n⟩ := q
    rw [e_alen hb hd hq (by simpa using hi)]
    unfold alK
    rw [hq]
  · cases hi
theorem e_iret (hb : mb k = b) {v : Int32} (hr : mret k = some .int) (hd : decode b pc = .ok (.ireturn, 1)) : ev k pc L [.int v] K G J R = some ((K, G, J, R), some (.int v)) := ev_ret ((stepI_of hb hd rfl).trans (by simp only [stepJ]; rw [if_pos (Or.inl hr)]))
theorem e_zret (hb : mb k = b) {v : Int32} (hr : mret k = some .boolean) (hd : decode b pc = .ok (.ireturn, 1)) (hv : v = 0 ∨ v = 1) : ev k pc L [.int v] K G J R = some ((K, G, J, R), some (.int v)) := ev_ret ((stepI_of hb hd rfl).trans (by simp only [stepJ]; rw [if_pos (Or.inr ⟨hr, hv⟩)]))
theorem e_lret (hb : mb k = b) {v : Int64} (hr : mret k = some .long) (hd : decode b pc = .ok (.lreturn, 1)) : ev k pc L [.long v] K G J R = some ((K, G, J, R), some (.long v)) := ev_ret ((stepI_of hb hd rfl).trans (by simp only [stepJ]; rw [if_pos hr]))
theorem e_vret (hb : mb k = b) (hr : mret k = none) (hd : decode b pc = .ok (.return_, 1)) : ev k pc L [] K G J R = some ((K, G, J, R), none) := ev_ret ((stepI_of hb hd rfl).trans (by simp only [stepJ]; rw [if_pos hr]))
theorem e_virt (hb : mb k = b) (ho : mo k = o) {i k' c o' : Nat} {as : List Value} (hd : decode b pc = .ok (.invokevirtual i, 3)) (hm : ml o i = some k') {n' l' : Nat} (hq : k' < 169 ∧ mdp k' < mdp k ∧ mkd k' = 1 ∧ mo k' = o' ∧ mnp k' = n' ∧ mL k' = l') (hn : as.length = n') (he : (entA (.ref c :: as.reverse)).length ≤ l') (hc : K[c]? = some (.inr o')) (hs : st.length ≤ 4) : ev k pc L (as ++ .ref c :: st) K G J R = kont (run k' (.ref c :: as.reverse) K G J R) (fun v K G J R => ev k (pc + 3) L (v.toList ++ st) K G J R) := by
  subst ho
  obtain ⟨q1, q2, q3, q4, q5, q6⟩ := hq
  subst hn
  subst q6
  refine ev_call ((stepI_of hb hd rfl).trans ?_)
  simp only [stepJ, hm]
  rw [if_pos (by rw [q5, List.length_append]; omega), q5, List.drop_left]
  simp only [popR]
  rw [if_pos ⟨by rw [q4]; exact hc, q3⟩, List.take_left]
  unfold calA
  rw [if_pos ⟨q1, q2, hs, he⟩]
theorem e_stat (hb : mb k = b) (ho : mo k = o) {i k' : Nat} {as : List Value} (hd : decode b pc = .ok (.invokestatic i, 3)) (hm : ml o i = some k') {o' n' l' : Nat} (hq : k' < 169 ∧ mdp k' < mdp k ∧ mkd k' = 0 ∧ mo k' = o' ∧ mnp k' = n' ∧ mL k' = l') (hn : as.length = n') (he : (entA as.reverse).length ≤ l') (hs : st.length ≤ 4) : ev k pc L (as ++ st) K G J R = kont (run k' as.reverse K G J R) (fun v K G J R => ev k (pc + 3) L (v.toList ++ st) K G J R) := by
  subst ho
  obtain ⟨q1, q2, q3, q4, q5, q6⟩ := hq
  subst hn
  subst q6
  refine ev_call ((stepI_of hb hd rfl).trans ?_)
  simp only [stepJ, hm]
  rw [if_neg (by omega), if_pos ⟨by rw [q5, List.length_append]; omega, q3⟩, q5, List.drop_left, List.take_left]
  unfold calA
  rw [if_pos ⟨q1, q2, hs, he⟩]
theorem e_min (hb : mb k = b) (ho : mo k = o) {i : Nat} {x y : Int32} (hd : decode b pc = .ok (.invokestatic i, 3)) (hm : ml o i = some 169) (hq : 1 ≤ mdp k) (hs : st.length ≤ 4) : ev k pc L (.int y :: .int x :: st) K G J R = ev k (pc + 3) L (.int (if y < x then y else x) :: st) K G J R := by
  subst ho
  refine ev_next ((stepI_of hb hd rfl).trans ?_)
  simp only [stepJ, hm, popI]
  rw [if_pos trivial, if_pos ⟨hq, hs⟩]
  rfl
end EV
