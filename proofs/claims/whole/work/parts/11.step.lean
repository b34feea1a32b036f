/-! every step of the interpreter is a step of the machine -/
section SOUND
variable {l : Launch} {k pc : Nat} {L L' : LV} {st st' : List Value} {K : List KD} {G G' : SG} {J J' : SJ} {R R' : SR}
def EX (K : List KD) (a : ACT) : Prop := match a with
  | .inl (_, S) => ∃ X, S.1 = K ++ X
  | .inr (.inl q) => q.1.1 = K
  | .inr (.inr (k', as, _)) => k' < 169 ∧ (entA as).length ≤ mL k'
def SO (l : Launch) (k pc : Nat) (L : LV) (st : List Value) (K : List KD) (G : SG) (J : SJ) (R : SR) (a : ACT) : Prop :=
  ∀ {p : Program} {e : Env} {s : State} {m : MethodId} {args : Array Value} {below : List Frame} {meth : Method} {c : Code} {D : va_G} {dA : Nat → ClassId} {sz mc ms cells slots : Nat} {Q : State → Prop}, CX k p s m meth c → Tb s → va_K D vwCl (tyL dA) s → (match a with
  | .inl ((pc', L', st'), (K', G', J', R')) => cells + K'.length ≤ mc + K.length → slots + ssum K' ≤ ms + ssum K → WK p l e s m args below meth c Q D dA sz k mc ms (cells + (K'.length - K.length)) (slots + (ssum K' - ssum K)) pc' L' st' K' G' J' R' → WK p l e s m args below meth c Q D dA sz k mc ms cells slots pc L st K G J R
  | .inr (.inl q) => cells ≤ mc → slots ≤ ms → Q = MQ below (QQ D dA sz q) args s mc ms (AA sz) → WK p l e s m args below meth c Q D dA sz k mc ms cells slots pc L st K G J R
  | .inr (.inr (k', as, (pc', L', st'))) => ∀ (q : RES) (mc' ms' : Nat), MC l D dA sz k' as K G J R q mc' ms' → cells + mc' ≤ mc → slots + ms' ≤ ms → WK p l e s m args below meth c Q D dA sz k mc ms (cells + mc') (slots + ms') pc' L' (q.2.toList ++ st') q.1.1 q.1.2.1 q.1.2.2.1 q.1.2.2.2 → WK p l e s m args below meth c Q D dA sz k mc ms cells slots pc L st K G J R)
theorem so_nx {pc' : Nat} (h : ∀ {p : Program} {e : Env} {s : State} {m : MethodId} {args : Array Value} {below : List Frame} {meth : Method} {c : Code} {D : va_G} {dA : Nat → ClassId} {sz mc ms cells slots : Nat} {Q : State → Prop}, CX k p s m meth c → Tb s → va_K D vwCl (tyL dA) s → cells ≤ mc → slots ≤ ms → WK p l e s m args below meth c Q D dA sz k mc ms cells slots pc' L' st' K G' J' R' → WK p l e s m args below meth c Q D dA sz k mc ms cells slots pc L st K G J R) : EX K (.inl ((pc', L', st'), (K, G', J', R'))) ∧ SO l k pc L st K G J R (.inl ((pc', L', st'), (K, G', J', R'))) := by
  refine ⟨⟨[], by simp⟩, ?_⟩
  intro p e s m args below meth c D dA sz mc ms cells slots Q hC hT hK h1 h2 h3
  rw [Nat.sub_self, Nat.sub_self] at h3
  exact h hC hT hK (by omega) (by omega) h3
theorem so_push {pc' : Nat} {kd : KD} (h : ∀ {p : Program} {e : Env} {s : State} {m : MethodId} {args : Array Value} {below : List Frame} {meth : Method} {c : Code} {D : va_G} {dA : Nat → ClassId} {sz mc ms cells slots : Nat} {Q : State → Prop}, CX k p s m meth c → Tb s → va_K D vwCl (tyL dA) s → cells + 1 ≤ mc → slots + ksz kd ≤ ms → WK p l e s m args below meth c Q D dA sz k mc ms (cells + 1) (slots + ksz kd) pc' L' st' (K ++ [kd]) G' J' R' → WK p l e s m args below meth c Q D dA sz k mc ms cells slots pc L st K G J R) : EX K (.inl ((pc', L', st'), (K ++ [kd], G', J', R'))) ∧ SO l k pc L st K G J R (.inl ((pc', L', st'), (K ++ [kd], G', J', R'))) := by
  refine ⟨⟨[kd], rfl⟩, ?_⟩
  intro p e s m args below meth c D dA sz mc ms cells slots Q hC hT hK h1 h2 h3
  have e1 : (K ++ [kd]).length = K.length + 1 := by simp
  have e2 : ssum (K ++ [kd]) = ssum K + ksz kd := by simp [ssum]
  rw [e1] at h1 h3
  rw [e2] at h2 h3
  rw [show K.length + 1 - K.length = 1 by omega, show ssum K + ksz kd - ssum K = ksz kd by omega] at h3
  exact h hC hT hK (by omega) (by omega) h3
theorem so_ret {q : RES} (hq : q.1.1 = K) (h : ∀ {p : Program} {e : Env} {s : State} {m : MethodId} {args : Array Value} {below : List Frame} {meth : Method} {c : Code} {D : va_G} {dA : Nat → ClassId} {sz mc ms cells slots : Nat}, CX k p s m meth c → cells ≤ mc → slots ≤ ms → WK p l e s m args below meth c (MQ below (QQ D dA sz q) args s mc ms (AA sz)) D dA sz k mc ms cells slots pc L st K G J R) : EX K (.inr (.inl q)) ∧ SO l k pc L st K G J R (.inr (.inl q)) := by
  refine ⟨hq, ?_⟩
  intro p e s m args below meth c D dA sz mc ms cells slots Q hC hT hK h1 h2 h3
  subst h3
  exact h hC h1 h2
theorem calA_some {k' : Nat} {as r : List Value} {a : ACT} (h : calA k k' as pc L r = some a) : k' < 169 ∧ mdp k' < mdp k ∧ r.length ≤ 4 ∧ (entA as).length ≤ mL k' ∧ a = .inr (.inr (k', as, (pc + 3, L, r))) := by
  unfold calA at h
  obtain ⟨⟨h1, h2, h3, h4⟩, h5⟩ := if_some h
  exact ⟨h1, h2, h3, h4, (Option.some.inj h5).symm⟩
theorem split_st {n : Nat} {st : List Value} {x : Value} {r : List Value} (h : st.drop n = x :: r) : st = ((st.take n).reverse).reverse ++ x :: r := by
  rw [List.reverse_reverse, ← h, List.take_append_drop]
set_option maxHeartbeats 4000000 in
theorem step_ok {ins : Instr} {len : Nat} {a : ACT} (h : stepJ k ins pc L st K G J R = some a) (hd : decode (mb k) pc = .ok (ins, len)) (hl : okl ins len = true) : EX K a ∧ SO l k pc L st K G J R a := by
  cases ins
  case iconst n =>
    obtain rfl : len = 1 := by simpa [okl] using hl
    have h9 := h
    cases nx_some h9
    exact so_nx (fun hC hT hK hc hs hw => k_iconst hC hd hw)
  case bipush n =>
    obtain rfl : len = 2 := by simpa [okl] using hl
    have h9 := h
    cases nx_some h9
    exact so_nx (fun hC hT hK hc hs hw => k_bipush hC hd hw)
  case sipush n =>
    obtain rfl : len = 3 := by simpa [okl] using hl
    have h9 := h
    cases nx_some h9
    exact so_nx (fun hC hT hK hc hs hw => k_sipush hC hd hw)
  case lconst n =>
    obtain rfl : len = 1 := by simpa [okl] using hl
    have h9 := h
    cases nx_some h9
    exact so_nx (fun hC hT hK hc hs hw => k_lconst hC hd hw)
  case ldc i =>
    obtain rfl : len = 2 := by simpa [okl] using hl
    cases hv : kc (mo k) i with
    | none => simp [stepJ, hv] at h
    | some v =>
      simp only [stepJ, hv] at h
      cases nx_some h
      exact so_nx (fun hC hT hK hc hs hw => k_ldc hC hT hv hd hw)
  case ldc_w i =>
    obtain rfl : len = 3 := by simpa [okl] using hl
    cases hv : kc (mo k) i with
    | none => simp [stepJ, hv] at h
    | some v =>
      simp only [stepJ, hv] at h
      cases nx_some h
      exact so_nx (fun hC hT hK hc hs hw => k_ldcw hC hT hv hd hw)
  case ldc2_w i =>
    obtain rfl : len = 3 := by simpa [okl] using hl
    cases hv : kl (mo k) i with
    | none => simp [stepJ, hv] at h
    | some v =>
      simp only [stepJ, hv] at h
      cases nx_some h
      exact so_nx (fun hC hT hK hc hs hw => k_ldc2 hC hT hv hd hw)
  case iload_n i =>
    obtain rfl : len = 1 := by simpa [okl] using hl
    obtain ⟨x, hx, h9⟩ := gI_some h
    cases nx_some h9
    exact so_nx (fun hC hT hK hc hs hw => k_iload_n hC hx hd hw)
  case iload i =>
    obtain rfl : len = 2 := by simpa [okl] using hl
    obtain ⟨x, hx, h9⟩ := gI_some h
    cases nx_some h9
    exact so_nx (fun hC hT hK hc hs hw => k_iload hC hx hd hw)
  case lload_n i =>
    obtain rfl : len = 1 := by simpa [okl] using hl
    obtain ⟨x, hx, h9⟩ := gL_some h
    cases nx_some h9
    exact so_nx (fun hC hT hK hc hs hw => k_lload_n hC hx hd hw)
  case lload i =>
    obtain rfl : len = 2 := by simpa [okl] using hl
    obtain ⟨x, hx, h9⟩ := gL_some h
    cases nx_some h9
    exact so_nx (fun hC hT hK hc hs hw => k_lload hC hx hd hw)
  case aload_n i =>
    obtain rfl : len = 1 := by simpa [okl] using hl
    obtain ⟨x, hx, h9⟩ := gR_some h
    cases nx_some h9
    exact so_nx (fun hC hT hK hc hs hw => k_aload_n hC hx hd hw)
  case aload i =>
    obtain rfl : len = 2 := by simpa [okl] using hl
    obtain ⟨x, hx, h9⟩ := gR_some h
    cases nx_some h9
    exact so_nx (fun hC hT hK hc hs hw => k_aload hC hx hd hw)
  case istore_n i =>
    obtain rfl : len = 1 := by simpa [okl] using hl
    obtain ⟨x, r, rfl, h1⟩ := popI_some h
    obtain ⟨hi, h9⟩ := set1_some h1
    cases nx_some h9
    exact so_nx (fun hC hT hK hc hs hw => k_istore_n hC hi hd hw)
  case istore i =>
    obtain rfl : len = 2 := by simpa [okl] using hl
    obtain ⟨x, r, rfl, h1⟩ := popI_some h
    obtain ⟨hi, h9⟩ := set1_some h1
    cases nx_some h9
    exact so_nx (fun hC hT hK hc hs hw => k_istore hC hi hd hw)
  case lstore_n i =>
    obtain rfl : len = 1 := by simpa [okl] using hl
    obtain ⟨x, r, rfl, h1⟩ := popL_some h
    obtain ⟨hi, h9⟩ := set2_some h1
    cases nx_some h9
    exact so_nx (fun hC hT hK hc hs hw => k_lstore_n hC hi hd hw)
  case lstore i =>
    obtain rfl : len = 2 := by simpa [okl] using hl
    obtain ⟨x, r, rfl, h1⟩ := popL_some h
    obtain ⟨hi, h9⟩ := set2_some h1
    cases nx_some h9
    exact so_nx (fun hC hT hK hc hs hw => k_lstore hC hi hd hw)
  case astore_n i =>
    obtain rfl : len = 1 := by simpa [okl] using hl
    obtain ⟨x, r, rfl, h1⟩ := popR_some h
    obtain ⟨hi, h9⟩ := set1_some h1
    cases nx_some h9
    exact so_nx (fun hC hT hK hc hs hw => k_astore_n hC hi hd hw)
  case astore i =>
    obtain rfl : len = 2 := by simpa [okl] using hl
    obtain ⟨x, r, rfl, h1⟩ := popR_some h
    obtain ⟨hi, h9⟩ := set1_some h1
    cases nx_some h9
    exact so_nx (fun hC hT hK hc hs hw => k_astore hC hi hd hw)
  case iinc i n =>
    obtain rfl : len = 3 := by simpa [okl] using hl
    obtain ⟨x, hx, h1⟩ := gI_some h
    obtain ⟨hi, h9⟩ := set1_some h1
    cases nx_some h9
    exact so_nx (fun hC hT hK hc hs hw => k_iinc hC hx hi hd hw)
  case dup =>
    obtain rfl : len = 1 := by simpa [okl] using hl
    obtain ⟨v, r, rfl, h1⟩ := popV_some h
    obtain ⟨hv, h9⟩ := if_some h1
    cases nx_some h9
    exact so_nx (fun hC hT hK hc hs hw => k_dup hC hv hd hw)
  case pop =>
    obtain rfl : len = 1 := by simpa [okl] using hl
    obtain ⟨v, r, rfl, h1⟩ := popV_some h
    obtain ⟨hv, h9⟩ := if_some h1
    cases nx_some h9
    exact so_nx (fun hC hT hK hc hs hw => k_pop hC hv hd hw)
  case dup2 =>
    obtain rfl : len = 1 := by simpa [okl] using hl
    obtain ⟨v, r1, rfl, h1⟩ := popV_some h
    obtain ⟨w, r, rfl, h2⟩ := popV_some h1
    obtain ⟨hv, h9⟩ := if_some h2
    cases nx_some h9
    exact so_nx (fun hC hT hK hc hs hw => k_dup2 hC hv.1 hv.2 hd hw)
  case iadd =>
    obtain rfl : len = 1 := by simpa [okl] using hl
    simp only [stepJ] at h
    obtain ⟨x, y, r, rfl, h9⟩ := bI_some h
    cases nx_some h9
    exact so_nx (fun hC hT hK hc hs hw => k_iadd hC hd hw)
  case isub =>
    obtain rfl : len = 1 := by simpa [okl] using hl
    simp only [stepJ] at h
    obtain ⟨x, y, r, rfl, h9⟩ := bI_some h
    cases nx_some h9
    exact so_nx (fun hC hT hK hc hs hw => k_isub hC hd hw)
  case imul =>
    obtain rfl : len = 1 := by simpa [okl] using hl
    simp only [stepJ] at h
    obtain ⟨x, y, r, rfl, h9⟩ := bI_some h
    cases nx_some h9
    exact so_nx (fun hC hT hK hc hs hw => k_imul hC hd hw)
  case iand =>
    obtain rfl : len = 1 := by simpa [okl] using hl
    simp only [stepJ] at h
    obtain ⟨x, y, r, rfl, h9⟩ := bI_some h
    cases nx_some h9
    exact so_nx (fun hC hT hK hc hs hw => k_iand hC hd hw)
  case ior =>
    obtain rfl : len = 1 := by simpa [okl] using hl
    simp only [stepJ] at h
    obtain ⟨x, y, r, rfl, h9⟩ := bI_some h
    cases nx_some h9
    exact so_nx (fun hC hT hK hc hs hw => k_ior hC hd hw)
  case ixor =>
    obtain rfl : len = 1 := by simpa [okl] using hl
    simp only [stepJ] at h
    obtain ⟨x, y, r, rfl, h9⟩ := bI_some h
    cases nx_some h9
    exact so_nx (fun hC hT hK hc hs hw => k_ixor hC hd hw)
  case ishl =>
    obtain rfl : len = 1 := by simpa [okl] using hl
    simp only [stepJ] at h
    obtain ⟨x, y, r, rfl, h9⟩ := bI_some h
    cases nx_some h9
    exact so_nx (fun hC hT hK hc hs hw => k_ishl hC hd hw)
  case ishr =>
    obtain rfl : len = 1 := by simpa [okl] using hl
    simp only [stepJ] at h
    obtain ⟨x, y, r, rfl, h9⟩ := bI_some h
    cases nx_some h9
    exact so_nx (fun hC hT hK hc hs hw => k_ishr hC hd hw)
  case iushr =>
    obtain rfl : len = 1 := by simpa [okl] using hl
    simp only [stepJ] at h
    obtain ⟨x, y, r, rfl, h9⟩ := bI_some h
    cases nx_some h9
    exact so_nx (fun hC hT hK hc hs hw => k_iushr hC hd hw)
  case ladd =>
    obtain rfl : len = 1 := by simpa [okl] using hl
    simp only [stepJ] at h
    obtain ⟨x, y, r, rfl, h9⟩ := bL_some h
    cases nx_some h9
    exact so_nx (fun hC hT hK hc hs hw => k_ladd hC hd hw)
  case lmul =>
    obtain rfl : len = 1 := by simpa [okl] using hl
    simp only [stepJ] at h
    obtain ⟨x, y, r, rfl, h9⟩ := bL_some h
    cases nx_some h9
    exact so_nx (fun hC hT hK hc hs hw => k_lmul hC hd hw)
  case land =>
    obtain rfl : len = 1 := by simpa [okl] using hl
    simp only [stepJ] at h
    obtain ⟨x, y, r, rfl, h9⟩ := bL_some h
    cases nx_some h9
    exact so_nx (fun hC hT hK hc hs hw => k_land hC hd hw)
  case lor =>
    obtain rfl : len = 1 := by simpa [okl] using hl
    simp only [stepJ] at h
    obtain ⟨x, y, r, rfl, h9⟩ := bL_some h
    cases nx_some h9
    exact so_nx (fun hC hT hK hc hs hw => k_lor hC hd hw)
  case ineg =>
    obtain rfl : len = 1 := by simpa [okl] using hl
    obtain ⟨x, r, rfl, h9⟩ := popI_some h
    cases nx_some h9
    exact so_nx (fun hC hT hK hc hs hw => k_ineg hC hd hw)
  case idiv =>
    obtain rfl : len = 1 := by simpa [okl] using hl
    obtain ⟨y, r1, rfl, h1⟩ := popI_some h
    obtain ⟨x, r, rfl, h2⟩ := popI_some h1
    obtain ⟨hy, h9⟩ := ifn_some h2
    cases nx_some h9
    exact so_nx (fun hC hT hK hc hs hw => k_idiv hC hy hd hw)
  case irem =>
    obtain rfl : len = 1 := by simpa [okl] using hl
    obtain ⟨y, r1, rfl, h1⟩ := popI_some h
    obtain ⟨x, r, rfl, h2⟩ := popI_some h1
    obtain ⟨hy, h9⟩ := ifn_some h2
    cases nx_some h9
    exact so_nx (fun hC hT hK hc hs hw => k_irem hC hy hd hw)
  case i2l =>
    obtain rfl : len = 1 := by simpa [okl] using hl
    obtain ⟨x, r, rfl, h9⟩ := popI_some h
    cases nx_some h9
    exact so_nx (fun hC hT hK hc hs hw => k_i2l hC hd hw)
  case l2i =>
    obtain rfl : len = 1 := by simpa [okl] using hl
    obtain ⟨x, r, rfl, h9⟩ := popL_some h
    cases nx_some h9
    exact so_nx (fun hC hT hK hc hs hw => k_l2i hC hd hw)
  case lushr =>
    obtain rfl : len = 1 := by simpa [okl] using hl
    obtain ⟨y, r1, rfl, h1⟩ := popI_some h
    obtain ⟨x, r, rfl, h9⟩ := popL_some h1
    cases nx_some h9
    exact so_nx (fun hC hT hK hc hs hw => k_lushr hC hd hw)
  case lshl =>
    obtain rfl : len = 1 := by simpa [okl] using hl
    obtain ⟨y, r1, rfl, h1⟩ := popI_some h
    obtain ⟨x, r, rfl, h9⟩ := popL_some h1
    cases nx_some h9
    exact so_nx (fun hC hT hK hc hs hw => k_lshl hC hd hw)
  case lcmp =>
    obtain rfl : len = 1 := by simpa [okl] using hl
    obtain ⟨y, r1, rfl, h1⟩ := popL_some h
    obtain ⟨x, r, rfl, h9⟩ := popL_some h1
    cases nx_some h9
    exact so_nx (fun hC hT hK hc hs hw => k_lcmp hC hd hw)
  case goto off =>
    obtain rfl : len = 3 := by simpa [okl] using hl
    simp only [stepJ] at h
    obtain ⟨t, ht, h9⟩ := jp_some h
    cases nx_some h9
    exact so_nx (fun hC hT hK hc hs hw => k_goto hC ht hd hw)
  case ifCond op off =>
    obtain rfl : len = 3 := by simpa [okl] using hl
    obtain ⟨x, r, rfl, h5⟩ := popI_some h
    obtain ⟨t, ht, h9⟩ := jp_some h5
    by_cases hcm : cmpB op x 0 = true
    · rw [if_pos hcm] at h9
      cases nx_some h9
      exact so_nx (fun hC hT hK hc hs hw => k_if hC ht hd (by rw [if_pos hcm]; exact hw))
    · rw [if_neg hcm] at h9
      cases nx_some h9
      exact so_nx (fun hC hT hK hc hs hw => k_if hC ht hd (by rw [if_neg hcm]; exact hw))
  case if_icmp op off =>
    obtain rfl : len = 3 := by simpa [okl] using hl
    obtain ⟨y, r1, rfl, h1⟩ := popI_some h
    obtain ⟨x, r, rfl, h5⟩ := popI_some h1
    obtain ⟨t, ht, h9⟩ := jp_some h5
    by_cases hcm : cmpB op x y = true
    · rw [if_pos hcm] at h9
      cases nx_some h9
      exact so_nx (fun hC hT hK hc hs hw => k_icmp hC ht hd (by rw [if_pos hcm]; exact hw))
    · rw [if_neg hcm] at h9
      cases nx_some h9
      exact so_nx (fun hC hT hK hc hs hw => k_icmp hC ht hd (by rw [if_neg hcm]; exact hw))
  case tableswitch dflt lo hi offs =>
    obtain ⟨x, r, rfl, h1⟩ := popI_some h
    by_cases hx : x.toInt < lo ∨ hi < x.toInt
    · rw [if_pos hx] at h1
      obtain ⟨t, ht, h9⟩ := jp_some h1
      cases nx_some h9
      exact so_nx (fun hC hT hK hc hs hw => k_tabO hC hx ht hd hw)
    · rw [if_neg hx] at h1
      cases ho : offs[(x.toInt - lo).toNat]? with
      | none => rw [ho] at h1; cases h1
      | some off =>
        rw [ho] at h1
        obtain ⟨t, ht, h9⟩ := jp_some h1
        cases nx_some h9
        exact so_nx (fun hC hT hK hc hs hw => k_tabI hC hx ho ht hd hw)
  case getfield i =>
    obtain rfl : len = 3 := by simpa [okl] using hl
    cases hf : fl (mo k) i with
    | none => simp [stepJ, hf] at h
    | some q =>
      obtain ⟨ci, f⟩ := q
      simp only [stepJ, hf] at h
      obtain ⟨x, r, rfl, h1⟩ := popR_some h
      obtain ⟨hx, h9⟩ := if_some h1
      cases nx_some h9
      exact so_nx (fun hC hT hK hc hs hw => k_getfield hC hT hK hf hx hd hw)
  case putfield i =>
    obtain rfl : len = 3 := by simpa [okl] using hl
    cases hf : fl (mo k) i with
    | none => simp [stepJ, hf] at h
    | some q =>
      obtain ⟨ci, f⟩ := q
      simp only [stepJ, hf] at h
      obtain ⟨v, r1, rfl, h1⟩ := popV_some h
      obtain ⟨x, r, rfl, h2⟩ := popR_some h1
      obtain ⟨⟨hx, hfin⟩, h3⟩ := if_some h2
      cases hw : wrF (cTy ci f) v x f G J R with
      | none => rw [hw] at h3; cases h3
      | some q =>
        obtain ⟨G1, J1, R1⟩ := q
        rw [hw] at h3
        cases nx_some h3
        exact so_nx (fun hC hT hK hc hs hw2 => k_putfield hC hT hK hf hx hfin hw hd hw2)
  case iaload =>
    obtain rfl : len = 1 := by simpa [okl] using hl
    obtain ⟨i, r1, rfl, h1⟩ := popI_some h
    obtain ⟨x, r, rfl, h2⟩ := popR_some h1
    split at h2
    · next n hx =>
      obtain ⟨hi, h9⟩ := if_some h2
      cases nx_some h9
      exact so_nx (fun hC hT hK hc hs hw => k_iaload hC hK hx hi hd hw)
    · cases h2
  case baload =>
    obtain rfl : len = 1 := by simpa [okl] using hl
    obtain ⟨i, r1, rfl, h1⟩ := popI_some h
    obtain ⟨x, r, rfl, h2⟩ := popR_some h1
    split at h2
    · next n hx =>
      obtain ⟨hi, h9⟩ := if_some h2
      cases nx_some h9
      exact so_nx (fun hC hT hK hc hs hw => k_baload hC hK hx hi hd hw)
    · cases h2
  case aaload =>
    obtain rfl : len = 1 := by simpa [okl] using hl
    obtain ⟨i, r1, rfl, h1⟩ := popI_some h
    obtain ⟨x, r, rfl, h2⟩ := popR_some h1
    split at h2
    · next t n hx =>
      obtain ⟨hi, h9⟩ := if_some h2
      cases nx_some h9
      exact so_nx (fun hC hT hK hc hs hw => k_aaload hC hK (by omega) hx hi.1 hd hw)
    · cases h2
  case iastore =>
    obtain rfl : len = 1 := by simpa [okl] using hl
    obtain ⟨v, r0, rfl, h0⟩ := popI_some h
    obtain ⟨i, r1, rfl, h1⟩ := popI_some h0
    obtain ⟨x, r, rfl, h2⟩ := popR_some h1
    split at h2
    · next n hx =>
      obtain ⟨hi, h9⟩ := if_some h2
      cases nx_some h9
      exact so_nx (fun hC hT hK hc hs hw => k_iastore hC hK hx hi hd hw)
    · cases h2
  case bastore =>
    obtain rfl : len = 1 := by simpa [okl] using hl
    obtain ⟨v, r0, rfl, h0⟩ := popI_some h
    obtain ⟨i, r1, rfl, h1⟩ := popI_some h0
    obtain ⟨x, r, rfl, h2⟩ := popR_some h1
    split at h2
    · next n hx =>
      obtain ⟨hi, h9⟩ := if_some h2
      cases nx_some h9
      exact so_nx (fun hC hT hK hc hs hw => k_bastore hC hK hx hi.1 hi.2 hd hw)
    · cases h2
  case aastore =>
    obtain rfl : len = 1 := by simpa [okl] using hl
    obtain ⟨v, r0, rfl, h0⟩ := popR_some h
    obtain ⟨i, r1, rfl, h1⟩ := popI_some h0
    obtain ⟨x, r, rfl, h2⟩ := popR_some h1
    split at h2
    · next t n hx =>
      obtain ⟨hi, h9⟩ := if_some h2
      cases nx_some h9
      exact so_nx (fun hC hT hK hc hs hw => k_aastore hC hK (by omega) hx hi.1 hi.2.1 hd hw)
    · cases h2
  case arraylength =>
    obtain rfl : len = 1 := by simpa [okl] using hl
    obtain ⟨x, r, rfl, h2⟩ := popR_some h
    split at h2
    · next t n hx =>
      obtain ⟨hi, h9⟩ := if_some h2
      cases nx_some h9
      exact so_nx (fun hC hT hK hc hs hw => k_alen hC hK hi hx hd hw)
    · cases h2
  case newarray ty =>
    obtain rfl : len = 2 := by simpa [okl] using hl
    obtain ⟨x, r, rfl, h1⟩ := popI_some h
    obtain ⟨hx, h2⟩ := if_some h1
    cases ty
    case int =>
      cases nx_some h2
      exact so_push (fun hC hT hK hc hs hw => k_newarray hC hT hK (Or.inl ⟨rfl, rfl⟩) hx.1 hx.2 hc hs hd hw)
    case boolean =>
      cases nx_some h2
      exact so_push (fun hC hT hK hc hs hw => k_newarray hC hT hK (Or.inr ⟨rfl, rfl⟩) hx.1 hx.2 hc hs hd hw)
    all_goals exact nomatch (show (none : Option ACT) = some a from h2)
  case anewarray i =>
    obtain rfl : len = 3 := by simpa [okl] using hl
    cases hf : clk (mo k) i with
    | none => simp [stepJ, hf] at h
    | some ci =>
      simp only [stepJ, hf] at h
      obtain ⟨x, r, rfl, h1⟩ := popI_some h
      obtain ⟨hx, h2⟩ := if_some h1
      cases nx_some h2
      exact so_push (fun hC hT hK hc hs hw => k_anewarray hC hT hK hf hx.2.2 hx.1 hx.2.1 hc hs hd hw)
  case new i =>
    obtain rfl : len = 3 := by simpa [okl] using hl
    cases hf : clk (mo k) i with
    | none => simp [stepJ, hf] at h
    | some ci =>
      simp only [stepJ, hf] at h
      cases nx_some h
      exact so_push (fun hC hT hK hc hs hw => k_new hC hT hK hf hc hs hd hw)
  case ireturn =>
    obtain rfl : len = 1 := by simpa [okl] using hl
    simp only [stepJ] at h
    split at h
    · next v =>
      obtain ⟨hv, h2⟩ := if_some h
      cases h2
      exact so_ret rfl (fun hC hc hs => k_iret hC hv hc hs hd)
    · cases h
  case lreturn =>
    obtain rfl : len = 1 := by simpa [okl] using hl
    simp only [stepJ] at h
    split at h
    · next v =>
      obtain ⟨hv, h2⟩ := if_some h
      cases h2
      exact so_ret rfl (fun hC hc hs => k_lret hC hv hc hs hd)
    · cases h
  case return_ =>
    obtain rfl : len = 1 := by simpa [okl] using hl
    simp only [stepJ] at h
    split at h
    · obtain ⟨hv, h2⟩ := if_some h
      cases h2
      exact so_ret rfl (fun hC hc hs => k_vret hC hv hc hs hd)
    · cases h
  case invokevirtual i =>
    obtain rfl : len = 3 := by simpa [okl] using hl
    cases hf : ml (mo k) i with
    | none => simp [stepJ, hf] at h
    | some k' =>
      simp only [stepJ, hf] at h
      obtain ⟨hn, h1⟩ := if_some h
      obtain ⟨x, r, hr, h2⟩ := popR_some h1
      obtain ⟨⟨hx, hkd⟩, h3⟩ := if_some h2
      obtain ⟨c1, c2, c3, c4, rfl⟩ := calA_some h3
      refine ⟨⟨c1, c4⟩, ?_⟩
      intro p e s m args below meth c D dA sz mc ms cells slots Q hC hT hK q mc' ms' hM hc1 hs1 hw
      have hsp := split_st hr
      rw [hsp]
      rw [hsp] at hM
      rw [← hsp] at hM
      exact k_virt hC hT hK hf c1 hkd c2 c3 hx (by rw [List.length_reverse, List.length_take]; omega) hM hc1 hs1 hd hw
  case invokestatic i =>
    obtain rfl : len = 3 := by simpa [okl] using hl
    cases hf : ml (mo k) i with
    | none => simp [stepJ, hf] at h
    | some k' =>
      simp only [stepJ, hf] at h
      by_cases hm : k' = 169
      · subst hm
        rw [if_pos rfl] at h
        obtain ⟨y, r1, rfl, h1⟩ := popI_some h
        obtain ⟨x, r, rfl, h2⟩ := popI_some h1
        obtain ⟨hx, h9⟩ := if_some h2
        cases nx_some h9
        exact so_nx (fun hC hT hK hc hs hw => k_min hC hT hf hx.1 hx.2 hc hs hd hw)
      rw [if_neg hm] at h
      obtain ⟨⟨hn, hkd⟩, h3⟩ := if_some h
      obtain ⟨c1, c2, c3, c4, rfl⟩ := calA_some h3
      refine ⟨⟨c1, c4⟩, ?_⟩
      intro p e s m args below meth c D dA sz mc ms cells slots Q hC hT hK q mc' ms' hM hc1 hs1 hw
      have hsp : st = ((st.take (mnp k')).reverse).reverse ++ st.drop (mnp k') := by rw [List.reverse_reverse, List.take_append_drop]
      have hgo := k_stat (pc := pc) (L := L) (r := st.drop (mnp k')) (as := (st.take (mnp k')).reverse) hC hT hK hf c1 hkd c2 c3 (by rw [List.length_reverse, List.length_take]; omega) hM hc1 hs1 hd hw
      rw [← hsp] at hgo
      exact hgo
  case invokespecial i =>
    obtain rfl : len = 3 := by simpa [okl] using hl
    simp only [stepJ] at h
    by_cases ho : ol (mo k) i = true
    · rw [if_pos ho] at h
      obtain ⟨x, r, rfl, h1⟩ := popR_some h
      obtain ⟨hx, h9⟩ := if_some h1
      cases nx_some h9
      exact so_nx (fun hC hT hK hc hs hw => k_obj hC hT ho hx.1 hx.2 hd hw)
    rw [if_neg ho] at h
    cases hf : ml (mo k) i with
    | none => rw [hf] at h; cases h
    | some k' =>
      rw [hf] at h
      obtain ⟨hn, h1⟩ := if_some h
      obtain ⟨x, r, hr, h2⟩ := popR_some h1
      obtain ⟨hkd, h3⟩ := if_some h2
      obtain ⟨c1, c2, c3, c4, rfl⟩ := calA_some h3
      refine ⟨⟨c1, c4⟩, ?_⟩
      intro p e s m args below meth c D dA sz mc ms cells slots Q hC hT hK q mc' ms' hM hc1 hs1 hw
      have hgo := k_spec (pc := pc) (L := L) (r := r) (as := (st.take (mnp k')).reverse) hC hT hK hf c1 hkd c2 c3 (by rw [List.length_reverse, List.length_take]; omega) hM hc1 hs1 hd hw
      rw [← split_st hr] at hgo
      exact hgo
  all_goals exact nomatch (show (none : Option ACT) = some a from h)
end SOUND
