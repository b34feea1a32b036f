/-! every run of the interpreter is a run of the machine -/
theorem ssum_app (K X : List KD) : ssum (K ++ X) = ssum K + ssum X := by simp [ssum]
theorem stepI_inv {k pc : Nat} {L : LV} {st : List Value} {K : List KD} {G : SG} {J : SJ} {R : SR} {a : ACT} (h : stepI k pc L st K G J R = some a) : ∃ ins len, decode (mb k) pc = .ok (ins, len) ∧ okl ins len = true ∧ stepJ k ins pc L st K G J R = some a := by
  unfold stepI at h
  split at h
  · next ins len hd =>
    obtain ⟨h1, h2⟩ := if_some h
    exact ⟨ins, len, hd, h1, h2⟩
  · cases h
theorem exec_ext (l : Launch) : ∀ (n : Nat) {k pc : Nat} {L : LV} {st : List Value} {K : List KD} {G : SG} {J : SJ} {R : SR} {r : RES}, exec n k pc L st K G J R = some r → ∃ X, r.1.1 = K ++ X := by
  intro n
  induction n with
  | zero => intro k pc L st K G J R r h; cases h
  | succ n ih =>
    intro k pc L st K G J R r h
    rw [exec] at h
    cases hs : stepI k pc L st K G J R with
    | none => rw [hs] at h; cases h
    | some a =>
      rw [hs] at h
      obtain ⟨ins, len, hd, hl, hj⟩ := stepI_inv hs
      obtain ⟨hx, -⟩ := step_ok (l := l) hj hd hl
      obtain ⟨⟨pc', L', st'⟩, K', G', J', R'⟩ | r' | ⟨k', as, pc', L', st'⟩ := a
      · obtain ⟨X, hX⟩ := hx
        obtain ⟨Y, hY⟩ := ih h
        exact ⟨X ++ Y, by rw [hY, ← List.append_assoc]; exact congrArg (· ++ Y) hX⟩
      · cases h
        exact ⟨[], by rw [List.append_nil]; exact hx⟩
      · dsimp only at h
        cases hc : exec n k' 0 (entL (mL k') as) [] K G J R with
        | none => rw [hc] at h; cases h
        | some q =>
          obtain ⟨⟨K', G', J', R'⟩, v⟩ := q
          rw [hc] at h
          obtain ⟨X, hX⟩ := ih hc
          obtain ⟨Y, hY⟩ := ih h
          exact ⟨X ++ Y, by rw [hY, ← List.append_assoc]; exact congrArg (· ++ Y) hX⟩
theorem sound (l : Launch) : ∀ (n : Nat) {k pc : Nat} {L : LV} {st : List Value} {K : List KD} {G : SG} {J : SJ} {R : SR} {r : RES}, exec n k pc L st K G J R = some r →
    ∀ {p : Program} {e : Env} {s : State} {m : MethodId} {args : Array Value} {below : List Frame} {meth : Method} {c : Code} {D : va_G} {dA : Nat → ClassId} {sz mc ms cells slots : Nat}, CX k p s m meth c → Tb s → va_K D vwCl (tyL dA) s → cells + r.1.1.length ≤ mc + K.length → slots + ssum r.1.1 ≤ ms + ssum K →
    WK p l e s m args below meth c (MQ below (QQ D dA sz r) args s mc ms (AA sz)) D dA sz k mc ms cells slots pc L st K G J R := by
  intro n
  induction n with
  | zero => intro k pc L st K G J R r h; cases h
  | succ n ih =>
    intro k pc L st K G J R r h p e s m args below meth c D dA sz mc ms cells slots hC hT hK h1 h2
    rw [exec] at h
    cases hs : stepI k pc L st K G J R with
    | none => rw [hs] at h; cases h
    | some a =>
      rw [hs] at h
      obtain ⟨ins, len, hd, hl, hj⟩ := stepI_inv hs
      obtain ⟨hx, ho⟩ := step_ok (l := l) hj hd hl
      obtain ⟨⟨pc', L', st'⟩, K', G', J', R'⟩ | r' | ⟨k', as, pc', L', st'⟩ := a
      · obtain ⟨X, hX⟩ := hx
        change K' = K ++ X at hX
        obtain ⟨Y, hY⟩ := exec_ext l n h
        have e1 : r.1.1.length = K'.length + Y.length := by rw [hY, List.length_append]
        have e2 : ssum r.1.1 = ssum K' + ssum Y := by rw [hY, ssum_app]
        have e3 : K'.length = K.length + X.length := by rw [hX, List.length_append]
        have e4 : ssum K' = ssum K + ssum X := by rw [hX, ssum_app]
        exact ho hC hT hK (by omega) (by omega) (ih h hC hT hK (by omega) (by omega))
      · have er : r' = r := Option.some.inj h
        subst er
        change r'.1.1 = K at hx
        rw [hx] at h1 h2
        exact ho hC hT hK (by omega) (by omega) rfl
      · dsimp only at h
        cases hc : exec n k' 0 (entL (mL k') as) [] K G J R with
        | none => rw [hc] at h; cases h
        | some q =>
          obtain ⟨⟨K', G', J', R'⟩, v⟩ := q
          rw [hc] at h
          obtain ⟨X, hX⟩ := exec_ext l n hc
          change K' = K ++ X at hX
          obtain ⟨Y, hY⟩ := exec_ext l n h
          have e1 : r.1.1.length = K'.length + Y.length := by rw [hY, List.length_append]
          have e2 : ssum r.1.1 = ssum K' + ssum Y := by rw [hY, ssum_app]
          have e3 : K'.length = K.length + X.length := by rw [hX, List.length_append]
          have e4 : ssum K' = ssum K + ssum X := by rw [hX, ssum_app]
          obtain ⟨hk', hen⟩ := hx
          obtain ⟨o1, o2, o3, o4, o5, o6, o7, o8, o9⟩ := mT_ok k' hk'
          refine ho hC hT hK ((K', G', J', R'), v) X.length (ssum X) ?_ (by omega) (by omega) (ih h hC hT hK (by omega) (by omega))
          refine Met.ofW (cc := mb k') (maxL := mL k') (ret := mret k') o6 rfl ?_
          intro p e s m args below meth c s₁ B hml hv
          obtain ⟨rfl, vT, vK, vP, vz⟩ := hv
          have hown : s.vm.findClass (cnm (mo k')) = some m.cls := by rw [← o5]; exact findClass_of_methodNamed B.named
          have hC' : CX k' p s m meth c := ⟨B.exec, B.bytes, B.returns, hml, hown, B.notSynchronized, fun h => ((name_of_methodNamed B.named B.method).1).trans (o3 h).2.1⟩
          rw [lg_entry_eq]
          exact ih hc hC' vT vK (by show 0 + K'.length ≤ _; omega) (by show 0 + ssum K' ≤ _; omega) _ _ _ (LH.entry hen) vP va_S.rf
/-- a method, by what the interpreter makes of it -/
theorem met_of (l : Launch) {n k : Nat} {as : List Value} {K : List KD} {G : SG} {J : SJ} {R : SR} {r : RES} {X : List KD} (hk : k < 169) (hen : (entA as).length ≤ mL k) (h : exec n k 0 (entL (mL k) as) [] K G J R = some r) (hX : r.1.1 = K ++ X) {D : va_G} {dA : Nat → ClassId} {sz : Nat} : MC l D dA sz k as K G J R r X.length (ssum X) := by
  obtain ⟨o1, o2, o3, o4, o5, o6, o7, o8, o9⟩ := mT_ok k hk
  refine Met.ofW (cc := mb k) (maxL := mL k) (ret := mret k) o6 rfl ?_
  intro p e s m args below meth c s₁ B hml hv
  obtain ⟨rfl, vT, vK, vP, vz⟩ := hv
  have hown : s.vm.findClass (cnm (mo k)) = some m.cls := by rw [← o5]; exact findClass_of_methodNamed B.named
  have hC' : CX k p s m meth c := ⟨B.exec, B.bytes, B.returns, hml, hown, B.notSynchronized, fun h => ((name_of_methodNamed B.named B.method).1).trans (o3 h).2.1⟩
  rw [lg_entry_eq]
  have e1 : r.1.1.length = K.length + X.length := by rw [hX, List.length_append]
  have e2 : ssum r.1.1 = ssum K + ssum X := by rw [hX, ssum_app]
  exact sound l n h hC' vT vK (by omega) (by omega) _ _ _ (LH.entry hen) vP va_S.rf
