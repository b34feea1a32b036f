theorem ml_min {o i : Nat} (h : ml o i = some 169) : Cond.methodLink (cnm o) i Lib.Math.min.name ∈ lw_tbl := by
  unfold ml at h
  obtain ⟨r, hr, he⟩ := Option.map_eq_some_iff.mp h
  have h1 := List.mem_of_find?_eq_some hr
  have h2 := List.find?_some hr
  simp only [Bool.and_eq_true, beq_iff_eq] at h2
  obtain ⟨a, b, c, d⟩ := r
  obtain ⟨rfl, rfl⟩ := h2
  dsimp only at he
  subst he
  have h3 : ∀ r ∈ mlT, r.2.2.1 = 169 → tw r.2.2.2 = some (.methodLink (cnm r.1) r.2.1 Lib.Math.min.name) := by decide +kernel
  exact tw_mem (h3 _ h1 rfl)
section INV
variable {α : Type} {a : α}
theorem popI_some {st : List Value} {f : Int32 → List Value → Option α} (h : popI st f = some a) : ∃ x r, st = .int x :: r ∧ f x r = some a := by
  unfold popI at h
  split at h
  · exact ⟨_, _, rfl, h⟩
  · cases h
theorem popL_some {st : List Value} {f : Int64 → List Value → Option α} (h : popL st f = some a) : ∃ x r, st = .long x :: r ∧ f x r = some a := by
  unfold popL at h
  split at h
  · exact ⟨_, _, rfl, h⟩
  · cases h
theorem popR_some {st : List Value} {f : Nat → List Value → Option α} (h : popR st f = some a) : ∃ x r, st = .ref x :: r ∧ f x r = some a := by
  unfold popR at h
  split at h
  · exact ⟨_, _, rfl, h⟩
  · cases h
theorem popV_some {st : List Value} {f : Value → List Value → Option α} (h : popV st f = some a) : ∃ x r, st = x :: r ∧ f x r = some a := by
  unfold popV at h
  split at h
  · exact ⟨_, _, rfl, h⟩
  · cases h
theorem gI_some {L : LV} {i : Nat} {f : Int32 → Option α} (h : gI L i f = some a) : ∃ x, L[i]? = some (some (.int x)) ∧ f x = some a := by
  unfold gI at h
  split at h
  · next x hx => exact ⟨_, hx, h⟩
  · cases h
theorem gL_some {L : LV} {i : Nat} {f : Int64 → Option α} (h : gL L i f = some a) : ∃ x, L[i]? = some (some (.long x)) ∧ f x = some a := by
  unfold gL at h
  split at h
  · next x hx => exact ⟨_, hx, h⟩
  · cases h
theorem gR_some {L : LV} {i : Nat} {f : Nat → Option α} (h : gR L i f = some a) : ∃ x, L[i]? = some (some (.ref x)) ∧ f x = some a := by
  unfold gR at h
  split at h
  · next x hx => exact ⟨_, hx, h⟩
  · cases h
theorem set1_some {L : LV} {i : Nat} {v : Value} {f : LV → Option α} (h : set1 L i v f = some a) : i < L.length ∧ f ((clr L i).set i (some v)) = some a := by
  unfold set1 at h
  split at h
  · next hx => exact ⟨hx, h⟩
  · cases h
theorem set2_some {L : LV} {i : Nat} {v : Value} {f : LV → Option α} (h : set2 L i v f = some a) : i + 1 < L.length ∧ f (((clr L i).set i (some v)).set (i + 1) none) = some a := by
  unfold set2 at h
  split at h
  · next hx => exact ⟨hx, h⟩
  · cases h
theorem clr_len (L : LV) (i : Nat) : (clr L i).length = L.length := by
  cases i with
  | zero => rfl
  | succ j => exact List.length_set
theorem clr_at {L : LV} {i j : Nat} {w : Value} (h : (clr L i)[j]? = some (some w)) : L[j]? = some (some w) ∧ (j + 1 = i → ¬ w.category = 2) := by
  cases i with
  | zero => exact ⟨h, fun e => by omega⟩
  | succ n =>
    unfold clr at h
    by_cases e : j = n
    · subst e
      by_cases hl : j < L.length
      · rw [List.getElem?_set_self hl] at h
        have h1 := Option.some.inj h
        unfold cl at h1
        split at h1
        · next v hv =>
          split at h1
          · cases h1
          · next hc =>
            cases h1
            rw [List.getD_eq_getElem?_getD] at hv
            rw [List.getElem?_eq_getElem hl] at hv ⊢
            exact ⟨congrArg some hv, fun _ => hc⟩
        · cases h1
      · rw [List.getElem?_eq_none (by rw [List.length_set]; omega)] at h
        cases h
    · rw [List.getElem?_set_ne (Ne.symm e)] at h
      exact ⟨h, fun e2 => by omega⟩
theorem jp_some {pc : Nat} {off : Int} {f : Nat → Option α} (h : jp pc off f = some a) : ∃ t : Nat, (pc : Int) + off = (t : Int) ∧ f t = some a := by
  unfold jp at h
  split at h
  · next hx => exact ⟨_, hx, h⟩
  · cases h
theorem if_some {c : Prop} [Decidable c] {x : Option α} (h : (if c then x else none) = some a) : c ∧ x = some a := by
  split at h
  · next hc => exact ⟨hc, h⟩
  · cases h
theorem ifn_some {c : Prop} [Decidable c] {x : Option α} (h : (if c then none else x) = some a) : ¬ c ∧ x = some a := by
  split at h
  · cases h
  · next hc => exact ⟨hc, h⟩
end INV
theorem bI_some {st : List Value} {f : Int32 → Int32 → Int32} {g : List Value → Option ACT} {a : ACT} (h : bI st f g = some a) : ∃ x y r, st = .int y :: .int x :: r ∧ g (.int (f x y) :: r) = some a := by
  obtain ⟨y, r, e1, h1⟩ := popI_some h
  obtain ⟨x, r, e2, h2⟩ := popI_some h1
  exact ⟨x, y, r, by rw [e1, e2], h2⟩
theorem bL_some {st : List Value} {f : Int64 → Int64 → Int64} {g : List Value → Option ACT} {a : ACT} (h : bL st f g = some a) : ∃ x y r, st = .long y :: .long x :: r ∧ g (.long (f x y) :: r) = some a := by
  obtain ⟨y, r, e1, h1⟩ := popL_some h
  obtain ⟨x, r, e2, h2⟩ := popL_some h1
  exact ⟨x, y, r, by rw [e1, e2], h2⟩
theorem nx_some {pc : Nat} {L : LV} {st : List Value} {K : List KD} {G : SG} {J : SJ} {R : SR} {a : ACT} (h : nx pc L st K G J R = some a) : a = .inl ((pc, L, st), (K, G, J, R)) := (Option.some.inj h).symm
theorem inb_in {i : Int32} {n : Nat} (h : inb i n = true) : vp_in i n := by
  simpa [inb, vp_in] using h
/-! values, locals -/
def cv (sz : Nat) (v : Value) : Value := match v with
  | .ref a => .ref (sz + a)
  | v => v
theorem cv_cat (sz : Nat) (v : Value) : (cv sz v).category = v.category := by cases v <;> rfl
def LH (sz : Nat) (ls : Array Slot) (n : Nat) (L : LV) : Prop := L.length = n ∧ ls.size = n ∧ lv_wf ls ∧ ∀ (i : Nat) (v : Value), L[i]? = some (some v) → ls[i]? = some (.val (cv sz v))
def lst (sz : Nat) (L : LV) : List (Nat × Value) := (List.range L.length).filterMap (fun i => match L[i]? with
  | some (some v) => some (i, cv sz v)
  | _ => none)
theorem mem_lst {sz : Nat} {L : LV} {q : Nat × Value} : q ∈ lst sz L ↔ ∃ (i : Nat) (v : Value), L[i]? = some (some v) ∧ q = (i, cv sz v) := by
  unfold lst
  rw [List.mem_filterMap]
  constructor
  · rintro ⟨i, -, h⟩
    split at h
    · next v hv => exact ⟨i, v, hv, (Option.some.inj h).symm⟩
    · cases h
  · rintro ⟨i, v, h, rfl⟩
    exact ⟨i, List.mem_range.mpr (List.getElem?_eq_some_iff.mp h).1, by rw [h]⟩
theorem LH.has {sz : Nat} {ls : Array Slot} {n : Nat} {L : LV} (h : LH sz ls n L) : lv_has ls n (lst sz L) := by
  refine ⟨h.2.1, h.2.2.1, fun q hq => ?_⟩
  obtain ⟨i, v, hi, rfl⟩ := mem_lst.mp hq
  exact h.2.2.2 i v hi
theorem LH.set1 {sz : Nat} {ls ls' : Array Slot} {n i : Nat} {L : LV} {v : Value} (h : LH sz ls n L) (hi : i < L.length) (h' : lv_has ls' n ((i, cv sz v) :: (lst sz L).filter (fun q => !(q.1 == i) && !(q.1 + 1 == i && q.2.category == 2)))) : LH sz ls' n ((clr L i).set i (some v)) := by
  refine ⟨by rw [List.length_set, clr_len]; exact h.1, h'.1, h'.2.1, fun j w hj => ?_⟩
  by_cases e : j = i
  · subst e
    rw [List.getElem?_set_self (by rw [clr_len]; exact hi)] at hj
    cases hj
    exact h'.2.2 _ List.mem_cons_self
  · rw [List.getElem?_set_ne (Ne.symm e)] at hj
    obtain ⟨h1, h2⟩ := clr_at hj
    refine h'.2.2 (j, cv sz w) (List.mem_cons_of_mem _ (List.mem_filter.mpr ⟨mem_lst.mpr ⟨j, w, h1, rfl⟩, ?_⟩))
    by_cases e2 : j + 1 = i
    · have := h2 e2
      simp [cv_cat, this, e]
    · simp [e, e2]
theorem LH.set2 {sz : Nat} {ls ls' : Array Slot} {n i : Nat} {L : LV} {v : Value} (h : LH sz ls n L) (hi : i + 1 < L.length) (h' : lv_has ls' n ((i, cv sz v) :: (lst sz L).filter (fun q => !(q.1 == i) && (!(q.1 == i + 1) && !(q.1 + 1 == i && q.2.category == 2))))) : LH sz ls' n (((clr L i).set i (some v)).set (i + 1) none) := by
  refine ⟨by rw [List.length_set, List.length_set, clr_len]; exact h.1, h'.1, h'.2.1, fun j w hj => ?_⟩
  by_cases e1 : j = i + 1
  · subst e1
    rw [List.getElem?_set_self (by rw [List.length_set, clr_len]; exact hi)] at hj
    cases hj
  rw [List.getElem?_set_ne (Ne.symm e1)] at hj
  by_cases e : j = i
  · subst e
    rw [List.getElem?_set_self (by rw [clr_len]; omega)] at hj
    cases hj
    exact h'.2.2 _ List.mem_cons_self
  · rw [List.getElem?_set_ne (Ne.symm e)] at hj
    obtain ⟨h1, h2⟩ := clr_at hj
    refine h'.2.2 (j, cv sz w) (List.mem_cons_of_mem _ (List.mem_filter.mpr ⟨mem_lst.mpr ⟨j, w, h1, rfl⟩, ?_⟩))
    by_cases e2 : j + 1 = i
    · have := h2 e2
      simp [cv_cat, this, e, e1]
    · simp [e, e2, e1]
theorem ent_at {sz : Nat} {as : List Value} : ∀ {i : Nat} {v : Value}, (entA as)[i]? = some (some v) → (lg_sl (as.map (cv sz)))[i]? = some (.val (cv sz v)) := by
  induction as with
  | nil => intro i v h; simp [entA] at h
  | cons a as ih =>
    intro i v h
    have e1 : entA (a :: as) = (if a.category = 2 then [some a, none] else [some a]) ++ entA as := by simp [entA]
    have e2 : lg_sl ((a :: as).map (cv sz)) = (if a.category = 2 then [Slot.val (cv sz a), .second] else [.val (cv sz a)]) ++ lg_sl (as.map (cv sz)) := by simp [lg_sl, cv_cat]
    rw [e1] at h
    rw [e2]
    by_cases hc : a.category = 2
    · rw [if_pos hc] at h ⊢
      match i, h with
      | 0, h => simp at h; subst h; rfl
      | 1, h => simp at h
      | i + 2, h => exact ih (by simpa using h)
    · rw [if_neg hc] at h ⊢
      match i, h with
      | 0, h => simp at h; subst h; rfl
      | i + 1, h => exact ih (by simpa using h)
theorem ent_len {sz : Nat} (as : List Value) : (lg_sl (as.map (cv sz))).length = (entA as).length := by
  induction as with
  | nil => rfl
  | cons a as ih =>
    have e1 : entA (a :: as) = (if a.category = 2 then [some a, none] else [some a]) ++ entA as := by simp [entA]
    have e2 : lg_sl ((a :: as).map (cv sz)) = (if a.category = 2 then [Slot.val (cv sz a), .second] else [.val (cv sz a)]) ++ lg_sl (as.map (cv sz)) := by simp [lg_sl, cv_cat]
    rw [e1, e2, List.length_append, List.length_append, ih]
    split <;> rfl
theorem LH.entry {sz n : Nat} {as : List Value} (h : (entA as).length ≤ n) : LH sz ((lg_sl (as.map (cv sz)) ++ List.replicate (n - (lg_sl (as.map (cv sz))).length) Slot.unset).toArray) n (entL n as) := by
  obtain ⟨h1, h2, h3⟩ := lv_entry (as.map (cv sz)) (n := n) (by rw [ent_len]; exact h)
  refine ⟨by simp [entL]; omega, h1, h2, fun i v hi => ?_⟩
  unfold entL at hi
  by_cases hl : i < (entA as).length
  · rw [List.getElem?_append_left hl] at hi
    have := ent_at (sz := sz) hi
    simp only [List.getElem?_toArray]
    rw [List.getElem?_append_left (by rw [ent_len]; exact hl)]
    exact this
  · rw [List.getElem?_append_right (by omega)] at hi
    rw [List.getElem?_replicate] at hi
    split at hi <;> simp at hi
