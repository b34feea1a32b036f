/-! the world of the abstract cells -/
def ksz (kd : KD) : Nat := match kd with
  | .inl q => q.2
  | .inr ci => cN ci
def ssum (K : List KD) : Nat := (K.map ksz).sum
def ent (dA : Nat → ClassId) (sz : Nat) (G : SG) (J : SJ) (R : SR) (c : Nat) (kd : KD) : va_E := match kd with
  | .inl q => .inl (dA q.1, q.2, if q.1 < 2 then .inl (G c) else .inr (.inr (.inr (.inr (fun j => (R c j).map (fun a => sz + a))))))
  | .inr ci => .inr (ci, (List.range (cN ci)).map (fun s => cv sz (fv G J R (cTy ci s) c s)))
def wld (dA : Nat → ClassId) (sz : Nat) (K : List KD) (G : SG) (J : SJ) (R : SR) : va_W := K.mapIdx (fun c kd => (sz + c, ent dA sz G J R c kd))
def Rp (D : va_G) (dA : Nat → ClassId) (sz : Nat) (K : List KD) (G : SG) (J : SJ) (R : SR) (H : Heap) : Prop := va_P D vwCl (wld dA sz K G J R) H ∧ H.size = sz + K.length
def tyL (dA : Nat → ClassId) : List (ClassId × FieldType) := [(dA 0, aty 0), (dA 1, aty 1), (dA 2, aty 2), (dA 3, aty 3)]
def AA (sz : Nat) : Nat → Prop := fun q => sz ≤ q
theorem wld_at {dA : Nat → ClassId} {sz : Nat} {K : List KD} {G : SG} {J : SJ} {R : SR} {c : Nat} {kd : KD} (h : K[c]? = some kd) : (wld dA sz K G J R)[c]? = some (sz + c, ent dA sz G J R c kd) := by
  unfold wld
  rw [List.getElem?_mapIdx, h]
  rfl
theorem wld_D (dA : Nat → ClassId) (sz : Nat) (K : List KD) (G : SG) (J : SJ) (R : SR) : va_D (AA sz) (wld dA sz K G J R) := by
  have key : ∀ (i : Nat) (p : Nat × va_E), (wld dA sz K G J R)[i]? = some p → p.1 = sz + i := by
    intro i p h
    unfold wld at h
    rw [List.getElem?_mapIdx] at h
    obtain ⟨kd, -, e⟩ := Option.map_eq_some_iff.mp h
    rw [← e]
  refine ⟨fun i j p q hi hj e => ?_, fun k q hk => ?_⟩
  · have h1 := key i p hi
    have h2 := key j q hj
    omega
  · have h1 := key k q hk
    show sz ≤ q.1
    omega
theorem ent_congr {dA : Nat → ClassId} {sz : Nat} {G G' : SG} {J J' : SJ} {R R' : SR} {c : Nat} {kd : KD} (hG : G' c = G c) (hJ : J' c = J c) (hR : R' c = R c) : ent dA sz G' J' R' c kd = ent dA sz G J R c kd := by
  have hf : ∀ ty s, fv G' J' R' ty c s = fv G J R ty c s := by
    intro ty s
    unfold fv
    rw [hG, hJ, hR]
  unfold ent
  rw [hG, hR]
  simp only [hf]
theorem wld_set {dA : Nat → ClassId} {sz : Nat} {K : List KD} {G G' : SG} {J J' : SJ} {R R' : SR} {c : Nat} {kd : KD} {e : va_E} (h : K[c]? = some kd) (hG : ∀ a, a ≠ c → G' a = G a) (hJ : ∀ a, a ≠ c → J' a = J a) (hR : ∀ a, a ≠ c → R' a = R a) (he : ent dA sz G' J' R' c kd = e) : (wld dA sz K G J R).set c (sz + c, e) = wld dA sz K G' J' R' := by
  apply List.ext_getElem?
  intro i
  have hl : c < K.length := (List.getElem?_eq_some_iff.mp h).1
  by_cases hi : i = c
  · subst hi
    rw [List.getElem?_set_self (by simpa [wld] using hl), wld_at h, he]
  · rw [List.getElem?_set_ne (Ne.symm hi)]
    unfold wld
    rw [List.getElem?_mapIdx, List.getElem?_mapIdx]
    cases K[i]? with
    | none => rfl
    | some q => simp only [Option.map_some]; rw [ent_congr (hG i hi) (hJ i hi) (hR i hi)]
theorem wld_keep {dA : Nat → ClassId} {sz : Nat} {K : List KD} {G G' : SG} {J J' : SJ} {R R' : SR} (hG : ∀ a, a < K.length → G' a = G a) (hJ : ∀ a, a < K.length → J' a = J a) (hR : ∀ a, a < K.length → R' a = R a) : wld dA sz K G' J' R' = wld dA sz K G J R := by
  apply List.ext_getElem?
  intro i
  unfold wld
  rw [List.getElem?_mapIdx, List.getElem?_mapIdx]
  cases hq : K[i]? with
  | none => rfl
  | some q =>
    have hl := (List.getElem?_eq_some_iff.mp hq).1
    simp only [Option.map_some]; rw [ent_congr (hG i hl) (hJ i hl) (hR i hl)]
theorem up2_ne {α : Type} {f : Nat → Nat → α} {c s : Nat} {v : α} {a : Nat} (h : a ≠ c) : up2 f c s v a = f a := by
  funext b
  simp [up2, h]
theorem up2_row {f : Nat → Nat → Int32} {c s : Nat} {v : Int32} : up2 f c s v c = upd (f c) s v := by
  funext b
  simp [up2, upd]
theorem zr_ne {α : Type} {f : Nat → Nat → α} {c : Nat} {v : α} {a : Nat} (h : a ≠ c) : zr f c v a = f a := by
  funext b
  simp [zr, h]
theorem zr_row {α : Type} {f : Nat → Nat → α} {c : Nat} {v : α} : zr f c v c = fun _ => v := by
  funext b
  simp [zr]
theorem range_set {α : Type} {N s : Nat} {f g : Nat → α} {w : α} (hs : s < N) (h1 : g s = w) (h2 : ∀ j, j ≠ s → g j = f j) : ((List.range N).map f).set s w = (List.range N).map g := by
  apply List.ext_getElem?
  intro i
  by_cases hi : i = s
  · subst hi
    rw [List.getElem?_set_self (by simpa using hs), List.getElem?_map, List.getElem?_range hs, Option.map_some, h1]
  · rw [List.getElem?_set_ne (Ne.symm hi), List.getElem?_map, List.getElem?_map]
    by_cases hN : i < N
    · rw [List.getElem?_range hN, Option.map_some, Option.map_some, h2 i hi]
    · rw [List.getElem?_eq_none (by simpa using hN)]
      rfl
theorem fs_at {sz : Nat} {G : SG} {J : SJ} {R : SR} {ci c s : Nat} (hs : s < cN ci) : ((List.range (cN ci)).map (fun s => cv sz (fv G J R (cTy ci s) c s)))[s]? = some (cv sz (fv G J R (cTy ci s) c s)) := by
  rw [List.getElem?_map, List.getElem?_range hs]
  rfl
theorem wrF_spec {ty : FieldType} {v : Value} {c s : Nat} {G G' : SG} {J J' : SJ} {R R' : SR} (h : wrF ty v c s G J R = some (G', J', R')) :
    (∀ a, a ≠ c → G' a = G a) ∧ (∀ a, a ≠ c → J' a = J a) ∧ (∀ a, a ≠ c → R' a = R a) ∧ fv G' J' R' ty c s = v ∧ (∀ t j, j ≠ s → fv G' J' R' t c j = fv G J R t c j) ∧ narrow ty v = v ∧ fits ty v = true ∧ ∀ sz, narrow ty (cv sz v) = cv sz v ∧ fits ty (cv sz v) = true := by
  unfold wrF at h
  split at h
  · cases h
    refine ⟨fun a ha => up2_ne ha, fun _ _ => rfl, fun _ _ => rfl, by simp [fv, up2], fun t j hj => ?_, rfl, rfl, fun sz => ⟨rfl, rfl⟩⟩
    cases t <;> simp [fv, up2, hj]
  · next x =>
    obtain ⟨hx, h⟩ := if_some h
    cases h
    refine ⟨fun a ha => up2_ne ha, fun _ _ => rfl, fun _ _ => rfl, by simp [fv, up2], fun t j hj => ?_, ?_, ?_, fun sz => ?_⟩
    · cases t <;> simp [fv, up2, hj]
    · rcases hx with rfl | rfl <;> rfl
    · rcases hx with rfl | rfl <;> rfl
    · rcases hx with rfl | rfl <;> exact ⟨rfl, rfl⟩
  · cases h
    refine ⟨fun _ _ => rfl, fun a ha => up2_ne ha, fun _ _ => rfl, by simp [fv, up2], fun t j hj => ?_, rfl, rfl, fun sz => ⟨rfl, rfl⟩⟩
    cases t <;> simp [fv, up2, hj]
  · cases h
    refine ⟨fun _ _ => rfl, fun _ _ => rfl, fun a ha => up2_ne ha, by simp [fv, up2, rv], fun t j hj => ?_, rfl, rfl, fun sz => ⟨rfl, rfl⟩⟩
    cases t <;> simp [fv, up2, hj]
  · cases h
    refine ⟨fun _ _ => rfl, fun _ _ => rfl, fun a ha => up2_ne ha, by simp [fv, up2, rv], fun t j hj => ?_, rfl, rfl, fun sz => ⟨rfl, rfl⟩⟩
    cases t <;> simp [fv, up2, hj]
  · cases h
theorem rv_cv {sz : Nat} (q : Option Nat) : va_rf (q.map (fun a => sz + a)) = cv sz (rv q) := by cases q <;> rfl
/-! the tables' words at a state -/
def Tb (U : State) : Prop := ∀ w ∈ TW, w.before #[] U = true
theorem wcl_warm {w : Cond} (h : wcl w = true) {s U : State} (hW : s.WarmedH U.vm) {a a' : Array Value} (hb : w.before a s = true) : w.before a' U = true := by
  unfold wcl at h
  split at h
  · exact va_Nw.use rfl (va_Nw.warmF hW (va_Nw.of rfl hb))
  · exact va_Nw.use rfl (va_Nw.warmM hW (va_Nw.of rfl hb))
  · exact va_AO.use (va_AO.moved hW.alike (va_AO.of hb))
  · exact word_at hW (good_of_word h) hb
theorem TW_wcl {w : Cond} (h : w ∈ TW) : wcl w = true := (List.mem_filter.mp h).2
theorem Tb.moved {s U : State} (h : Tb s) (hW : s.WarmedH U.vm) : Tb U := fun w hw => wcl_warm (TW_wcl hw) hW (h w hw)
theorem Tb.at {s : State} (h : Tb s) {args : Array Value} : ∀ w ∈ TW, w.before args s = true := fun w hw => wcl_warm (TW_wcl hw) (State.WarmedH.refl s) (h w hw)
theorem Tb.of {s : State} {args : Array Value} (h : ∀ w ∈ lw_tbl, w.before args s = true) : Tb s := fun w hw => wcl_warm (TW_wcl hw) (State.WarmedH.refl s) (h w (List.mem_filter.mp hw).1)
