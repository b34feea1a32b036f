/-! memory, over the abstract cells -/
section MEM
variable {p : Program} {l : Launch} {e : Env} {s : State} {m : MethodId} {args : Array Value} {below : List Frame} {meth : Method} {c : Code} {Q : State → Prop} {D : va_G} {dA : Nat → ClassId} {sz k mc ms cells slots pc : Nat} {L : LV} {st r : List Value} {K : List KD} {G G' : SG} {J J' : SJ} {R R' : SR}
theorem k_getfield (hC : CX k p s m meth c) (hT : Tb s) (hK : va_K D vwCl (tyL dA) s) {i ci f a : Nat} (hf : fl (mo k) i = some (ci, f)) (ha : K[a]? = some (.inr ci)) (hd : decode (mb k) pc = .ok (.getfield i, 3)) (h : WK p l e s m args below meth c Q D dA sz k mc ms cells slots (pc + 3) L (fv G J R (cTy ci f) a f :: r) K G J R) : WK p l e s m args below meth c Q D dA sz k mc ms cells slots pc L (.ref a :: r) K G J R := by
  intro ls H locs hl hP hS
  obtain ⟨h9, hn, hw⟩ := fl_spec hf
  have hv : ((List.range (cN ci)).map (fun s => cv sz (fv G J R (cTy ci s) a s)))[f]? = some (cv sz (fv G J R (cTy ci f) a f)) := fs_at hn
  rcases hw with hw | hw
  · exact va_get (D := D) (ci := ci) (C := cnm ci) (T := cT ci) (N := cN ci) hC.1 hC.2.1 (hT.at) (cls_in ci h9) hC.2.2.2.2.1 hK hP.1 a (wld_at ha) (cls_at ci h9) f hn (hT.at _ (tw_in hw rfl)) (fun _ z => z) hv hd (h ls H locs hl hP hS)
  · exact va_getN (D := D) (ci := ci) (C := cnm ci) (T := cT ci) (N := cN ci) hC.1 hC.2.1 (hT.at) (cls_in ci h9) hC.2.2.2.2.1 hK hP.1 a (wld_at ha) (cls_at ci h9) f hn (hT.at _ (tw_in hw rfl)) (fun _ z => z) hv hd (h ls H locs hl hP hS)
theorem Rp_set {H1 : Heap} {a : Nat} {kd : KD} {q : va_E} (ha : K[a]? = some kd) (hG : ∀ b, b ≠ a → G' b = G b) (hJ : ∀ b, b ≠ a → J' b = J b) (hR : ∀ b, b ≠ a → R' b = R b) (he : ent dA sz G' J' R' a kd = q) (hP : va_P D vwCl ((wld dA sz K G J R).set a (sz + a, q)) H1) (hz : H1.size = sz + K.length) : Rp D dA sz K G' J' R' H1 := ⟨by rw [← wld_set ha hG hJ hR he]; exact hP, hz⟩
theorem fl_own {o i ci f : Nat} (h : fl o i = some (ci, f)) (ho : ci = o) : Cond.fieldLink (cnm o) i (cT ci f).1 (cT ci f).2.1 (cT ci f).2.2.1 ∈ lw_tbl ∧ (cT ci f).1 = cnm o := by
  unfold fl at h
  obtain ⟨r, hr, he⟩ := Option.map_eq_some_iff.mp h
  have h1 := List.mem_of_find?_eq_some hr
  have h2 := List.find?_some hr
  simp only [Bool.and_eq_true, beq_iff_eq] at h2
  obtain ⟨a, b, c, d, e⟩ := r
  obtain ⟨rfl, rfl⟩ := h2
  cases he
  have h3 : ∀ r ∈ flT, r.2.2.1 = r.1 → tw r.2.2.2.2 = some (.fieldLink (cnm r.1) r.2.1 (cT r.2.2.1 r.2.2.2.1).1 (cT r.2.2.1 r.2.2.2.1).2.1 (cT r.2.2.1 r.2.2.2.1).2.2.1) ∧ (cT r.2.2.1 r.2.2.2.1).1 = cnm r.1 := by decide +kernel
  exact ⟨tw_mem (h3 _ h1 ho).1, (h3 _ h1 ho).2⟩
theorem k_putfield (hC : CX k p s m meth c) (hT : Tb s) (hK : va_K D vwCl (tyL dA) s) {i ci f a : Nat} {v : Value} (hf : fl (mo k) i = some (ci, f)) (ha : K[a]? = some (.inr ci)) (hfin : (cT ci f).2.2.2 = false ∨ ((cT ci f).2.2.2 = true ∧ mkd k = 2 ∧ ci = mo k)) (hw : wrF (cTy ci f) v a f G J R = some (G', J', R')) (hd : decode (mb k) pc = .ok (.putfield i, 3)) (h : WK p l e s m args below meth c Q D dA sz k mc ms cells slots (pc + 3) L r K G' J' R') : WK p l e s m args below meth c Q D dA sz k mc ms cells slots pc L (v :: .ref a :: r) K G J R := by
  intro ls H locs hl hP hS
  obtain ⟨h9, hn, hlk⟩ := fl_spec hf
  obtain ⟨wG, wJ, wR, wv, wo, -, -, wsz⟩ := wrF_spec hw
  obtain ⟨wn, wf⟩ := wsz sz
  have hts := hT.at (args := args)
  have hin := cls_in ci h9
  have hown := hC.2.2.2.2.1
  have hc := cls_at ci h9
  have hap := va_apart (own := cnm (mo k)) hts hin (cTy ci) (cls_ty ci h9) (cls_nm ci h9) hK hc
  have he := wld_at (dA := dA) (sz := sz) (G := G) (J := J) (R := R) ha
  obtain ⟨r0, h1, cell, q1, q2, q3, q4⟩ := hP.1 a _ he
  have hr : r0 = (cnm ci, cT ci, cN ci) := Option.some.inj (h1.symm.trans hc)
  subst hr
  obtain ⟨hS1, hfc, kC, hkC, hkind⟩ := hK.1 ci _ hc
  obtain ⟨cf, kf, fi, fd, hi, hsl⟩ := hS1 f hn
  have hst := (u_facts hfc hkC (u_lays hts hin hn) hi).1
  have fin : ∀ H' : Heap, H'[sz + a]? = some (cell.setSlot (D.2 ci f) (cv sz v)) → H'.size = H.size → (∀ q, q ≠ sz + a → H'[q]? = H[q]?) → W p l e (RM k mc ms) s m args below meth c H' (locs ++ [⟨sz + a, D.2 ci f⟩]) cells slots Q (F0 m (pc + 3) ls (r.map (cv sz))) := by
    intro H' e1 e2 e3
    refine h ls H' _ hl ⟨?_, e2.trans hP.2⟩ (hS.put e2 e3 (show sz ≤ sz + a by omega))
    have hset : va_P D vwCl ((wld dA sz K G J R).set a (sz + a, .inr (ci, ((List.range (cN ci)).map (fun s => cv sz (fv G J R (cTy ci s) a s))).set f (cv sz v)))) H' :=
      hP.1.set (wld_D dA sz K G J R) he ⟨_, hc, t_OB.to (V := updV (vp_V ((List.range (cN ci)).map (fun s => cv sz (fv G J R (cTy ci s) a s)))) f (cv sz v)) ⟨_, e1, q2, q3, t_set q4 hap hn (cv sz v)⟩ (fun j _ => vp_updV_set (by simpa using hn) (cv sz v) j)⟩ e3
    rw [wld_set ha wG wJ wR (e := .inr (ci, ((List.range (cN ci)).map (fun s => cv sz (fv G J R (cTy ci s) a s))).set f (cv sz v))) (by
      show Sum.inr _ = Sum.inr _
      congr 2
      symm
      exact range_set hn (by rw [wv]) (fun j hj => by rw [wo _ _ hj]))] at hset
    exact hset
  rcases hfin with hfin | ⟨hfin, hk2, rfl⟩
  · have hlay := hts _ (hin _ (u_in_lay hn))
    unfold u_lay at hlay
    rw [if_neg (by rw [hfin]; decide)] at hlay
    have h6 := u_store hfc hkC hkind hlay hi (cls_ty ci h9 f hn) wn wf
    rcases hlk with hlk | hlk
    · refine W.putK hC.1 hC.2.1 (f := fd) ⟨hown, hts _ (tw_in hlk rfl), ⟨_, _, _, hi⟩, hst⟩ (by rw [q2]; exact h6) q1 q3 (by rw [hsl]; exact k2_hasslot (q4 f hn)) rfl rfl hd fun H' e1 e2 e3 => ?_
      rw [hsl] at e1 ⊢
      exact fin H' e1 e2 e3
    · refine va_WputK hC.1 hC.2.1 (f := fd) hown (hts _ (tw_in hlk rfl)) hi hst (by rw [q2]; exact h6) q1 q3 (by rw [hsl]; exact k2_hasslot (q4 f hn)) rfl rfl hd fun H' e1 e2 e3 => ?_
      rw [hsl] at e1 ⊢
      exact fin H' e1 e2 e3
  · obtain ⟨hlk, hdecl⟩ := fl_own hf rfl
    have hlay := hts _ (hin _ (u_in_lay hn))
    unfold u_lay at hlay
    rw [if_pos hfin] at hlay
    have hcf : m.cls = cf := by
      obtain ⟨_, _, c', _, _, _, -, -, hf', -, -, -, hown2, -⟩ := Cond.laysFinal_spec hlay
      have e1 : c' = cf := by have := hi.symm.trans hf'; simp at this; exact this.1.symm
      rw [hdecl] at hown2
      rw [← e1]; exact Option.some.inj (hown.symm.trans hown2)
    have h6 := u_fits hfc hkC hkind (Or.inr hlay) hi (cls_ty (mo k) h9 f hn) wn wf
    refine W.putFinK hC.1 hC.2.1 hown (hts _ (tw_in hlk rfl)) hi hst hcf (hC.2.2.2.2.2.2 hk2) (by rw [q2]; exact h6) q1 q3 (by rw [hsl]; exact k2_hasslot (q4 f hn)) rfl rfl hd fun H' e1 e2 e3 => ?_
    rw [hsl] at e1 ⊢
    exact fin H' e1 e2 e3
theorem k_iastore (hC : CX k p s m meth c) (hK : va_K D vwCl (tyL dA) s) {i x : Int32} {n a : Nat} (ha : K[a]? = some (.inl (0, n))) (hin : inb i n = true) (hd : decode (mb k) pc = .ok (.iastore, 1)) (h : WK p l e s m args below meth c Q D dA sz k mc ms cells slots (pc + 1) L r K (up2 G a i.toNatClampNeg x) J R) : WK p l e s m args below meth c Q D dA sz k mc ms cells slots pc L (.int x :: .int i :: .ref a :: r) K G J R := by
  intro ls H locs hl hP hS
  have he : (wld dA sz K G J R)[a]? = some (sz + a, .inl (dA 0, n, .inl (G a))) := wld_at ha
  refine W.iast hC.1 hC.2.1 (hP.1 a _ he) ((hK.2 0 _ rfl).1 n (fun j => .int (G a j))) (fun q => by cases q) (by show ¬ (i < 0 ∨ (arrV _ _ _).slots.size ≤ _); rw [arrV_size]; exact inb_in hin) rfl rfl hd fun H1 e z oq => ?_
  refine h ls H1 _ hl (Rp_set ha (fun b hb => up2_ne hb) (fun _ _ => rfl) (fun _ _ => rfl) rfl (hP.1.set (wld_D dA sz K G J R) he ?_ oq) (z.trans hP.2)) (hS.put z oq (show sz ≤ sz + a by omega))
  show H1[sz + a]? = some (vp_cell (dA 0) (n, .inl (up2 G a i.toNatClampNeg x a)))
  rw [e, up2_row]
  rw [vp_cell_i, vp_cell_i, arrV_store]
  congr 2
  funext q
  by_cases hq : q = i.toNatClampNeg
  · subst hq
    simp [updV, upd]
  · simp [updV, upd, hq]
theorem k_bastore (hC : CX k p s m meth c) (hK : va_K D vwCl (tyL dA) s) {i x : Int32} {n a : Nat} (ha : K[a]? = some (.inl (1, n))) (hin : inb i n = true) (hx : x = 0 ∨ x = 1) (hd : decode (mb k) pc = .ok (.bastore, 1)) (h : WK p l e s m args below meth c Q D dA sz k mc ms cells slots (pc + 1) L r K (up2 G a i.toNatClampNeg x) J R) : WK p l e s m args below meth c Q D dA sz k mc ms cells slots pc L (.int x :: .int i :: .ref a :: r) K G J R := by
  intro ls H locs hl hP hS
  have he : (wld dA sz K G J R)[a]? = some (sz + a, .inl (dA 1, n, .inl (G a))) := wld_at ha
  refine W.zast hC.1 hC.2.1 (hP.1 a _ he) ((hK.2 1 _ rfl).1 n (fun j => .int (G a j))) (fun q => by cases q) (by show ¬ (i < 0 ∨ (arrV _ _ _).slots.size ≤ _); rw [arrV_size]; exact inb_in hin) rfl rfl hd fun H1 e z oq => ?_
  refine h ls H1 _ hl (Rp_set ha (fun b hb => up2_ne hb) (fun _ _ => rfl) (fun _ _ => rfl) rfl (hP.1.set (wld_D dA sz K G J R) he ?_ oq) (z.trans hP.2)) (hS.put z oq (show sz ≤ sz + a by omega))
  show H1[sz + a]? = some (vp_cell (dA 1) (n, .inl (up2 G a i.toNatClampNeg x a)))
  have hnx : narrow .boolean (.int x) = .int x := by rcases hx with rfl | rfl <;> rfl
  rw [e, up2_row, hnx]
  rw [vp_cell_i, vp_cell_i, arrV_store]
  congr 2
  funext q
  by_cases hq : q = i.toNatClampNeg
  · subst hq
    simp [updV, upd]
  · simp [updV, upd, hq]
theorem tyL_at {t : Nat} (ht : t = 0 ∨ t = 1) : (tyL dA)[t + 2]? = some (dA (t + 2), .object (cnm (t + 2))) := by rcases ht with rfl | rfl <;> rfl
theorem k_aastore (hC : CX k p s m meth c) (hK : va_K D vwCl (tyL dA) s) {i : Int32} {t n a q : Nat} (ht : t = 0 ∨ t = 1) (ha : K[a]? = some (.inl (t + 2, n))) (hin : inb i n = true) (hq : K[q]? = some (.inr (t + 2))) (hd : decode (mb k) pc = .ok (.aastore, 1)) (h : WK p l e s m args below meth c Q D dA sz k mc ms cells slots (pc + 1) L r K G J (up2 R a i.toNatClampNeg (some q))) : WK p l e s m args below meth c Q D dA sz k mc ms cells slots pc L (.ref q :: .int i :: .ref a :: r) K G J R := by
  intro ls H locs hl hP hS
  have h9 : t + 2 < 9 := by rcases ht with rfl | rfl <;> omega
  have hin := inb_in hin
  have hlt : i.toNatClampNeg < n := Nat.not_le.mp fun q => hin (Or.inr q)
  have h0 : ¬ i < 0 := fun q => hin (Or.inl q)
  have he : (wld dA sz K G J R)[a]? = some (sz + a, .inl (dA (t + 2), n, .inr (.inr (.inr (.inr (fun j => (R a j).map (fun a => sz + a))))))) := wld_at ha
  obtain ⟨r', hr', cellV, g1, g2, g3, -⟩ := hP.1 q _ (wld_at hq)
  have hcls := (hK.1 (t + 2) _ (cls_at (t + 2) h9)).2
  obtain ⟨kA, comp, k1, k2, k3, -⟩ := (hK.2 (t + 2) _ (tyL_at ht)).2
  have hcomp : comp = D.1 (t + 2) := Option.some.inj (k3.symm.trans hcls.1)
  subst hcomp
  obtain ⟨kC, hkC, -⟩ := hcls.2
  refine W.aast hC.1 hC.2.1 (hP.1 a _ he) (fun q h => by cases h) (fun h => by cases h) k1 k2 rfl hkC ⟨h0, by show _ < (arrV _ _ _).slots.size; rw [arrV_size]; exact hlt⟩ g1 (fun q h => by rw [g3] at h; cases h) (by rw [g2]; exact hkC) (by rw [g2]; exact va_assign hcls) rfl rfl hd fun H1 e z oq => ?_
  refine h ls H1 _ hl (Rp_set ha (fun _ _ => rfl) (fun _ _ => rfl) (fun b hb => up2_ne hb) rfl (hP.1.set (wld_D dA sz K G J R) he ?_ oq) (z.trans hP.2)) (hS.put z oq (show sz ≤ sz + a by omega))
  show H1[sz + a]? = some (vp_cell (dA (t + 2)) (n, .inr (.inr (.inr (.inr (fun j => (up2 R a i.toNatClampNeg (some q) a j).map (fun a => sz + a)))))))
  rw [e]
  rw [vp_cell_q, vp_cell_q, arrV_store]
  congr 2
  funext b
  by_cases hb : b = i.toNatClampNeg
  · subst hb
    simp [updV, up2, va_rf]
  · simp [updV, up2, hb]
theorem wld_push {kd : KD} : wld dA sz (K ++ [kd]) G J R = wld dA sz K G J R ++ [(sz + K.length, ent dA sz G J R K.length kd)] := by
  unfold wld
  rw [List.mapIdx_append]
  simp
theorem Rp_push {H H1 : Heap} {kd : KD} {q : va_E} (hP : Rp D dA sz K G J R H) (hG : ∀ b, b ≠ K.length → G' b = G b) (hJ : ∀ b, b ≠ K.length → J' b = J b) (hR : ∀ b, b ≠ K.length → R' b = R b) (he : ent dA sz G' J' R' K.length kd = q) (hq : va_at D vwCl (sz + K.length, q) H1) (z1 : H1.size = H.size + 1) (o1 : ∀ q, q < H.size → H1[q]? = H[q]?) : Rp D dA sz (K ++ [kd]) G' J' R' H1 := by
  refine ⟨?_, by rw [z1, hP.2, List.length_append]; rfl⟩
  rw [wld_push, wld_keep (G := G) (J := J) (R := R) (fun a ha => hG a (Nat.ne_of_lt ha)) (fun a ha => hJ a (Nat.ne_of_lt ha)) (fun a ha => hR a (Nat.ne_of_lt ha)), he]
  refine (hP.1.kept (fun k x hx => o1 x.1 ((hP.1 k x hx).lt))).app (fun k x hx => ?_)
  have hz : k < 1 := (List.getElem?_eq_some_iff.mp hx).1
  rw [show k = 0 by omega] at hx
  cases hx
  exact hq
theorem S_push {H H1 : Heap} {locs : List Loc} (hS : va_S (AA sz) s.heap H locs) (z1 : H1.size = H.size + 1) (o1 : ∀ q, q < H.size → H1[q]? = H[q]?) : va_S (AA sz) s.heap H1 locs := ⟨Nat.le_trans hS.1 (by omega), fun x h1 h2 => (o1 x (Nat.lt_of_lt_of_le h1 hS.1)).trans (hS.2.1 x h1 h2), hS.2.2⟩
theorem cls_nf : ∀ ci, ci < 9 → ∀ j, j < cN ci → cTy ci j ≠ .float ∧ cTy ci j ≠ .double := by decide +kernel
theorem k_new (hC : CX k p s m meth c) (hT : Tb s) (hK : va_K D vwCl (tyL dA) s) {i ci : Nat} (hi : clk (mo k) i = some ci) (hc1 : cells + 1 ≤ mc) (hs1 : slots + cN ci ≤ ms) (hd : decode (mb k) pc = .ok (.new i, 3)) (h : WK p l e s m args below meth c Q D dA sz k mc ms (cells + 1) (slots + cN ci) (pc + 3) L (.ref K.length :: st) (K ++ [.inr ci]) (zr G K.length 0) (zr J K.length 0) (zr R K.length none)) : WK p l e s m args below meth c Q D dA sz k mc ms cells slots pc L st K G J R := by
  intro ls H locs hl hP hS
  obtain ⟨h9, hw⟩ := clk_spec hi
  have hc := cls_at ci h9
  have hKn := hK.1 ci _ hc
  have hts := hT.at (args := args)
  refine W.newcK hC.1 hC.2.1 hC.2.2.2.2.1 (hts _ (tw_in hw rfl)) (hts _ (tw_in (cls_nw ci h9).1 rfl)) (hts _ (tw_in (cls_nw ci h9).2 rfl)) rfl hd hc1 hs1 hKn.2.1 hP.2 fun H1 kC hkC e1 z1 o1 => ?_
  rw [← hP.2] at z1 o1
  refine h ls H1 locs hl (Rp_push hP (fun b hb => zr_ne hb) (fun b hb => zr_ne hb) (fun b hb => zr_ne hb) rfl ?_ z1 o1) (S_push hS z1 o1)
  refine ⟨_, hc, (u_born (cTy ci) hts (cls_in ci h9) hKn hkC e1 (cls_ty ci h9)).to (fun j hj => ?_)⟩
  show defaultValue (cTy ci j) = vp_V _ j
  unfold vp_V
  rw [List.getD_eq_getElem?_getD, fs_at hj, Option.getD_some]
  unfold fv
  rw [zr_row, zr_row, zr_row]
  have hnf := cls_nf ci h9 j hj
  generalize cTy ci j = ty at hnf ⊢
  cases ty <;> first | rfl | exact absurd rfl hnf.1 | exact absurd rfl hnf.2
theorem k_newarray (hC : CX k p s m meth c) (hT : Tb s) (hK : va_K D vwCl (tyL dA) s) {ty : ArrayType} {t : Nat} {x : Int32} (ht : (ty = .int ∧ t = 0) ∨ (ty = .boolean ∧ t = 1)) (hx : ¬ x < 0) (hxn : x.toNatClampNeg ≤ 1000) (hc1 : cells + 1 ≤ mc) (hs1 : slots + x.toNatClampNeg ≤ ms) (hd : decode (mb k) pc = .ok (.newarray ty, 2)) (h : WK p l e s m args below meth c Q D dA sz k mc ms (cells + 1) (slots + x.toNatClampNeg) (pc + 2) L (.ref K.length :: r) (K ++ [.inl (t, x.toNatClampNeg)]) (zr G K.length 0) J R) : WK p l e s m args below meth c Q D dA sz k mc ms cells slots pc L (.int x :: r) K G J R := by
  intro ls H locs hl hP hS
  have hts := hT.at (args := args)
  rcases ht with ⟨rfl, rfl⟩ | ⟨rfl, rfl⟩
  · refine va_newaK (atype := .int) hC.1 hC.2.1 (hts _ (tw_in arr_in.1 rfl)) rfl hd rfl hx rfl (by show x.toNatClampNeg * 4 ≤ _; omega) hc1 hs1 hP.2 fun H1 cA e1 z1 o1 hAr hNm => ?_
    rw [← hP.2] at z1 o1
    have hcA : cA = dA 0 := Option.some.inj (hNm.symm.trans (hK.2 0 _ rfl).2)
    subst hcA
    refine h ls H1 locs hl (Rp_push hP (fun b hb => zr_ne hb) (fun _ _ => rfl) (fun _ _ => rfl) rfl ?_ z1 o1) (S_push hS z1 o1)
    show H1[sz + K.length]? = some (vp_cell (dA 0) (x.toNatClampNeg, .inl (zr G K.length 0 K.length)))
    rw [zr_row, vp_cell_i]
    exact e1
  · refine va_newaK (atype := .boolean) hC.1 hC.2.1 (hts _ (tw_in arr_in.2.1 rfl)) rfl hd rfl hx rfl (by show x.toNatClampNeg * 1 ≤ _; omega) hc1 hs1 hP.2 fun H1 cA e1 z1 o1 hAr hNm => ?_
    rw [← hP.2] at z1 o1
    have hcA : cA = dA 1 := Option.some.inj (hNm.symm.trans (hK.2 1 _ rfl).2)
    subst hcA
    refine h ls H1 locs hl (Rp_push hP (fun b hb => zr_ne hb) (fun _ _ => rfl) (fun _ _ => rfl) rfl ?_ z1 o1) (S_push hS z1 o1)
    show H1[sz + K.length]? = some (vp_cell (dA 1) (x.toNatClampNeg, .inl (zr G K.length 0 K.length)))
    rw [zr_row, vp_cell_i]
    exact e1
theorem k_anewarray (hC : CX k p s m meth c) (hT : Tb s) (hK : va_K D vwCl (tyL dA) s) {i ci : Nat} {x : Int32} (hi : clk (mo k) i = some ci) (hci : ci = 2 ∨ ci = 3) (hx : ¬ x < 0) (hxn : x.toNatClampNeg ≤ 1000) (hc1 : cells + 1 ≤ mc) (hs1 : slots + x.toNatClampNeg ≤ ms) (hd : decode (mb k) pc = .ok (.anewarray i, 3)) (h : WK p l e s m args below meth c Q D dA sz k mc ms (cells + 1) (slots + x.toNatClampNeg) (pc + 3) L (.ref K.length :: r) (K ++ [.inl (ci, x.toNatClampNeg)]) G J (zr R K.length none)) : WK p l e s m args below meth c Q D dA sz k mc ms cells slots pc L (.int x :: r) K G J R := by
  intro ls H locs hl hP hS
  have hts := hT.at (args := args)
  obtain ⟨h9, hw⟩ := clk_spec hi
  have hAO : (Cond.arrayOver (.object (cnm ci))).before args s = true := by
    rcases hci with rfl | rfl
    · exact hts _ (tw_in arr_in.2.2.1 rfl)
    · exact hts _ (tw_in arr_in.2.2.2 rfl)
  have hdA : s.vm.findClass ("[" ++ (FieldType.object (cnm ci)).toString) = some (dA ci) := by
    rcases hci with rfl | rfl
    · exact (hK.2 2 _ rfl).2.choose_spec.choose_spec.2.2.2
    · exact (hK.2 3 _ rfl).2.choose_spec.choose_spec.2.2.2
  refine W.anew hC.1 hC.2.1 hC.2.2.2.2.1 (hts _ (tw_in hw rfl)) hAO rfl hd rfl hx (by omega) hc1 hs1 fun cA kA comp f1 f2 f3 f4 => ?_
  have hcA : cA = dA ci := Option.some.inj (f1.symm.trans hdA)
  subst hcA
  generalize hH1 : H.push ({ cls := dA ci, slots := Array.replicate x.toNatClampNeg .null, vm := .none } : Cell) = H1
  have z1 : H1.size = H.size + 1 := by rw [← hH1, Array.size_push]
  have e1 : H1[H.size]? = some (arrV (dA ci) x.toNatClampNeg (fun _ => .null)) := by rw [← hH1, Array.getElem?_push_size, ← arrV_new]
  have o1 : ∀ q : Nat, q < H.size → H1[q]? = H[q]? := fun q hq => by rw [← hH1, Array.getElem?_push, if_neg (Nat.ne_of_lt hq)]
  have hent : ent dA sz G J (zr R K.length none) K.length (.inl (ci, x.toNatClampNeg)) = .inl (dA ci, x.toNatClampNeg, .inr (.inr (.inr (.inr (fun _ => none))))) := by
    rcases hci with rfl | rfl <;> simp [ent, zr_row]
  have hfin := h ls H1 locs hl (Rp_push hP (fun _ _ => rfl) (fun _ _ => rfl) (fun b hb => zr_ne hb) hent (by
    show H1[sz + K.length]? = some (vp_cell _ _)
    rw [vp_cell_q, ← hP.2]
    exact e1) z1 o1) (S_push hS z1 o1)
  have e9 : (.ref H.size : Value) = cv sz (.ref K.length) := by rw [hP.2]; rfl
  rw [e9]
  exact hfin
theorem k_iaload (hC : CX k p s m meth c) (hK : va_K D vwCl (tyL dA) s) {i : Int32} {n a : Nat} (ha : K[a]? = some (.inl (0, n))) (hin : inb i n = true) (hd : decode (mb k) pc = .ok (.iaload, 1)) (h : WK p l e s m args below meth c Q D dA sz k mc ms cells slots (pc + 1) L (.int (G a i.toNatClampNeg) :: r) K G J R) : WK p l e s m args below meth c Q D dA sz k mc ms cells slots pc L (.int i :: .ref a :: r) K G J R :=
  fun ls H locs hl hP hS => va_iald hC.1 hC.2.1 hK hP.1 a 0 (wld_at ha) rfl (inb_in hin) hd (h ls H locs hl hP hS)
theorem k_baload (hC : CX k p s m meth c) (hK : va_K D vwCl (tyL dA) s) {i : Int32} {n a : Nat} (ha : K[a]? = some (.inl (1, n))) (hin : inb i n = true) (hd : decode (mb k) pc = .ok (.baload, 1)) (h : WK p l e s m args below meth c Q D dA sz k mc ms cells slots (pc + 1) L (.int (G a i.toNatClampNeg) :: r) K G J R) : WK p l e s m args below meth c Q D dA sz k mc ms cells slots pc L (.int i :: .ref a :: r) K G J R :=
  fun ls H locs hl hP hS => va_zald hC.1 hC.2.1 hK hP.1 a 1 (wld_at ha) rfl (inb_in hin) hd (h ls H locs hl hP hS)
theorem k_aaload (hC : CX k p s m meth c) (hK : va_K D vwCl (tyL dA) s) {i : Int32} {t n a : Nat} (ht : t = 0 ∨ t = 1) (ha : K[a]? = some (.inl (t + 2, n))) (hin : inb i n = true) (hd : decode (mb k) pc = .ok (.aaload, 1)) (h : WK p l e s m args below meth c Q D dA sz k mc ms cells slots (pc + 1) L (rv (R a i.toNatClampNeg) :: r) K G J R) : WK p l e s m args below meth c Q D dA sz k mc ms cells slots pc L (.int i :: .ref a :: r) K G J R := by
  intro ls H locs hl hP hS
  have h1 := h ls H locs hl hP hS
  have h2 : (wld dA sz K G J R)[a]? = some (sz + a, .inl (dA (t + 2), n, .inr (.inr (.inr (.inr (fun j => (R a j).map (fun a => sz + a))))))) := wld_at ha
  rcases ht with rfl | rfl
  · refine va_aldq (C := cnm 2) hC.1 hC.2.1 hK hP.1 a 2 h2 rfl (inb_in hin) hd ?_
    rw [rv_cv]
    exact h1
  · refine va_aldq (C := cnm 3) hC.1 hC.2.1 hK hP.1 a 3 h2 rfl (inb_in hin) hd ?_
    rw [rv_cv]
    exact h1
theorem k_alen (hC : CX k p s m meth c) (hK : va_K D vwCl (tyL dA) s) {t n a : Nat} (ht : t < 4) (ha : K[a]? = some (.inl (t, n))) (hd : decode (mb k) pc = .ok (.arraylength, 1)) (h : WK p l e s m args below meth c Q D dA sz k mc ms cells slots (pc + 1) L (.int (Int32.ofNat n) :: r) K G J R) : WK p l e s m args below meth c Q D dA sz k mc ms cells slots pc L (.ref a :: r) K G J R := by
  intro ls H locs hl hP hS
  have h1 := h ls H locs hl hP hS
  have h2 := wld_at (dA := dA) (sz := sz) (G := G) (J := J) (R := R) ha
  match t, ht with
  | 0, _ => exact va_alen hC.1 hC.2.1 hK hP.1 a 0 h2 (ty := aty 0) rfl rfl hd h1
  | 1, _ => exact va_alen hC.1 hC.2.1 hK hP.1 a 1 h2 (ty := aty 1) rfl rfl hd h1
  | 2, _ => exact va_alen hC.1 hC.2.1 hK hP.1 a 2 h2 (ty := aty 2) rfl rfl hd h1
  | 3, _ => exact va_alen hC.1 hC.2.1 hK hP.1 a 3 h2 (ty := aty 3) rfl rfl hd h1
end MEM
