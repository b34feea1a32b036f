/-! calls and returns, over the abstract cells -/
def QQ (D : va_G) (dA : Nat → ClassId) (sz : Nat) (q : RES) : Array Value → State → Outcome → State → Prop := fun _ st oc t => oc = .returned (q.2.map (cv sz)) ∧ Rp D dA sz q.1.1 q.1.2.1 q.1.2.2.1 q.1.2.2.2 t.heap ∧ va_F (AA sz) st t
def PR (D : va_G) (dA : Nat → ClassId) (sz : Nat) (K : List KD) (G : SG) (J : SJ) (R : SR) (U : State) : Prop := Tb U ∧ va_K D vwCl (tyL dA) U ∧ Rp D dA sz K G J R U.heap ∧ sz ≤ U.heap.size
section CALL
variable {p : Program} {l : Launch} {e : Env} {s : State} {m : MethodId} {args : Array Value} {below : List Frame} {meth : Method} {c : Code} {Q : State → Prop} {D : va_G} {dA : Nat → ClassId} {sz k mc ms cells slots pc : Nat} {L : LV} {st r : List Value} {K : List KD} {G G' : SG} {J J' : SJ} {R R' : SR}
theorem call_go {Rm : Room} {H : Heap} {locs : List Loc} {ls : Array Slot} {rest st0 : List Value} {a : Array Value} {mc' ms' : Nat} {q : RES} (hr : va_Run p l e Rm s m args below meth c H locs cells slots mc' ms' (F0 m pc ls st0) rest (QQ D dA sz q a) (AA sz)) (hS : va_S (AA sz) s.heap H locs)
    (kk : ∀ (H1 : Heap) (locs1 : List Loc), Rp D dA sz q.1.1 q.1.2.1 q.1.2.2.1 q.1.2.2.2 H1 → va_S (AA sz) s.heap H1 locs1 → W p l e Rm s m args below meth c H1 locs1 (cells + mc') (slots + ms') Q (F0 m (pc + 3) ls ((q.2.map (cv sz)).toList ++ rest))) : W p l e Rm s m args below meth c H locs cells slots Q (F0 m pc ls st0) := by
  intro T hT X
  obtain ⟨v, st₀, t, T', L, h0, X', hL, e1, e2, ⟨hv, hp, hz, hk⟩, st⟩ := hr T hT X
  cases hv
  rw [h0] at hz hk
  obtain ⟨t2, a1, b1⟩ := kk T'.heap (locs ++ L) (by rw [e1]; exact hp)
    ⟨Nat.le_trans hS.1 (by rw [e1]; exact hz), fun q h1 h2 => by rw [e1, hk q (Nat.lt_of_lt_of_le h1 hS.1) h2]; exact hS.2.1 q h1 h2, fun q hq => by
      rcases List.mem_append.mp hq with h | h
      · exact hS.2.2 q h
      · exact hL q h⟩ T' rfl X'
  exact ⟨t2, st t2 a1, b1⟩
abbrev MC (l : Launch) (D : va_G) (dA : Nat → ClassId) (sz k : Nat) (as : List Value) (K : List KD) (G : SG) (J : SJ) (R : SR) (q : RES) (mc ms : Nat) : Prop := Met l (my k) [.code (my k) (mb k) (mL k) (mret k)] (RM k mc ms) (va_Pc (as.map (cv sz)) (PR D dA sz K G J R)) (QQ D dA sz q) mc ms (AA sz)
theorem PR_blind {as : List Value} : FrameBlind (va_Pc as (PR D dA sz K G J R)) := by
  intro a U g mk h
  obtain ⟨h1, h2, h3, h4, h5⟩ := h
  exact ⟨h1, h2.moved (State.WarmedH.refl U), va_K.moved (u := U) (U := U.calling g mk a) (Vm.Alike.refl U.vm) h3, h4, h5⟩
theorem PR_at {as : List Value} {H : Heap} (hT : Tb s) (hK : va_K D vwCl (tyL dA) s) (hP : Rp D dA sz K G J R H) : ∀ U : State, U.heap = H → s.WarmedH U.vm → va_Pc as (PR D dA sz K G J R) as.toArray U := fun U hU hW => ⟨rfl, hT.moved hW, hK.moved hW.alike, by rw [hU]; exact hP, by rw [hU, hP.2]; omega⟩
theorem room_ok {k k' mc' ms' : Nat} (hk : k' < 169) (hdep : mdp k' < mdp k) : (RM k' mc' ms').frames + 1 ≤ (RM k mc ms).frames ∧ 8 + (mL k' + 11) + (RM k' mc' ms').locals ≤ (RM k mc ms).locals := by
  have h1 := (mT_ok k' hk).2.2.2.2.2.2.2.2
  show mdp k' + 1 ≤ mdp k ∧ 8 + (mL k' + 11) + 39 * mdp k' ≤ 39 * mdp k
  omega
theorem cats {r : List Value} (h : r.length ≤ 4) : ((r.map (cv sz)).map fun v => v.category).sum ≤ 8 := by
  have key : ∀ r : List Value, ((r.map (cv sz)).map fun v => v.category).sum ≤ 2 * r.length := by
    intro r
    induction r with
    | nil => simp
    | cons a r ih =>
      have h2 : (cv sz a).category ≤ 2 := by rcases lv_cat (cv sz a) with h | h <;> omega
      simp only [List.map_cons, List.sum_cons, List.length_cons]
      omega
  have := key r
  omega
theorem callB_k {k' mc' ms' : Nat} {idx : Nat} (hT : Tb s) (hk : k' < 169) (hdep : mdp k' < mdp k) (hl : Cond.methodLink (cnm (mo k)) idx (my k') ∈ lw_tbl) : CallB (RM k mc ms) s args (cnm (mo k)) idx (my k') (mb k') (mL k') (mret k') [.code (my k') (mb k') (mL k') (mret k')] (RM k' mc' ms') mc' ms' (mnp k') := by
  obtain ⟨o1, o2, o3, o4, o5, o6, o7, o8, o9⟩ := mT_ok k' hk
  have hc : Cond.code (my k') (mb k') (mL k') (mret k') ∈ TW := tw_in (tw_mem (mcT_ok k' hk)) rfl
  refine callB_of (Ts := TW) (mnp k') hT.at ?_ rfl rfl rfl (hT.at _ (tw_in (tw_mem o4) rfl)) (hT.at _ (tw_in hl rfl)) ⟨o7.1, o7.2, o8⟩ (room_ok hk hdep)
  intro w hw
  rw [List.mem_singleton.mp hw]
  exact ⟨hc, Or.inl rfl⟩
theorem callN_k {k' mc' ms' : Nat} {idx : Nat} (hT : Tb s) (hk : k' < 169) (hdep : mdp k' < mdp k) (hl : Cond.methodLinkNest (cnm (mo k)) idx (my k') "OughtKnown" ∈ lw_tbl) : va_CN (RM k mc ms) s args (cnm (mo k)) idx (my k') "OughtKnown" (mb k') (mL k') (mret k') [.code (my k') (mb k') (mL k') (mret k')] (RM k' mc' ms') mc' ms' (mnp k') := by
  obtain ⟨o1, o2, o3, o4, o5, o6, o7, o8, o9⟩ := mT_ok k' hk
  have hc : Cond.code (my k') (mb k') (mL k') (mret k') ∈ TW := tw_in (tw_mem (mcT_ok k' hk)) rfl
  refine va_cnB (Ts := TW) (mnp k') hT.at ?_ rfl rfl rfl (va_Nw.of rfl (hT.at (args := args) _ (tw_in hl rfl))) (hT.at _ (tw_in (tw_mem o4) rfl)) ⟨o7.1, o7.2, o8⟩ (room_ok hk hdep)
  intro w hw
  rw [List.mem_singleton.mp hw]
  exact ⟨hc, Or.inl rfl⟩
theorem map_rev (as : List Value) : (as.reverse.map (cv sz)) = (as.map (cv sz)).reverse := List.map_reverse
theorem k_virt (hC : CX k p s m meth c) (hT : Tb s) (hK : va_K D vwCl (tyL dA) s) {idx k' a mc' ms' : Nat} {as : List Value} {q : RES} (hm : ml (mo k) idx = some k') (hk : k' < 169) (hkd : mkd k' = 1) (hdep : mdp k' < mdp k) (hr : r.length ≤ 4) (ha : K[a]? = some (.inr (mo k'))) (hn : as.length = mnp k') (hM : MC l D dA sz k' (.ref a :: as) K G J R q mc' ms') (hc1 : cells + mc' ≤ mc) (hs1 : slots + ms' ≤ ms) (hd : decode (mb k) pc = .ok (.invokevirtual idx, 3)) (h : WK p l e s m args below meth c Q D dA sz k mc ms (cells + mc') (slots + ms') (pc + 3) L (q.2.toList ++ r) q.1.1 q.1.2.1 q.1.2.2.1 q.1.2.2.2) : WK p l e s m args below meth c Q D dA sz k mc ms cells slots pc L (as.reverse ++ .ref a :: r) K G J R := by
  intro ls H locs hl hP hS
  obtain ⟨o1, o2, o3, o4, o5, o6, o7, o8, o9⟩ := mT_ok k' hk
  obtain ⟨i1, i2, i9⟩ := o2 hkd
  have hst : (as.reverse ++ .ref a :: r).map (cv sz) = (as.map (cv sz)).reverse ++ .ref (sz + a) :: r.map (cv sz) := by rw [List.map_append, List.map_reverse]; rfl
  have hrecv : ∃ cellB : Cell, H[sz + a]? = some cellB ∧ cellB.vm.isStatics = false ∧ s.vm.findClass (my k').cls = some cellB.cls := by
    rw [o5]
    exact va_recv (q := (cnm (mo k'), cT (mo k'), cN (mo k'))) hK hP.1 (cls_at (mo k') i9) (wld_at ha)
  have hcont : ∀ (H1 : Heap) (locs1 : List Loc), Rp D dA sz q.1.1 q.1.2.1 q.1.2.2.1 q.1.2.2.2 H1 → va_S (AA sz) s.heap H1 locs1 → W p l e (RM k mc ms) s m args below meth c H1 locs1 (cells + mc') (slots + ms') Q (F0 m (pc + 3) ls ((q.2.map (cv sz)).toList ++ r.map (cv sz))) := by
    intro H1 locs1 hP1 hS1
    have h1 := h ls H1 locs1 hl hP1 hS1
    rw [List.map_append] at h1
    have e1 : q.2.toList.map (cv sz) = (q.2.map (cv sz)).toList := by cases q.2 <;> rfl
    rw [e1] at h1
    exact h1
  rw [hst]
  obtain ⟨-, hw⟩ := ml_spec hm
  rcases hw with hw | hw
  · exact call_go (va_runV (Ts := TW) (As := as.map (cv sz)) (rest := r.map (cv sz)) ⟨hC.1, hC.2.1, hC.2.2.2.1, hC.2.2.2.2.1, hT.at⟩ hM ⟨callB_k hT hk hdep hw, hT.at _ (tw_in (tw_mem i1) rfl), hT.at _ (tw_in (tw_mem i2) rfl)⟩ ⟨PR_blind, hrecv, PR_at hT hK hP⟩ rfl (by rw [List.length_map]; exact hn) hl.2.1 rfl (lv_room (cats hr)) hd ⟨hc1, hs1⟩) hS hcont
  · exact call_go (va_runVN (Ts := TW) (As := as.map (cv sz)) (rest := r.map (cv sz)) ⟨hC.1, hC.2.1, hC.2.2.2.1, hC.2.2.2.2.1, hT.at⟩ hM ⟨callN_k hT hk hdep hw, hT.at _ (tw_in (tw_mem i1) rfl), hT.at _ (tw_in (tw_mem i2) rfl)⟩ ⟨PR_blind, hrecv, PR_at hT hK hP⟩ rfl (by rw [List.length_map]; exact hn) hl.2.1 rfl (lv_room (cats hr)) hd ⟨hc1, hs1⟩) hS hcont
theorem k_stat (hC : CX k p s m meth c) (hT : Tb s) (hK : va_K D vwCl (tyL dA) s) {idx k' mc' ms' : Nat} {as : List Value} {q : RES} (hm : ml (mo k) idx = some k') (hk : k' < 169) (hkd : mkd k' = 0) (hdep : mdp k' < mdp k) (hr : r.length ≤ 4) (hn : as.length = mnp k') (hM : MC l D dA sz k' as K G J R q mc' ms') (hc1 : cells + mc' ≤ mc) (hs1 : slots + ms' ≤ ms) (hd : decode (mb k) pc = .ok (.invokestatic idx, 3)) (h : WK p l e s m args below meth c Q D dA sz k mc ms (cells + mc') (slots + ms') (pc + 3) L (q.2.toList ++ r) q.1.1 q.1.2.1 q.1.2.2.1 q.1.2.2.2) : WK p l e s m args below meth c Q D dA sz k mc ms cells slots pc L (as.reverse ++ r) K G J R := by
  intro ls H locs hl hP hS
  obtain ⟨o1, o2, o3, o4, o5, o6, o7, o8, o9⟩ := mT_ok k' hk
  have i1 := o1 hkd
  have hst : (as.reverse ++ r).map (cv sz) = (as.map (cv sz)).reverse ++ r.map (cv sz) := by rw [List.map_append, List.map_reverse]
  have hcont : ∀ (H1 : Heap) (locs1 : List Loc), Rp D dA sz q.1.1 q.1.2.1 q.1.2.2.1 q.1.2.2.2 H1 → va_S (AA sz) s.heap H1 locs1 → W p l e (RM k mc ms) s m args below meth c H1 locs1 (cells + mc') (slots + ms') Q (F0 m (pc + 3) ls ((q.2.map (cv sz)).toList ++ r.map (cv sz))) := by
    intro H1 locs1 hP1 hS1
    have h1 := h ls H1 locs1 hl hP1 hS1
    rw [List.map_append] at h1
    have e1 : q.2.toList.map (cv sz) = (q.2.map (cv sz)).toList := by cases q.2 <;> rfl
    rw [e1] at h1
    exact h1
  rw [hst]
  obtain ⟨-, hw⟩ := ml_spec hm
  rcases hw with hw | hw
  · exact call_go (va_runS (Ts := TW) (As := as.map (cv sz)) (rest := r.map (cv sz)) ⟨hC.1, hC.2.1, hC.2.2.2.1, hC.2.2.2.2.1, hT.at⟩ hM ⟨callB_k hT hk hdep hw, hT.at _ (tw_in (tw_mem i1) rfl)⟩ ⟨PR_blind, PR_at hT hK hP⟩ rfl (by rw [List.length_map]; exact hn) hl.2.1 rfl (lv_room (cats hr)) hd ⟨hc1, hs1⟩) hS hcont
  · exact call_go (va_runSN (Ts := TW) (As := as.map (cv sz)) (rest := r.map (cv sz)) ⟨hC.1, hC.2.1, hC.2.2.2.1, hC.2.2.2.2.1, hT.at⟩ hM ⟨callN_k hT hk hdep hw, hT.at _ (tw_in (tw_mem i1) rfl), trivial⟩ ⟨PR_blind, PR_at hT hK hP⟩ rfl (by rw [List.length_map]; exact hn) hl.2.1 rfl (lv_room (cats hr)) hd ⟨hc1, hs1⟩) hS hcont
theorem k_spec (hC : CX k p s m meth c) (hT : Tb s) (hK : va_K D vwCl (tyL dA) s) {idx k' a mc' ms' : Nat} {as : List Value} {q : RES} (hm : ml (mo k) idx = some k') (hk : k' < 169) (hkd : mkd k' = 2) (hdep : mdp k' < mdp k) (hr : r.length ≤ 4) (hn : as.length = mnp k') (hM : MC l D dA sz k' (.ref a :: as) K G J R q mc' ms') (hc1 : cells + mc' ≤ mc) (hs1 : slots + ms' ≤ ms) (hd : decode (mb k) pc = .ok (.invokespecial idx, 3)) (h : WK p l e s m args below meth c Q D dA sz k mc ms (cells + mc') (slots + ms') (pc + 3) L (q.2.toList ++ r) q.1.1 q.1.2.1 q.1.2.2.1 q.1.2.2.2) : WK p l e s m args below meth c Q D dA sz k mc ms cells slots pc L (as.reverse ++ .ref a :: r) K G J R := by
  intro ls H locs hl hP hS
  obtain ⟨o1, o2, o3, o4, o5, o6, o7, o8, o9⟩ := mT_ok k' hk
  obtain ⟨i1, i2, i3⟩ := o3 hkd
  have hst : (as.reverse ++ .ref a :: r).map (cv sz) = (as.map (cv sz)).reverse ++ .ref (sz + a) :: r.map (cv sz) := by rw [List.map_append, List.map_reverse]; rfl
  have hcont : ∀ (H1 : Heap) (locs1 : List Loc), Rp D dA sz q.1.1 q.1.2.1 q.1.2.2.1 q.1.2.2.2 H1 → va_S (AA sz) s.heap H1 locs1 → W p l e (RM k mc ms) s m args below meth c H1 locs1 (cells + mc') (slots + ms') Q (F0 m (pc + 3) ls ((q.2.map (cv sz)).toList ++ r.map (cv sz))) := by
    intro H1 locs1 hP1 hS1
    have h1 := h ls H1 locs1 hl hP1 hS1
    rw [List.map_append] at h1
    have e1 : q.2.toList.map (cv sz) = (q.2.map (cv sz)).toList := by cases q.2 <;> rfl
    rw [e1] at h1
    exact h1
  rw [hst]
  obtain ⟨-, hw⟩ := ml_spec hm
  rcases hw with hw | hw
  · have hB := callB_k (args := args) (mc := mc) (ms := ms) (mc' := mc') (ms' := ms') hT hk hdep hw
    rw [i3] at hB
    have hM' := hM
    unfold MC at hM'
    rw [i3] at hM'
    exact call_go (va_runI (Ts := TW) (As := as.map (cv sz)) (rest := r.map (cv sz)) ⟨hC.1, hC.2.1, hC.2.2.2.1, hC.2.2.2.2.1, hT.at⟩ hM' ⟨hB, i2, hT.at _ (tw_in (tw_mem i1) rfl)⟩ ⟨PR_blind, PR_at (as := .ref (sz + a) :: as.map (cv sz)) hT hK hP⟩ rfl (by rw [List.length_map]; exact hn) hl.2.1 rfl (lv_room (cats hr)) hd ⟨hc1, hs1⟩) hS hcont
  · have hB := callN_k (args := args) (mc := mc) (ms := ms) (mc' := mc') (ms' := ms') hT hk hdep hw
    rw [i3] at hB
    have hM' := hM
    unfold MC at hM'
    rw [i3] at hM'
    exact call_go (va_runIN (Ts := TW) (As := as.map (cv sz)) (rest := r.map (cv sz)) ⟨hC.1, hC.2.1, hC.2.2.2.1, hC.2.2.2.2.1, hT.at⟩ hM' ⟨hB, i2, hT.at _ (tw_in (tw_mem i1) rfl)⟩ ⟨PR_blind, PR_at (as := .ref (sz + a) :: as.map (cv sz)) hT hK hP⟩ rfl (by rw [List.length_map]; exact hn) hl.2.1 rfl (lv_room (cats hr)) hd ⟨hc1, hs1⟩) hS hcont
theorem k_obj (hC : CX k p s m meth c) (hT : Tb s) {idx a : Nat} (ho : ol (mo k) idx = true) (hdp : 1 ≤ mdp k) (hr : r.length ≤ 4) (hd : decode (mb k) pc = .ok (.invokespecial idx, 3)) (h : WK p l e s m args below meth c Q D dA sz k mc ms cells slots (pc + 3) L r K G J R) : WK p l e s m args below meth c Q D dA sz k mc ms cells slots pc L (.ref a :: r) K G J R := by
  intro ls H locs hl hP hS
  have hts := hT.at (args := args)
  refine W.objInit (g := F0 m pc ls (.ref (sz + a) :: r.map (cv sz))) hC.1 hC.2.1 hC.2.2.2.2.1 (hts _ (tw_in (ol_spec ho) rfl)) (hts _ (tw_in obj_in.1 rfl)) (hts _ (tw_in obj_in.2 rfl)) rfl (hl.2.1.trans hC.2.2.2.1.symm) rfl hd hdp ?_ (h ls H locs hl hP hS)
  have := cats (sz := sz) hr
  show 2 * 0 + _ + 12 ≤ 39 * mdp k
  omega
theorem k_min (hC : CX k p s m meth c) (hT : Tb s) {idx : Nat} {x y : Int32} (hm : ml (mo k) idx = some 169) (hdp : 1 ≤ mdp k) (hr : r.length ≤ 4) (hc1 : cells ≤ mc) (hs1 : slots ≤ ms) (hd : decode (mb k) pc = .ok (.invokestatic idx, 3)) (h : WK p l e s m args below meth c Q D dA sz k mc ms cells slots (pc + 3) L (.int (if y < x then y else x) :: r) K G J R) : WK p l e s m args below meth c Q D dA sz k mc ms cells slots pc L (.int y :: .int x :: r) K G J R := by
  intro ls H locs hl hP hS
  have hts := hT.at (args := args)
  have := cats (sz := sz) hr
  exact va_mmin hC.1 hC.2.1 (hC.2.2.2.1.trans hl.2.1.symm) hC.2.2.2.2.1 (hts _ (tw_in (ml_min hm) rfl)) (hts _ (tw_in min_in.1 rfl)) (hts _ (tw_in min_in.2.2.1 rfl)) (hts _ (tw_in min_in.2.1 rfl)) hdp (by show _ ≤ 39 * mdp k; omega) hc1 hs1 hd (h ls H locs hl hP hS)
theorem k_iret (hC : CX k p s m meth c) {v : Int32} (hv : mret k = some .int ∨ (mret k = some .boolean ∧ (v = 0 ∨ v = 1))) (hc1 : cells ≤ mc) (hs1 : slots ≤ ms) (hd : decode (mb k) pc = .ok (.ireturn, 1)) : WK p l e s m args below meth c (MQ below (QQ D dA sz ((K, G, J, R), some (.int v))) args s mc ms (AA sz)) D dA sz k mc ms cells slots pc L [.int v] K G J R := by
  intro ls H locs hl hP hS
  refine W.widen hc1 hs1 ?_
  have hlocks := hC.2.2.2.2.2.1
  rcases hv with hv | ⟨hv, hv2⟩
  · exact W.iret (v := v) hC.1 hC.2.1 (hC.2.2.1.trans hv) (fun t ht hW => ⟨rfl, by rw [ht]; exact hP, hS.F ht⟩) hS.2.2 hd
  · exact W.zret (v := v) hC.1 hC.2.1 (hC.2.2.1.trans hv) (by rcases hv2 with rfl | rfl <;> rfl) (fun t ht hW => ⟨rfl, by rw [ht]; exact hP, hS.F ht⟩) hS.2.2 hd
theorem k_lret (hC : CX k p s m meth c) {v : Int64} (hv : mret k = some .long) (hc1 : cells ≤ mc) (hs1 : slots ≤ ms) (hd : decode (mb k) pc = .ok (.lreturn, 1)) : WK p l e s m args below meth c (MQ below (QQ D dA sz ((K, G, J, R), some (.long v))) args s mc ms (AA sz)) D dA sz k mc ms cells slots pc L [.long v] K G J R := by
  intro ls H locs hl hP hS
  refine W.widen hc1 hs1 ?_
  have hlocks := hC.2.2.2.2.2.1
  exact W.lret (v := v) hC.1 hC.2.1 (hC.2.2.1.trans hv) (fun t ht hW => ⟨rfl, by rw [ht]; exact hP, hS.F ht⟩) hS.2.2 hd
theorem k_vret (hC : CX k p s m meth c) (hv : mret k = none) (hc1 : cells ≤ mc) (hs1 : slots ≤ ms) (hd : decode (mb k) pc = .ok (.return_, 1)) : WK p l e s m args below meth c (MQ below (QQ D dA sz ((K, G, J, R), none)) args s mc ms (AA sz)) D dA sz k mc ms cells slots pc L [] K G J R := by
  intro ls H locs hl hP hS
  refine W.widen hc1 hs1 ?_
  have hlocks := hC.2.2.2.2.2.1
  exact W.vret hC.1 hC.2.1 (hC.2.2.1.trans hv) (fun t ht hW => ⟨rfl, by rw [ht]; exact hP, hS.F ht⟩) hS.2.2 hd
end CALL
