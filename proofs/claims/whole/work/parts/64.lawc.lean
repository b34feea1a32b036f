/-! the law's frame: what it pushes, what it calls -/
section LAWC
variable {p : Program} {l : Launch} {e : Env} {s : State} {m : MethodId} {below : List Frame} {meth : Method} {c : Code} {b L : Nat} {xs : Nat → Int32} {Q : State → Prop} {D : va_G} {dA : Nat → ClassId} {cells slots : Nat} {H : Heap} {locs : List Loc} {ls : Array Slot} {x3 : Int32}
abbrev WW (p : Program) (l : Launch) (e : Env) (s : State) (m : MethodId) (b : Nat) (below : List Frame) (meth : Method) (c : Code) (Q : State → Prop) (cells slots : Nat) (ls : Array Slot) (H : Heap) (locs : List Loc) (pc : Nat) (st : List Value) : Prop := W p l e room_1 s m #[Value.ref b] below meth c H locs cells slots Q (F0 m pc ls st)
abbrev LVW (s : State) (b : Nat) (x3 : Int32) : List (Nat × Value) := [(3, .int x3), (2, .ref (s.heap.size + 58)), (1, .ref (s.heap.size + 0)), (0, .ref b)]
theorem push_arg (C0 : lw_At p s m meth c b L xs) (hl : lv_has ls 4 (LVW s b x3)) (hS : va_S (AA s.heap.size) s.heap H locs) {pc : Nat} {k : Int} {v : Int32} {st : List Value} (d0 : decode code pc = .ok (.aload_n 0, 1)) (d1 : decode code (pc + 1) = .ok (.iload_n 3, 1)) (d2 : decode code (pc + 2) = .ok (.iconst k, 1)) (d3 : decode code (pc + 3) = .ok (.iadd, 1)) (d4 : decode code (pc + 4) = .ok (.iaload, 1)) (hv : Int32.ofInt k = v) (hin : vp_in (x3 + v) L) (kk : WW p l e s m b below meth c Q cells slots ls H locs (pc + 5) (.int (xs (x3 + v).toNatClampNeg) :: st)) : WW p l e s m b below meth c Q cells slots ls H locs pc st := by
  obtain ⟨hx, hb, hr, hml, hown, hts, hX, hbl, hlocks, hgv⟩ := id C0
  have hbA : ¬ AA s.heap.size b := Nat.not_le.mpr hbl
  refine lv_aload_n hx hb d0 rfl (lv_at hl 3 rfl) ?_
  refine lv_iload_n hx hb d1 rfl (lv_at hl 0 rfl) ?_
  refine lv_iconst hx hb d2 hv ?_
  refine lv_iadd hx hb d3 ?_
  exact va_sld hx hb hX hbl hbA hS hin d4 kk
theorem push_bool (C0 : lw_At p s m meth c b L xs) {pc : Nat} {y : Int32} {st : List Value} (d0 : decode code pc = .ok (.ifCond .eq 7, 3)) (d1 : decode code (pc + 3) = .ok (.iconst 1, 1)) (d2 : decode code (pc + 4) = .ok (.goto 4, 3)) (d3 : decode code (pc + 7) = .ok (.iconst 0, 1)) (kk : WW p l e s m b below meth c Q cells slots ls H locs (pc + 8) (.int (bi (¬ y = 0)) :: st)) : WW p l e s m b below meth c Q cells slots ls H locs pc (.int y :: st) := by
  obtain ⟨hx, hb, hr, hml, hown, hts, hX, hbl, hlocks, hgv⟩ := id C0
  refine lv_if_eq (tgt := pc + 7) hx hb d0 (by omega) (fun z => ?_) (fun z => ?_)
  · refine lv_iconst (v := 0) hx hb d3 (by decide) ?_
    have e : bi (¬ y = 0) = 0 := by unfold bi; rw [if_neg (fun h => h z)]
    rw [e] at kk
    exact kk
  · refine lv_iconst (v := 1) hx hb d1 (by decide) ?_
    refine lv_goto (tgt := pc + 8) hx hb d2 (by omega) ?_
    have e : bi (¬ y = 0) = 1 := by unfold bi; rw [if_pos z]
    rw [e] at kk
    exact kk
def wl (y1 y2 : Int32) : Int64 := (y1.toInt64 <<< ((32 : Int32).toInt64 &&& 63)) ||| (y2.toInt64 &&& 4294967295)
theorem lk55 : Cond.constantLong R_law 55 4294967295 ∈ lw_tbl := by decide +kernel
theorem law_room {k' mc' ms' : Nat} (h : mdp k' + 1 ≤ 11 ∧ 8 + (mL k' + 11) + 39 * mdp k' ≤ 430) : (RM k' mc' ms').frames + 1 ≤ room_1.frames ∧ 8 + (mL k' + 11) + (RM k' mc' ms').locals ≤ room_1.locals := h
theorem law_callB {k' mc' ms' idx : Nat} (hT : Tb s) (hk : k' < 169) (hroom : mdp k' + 1 ≤ 11 ∧ 8 + (mL k' + 11) + 39 * mdp k' ≤ 430) (hw : Cond.methodLink R_law idx (my k') ∈ lw_tbl) : CallB room_1 s #[Value.ref b] R_law idx (my k') (mb k') (mL k') (mret k') [.code (my k') (mb k') (mL k') (mret k')] (RM k' mc' ms') mc' ms' (mnp k') := by
  obtain ⟨o1, o2, o3, o4, o5, o6, o7, o8, o9⟩ := mT_ok k' hk
  have hc : Cond.code (my k') (mb k') (mL k') (mret k') ∈ TW := tw_in (tw_mem (mcT_ok k' hk)) rfl
  refine callB_of (Ts := TW) (mnp k') hT.at ?_ rfl rfl rfl (hT.at _ (tw_in (tw_mem o4) rfl)) (hT.at _ (tw_in hw rfl)) ⟨o7.1, o7.2, o8⟩ (law_room hroom)
  intro w hw
  rw [List.mem_singleton.mp hw]
  exact ⟨hc, Or.inl rfl⟩
theorem law_virt (C0 : lw_At p s m meth c b L xs) (hK : va_K D vwCl (tyL dA) s) {idx k' a pc q q' : Nat} {as rest : List Value} {G G' : SG} {J J' : SJ} {v : Value} (hw : Cond.methodLink R_law idx (my k') ∈ lw_tbl) (hk : k' < 169) (hkd : mkd k' = 1) (hroom : mdp k' + 1 ≤ 11 ∧ 8 + (mL k' + 11) + 39 * mdp k' ≤ 430) (ha : KF[a]? = some (.inr (mo k'))) (hn : as.length = mnp k') (hen : (entA (.ref a :: as)).length ≤ mL k') (hrun : run k' (.ref a :: as) KF G J (RQ q) = some ((KF, G', J', RQ q'), some v)) (hrest : (rest.map fun v => v.category).sum ≤ 8) (hd : decode code pc = .ok (.invokevirtual idx, 3)) (hls : ls.size = 4) (hP : Rp D dA s.heap.size KF G J (RQ q) H) (hS : va_S (AA s.heap.size) s.heap H locs) (hc : cells ≤ 600000) (hs : slots ≤ 7302249)
    (kk : ∀ (H1 : Heap) (locs1 : List Loc), Rp D dA s.heap.size KF G' J' (RQ q') H1 → va_S (AA s.heap.size) s.heap H1 locs1 → WW p l e s m b below meth c Q cells slots ls H1 locs1 (pc + 3) (cv s.heap.size v :: rest)) : WW p l e s m b below meth c Q cells slots ls H locs pc ((as.map (cv s.heap.size)).reverse ++ .ref (s.heap.size + a) :: rest) := by
  obtain ⟨hx, hb, hr, hml, hown, hts, hX, hbl, hlocks, hgv⟩ := id C0
  have hT : Tb s := Tb.of hts
  obtain ⟨o1, o2, o3, o4, o5, o6, o7, o8, o9⟩ := mT_ok k' hk
  obtain ⟨i1, i2, i9⟩ := o2 hkd
  obtain ⟨n, hexec⟩ := ev_some.mp hrun
  have hM : MC l D dA s.heap.size k' (.ref a :: as) KF G J (RQ q) ((KF, G', J', RQ q'), some v) ([] : List KD).length (ssum []) := met_of l hk hen hexec (List.append_nil KF).symm
  have hrecv : ∃ cellB : Cell, H[s.heap.size + a]? = some cellB ∧ cellB.vm.isStatics = false ∧ s.vm.findClass (my k').cls = some cellB.cls := by
    rw [o5]
    exact va_recv (q := (cnm (mo k'), cT (mo k'), cN (mo k'))) hK hP.1 (cls_at (mo k') i9) (wld_at ha)
  exact call_go (va_runV (Ts := TW) (As := as.map (cv s.heap.size)) (rest := rest) ⟨hx, hb, hml, hown, hT.at⟩ hM ⟨law_callB hT hk hroom hw, hT.at _ (tw_in (tw_mem i1) rfl), hT.at _ (tw_in (tw_mem i2) rfl)⟩ ⟨PR_blind, hrecv, PR_at hT hK hP⟩ rfl (by rw [List.length_map]; exact hn) hls rfl (lv_room hrest) hd ⟨hc, hs⟩) hS kk
abbrev NX (p : Program) (l : Launch) (e : Env) (s : State) (m : MethodId) (b : Nat) (below : List Frame) (meth : Method) (c : Code) (Q : State → Prop) (cells slots : Nat) (ls : Array Slot) (D : va_G) (dA : Nat → ClassId) : Prop := ∀ (G : SG) (J : SJ) (q : Nat) (H : Heap) (locs : List Loc), KF[q]? = some (.inr 3) → RELx G → Rp D dA s.heap.size KF G J (RQ q) H → va_S (AA s.heap.size) s.heap H locs → WW p l e s m b below meth c Q cells slots ls H locs 1108 []
/-- both are asked the same, and answer the same -/
theorem both (C0 : lw_At p s m meth c b L xs) (hK : va_K D vwCl (tyL dA) s) {pc0 pcA pcB idx idm kx km q : Nat} {off : Int} {as : List Value} {G : SG} {J : SJ} (hsame : SAME kx km as)
    (hwx : Cond.methodLink R_law idx (my kx) ∈ lw_tbl) (hwm : Cond.methodLink R_law idm (my km) ∈ lw_tbl) (hox : (kx < 169 ∧ mkd kx = 1 ∧ mo kx = 7 ∧ mret kx = some .int ∧ as.length = mnp kx ∧ (entA (.ref (0 : Nat) :: as)).length ≤ mL kx) ∧ mdp kx + 1 ≤ 11 ∧ 8 + (mL kx + 11) + 39 * mdp kx ≤ 430) (hom : (km < 169 ∧ mkd km = 1 ∧ mo km = 8 ∧ as.length = mnp km ∧ (entA (.ref (58 : Nat) :: as)).length ≤ mL km) ∧ mdp km + 1 ≤ 11 ∧ 8 + (mL km + 11) + 39 * mdp km ≤ 430)
    (push1 : ∀ (H : Heap) (locs : List Loc), va_S (AA s.heap.size) s.heap H locs → WW p l e s m b below meth c Q cells slots ls H locs pcA ((as.map (cv s.heap.size)).reverse ++ [.ref (s.heap.size + 0)]) → WW p l e s m b below meth c Q cells slots ls H locs pc0 [])
    (push2 : ∀ (H : Heap) (locs : List Loc) (v : Value), va_S (AA s.heap.size) s.heap H locs → WW p l e s m b below meth c Q cells slots ls H locs pcB ((as.map (cv s.heap.size)).reverse ++ [.ref (s.heap.size + 58), v]) → WW p l e s m b below meth c Q cells slots ls H locs (pcA + 3) [v])
    (dA1 : decode code pcA = .ok (.invokevirtual idx, 3)) (dB1 : decode code pcB = .ok (.invokevirtual idm, 3)) (dC1 : decode code (pcB + 3) = .ok (.if_icmp .eq off, 3)) (hoff : ((pcB + 3 : Nat) : Int) + off = ((1108 : Nat) : Int))
    (hls : ls.size = 4) (hq : KF[q]? = some (.inr 3)) (hR : RELx G) (hP : Rp D dA s.heap.size KF G J (RQ q) H) (hS : va_S (AA s.heap.size) s.heap H locs) (hc : cells ≤ 600000) (hs : slots ≤ 7302249) (nxt : NX p l e s m b below meth c Q cells slots ls D dA) : WW p l e s m b below meth c Q cells slots ls H locs pc0 [] := by
  obtain ⟨hx, hb, hr, hml, hown, hts, hX, hbl, hlocks, hgv⟩ := id C0
  obtain ⟨⟨x1, x2, x3, x4, x5, x6⟩, x7⟩ := hox
  obtain ⟨⟨y1, y2, y3, y4, y5⟩, y6⟩ := hom
  obtain ⟨G1, G2, J1, J2, q1, q2, v, hq2, hR2, hr1, hr2⟩ := hsame G J q hq hR
  obtain ⟨w, hv⟩ := (run_ret hr1).1 x4
  cases hv
  refine push1 H locs hS ?_
  refine law_virt C0 hK hwx x1 x2 x7 (by rw [x3]; exact kf_0) x5 x6 hr1 (by simp) dA1 hls hP hS hc hs (fun H1 locs1 hP1 hS1 => ?_)
  refine push2 H1 locs1 _ hS1 ?_
  refine law_virt (rest := [.int w]) C0 hK hwm y1 y2 y6 (by rw [y3]; exact kf_58) y4 y5 hr2 (Nat.le_of_ble_eq_true rfl) dB1 hls hP1 hS1 hc hs (fun H2 locs2 hP2 hS2 => ?_)
  exact lv_icmp_eq (tgt := 1108) hx hb dC1 hoff (fun _ => nxt G2 J2 q2 H2 locs2 hq2 hR2 hP2 hS2) (fun z => absurd rfl z)
end LAWC
