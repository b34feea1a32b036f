/-! the law's loop, and its start -/
section LAWL
variable {p : Program} {l : Launch} {e : Env} {s : State} {m : MethodId} {below : List Frame} {meth : Method} {c : Code} {b L : Nat} {xs : Nat → Int32} {Q : State → Prop} {D : va_G} {dA : Nat → ClassId} {cells slots : Nat} {H : Heap} {locs : List Loc} {ls : Array Slot} {x3 : Int32} {q : Nat} {G : SG} {J : SJ} {R : SR} {K : List KD}
theorem lcmp_0 (w : Int64) : lg_cmp w w = 0 := by
  unfold lg_cmp
  rw [if_neg (Int64.lt_irrefl), if_pos rfl]
theorem law_c28 (C0 : lw_At p s m meth c b L xs) (hK : va_K D vwCl (tyL dA) s) (hl : lv_has ls 4 (LVW s b x3)) (hin : HI x3 L) (hq : KF[q]? = some (.inr 3)) (hR : RELx G) (hP : Rp D dA s.heap.size KF G J (RQ q) H) (hS : va_S (AA s.heap.size) s.heap H locs) (hc : cells ≤ 600000) (hs : slots ≤ 7302249) (nxt : NX p l e s m b below meth c Q cells slots ls D dA) : WW p l e s m b below meth c Q cells slots ls H locs 1094 [] := by
  obtain ⟨hx, hb, hr, hml, hown, hts, hX, hbl, hlocks, hgv⟩ := id C0
  obtain ⟨G1, G2, J1, J2, q1, q2, v, hq2, hR2, hr1, hr2⟩ := same_digest G J q hq hR
  obtain ⟨w, hv⟩ := (run_ret hr1).2 rfl
  cases hv
  refine lv_aload_n hx hb dL_law_1094 rfl (lv_at hl 2 rfl) ?_
  refine law_virt (k' := 87) (a := 0) (as := []) (rest := []) C0 hK (by decide +kernel) (by decide +kernel) (by decide +kernel) (by decide +kernel) kf_0 rfl (Nat.le_of_ble_eq_true rfl) hr1 (by simp) dL_law_1095 hl.1 hP hS hc hs (fun H1 locs1 hP1 hS1 => ?_)
  refine lv_aload_n hx hb dL_law_1098 rfl (lv_at hl 1 rfl) ?_
  refine law_virt (k' := 166) (a := 58) (as := []) (rest := [.long w]) C0 hK (by decide +kernel) (by decide +kernel) (by decide +kernel) (by decide +kernel) kf_58 rfl (Nat.le_of_ble_eq_true rfl) hr2 (Nat.le_of_ble_eq_true rfl) dL_law_1099 hl.1 hP1 hS1 hc hs (fun H2 locs2 hP2 hS2 => ?_)
  refine W.lcmp hx hb dL_law_1102 ?_
  rw [lcmp_0]
  exact lv_if_eq (tgt := 1108) hx hb dL_law_1103 (by decide) (fun _ => nxt G2 J2 q2 H2 locs2 hq2 hR2 hP2 hS2) (fun z => absurd rfl z)
theorem and31 (x : Int32) : ∃ j, j < 32 ∧ x &&& 31 = nI j := by
  refine ⟨(x &&& 31).toBitVec.toNat, ?_, ?_⟩
  · rw [Int32.toBitVec_and, BitVec.toNat_and]
    have := @Nat.and_le_right x.toBitVec.toNat (31 : Int32).toBitVec.toNat
    have e : (31 : Int32).toBitVec.toNat = 31 := by decide
    rw [e] at this ⊢
    omega
  · apply Int32.toBitVec_inj.mp
    show (x &&& 31).toBitVec = BitVec.ofNat 32 (x &&& 31).toBitVec.toNat
    rw [BitVec.ofNat_toNat, BitVec.setWidth_eq]
theorem sub6 {L i : Nat} (hL : L ≤ 3072) (hi : i ≤ L) : (Int32.ofNat L - 6 < nI i) ↔ L < i + 6 := by
  rw [Int32.lt_iff_toInt_lt, nI_toInt (show i < 2147483648 by omega)]
  have e : (Int32.ofNat L - 6).toInt = (L : Int) - 6 := by
    have h1 : (Int32.ofNat L).toInt = (L : Int) := nI_toInt (show L < 2147483648 by omega)
    rw [Int32.toInt_sub, h1, show (6 : Int32).toInt = 6 by decide]
    exact Int.bmod_eq_of_le (by omega) (by omega)
  rw [e]
  omega
theorem hi_of {L i : Nat} (hL : L ≤ 3072) (h : i + 6 ≤ L) : vp_in (nI i) L ∧ HI (nI i) L := by
  have k : ∀ j, j < 6 → vp_in (nI (i + j)) L := fun j hj => inb_in (inb_nI (show i + j < L by omega) (by omega))
  have e : ∀ j, nI i + nI j = nI (i + j) := fun j => nI_add i j
  refine ⟨k 0 (by omega), ?_, ?_, ?_, ?_, ?_⟩
  · have := k 1 (by omega); rw [← e 1] at this; exact this
  · have := k 2 (by omega); rw [← e 2] at this; exact this
  · have := k 3 (by omega); rw [← e 3] at this; exact this
  · have := k 4 (by omega); rw [← e 4] at this; exact this
  · have := k 5 (by omega); rw [← e 5] at this; exact this
theorem law_sw (C0 : lw_At p s m meth c b L xs) (hK : va_K D vwCl (tyL dA) s) (hl : lv_has ls 4 (LVW s b x3)) (hin : HI x3 L) (hq : KF[q]? = some (.inr 3)) (hR : RELx G) (hP : Rp D dA s.heap.size KF G J (RQ q) H) (hS : va_S (AA s.heap.size) s.heap H locs) (hc : cells ≤ 600000) (hs : slots ≤ 7302249) (nxt : NX p l e s m b below meth c Q cells slots ls D dA) {x : Int32} : WW p l e s m b below meth c Q cells slots ls H locs 33 [.int (x &&& 31)] := by
  obtain ⟨hx, hb, hr, hml, hown, hts, hX, hbl, hlocks, hgv⟩ := id C0
  obtain ⟨j, hj, ej⟩ := and31 x
  rw [ej]
  match j, hj with
  | 0, _ => exact lv_tableIn (off := 131) (tgt := 164) hx hb dL_law_33 (by decide) (by decide) (by decide) (by decide) (law_c0 C0 hK hl hin hq hR hP hS hc hs nxt)
  | 1, _ => exact lv_tableIn (off := 154) (tgt := 187) hx hb dL_law_33 (by decide) (by decide) (by decide) (by decide) (law_c1 C0 hK hl hin hq hR hP hS hc hs nxt)
  | 2, _ => exact lv_tableIn (off := 177) (tgt := 210) hx hb dL_law_33 (by decide) (by decide) (by decide) (by decide) (law_c2 C0 hK hl hin hq hR hP hS hc hs nxt)
  | 3, _ => exact lv_tableIn (off := 240) (tgt := 273) hx hb dL_law_33 (by decide) (by decide) (by decide) (by decide) (law_c3 C0 hK hl hin hq hR hP hS hc hs nxt)
  | 4, _ => exact lv_tableIn (off := 273) (tgt := 306) hx hb dL_law_33 (by decide) (by decide) (by decide) (by decide) (law_c4 C0 hK hl hin hq hR hP hS hc hs nxt)
  | 5, _ => exact lv_tableIn (off := 306) (tgt := 339) hx hb dL_law_33 (by decide) (by decide) (by decide) (by decide) (law_c5 C0 hK hl hin hq hR hP hS hc hs nxt)
  | 6, _ => exact lv_tableIn (off := 359) (tgt := 392) hx hb dL_law_33 (by decide) (by decide) (by decide) (by decide) (law_c6 C0 hK hl hin hq hR hP hS hc hs nxt)
  | 7, _ => exact lv_tableIn (off := 408) (tgt := 441) hx hb dL_law_33 (by decide) (by decide) (by decide) (by decide) (law_c7 C0 hK hl hin hq hR hP hS hc hs nxt)
  | 8, _ => exact lv_tableIn (off := 441) (tgt := 474) hx hb dL_law_33 (by decide) (by decide) (by decide) (by decide) (law_c8 C0 hK hl hin hq hR hP hS hc hs nxt)
  | 9, _ => exact lv_tableIn (off := 484) (tgt := 517) hx hb dL_law_33 (by decide) (by decide) (by decide) (by decide) (law_c9 C0 hK hl hin hq hR hP hS hc hs nxt)
  | 10, _ => exact lv_tableIn (off := 537) (tgt := 570) hx hb dL_law_33 (by decide) (by decide) (by decide) (by decide) (law_c10 C0 hK hl hin hq hR hP hS hc hs nxt)
  | 11, _ => exact lv_tableIn (off := 550) (tgt := 583) hx hb dL_law_33 (by decide) (by decide) (by decide) (by decide) (law_c11 C0 hK hl hin hq hR hP hS hc hs nxt)
  | 12, _ => exact lv_tableIn (off := 563) (tgt := 596) hx hb dL_law_33 (by decide) (by decide) (by decide) (by decide) (law_c12 C0 hK hl hin hq hR hP hS hc hs nxt)
  | 13, _ => exact lv_tableIn (off := 576) (tgt := 609) hx hb dL_law_33 (by decide) (by decide) (by decide) (by decide) (law_c13 C0 hK hl hin hq hR hP hS hc hs nxt)
  | 14, _ => exact lv_tableIn (off := 629) (tgt := 662) hx hb dL_law_33 (by decide) (by decide) (by decide) (by decide) (law_c14 C0 hK hl hin hq hR hP hS hc hs nxt)
  | 15, _ => exact lv_tableIn (off := 662) (tgt := 695) hx hb dL_law_33 (by decide) (by decide) (by decide) (by decide) (law_c15 C0 hK hl hin hq hR hP hS hc hs nxt)
  | 16, _ => exact lv_tableIn (off := 705) (tgt := 738) hx hb dL_law_33 (by decide) (by decide) (by decide) (by decide) (law_c16 C0 hK hl hin hq hR hP hS hc hs nxt)
  | 17, _ => exact lv_tableIn (off := 738) (tgt := 771) hx hb dL_law_33 (by decide) (by decide) (by decide) (by decide) (law_c17 C0 hK hl hin hq hR hP hS hc hs nxt)
  | 18, _ => exact lv_tableIn (off := 781) (tgt := 814) hx hb dL_law_33 (by decide) (by decide) (by decide) (by decide) (law_c18 C0 hK hl hin hq hR hP hS hc hs nxt)
  | 19, _ => exact lv_tableIn (off := 824) (tgt := 857) hx hb dL_law_33 (by decide) (by decide) (by decide) (by decide) (law_c19 C0 hK hl hin hq hR hP hS hc hs nxt)
  | 20, _ => exact lv_tableIn (off := 857) (tgt := 890) hx hb dL_law_33 (by decide) (by decide) (by decide) (by decide) (law_c20 C0 hK hl hin hq hR hP hS hc hs nxt)
  | 21, _ => exact lv_tableIn (off := 890) (tgt := 923) hx hb dL_law_33 (by decide) (by decide) (by decide) (by decide) (law_c21 C0 hK hl hin hq hR hP hS hc hs nxt)
  | 22, _ => exact lv_tableIn (off := 933) (tgt := 966) hx hb dL_law_33 (by decide) (by decide) (by decide) (by decide) (law_c22 C0 hK hl hin hq hR hP hS hc hs nxt)
  | 23, _ => exact lv_tableIn (off := 956) (tgt := 989) hx hb dL_law_33 (by decide) (by decide) (by decide) (by decide) (law_c23 C0 hK hl hin hq hR hP hS hc hs nxt)
  | 24, _ => exact lv_tableIn (off := 989) (tgt := 1022) hx hb dL_law_33 (by decide) (by decide) (by decide) (by decide) (law_c24 C0 hK hl hin hq hR hP hS hc hs nxt)
  | 25, _ => exact lv_tableIn (off := 1012) (tgt := 1045) hx hb dL_law_33 (by decide) (by decide) (by decide) (by decide) (law_c25 C0 hK hl hin hq hR hP hS hc hs nxt)
  | 26, _ => exact lv_tableIn (off := 1025) (tgt := 1058) hx hb dL_law_33 (by decide) (by decide) (by decide) (by decide) (law_c26 C0 hK hl hin hq hR hP hS hc hs nxt)
  | 27, _ => exact lv_tableIn (off := 1038) (tgt := 1071) hx hb dL_law_33 (by decide) (by decide) (by decide) (by decide) (law_c27 C0 hK hl hin hq hR hP hS hc hs nxt)
  | 28, _ => exact lv_tableIn (off := 1061) (tgt := 1094) hx hb dL_law_33 (by decide) (by decide) (by decide) (by decide) (law_c28 C0 hK hl hin hq hR hP hS hc hs nxt)
  | 29, _ => exact lv_tableOut (tgt := 1108) hx hb dL_law_33 (by decide) (by decide) (nxt G J q H locs hq hR hP hS)
  | 30, _ => exact lv_tableOut (tgt := 1108) hx hb dL_law_33 (by decide) (by decide) (nxt G J q H locs hq hR hP hS)
  | 31, _ => exact lv_tableOut (tgt := 1108) hx hb dL_law_33 (by decide) (by decide) (nxt G J q H locs hq hR hP hS)
  | j + 32, h => exact absurd h (by omega)
theorem law_loop (C0 : lw_At p s m meth c b L xs) (hL : L ≤ 3072) (hK : va_K D vwCl (tyL dA) s) (hc : cells ≤ 600000) (hs : slots ≤ 7302249) : ∀ (n i : Nat), i ≤ L → L + 1 ≤ i + n → ∀ (G : SG) (J : SJ) (q : Nat) (H : Heap) (locs : List Loc) (ls : Array Slot), KF[q]? = some (.inr 3) → RELx G → Rp D dA s.heap.size KF G J (RQ q) H → va_S (AA s.heap.size) s.heap H locs → lv_has ls 4 (LVW s b (nI i)) → WW p l e s m b below meth c (lw_Z below #[Value.ref b] s) cells slots ls H locs 18 [] := by
  obtain ⟨hx, hb, hr, hml, hown, hts, hX, hbl, hlocks, hgv⟩ := id C0
  have hbA : ¬ AA s.heap.size b := Nat.not_le.mpr hbl
  intro n
  induction n with
  | zero => intro i h1 h2; omega
  | succ n ih =>
    intro i h1 h2 G J q H locs ls hq hR hP hS hl
    refine lv_iload_n hx hb dL_law_18 rfl (lv_at hl 0 rfl) ?_
    refine lv_aload_n hx hb dL_law_19 rfl (lv_at hl 3 rfl) ?_
    refine va_slen hx hb hX hbl hbA hS dL_law_20 ?_
    refine lv_bipush (v := 6) hx hb dL_law_21 (by decide) ?_
    refine lv_isub hx hb dL_law_23 ?_
    refine lv_icmp_gt (tgt := 1114) hx hb dL_law_24 (by decide) (fun z => ?_) (fun z => ?_)
    · refine lv_iconst (v := 1) hx hb dL_law_1114 (by decide) ?_
      refine va_forget hS.2.2 ?_
      refine W.widen hc hs ?_
      exact lw_ret hx hb hr hlocks dL_law_1115
    · rw [sub6 hL h1] at z
      obtain ⟨v0, hin⟩ := hi_of hL (show i + 6 ≤ L by omega)
      refine lv_aload_n hx hb dL_law_27 rfl (lv_at hl 3 rfl) ?_
      refine lv_iload_n hx hb dL_law_28 rfl (lv_at hl 0 rfl) ?_
      refine va_sld hx hb hX hbl hbA hS v0 dL_law_29 ?_
      refine lv_bipush (v := 31) hx hb dL_law_30 (by decide) ?_
      refine lv_iand hx hb dL_law_32 ?_
      refine law_sw C0 hK hl hin hq hR hP hS hc hs ?_
      intro G' J' q' H' locs' hq' hR' hP' hS'
      refine lv_iinc (v := nI (i + 6)) (lv' := LVW s b (nI (i + 6))) hx hb dL_law_1108 hl (k := 0) rfl (nI_add i 6) (by decide) rfl (fun ls' hl' => ?_)
      refine lv_goto (tgt := 18) hx hb dL_law_1111 (by decide) ?_
      exact ih (i + 6) (by omega) (by omega) G' J' q' H' locs' ls' hq' hR' hP' hS' hl'
theorem law_new (C0 : lw_At p s m meth c b L xs) (hK : va_K D vwCl (tyL dA) s) {i ci pc : Nat} {st : List Value} (h9 : ci < 9) (hw : Cond.classLink R_law i (cnm ci) ∈ lw_tbl) (hc1 : cells + 1 ≤ 600000) (hs1 : slots + cN ci ≤ 7302249) (hd : decode code pc = .ok (.new i, 3)) (hP : Rp D dA s.heap.size K G J R H) (hS : va_S (AA s.heap.size) s.heap H locs) (kk : ∀ H1 : Heap, Rp D dA s.heap.size (K ++ [.inr ci]) (zr G K.length 0) (zr J K.length 0) (zr R K.length none) H1 → va_S (AA s.heap.size) s.heap H1 locs → WW p l e s m b below meth c Q (cells + 1) (slots + cN ci) ls H1 locs (pc + 3) (.ref (s.heap.size + K.length) :: st)) : WW p l e s m b below meth c Q cells slots ls H locs pc st := by
  obtain ⟨hx, hb, hr, hml, hown, hts, hX, hbl, hlocks, hgv⟩ := id C0
  have hc := cls_at ci h9
  have hKn := hK.1 ci _ hc
  have hT : Tb s := Tb.of hts
  have hts' := hT.at (args := #[Value.ref b])
  refine W.newcK hx hb hown (hts _ hw) (hts _ (cls_nw ci h9).1) (hts _ (cls_nw ci h9).2) rfl hd hc1 hs1 hKn.2.1 hP.2 fun H1 kC hkC e1 z1 o1 => ?_
  rw [← hP.2] at z1 o1
  refine kk H1 (Rp_push hP (fun b hb => zr_ne hb) (fun b hb => zr_ne hb) (fun b hb => zr_ne hb) rfl ?_ z1 o1) (S_push hS z1 o1)
  refine ⟨_, hc, (u_born (cTy ci) hts' (cls_in ci h9) hKn hkC e1 (cls_ty ci h9)).to (fun j hj => ?_)⟩
  show defaultValue (cTy ci j) = vp_V _ j
  unfold vp_V
  rw [List.getD_eq_getElem?_getD, fs_at hj, Option.getD_some]
  unfold fv
  rw [zr_row, zr_row, zr_row]
  have hnf := cls_nf ci h9 j hj
  generalize cTy ci j = ty at hnf ⊢
  cases ty <;> first | rfl | exact absurd rfl hnf.1 | exact absurd rfl hnf.2
theorem law_init (C0 : lw_At p s m meth c b L xs) (hK : va_K D vwCl (tyL dA) s) {idx k' a pc n : Nat} {rest : List Value} {X K' : List KD} {G' : SG} {J' : SJ} {R' : SR} (hw : Cond.methodLink R_law idx (my k') ∈ lw_tbl) (hk : k' < 169) (hkd : mkd k' = 2) (hnp : mnp k' = 0) (hroom : mdp k' + 1 ≤ 11 ∧ 8 + (mL k' + 11) + 39 * mdp k' ≤ 430) (hen : (entA [.ref a]).length ≤ mL k') (hexec : exec n k' 0 (entL (mL k') [.ref a]) [] K G J R = some ((K', G', J', R'), none)) (hX' : K' = K ++ X) (hrest : (rest.map fun v => v.category).sum ≤ 8) (hd : decode code pc = .ok (.invokespecial idx, 3)) (hls : ls.size = 4) (hP : Rp D dA s.heap.size K G J R H) (hS : va_S (AA s.heap.size) s.heap H locs) (hc : cells + X.length ≤ 600000) (hs : slots + ssum X ≤ 7302249)
    (kk : ∀ (H1 : Heap) (locs1 : List Loc), Rp D dA s.heap.size K' G' J' R' H1 → va_S (AA s.heap.size) s.heap H1 locs1 → WW p l e s m b below meth c Q (cells + X.length) (slots + ssum X) ls H1 locs1 (pc + 3) rest) : WW p l e s m b below meth c Q cells slots ls H locs pc (.ref (s.heap.size + a) :: rest) := by
  obtain ⟨hx, hb, hr, hml, hown, hts, hX, hbl, hlocks, hgv⟩ := id C0
  have hT : Tb s := Tb.of hts
  obtain ⟨o1, o2, o3, o4, o5, o6, o7, o8, o9⟩ := mT_ok k' hk
  obtain ⟨i1, i2, i3⟩ := o3 hkd
  have hM : MC l D dA s.heap.size k' [.ref a] K G J R ((K', G', J', R'), none) X.length (ssum X) := met_of l hk hen hexec hX'
  have hB := law_callB (b := b) (mc' := X.length) (ms' := ssum X) hT hk hroom hw
  rw [i3] at hB
  unfold MC at hM
  rw [i3] at hM
  exact call_go (va_runI (Ts := TW) (As := []) (rest := rest) ⟨hx, hb, hml, hown, hT.at⟩ hM ⟨hB, i2, hT.at _ (tw_in (tw_mem i1) rfl)⟩ ⟨PR_blind, PR_at (as := [.ref (s.heap.size + a)]) hT hK hP⟩ rfl (by rw [hnp]; rfl) hls rfl (lv_room hrest) hd ⟨hc, hs⟩) hS kk
theorem law_known (C0 : lw_At p s m meth c b L xs) : ∃ (D : va_G) (dA : Nat → ClassId), va_K D vwCl (tyL dA) s := by
  obtain ⟨hx, hb, hr, hml, hown, hts, hX, hbl, hlocks, hgv⟩ := id C0
  have hk : ∀ ci, ∃ (cC : ClassId) (iS : Nat → Nat), ci < 9 → u_Kn s (cnm ci) (cT ci) (cN ci) cC iS := by
    intro ci
    by_cases h : ci < 9
    · obtain ⟨cC, iS, hK⟩ := u_known (C := cnm ci) (T := cT ci) (N := cN ci) (n := cN ci) hts (cls_in0 ci h) (hts _ (cls_nw ci h).1)
      exact ⟨cC, iS, fun _ => hK⟩
    · obtain ⟨cC, iS, -⟩ := u_known (C := cnm 0) (T := cT 0) (N := cN 0) (n := cN 0) hts (cls_in0 0 (by omega)) (hts _ (cls_nw 0 (by omega)).1)
      exact ⟨cC, iS, fun z => absurd z h⟩
  obtain ⟨cI, kI, compI, i1, i2, i3⟩ := Cond.arrayClass_spec (hts _ arr_in.1)
  obtain ⟨cZ, kZ, compZ, z1, z2, z3⟩ := Cond.arrayClass_spec (hts _ arr_in.2.1)
  obtain ⟨compD, cD, kD, d1, d2, d3, d4, d5⟩ := Cond.arrayOver_spec (hts _ arr_in.2.2.1)
  obtain ⟨compL, cL, kL, l1, l2, l3, l4, l5⟩ := Cond.arrayOver_spec (hts _ arr_in.2.2.2)
  refine ⟨(fun ci => (hk ci).choose, fun ci => (hk ci).choose_spec.choose), fun t => if t = 0 then cI else if t = 1 then cZ else if t = 2 then cD else cL, fun ci q hq => ?_, fun t q hq => ?_⟩
  · have h9 : ci < 9 := (List.getElem?_eq_some_iff.mp hq).1
    rw [cls_at ci h9] at hq
    cases hq
    exact (hk ci).choose_spec.choose_spec h9
  · match t, hq with
    | 0, hq =>
      cases hq
      exact ⟨fun N z => ⟨(fun k h => by cases h), kI, i2, compI, i3⟩, i1⟩
    | 1, hq =>
      cases hq
      exact ⟨fun N z => ⟨(fun k h => by cases h), kZ, z2, compZ, z3⟩, z1⟩
    | 2, hq =>
      cases hq
      exact ⟨fun N z => ⟨(fun k h => by cases h), kD, d3, compD, d4⟩, kD, compD, d3, d4, d1, d5⟩
    | 3, hq =>
      cases hq
      exact ⟨fun N z => ⟨(fun k h => by cases h), kL, l3, compL, l4⟩, kL, compL, l3, l4, l1, l5⟩
    | t + 4, hq => simp [tyL] at hq
end LAWL
