/-! THE LAW, from its entry -/
theorem sum_kf : ssum KF ≤ 7302249 ∧ KF.length = 75 := by decide +kernel
theorem whole_start {p : Program} {e : Env} {s : State} {m : MethodId} {below : List Frame} {meth : Method} {c : Code} (l : Launch) {b L : Nat} {xs : Nat → Int32} (hL : L ≤ 3072) (C0 : lw_At p s m meth c b L xs) : W p l e room_1 s m #[Value.ref b] below meth c s.heap [] 0 0 (lw_Z below #[Value.ref b] s) (entryFrame m ([Value.ref b] : List Value).toArray 4) := by
  obtain ⟨hx, hb, hr, hml, hown, hts, hX, hbl, hlocks, hgv⟩ := id C0
  obtain ⟨D, dA, hK⟩ := law_known C0
  obtain ⟨K1, G1, J1, R1, G2, J2, R2, e1, hlen, e2, hrel, heq⟩ := ini_spec
  obtain ⟨X1, hX1⟩ := exec_ext l 700 e1
  obtain ⟨X2, hX2⟩ := exec_ext l 300 e2
  change K1 = [.inr 7] ++ X1 at hX1
  change KF = (K1 ++ [.inr 8]) ++ X2 at hX2
  have n1 : X1.length = 57 := by
    have := congrArg List.length hX1
    rw [List.length_append, hlen] at this
    simp only [List.length_singleton] at this
    omega
  have n2 : X2.length = 16 := by
    have := congrArg List.length hX2
    rw [sum_kf.2, List.length_append, List.length_append, hlen] at this
    simp only [List.length_singleton] at this
    omega
  have m1 : ssum KF = cN 7 + ssum X1 + cN 8 + ssum X2 := by
    have a1 : ssum K1 = cN 7 + ssum X1 := by rw [hX1, ssum_app]; rfl
    have a2 : ssum ([.inr 8] : List KD) = cN 8 := rfl
    rw [hX2, ssum_app, ssum_app, a1, a2]
  have m2 := sum_kf.1
  have hl := lv_entry ([.ref b]) (n := 4) (Nat.le_of_ble_eq_true rfl)
  rw [lg_entry_eq]
  generalize (lg_sl ([.ref b]) ++ List.replicate (4 - (lg_sl ([.ref b])).length) Slot.unset).toArray = ls at hl ⊢
  have hl : lv_has ls 4 [(0, .ref b)] := hl
  have hP0 : Rp D dA s.heap.size [] (fun _ _ => 0) (fun _ _ => 0) (fun _ _ => none) s.heap := ⟨fun k q h => by simp [wld] at h, rfl⟩
  refine law_new (ci := 7) C0 hK (by omega) (by decide +kernel) (by omega) (by omega) dL_law_0 hP0 va_S.rf (fun H1 hP1 hS1 => ?_)
  have hP1 : Rp D dA s.heap.size [.inr 7] (zr (fun _ _ => 0) 0 0) (zr (fun _ _ => 0) 0 0) (zr (fun _ _ => none) 0 none) H1 := hP1
  refine lv_dup hx hb dL_law_3 rfl ?_
  refine law_init (k' := 58) (a := 0) (X := X1) (rest := [.ref (s.heap.size + 0)]) C0 hK (by decide +kernel) (by decide +kernel) (by decide +kernel) (by decide +kernel) (by decide +kernel) (by decide +kernel) e1 hX1 (Nat.le_of_ble_eq_true rfl) dL_law_4 hl.1 hP1 hS1 (by omega) (by omega) (fun H2 locs2 hP2 hS2 => ?_)
  refine lv_astore_n (lv' := [(1, .ref (s.heap.size + 0)), (0, .ref b)]) hx hb dL_law_7 rfl hl (by decide) rfl (fun ls hl => ?_)
  refine law_new (ci := 8) C0 hK (by omega) (by decide +kernel) (by omega) (by omega) dL_law_8 hP2 hS2 (fun H3 hP3 hS3 => ?_)
  rw [hlen] at hP3 ⊢
  refine lv_dup hx hb dL_law_11 rfl ?_
  refine law_init (k' := 103) (a := 58) (X := X2) (rest := [.ref (s.heap.size + 58)]) C0 hK (by decide +kernel) (by decide +kernel) (by decide +kernel) (by decide +kernel) (by decide +kernel) (by decide +kernel) e2 hX2 (Nat.le_of_ble_eq_true rfl) dL_law_12 hl.1 hP3 hS3 (by omega) (by omega) (fun H4 locs4 hP4 hS4 => ?_)
  refine lv_astore_n (lv' := [(2, .ref (s.heap.size + 58)), (1, .ref (s.heap.size + 0)), (0, .ref b)]) hx hb dL_law_15 rfl hl (by decide) rfl (fun ls hl => ?_)
  refine lv_iconst (v := 0) hx hb dL_law_16 (by decide) ?_
  refine lv_istore_n (lv' := LVW s b 0) hx hb dL_law_17 rfl hl (by decide) rfl (fun ls hl => ?_)
  exact law_loop C0 hL hK (by omega) (by omega) (L + 1) 0 (by omega) (by omega) G2 J2 55 H4 locs4 ls kf_55 (rel_ini hrel) (Rp_R hP4 heq) hS4 hl
