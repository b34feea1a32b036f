/-! the law, case by case -/
def HI (x3 : Int32) (L : Nat) : Prop := vp_in (x3 + 1) L ∧ vp_in (x3 + 2) L ∧ vp_in (x3 + 3) L ∧ vp_in (x3 + 4) L ∧ vp_in (x3 + 5) L
section LAWK0
variable {p : Program} {l : Launch} {e : Env} {s : State} {m : MethodId} {below : List Frame} {meth : Method} {c : Code} {b L : Nat} {xs : Nat → Int32} {Q : State → Prop} {D : va_G} {dA : Nat → ClassId} {cells slots : Nat} {H : Heap} {locs : List Loc} {ls : Array Slot} {x3 : Int32} {q : Nat} {G : SG} {J : SJ}
theorem law_c0 (C0 : lw_At p s m meth c b L xs) (hK : va_K D vwCl (tyL dA) s) (hl : lv_has ls 4 (LVW s b x3)) (hin : HI x3 L) (hq : KF[q]? = some (.inr 3)) (hR : RELx G) (hP : Rp D dA s.heap.size KF G J (RQ q) H) (hS : va_S (AA s.heap.size) s.heap H locs) (hc : cells ≤ 600000) (hs : slots ≤ 7302249) (nxt : NX p l e s m b below meth c Q cells slots ls D dA) : WW p l e s m b below meth c Q cells slots ls H locs 164 [] := by
  obtain ⟨hx, hb, hr, hml, hown, hts, hX, hbl, hlocks, hgv⟩ := id C0
  have push1 : ∀ (H : Heap) (locs : List Loc), va_S (AA s.heap.size) s.heap H locs → WW p l e s m b below meth c Q cells slots ls H locs 170 (((([.int (xs (x3 + 1).toNatClampNeg)] : List Value)).map (cv s.heap.size)).reverse ++ [.ref (s.heap.size + 0)]) → WW p l e s m b below meth c Q cells slots ls H locs 164 [] := fun H locs hS kk => by
    refine lv_aload_n hx hb dL_law_164 rfl (lv_at hl 2 rfl) ?_
    refine push_arg C0 hl hS dL_law_165 dL_law_166 dL_law_167 dL_law_168 dL_law_169 (v := 1) (by decide) hin.1 ?_
    exact kk
  have push2 : ∀ (H : Heap) (locs : List Loc) (v : Value), va_S (AA s.heap.size) s.heap H locs → WW p l e s m b below meth c Q cells slots ls H locs 179 (((([.int (xs (x3 + 1).toNatClampNeg)] : List Value)).map (cv s.heap.size)).reverse ++ [.ref (s.heap.size + 58), v]) → WW p l e s m b below meth c Q cells slots ls H locs (170 + 3) [v] := fun H locs v hS kk => by
    refine lv_aload_n hx hb dL_law_173 rfl (lv_at hl 1 rfl) ?_
    refine push_arg C0 hl hS dL_law_174 dL_law_175 dL_law_176 dL_law_177 dL_law_178 (v := 1) (by decide) hin.1 ?_
    exact kk
  exact both C0 hK (kx := 59) (km := 107) (as := [.int (xs (x3 + 1).toNatClampNeg)]) (same_person (xs (x3 + 1).toNatClampNeg)) (by decide +kernel) (by decide +kernel) ⟨⟨by decide +kernel, by decide +kernel, by decide +kernel, rfl, rfl, Nat.le_of_ble_eq_true rfl⟩, by decide +kernel⟩ ⟨⟨by decide +kernel, by decide +kernel, by decide +kernel, rfl, Nat.le_of_ble_eq_true rfl⟩, by decide +kernel⟩ push1 push2 dL_law_170 dL_law_179 dL_law_182 (by decide) hl.1 hq hR hP hS hc hs nxt
theorem law_c1 (C0 : lw_At p s m meth c b L xs) (hK : va_K D vwCl (tyL dA) s) (hl : lv_has ls 4 (LVW s b x3)) (hin : HI x3 L) (hq : KF[q]? = some (.inr 3)) (hR : RELx G) (hP : Rp D dA s.heap.size KF G J (RQ q) H) (hS : va_S (AA s.heap.size) s.heap H locs) (hc : cells ≤ 600000) (hs : slots ≤ 7302249) (nxt : NX p l e s m b below meth c Q cells slots ls D dA) : WW p l e s m b below meth c Q cells slots ls H locs 187 [] := by
  obtain ⟨hx, hb, hr, hml, hown, hts, hX, hbl, hlocks, hgv⟩ := id C0
  have push1 : ∀ (H : Heap) (locs : List Loc), va_S (AA s.heap.size) s.heap H locs → WW p l e s m b below meth c Q cells slots ls H locs 193 (((([.int (xs (x3 + 1).toNatClampNeg)] : List Value)).map (cv s.heap.size)).reverse ++ [.ref (s.heap.size + 0)]) → WW p l e s m b below meth c Q cells slots ls H locs 187 [] := fun H locs hS kk => by
    refine lv_aload_n hx hb dL_law_187 rfl (lv_at hl 2 rfl) ?_
    refine push_arg C0 hl hS dL_law_188 dL_law_189 dL_law_190 dL_law_191 dL_law_192 (v := 1) (by decide) hin.1 ?_
    exact kk
  have push2 : ∀ (H : Heap) (locs : List Loc) (v : Value), va_S (AA s.heap.size) s.heap H locs → WW p l e s m b below meth c Q cells slots ls H locs 202 (((([.int (xs (x3 + 1).toNatClampNeg)] : List Value)).map (cv s.heap.size)).reverse ++ [.ref (s.heap.size + 58), v]) → WW p l e s m b below meth c Q cells slots ls H locs (193 + 3) [v] := fun H locs v hS kk => by
    refine lv_aload_n hx hb dL_law_196 rfl (lv_at hl 1 rfl) ?_
    refine push_arg C0 hl hS dL_law_197 dL_law_198 dL_law_199 dL_law_200 dL_law_201 (v := 1) (by decide) hin.1 ?_
    exact kk
  exact both C0 hK (kx := 60) (km := 109) (as := [.int (xs (x3 + 1).toNatClampNeg)]) (same_field (xs (x3 + 1).toNatClampNeg)) (by decide +kernel) (by decide +kernel) ⟨⟨by decide +kernel, by decide +kernel, by decide +kernel, rfl, rfl, Nat.le_of_ble_eq_true rfl⟩, by decide +kernel⟩ ⟨⟨by decide +kernel, by decide +kernel, by decide +kernel, rfl, Nat.le_of_ble_eq_true rfl⟩, by decide +kernel⟩ push1 push2 dL_law_193 dL_law_202 dL_law_205 (by decide) hl.1 hq hR hP hS hc hs nxt
theorem law_c2 (C0 : lw_At p s m meth c b L xs) (hK : va_K D vwCl (tyL dA) s) (hl : lv_has ls 4 (LVW s b x3)) (hin : HI x3 L) (hq : KF[q]? = some (.inr 3)) (hR : RELx G) (hP : Rp D dA s.heap.size KF G J (RQ q) H) (hS : va_S (AA s.heap.size) s.heap H locs) (hc : cells ≤ 600000) (hs : slots ≤ 7302249) (nxt : NX p l e s m b below meth c Q cells slots ls D dA) : WW p l e s m b below meth c Q cells slots ls H locs 210 [] := by
  obtain ⟨hx, hb, hr, hml, hown, hts, hX, hbl, hlocks, hgv⟩ := id C0
  have push1 : ∀ (H : Heap) (locs : List Loc), va_S (AA s.heap.size) s.heap H locs → WW p l e s m b below meth c Q cells slots ls H locs 236 (((([.int (xs (x3 + 1).toNatClampNeg), .int (xs (x3 + 2).toNatClampNeg), .int (xs (x3 + 3).toNatClampNeg), .int (xs (x3 + 4).toNatClampNeg), .int (xs (x3 + 5).toNatClampNeg)] : List Value)).map (cv s.heap.size)).reverse ++ [.ref (s.heap.size + 0)]) → WW p l e s m b below meth c Q cells slots ls H locs 210 [] := fun H locs hS kk => by
    refine lv_aload_n hx hb dL_law_210 rfl (lv_at hl 2 rfl) ?_
    refine push_arg C0 hl hS dL_law_211 dL_law_212 dL_law_213 dL_law_214 dL_law_215 (v := 1) (by decide) hin.1 ?_
    refine push_arg C0 hl hS dL_law_216 dL_law_217 dL_law_218 dL_law_219 dL_law_220 (v := 2) (by decide) hin.2.1 ?_
    refine push_arg C0 hl hS dL_law_221 dL_law_222 dL_law_223 dL_law_224 dL_law_225 (v := 3) (by decide) hin.2.2.1 ?_
    refine push_arg C0 hl hS dL_law_226 dL_law_227 dL_law_228 dL_law_229 dL_law_230 (v := 4) (by decide) hin.2.2.2.1 ?_
    refine push_arg C0 hl hS dL_law_231 dL_law_232 dL_law_233 dL_law_234 dL_law_235 (v := 5) (by decide) hin.2.2.2.2 ?_
    exact kk
  have push2 : ∀ (H : Heap) (locs : List Loc) (v : Value), va_S (AA s.heap.size) s.heap H locs → WW p l e s m b below meth c Q cells slots ls H locs 265 (((([.int (xs (x3 + 1).toNatClampNeg), .int (xs (x3 + 2).toNatClampNeg), .int (xs (x3 + 3).toNatClampNeg), .int (xs (x3 + 4).toNatClampNeg), .int (xs (x3 + 5).toNatClampNeg)] : List Value)).map (cv s.heap.size)).reverse ++ [.ref (s.heap.size + 58), v]) → WW p l e s m b below meth c Q cells slots ls H locs (236 + 3) [v] := fun H locs v hS kk => by
    refine lv_aload_n hx hb dL_law_239 rfl (lv_at hl 1 rfl) ?_
    refine push_arg C0 hl hS dL_law_240 dL_law_241 dL_law_242 dL_law_243 dL_law_244 (v := 1) (by decide) hin.1 ?_
    refine push_arg C0 hl hS dL_law_245 dL_law_246 dL_law_247 dL_law_248 dL_law_249 (v := 2) (by decide) hin.2.1 ?_
    refine push_arg C0 hl hS dL_law_250 dL_law_251 dL_law_252 dL_law_253 dL_law_254 (v := 3) (by decide) hin.2.2.1 ?_
    refine push_arg C0 hl hS dL_law_255 dL_law_256 dL_law_257 dL_law_258 dL_law_259 (v := 4) (by decide) hin.2.2.2.1 ?_
    refine push_arg C0 hl hS dL_law_260 dL_law_261 dL_law_262 dL_law_263 dL_law_264 (v := 5) (by decide) hin.2.2.2.2 ?_
    exact kk
  exact both C0 hK (kx := 61) (km := 114) (as := [.int (xs (x3 + 1).toNatClampNeg), .int (xs (x3 + 2).toNatClampNeg), .int (xs (x3 + 3).toNatClampNeg), .int (xs (x3 + 4).toNatClampNeg), .int (xs (x3 + 5).toNatClampNeg)]) (same_deed (xs (x3 + 1).toNatClampNeg) (xs (x3 + 2).toNatClampNeg) (xs (x3 + 3).toNatClampNeg) (xs (x3 + 4).toNatClampNeg) (xs (x3 + 5).toNatClampNeg)) (by decide +kernel) (by decide +kernel) ⟨⟨by decide +kernel, by decide +kernel, by decide +kernel, rfl, rfl, Nat.le_of_ble_eq_true rfl⟩, by decide +kernel⟩ ⟨⟨by decide +kernel, by decide +kernel, by decide +kernel, rfl, Nat.le_of_ble_eq_true rfl⟩, by decide +kernel⟩ push1 push2 dL_law_236 dL_law_265 dL_law_268 (by decide) hl.1 hq hR hP hS hc hs nxt
end LAWK0
