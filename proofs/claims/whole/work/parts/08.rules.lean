/-! each instruction, over the abstract cells -/
def RM (k mc ms : Nat) : Room := { frames := mdp k, cells := mc, slots := ms, locals := 39 * mdp k }
def CX (k : Nat) (p : Program) (s : State) (m : MethodId) (meth : Method) (c : Code) : Prop :=
  p.tables.exec = Jvm.exec ∧ c.code = mb k ∧ meth.sig.returnType = mret k ∧ c.maxLocals = mL k ∧ s.vm.findClass (cnm (mo k)) = some m.cls ∧ meth.locks = false ∧ (mkd k = 2 → meth.name = "<init>")
section RULES
variable {p : Program} {l : Launch} {e : Env} {s : State} {m : MethodId} {args : Array Value} {below : List Frame} {meth : Method} {c : Code} {Q : State → Prop} {D : va_G} {dA : Nat → ClassId} {sz k mc ms cells slots pc : Nat} {L : LV} {st r : List Value} {K : List KD} {G : SG} {J : SJ} {R : SR}
def WK (p : Program) (l : Launch) (e : Env) (s : State) (m : MethodId) (args : Array Value) (below : List Frame) (meth : Method) (c : Code) (Q : State → Prop) (D : va_G) (dA : Nat → ClassId) (sz k mc ms cells slots pc : Nat) (L : LV) (st : List Value) (K : List KD) (G : SG) (J : SJ) (R : SR) : Prop :=
  ∀ (ls : Array Slot) (H : Heap) (locs : List Loc), LH sz ls (mL k) L → Rp D dA sz K G J R H → va_S (AA sz) s.heap H locs → W p l e (RM k mc ms) s m args below meth c H locs cells slots Q (F0 m pc ls (st.map (cv sz)))
theorem k_iconst (hC : CX k p s m meth c) {n : Int} (hd : decode (mb k) pc = .ok (.iconst n, 1)) (h : WK p l e s m args below meth c Q D dA sz k mc ms cells slots (pc + 1) L (.int (Int32.ofInt n) :: st) K G J R) : WK p l e s m args below meth c Q D dA sz k mc ms cells slots pc L st K G J R :=
  fun ls H locs hl hP hS => lv_iconst hC.1 hC.2.1 hd rfl (h ls H locs hl hP hS)
theorem k_bipush (hC : CX k p s m meth c) {n : Int} (hd : decode (mb k) pc = .ok (.bipush n, 2)) (h : WK p l e s m args below meth c Q D dA sz k mc ms cells slots (pc + 2) L (.int (Int8.ofInt n).toInt32 :: st) K G J R) : WK p l e s m args below meth c Q D dA sz k mc ms cells slots pc L st K G J R :=
  fun ls H locs hl hP hS => lv_bipush hC.1 hC.2.1 hd rfl (h ls H locs hl hP hS)
theorem k_sipush (hC : CX k p s m meth c) {n : Int} (hd : decode (mb k) pc = .ok (.sipush n, 3)) (h : WK p l e s m args below meth c Q D dA sz k mc ms cells slots (pc + 3) L (.int (Int16.ofInt n).toInt32 :: st) K G J R) : WK p l e s m args below meth c Q D dA sz k mc ms cells slots pc L st K G J R :=
  fun ls H locs hl hP hS => lv_sipush hC.1 hC.2.1 hd rfl (h ls H locs hl hP hS)
theorem k_lconst (hC : CX k p s m meth c) {n : Fin 2} (hd : decode (mb k) pc = .ok (.lconst n, 1)) (h : WK p l e s m args below meth c Q D dA sz k mc ms cells slots (pc + 1) L (.long (Int64.ofNat (n : Nat)) :: st) K G J R) : WK p l e s m args below meth c Q D dA sz k mc ms cells slots pc L st K G J R :=
  fun ls H locs hl hP hS => lv_lconst hC.1 hC.2.1 hd rfl (h ls H locs hl hP hS)
theorem k_ldc (hC : CX k p s m meth c) (hT : Tb s) {i : Nat} {v : Int32} (hv : kc (mo k) i = some v) (hd : decode (mb k) pc = .ok (.ldc i, 2)) (h : WK p l e s m args below meth c Q D dA sz k mc ms cells slots (pc + 2) L (.int v :: st) K G J R) : WK p l e s m args below meth c Q D dA sz k mc ms cells slots pc L st K G J R :=
  fun ls H locs hl hP hS => lv_ldc hC.1 hC.2.1 hC.2.2.2.2.1 (hT.at _ (tw_in (kc_spec hv) rfl)) hd (h ls H locs hl hP hS)
theorem k_ldcw (hC : CX k p s m meth c) (hT : Tb s) {i : Nat} {v : Int32} (hv : kc (mo k) i = some v) (hd : decode (mb k) pc = .ok (.ldc_w i, 3)) (h : WK p l e s m args below meth c Q D dA sz k mc ms cells slots (pc + 3) L (.int v :: st) K G J R) : WK p l e s m args below meth c Q D dA sz k mc ms cells slots pc L st K G J R :=
  fun ls H locs hl hP hS => lv_ldcw hC.1 hC.2.1 hC.2.2.2.2.1 (hT.at _ (tw_in (kc_spec hv) rfl)) hd (h ls H locs hl hP hS)
theorem k_ldc2 (hC : CX k p s m meth c) (hT : Tb s) {i : Nat} {v : Int64} (hv : kl (mo k) i = some v) (hd : decode (mb k) pc = .ok (.ldc2_w i, 3)) (h : WK p l e s m args below meth c Q D dA sz k mc ms cells slots (pc + 3) L (.long v :: st) K G J R) : WK p l e s m args below meth c Q D dA sz k mc ms cells slots pc L st K G J R :=
  fun ls H locs hl hP hS => lv_ldc2 hC.1 hC.2.1 hC.2.2.2.2.1 (hT.at _ (tw_in (kl_spec hv) rfl)) hd (h ls H locs hl hP hS)
theorem k_iload_n (hC : CX k p s m meth c) {i : Fin 4} {x : Int32} (hi : L[(i : Nat)]? = some (some (.int x))) (hd : decode (mb k) pc = .ok (.iload_n i, 1)) (h : WK p l e s m args below meth c Q D dA sz k mc ms cells slots (pc + 1) L (.int x :: st) K G J R) : WK p l e s m args below meth c Q D dA sz k mc ms cells slots pc L st K G J R :=
  fun ls H locs hl hP hS => lv_iload_n hC.1 hC.2.1 hd rfl (hl.2.2.2 _ _ hi) (h ls H locs hl hP hS)
theorem k_iload (hC : CX k p s m meth c) {i : Nat} {x : Int32} (hi : L[i]? = some (some (.int x))) (hd : decode (mb k) pc = .ok (.iload i, 2)) (h : WK p l e s m args below meth c Q D dA sz k mc ms cells slots (pc + 2) L (.int x :: st) K G J R) : WK p l e s m args below meth c Q D dA sz k mc ms cells slots pc L st K G J R :=
  fun ls H locs hl hP hS => lv_iload hC.1 hC.2.1 hd (hl.2.2.2 _ _ hi) (h ls H locs hl hP hS)
theorem k_lload_n (hC : CX k p s m meth c) {i : Fin 4} {x : Int64} (hi : L[(i : Nat)]? = some (some (.long x))) (hd : decode (mb k) pc = .ok (.lload_n i, 1)) (h : WK p l e s m args below meth c Q D dA sz k mc ms cells slots (pc + 1) L (.long x :: st) K G J R) : WK p l e s m args below meth c Q D dA sz k mc ms cells slots pc L st K G J R :=
  fun ls H locs hl hP hS => lv_lload_n hC.1 hC.2.1 hd rfl (hl.2.2.2 _ _ hi) (h ls H locs hl hP hS)
theorem k_lload (hC : CX k p s m meth c) {i : Nat} {x : Int64} (hi : L[i]? = some (some (.long x))) (hd : decode (mb k) pc = .ok (.lload i, 2)) (h : WK p l e s m args below meth c Q D dA sz k mc ms cells slots (pc + 2) L (.long x :: st) K G J R) : WK p l e s m args below meth c Q D dA sz k mc ms cells slots pc L st K G J R :=
  fun ls H locs hl hP hS => lv_lload hC.1 hC.2.1 hd (hl.2.2.2 _ _ hi) (h ls H locs hl hP hS)
theorem k_aload_n (hC : CX k p s m meth c) {i : Fin 4} {x : Nat} (hi : L[(i : Nat)]? = some (some (.ref x))) (hd : decode (mb k) pc = .ok (.aload_n i, 1)) (h : WK p l e s m args below meth c Q D dA sz k mc ms cells slots (pc + 1) L (.ref x :: st) K G J R) : WK p l e s m args below meth c Q D dA sz k mc ms cells slots pc L st K G J R :=
  fun ls H locs hl hP hS => lv_aload_n hC.1 hC.2.1 hd rfl (hl.2.2.2 _ _ hi) (h ls H locs hl hP hS)
theorem k_aload (hC : CX k p s m meth c) {i : Nat} {x : Nat} (hi : L[i]? = some (some (.ref x))) (hd : decode (mb k) pc = .ok (.aload i, 2)) (h : WK p l e s m args below meth c Q D dA sz k mc ms cells slots (pc + 2) L (.ref x :: st) K G J R) : WK p l e s m args below meth c Q D dA sz k mc ms cells slots pc L st K G J R :=
  fun ls H locs hl hP hS => lv_aload hC.1 hC.2.1 hd (hl.2.2.2 _ _ hi) (h ls H locs hl hP hS)
theorem k_istore_n (hC : CX k p s m meth c) {i : Fin 4} {x : Int32} (hi : (i : Nat) < L.length) (hd : decode (mb k) pc = .ok (.istore_n i, 1)) (h : WK p l e s m args below meth c Q D dA sz k mc ms cells slots (pc + 1) ((clr L i).set i (some (.int x))) r K G J R) : WK p l e s m args below meth c Q D dA sz k mc ms cells slots pc L (.int x :: r) K G J R :=
  fun ls H locs hl hP hS => lv_istore_n hC.1 hC.2.1 hd rfl hl.has (hl.1 ▸ hi) rfl (fun ls' h' => h ls' H locs (hl.set1 hi h') hP hS)
theorem k_istore (hC : CX k p s m meth c) {i : Nat} {x : Int32} (hi : (i : Nat) < L.length) (hd : decode (mb k) pc = .ok (.istore i, 2)) (h : WK p l e s m args below meth c Q D dA sz k mc ms cells slots (pc + 2) ((clr L i).set i (some (.int x))) r K G J R) : WK p l e s m args below meth c Q D dA sz k mc ms cells slots pc L (.int x :: r) K G J R :=
  fun ls H locs hl hP hS => lv_istore hC.1 hC.2.1 hd hl.has (hl.1 ▸ hi) rfl (fun ls' h' => h ls' H locs (hl.set1 hi h') hP hS)
theorem k_astore_n (hC : CX k p s m meth c) {i : Fin 4} {x : Nat} (hi : (i : Nat) < L.length) (hd : decode (mb k) pc = .ok (.astore_n i, 1)) (h : WK p l e s m args below meth c Q D dA sz k mc ms cells slots (pc + 1) ((clr L i).set i (some (.ref x))) r K G J R) : WK p l e s m args below meth c Q D dA sz k mc ms cells slots pc L (.ref x :: r) K G J R :=
  fun ls H locs hl hP hS => lv_astore_n hC.1 hC.2.1 hd rfl hl.has (hl.1 ▸ hi) rfl (fun ls' h' => h ls' H locs (hl.set1 (v := .ref x) hi h') hP hS)
theorem k_astore (hC : CX k p s m meth c) {i : Nat} {x : Nat} (hi : (i : Nat) < L.length) (hd : decode (mb k) pc = .ok (.astore i, 2)) (h : WK p l e s m args below meth c Q D dA sz k mc ms cells slots (pc + 2) ((clr L i).set i (some (.ref x))) r K G J R) : WK p l e s m args below meth c Q D dA sz k mc ms cells slots pc L (.ref x :: r) K G J R :=
  fun ls H locs hl hP hS => lv_astore hC.1 hC.2.1 hd hl.has (hl.1 ▸ hi) rfl (fun ls' h' => h ls' H locs (hl.set1 (v := .ref x) hi h') hP hS)
theorem k_lstore_n (hC : CX k p s m meth c) {i : Fin 4} {x : Int64} (hi : (i : Nat) + 1 < L.length) (hd : decode (mb k) pc = .ok (.lstore_n i, 1)) (h : WK p l e s m args below meth c Q D dA sz k mc ms cells slots (pc + 1) (((clr L i).set i (some (.long x))).set (i + 1) none) r K G J R) : WK p l e s m args below meth c Q D dA sz k mc ms cells slots pc L (.long x :: r) K G J R :=
  fun ls H locs hl hP hS => lv_lstore_n hC.1 hC.2.1 hd rfl hl.has (hl.1 ▸ hi) rfl (fun ls' h' => h ls' H locs (hl.set2 hi h') hP hS)
theorem k_lstore (hC : CX k p s m meth c) {i : Nat} {x : Int64} (hi : (i : Nat) + 1 < L.length) (hd : decode (mb k) pc = .ok (.lstore i, 2)) (h : WK p l e s m args below meth c Q D dA sz k mc ms cells slots (pc + 2) (((clr L i).set i (some (.long x))).set (i + 1) none) r K G J R) : WK p l e s m args below meth c Q D dA sz k mc ms cells slots pc L (.long x :: r) K G J R :=
  fun ls H locs hl hP hS => lv_lstore hC.1 hC.2.1 hd hl.has (hl.1 ▸ hi) rfl (fun ls' h' => h ls' H locs (hl.set2 hi h') hP hS)
theorem k_iinc (hC : CX k p s m meth c) {i : Nat} {n : Int} {x : Int32} (hx : L[i]? = some (some (.int x))) (hi : i < L.length) (hd : decode (mb k) pc = .ok (.iinc i n, 3)) (h : WK p l e s m args below meth c Q D dA sz k mc ms cells slots (pc + 3) ((clr L i).set i (some (.int (x + Int32.ofInt n)))) st K G J R) : WK p l e s m args below meth c Q D dA sz k mc ms cells slots pc L st K G J R := by
  intro ls H locs hl hP hS
  obtain ⟨j, hj⟩ := List.getElem?_of_mem (mem_lst (sz := sz).mpr ⟨i, _, hx, rfl⟩)
  exact lv_iinc hC.1 hC.2.1 hd hl.has hj rfl (hl.1 ▸ hi) rfl (fun ls' h' => h ls' H locs (hl.set1 hi h') hP hS)
theorem k_dup (hC : CX k p s m meth c) {v : Value} (hv : v.category = 1) (hd : decode (mb k) pc = .ok (.dup, 1)) (h : WK p l e s m args below meth c Q D dA sz k mc ms cells slots (pc + 1) L (v :: v :: r) K G J R) : WK p l e s m args below meth c Q D dA sz k mc ms cells slots pc L (v :: r) K G J R :=
  fun ls H locs hl hP hS => lv_dup hC.1 hC.2.1 hd ((cv_cat sz v).trans hv) (h ls H locs hl hP hS)
theorem k_pop (hC : CX k p s m meth c) {v : Value} (hv : v.category = 1) (hd : decode (mb k) pc = .ok (.pop, 1)) (h : WK p l e s m args below meth c Q D dA sz k mc ms cells slots (pc + 1) L r K G J R) : WK p l e s m args below meth c Q D dA sz k mc ms cells slots pc L (v :: r) K G J R :=
  fun ls H locs hl hP hS => lv_pop hC.1 hC.2.1 hd ((cv_cat sz v).trans hv) (h ls H locs hl hP hS)
theorem k_dup2 (hC : CX k p s m meth c) {v w : Value} (hv : v.category = 1) (hw : w.category = 1) (hd : decode (mb k) pc = .ok (.dup2, 1)) (h : WK p l e s m args below meth c Q D dA sz k mc ms cells slots (pc + 1) L (v :: w :: v :: w :: r) K G J R) : WK p l e s m args below meth c Q D dA sz k mc ms cells slots pc L (v :: w :: r) K G J R :=
  fun ls H locs hl hP hS => lv_dup2_11 hC.1 hC.2.1 hd ((cv_cat sz v).trans hv) ((cv_cat sz w).trans hw) (h ls H locs hl hP hS)
theorem k_iadd (hC : CX k p s m meth c) {x y : Int32} (hd : decode (mb k) pc = .ok (.iadd, 1)) (h : WK p l e s m args below meth c Q D dA sz k mc ms cells slots (pc + 1) L (.int (x + y) :: r) K G J R) : WK p l e s m args below meth c Q D dA sz k mc ms cells slots pc L (.int y :: .int x :: r) K G J R :=
  fun ls H locs hl hP hS => lv_iadd hC.1 hC.2.1 hd (h ls H locs hl hP hS)
theorem k_isub (hC : CX k p s m meth c) {x y : Int32} (hd : decode (mb k) pc = .ok (.isub, 1)) (h : WK p l e s m args below meth c Q D dA sz k mc ms cells slots (pc + 1) L (.int (x - y) :: r) K G J R) : WK p l e s m args below meth c Q D dA sz k mc ms cells slots pc L (.int y :: .int x :: r) K G J R :=
  fun ls H locs hl hP hS => lv_isub hC.1 hC.2.1 hd (h ls H locs hl hP hS)
theorem k_imul (hC : CX k p s m meth c) {x y : Int32} (hd : decode (mb k) pc = .ok (.imul, 1)) (h : WK p l e s m args below meth c Q D dA sz k mc ms cells slots (pc + 1) L (.int (x * y) :: r) K G J R) : WK p l e s m args below meth c Q D dA sz k mc ms cells slots pc L (.int y :: .int x :: r) K G J R :=
  fun ls H locs hl hP hS => lv_imul hC.1 hC.2.1 hd (h ls H locs hl hP hS)
theorem k_iand (hC : CX k p s m meth c) {x y : Int32} (hd : decode (mb k) pc = .ok (.iand, 1)) (h : WK p l e s m args below meth c Q D dA sz k mc ms cells slots (pc + 1) L (.int (x &&& y) :: r) K G J R) : WK p l e s m args below meth c Q D dA sz k mc ms cells slots pc L (.int y :: .int x :: r) K G J R :=
  fun ls H locs hl hP hS => lv_iand hC.1 hC.2.1 hd (h ls H locs hl hP hS)
theorem k_ior (hC : CX k p s m meth c) {x y : Int32} (hd : decode (mb k) pc = .ok (.ior, 1)) (h : WK p l e s m args below meth c Q D dA sz k mc ms cells slots (pc + 1) L (.int (x ||| y) :: r) K G J R) : WK p l e s m args below meth c Q D dA sz k mc ms cells slots pc L (.int y :: .int x :: r) K G J R :=
  fun ls H locs hl hP hS => lv_ior hC.1 hC.2.1 hd (h ls H locs hl hP hS)
theorem k_ixor (hC : CX k p s m meth c) {x y : Int32} (hd : decode (mb k) pc = .ok (.ixor, 1)) (h : WK p l e s m args below meth c Q D dA sz k mc ms cells slots (pc + 1) L (.int (x ^^^ y) :: r) K G J R) : WK p l e s m args below meth c Q D dA sz k mc ms cells slots pc L (.int y :: .int x :: r) K G J R :=
  fun ls H locs hl hP hS => lv_ixor hC.1 hC.2.1 hd (h ls H locs hl hP hS)
theorem k_ishl (hC : CX k p s m meth c) {x y : Int32} (hd : decode (mb k) pc = .ok (.ishl, 1)) (h : WK p l e s m args below meth c Q D dA sz k mc ms cells slots (pc + 1) L (.int (x <<< (y &&& 31)) :: r) K G J R) : WK p l e s m args below meth c Q D dA sz k mc ms cells slots pc L (.int y :: .int x :: r) K G J R :=
  fun ls H locs hl hP hS => lv_ishl hC.1 hC.2.1 hd (h ls H locs hl hP hS)
theorem k_ishr (hC : CX k p s m meth c) {x y : Int32} (hd : decode (mb k) pc = .ok (.ishr, 1)) (h : WK p l e s m args below meth c Q D dA sz k mc ms cells slots (pc + 1) L (.int (x >>> (y &&& 31)) :: r) K G J R) : WK p l e s m args below meth c Q D dA sz k mc ms cells slots pc L (.int y :: .int x :: r) K G J R :=
  fun ls H locs hl hP hS => lv_ishr hC.1 hC.2.1 hd (h ls H locs hl hP hS)
theorem k_iushr (hC : CX k p s m meth c) {x y : Int32} (hd : decode (mb k) pc = .ok (.iushr, 1)) (h : WK p l e s m args below meth c Q D dA sz k mc ms cells slots (pc + 1) L (.int ((x.toUInt32 >>> (y.toUInt32 &&& Int32.toUInt32 31)).toInt32) :: r) K G J R) : WK p l e s m args below meth c Q D dA sz k mc ms cells slots pc L (.int y :: .int x :: r) K G J R :=
  fun ls H locs hl hP hS => lv_iushr hC.1 hC.2.1 hd rfl (h ls H locs hl hP hS)
theorem k_ladd (hC : CX k p s m meth c) {x y : Int64} (hd : decode (mb k) pc = .ok (.ladd, 1)) (h : WK p l e s m args below meth c Q D dA sz k mc ms cells slots (pc + 1) L (.long (x + y) :: r) K G J R) : WK p l e s m args below meth c Q D dA sz k mc ms cells slots pc L (.long y :: .long x :: r) K G J R :=
  fun ls H locs hl hP hS => lv_ladd hC.1 hC.2.1 hd (h ls H locs hl hP hS)
theorem k_lmul (hC : CX k p s m meth c) {x y : Int64} (hd : decode (mb k) pc = .ok (.lmul, 1)) (h : WK p l e s m args below meth c Q D dA sz k mc ms cells slots (pc + 1) L (.long (x * y) :: r) K G J R) : WK p l e s m args below meth c Q D dA sz k mc ms cells slots pc L (.long y :: .long x :: r) K G J R :=
  fun ls H locs hl hP hS => lv_lmul hC.1 hC.2.1 hd (h ls H locs hl hP hS)
theorem k_land (hC : CX k p s m meth c) {x y : Int64} (hd : decode (mb k) pc = .ok (.land, 1)) (h : WK p l e s m args below meth c Q D dA sz k mc ms cells slots (pc + 1) L (.long (x &&& y) :: r) K G J R) : WK p l e s m args below meth c Q D dA sz k mc ms cells slots pc L (.long y :: .long x :: r) K G J R :=
  fun ls H locs hl hP hS => lv_land hC.1 hC.2.1 hd (h ls H locs hl hP hS)
theorem k_lor (hC : CX k p s m meth c) {x y : Int64} (hd : decode (mb k) pc = .ok (.lor, 1)) (h : WK p l e s m args below meth c Q D dA sz k mc ms cells slots (pc + 1) L (.long (x ||| y) :: r) K G J R) : WK p l e s m args below meth c Q D dA sz k mc ms cells slots pc L (.long y :: .long x :: r) K G J R :=
  fun ls H locs hl hP hS => lv_lor hC.1 hC.2.1 hd (h ls H locs hl hP hS)
theorem k_idiv (hC : CX k p s m meth c) {x y : Int32} (hy : ¬ y = 0) (hd : decode (mb k) pc = .ok (.idiv, 1)) (h : WK p l e s m args below meth c Q D dA sz k mc ms cells slots (pc + 1) L (.int (x / y) :: r) K G J R) : WK p l e s m args below meth c Q D dA sz k mc ms cells slots pc L (.int y :: .int x :: r) K G J R :=
  fun ls H locs hl hP hS => lv_idiv hC.1 hC.2.1 hd hy (h ls H locs hl hP hS)
theorem k_irem (hC : CX k p s m meth c) {x y : Int32} (hy : ¬ y = 0) (hd : decode (mb k) pc = .ok (.irem, 1)) (h : WK p l e s m args below meth c Q D dA sz k mc ms cells slots (pc + 1) L (.int (x - x / y * y) :: r) K G J R) : WK p l e s m args below meth c Q D dA sz k mc ms cells slots pc L (.int y :: .int x :: r) K G J R :=
  fun ls H locs hl hP hS => lv_irem hC.1 hC.2.1 hd hy (h ls H locs hl hP hS)
theorem k_ineg (hC : CX k p s m meth c) {x : Int32} (hd : decode (mb k) pc = .ok (.ineg, 1)) (h : WK p l e s m args below meth c Q D dA sz k mc ms cells slots (pc + 1) L (.int (-x) :: r) K G J R) : WK p l e s m args below meth c Q D dA sz k mc ms cells slots pc L (.int x :: r) K G J R :=
  fun ls H locs hl hP hS => lv_ineg hC.1 hC.2.1 hd (h ls H locs hl hP hS)
theorem k_i2l (hC : CX k p s m meth c) {x : Int32} (hd : decode (mb k) pc = .ok (.i2l, 1)) (h : WK p l e s m args below meth c Q D dA sz k mc ms cells slots (pc + 1) L (.long x.toInt64 :: r) K G J R) : WK p l e s m args below meth c Q D dA sz k mc ms cells slots pc L (.int x :: r) K G J R :=
  fun ls H locs hl hP hS => lv_i2l hC.1 hC.2.1 hd rfl (h ls H locs hl hP hS)
theorem k_l2i (hC : CX k p s m meth c) {x : Int64} (hd : decode (mb k) pc = .ok (.l2i, 1)) (h : WK p l e s m args below meth c Q D dA sz k mc ms cells slots (pc + 1) L (.int x.toInt32 :: r) K G J R) : WK p l e s m args below meth c Q D dA sz k mc ms cells slots pc L (.long x :: r) K G J R :=
  fun ls H locs hl hP hS => lv_l2i hC.1 hC.2.1 hd rfl (h ls H locs hl hP hS)
theorem k_lushr (hC : CX k p s m meth c) {x : Int64} {y : Int32} (hd : decode (mb k) pc = .ok (.lushr, 1)) (h : WK p l e s m args below meth c Q D dA sz k mc ms cells slots (pc + 1) L (.long (x.toUInt64 >>> (y.toInt64.toUInt64 &&& Int64.toUInt64 63)).toInt64 :: r) K G J R) : WK p l e s m args below meth c Q D dA sz k mc ms cells slots pc L (.int y :: .long x :: r) K G J R :=
  fun ls H locs hl hP hS => lv_lushr hC.1 hC.2.1 hd rfl (h ls H locs hl hP hS)
theorem k_lshl (hC : CX k p s m meth c) {x : Int64} {y : Int32} (hd : decode (mb k) pc = .ok (.lshl, 1)) (h : WK p l e s m args below meth c Q D dA sz k mc ms cells slots (pc + 1) L (.long (x <<< (y.toInt64 &&& 63)) :: r) K G J R) : WK p l e s m args below meth c Q D dA sz k mc ms cells slots pc L (.int y :: .long x :: r) K G J R :=
  fun ls H locs hl hP hS => lv_lshl hC.1 hC.2.1 hd rfl (h ls H locs hl hP hS)
theorem k_lcmp (hC : CX k p s m meth c) {x y : Int64} (hd : decode (mb k) pc = .ok (.lcmp, 1)) (h : WK p l e s m args below meth c Q D dA sz k mc ms cells slots (pc + 1) L (.int (lg_cmp x y) :: r) K G J R) : WK p l e s m args below meth c Q D dA sz k mc ms cells slots pc L (.long y :: .long x :: r) K G J R :=
  fun ls H locs hl hP hS => W.lcmp hC.1 hC.2.1 hd (h ls H locs hl hP hS)
theorem k_goto (hC : CX k p s m meth c) {off : Int} {t : Nat} (ht : (pc : Int) + off = (t : Int)) (hd : decode (mb k) pc = .ok (.goto off, 3)) (h : WK p l e s m args below meth c Q D dA sz k mc ms cells slots t L st K G J R) : WK p l e s m args below meth c Q D dA sz k mc ms cells slots pc L st K G J R :=
  fun ls H locs hl hP hS => lv_goto hC.1 hC.2.1 hd ht (h ls H locs hl hP hS)
theorem k_if (hC : CX k p s m meth c) {op : Jvm.ClassFile.Cond} {off : Int} {t : Nat} {x : Int32} (ht : (pc : Int) + off = (t : Int)) (hd : decode (mb k) pc = .ok (.ifCond op off, 3)) (h : WK p l e s m args below meth c Q D dA sz k mc ms cells slots (if cmpB op x 0 = true then t else pc + 3) L r K G J R) : WK p l e s m args below meth c Q D dA sz k mc ms cells slots pc L (.int x :: r) K G J R := by
  intro ls H locs hl hP hS
  have h := h ls H locs hl hP hS
  cases op with
  | eq => exact lv_if_eq hC.1 hC.2.1 hd ht (fun z => by rw [if_pos (by simpa [cmpB] using z)] at h; exact h) (fun z => by rw [if_neg (by simpa [cmpB] using z)] at h; exact h)
  | ne => exact lv_if_ne hC.1 hC.2.1 hd ht (fun z => by rw [if_pos (by simpa [cmpB] using z)] at h; exact h) (fun z => by rw [if_neg (by simpa [cmpB] using z)] at h; exact h)
  | lt => exact lv_if_lt hC.1 hC.2.1 hd ht (fun z => by rw [if_pos (by simpa [cmpB] using z)] at h; exact h) (fun z => by rw [if_neg (by simpa [cmpB] using z)] at h; exact h)
  | ge => exact lv_if_ge hC.1 hC.2.1 hd ht (fun z => by rw [if_pos (by simpa [cmpB] using z)] at h; exact h) (fun z => by rw [if_neg (by simpa [cmpB] using z)] at h; exact h)
  | gt => exact lv_if_gt hC.1 hC.2.1 hd ht (fun z => by rw [if_pos (by simpa [cmpB] using z)] at h; exact h) (fun z => by rw [if_neg (by simpa [cmpB] using z)] at h; exact h)
  | le => exact lv_if_le hC.1 hC.2.1 hd ht (fun z => by rw [if_pos (by simpa [cmpB] using z)] at h; exact h) (fun z => by rw [if_neg (by simpa [cmpB] using z)] at h; exact h)
theorem k_icmp (hC : CX k p s m meth c) {op : Jvm.ClassFile.Cond} {off : Int} {t : Nat} {x y : Int32} (ht : (pc : Int) + off = (t : Int)) (hd : decode (mb k) pc = .ok (.if_icmp op off, 3)) (h : WK p l e s m args below meth c Q D dA sz k mc ms cells slots (if cmpB op x y = true then t else pc + 3) L r K G J R) : WK p l e s m args below meth c Q D dA sz k mc ms cells slots pc L (.int y :: .int x :: r) K G J R := by
  intro ls H locs hl hP hS
  have h := h ls H locs hl hP hS
  cases op with
  | eq => exact lv_icmp_eq hC.1 hC.2.1 hd ht (fun z => by rw [if_pos (by simpa [cmpB] using z)] at h; exact h) (fun z => by rw [if_neg (by simpa [cmpB] using z)] at h; exact h)
  | ne => exact lv_icmp_ne hC.1 hC.2.1 hd ht (fun z => by rw [if_pos (by simpa [cmpB] using z)] at h; exact h) (fun z => by rw [if_neg (by simpa [cmpB] using z)] at h; exact h)
  | lt => exact lv_icmp_lt hC.1 hC.2.1 hd ht (fun z => by rw [if_pos (by simpa [cmpB] using z)] at h; exact h) (fun z => by rw [if_neg (by simpa [cmpB] using z)] at h; exact h)
  | ge => exact lv_icmp_ge hC.1 hC.2.1 hd ht (fun z => by rw [if_pos (by simpa [cmpB] using z)] at h; exact h) (fun z => by rw [if_neg (by simpa [cmpB] using z)] at h; exact h)
  | gt => exact lv_icmp_gt hC.1 hC.2.1 hd ht (fun z => by rw [if_pos (by simpa [cmpB] using z)] at h; exact h) (fun z => by rw [if_neg (by simpa [cmpB] using z)] at h; exact h)
  | le => exact lv_icmp_le hC.1 hC.2.1 hd ht (fun z => by rw [if_pos (by simpa [cmpB] using z)] at h; exact h) (fun z => by rw [if_neg (by simpa [cmpB] using z)] at h; exact h)
theorem k_tabO (hC : CX k p s m meth c) {dflt lo hi : Int} {offs : Array Int} {len : Nat} {x : Int32} {t : Nat} (hx : x.toInt < lo ∨ hi < x.toInt) (ht : (pc : Int) + dflt = (t : Int)) (hd : decode (mb k) pc = .ok (.tableswitch dflt lo hi offs, len)) (h : WK p l e s m args below meth c Q D dA sz k mc ms cells slots t L r K G J R) : WK p l e s m args below meth c Q D dA sz k mc ms cells slots pc L (.int x :: r) K G J R :=
  fun ls H locs hl hP hS => lv_tableOut hC.1 hC.2.1 hd hx ht (h ls H locs hl hP hS)
theorem k_tabI (hC : CX k p s m meth c) {dflt lo hi : Int} {offs : Array Int} {len : Nat} {x : Int32} {off : Int} {t : Nat} (hx : ¬ (x.toInt < lo ∨ hi < x.toInt)) (ho : offs[(x.toInt - lo).toNat]? = some off) (ht : (pc : Int) + off = (t : Int)) (hd : decode (mb k) pc = .ok (.tableswitch dflt lo hi offs, len)) (h : WK p l e s m args below meth c Q D dA sz k mc ms cells slots t L r K G J R) : WK p l e s m args below meth c Q D dA sz k mc ms cells slots pc L (.int x :: r) K G J R :=
  fun ls H locs hl hP hS => lv_tableIn hC.1 hC.2.1 hd (fun z => hx (Or.inl z)) (fun z => hx (Or.inr z)) ho ht (h ls H locs hl hP hS)
end RULES
