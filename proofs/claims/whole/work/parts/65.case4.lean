/-! the law, case by case -/
section LAWK4
variable {p : Program} {l : Launch} {e : Env} {s : State} {m : MethodId} {below : List Frame} {meth : Method} {c : Code} {b L : Nat} {xs : Nat → Int32} {Q : State → Prop} {D : va_G} {dA : Nat → ClassId} {cells slots : Nat} {H : Heap} {locs : List Loc} {ls : Array Slot} {x3 : Int32} {q : Nat} {G : SG} {J : SJ}
theorem law_c20 (C0 : lw_At p s m meth c b L xs) (hK : va_K D vwCl (tyL dA) s) (hl : lv_has ls 4 (LVW s b x3)) (hin : HI x3 L) (hq : KF[q]? = some (.inr 3)) (hR : RELx G) (hP : Rp D dA s.heap.size KF G J (RQ q) H) (hS : va_S (AA s.heap.size) s.heap H locs) (hc : cells ≤ 600000) (hs : slots ≤ 7302249) (nxt : NX p l e s m b below meth c Q cells slots ls D dA) : WW p l e s m b below meth c Q cells slots ls H locs 890 [] := by
  obtain ⟨hx, hb, hr, hml, hown, hts, hX, hbl, hlocks, hgv⟩ := id C0
  have push1 : ∀ (H : Heap) (locs : List Loc), va_S (AA s.heap.size) s.heap H locs → WW p l e s m b below meth c Q cells slots ls H locs 901 (((([.int (xs (x3 + 1).toNatClampNeg), .int (xs (x3 + 2).toNatClampNeg)] : List Value)).map (cv s.heap.size)).reverse ++ [.ref (s.heap.size + 0)]) → WW p l e s m b below meth c Q cells slots ls H locs 890 [] := fun H locs hS kk => by
    refine lv_aload_n hx hb dL_law_890 rfl (lv_at hl 2 rfl) ?_
    refine push_arg C0 hl hS dL_law_891 dL_law_892 dL_law_893 dL_law_894 dL_law_895 (v := 1) (by decide) hin.1 ?_
    refine push_arg C0 hl hS dL_law_896 dL_law_897 dL_law_898 dL_law_899 dL_law_900 (v := 2) (by decide) hin.2.1 ?_
    exact kk
  have push2 : ∀ (H : Heap) (locs : List Loc) (v : Value), va_S (AA s.heap.size) s.heap H locs → WW p l e s m b below meth c Q cells slots ls H locs 915 (((([.int (xs (x3 + 1).toNatClampNeg), .int (xs (x3 + 2).toNatClampNeg)] : List Value)).map (cv s.heap.size)).reverse ++ [.ref (s.heap.size + 58), v]) → WW p l e s m b below meth c Q cells slots ls H locs (901 + 3) [v] := fun H locs v hS kk => by
    refine lv_aload_n hx hb dL_law_904 rfl (lv_at hl 1 rfl) ?_
    refine push_arg C0 hl hS dL_law_905 dL_law_906 dL_law_907 dL_law_908 dL_law_909 (v := 1) (by decide) hin.1 ?_
    refine push_arg C0 hl hS dL_law_910 dL_law_911 dL_law_912 dL_law_913 dL_law_914 (v := 2) (by decide) hin.2.1 ?_
    exact kk
  exact both C0 hK (kx := 79) (km := 153) (as := [.int (xs (x3 + 1).toNatClampNeg), .int (xs (x3 + 2).toNatClampNeg)]) (same_moves (xs (x3 + 1).toNatClampNeg) (xs (x3 + 2).toNatClampNeg)) (by decide +kernel) (by decide +kernel) ⟨⟨by decide +kernel, by decide +kernel, by decide +kernel, rfl, rfl, Nat.le_of_ble_eq_true rfl⟩, by decide +kernel⟩ ⟨⟨by decide +kernel, by decide +kernel, by decide +kernel, rfl, Nat.le_of_ble_eq_true rfl⟩, by decide +kernel⟩ push1 push2 dL_law_901 dL_law_915 dL_law_918 (by decide) hl.1 hq hR hP hS hc hs nxt
theorem law_c21 (C0 : lw_At p s m meth c b L xs) (hK : va_K D vwCl (tyL dA) s) (hl : lv_has ls 4 (LVW s b x3)) (hin : HI x3 L) (hq : KF[q]? = some (.inr 3)) (hR : RELx G) (hP : Rp D dA s.heap.size KF G J (RQ q) H) (hS : va_S (AA s.heap.size) s.heap H locs) (hc : cells ≤ 600000) (hs : slots ≤ 7302249) (nxt : NX p l e s m b below meth c Q cells slots ls D dA) : WW p l e s m b below meth c Q cells slots ls H locs 923 [] := by
  obtain ⟨hx, hb, hr, hml, hown, hts, hX, hbl, hlocks, hgv⟩ := id C0
  have push1 : ∀ (H : Heap) (locs : List Loc), va_S (AA s.heap.size) s.heap H locs → WW p l e s m b below meth c Q cells slots ls H locs 939 (((([.int (xs (x3 + 1).toNatClampNeg), .int (xs (x3 + 2).toNatClampNeg), .int (xs (x3 + 3).toNatClampNeg)] : List Value)).map (cv s.heap.size)).reverse ++ [.ref (s.heap.size + 0)]) → WW p l e s m b below meth c Q cells slots ls H locs 923 [] := fun H locs hS kk => by
    refine lv_aload_n hx hb dL_law_923 rfl (lv_at hl 2 rfl) ?_
    refine push_arg C0 hl hS dL_law_924 dL_law_925 dL_law_926 dL_law_927 dL_law_928 (v := 1) (by decide) hin.1 ?_
    refine push_arg C0 hl hS dL_law_929 dL_law_930 dL_law_931 dL_law_932 dL_law_933 (v := 2) (by decide) hin.2.1 ?_
    refine push_arg C0 hl hS dL_law_934 dL_law_935 dL_law_936 dL_law_937 dL_law_938 (v := 3) (by decide) hin.2.2.1 ?_
    exact kk
  have push2 : ∀ (H : Heap) (locs : List Loc) (v : Value), va_S (AA s.heap.size) s.heap H locs → WW p l e s m b below meth c Q cells slots ls H locs 958 (((([.int (xs (x3 + 1).toNatClampNeg), .int (xs (x3 + 2).toNatClampNeg), .int (xs (x3 + 3).toNatClampNeg)] : List Value)).map (cv s.heap.size)).reverse ++ [.ref (s.heap.size + 58), v]) → WW p l e s m b below meth c Q cells slots ls H locs (939 + 3) [v] := fun H locs v hS kk => by
    refine lv_aload_n hx hb dL_law_942 rfl (lv_at hl 1 rfl) ?_
    refine push_arg C0 hl hS dL_law_943 dL_law_944 dL_law_945 dL_law_946 dL_law_947 (v := 1) (by decide) hin.1 ?_
    refine push_arg C0 hl hS dL_law_948 dL_law_949 dL_law_950 dL_law_951 dL_law_952 (v := 2) (by decide) hin.2.1 ?_
    refine push_arg C0 hl hS dL_law_953 dL_law_954 dL_law_955 dL_law_956 dL_law_957 (v := 3) (by decide) hin.2.2.1 ?_
    exact kk
  exact both C0 hK (kx := 80) (km := 156) (as := [.int (xs (x3 + 1).toNatClampNeg), .int (xs (x3 + 2).toNatClampNeg), .int (xs (x3 + 3).toNatClampNeg)]) (same_hangs (xs (x3 + 1).toNatClampNeg) (xs (x3 + 2).toNatClampNeg) (xs (x3 + 3).toNatClampNeg)) (by decide +kernel) (by decide +kernel) ⟨⟨by decide +kernel, by decide +kernel, by decide +kernel, rfl, rfl, Nat.le_of_ble_eq_true rfl⟩, by decide +kernel⟩ ⟨⟨by decide +kernel, by decide +kernel, by decide +kernel, rfl, Nat.le_of_ble_eq_true rfl⟩, by decide +kernel⟩ push1 push2 dL_law_939 dL_law_958 dL_law_961 (by decide) hl.1 hq hR hP hS hc hs nxt
theorem law_c22 (C0 : lw_At p s m meth c b L xs) (hK : va_K D vwCl (tyL dA) s) (hl : lv_has ls 4 (LVW s b x3)) (hin : HI x3 L) (hq : KF[q]? = some (.inr 3)) (hR : RELx G) (hP : Rp D dA s.heap.size KF G J (RQ q) H) (hS : va_S (AA s.heap.size) s.heap H locs) (hc : cells ≤ 600000) (hs : slots ≤ 7302249) (nxt : NX p l e s m b below meth c Q cells slots ls D dA) : WW p l e s m b below meth c Q cells slots ls H locs 966 [] := by
  obtain ⟨hx, hb, hr, hml, hown, hts, hX, hbl, hlocks, hgv⟩ := id C0
  have push1 : ∀ (H : Heap) (locs : List Loc), va_S (AA s.heap.size) s.heap H locs → WW p l e s m b below meth c Q cells slots ls H locs 972 (((([.int (xs (x3 + 1).toNatClampNeg)] : List Value)).map (cv s.heap.size)).reverse ++ [.ref (s.heap.size + 0)]) → WW p l e s m b below meth c Q cells slots ls H locs 966 [] := fun H locs hS kk => by
    refine lv_aload_n hx hb dL_law_966 rfl (lv_at hl 2 rfl) ?_
    refine push_arg C0 hl hS dL_law_967 dL_law_968 dL_law_969 dL_law_970 dL_law_971 (v := 1) (by decide) hin.1 ?_
    exact kk
  have push2 : ∀ (H : Heap) (locs : List Loc) (v : Value), va_S (AA s.heap.size) s.heap H locs → WW p l e s m b below meth c Q cells slots ls H locs 981 (((([.int (xs (x3 + 1).toNatClampNeg)] : List Value)).map (cv s.heap.size)).reverse ++ [.ref (s.heap.size + 58), v]) → WW p l e s m b below meth c Q cells slots ls H locs (972 + 3) [v] := fun H locs v hS kk => by
    refine lv_aload_n hx hb dL_law_975 rfl (lv_at hl 1 rfl) ?_
    refine push_arg C0 hl hS dL_law_976 dL_law_977 dL_law_978 dL_law_979 dL_law_980 (v := 1) (by decide) hin.1 ?_
    exact kk
  exact both C0 hK (kx := 81) (km := 157) (as := [.int (xs (x3 + 1).toNatClampNeg)]) (same_wild (xs (x3 + 1).toNatClampNeg)) (by decide +kernel) (by decide +kernel) ⟨⟨by decide +kernel, by decide +kernel, by decide +kernel, rfl, rfl, Nat.le_of_ble_eq_true rfl⟩, by decide +kernel⟩ ⟨⟨by decide +kernel, by decide +kernel, by decide +kernel, rfl, Nat.le_of_ble_eq_true rfl⟩, by decide +kernel⟩ push1 push2 dL_law_972 dL_law_981 dL_law_984 (by decide) hl.1 hq hR hP hS hc hs nxt
theorem law_c23 (C0 : lw_At p s m meth c b L xs) (hK : va_K D vwCl (tyL dA) s) (hl : lv_has ls 4 (LVW s b x3)) (hin : HI x3 L) (hq : KF[q]? = some (.inr 3)) (hR : RELx G) (hP : Rp D dA s.heap.size KF G J (RQ q) H) (hS : va_S (AA s.heap.size) s.heap H locs) (hc : cells ≤ 600000) (hs : slots ≤ 7302249) (nxt : NX p l e s m b below meth c Q cells slots ls D dA) : WW p l e s m b below meth c Q cells slots ls H locs 989 [] := by
  obtain ⟨hx, hb, hr, hml, hown, hts, hX, hbl, hlocks, hgv⟩ := id C0
  have push1 : ∀ (H : Heap) (locs : List Loc), va_S (AA s.heap.size) s.heap H locs → WW p l e s m b below meth c Q cells slots ls H locs 1000 (((([.int (xs (x3 + 1).toNatClampNeg), .int (xs (x3 + 2).toNatClampNeg)] : List Value)).map (cv s.heap.size)).reverse ++ [.ref (s.heap.size + 0)]) → WW p l e s m b below meth c Q cells slots ls H locs 989 [] := fun H locs hS kk => by
    refine lv_aload_n hx hb dL_law_989 rfl (lv_at hl 2 rfl) ?_
    refine push_arg C0 hl hS dL_law_990 dL_law_991 dL_law_992 dL_law_993 dL_law_994 (v := 1) (by decide) hin.1 ?_
    refine push_arg C0 hl hS dL_law_995 dL_law_996 dL_law_997 dL_law_998 dL_law_999 (v := 2) (by decide) hin.2.1 ?_
    exact kk
  have push2 : ∀ (H : Heap) (locs : List Loc) (v : Value), va_S (AA s.heap.size) s.heap H locs → WW p l e s m b below meth c Q cells slots ls H locs 1014 (((([.int (xs (x3 + 1).toNatClampNeg), .int (xs (x3 + 2).toNatClampNeg)] : List Value)).map (cv s.heap.size)).reverse ++ [.ref (s.heap.size + 58), v]) → WW p l e s m b below meth c Q cells slots ls H locs (1000 + 3) [v] := fun H locs v hS kk => by
    refine lv_aload_n hx hb dL_law_1003 rfl (lv_at hl 1 rfl) ?_
    refine push_arg C0 hl hS dL_law_1004 dL_law_1005 dL_law_1006 dL_law_1007 dL_law_1008 (v := 1) (by decide) hin.1 ?_
    refine push_arg C0 hl hS dL_law_1009 dL_law_1010 dL_law_1011 dL_law_1012 dL_law_1013 (v := 2) (by decide) hin.2.1 ?_
    exact kk
  exact both C0 hK (kx := 82) (km := 158) (as := [.int (xs (x3 + 1).toNatClampNeg), .int (xs (x3 + 2).toNatClampNeg)]) (same_lost (xs (x3 + 1).toNatClampNeg) (xs (x3 + 2).toNatClampNeg)) (by decide +kernel) (by decide +kernel) ⟨⟨by decide +kernel, by decide +kernel, by decide +kernel, rfl, rfl, Nat.le_of_ble_eq_true rfl⟩, by decide +kernel⟩ ⟨⟨by decide +kernel, by decide +kernel, by decide +kernel, rfl, Nat.le_of_ble_eq_true rfl⟩, by decide +kernel⟩ push1 push2 dL_law_1000 dL_law_1014 dL_law_1017 (by decide) hl.1 hq hR hP hS hc hs nxt
theorem law_c24 (C0 : lw_At p s m meth c b L xs) (hK : va_K D vwCl (tyL dA) s) (hl : lv_has ls 4 (LVW s b x3)) (hin : HI x3 L) (hq : KF[q]? = some (.inr 3)) (hR : RELx G) (hP : Rp D dA s.heap.size KF G J (RQ q) H) (hS : va_S (AA s.heap.size) s.heap H locs) (hc : cells ≤ 600000) (hs : slots ≤ 7302249) (nxt : NX p l e s m b below meth c Q cells slots ls D dA) : WW p l e s m b below meth c Q cells slots ls H locs 1022 [] := by
  obtain ⟨hx, hb, hr, hml, hown, hts, hX, hbl, hlocks, hgv⟩ := id C0
  have push1 : ∀ (H : Heap) (locs : List Loc), va_S (AA s.heap.size) s.heap H locs → WW p l e s m b below meth c Q cells slots ls H locs 1028 (((([.int (xs (x3 + 1).toNatClampNeg)] : List Value)).map (cv s.heap.size)).reverse ++ [.ref (s.heap.size + 0)]) → WW p l e s m b below meth c Q cells slots ls H locs 1022 [] := fun H locs hS kk => by
    refine lv_aload_n hx hb dL_law_1022 rfl (lv_at hl 2 rfl) ?_
    refine push_arg C0 hl hS dL_law_1023 dL_law_1024 dL_law_1025 dL_law_1026 dL_law_1027 (v := 1) (by decide) hin.1 ?_
    exact kk
  have push2 : ∀ (H : Heap) (locs : List Loc) (v : Value), va_S (AA s.heap.size) s.heap H locs → WW p l e s m b below meth c Q cells slots ls H locs 1037 (((([.int (xs (x3 + 1).toNatClampNeg)] : List Value)).map (cv s.heap.size)).reverse ++ [.ref (s.heap.size + 58), v]) → WW p l e s m b below meth c Q cells slots ls H locs (1028 + 3) [v] := fun H locs v hS kk => by
    refine lv_aload_n hx hb dL_law_1031 rfl (lv_at hl 1 rfl) ?_
    refine push_arg C0 hl hS dL_law_1032 dL_law_1033 dL_law_1034 dL_law_1035 dL_law_1036 (v := 1) (by decide) hin.1 ?_
    exact kk
  exact both C0 hK (kx := 83) (km := 159) (as := [.int (xs (x3 + 1).toNatClampNeg)]) (same_safe (xs (x3 + 1).toNatClampNeg)) (by decide +kernel) (by decide +kernel) ⟨⟨by decide +kernel, by decide +kernel, by decide +kernel, rfl, rfl, Nat.le_of_ble_eq_true rfl⟩, by decide +kernel⟩ ⟨⟨by decide +kernel, by decide +kernel, by decide +kernel, rfl, Nat.le_of_ble_eq_true rfl⟩, by decide +kernel⟩ push1 push2 dL_law_1028 dL_law_1037 dL_law_1040 (by decide) hl.1 hq hR hP hS hc hs nxt
theorem law_c25 (C0 : lw_At p s m meth c b L xs) (hK : va_K D vwCl (tyL dA) s) (hl : lv_has ls 4 (LVW s b x3)) (hin : HI x3 L) (hq : KF[q]? = some (.inr 3)) (hR : RELx G) (hP : Rp D dA s.heap.size KF G J (RQ q) H) (hS : va_S (AA s.heap.size) s.heap H locs) (hc : cells ≤ 600000) (hs : slots ≤ 7302249) (nxt : NX p l e s m b below meth c Q cells slots ls D dA) : WW p l e s m b below meth c Q cells slots ls H locs 1045 [] := by
  obtain ⟨hx, hb, hr, hml, hown, hts, hX, hbl, hlocks, hgv⟩ := id C0
  have push1 : ∀ (H : Heap) (locs : List Loc), va_S (AA s.heap.size) s.heap H locs → WW p l e s m b below meth c Q cells slots ls H locs 1046 (((([] : List Value)).map (cv s.heap.size)).reverse ++ [.ref (s.heap.size + 0)]) → WW p l e s m b below meth c Q cells slots ls H locs 1045 [] := fun H locs hS kk => by
    refine lv_aload_n hx hb dL_law_1045 rfl (lv_at hl 2 rfl) ?_
    exact kk
  have push2 : ∀ (H : Heap) (locs : List Loc) (v : Value), va_S (AA s.heap.size) s.heap H locs → WW p l e s m b below meth c Q cells slots ls H locs 1050 (((([] : List Value)).map (cv s.heap.size)).reverse ++ [.ref (s.heap.size + 58), v]) → WW p l e s m b below meth c Q cells slots ls H locs (1046 + 3) [v] := fun H locs v hS kk => by
    refine lv_aload_n hx hb dL_law_1049 rfl (lv_at hl 1 rfl) ?_
    exact kk
  exact both C0 hK (kx := 84) (km := 160) (as := []) same_image (by decide +kernel) (by decide +kernel) ⟨⟨by decide +kernel, by decide +kernel, by decide +kernel, rfl, rfl, Nat.le_of_ble_eq_true rfl⟩, by decide +kernel⟩ ⟨⟨by decide +kernel, by decide +kernel, by decide +kernel, rfl, Nat.le_of_ble_eq_true rfl⟩, by decide +kernel⟩ push1 push2 dL_law_1046 dL_law_1050 dL_law_1053 (by decide) hl.1 hq hR hP hS hc hs nxt
theorem law_c26 (C0 : lw_At p s m meth c b L xs) (hK : va_K D vwCl (tyL dA) s) (hl : lv_has ls 4 (LVW s b x3)) (hin : HI x3 L) (hq : KF[q]? = some (.inr 3)) (hR : RELx G) (hP : Rp D dA s.heap.size KF G J (RQ q) H) (hS : va_S (AA s.heap.size) s.heap H locs) (hc : cells ≤ 600000) (hs : slots ≤ 7302249) (nxt : NX p l e s m b below meth c Q cells slots ls D dA) : WW p l e s m b below meth c Q cells slots ls H locs 1058 [] := by
  obtain ⟨hx, hb, hr, hml, hown, hts, hX, hbl, hlocks, hgv⟩ := id C0
  have push1 : ∀ (H : Heap) (locs : List Loc), va_S (AA s.heap.size) s.heap H locs → WW p l e s m b below meth c Q cells slots ls H locs 1059 (((([] : List Value)).map (cv s.heap.size)).reverse ++ [.ref (s.heap.size + 0)]) → WW p l e s m b below meth c Q cells slots ls H locs 1058 [] := fun H locs hS kk => by
    refine lv_aload_n hx hb dL_law_1058 rfl (lv_at hl 2 rfl) ?_
    exact kk
  have push2 : ∀ (H : Heap) (locs : List Loc) (v : Value), va_S (AA s.heap.size) s.heap H locs → WW p l e s m b below meth c Q cells slots ls H locs 1063 (((([] : List Value)).map (cv s.heap.size)).reverse ++ [.ref (s.heap.size + 58), v]) → WW p l e s m b below meth c Q cells slots ls H locs (1059 + 3) [v] := fun H locs v hS kk => by
    refine lv_aload_n hx hb dL_law_1062 rfl (lv_at hl 1 rfl) ?_
    exact kk
  exact both C0 hK (kx := 85) (km := 161) (as := []) same_restore (by decide +kernel) (by decide +kernel) ⟨⟨by decide +kernel, by decide +kernel, by decide +kernel, rfl, rfl, Nat.le_of_ble_eq_true rfl⟩, by decide +kernel⟩ ⟨⟨by decide +kernel, by decide +kernel, by decide +kernel, rfl, Nat.le_of_ble_eq_true rfl⟩, by decide +kernel⟩ push1 push2 dL_law_1059 dL_law_1063 dL_law_1066 (by decide) hl.1 hq hR hP hS hc hs nxt
theorem law_c27 (C0 : lw_At p s m meth c b L xs) (hK : va_K D vwCl (tyL dA) s) (hl : lv_has ls 4 (LVW s b x3)) (hin : HI x3 L) (hq : KF[q]? = some (.inr 3)) (hR : RELx G) (hP : Rp D dA s.heap.size KF G J (RQ q) H) (hS : va_S (AA s.heap.size) s.heap H locs) (hc : cells ≤ 600000) (hs : slots ≤ 7302249) (nxt : NX p l e s m b below meth c Q cells slots ls D dA) : WW p l e s m b below meth c Q cells slots ls H locs 1071 [] := by
  obtain ⟨hx, hb, hr, hml, hown, hts, hX, hbl, hlocks, hgv⟩ := id C0
  have push1 : ∀ (H : Heap) (locs : List Loc), va_S (AA s.heap.size) s.heap H locs → WW p l e s m b below meth c Q cells slots ls H locs 1077 (((([.int (xs (x3 + 1).toNatClampNeg)] : List Value)).map (cv s.heap.size)).reverse ++ [.ref (s.heap.size + 0)]) → WW p l e s m b below meth c Q cells slots ls H locs 1071 [] := fun H locs hS kk => by
    refine lv_aload_n hx hb dL_law_1071 rfl (lv_at hl 2 rfl) ?_
    refine push_arg C0 hl hS dL_law_1072 dL_law_1073 dL_law_1074 dL_law_1075 dL_law_1076 (v := 1) (by decide) hin.1 ?_
    exact kk
  have push2 : ∀ (H : Heap) (locs : List Loc) (v : Value), va_S (AA s.heap.size) s.heap H locs → WW p l e s m b below meth c Q cells slots ls H locs 1086 (((([.int (xs (x3 + 1).toNatClampNeg)] : List Value)).map (cv s.heap.size)).reverse ++ [.ref (s.heap.size + 58), v]) → WW p l e s m b below meth c Q cells slots ls H locs (1077 + 3) [v] := fun H locs v hS kk => by
    refine lv_aload_n hx hb dL_law_1080 rfl (lv_at hl 1 rfl) ?_
    refine push_arg C0 hl hS dL_law_1081 dL_law_1082 dL_law_1083 dL_law_1084 dL_law_1085 (v := 1) (by decide) hin.1 ?_
    exact kk
  exact both C0 hK (kx := 86) (km := 163) (as := [.int (xs (x3 + 1).toNatClampNeg)]) (same_count (xs (x3 + 1).toNatClampNeg)) (by decide +kernel) (by decide +kernel) ⟨⟨by decide +kernel, by decide +kernel, by decide +kernel, rfl, rfl, Nat.le_of_ble_eq_true rfl⟩, by decide +kernel⟩ ⟨⟨by decide +kernel, by decide +kernel, by decide +kernel, rfl, Nat.le_of_ble_eq_true rfl⟩, by decide +kernel⟩ push1 push2 dL_law_1077 dL_law_1086 dL_law_1089 (by decide) hl.1 hq hR hP hS hc hs nxt
end LAWK4
