/-! the law, case by case -/
section LAWK3
variable {p : Program} {l : Launch} {e : Env} {s : State} {m : MethodId} {below : List Frame} {meth : Method} {c : Code} {b L : Nat} {xs : Nat → Int32} {Q : State → Prop} {D : va_G} {dA : Nat → ClassId} {cells slots : Nat} {H : Heap} {locs : List Loc} {ls : Array Slot} {x3 : Int32} {q : Nat} {G : SG} {J : SJ}
theorem law_c14 (C0 : lw_At p s m meth c b L xs) (hK : va_K D vwCl (tyL dA) s) (hl : lv_has ls 4 (LVW s b x3)) (hin : HI x3 L) (hq : KF[q]? = some (.inr 3)) (hR : RELx G) (hP : Rp D dA s.heap.size KF G J (RQ q) H) (hS : va_S (AA s.heap.size) s.heap H locs) (hc : cells ≤ 600000) (hs : slots ≤ 7302249) (nxt : NX p l e s m b below meth c Q cells slots ls D dA) : WW p l e s m b below meth c Q cells slots ls H locs 662 [] := by
  obtain ⟨hx, hb, hr, hml, hown, hts, hX, hbl, hlocks, hgv⟩ := id C0
  have push1 : ∀ (H : Heap) (locs : List Loc), va_S (AA s.heap.size) s.heap H locs → WW p l e s m b below meth c Q cells slots ls H locs 673 (((([.int (xs (x3 + 1).toNatClampNeg), .int (xs (x3 + 2).toNatClampNeg)] : List Value)).map (cv s.heap.size)).reverse ++ [.ref (s.heap.size + 0)]) → WW p l e s m b below meth c Q cells slots ls H locs 662 [] := fun H locs hS kk => by
    refine lv_aload_n hx hb dL_law_662 rfl (lv_at hl 2 rfl) ?_
    refine push_arg C0 hl hS dL_law_663 dL_law_664 dL_law_665 dL_law_666 dL_law_667 (v := 1) (by decide) hin.1 ?_
    refine push_arg C0 hl hS dL_law_668 dL_law_669 dL_law_670 dL_law_671 dL_law_672 (v := 2) (by decide) hin.2.1 ?_
    exact kk
  have push2 : ∀ (H : Heap) (locs : List Loc) (v : Value), va_S (AA s.heap.size) s.heap H locs → WW p l e s m b below meth c Q cells slots ls H locs 687 (((([.int (xs (x3 + 1).toNatClampNeg), .int (xs (x3 + 2).toNatClampNeg)] : List Value)).map (cv s.heap.size)).reverse ++ [.ref (s.heap.size + 58), v]) → WW p l e s m b below meth c Q cells slots ls H locs (673 + 3) [v] := fun H locs v hS kk => by
    refine lv_aload_n hx hb dL_law_676 rfl (lv_at hl 1 rfl) ?_
    refine push_arg C0 hl hS dL_law_677 dL_law_678 dL_law_679 dL_law_680 dL_law_681 (v := 1) (by decide) hin.1 ?_
    refine push_arg C0 hl hS dL_law_682 dL_law_683 dL_law_684 dL_law_685 dL_law_686 (v := 2) (by decide) hin.2.1 ?_
    exact kk
  exact both C0 hK (kx := 73) (km := 138) (as := [.int (xs (x3 + 1).toNatClampNeg), .int (xs (x3 + 2).toNatClampNeg)]) (same_held (xs (x3 + 1).toNatClampNeg) (xs (x3 + 2).toNatClampNeg)) (by decide +kernel) (by decide +kernel) ⟨⟨by decide +kernel, by decide +kernel, by decide +kernel, rfl, rfl, Nat.le_of_ble_eq_true rfl⟩, by decide +kernel⟩ ⟨⟨by decide +kernel, by decide +kernel, by decide +kernel, rfl, Nat.le_of_ble_eq_true rfl⟩, by decide +kernel⟩ push1 push2 dL_law_673 dL_law_687 dL_law_690 (by decide) hl.1 hq hR hP hS hc hs nxt
theorem law_c15 (C0 : lw_At p s m meth c b L xs) (hK : va_K D vwCl (tyL dA) s) (hl : lv_has ls 4 (LVW s b x3)) (hin : HI x3 L) (hq : KF[q]? = some (.inr 3)) (hR : RELx G) (hP : Rp D dA s.heap.size KF G J (RQ q) H) (hS : va_S (AA s.heap.size) s.heap H locs) (hc : cells ≤ 600000) (hs : slots ≤ 7302249) (nxt : NX p l e s m b below meth c Q cells slots ls D dA) : WW p l e s m b below meth c Q cells slots ls H locs 695 [] := by
  obtain ⟨hx, hb, hr, hml, hown, hts, hX, hbl, hlocks, hgv⟩ := id C0
  have push1 : ∀ (H : Heap) (locs : List Loc), va_S (AA s.heap.size) s.heap H locs → WW p l e s m b below meth c Q cells slots ls H locs 711 (((([.int (xs (x3 + 1).toNatClampNeg), .int (xs (x3 + 2).toNatClampNeg), .int (xs (x3 + 3).toNatClampNeg)] : List Value)).map (cv s.heap.size)).reverse ++ [.ref (s.heap.size + 0)]) → WW p l e s m b below meth c Q cells slots ls H locs 695 [] := fun H locs hS kk => by
    refine lv_aload_n hx hb dL_law_695 rfl (lv_at hl 2 rfl) ?_
    refine push_arg C0 hl hS dL_law_696 dL_law_697 dL_law_698 dL_law_699 dL_law_700 (v := 1) (by decide) hin.1 ?_
    refine push_arg C0 hl hS dL_law_701 dL_law_702 dL_law_703 dL_law_704 dL_law_705 (v := 2) (by decide) hin.2.1 ?_
    refine push_arg C0 hl hS dL_law_706 dL_law_707 dL_law_708 dL_law_709 dL_law_710 (v := 3) (by decide) hin.2.2.1 ?_
    exact kk
  have push2 : ∀ (H : Heap) (locs : List Loc) (v : Value), va_S (AA s.heap.size) s.heap H locs → WW p l e s m b below meth c Q cells slots ls H locs 730 (((([.int (xs (x3 + 1).toNatClampNeg), .int (xs (x3 + 2).toNatClampNeg), .int (xs (x3 + 3).toNatClampNeg)] : List Value)).map (cv s.heap.size)).reverse ++ [.ref (s.heap.size + 58), v]) → WW p l e s m b below meth c Q cells slots ls H locs (711 + 3) [v] := fun H locs v hS kk => by
    refine lv_aload_n hx hb dL_law_714 rfl (lv_at hl 1 rfl) ?_
    refine push_arg C0 hl hS dL_law_715 dL_law_716 dL_law_717 dL_law_718 dL_law_719 (v := 1) (by decide) hin.1 ?_
    refine push_arg C0 hl hS dL_law_720 dL_law_721 dL_law_722 dL_law_723 dL_law_724 (v := 2) (by decide) hin.2.1 ?_
    refine push_arg C0 hl hS dL_law_725 dL_law_726 dL_law_727 dL_law_728 dL_law_729 (v := 3) (by decide) hin.2.2.1 ?_
    exact kk
  exact both C0 hK (kx := 74) (km := 143) (as := [.int (xs (x3 + 1).toNatClampNeg), .int (xs (x3 + 2).toNatClampNeg), .int (xs (x3 + 3).toNatClampNeg)]) (same_prevails (xs (x3 + 1).toNatClampNeg) (xs (x3 + 2).toNatClampNeg) (xs (x3 + 3).toNatClampNeg)) (by decide +kernel) (by decide +kernel) ⟨⟨by decide +kernel, by decide +kernel, by decide +kernel, rfl, rfl, Nat.le_of_ble_eq_true rfl⟩, by decide +kernel⟩ ⟨⟨by decide +kernel, by decide +kernel, by decide +kernel, rfl, Nat.le_of_ble_eq_true rfl⟩, by decide +kernel⟩ push1 push2 dL_law_711 dL_law_730 dL_law_733 (by decide) hl.1 hq hR hP hS hc hs nxt
theorem law_c16 (C0 : lw_At p s m meth c b L xs) (hK : va_K D vwCl (tyL dA) s) (hl : lv_has ls 4 (LVW s b x3)) (hin : HI x3 L) (hq : KF[q]? = some (.inr 3)) (hR : RELx G) (hP : Rp D dA s.heap.size KF G J (RQ q) H) (hS : va_S (AA s.heap.size) s.heap H locs) (hc : cells ≤ 600000) (hs : slots ≤ 7302249) (nxt : NX p l e s m b below meth c Q cells slots ls D dA) : WW p l e s m b below meth c Q cells slots ls H locs 738 [] := by
  obtain ⟨hx, hb, hr, hml, hown, hts, hX, hbl, hlocks, hgv⟩ := id C0
  have push1 : ∀ (H : Heap) (locs : List Loc), va_S (AA s.heap.size) s.heap H locs → WW p l e s m b below meth c Q cells slots ls H locs 749 (((([.int (xs (x3 + 1).toNatClampNeg), .int (xs (x3 + 2).toNatClampNeg)] : List Value)).map (cv s.heap.size)).reverse ++ [.ref (s.heap.size + 0)]) → WW p l e s m b below meth c Q cells slots ls H locs 738 [] := fun H locs hS kk => by
    refine lv_aload_n hx hb dL_law_738 rfl (lv_at hl 2 rfl) ?_
    refine push_arg C0 hl hS dL_law_739 dL_law_740 dL_law_741 dL_law_742 dL_law_743 (v := 1) (by decide) hin.1 ?_
    refine push_arg C0 hl hS dL_law_744 dL_law_745 dL_law_746 dL_law_747 dL_law_748 (v := 2) (by decide) hin.2.1 ?_
    exact kk
  have push2 : ∀ (H : Heap) (locs : List Loc) (v : Value), va_S (AA s.heap.size) s.heap H locs → WW p l e s m b below meth c Q cells slots ls H locs 763 (((([.int (xs (x3 + 1).toNatClampNeg), .int (xs (x3 + 2).toNatClampNeg)] : List Value)).map (cv s.heap.size)).reverse ++ [.ref (s.heap.size + 58), v]) → WW p l e s m b below meth c Q cells slots ls H locs (749 + 3) [v] := fun H locs v hS kk => by
    refine lv_aload_n hx hb dL_law_752 rfl (lv_at hl 1 rfl) ?_
    refine push_arg C0 hl hS dL_law_753 dL_law_754 dL_law_755 dL_law_756 dL_law_757 (v := 1) (by decide) hin.1 ?_
    refine push_arg C0 hl hS dL_law_758 dL_law_759 dL_law_760 dL_law_761 dL_law_762 (v := 2) (by decide) hin.2.1 ?_
    exact kk
  exact both C0 hK (kx := 75) (km := 145) (as := [.int (xs (x3 + 1).toNatClampNeg), .int (xs (x3 + 2).toNatClampNeg)]) (same_first (xs (x3 + 1).toNatClampNeg) (xs (x3 + 2).toNatClampNeg)) (by decide +kernel) (by decide +kernel) ⟨⟨by decide +kernel, by decide +kernel, by decide +kernel, rfl, rfl, Nat.le_of_ble_eq_true rfl⟩, by decide +kernel⟩ ⟨⟨by decide +kernel, by decide +kernel, by decide +kernel, rfl, Nat.le_of_ble_eq_true rfl⟩, by decide +kernel⟩ push1 push2 dL_law_749 dL_law_763 dL_law_766 (by decide) hl.1 hq hR hP hS hc hs nxt
theorem law_c17 (C0 : lw_At p s m meth c b L xs) (hK : va_K D vwCl (tyL dA) s) (hl : lv_has ls 4 (LVW s b x3)) (hin : HI x3 L) (hq : KF[q]? = some (.inr 3)) (hR : RELx G) (hP : Rp D dA s.heap.size KF G J (RQ q) H) (hS : va_S (AA s.heap.size) s.heap H locs) (hc : cells ≤ 600000) (hs : slots ≤ 7302249) (nxt : NX p l e s m b below meth c Q cells slots ls D dA) : WW p l e s m b below meth c Q cells slots ls H locs 771 [] := by
  obtain ⟨hx, hb, hr, hml, hown, hts, hX, hbl, hlocks, hgv⟩ := id C0
  have push1 : ∀ (H : Heap) (locs : List Loc), va_S (AA s.heap.size) s.heap H locs → WW p l e s m b below meth c Q cells slots ls H locs 787 (((([.int (xs (x3 + 1).toNatClampNeg), .int (xs (x3 + 2).toNatClampNeg), .int (xs (x3 + 3).toNatClampNeg)] : List Value)).map (cv s.heap.size)).reverse ++ [.ref (s.heap.size + 0)]) → WW p l e s m b below meth c Q cells slots ls H locs 771 [] := fun H locs hS kk => by
    refine lv_aload_n hx hb dL_law_771 rfl (lv_at hl 2 rfl) ?_
    refine push_arg C0 hl hS dL_law_772 dL_law_773 dL_law_774 dL_law_775 dL_law_776 (v := 1) (by decide) hin.1 ?_
    refine push_arg C0 hl hS dL_law_777 dL_law_778 dL_law_779 dL_law_780 dL_law_781 (v := 2) (by decide) hin.2.1 ?_
    refine push_arg C0 hl hS dL_law_782 dL_law_783 dL_law_784 dL_law_785 dL_law_786 (v := 3) (by decide) hin.2.2.1 ?_
    exact kk
  have push2 : ∀ (H : Heap) (locs : List Loc) (v : Value), va_S (AA s.heap.size) s.heap H locs → WW p l e s m b below meth c Q cells slots ls H locs 806 (((([.int (xs (x3 + 1).toNatClampNeg), .int (xs (x3 + 2).toNatClampNeg), .int (xs (x3 + 3).toNatClampNeg)] : List Value)).map (cv s.heap.size)).reverse ++ [.ref (s.heap.size + 58), v]) → WW p l e s m b below meth c Q cells slots ls H locs (787 + 3) [v] := fun H locs v hS kk => by
    refine lv_aload_n hx hb dL_law_790 rfl (lv_at hl 1 rfl) ?_
    refine push_arg C0 hl hS dL_law_791 dL_law_792 dL_law_793 dL_law_794 dL_law_795 (v := 1) (by decide) hin.1 ?_
    refine push_arg C0 hl hS dL_law_796 dL_law_797 dL_law_798 dL_law_799 dL_law_800 (v := 2) (by decide) hin.2.1 ?_
    refine push_arg C0 hl hS dL_law_801 dL_law_802 dL_law_803 dL_law_804 dL_law_805 (v := 3) (by decide) hin.2.2.1 ?_
    exact kk
  exact both C0 hK (kx := 76) (km := 148) (as := [.int (xs (x3 + 1).toNatClampNeg), .int (xs (x3 + 2).toNatClampNeg), .int (xs (x3 + 3).toNatClampNeg)]) (same_whose (xs (x3 + 1).toNatClampNeg) (xs (x3 + 2).toNatClampNeg) (xs (x3 + 3).toNatClampNeg)) (by decide +kernel) (by decide +kernel) ⟨⟨by decide +kernel, by decide +kernel, by decide +kernel, rfl, rfl, Nat.le_of_ble_eq_true rfl⟩, by decide +kernel⟩ ⟨⟨by decide +kernel, by decide +kernel, by decide +kernel, rfl, Nat.le_of_ble_eq_true rfl⟩, by decide +kernel⟩ push1 push2 dL_law_787 dL_law_806 dL_law_809 (by decide) hl.1 hq hR hP hS hc hs nxt
theorem law_c18 (C0 : lw_At p s m meth c b L xs) (hK : va_K D vwCl (tyL dA) s) (hl : lv_has ls 4 (LVW s b x3)) (hin : HI x3 L) (hq : KF[q]? = some (.inr 3)) (hR : RELx G) (hP : Rp D dA s.heap.size KF G J (RQ q) H) (hS : va_S (AA s.heap.size) s.heap H locs) (hc : cells ≤ 600000) (hs : slots ≤ 7302249) (nxt : NX p l e s m b below meth c Q cells slots ls D dA) : WW p l e s m b below meth c Q cells slots ls H locs 814 [] := by
  obtain ⟨hx, hb, hr, hml, hown, hts, hX, hbl, hlocks, hgv⟩ := id C0
  have push1 : ∀ (H : Heap) (locs : List Loc), va_S (AA s.heap.size) s.heap H locs → WW p l e s m b below meth c Q cells slots ls H locs 830 (((([.int (xs (x3 + 1).toNatClampNeg), .int (xs (x3 + 2).toNatClampNeg), .int (xs (x3 + 3).toNatClampNeg)] : List Value)).map (cv s.heap.size)).reverse ++ [.ref (s.heap.size + 0)]) → WW p l e s m b below meth c Q cells slots ls H locs 814 [] := fun H locs hS kk => by
    refine lv_aload_n hx hb dL_law_814 rfl (lv_at hl 2 rfl) ?_
    refine push_arg C0 hl hS dL_law_815 dL_law_816 dL_law_817 dL_law_818 dL_law_819 (v := 1) (by decide) hin.1 ?_
    refine push_arg C0 hl hS dL_law_820 dL_law_821 dL_law_822 dL_law_823 dL_law_824 (v := 2) (by decide) hin.2.1 ?_
    refine push_arg C0 hl hS dL_law_825 dL_law_826 dL_law_827 dL_law_828 dL_law_829 (v := 3) (by decide) hin.2.2.1 ?_
    exact kk
  have push2 : ∀ (H : Heap) (locs : List Loc) (v : Value), va_S (AA s.heap.size) s.heap H locs → WW p l e s m b below meth c Q cells slots ls H locs 849 (((([.int (xs (x3 + 1).toNatClampNeg), .int (xs (x3 + 2).toNatClampNeg), .int (xs (x3 + 3).toNatClampNeg)] : List Value)).map (cv s.heap.size)).reverse ++ [.ref (s.heap.size + 58), v]) → WW p l e s m b below meth c Q cells slots ls H locs (830 + 3) [v] := fun H locs v hS kk => by
    refine lv_aload_n hx hb dL_law_833 rfl (lv_at hl 1 rfl) ?_
    refine push_arg C0 hl hS dL_law_834 dL_law_835 dL_law_836 dL_law_837 dL_law_838 (v := 1) (by decide) hin.1 ?_
    refine push_arg C0 hl hS dL_law_839 dL_law_840 dL_law_841 dL_law_842 dL_law_843 (v := 2) (by decide) hin.2.1 ?_
    refine push_arg C0 hl hS dL_law_844 dL_law_845 dL_law_846 dL_law_847 dL_law_848 (v := 3) (by decide) hin.2.2.1 ?_
    exact kk
  exact both C0 hK (kx := 77) (km := 150) (as := [.int (xs (x3 + 1).toNatClampNeg), .int (xs (x3 + 2).toNatClampNeg), .int (xs (x3 + 3).toNatClampNeg)]) (same_debts (xs (x3 + 1).toNatClampNeg) (xs (x3 + 2).toNatClampNeg) (xs (x3 + 3).toNatClampNeg)) (by decide +kernel) (by decide +kernel) ⟨⟨by decide +kernel, by decide +kernel, by decide +kernel, rfl, rfl, Nat.le_of_ble_eq_true rfl⟩, by decide +kernel⟩ ⟨⟨by decide +kernel, by decide +kernel, by decide +kernel, rfl, Nat.le_of_ble_eq_true rfl⟩, by decide +kernel⟩ push1 push2 dL_law_830 dL_law_849 dL_law_852 (by decide) hl.1 hq hR hP hS hc hs nxt
theorem law_c19 (C0 : lw_At p s m meth c b L xs) (hK : va_K D vwCl (tyL dA) s) (hl : lv_has ls 4 (LVW s b x3)) (hin : HI x3 L) (hq : KF[q]? = some (.inr 3)) (hR : RELx G) (hP : Rp D dA s.heap.size KF G J (RQ q) H) (hS : va_S (AA s.heap.size) s.heap H locs) (hc : cells ≤ 600000) (hs : slots ≤ 7302249) (nxt : NX p l e s m b below meth c Q cells slots ls D dA) : WW p l e s m b below meth c Q cells slots ls H locs 857 [] := by
  obtain ⟨hx, hb, hr, hml, hown, hts, hX, hbl, hlocks, hgv⟩ := id C0
  have push1 : ∀ (H : Heap) (locs : List Loc), va_S (AA s.heap.size) s.heap H locs → WW p l e s m b below meth c Q cells slots ls H locs 868 (((([.int (xs (x3 + 1).toNatClampNeg), .int (xs (x3 + 2).toNatClampNeg)] : List Value)).map (cv s.heap.size)).reverse ++ [.ref (s.heap.size + 0)]) → WW p l e s m b below meth c Q cells slots ls H locs 857 [] := fun H locs hS kk => by
    refine lv_aload_n hx hb dL_law_857 rfl (lv_at hl 2 rfl) ?_
    refine push_arg C0 hl hS dL_law_858 dL_law_859 dL_law_860 dL_law_861 dL_law_862 (v := 1) (by decide) hin.1 ?_
    refine push_arg C0 hl hS dL_law_863 dL_law_864 dL_law_865 dL_law_866 dL_law_867 (v := 2) (by decide) hin.2.1 ?_
    exact kk
  have push2 : ∀ (H : Heap) (locs : List Loc) (v : Value), va_S (AA s.heap.size) s.heap H locs → WW p l e s m b below meth c Q cells slots ls H locs 882 (((([.int (xs (x3 + 1).toNatClampNeg), .int (xs (x3 + 2).toNatClampNeg)] : List Value)).map (cv s.heap.size)).reverse ++ [.ref (s.heap.size + 58), v]) → WW p l e s m b below meth c Q cells slots ls H locs (868 + 3) [v] := fun H locs v hS kk => by
    refine lv_aload_n hx hb dL_law_871 rfl (lv_at hl 1 rfl) ?_
    refine push_arg C0 hl hS dL_law_872 dL_law_873 dL_law_874 dL_law_875 dL_law_876 (v := 1) (by decide) hin.1 ?_
    refine push_arg C0 hl hS dL_law_877 dL_law_878 dL_law_879 dL_law_880 dL_law_881 (v := 2) (by decide) hin.2.1 ?_
    exact kk
  exact both C0 hK (kx := 78) (km := 152) (as := [.int (xs (x3 + 1).toNatClampNeg), .int (xs (x3 + 2).toNatClampNeg)]) (same_rings (xs (x3 + 1).toNatClampNeg) (xs (x3 + 2).toNatClampNeg)) (by decide +kernel) (by decide +kernel) ⟨⟨by decide +kernel, by decide +kernel, by decide +kernel, rfl, rfl, Nat.le_of_ble_eq_true rfl⟩, by decide +kernel⟩ ⟨⟨by decide +kernel, by decide +kernel, by decide +kernel, rfl, Nat.le_of_ble_eq_true rfl⟩, by decide +kernel⟩ push1 push2 dL_law_868 dL_law_882 dL_law_885 (by decide) hl.1 hq hR hP hS hc hs nxt
end LAWK3
