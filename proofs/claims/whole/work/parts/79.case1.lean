/-! THE CALLS OF THE LAW (printed by wip/gen8.py) -/
set_option maxHeartbeats 2000000 in
set_option maxRecDepth 20000 in
theorem law_11 {D : va_G} {cA : Nat → ClassId} {adX adM : Nat → Nat → Nat} {b L : Nat} {xs : Nat → Int32} {p : Program} {l : Launch} {e : Env} {s : State} {m : MethodId} {below : List Frame} {meth : Method} {c : Code} {A : Nat → Prop} {Q : State → Prop} {cs sl : Nat} (C : LwC D cA adX adM b L xs p s m c A) {n i : Nat} {X0 M : St} {H : Heap} {locs : List Loc} {ls : Array Slot} (hR : Rel n X0 M) (hn : n ≤ 600) (hi : i + 7 ≤ L) (hW : LwW D cA adX adM A s X0 M H locs) (hl : lv_has ls 4 [(3, .int (iI (i : Int))), (2, .ref (adM 12 0)), (1, .ref (adX 11 0)), (0, .ref b)]) (hcs : cs ≤ room_1.cells ∧ sl ≤ room_1.slots) (kk : ∀ (X' M' : St) (H' : Heap) (locs' : List Loc), Rel (n + 1) X' M' → LwW D cA adX adM A s X' M' H' locs' → W p l e room_1 s m #[Value.ref b] below meth c H' locs' cs sl Q (F0 m 1771 ls [])) : W p l e room_1 s m #[Value.ref b] below meth c H locs cs sl Q (F0 m 613 ls []) := by
  obtain ⟨X, hX, hbl, hbA, hA, hL, hDX, hDM, hne⟩ := C
  obtain ⟨r, X', M', hf, hg, hR'⟩ := op_set hR (xs (i + 1)) (xs (i + 2))
  refine lv_aload_n X.1 X.2.1 dl_613 rfl (lv_at hl 2 rfl) ?_
  refine lw_arg (k := 1) (lk := 1) X hX hbl hbA hW.2.2 (lv_at hl 3 rfl) (lv_at hl 0 rfl) hL (by omega) dl_614 dl_615 (fun h => lv_iconst (v := iI ((1 : Nat) : Int)) X.1 X.2.1 dl_616 (by decide) h) dl_617 dl_618 ?_
  refine lw_arg (k := 2) (lk := 1) X hX hbl hbA hW.2.2 (lv_at hl 3 rfl) (lv_at hl 0 rfl) hL (by omega) dl_619 dl_620 (fun h => lv_iconst (v := iI ((2 : Nat) : Int)) X.1 X.2.1 dl_621 (by decide) h) dl_622 dl_623 ?_
  refine lw_call (cells := cellsX) (other := cellsM) (kd := 11) (mid := 1427) (nL' := 5) (as := [vI (xs (i + 1)), vI (xs (i + 2))]) (rest := []) X hA cl_X hW.1 hW.2.1 hDX hDM hne hW.2.2 (toI_run hf) e_1427 ce_X11_set im_X11_set se_X11_set lwl_65 (by decide) rfl rfl mem_X0 (Nat.le_of_ble_eq_true rfl) (vv_ok rfl) rfl ⟨Nat.le_of_ble_eq_true rfl, Nat.le_of_ble_eq_true rfl⟩ hcs dl_624 hl.1 (by decide) rfl (fun H1 locs1 hP1 hPo1 hS1 => ?_)
  have hW : LwW D cA adX adM A s X' M H1 locs1 := ⟨hP1, hPo1, hS1⟩
  refine lv_aload_n X.1 X.2.1 dl_627 rfl (lv_at hl 1 rfl) ?_
  refine lw_arg (k := 1) (lk := 1) X hX hbl hbA hW.2.2 (lv_at hl 3 rfl) (lv_at hl 0 rfl) hL (by omega) dl_628 dl_629 (fun h => lv_iconst (v := iI ((1 : Nat) : Int)) X.1 X.2.1 dl_630 (by decide) h) dl_631 dl_632 ?_
  refine lw_arg (k := 2) (lk := 1) X hX hbl hbA hW.2.2 (lv_at hl 3 rfl) (lv_at hl 0 rfl) hL (by omega) dl_633 dl_634 (fun h => lv_iconst (v := iI ((2 : Nat) : Int)) X.1 X.2.1 dl_635 (by decide) h) dl_636 dl_637 ?_
  refine lw_call (cells := cellsM) (other := cellsX) (kd := 12) (mid := 1584) (nL' := 5) (as := [vI (xs (i + 1)), vI (xs (i + 2))]) (rest := [.int r]) X hA cl_M hW.2.1 hW.1 hDM hDX (fun k i k' i' h h' q => hne k' i' k i h' h q.symm) hW.2.2 (toI_run hg) e_1584 ce_X12_set_ im_X12_set_ se_X12_set_ lwl_68 (by decide) rfl rfl mem_M0 (Nat.le_of_ble_eq_true rfl) (vv_ok rfl) rfl ⟨Nat.le_of_ble_eq_true rfl, Nat.le_of_ble_eq_true rfl⟩ hcs dl_638 hl.1 (by show 1 + 0 ≤ 8; omega) rfl (fun H2 locs2 hP2 hPo2 hS2 => ?_)
  refine lv_icmp_eq (tgt := 1771) X.1 X.2.1 dl_641 (by decide) (fun _ => ?_) (fun q => absurd rfl q)
  exact kk X' M' H2 locs2 hR' ⟨hPo2, hP2, hS2⟩
set_option maxHeartbeats 2000000 in
set_option maxRecDepth 20000 in
theorem law_12 {D : va_G} {cA : Nat → ClassId} {adX adM : Nat → Nat → Nat} {b L : Nat} {xs : Nat → Int32} {p : Program} {l : Launch} {e : Env} {s : State} {m : MethodId} {below : List Frame} {meth : Method} {c : Code} {A : Nat → Prop} {Q : State → Prop} {cs sl : Nat} (C : LwC D cA adX adM b L xs p s m c A) {n i : Nat} {X0 M : St} {H : Heap} {locs : List Loc} {ls : Array Slot} (hR : Rel n X0 M) (hn : n ≤ 600) (hi : i + 7 ≤ L) (hW : LwW D cA adX adM A s X0 M H locs) (hl : lv_has ls 4 [(3, .int (iI (i : Int))), (2, .ref (adM 12 0)), (1, .ref (adX 11 0)), (0, .ref b)]) (hcs : cs ≤ room_1.cells ∧ sl ≤ room_1.slots) (kk : ∀ (X' M' : St) (H' : Heap) (locs' : List Loc), Rel (n + 1) X' M' → LwW D cA adX adM A s X' M' H' locs' → W p l e room_1 s m #[Value.ref b] below meth c H' locs' cs sl Q (F0 m 1771 ls [])) : W p l e room_1 s m #[Value.ref b] below meth c H locs cs sl Q (F0 m 646 ls []) := by
  obtain ⟨X, hX, hbl, hbA, hA, hL, hDX, hDM, hne⟩ := C
  obtain ⟨r, X', M', hf, hg, hR'⟩ := op_between hn hR (xs (i + 1)) (xs (i + 2)) (xs (i + 3)) (if xs (i + 4) = 0 then 0 else 1)
  refine lv_aload_n X.1 X.2.1 dl_646 rfl (lv_at hl 2 rfl) ?_
  refine lw_arg (k := 1) (lk := 1) X hX hbl hbA hW.2.2 (lv_at hl 3 rfl) (lv_at hl 0 rfl) hL (by omega) dl_647 dl_648 (fun h => lv_iconst (v := iI ((1 : Nat) : Int)) X.1 X.2.1 dl_649 (by decide) h) dl_650 dl_651 ?_
  refine lw_arg (k := 2) (lk := 1) X hX hbl hbA hW.2.2 (lv_at hl 3 rfl) (lv_at hl 0 rfl) hL (by omega) dl_652 dl_653 (fun h => lv_iconst (v := iI ((2 : Nat) : Int)) X.1 X.2.1 dl_654 (by decide) h) dl_655 dl_656 ?_
  refine lw_arg (k := 3) (lk := 1) X hX hbl hbA hW.2.2 (lv_at hl 3 rfl) (lv_at hl 0 rfl) hL (by omega) dl_657 dl_658 (fun h => lv_iconst (v := iI ((3 : Nat) : Int)) X.1 X.2.1 dl_659 (by decide) h) dl_660 dl_661 ?_
  refine lw_arg (k := 4) (lk := 1) X hX hbl hbA hW.2.2 (lv_at hl 3 rfl) (lv_at hl 0 rfl) hL (by omega) dl_662 dl_663 (fun h => lv_iconst (v := iI ((4 : Nat) : Int)) X.1 X.2.1 dl_664 (by decide) h) dl_665 dl_666 ?_
  refine lw_z (t1 := 674) (t2 := 675) X dl_667 (by decide) dl_670 dl_671 (by decide) dl_674 (by decide) ?_
  refine lw_call (cells := cellsX) (other := cellsM) (kd := 11) (mid := 1428) (nL' := 11) (as := [vI (xs (i + 1)), vI (xs (i + 2)), vI (xs (i + 3)), vI (if xs (i + 4) = 0 then 0 else 1)]) (rest := []) X hA cl_X hW.1 hW.2.1 hDX hDM hne hW.2.2 (toI_run hf) e_1428 ce_X11_between im_X11_between se_X11_between lwl_69 (by decide) rfl rfl mem_X0 (Nat.le_of_ble_eq_true rfl) (vv_ok rfl) rfl ⟨Nat.le_of_ble_eq_true rfl, Nat.le_of_ble_eq_true rfl⟩ hcs dl_675 hl.1 (by decide) rfl (fun H1 locs1 hP1 hPo1 hS1 => ?_)
  have hW : LwW D cA adX adM A s X' M H1 locs1 := ⟨hP1, hPo1, hS1⟩
  refine lv_aload_n X.1 X.2.1 dl_678 rfl (lv_at hl 1 rfl) ?_
  refine lw_arg (k := 1) (lk := 1) X hX hbl hbA hW.2.2 (lv_at hl 3 rfl) (lv_at hl 0 rfl) hL (by omega) dl_679 dl_680 (fun h => lv_iconst (v := iI ((1 : Nat) : Int)) X.1 X.2.1 dl_681 (by decide) h) dl_682 dl_683 ?_
  refine lw_arg (k := 2) (lk := 1) X hX hbl hbA hW.2.2 (lv_at hl 3 rfl) (lv_at hl 0 rfl) hL (by omega) dl_684 dl_685 (fun h => lv_iconst (v := iI ((2 : Nat) : Int)) X.1 X.2.1 dl_686 (by decide) h) dl_687 dl_688 ?_
  refine lw_arg (k := 3) (lk := 1) X hX hbl hbA hW.2.2 (lv_at hl 3 rfl) (lv_at hl 0 rfl) hL (by omega) dl_689 dl_690 (fun h => lv_iconst (v := iI ((3 : Nat) : Int)) X.1 X.2.1 dl_691 (by decide) h) dl_692 dl_693 ?_
  refine lw_arg (k := 4) (lk := 1) X hX hbl hbA hW.2.2 (lv_at hl 3 rfl) (lv_at hl 0 rfl) hL (by omega) dl_694 dl_695 (fun h => lv_iconst (v := iI ((4 : Nat) : Int)) X.1 X.2.1 dl_696 (by decide) h) dl_697 dl_698 ?_
  refine lw_z (t1 := 706) (t2 := 707) X dl_699 (by decide) dl_702 dl_703 (by decide) dl_706 (by decide) ?_
  refine lw_call (cells := cellsM) (other := cellsX) (kd := 12) (mid := 1585) (nL' := 9) (as := [vI (xs (i + 1)), vI (xs (i + 2)), vI (xs (i + 3)), vI (if xs (i + 4) = 0 then 0 else 1)]) (rest := [.int r]) X hA cl_M hW.2.1 hW.1 hDM hDX (fun k i k' i' h h' q => hne k' i' k i h' h q.symm) hW.2.2 (toI_run hg) e_1585 ce_X12_between im_X12_between se_X12_between lwl_73 (by decide) rfl rfl mem_M0 (Nat.le_of_ble_eq_true rfl) (vv_ok rfl) rfl ⟨Nat.le_of_ble_eq_true rfl, Nat.le_of_ble_eq_true rfl⟩ hcs dl_707 hl.1 (by show 1 + 0 ≤ 8; omega) rfl (fun H2 locs2 hP2 hPo2 hS2 => ?_)
  refine lv_icmp_eq (tgt := 1771) X.1 X.2.1 dl_710 (by decide) (fun _ => ?_) (fun q => absurd rfl q)
  exact kk X' M' H2 locs2 hR' ⟨hPo2, hP2, hS2⟩
set_option maxHeartbeats 2000000 in
set_option maxRecDepth 20000 in
theorem law_13 {D : va_G} {cA : Nat → ClassId} {adX adM : Nat → Nat → Nat} {b L : Nat} {xs : Nat → Int32} {p : Program} {l : Launch} {e : Env} {s : State} {m : MethodId} {below : List Frame} {meth : Method} {c : Code} {A : Nat → Prop} {Q : State → Prop} {cs sl : Nat} (C : LwC D cA adX adM b L xs p s m c A) {n i : Nat} {X0 M : St} {H : Heap} {locs : List Loc} {ls : Array Slot} (hR : Rel n X0 M) (hn : n ≤ 600) (hi : i + 7 ≤ L) (hW : LwW D cA adX adM A s X0 M H locs) (hl : lv_has ls 4 [(3, .int (iI (i : Int))), (2, .ref (adM 12 0)), (1, .ref (adX 11 0)), (0, .ref b)]) (hcs : cs ≤ room_1.cells ∧ sl ≤ room_1.slots) (kk : ∀ (X' M' : St) (H' : Heap) (locs' : List Loc), Rel (n + 1) X' M' → LwW D cA adX adM A s X' M' H' locs' → W p l e room_1 s m #[Value.ref b] below meth c H' locs' cs sl Q (F0 m 1771 ls [])) : W p l e room_1 s m #[Value.ref b] below meth c H locs cs sl Q (F0 m 715 ls []) := by
  obtain ⟨X, hX, hbl, hbA, hA, hL, hDX, hDM, hne⟩ := C
  obtain ⟨r, X', M', hf, hg, hR'⟩ := op_fill hn hR (xs (i + 1)) (if xs (i + 2) = 0 then 0 else 1) (xs (i + 3)) (if xs (i + 4) = 0 then 0 else 1)
  refine lv_aload_n X.1 X.2.1 dl_715 rfl (lv_at hl 2 rfl) ?_
  refine lw_arg (k := 1) (lk := 1) X hX hbl hbA hW.2.2 (lv_at hl 3 rfl) (lv_at hl 0 rfl) hL (by omega) dl_716 dl_717 (fun h => lv_iconst (v := iI ((1 : Nat) : Int)) X.1 X.2.1 dl_718 (by decide) h) dl_719 dl_720 ?_
  refine lw_arg (k := 2) (lk := 1) X hX hbl hbA hW.2.2 (lv_at hl 3 rfl) (lv_at hl 0 rfl) hL (by omega) dl_721 dl_722 (fun h => lv_iconst (v := iI ((2 : Nat) : Int)) X.1 X.2.1 dl_723 (by decide) h) dl_724 dl_725 ?_
  refine lw_z (t1 := 733) (t2 := 734) X dl_726 (by decide) dl_729 dl_730 (by decide) dl_733 (by decide) ?_
  refine lw_arg (k := 3) (lk := 1) X hX hbl hbA hW.2.2 (lv_at hl 3 rfl) (lv_at hl 0 rfl) hL (by omega) dl_734 dl_735 (fun h => lv_iconst (v := iI ((3 : Nat) : Int)) X.1 X.2.1 dl_736 (by decide) h) dl_737 dl_738 ?_
  refine lw_arg (k := 4) (lk := 1) X hX hbl hbA hW.2.2 (lv_at hl 3 rfl) (lv_at hl 0 rfl) hL (by omega) dl_739 dl_740 (fun h => lv_iconst (v := iI ((4 : Nat) : Int)) X.1 X.2.1 dl_741 (by decide) h) dl_742 dl_743 ?_
  refine lw_z (t1 := 751) (t2 := 752) X dl_744 (by decide) dl_747 dl_748 (by decide) dl_751 (by decide) ?_
  refine lw_call (cells := cellsX) (other := cellsM) (kd := 11) (mid := 1429) (nL' := 9) (as := [vI (xs (i + 1)), vI (if xs (i + 2) = 0 then 0 else 1), vI (xs (i + 3)), vI (if xs (i + 4) = 0 then 0 else 1)]) (rest := []) X hA cl_X hW.1 hW.2.1 hDX hDM hne hW.2.2 (toI_run hf) e_1429 ce_X11_fill im_X11_fill se_X11_fill lwl_74 (by decide) rfl rfl mem_X0 (Nat.le_of_ble_eq_true rfl) (vv_ok rfl) rfl ⟨Nat.le_of_ble_eq_true rfl, Nat.le_of_ble_eq_true rfl⟩ hcs dl_752 hl.1 (by decide) rfl (fun H1 locs1 hP1 hPo1 hS1 => ?_)
  have hW : LwW D cA adX adM A s X' M H1 locs1 := ⟨hP1, hPo1, hS1⟩
  refine lv_aload_n X.1 X.2.1 dl_755 rfl (lv_at hl 1 rfl) ?_
  refine lw_arg (k := 1) (lk := 1) X hX hbl hbA hW.2.2 (lv_at hl 3 rfl) (lv_at hl 0 rfl) hL (by omega) dl_756 dl_757 (fun h => lv_iconst (v := iI ((1 : Nat) : Int)) X.1 X.2.1 dl_758 (by decide) h) dl_759 dl_760 ?_
  refine lw_arg (k := 2) (lk := 1) X hX hbl hbA hW.2.2 (lv_at hl 3 rfl) (lv_at hl 0 rfl) hL (by omega) dl_761 dl_762 (fun h => lv_iconst (v := iI ((2 : Nat) : Int)) X.1 X.2.1 dl_763 (by decide) h) dl_764 dl_765 ?_
  refine lw_z (t1 := 773) (t2 := 774) X dl_766 (by decide) dl_769 dl_770 (by decide) dl_773 (by decide) ?_
  refine lw_arg (k := 3) (lk := 1) X hX hbl hbA hW.2.2 (lv_at hl 3 rfl) (lv_at hl 0 rfl) hL (by omega) dl_774 dl_775 (fun h => lv_iconst (v := iI ((3 : Nat) : Int)) X.1 X.2.1 dl_776 (by decide) h) dl_777 dl_778 ?_
  refine lw_arg (k := 4) (lk := 1) X hX hbl hbA hW.2.2 (lv_at hl 3 rfl) (lv_at hl 0 rfl) hL (by omega) dl_779 dl_780 (fun h => lv_iconst (v := iI ((4 : Nat) : Int)) X.1 X.2.1 dl_781 (by decide) h) dl_782 dl_783 ?_
  refine lw_z (t1 := 791) (t2 := 792) X dl_784 (by decide) dl_787 dl_788 (by decide) dl_791 (by decide) ?_
  refine lw_call (cells := cellsM) (other := cellsX) (kd := 12) (mid := 1586) (nL' := 10) (as := [vI (xs (i + 1)), vI (if xs (i + 2) = 0 then 0 else 1), vI (xs (i + 3)), vI (if xs (i + 4) = 0 then 0 else 1)]) (rest := [.int r]) X hA cl_M hW.2.1 hW.1 hDM hDX (fun k i k' i' h h' q => hne k' i' k i h' h q.symm) hW.2.2 (toI_run hg) e_1586 ce_X12_fill im_X12_fill se_X12_fill lwl_78 (by decide) rfl rfl mem_M0 (Nat.le_of_ble_eq_true rfl) (vv_ok rfl) rfl ⟨Nat.le_of_ble_eq_true rfl, Nat.le_of_ble_eq_true rfl⟩ hcs dl_792 hl.1 (by show 1 + 0 ≤ 8; omega) rfl (fun H2 locs2 hP2 hPo2 hS2 => ?_)
  refine lv_icmp_eq (tgt := 1771) X.1 X.2.1 dl_795 (by decide) (fun _ => ?_) (fun q => absurd rfl q)
  exact kk X' M' H2 locs2 hR' ⟨hPo2, hP2, hS2⟩
set_option maxHeartbeats 2000000 in
set_option maxRecDepth 20000 in
theorem law_14 {D : va_G} {cA : Nat → ClassId} {adX adM : Nat → Nat → Nat} {b L : Nat} {xs : Nat → Int32} {p : Program} {l : Launch} {e : Env} {s : State} {m : MethodId} {below : List Frame} {meth : Method} {c : Code} {A : Nat → Prop} {Q : State → Prop} {cs sl : Nat} (C : LwC D cA adX adM b L xs p s m c A) {n i : Nat} {X0 M : St} {H : Heap} {locs : List Loc} {ls : Array Slot} (hR : Rel n X0 M) (hn : n ≤ 600) (hi : i + 7 ≤ L) (hW : LwW D cA adX adM A s X0 M H locs) (hl : lv_has ls 4 [(3, .int (iI (i : Int))), (2, .ref (adM 12 0)), (1, .ref (adX 11 0)), (0, .ref b)]) (hcs : cs ≤ room_1.cells ∧ sl ≤ room_1.slots) (kk : ∀ (X' M' : St) (H' : Heap) (locs' : List Loc), Rel (n + 1) X' M' → LwW D cA adX adM A s X' M' H' locs' → W p l e room_1 s m #[Value.ref b] below meth c H' locs' cs sl Q (F0 m 1771 ls [])) : W p l e room_1 s m #[Value.ref b] below meth c H locs cs sl Q (F0 m 800 ls []) := by
  obtain ⟨X, hX, hbl, hbA, hA, hL, hDX, hDM, hne⟩ := C
  obtain ⟨r, X', M', hf, hg, hR'⟩ := op_owner hR (xs (i + 1))
  refine lv_aload_n X.1 X.2.1 dl_800 rfl (lv_at hl 2 rfl) ?_
  refine lw_arg (k := 1) (lk := 1) X hX hbl hbA hW.2.2 (lv_at hl 3 rfl) (lv_at hl 0 rfl) hL (by omega) dl_801 dl_802 (fun h => lv_iconst (v := iI ((1 : Nat) : Int)) X.1 X.2.1 dl_803 (by decide) h) dl_804 dl_805 ?_
  refine lw_call (cells := cellsX) (other := cellsM) (kd := 11) (mid := 1430) (nL' := 3) (as := [vI (xs (i + 1))]) (rest := []) X hA cl_X hW.1 hW.2.1 hDX hDM hne hW.2.2 (toI_run hf) e_1430 ce_X11_owner im_X11_owner se_X11_owner lwl_79 (by decide) rfl rfl mem_X0 (Nat.le_of_ble_eq_true rfl) (vv_ok rfl) rfl ⟨Nat.le_of_ble_eq_true rfl, Nat.le_of_ble_eq_true rfl⟩ hcs dl_806 hl.1 (by decide) rfl (fun H1 locs1 hP1 hPo1 hS1 => ?_)
  have hW : LwW D cA adX adM A s X' M H1 locs1 := ⟨hP1, hPo1, hS1⟩
  refine lv_aload_n X.1 X.2.1 dl_809 rfl (lv_at hl 1 rfl) ?_
  refine lw_arg (k := 1) (lk := 1) X hX hbl hbA hW.2.2 (lv_at hl 3 rfl) (lv_at hl 0 rfl) hL (by omega) dl_810 dl_811 (fun h => lv_iconst (v := iI ((1 : Nat) : Int)) X.1 X.2.1 dl_812 (by decide) h) dl_813 dl_814 ?_
  refine lw_call (cells := cellsM) (other := cellsX) (kd := 12) (mid := 1590) (nL' := 3) (as := [vI (xs (i + 1))]) (rest := [.int r]) X hA cl_M hW.2.1 hW.1 hDM hDX (fun k i k' i' h h' q => hne k' i' k i h' h q.symm) hW.2.2 (toI_run hg) e_1590 ce_X12_owner im_X12_owner se_X12_owner lwl_82 (by decide) rfl rfl mem_M0 (Nat.le_of_ble_eq_true rfl) (vv_ok rfl) rfl ⟨Nat.le_of_ble_eq_true rfl, Nat.le_of_ble_eq_true rfl⟩ hcs dl_815 hl.1 (by show 1 + 0 ≤ 8; omega) rfl (fun H2 locs2 hP2 hPo2 hS2 => ?_)
  refine lv_icmp_eq (tgt := 1771) X.1 X.2.1 dl_818 (by decide) (fun _ => ?_) (fun q => absurd rfl q)
  exact kk X' M' H2 locs2 hR' ⟨hPo2, hP2, hS2⟩
set_option maxHeartbeats 2000000 in
set_option maxRecDepth 20000 in
theorem law_15 {D : va_G} {cA : Nat → ClassId} {adX adM : Nat → Nat → Nat} {b L : Nat} {xs : Nat → Int32} {p : Program} {l : Launch} {e : Env} {s : State} {m : MethodId} {below : List Frame} {meth : Method} {c : Code} {A : Nat → Prop} {Q : State → Prop} {cs sl : Nat} (C : LwC D cA adX adM b L xs p s m c A) {n i : Nat} {X0 M : St} {H : Heap} {locs : List Loc} {ls : Array Slot} (hR : Rel n X0 M) (hn : n ≤ 600) (hi : i + 7 ≤ L) (hW : LwW D cA adX adM A s X0 M H locs) (hl : lv_has ls 4 [(3, .int (iI (i : Int))), (2, .ref (adM 12 0)), (1, .ref (adX 11 0)), (0, .ref b)]) (hcs : cs ≤ room_1.cells ∧ sl ≤ room_1.slots) (kk : ∀ (X' M' : St) (H' : Heap) (locs' : List Loc), Rel (n + 1) X' M' → LwW D cA adX adM A s X' M' H' locs' → W p l e room_1 s m #[Value.ref b] below meth c H' locs' cs sl Q (F0 m 1771 ls [])) : W p l e room_1 s m #[Value.ref b] below meth c H locs cs sl Q (F0 m 823 ls []) := by
  obtain ⟨X, hX, hbl, hbA, hA, hL, hDX, hDM, hne⟩ := C
  obtain ⟨r, X', M', hf, hg, hR'⟩ := op_has hR (xs (i + 1)) (xs (i + 2)) (if xs (i + 3) = 0 then 0 else 1)
  refine lv_aload_n X.1 X.2.1 dl_823 rfl (lv_at hl 2 rfl) ?_
  refine lw_arg (k := 1) (lk := 1) X hX hbl hbA hW.2.2 (lv_at hl 3 rfl) (lv_at hl 0 rfl) hL (by omega) dl_824 dl_825 (fun h => lv_iconst (v := iI ((1 : Nat) : Int)) X.1 X.2.1 dl_826 (by decide) h) dl_827 dl_828 ?_
  refine lw_arg (k := 2) (lk := 1) X hX hbl hbA hW.2.2 (lv_at hl 3 rfl) (lv_at hl 0 rfl) hL (by omega) dl_829 dl_830 (fun h => lv_iconst (v := iI ((2 : Nat) : Int)) X.1 X.2.1 dl_831 (by decide) h) dl_832 dl_833 ?_
  refine lw_arg (k := 3) (lk := 1) X hX hbl hbA hW.2.2 (lv_at hl 3 rfl) (lv_at hl 0 rfl) hL (by omega) dl_834 dl_835 (fun h => lv_iconst (v := iI ((3 : Nat) : Int)) X.1 X.2.1 dl_836 (by decide) h) dl_837 dl_838 ?_
  refine lw_z (t1 := 846) (t2 := 847) X dl_839 (by decide) dl_842 dl_843 (by decide) dl_846 (by decide) ?_
  refine lw_call (cells := cellsX) (other := cellsM) (kd := 11) (mid := 1431) (nL' := 6) (as := [vI (xs (i + 1)), vI (xs (i + 2)), vI (if xs (i + 3) = 0 then 0 else 1)]) (rest := []) X hA cl_X hW.1 hW.2.1 hDX hDM hne hW.2.2 (toI_run hf) e_1431 ce_X11_has im_X11_has se_X11_has lwl_83 (by decide) rfl rfl mem_X0 (Nat.le_of_ble_eq_true rfl) (vv_ok rfl) rfl ⟨Nat.le_of_ble_eq_true rfl, Nat.le_of_ble_eq_true rfl⟩ hcs dl_847 hl.1 (by decide) rfl (fun H1 locs1 hP1 hPo1 hS1 => ?_)
  have hW : LwW D cA adX adM A s X' M H1 locs1 := ⟨hP1, hPo1, hS1⟩
  refine lv_aload_n X.1 X.2.1 dl_850 rfl (lv_at hl 1 rfl) ?_
  refine lw_arg (k := 1) (lk := 1) X hX hbl hbA hW.2.2 (lv_at hl 3 rfl) (lv_at hl 0 rfl) hL (by omega) dl_851 dl_852 (fun h => lv_iconst (v := iI ((1 : Nat) : Int)) X.1 X.2.1 dl_853 (by decide) h) dl_854 dl_855 ?_
  refine lw_arg (k := 2) (lk := 1) X hX hbl hbA hW.2.2 (lv_at hl 3 rfl) (lv_at hl 0 rfl) hL (by omega) dl_856 dl_857 (fun h => lv_iconst (v := iI ((2 : Nat) : Int)) X.1 X.2.1 dl_858 (by decide) h) dl_859 dl_860 ?_
  refine lw_arg (k := 3) (lk := 1) X hX hbl hbA hW.2.2 (lv_at hl 3 rfl) (lv_at hl 0 rfl) hL (by omega) dl_861 dl_862 (fun h => lv_iconst (v := iI ((3 : Nat) : Int)) X.1 X.2.1 dl_863 (by decide) h) dl_864 dl_865 ?_
  refine lw_z (t1 := 873) (t2 := 874) X dl_866 (by decide) dl_869 dl_870 (by decide) dl_873 (by decide) ?_
  refine lw_call (cells := cellsM) (other := cellsX) (kd := 12) (mid := 1591) (nL' := 7) (as := [vI (xs (i + 1)), vI (xs (i + 2)), vI (if xs (i + 3) = 0 then 0 else 1)]) (rest := [.int r]) X hA cl_M hW.2.1 hW.1 hDM hDX (fun k i k' i' h h' q => hne k' i' k i h' h q.symm) hW.2.2 (toI_run hg) e_1591 ce_X12_has im_X12_has se_X12_has lwl_87 (by decide) rfl rfl mem_M0 (Nat.le_of_ble_eq_true rfl) (vv_ok rfl) rfl ⟨Nat.le_of_ble_eq_true rfl, Nat.le_of_ble_eq_true rfl⟩ hcs dl_874 hl.1 (by show 1 + 0 ≤ 8; omega) rfl (fun H2 locs2 hP2 hPo2 hS2 => ?_)
  refine lv_icmp_eq (tgt := 1771) X.1 X.2.1 dl_877 (by decide) (fun _ => ?_) (fun q => absurd rfl q)
  exact kk X' M' H2 locs2 hR' ⟨hPo2, hP2, hS2⟩
set_option maxHeartbeats 2000000 in
set_option maxRecDepth 20000 in
theorem law_16 {D : va_G} {cA : Nat → ClassId} {adX adM : Nat → Nat → Nat} {b L : Nat} {xs : Nat → Int32} {p : Program} {l : Launch} {e : Env} {s : State} {m : MethodId} {below : List Frame} {meth : Method} {c : Code} {A : Nat → Prop} {Q : State → Prop} {cs sl : Nat} (C : LwC D cA adX adM b L xs p s m c A) {n i : Nat} {X0 M : St} {H : Heap} {locs : List Loc} {ls : Array Slot} (hR : Rel n X0 M) (hn : n ≤ 600) (hi : i + 7 ≤ L) (hW : LwW D cA adX adM A s X0 M H locs) (hl : lv_has ls 4 [(3, .int (iI (i : Int))), (2, .ref (adM 12 0)), (1, .ref (adX 11 0)), (0, .ref b)]) (hcs : cs ≤ room_1.cells ∧ sl ≤ room_1.slots) (kk : ∀ (X' M' : St) (H' : Heap) (locs' : List Loc), Rel (n + 1) X' M' → LwW D cA adX adM A s X' M' H' locs' → W p l e room_1 s m #[Value.ref b] below meth c H' locs' cs sl Q (F0 m 1771 ls [])) : W p l e room_1 s m #[Value.ref b] below meth c H locs cs sl Q (F0 m 882 ls []) := by
  obtain ⟨X, hX, hbl, hbA, hA, hL, hDX, hDM, hne⟩ := C
  obtain ⟨r, X', M', hf, hg, hR'⟩ := op_spread hR (xs (i + 1))
  refine lv_aload_n X.1 X.2.1 dl_882 rfl (lv_at hl 2 rfl) ?_
  refine lw_arg (k := 1) (lk := 1) X hX hbl hbA hW.2.2 (lv_at hl 3 rfl) (lv_at hl 0 rfl) hL (by omega) dl_883 dl_884 (fun h => lv_iconst (v := iI ((1 : Nat) : Int)) X.1 X.2.1 dl_885 (by decide) h) dl_886 dl_887 ?_
  refine lw_call (cells := cellsX) (other := cellsM) (kd := 11) (mid := 1432) (nL' := 4) (as := [vI (xs (i + 1))]) (rest := []) X hA cl_X hW.1 hW.2.1 hDX hDM hne hW.2.2 (toI_run hf) e_1432 ce_X11_spread im_X11_spread se_X11_spread lwl_88 (by decide) rfl rfl mem_X0 (Nat.le_of_ble_eq_true rfl) (vv_ok rfl) rfl ⟨Nat.le_of_ble_eq_true rfl, Nat.le_of_ble_eq_true rfl⟩ hcs dl_888 hl.1 (by decide) rfl (fun H1 locs1 hP1 hPo1 hS1 => ?_)
  have hW : LwW D cA adX adM A s X' M H1 locs1 := ⟨hP1, hPo1, hS1⟩
  refine lv_aload_n X.1 X.2.1 dl_891 rfl (lv_at hl 1 rfl) ?_
  refine lw_arg (k := 1) (lk := 1) X hX hbl hbA hW.2.2 (lv_at hl 3 rfl) (lv_at hl 0 rfl) hL (by omega) dl_892 dl_893 (fun h => lv_iconst (v := iI ((1 : Nat) : Int)) X.1 X.2.1 dl_894 (by decide) h) dl_895 dl_896 ?_
  refine lw_call (cells := cellsM) (other := cellsX) (kd := 12) (mid := 1592) (nL' := 4) (as := [vI (xs (i + 1))]) (rest := [.int r]) X hA cl_M hW.2.1 hW.1 hDM hDX (fun k i k' i' h h' q => hne k' i' k i h' h q.symm) hW.2.2 (toI_run hg) e_1592 ce_X12_spread im_X12_spread se_X12_spread lwl_91 (by decide) rfl rfl mem_M0 (Nat.le_of_ble_eq_true rfl) (vv_ok rfl) rfl ⟨Nat.le_of_ble_eq_true rfl, Nat.le_of_ble_eq_true rfl⟩ hcs dl_897 hl.1 (by show 1 + 0 ≤ 8; omega) rfl (fun H2 locs2 hP2 hPo2 hS2 => ?_)
  refine lv_icmp_eq (tgt := 1771) X.1 X.2.1 dl_900 (by decide) (fun _ => ?_) (fun q => absurd rfl q)
  exact kk X' M' H2 locs2 hR' ⟨hPo2, hP2, hS2⟩
set_option maxHeartbeats 2000000 in
set_option maxRecDepth 20000 in
theorem law_17 {D : va_G} {cA : Nat → ClassId} {adX adM : Nat → Nat → Nat} {b L : Nat} {xs : Nat → Int32} {p : Program} {l : Launch} {e : Env} {s : State} {m : MethodId} {below : List Frame} {meth : Method} {c : Code} {A : Nat → Prop} {Q : State → Prop} {cs sl : Nat} (C : LwC D cA adX adM b L xs p s m c A) {n i : Nat} {X0 M : St} {H : Heap} {locs : List Loc} {ls : Array Slot} (hR : Rel n X0 M) (hn : n ≤ 600) (hi : i + 7 ≤ L) (hW : LwW D cA adX adM A s X0 M H locs) (hl : lv_has ls 4 [(3, .int (iI (i : Int))), (2, .ref (adM 12 0)), (1, .ref (adX 11 0)), (0, .ref b)]) (hcs : cs ≤ room_1.cells ∧ sl ≤ room_1.slots) (kk : ∀ (X' M' : St) (H' : Heap) (locs' : List Loc), Rel (n + 1) X' M' → LwW D cA adX adM A s X' M' H' locs' → W p l e room_1 s m #[Value.ref b] below meth c H' locs' cs sl Q (F0 m 1771 ls [])) : W p l e room_1 s m #[Value.ref b] below meth c H locs cs sl Q (F0 m 905 ls []) := by
  obtain ⟨X, hX, hbl, hbA, hA, hL, hDX, hDM, hne⟩ := C
  obtain ⟨r, X', M', hf, hg, hR'⟩ := op_sinks hR (xs (i + 1))
  refine lv_aload_n X.1 X.2.1 dl_905 rfl (lv_at hl 2 rfl) ?_
  refine lw_arg (k := 1) (lk := 1) X hX hbl hbA hW.2.2 (lv_at hl 3 rfl) (lv_at hl 0 rfl) hL (by omega) dl_906 dl_907 (fun h => lv_iconst (v := iI ((1 : Nat) : Int)) X.1 X.2.1 dl_908 (by decide) h) dl_909 dl_910 ?_
  refine lw_call (cells := cellsX) (other := cellsM) (kd := 11) (mid := 1433) (nL' := 2) (as := [vI (xs (i + 1))]) (rest := []) X hA cl_X hW.1 hW.2.1 hDX hDM hne hW.2.2 (toI_run hf) e_1433 ce_X11_sinks im_X11_sinks se_X11_sinks lwl_92 (by decide) rfl rfl mem_X0 (Nat.le_of_ble_eq_true rfl) (vv_ok rfl) rfl ⟨Nat.le_of_ble_eq_true rfl, Nat.le_of_ble_eq_true rfl⟩ hcs dl_911 hl.1 (by decide) rfl (fun H1 locs1 hP1 hPo1 hS1 => ?_)
  have hW : LwW D cA adX adM A s X' M H1 locs1 := ⟨hP1, hPo1, hS1⟩
  refine lv_aload_n X.1 X.2.1 dl_914 rfl (lv_at hl 1 rfl) ?_
  refine lw_arg (k := 1) (lk := 1) X hX hbl hbA hW.2.2 (lv_at hl 3 rfl) (lv_at hl 0 rfl) hL (by omega) dl_915 dl_916 (fun h => lv_iconst (v := iI ((1 : Nat) : Int)) X.1 X.2.1 dl_917 (by decide) h) dl_918 dl_919 ?_
  refine lw_call (cells := cellsM) (other := cellsX) (kd := 12) (mid := 1593) (nL' := 4) (as := [vI (xs (i + 1))]) (rest := [.int r]) X hA cl_M hW.2.1 hW.1 hDM hDX (fun k i k' i' h h' q => hne k' i' k i h' h q.symm) hW.2.2 (toI_run hg) e_1593 ce_X12_sinks im_X12_sinks se_X12_sinks lwl_95 (by decide) rfl rfl mem_M0 (Nat.le_of_ble_eq_true rfl) (vv_ok rfl) rfl ⟨Nat.le_of_ble_eq_true rfl, Nat.le_of_ble_eq_true rfl⟩ hcs dl_920 hl.1 (by show 1 + 0 ≤ 8; omega) rfl (fun H2 locs2 hP2 hPo2 hS2 => ?_)
  refine lv_icmp_eq (tgt := 1771) X.1 X.2.1 dl_923 (by decide) (fun _ => ?_) (fun q => absurd rfl q)
  exact kk X' M' H2 locs2 hR' ⟨hPo2, hP2, hS2⟩
set_option maxHeartbeats 2000000 in
set_option maxRecDepth 20000 in
theorem law_18 {D : va_G} {cA : Nat → ClassId} {adX adM : Nat → Nat → Nat} {b L : Nat} {xs : Nat → Int32} {p : Program} {l : Launch} {e : Env} {s : State} {m : MethodId} {below : List Frame} {meth : Method} {c : Code} {A : Nat → Prop} {Q : State → Prop} {cs sl : Nat} (C : LwC D cA adX adM b L xs p s m c A) {n i : Nat} {X0 M : St} {H : Heap} {locs : List Loc} {ls : Array Slot} (hR : Rel n X0 M) (hn : n ≤ 600) (hi : i + 7 ≤ L) (hW : LwW D cA adX adM A s X0 M H locs) (hl : lv_has ls 4 [(3, .int (iI (i : Int))), (2, .ref (adM 12 0)), (1, .ref (adX 11 0)), (0, .ref b)]) (hcs : cs ≤ room_1.cells ∧ sl ≤ room_1.slots) (kk : ∀ (X' M' : St) (H' : Heap) (locs' : List Loc), Rel (n + 1) X' M' → LwW D cA adX adM A s X' M' H' locs' → W p l e room_1 s m #[Value.ref b] below meth c H' locs' cs sl Q (F0 m 1771 ls [])) : W p l e room_1 s m #[Value.ref b] below meth c H locs cs sl Q (F0 m 928 ls []) := by
  obtain ⟨X, hX, hbl, hbA, hA, hL, hDX, hDM, hne⟩ := C
  obtain ⟨r, X', M', hf, hg, hR'⟩ := op_close hR (xs (i + 1))
  refine lv_aload_n X.1 X.2.1 dl_928 rfl (lv_at hl 2 rfl) ?_
  refine lw_arg (k := 1) (lk := 1) X hX hbl hbA hW.2.2 (lv_at hl 3 rfl) (lv_at hl 0 rfl) hL (by omega) dl_929 dl_930 (fun h => lv_iconst (v := iI ((1 : Nat) : Int)) X.1 X.2.1 dl_931 (by decide) h) dl_932 dl_933 ?_
  refine lw_call (cells := cellsX) (other := cellsM) (kd := 11) (mid := 1436) (nL' := 3) (as := [vI (xs (i + 1))]) (rest := []) X hA cl_X hW.1 hW.2.1 hDX hDM hne hW.2.2 (toI_run hf) e_1436 ce_X11_close im_X11_close se_X11_close lwl_96 (by decide) rfl rfl mem_X0 (Nat.le_of_ble_eq_true rfl) (vv_ok rfl) rfl ⟨Nat.le_of_ble_eq_true rfl, Nat.le_of_ble_eq_true rfl⟩ hcs dl_934 hl.1 (by decide) rfl (fun H1 locs1 hP1 hPo1 hS1 => ?_)
  have hW : LwW D cA adX adM A s X' M H1 locs1 := ⟨hP1, hPo1, hS1⟩
  refine lv_aload_n X.1 X.2.1 dl_937 rfl (lv_at hl 1 rfl) ?_
  refine lw_arg (k := 1) (lk := 1) X hX hbl hbA hW.2.2 (lv_at hl 3 rfl) (lv_at hl 0 rfl) hL (by omega) dl_938 dl_939 (fun h => lv_iconst (v := iI ((1 : Nat) : Int)) X.1 X.2.1 dl_940 (by decide) h) dl_941 dl_942 ?_
  refine lw_call (cells := cellsM) (other := cellsX) (kd := 12) (mid := 1595) (nL' := 2) (as := [vI (xs (i + 1))]) (rest := [.int r]) X hA cl_M hW.2.1 hW.1 hDM hDX (fun k i k' i' h h' q => hne k' i' k i h' h q.symm) hW.2.2 (toI_run hg) e_1595 ce_X12_close im_X12_close se_X12_close lwl_99 (by decide) rfl rfl mem_M0 (Nat.le_of_ble_eq_true rfl) (vv_ok rfl) rfl ⟨Nat.le_of_ble_eq_true rfl, Nat.le_of_ble_eq_true rfl⟩ hcs dl_943 hl.1 (by show 1 + 0 ≤ 8; omega) rfl (fun H2 locs2 hP2 hPo2 hS2 => ?_)
  refine lv_icmp_eq (tgt := 1771) X.1 X.2.1 dl_946 (by decide) (fun _ => ?_) (fun q => absurd rfl q)
  exact kk X' M' H2 locs2 hR' ⟨hPo2, hP2, hS2⟩
set_option maxHeartbeats 2000000 in
set_option maxRecDepth 20000 in
theorem law_19 {D : va_G} {cA : Nat → ClassId} {adX adM : Nat → Nat → Nat} {b L : Nat} {xs : Nat → Int32} {p : Program} {l : Launch} {e : Env} {s : State} {m : MethodId} {below : List Frame} {meth : Method} {c : Code} {A : Nat → Prop} {Q : State → Prop} {cs sl : Nat} (C : LwC D cA adX adM b L xs p s m c A) {n i : Nat} {X0 M : St} {H : Heap} {locs : List Loc} {ls : Array Slot} (hR : Rel n X0 M) (hn : n ≤ 600) (hi : i + 7 ≤ L) (hW : LwW D cA adX adM A s X0 M H locs) (hl : lv_has ls 4 [(3, .int (iI (i : Int))), (2, .ref (adM 12 0)), (1, .ref (adX 11 0)), (0, .ref b)]) (hcs : cs ≤ room_1.cells ∧ sl ≤ room_1.slots) (kk : ∀ (X' M' : St) (H' : Heap) (locs' : List Loc), Rel (n + 1) X' M' → LwW D cA adX adM A s X' M' H' locs' → W p l e room_1 s m #[Value.ref b] below meth c H' locs' cs sl Q (F0 m 1771 ls [])) : W p l e room_1 s m #[Value.ref b] below meth c H locs cs sl Q (F0 m 951 ls []) := by
  obtain ⟨X, hX, hbl, hbA, hA, hL, hDX, hDM, hne⟩ := C
  obtain ⟨r, X', M', hf, hg, hR'⟩ := op_giveUp hR (xs (i + 1))
  refine lv_aload_n X.1 X.2.1 dl_951 rfl (lv_at hl 2 rfl) ?_
  refine lw_arg (k := 1) (lk := 1) X hX hbl hbA hW.2.2 (lv_at hl 3 rfl) (lv_at hl 0 rfl) hL (by omega) dl_952 dl_953 (fun h => lv_iconst (v := iI ((1 : Nat) : Int)) X.1 X.2.1 dl_954 (by decide) h) dl_955 dl_956 ?_
  refine lw_call (cells := cellsX) (other := cellsM) (kd := 11) (mid := 1437) (nL' := 3) (as := [vI (xs (i + 1))]) (rest := []) X hA cl_X hW.1 hW.2.1 hDX hDM hne hW.2.2 (toI_run hf) e_1437 ce_X11_giveUp im_X11_giveUp se_X11_giveUp lwl_100 (by decide) rfl rfl mem_X0 (Nat.le_of_ble_eq_true rfl) (vv_ok rfl) rfl ⟨Nat.le_of_ble_eq_true rfl, Nat.le_of_ble_eq_true rfl⟩ hcs dl_957 hl.1 (by decide) rfl (fun H1 locs1 hP1 hPo1 hS1 => ?_)
  have hW : LwW D cA adX adM A s X' M H1 locs1 := ⟨hP1, hPo1, hS1⟩
  refine lv_aload_n X.1 X.2.1 dl_960 rfl (lv_at hl 1 rfl) ?_
  refine lw_arg (k := 1) (lk := 1) X hX hbl hbA hW.2.2 (lv_at hl 3 rfl) (lv_at hl 0 rfl) hL (by omega) dl_961 dl_962 (fun h => lv_iconst (v := iI ((1 : Nat) : Int)) X.1 X.2.1 dl_963 (by decide) h) dl_964 dl_965 ?_
  refine lw_call (cells := cellsM) (other := cellsX) (kd := 12) (mid := 1596) (nL' := 2) (as := [vI (xs (i + 1))]) (rest := [.int r]) X hA cl_M hW.2.1 hW.1 hDM hDX (fun k i k' i' h h' q => hne k' i' k i h' h q.symm) hW.2.2 (toI_run hg) e_1596 ce_X12_giveUp im_X12_giveUp se_X12_giveUp lwl_103 (by decide) rfl rfl mem_M0 (Nat.le_of_ble_eq_true rfl) (vv_ok rfl) rfl ⟨Nat.le_of_ble_eq_true rfl, Nat.le_of_ble_eq_true rfl⟩ hcs dl_966 hl.1 (by show 1 + 0 ≤ 8; omega) rfl (fun H2 locs2 hP2 hPo2 hS2 => ?_)
  refine lv_icmp_eq (tgt := 1771) X.1 X.2.1 dl_969 (by decide) (fun _ => ?_) (fun q => absurd rfl q)
  exact kk X' M' H2 locs2 hR' ⟨hPo2, hP2, hS2⟩
set_option maxHeartbeats 2000000 in
set_option maxRecDepth 20000 in
theorem law_20 {D : va_G} {cA : Nat → ClassId} {adX adM : Nat → Nat → Nat} {b L : Nat} {xs : Nat → Int32} {p : Program} {l : Launch} {e : Env} {s : State} {m : MethodId} {below : List Frame} {meth : Method} {c : Code} {A : Nat → Prop} {Q : State → Prop} {cs sl : Nat} (C : LwC D cA adX adM b L xs p s m c A) {n i : Nat} {X0 M : St} {H : Heap} {locs : List Loc} {ls : Array Slot} (hR : Rel n X0 M) (hn : n ≤ 600) (hi : i + 7 ≤ L) (hW : LwW D cA adX adM A s X0 M H locs) (hl : lv_has ls 4 [(3, .int (iI (i : Int))), (2, .ref (adM 12 0)), (1, .ref (adX 11 0)), (0, .ref b)]) (hcs : cs ≤ room_1.cells ∧ sl ≤ room_1.slots) (kk : ∀ (X' M' : St) (H' : Heap) (locs' : List Loc), Rel (n + 1) X' M' → LwW D cA adX adM A s X' M' H' locs' → W p l e room_1 s m #[Value.ref b] below meth c H' locs' cs sl Q (F0 m 1771 ls [])) : W p l e room_1 s m #[Value.ref b] below meth c H locs cs sl Q (F0 m 974 ls []) := by
  obtain ⟨X, hX, hbl, hbA, hA, hL, hDX, hDM, hne⟩ := C
  obtain ⟨r, X', M', hf, hg, hR'⟩ := op_breach hn hR (xs (i + 1)) (if xs (i + 2) = 0 then 0 else 1)
  refine lv_aload_n X.1 X.2.1 dl_974 rfl (lv_at hl 2 rfl) ?_
  refine lw_arg (k := 1) (lk := 1) X hX hbl hbA hW.2.2 (lv_at hl 3 rfl) (lv_at hl 0 rfl) hL (by omega) dl_975 dl_976 (fun h => lv_iconst (v := iI ((1 : Nat) : Int)) X.1 X.2.1 dl_977 (by decide) h) dl_978 dl_979 ?_
  refine lw_arg (k := 2) (lk := 1) X hX hbl hbA hW.2.2 (lv_at hl 3 rfl) (lv_at hl 0 rfl) hL (by omega) dl_980 dl_981 (fun h => lv_iconst (v := iI ((2 : Nat) : Int)) X.1 X.2.1 dl_982 (by decide) h) dl_983 dl_984 ?_
  refine lw_z (t1 := 992) (t2 := 993) X dl_985 (by decide) dl_988 dl_989 (by decide) dl_992 (by decide) ?_
  refine lw_call (cells := cellsX) (other := cellsM) (kd := 11) (mid := 1438) (nL' := 6) (as := [vI (xs (i + 1)), vI (if xs (i + 2) = 0 then 0 else 1)]) (rest := []) X hA cl_X hW.1 hW.2.1 hDX hDM hne hW.2.2 (toI_run hf) e_1438 ce_X11_breach im_X11_breach se_X11_breach lwl_104 (by decide) rfl rfl mem_X0 (Nat.le_of_ble_eq_true rfl) (vv_ok rfl) rfl ⟨Nat.le_of_ble_eq_true rfl, Nat.le_of_ble_eq_true rfl⟩ hcs dl_993 hl.1 (by decide) rfl (fun H1 locs1 hP1 hPo1 hS1 => ?_)
  have hW : LwW D cA adX adM A s X' M H1 locs1 := ⟨hP1, hPo1, hS1⟩
  refine lv_aload_n X.1 X.2.1 dl_996 rfl (lv_at hl 1 rfl) ?_
  refine lw_arg (k := 1) (lk := 1) X hX hbl hbA hW.2.2 (lv_at hl 3 rfl) (lv_at hl 0 rfl) hL (by omega) dl_997 dl_998 (fun h => lv_iconst (v := iI ((1 : Nat) : Int)) X.1 X.2.1 dl_999 (by decide) h) dl_1000 dl_1001 ?_
  refine lw_arg (k := 2) (lk := 1) X hX hbl hbA hW.2.2 (lv_at hl 3 rfl) (lv_at hl 0 rfl) hL (by omega) dl_1002 dl_1003 (fun h => lv_iconst (v := iI ((2 : Nat) : Int)) X.1 X.2.1 dl_1004 (by decide) h) dl_1005 dl_1006 ?_
  refine lw_z (t1 := 1014) (t2 := 1015) X dl_1007 (by decide) dl_1010 dl_1011 (by decide) dl_1014 (by decide) ?_
  refine lw_call (cells := cellsM) (other := cellsX) (kd := 12) (mid := 1597) (nL' := 5) (as := [vI (xs (i + 1)), vI (if xs (i + 2) = 0 then 0 else 1)]) (rest := [.int r]) X hA cl_M hW.2.1 hW.1 hDM hDX (fun k i k' i' h h' q => hne k' i' k i h' h q.symm) hW.2.2 (toI_run hg) e_1597 ce_X12_breach im_X12_breach se_X12_breach lwl_108 (by decide) rfl rfl mem_M0 (Nat.le_of_ble_eq_true rfl) (vv_ok rfl) rfl ⟨Nat.le_of_ble_eq_true rfl, Nat.le_of_ble_eq_true rfl⟩ hcs dl_1015 hl.1 (by show 1 + 0 ≤ 8; omega) rfl (fun H2 locs2 hP2 hPo2 hS2 => ?_)
  refine lv_icmp_eq (tgt := 1771) X.1 X.2.1 dl_1018 (by decide) (fun _ => ?_) (fun q => absurd rfl q)
  exact kk X' M' H2 locs2 hR' ⟨hPo2, hP2, hS2⟩
set_option maxHeartbeats 2000000 in
set_option maxRecDepth 20000 in
theorem law_21 {D : va_G} {cA : Nat → ClassId} {adX adM : Nat → Nat → Nat} {b L : Nat} {xs : Nat → Int32} {p : Program} {l : Launch} {e : Env} {s : State} {m : MethodId} {below : List Frame} {meth : Method} {c : Code} {A : Nat → Prop} {Q : State → Prop} {cs sl : Nat} (C : LwC D cA adX adM b L xs p s m c A) {n i : Nat} {X0 M : St} {H : Heap} {locs : List Loc} {ls : Array Slot} (hR : Rel n X0 M) (hn : n ≤ 600) (hi : i + 7 ≤ L) (hW : LwW D cA adX adM A s X0 M H locs) (hl : lv_has ls 4 [(3, .int (iI (i : Int))), (2, .ref (adM 12 0)), (1, .ref (adX 11 0)), (0, .ref b)]) (hcs : cs ≤ room_1.cells ∧ sl ≤ room_1.slots) (kk : ∀ (X' M' : St) (H' : Heap) (locs' : List Loc), Rel (n + 1) X' M' → LwW D cA adX adM A s X' M' H' locs' → W p l e room_1 s m #[Value.ref b] below meth c H' locs' cs sl Q (F0 m 1771 ls [])) : W p l e room_1 s m #[Value.ref b] below meth c H locs cs sl Q (F0 m 1023 ls []) := by
  obtain ⟨X, hX, hbl, hbA, hA, hL, hDX, hDM, hne⟩ := C
  obtain ⟨r, X', M', hf, hg, hR'⟩ := op_wall hR (xs (i + 1)) (xs (i + 2)) (xs (i + 3))
  refine lv_aload_n X.1 X.2.1 dl_1023 rfl (lv_at hl 2 rfl) ?_
  refine lw_arg (k := 1) (lk := 1) X hX hbl hbA hW.2.2 (lv_at hl 3 rfl) (lv_at hl 0 rfl) hL (by omega) dl_1024 dl_1025 (fun h => lv_iconst (v := iI ((1 : Nat) : Int)) X.1 X.2.1 dl_1026 (by decide) h) dl_1027 dl_1028 ?_
  refine lw_arg (k := 2) (lk := 1) X hX hbl hbA hW.2.2 (lv_at hl 3 rfl) (lv_at hl 0 rfl) hL (by omega) dl_1029 dl_1030 (fun h => lv_iconst (v := iI ((2 : Nat) : Int)) X.1 X.2.1 dl_1031 (by decide) h) dl_1032 dl_1033 ?_
  refine lw_arg (k := 3) (lk := 1) X hX hbl hbA hW.2.2 (lv_at hl 3 rfl) (lv_at hl 0 rfl) hL (by omega) dl_1034 dl_1035 (fun h => lv_iconst (v := iI ((3 : Nat) : Int)) X.1 X.2.1 dl_1036 (by decide) h) dl_1037 dl_1038 ?_
  refine lw_call (cells := cellsX) (other := cellsM) (kd := 11) (mid := 1439) (nL' := 6) (as := [vI (xs (i + 1)), vI (xs (i + 2)), vI (xs (i + 3))]) (rest := []) X hA cl_X hW.1 hW.2.1 hDX hDM hne hW.2.2 (toI_run hf) e_1439 ce_X11_wall im_X11_wall se_X11_wall lwl_109 (by decide) rfl rfl mem_X0 (Nat.le_of_ble_eq_true rfl) (vv_ok rfl) rfl ⟨Nat.le_of_ble_eq_true rfl, Nat.le_of_ble_eq_true rfl⟩ hcs dl_1039 hl.1 (by decide) rfl (fun H1 locs1 hP1 hPo1 hS1 => ?_)
  have hW : LwW D cA adX adM A s X' M H1 locs1 := ⟨hP1, hPo1, hS1⟩
  refine lv_aload_n X.1 X.2.1 dl_1042 rfl (lv_at hl 1 rfl) ?_
  refine lw_arg (k := 1) (lk := 1) X hX hbl hbA hW.2.2 (lv_at hl 3 rfl) (lv_at hl 0 rfl) hL (by omega) dl_1043 dl_1044 (fun h => lv_iconst (v := iI ((1 : Nat) : Int)) X.1 X.2.1 dl_1045 (by decide) h) dl_1046 dl_1047 ?_
  refine lw_arg (k := 2) (lk := 1) X hX hbl hbA hW.2.2 (lv_at hl 3 rfl) (lv_at hl 0 rfl) hL (by omega) dl_1048 dl_1049 (fun h => lv_iconst (v := iI ((2 : Nat) : Int)) X.1 X.2.1 dl_1050 (by decide) h) dl_1051 dl_1052 ?_
  refine lw_arg (k := 3) (lk := 1) X hX hbl hbA hW.2.2 (lv_at hl 3 rfl) (lv_at hl 0 rfl) hL (by omega) dl_1053 dl_1054 (fun h => lv_iconst (v := iI ((3 : Nat) : Int)) X.1 X.2.1 dl_1055 (by decide) h) dl_1056 dl_1057 ?_
  refine lw_call (cells := cellsM) (other := cellsX) (kd := 12) (mid := 1598) (nL' := 4) (as := [vI (xs (i + 1)), vI (xs (i + 2)), vI (xs (i + 3))]) (rest := [.int r]) X hA cl_M hW.2.1 hW.1 hDM hDX (fun k i k' i' h h' q => hne k' i' k i h' h q.symm) hW.2.2 (toI_run hg) e_1598 ce_X12_wall im_X12_wall se_X12_wall lwl_112 (by decide) rfl rfl mem_M0 (Nat.le_of_ble_eq_true rfl) (vv_ok rfl) rfl ⟨Nat.le_of_ble_eq_true rfl, Nat.le_of_ble_eq_true rfl⟩ hcs dl_1058 hl.1 (by show 1 + 0 ≤ 8; omega) rfl (fun H2 locs2 hP2 hPo2 hS2 => ?_)
  refine lv_icmp_eq (tgt := 1771) X.1 X.2.1 dl_1061 (by decide) (fun _ => ?_) (fun q => absurd rfl q)
  exact kk X' M' H2 locs2 hR' ⟨hPo2, hP2, hS2⟩
