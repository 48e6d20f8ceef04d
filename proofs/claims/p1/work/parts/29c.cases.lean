theorem t_158 : Cond.methodLink "ContentLibraryLaw" 115 (⟨"ContentLibrary", "reopen", "()I"⟩ : MethodName) ∈ x_big := x_bt 158 (by decide +kernel) (by decide +kernel)
theorem t_159 : Cond.instanceMethod (⟨"ContentLibrary", "reopen", "()I"⟩ : MethodName) ∈ x_big := x_bt 159 (by decide +kernel) (by decide +kernel)
theorem t_160 : Cond.selects "ContentLibrary" (⟨"ContentLibrary", "reopen", "()I"⟩ : MethodName) (⟨"ContentLibrary", "reopen", "()I"⟩ : MethodName) ∈ x_big := x_bt 160 (by decide +kernel) (by decide +kernel)
theorem t_161 : Cond.code (⟨"ContentLibrary", "reopen", "()I"⟩ : MethodName) prog_1_method_13_code 2 (some .int) ∈ x_big := x_bt 161 (by decide +kernel) (by decide +kernel)
theorem t_609 : Cond.methodLink "ContentLibraryLaw" 105 (⟨"ContentLibraryLaw", "drop", "(LContentLibrary;I[J)I"⟩ : MethodName) ∈ x_big := x_bt 609 (by decide +kernel) (by decide +kernel)
theorem t_610 : Cond.static (⟨"ContentLibraryLaw", "drop", "(LContentLibrary;I[J)I"⟩ : MethodName) ∈ x_big := x_bt 610 (by decide +kernel) (by decide +kernel)
theorem t_611 : Cond.codeWith (⟨"ContentLibraryLaw", "drop", "(LContentLibrary;I[J)I"⟩ : MethodName) method_11_code 4 (some .int) [(0, 9, 12, 13), (0, 9, 15, 23)] ∈ x_big := x_bt 611 (by decide +kernel) (by decide +kernel)
theorem t_616 : Cond.methodLink "ContentLibraryLaw" 108 (⟨"ContentLibraryLaw", "sweep", "(LContentLibrary;[J)I"⟩ : MethodName) ∈ x_big := x_bt 616 (by decide +kernel) (by decide +kernel)
theorem t_617 : Cond.static (⟨"ContentLibraryLaw", "sweep", "(LContentLibrary;[J)I"⟩ : MethodName) ∈ x_big := x_bt 617 (by decide +kernel) (by decide +kernel)
theorem t_618 : Cond.codeWith (⟨"ContentLibraryLaw", "sweep", "(LContentLibrary;[J)I"⟩ : MethodName) method_12_code 3 (some .int) [(0, 8, 11, 13)] ∈ x_big := x_bt 618 (by decide +kernel) (by decide +kernel)
theorem t_623 : Cond.methodLink "ContentLibraryLaw" 112 (⟨"ContentLibraryLaw", "fuse", "(LContentLibrary;I[J)I"⟩ : MethodName) ∈ x_big := x_bt 623 (by decide +kernel) (by decide +kernel)
theorem t_624 : Cond.static (⟨"ContentLibraryLaw", "fuse", "(LContentLibrary;I[J)I"⟩ : MethodName) ∈ x_big := x_bt 624 (by decide +kernel) (by decide +kernel)
theorem t_625 : Cond.codeWith (⟨"ContentLibraryLaw", "fuse", "(LContentLibrary;I[J)I"⟩ : MethodName) method_13_code 4 (some .int) [(0, 9, 12, 13), (0, 9, 15, 15)] ∈ x_big := x_bt 625 (by decide +kernel) (by decide +kernel)
theorem t_873 : Cond.methodLink "ContentLibraryLaw" 107 (⟨"ContentLibraryModel", "drop", "(I)I"⟩ : MethodName) ∈ x_big := x_bt 873 (by decide +kernel) (by decide +kernel)
theorem t_874 : Cond.instanceMethod (⟨"ContentLibraryModel", "drop", "(I)I"⟩ : MethodName) ∈ x_big := x_bt 874 (by decide +kernel) (by decide +kernel)
theorem t_875 : Cond.selects "ContentLibraryModel" (⟨"ContentLibraryModel", "drop", "(I)I"⟩ : MethodName) (⟨"ContentLibraryModel", "drop", "(I)I"⟩ : MethodName) ∈ x_big := x_bt 875 (by decide +kernel) (by decide +kernel)
theorem t_876 : Cond.code (⟨"ContentLibraryModel", "drop", "(I)I"⟩ : MethodName) prog_7_method_33_code 3 (some .int) ∈ x_big := x_bt 876 (by decide +kernel) (by decide +kernel)
theorem t_877 : Cond.methodLink "ContentLibraryLaw" 111 (⟨"ContentLibraryModel", "sweep", "()I"⟩ : MethodName) ∈ x_big := x_bt 877 (by decide +kernel) (by decide +kernel)
theorem t_878 : Cond.instanceMethod (⟨"ContentLibraryModel", "sweep", "()I"⟩ : MethodName) ∈ x_big := x_bt 878 (by decide +kernel) (by decide +kernel)
theorem t_879 : Cond.selects "ContentLibraryModel" (⟨"ContentLibraryModel", "sweep", "()I"⟩ : MethodName) (⟨"ContentLibraryModel", "sweep", "()I"⟩ : MethodName) ∈ x_big := x_bt 879 (by decide +kernel) (by decide +kernel)
theorem t_880 : Cond.code (⟨"ContentLibraryModel", "sweep", "()I"⟩ : MethodName) prog_7_method_34_code 3 (some .int) ∈ x_big := x_bt 880 (by decide +kernel) (by decide +kernel)
theorem t_881 : Cond.methodLink "ContentLibraryLaw" 114 (⟨"ContentLibraryModel", "fuse", "(I)I"⟩ : MethodName) ∈ x_big := x_bt 881 (by decide +kernel) (by decide +kernel)
theorem t_882 : Cond.instanceMethod (⟨"ContentLibraryModel", "fuse", "(I)I"⟩ : MethodName) ∈ x_big := x_bt 882 (by decide +kernel) (by decide +kernel)
theorem t_883 : Cond.selects "ContentLibraryModel" (⟨"ContentLibraryModel", "fuse", "(I)I"⟩ : MethodName) (⟨"ContentLibraryModel", "fuse", "(I)I"⟩ : MethodName) ∈ x_big := x_bt 883 (by decide +kernel) (by decide +kernel)
theorem t_884 : Cond.code (⟨"ContentLibraryModel", "fuse", "(I)I"⟩ : MethodName) prog_7_method_35_code 3 (some .int) ∈ x_big := x_bt 884 (by decide +kernel) (by decide +kernel)
theorem t_885 : Cond.methodLink "ContentLibraryLaw" 118 (⟨"ContentLibraryModel", "reopen", "()I"⟩ : MethodName) ∈ x_big := x_bt 885 (by decide +kernel) (by decide +kernel)
theorem t_886 : Cond.instanceMethod (⟨"ContentLibraryModel", "reopen", "()I"⟩ : MethodName) ∈ x_big := x_bt 886 (by decide +kernel) (by decide +kernel)
theorem t_887 : Cond.selects "ContentLibraryModel" (⟨"ContentLibraryModel", "reopen", "()I"⟩ : MethodName) (⟨"ContentLibraryModel", "reopen", "()I"⟩ : MethodName) ∈ x_big := x_bt 887 (by decide +kernel) (by decide +kernel)
theorem t_888 : Cond.code (⟨"ContentLibraryModel", "reopen", "()I"⟩ : MethodName) prog_7_method_39_code 3 (some .int) ∈ x_big := x_bt 888 (by decide +kernel) (by decide +kernel)
theorem d_L_law_683 : decode code 683 = .ok (.aload_n 1, 1) := by decide +kernel
theorem d_L_law_684 : decode code 684 = .ok (.aload_n 0, 1) := by decide +kernel
theorem d_L_law_685 : decode code 685 = .ok (.iload 4, 2) := by decide +kernel
theorem d_L_law_687 : decode code 687 = .ok (.iconst 1, 1) := by decide +kernel
theorem d_L_law_688 : decode code 688 = .ok (.iadd, 1) := by decide +kernel
theorem d_L_law_689 : decode code 689 = .ok (.iaload, 1) := by decide +kernel
theorem d_L_law_690 : decode code 690 = .ok (.aload_n 3, 1) := by decide +kernel
theorem d_L_law_691 : decode code 691 = .ok (.invokestatic 105, 3) := by decide +kernel
theorem d_L_law_694 : decode code 694 = .ok (.istore 5, 2) := by decide +kernel
theorem d_L_law_696 : decode code 696 = .ok (.aload_n 2, 1) := by decide +kernel
theorem d_L_law_697 : decode code 697 = .ok (.aload_n 0, 1) := by decide +kernel
theorem d_L_law_698 : decode code 698 = .ok (.iload 4, 2) := by decide +kernel
theorem d_L_law_700 : decode code 700 = .ok (.iconst 1, 1) := by decide +kernel
theorem d_L_law_701 : decode code 701 = .ok (.iadd, 1) := by decide +kernel
theorem d_L_law_702 : decode code 702 = .ok (.iaload, 1) := by decide +kernel
theorem d_L_law_703 : decode code 703 = .ok (.invokevirtual 107, 3) := by decide +kernel
theorem d_L_law_706 : decode code 706 = .ok (.istore 6, 2) := by decide +kernel
theorem d_L_law_708 : decode code 708 = .ok (.aload_n 2, 1) := by decide +kernel
theorem d_L_law_709 : decode code 709 = .ok (.invokevirtual 78, 3) := by decide +kernel
theorem d_L_law_712 : decode code 712 = .ok (.iload 5, 2) := by decide +kernel
theorem d_L_law_714 : decode code 714 = .ok (.if_icmp .eq 5, 3) := by decide +kernel
theorem d_L_law_719 : decode code 719 = .ok (.iload 5, 2) := by decide +kernel
theorem d_L_law_721 : decode code 721 = .ok (.ifCond .ne 15, 3) := by decide +kernel
theorem d_L_law_736 : decode code 736 = .ok (.goto 302, 3) := by decide +kernel
theorem d_L_law_724 : decode code 724 = .ok (.aload_n 3, 1) := by decide +kernel
theorem d_L_law_725 : decode code 725 = .ok (.iconst 0, 1) := by decide +kernel
theorem d_L_law_726 : decode code 726 = .ok (.laload, 1) := by decide +kernel
theorem d_L_law_727 : decode code 727 = .ok (.iload 6, 2) := by decide +kernel
theorem d_L_law_729 : decode code 729 = .ok (.i2l, 1) := by decide +kernel
theorem d_L_law_730 : decode code 730 = .ok (.lcmp, 1) := by decide +kernel
theorem d_L_law_731 : decode code 731 = .ok (.ifCond .eq 5, 3) := by decide +kernel
theorem d_L_law_739 : decode code 739 = .ok (.aload_n 1, 1) := by decide +kernel
theorem d_L_law_740 : decode code 740 = .ok (.aload_n 3, 1) := by decide +kernel
theorem d_L_law_741 : decode code 741 = .ok (.invokestatic 108, 3) := by decide +kernel
theorem d_L_law_744 : decode code 744 = .ok (.istore 5, 2) := by decide +kernel
theorem d_L_law_746 : decode code 746 = .ok (.aload_n 2, 1) := by decide +kernel
theorem d_L_law_747 : decode code 747 = .ok (.invokevirtual 111, 3) := by decide +kernel
theorem d_L_law_750 : decode code 750 = .ok (.istore 6, 2) := by decide +kernel
theorem d_L_law_752 : decode code 752 = .ok (.aload_n 2, 1) := by decide +kernel
theorem d_L_law_753 : decode code 753 = .ok (.invokevirtual 78, 3) := by decide +kernel
theorem d_L_law_756 : decode code 756 = .ok (.iload 5, 2) := by decide +kernel
theorem d_L_law_758 : decode code 758 = .ok (.if_icmp .eq 5, 3) := by decide +kernel
theorem d_L_law_763 : decode code 763 = .ok (.iload 5, 2) := by decide +kernel
theorem d_L_law_765 : decode code 765 = .ok (.ifCond .ne 15, 3) := by decide +kernel
theorem d_L_law_780 : decode code 780 = .ok (.goto 258, 3) := by decide +kernel
theorem d_L_law_768 : decode code 768 = .ok (.aload_n 3, 1) := by decide +kernel
theorem d_L_law_769 : decode code 769 = .ok (.iconst 0, 1) := by decide +kernel
theorem d_L_law_770 : decode code 770 = .ok (.laload, 1) := by decide +kernel
theorem d_L_law_771 : decode code 771 = .ok (.iload 6, 2) := by decide +kernel
theorem d_L_law_773 : decode code 773 = .ok (.i2l, 1) := by decide +kernel
theorem d_L_law_774 : decode code 774 = .ok (.lcmp, 1) := by decide +kernel
theorem d_L_law_775 : decode code 775 = .ok (.ifCond .eq 5, 3) := by decide +kernel
theorem d_L_law_783 : decode code 783 = .ok (.aload_n 1, 1) := by decide +kernel
theorem d_L_law_784 : decode code 784 = .ok (.aload_n 0, 1) := by decide +kernel
theorem d_L_law_785 : decode code 785 = .ok (.iload 4, 2) := by decide +kernel
theorem d_L_law_787 : decode code 787 = .ok (.iconst 1, 1) := by decide +kernel
theorem d_L_law_788 : decode code 788 = .ok (.iadd, 1) := by decide +kernel
theorem d_L_law_789 : decode code 789 = .ok (.iaload, 1) := by decide +kernel
theorem d_L_law_790 : decode code 790 = .ok (.aload_n 3, 1) := by decide +kernel
theorem d_L_law_791 : decode code 791 = .ok (.invokestatic 112, 3) := by decide +kernel
theorem d_L_law_794 : decode code 794 = .ok (.istore 5, 2) := by decide +kernel
theorem d_L_law_796 : decode code 796 = .ok (.aload_n 2, 1) := by decide +kernel
theorem d_L_law_797 : decode code 797 = .ok (.aload_n 0, 1) := by decide +kernel
theorem d_L_law_798 : decode code 798 = .ok (.iload 4, 2) := by decide +kernel
theorem d_L_law_800 : decode code 800 = .ok (.iconst 1, 1) := by decide +kernel
theorem d_L_law_801 : decode code 801 = .ok (.iadd, 1) := by decide +kernel
theorem d_L_law_802 : decode code 802 = .ok (.iaload, 1) := by decide +kernel
theorem d_L_law_803 : decode code 803 = .ok (.invokevirtual 114, 3) := by decide +kernel
theorem d_L_law_806 : decode code 806 = .ok (.istore 6, 2) := by decide +kernel
theorem d_L_law_808 : decode code 808 = .ok (.aload_n 2, 1) := by decide +kernel
theorem d_L_law_809 : decode code 809 = .ok (.invokevirtual 78, 3) := by decide +kernel
theorem d_L_law_812 : decode code 812 = .ok (.iload 5, 2) := by decide +kernel
theorem d_L_law_814 : decode code 814 = .ok (.if_icmp .eq 5, 3) := by decide +kernel
theorem d_L_law_819 : decode code 819 = .ok (.iload 5, 2) := by decide +kernel
theorem d_L_law_821 : decode code 821 = .ok (.ifCond .ne 15, 3) := by decide +kernel
theorem d_L_law_836 : decode code 836 = .ok (.goto 202, 3) := by decide +kernel
theorem d_L_law_824 : decode code 824 = .ok (.aload_n 3, 1) := by decide +kernel
theorem d_L_law_825 : decode code 825 = .ok (.iconst 0, 1) := by decide +kernel
theorem d_L_law_826 : decode code 826 = .ok (.laload, 1) := by decide +kernel
theorem d_L_law_827 : decode code 827 = .ok (.iload 6, 2) := by decide +kernel
theorem d_L_law_829 : decode code 829 = .ok (.i2l, 1) := by decide +kernel
theorem d_L_law_830 : decode code 830 = .ok (.lcmp, 1) := by decide +kernel
theorem d_L_law_831 : decode code 831 = .ok (.ifCond .eq 5, 3) := by decide +kernel
theorem d_L_law_839 : decode code 839 = .ok (.aload_n 1, 1) := by decide +kernel
theorem d_L_law_840 : decode code 840 = .ok (.invokevirtual 115, 3) := by decide +kernel
theorem d_L_law_843 : decode code 843 = .ok (.aload_n 2, 1) := by decide +kernel
theorem d_L_law_844 : decode code 844 = .ok (.invokevirtual 118, 3) := by decide +kernel
theorem d_L_law_847 : decode code 847 = .ok (.if_icmp .eq 191, 3) := by decide +kernel
set_option maxHeartbeats 4000000 in
set_option maxRecDepth 100000 in
theorem l_case_8 {p : Program} {e : Env} {s : State} {m : MethodId} {below : List Frame} {meth : Method} {c : Code} (l : Launch) {b L : Nat} {xs : Nat → Int32} (hL6 : L = 6) (C0 : lw_At p s m meth c b L xs) (G : x_G) (hs0 : x_s0 G = s.heap.size) (hl9 : l.stackTraces = false) (n : Nat) (hn : n ≤ 40) (hK : va_K (x_D G) vwCl (x_ty G) s) (hG : x_GV G s s.heap) (ax am : Nat → Nat) (zm : x_St) (hm : m_fr n zm) (H : Heap) (locs : List Loc) (ls : Array Slot) (hP : va_P (x_D G) vwCl (x_Wd (g_X G ax am n zm) (x_z0 n)) H) (hD : va_D (x_A G) (x_Wd (g_X G ax am n zm) (x_z0 n))) (hS : va_S (x_A G) s.heap H locs) (hl : lv_has ls 8 [(0, .ref b), (1, .ref (ax 0)), (2, .ref (am 0)), (3, .ref (ax 110)), (4, .int (1 : Int32))]) : W p l e room_1 s m #[Value.ref b] below meth c H locs 137 9525 (lw_Z below #[Value.ref b] s) (F0 m 683 ls []) := by
  obtain ⟨hx, hb, hr, hml, hown, hts9, hX, hbl, hlocks, hgv⟩ := id C0
  have hown : s.vm.findClass "ContentLibraryLaw" = some m.cls := hown
  have hts : ∀ w ∈ x_big, w.before #[Value.ref b] s = true := fun w h => hts9 w (x_bg h).1
  have hbA : ¬ x_A G b := fun h => absurd (show x_s0 G ≤ b from h) (by omega)
  have hz : x_s0 G ≤ s.heap.size := Nat.le_of_eq hs0
  have hG1 : ∀ (ad : Nat → Nat) (n : Nat) (rs : va_W), x_GV (x_mk G ad n rs) s s.heap := fun _ _ _ => hG
  refine lv_aload_n hx hb d_L_law_683 rfl (lv_at hl 1 rfl) ?_
  refine lv_aload_n hx hb d_L_law_684 rfl (lv_at hl 0 rfl) ?_
  refine lv_iload hx hb d_L_law_685 (lv_at hl 4 rfl) ?_
  refine lv_iconst (v := (1 : Int32)) hx hb d_L_law_687 (by decide) ?_
  refine lv_iadd hx hb d_L_law_688 ?_
  refine va_sld hx hb hX hbl hbA hS (i := ((1 : Int32) + (1 : Int32))) (by rw [hL6]; exact v_d (by decide)) d_L_law_689 ?_
  refine lv_aload_n hx hb d_L_law_690 rfl (lv_at hl 3 rfl) ?_
  obtain ⟨r1, z1, b1, zm1, hq1, hq2, hth, hout⟩ := v_drop (x_fr0 n) hm (xs (((1 : Int32) + (1 : Int32))).toNatClampNeg)
  refine va_calli (e_runSW (n := 3) (As := [.ref (ax 0), .int (xs (((1 : Int32) + (1 : Int32))).toNatClampNeg), .ref (ax 110)]) (rest := []) ⟨hx, hb, hml, hown, hts⟩ (fun _ h => h) (c_L_drop l (g_X G ax am n zm) hl9 (xs (((1 : Int32) + (1 : Int32))).toNatClampNeg) (x_z0 n) r1 z1 hq1) t_609 t_610 t_0 t_611 rfl rfl ⟨by decide, by decide, by decide +kernel⟩ ⟨Nat.le_of_ble_eq_true rfl, Nat.le_of_ble_eq_true rfl⟩ ⟨x_blind _ _ _, fun U hU hW => ⟨rfl, x_pw hP hD hK (hG1 _ _ _) hS hz hU hW⟩⟩ rfl rfl hl.1 rfl (lv_room (Nat.le_of_ble_eq_true rfl)) d_L_law_691 ⟨Nat.le_of_ble_eq_true rfl, Nat.le_of_ble_eq_true rfl⟩) hS (fun q _ h => h) (fun q h => h) (fun ra u t H locs ht hvm hw hB _ _ hS => ?_)
  obtain ⟨rfl, rfl⟩ := hw
  obtain ⟨hP, hD⟩ := x_back hB ht
  refine lv_istore (lv' := [(5, .int r1), (0, .ref b), (1, .ref (ax 0)), (2, .ref (am 0)), (3, .ref (ax 110)), (4, .int (1 : Int32))]) hx hb d_L_law_694 hl (by decide) rfl (fun ls hl => ?_)
  refine lv_aload_n hx hb d_L_law_696 rfl (lv_at hl 3 rfl) ?_
  refine lv_aload_n hx hb d_L_law_697 rfl (lv_at hl 1 rfl) ?_
  refine lv_iload hx hb d_L_law_698 (lv_at hl 5 rfl) ?_
  refine lv_iconst (v := (1 : Int32)) hx hb d_L_law_700 (by decide) ?_
  refine lv_iadd hx hb d_L_law_701 ?_
  refine va_sld hx hb hX hbl hbA hS (i := ((1 : Int32) + (1 : Int32))) (by rw [hL6]; exact v_d (by decide)) d_L_law_702 ?_
  obtain ⟨hP, hD⟩ := l_toM hP hD
  refine va_calli (va_runV (As := [.int (xs (((1 : Int32) + (1 : Int32))).toNatClampNeg)]) (rest := []) ⟨hx, hb, hml, hown, hts⟩ (c_M_drop l (g_M G ax am n z1) (xs (((1 : Int32) + (1 : Int32))).toNatClampNeg) zm b1 zm1 hq2) (cwV 1 hts (x_gV t_873 t_874 t_875 t_7 t_876) rfl rfl rfl (by decide +kernel) ⟨Nat.le_of_ble_eq_true rfl, Nat.le_of_ble_eq_true rfl⟩) ⟨m_blind _ _ _, va_recv hK hP (ci := 5) (q0 := 0) rfl (m_lk_M (g_M G ax am n z1) _), fun U hU hW => ⟨rfl, m_pw hP hD hK trivial hS hz hU hW⟩⟩ rfl rfl hl.1 rfl (lv_room (Nat.le_of_ble_eq_true rfl)) d_L_law_703 ⟨Nat.le_of_ble_eq_true rfl, Nat.le_of_ble_eq_true rfl⟩) hS (fun q _ h => h) (fun q h => h) (fun ra u t H locs ht hvm hw hB _ _ hS => ?_)
  obtain ⟨rfl, rfl⟩ := hw
  obtain ⟨hP, hD⟩ := m_back hB ht
  refine lv_istore (lv' := [(6, .int b1), (5, .int r1), (0, .ref b), (1, .ref (ax 0)), (2, .ref (am 0)), (3, .ref (ax 110)), (4, .int (1 : Int32))]) hx hb d_L_law_706 hl (by decide) rfl (fun ls hl => ?_)
  refine lv_aload_n hx hb d_L_law_708 rfl (lv_at hl 4 rfl) ?_
  refine va_calli (va_runV (As := []) (rest := []) ⟨hx, hb, hml, hown, hts⟩ (c_M_thrown l (g_M G ax am n z1) zm1 (zm1.1 0 0) zm1 rfl) (cwV 0 hts (x_gV t_767 t_768 t_769 t_7 t_770) rfl rfl rfl (by decide +kernel) ⟨Nat.le_of_ble_eq_true rfl, Nat.le_of_ble_eq_true rfl⟩) ⟨m_blind _ _ _, va_recv hK hP (ci := 5) (q0 := 0) rfl (m_lk_M (g_M G ax am n z1) _), fun U hU hW => ⟨rfl, m_pw hP hD hK trivial hS hz hU hW⟩⟩ rfl rfl hl.1 rfl (lv_room (Nat.le_of_ble_eq_true rfl)) d_L_law_709 ⟨Nat.le_of_ble_eq_true rfl, Nat.le_of_ble_eq_true rfl⟩) hS (fun q _ h => h) (fun q h => h) (fun ra u t H locs ht hvm hw hB _ _ hS => ?_)
  obtain ⟨hw1, hw2⟩ := hw
  subst hw1
  rw [← hw2] at hB
  obtain ⟨hP, hD⟩ := m_back hB ht
  refine lv_iload hx hb d_L_law_712 (lv_at hl 1 rfl) ?_
  refine lv_icmp_eq (tgt := 719) hx hb d_L_law_714 (by decide) (fun _ => ?_) (fun hc => absurd hth hc)
  refine lv_iload hx hb d_L_law_719 (lv_at hl 1 rfl) ?_
  refine lv_if_ne (tgt := 736) hx hb d_L_law_721 (by decide) (fun _ => ?_) (fun hc0 => ?_)
  · refine lv_goto (tgt := 1038) hx hb d_L_law_736 (by decide) ?_
    refine W.widen (k := 600) (n := 20000) (Nat.le_of_ble_eq_true rfl) (Nat.le_of_ble_eq_true rfl) ?_
    exact l_tail l hL6 C0 G hs0 _ _ _ hS (lv_sub hl [2, 6] rfl)
  · refine lv_aload_n hx hb d_L_law_724 rfl (lv_at hl 5 rfl) ?_
    refine lv_iconst (v := (0 : Int32)) hx hb d_L_law_725 (by decide) ?_
    obtain ⟨hP, hD⟩ := l_toX hP hD
    refine va_lald hx hb hK hP 110 4 (x_lk_O (g_X G ax am n zm1) _) rfl (i := (0 : Int32)) (v_d (by decide)) d_L_law_726 ?_
    refine lv_iload hx hb d_L_law_727 (lv_at hl 0 rfl) ?_
    refine lv_i2l (v := (b1).toInt64) hx hb d_L_law_729 rfl ?_
    refine W.lcmp hx hb d_L_law_730 ?_
    refine lv_if_eq (tgt := 736) hx hb d_L_law_731 (by decide) (fun _ => ?_) (fun hc => absurd (l_cmp (hout hc0)) hc)
    refine lv_goto (tgt := 1038) hx hb d_L_law_736 (by decide) ?_
    refine W.widen (k := 600) (n := 20000) (Nat.le_of_ble_eq_true rfl) (Nat.le_of_ble_eq_true rfl) ?_
    exact l_tail l hL6 C0 G hs0 _ _ _ hS (lv_sub hl [2, 6] rfl)
set_option maxHeartbeats 4000000 in
set_option maxRecDepth 100000 in
theorem l_case_9 {p : Program} {e : Env} {s : State} {m : MethodId} {below : List Frame} {meth : Method} {c : Code} (l : Launch) {b L : Nat} {xs : Nat → Int32} (hL6 : L = 6) (C0 : lw_At p s m meth c b L xs) (G : x_G) (hs0 : x_s0 G = s.heap.size) (hl9 : l.stackTraces = false) (n : Nat) (hn : n ≤ 40) (hK : va_K (x_D G) vwCl (x_ty G) s) (hG : x_GV G s s.heap) (ax am : Nat → Nat) (zm : x_St) (hm : m_fr n zm) (H : Heap) (locs : List Loc) (ls : Array Slot) (hP : va_P (x_D G) vwCl (x_Wd (g_X G ax am n zm) (x_z0 n)) H) (hD : va_D (x_A G) (x_Wd (g_X G ax am n zm) (x_z0 n))) (hS : va_S (x_A G) s.heap H locs) (hl : lv_has ls 8 [(0, .ref b), (1, .ref (ax 0)), (2, .ref (am 0)), (3, .ref (ax 110)), (4, .int (1 : Int32))]) : W p l e room_1 s m #[Value.ref b] below meth c H locs 137 9525 (lw_Z below #[Value.ref b] s) (F0 m 739 ls []) := by
  obtain ⟨hx, hb, hr, hml, hown, hts9, hX, hbl, hlocks, hgv⟩ := id C0
  have hown : s.vm.findClass "ContentLibraryLaw" = some m.cls := hown
  have hts : ∀ w ∈ x_big, w.before #[Value.ref b] s = true := fun w h => hts9 w (x_bg h).1
  have hbA : ¬ x_A G b := fun h => absurd (show x_s0 G ≤ b from h) (by omega)
  have hz : x_s0 G ≤ s.heap.size := Nat.le_of_eq hs0
  have hG1 : ∀ (ad : Nat → Nat) (n : Nat) (rs : va_W), x_GV (x_mk G ad n rs) s s.heap := fun _ _ _ => hG
  refine lv_aload_n hx hb d_L_law_739 rfl (lv_at hl 1 rfl) ?_
  refine lv_aload_n hx hb d_L_law_740 rfl (lv_at hl 3 rfl) ?_
  obtain ⟨r1, z1, b1, zm1, hq1, hq2, hth, hout⟩ := v_sweep (x_fr0 n) hm hn
  refine va_calli (e_runSW (n := 2) (As := [.ref (ax 0), .ref (ax 110)]) (rest := []) ⟨hx, hb, hml, hown, hts⟩ (fun _ h => h) (c_L_sweep l (g_X G ax am n zm) hl9 (x_z0 n) r1 z1 hq1) t_616 t_617 t_0 t_618 rfl rfl ⟨by decide, by decide, by decide +kernel⟩ ⟨Nat.le_of_ble_eq_true rfl, Nat.le_of_ble_eq_true rfl⟩ ⟨x_blind _ _ _, fun U hU hW => ⟨rfl, x_pw hP hD hK (hG1 _ _ _) hS hz hU hW⟩⟩ rfl rfl hl.1 rfl (lv_room (Nat.le_of_ble_eq_true rfl)) d_L_law_741 ⟨Nat.le_of_ble_eq_true rfl, Nat.le_of_ble_eq_true rfl⟩) hS (fun q _ h => h) (fun q h => h) (fun ra u t H locs ht hvm hw hB _ _ hS => ?_)
  obtain ⟨rfl, rfl⟩ := hw
  obtain ⟨hP, hD⟩ := x_back hB ht
  refine lv_istore (lv' := [(5, .int r1), (0, .ref b), (1, .ref (ax 0)), (2, .ref (am 0)), (3, .ref (ax 110)), (4, .int (1 : Int32))]) hx hb d_L_law_744 hl (by decide) rfl (fun ls hl => ?_)
  refine lv_aload_n hx hb d_L_law_746 rfl (lv_at hl 3 rfl) ?_
  obtain ⟨hP, hD⟩ := l_toM hP hD
  refine va_calli (va_runV (As := []) (rest := []) ⟨hx, hb, hml, hown, hts⟩ (c_M_sweep l (g_M G ax am n z1) zm b1 zm1 hq2) (cwV 0 hts (x_gV t_877 t_878 t_879 t_7 t_880) rfl rfl rfl (by decide +kernel) ⟨Nat.le_of_ble_eq_true rfl, Nat.le_of_ble_eq_true rfl⟩) ⟨m_blind _ _ _, va_recv hK hP (ci := 5) (q0 := 0) rfl (m_lk_M (g_M G ax am n z1) _), fun U hU hW => ⟨rfl, m_pw hP hD hK trivial hS hz hU hW⟩⟩ rfl rfl hl.1 rfl (lv_room (Nat.le_of_ble_eq_true rfl)) d_L_law_747 ⟨Nat.le_of_ble_eq_true rfl, Nat.le_of_ble_eq_true rfl⟩) hS (fun q _ h => h) (fun q h => h) (fun ra u t H locs ht hvm hw hB _ _ hS => ?_)
  obtain ⟨rfl, rfl⟩ := hw
  obtain ⟨hP, hD⟩ := m_back hB ht
  refine lv_istore (lv' := [(6, .int b1), (5, .int r1), (0, .ref b), (1, .ref (ax 0)), (2, .ref (am 0)), (3, .ref (ax 110)), (4, .int (1 : Int32))]) hx hb d_L_law_750 hl (by decide) rfl (fun ls hl => ?_)
  refine lv_aload_n hx hb d_L_law_752 rfl (lv_at hl 4 rfl) ?_
  refine va_calli (va_runV (As := []) (rest := []) ⟨hx, hb, hml, hown, hts⟩ (c_M_thrown l (g_M G ax am n z1) zm1 (zm1.1 0 0) zm1 rfl) (cwV 0 hts (x_gV t_767 t_768 t_769 t_7 t_770) rfl rfl rfl (by decide +kernel) ⟨Nat.le_of_ble_eq_true rfl, Nat.le_of_ble_eq_true rfl⟩) ⟨m_blind _ _ _, va_recv hK hP (ci := 5) (q0 := 0) rfl (m_lk_M (g_M G ax am n z1) _), fun U hU hW => ⟨rfl, m_pw hP hD hK trivial hS hz hU hW⟩⟩ rfl rfl hl.1 rfl (lv_room (Nat.le_of_ble_eq_true rfl)) d_L_law_753 ⟨Nat.le_of_ble_eq_true rfl, Nat.le_of_ble_eq_true rfl⟩) hS (fun q _ h => h) (fun q h => h) (fun ra u t H locs ht hvm hw hB _ _ hS => ?_)
  obtain ⟨hw1, hw2⟩ := hw
  subst hw1
  rw [← hw2] at hB
  obtain ⟨hP, hD⟩ := m_back hB ht
  refine lv_iload hx hb d_L_law_756 (lv_at hl 1 rfl) ?_
  refine lv_icmp_eq (tgt := 763) hx hb d_L_law_758 (by decide) (fun _ => ?_) (fun hc => absurd hth hc)
  refine lv_iload hx hb d_L_law_763 (lv_at hl 1 rfl) ?_
  refine lv_if_ne (tgt := 780) hx hb d_L_law_765 (by decide) (fun _ => ?_) (fun hc0 => ?_)
  · refine lv_goto (tgt := 1038) hx hb d_L_law_780 (by decide) ?_
    refine W.widen (k := 600) (n := 20000) (Nat.le_of_ble_eq_true rfl) (Nat.le_of_ble_eq_true rfl) ?_
    exact l_tail l hL6 C0 G hs0 _ _ _ hS (lv_sub hl [2, 6] rfl)
  · refine lv_aload_n hx hb d_L_law_768 rfl (lv_at hl 5 rfl) ?_
    refine lv_iconst (v := (0 : Int32)) hx hb d_L_law_769 (by decide) ?_
    obtain ⟨hP, hD⟩ := l_toX hP hD
    refine va_lald hx hb hK hP 110 4 (x_lk_O (g_X G ax am n zm1) _) rfl (i := (0 : Int32)) (v_d (by decide)) d_L_law_770 ?_
    refine lv_iload hx hb d_L_law_771 (lv_at hl 0 rfl) ?_
    refine lv_i2l (v := (b1).toInt64) hx hb d_L_law_773 rfl ?_
    refine W.lcmp hx hb d_L_law_774 ?_
    refine lv_if_eq (tgt := 780) hx hb d_L_law_775 (by decide) (fun _ => ?_) (fun hc => absurd (l_cmp (hout hc0)) hc)
    refine lv_goto (tgt := 1038) hx hb d_L_law_780 (by decide) ?_
    refine W.widen (k := 600) (n := 20000) (Nat.le_of_ble_eq_true rfl) (Nat.le_of_ble_eq_true rfl) ?_
    exact l_tail l hL6 C0 G hs0 _ _ _ hS (lv_sub hl [2, 6] rfl)
set_option maxHeartbeats 4000000 in
set_option maxRecDepth 100000 in
theorem l_case_10 {p : Program} {e : Env} {s : State} {m : MethodId} {below : List Frame} {meth : Method} {c : Code} (l : Launch) {b L : Nat} {xs : Nat → Int32} (hL6 : L = 6) (C0 : lw_At p s m meth c b L xs) (G : x_G) (hs0 : x_s0 G = s.heap.size) (hl9 : l.stackTraces = false) (n : Nat) (hn : n ≤ 40) (hK : va_K (x_D G) vwCl (x_ty G) s) (hG : x_GV G s s.heap) (ax am : Nat → Nat) (zm : x_St) (hm : m_fr n zm) (H : Heap) (locs : List Loc) (ls : Array Slot) (hP : va_P (x_D G) vwCl (x_Wd (g_X G ax am n zm) (x_z0 n)) H) (hD : va_D (x_A G) (x_Wd (g_X G ax am n zm) (x_z0 n))) (hS : va_S (x_A G) s.heap H locs) (hl : lv_has ls 8 [(0, .ref b), (1, .ref (ax 0)), (2, .ref (am 0)), (3, .ref (ax 110)), (4, .int (1 : Int32))]) : W p l e room_1 s m #[Value.ref b] below meth c H locs 137 9525 (lw_Z below #[Value.ref b] s) (F0 m 783 ls []) := by
  obtain ⟨hx, hb, hr, hml, hown, hts9, hX, hbl, hlocks, hgv⟩ := id C0
  have hown : s.vm.findClass "ContentLibraryLaw" = some m.cls := hown
  have hts : ∀ w ∈ x_big, w.before #[Value.ref b] s = true := fun w h => hts9 w (x_bg h).1
  have hbA : ¬ x_A G b := fun h => absurd (show x_s0 G ≤ b from h) (by omega)
  have hz : x_s0 G ≤ s.heap.size := Nat.le_of_eq hs0
  have hG1 : ∀ (ad : Nat → Nat) (n : Nat) (rs : va_W), x_GV (x_mk G ad n rs) s s.heap := fun _ _ _ => hG
  refine lv_aload_n hx hb d_L_law_783 rfl (lv_at hl 1 rfl) ?_
  refine lv_aload_n hx hb d_L_law_784 rfl (lv_at hl 0 rfl) ?_
  refine lv_iload hx hb d_L_law_785 (lv_at hl 4 rfl) ?_
  refine lv_iconst (v := (1 : Int32)) hx hb d_L_law_787 (by decide) ?_
  refine lv_iadd hx hb d_L_law_788 ?_
  refine va_sld hx hb hX hbl hbA hS (i := ((1 : Int32) + (1 : Int32))) (by rw [hL6]; exact v_d (by decide)) d_L_law_789 ?_
  refine lv_aload_n hx hb d_L_law_790 rfl (lv_at hl 3 rfl) ?_
  obtain ⟨r1, z1, b1, zm1, hq1, hq2, hth, hout⟩ := v_fuse (x_fr0 n) hm (xs (((1 : Int32) + (1 : Int32))).toNatClampNeg)
  refine va_calli (e_runSW (n := 3) (As := [.ref (ax 0), .int (xs (((1 : Int32) + (1 : Int32))).toNatClampNeg), .ref (ax 110)]) (rest := []) ⟨hx, hb, hml, hown, hts⟩ (fun _ h => h) (c_L_fuse l (g_X G ax am n zm) hl9 (xs (((1 : Int32) + (1 : Int32))).toNatClampNeg) (x_z0 n) r1 z1 hq1) t_623 t_624 t_0 t_625 rfl rfl ⟨by decide, by decide, by decide +kernel⟩ ⟨Nat.le_of_ble_eq_true rfl, Nat.le_of_ble_eq_true rfl⟩ ⟨x_blind _ _ _, fun U hU hW => ⟨rfl, x_pw hP hD hK (hG1 _ _ _) hS hz hU hW⟩⟩ rfl rfl hl.1 rfl (lv_room (Nat.le_of_ble_eq_true rfl)) d_L_law_791 ⟨Nat.le_of_ble_eq_true rfl, Nat.le_of_ble_eq_true rfl⟩) hS (fun q _ h => h) (fun q h => h) (fun ra u t H locs ht hvm hw hB _ _ hS => ?_)
  obtain ⟨rfl, rfl⟩ := hw
  obtain ⟨hP, hD⟩ := x_back hB ht
  refine lv_istore (lv' := [(5, .int r1), (0, .ref b), (1, .ref (ax 0)), (2, .ref (am 0)), (3, .ref (ax 110)), (4, .int (1 : Int32))]) hx hb d_L_law_794 hl (by decide) rfl (fun ls hl => ?_)
  refine lv_aload_n hx hb d_L_law_796 rfl (lv_at hl 3 rfl) ?_
  refine lv_aload_n hx hb d_L_law_797 rfl (lv_at hl 1 rfl) ?_
  refine lv_iload hx hb d_L_law_798 (lv_at hl 5 rfl) ?_
  refine lv_iconst (v := (1 : Int32)) hx hb d_L_law_800 (by decide) ?_
  refine lv_iadd hx hb d_L_law_801 ?_
  refine va_sld hx hb hX hbl hbA hS (i := ((1 : Int32) + (1 : Int32))) (by rw [hL6]; exact v_d (by decide)) d_L_law_802 ?_
  obtain ⟨hP, hD⟩ := l_toM hP hD
  refine va_calli (va_runV (As := [.int (xs (((1 : Int32) + (1 : Int32))).toNatClampNeg)]) (rest := []) ⟨hx, hb, hml, hown, hts⟩ (c_M_fuse l (g_M G ax am n z1) (xs (((1 : Int32) + (1 : Int32))).toNatClampNeg) zm b1 zm1 hq2) (cwV 1 hts (x_gV t_881 t_882 t_883 t_7 t_884) rfl rfl rfl (by decide +kernel) ⟨Nat.le_of_ble_eq_true rfl, Nat.le_of_ble_eq_true rfl⟩) ⟨m_blind _ _ _, va_recv hK hP (ci := 5) (q0 := 0) rfl (m_lk_M (g_M G ax am n z1) _), fun U hU hW => ⟨rfl, m_pw hP hD hK trivial hS hz hU hW⟩⟩ rfl rfl hl.1 rfl (lv_room (Nat.le_of_ble_eq_true rfl)) d_L_law_803 ⟨Nat.le_of_ble_eq_true rfl, Nat.le_of_ble_eq_true rfl⟩) hS (fun q _ h => h) (fun q h => h) (fun ra u t H locs ht hvm hw hB _ _ hS => ?_)
  obtain ⟨rfl, rfl⟩ := hw
  obtain ⟨hP, hD⟩ := m_back hB ht
  refine lv_istore (lv' := [(6, .int b1), (5, .int r1), (0, .ref b), (1, .ref (ax 0)), (2, .ref (am 0)), (3, .ref (ax 110)), (4, .int (1 : Int32))]) hx hb d_L_law_806 hl (by decide) rfl (fun ls hl => ?_)
  refine lv_aload_n hx hb d_L_law_808 rfl (lv_at hl 4 rfl) ?_
  refine va_calli (va_runV (As := []) (rest := []) ⟨hx, hb, hml, hown, hts⟩ (c_M_thrown l (g_M G ax am n z1) zm1 (zm1.1 0 0) zm1 rfl) (cwV 0 hts (x_gV t_767 t_768 t_769 t_7 t_770) rfl rfl rfl (by decide +kernel) ⟨Nat.le_of_ble_eq_true rfl, Nat.le_of_ble_eq_true rfl⟩) ⟨m_blind _ _ _, va_recv hK hP (ci := 5) (q0 := 0) rfl (m_lk_M (g_M G ax am n z1) _), fun U hU hW => ⟨rfl, m_pw hP hD hK trivial hS hz hU hW⟩⟩ rfl rfl hl.1 rfl (lv_room (Nat.le_of_ble_eq_true rfl)) d_L_law_809 ⟨Nat.le_of_ble_eq_true rfl, Nat.le_of_ble_eq_true rfl⟩) hS (fun q _ h => h) (fun q h => h) (fun ra u t H locs ht hvm hw hB _ _ hS => ?_)
  obtain ⟨hw1, hw2⟩ := hw
  subst hw1
  rw [← hw2] at hB
  obtain ⟨hP, hD⟩ := m_back hB ht
  refine lv_iload hx hb d_L_law_812 (lv_at hl 1 rfl) ?_
  refine lv_icmp_eq (tgt := 819) hx hb d_L_law_814 (by decide) (fun _ => ?_) (fun hc => absurd hth hc)
  refine lv_iload hx hb d_L_law_819 (lv_at hl 1 rfl) ?_
  refine lv_if_ne (tgt := 836) hx hb d_L_law_821 (by decide) (fun _ => ?_) (fun hc0 => ?_)
  · refine lv_goto (tgt := 1038) hx hb d_L_law_836 (by decide) ?_
    refine W.widen (k := 600) (n := 20000) (Nat.le_of_ble_eq_true rfl) (Nat.le_of_ble_eq_true rfl) ?_
    exact l_tail l hL6 C0 G hs0 _ _ _ hS (lv_sub hl [2, 6] rfl)
  · refine lv_aload_n hx hb d_L_law_824 rfl (lv_at hl 5 rfl) ?_
    refine lv_iconst (v := (0 : Int32)) hx hb d_L_law_825 (by decide) ?_
    obtain ⟨hP, hD⟩ := l_toX hP hD
    refine va_lald hx hb hK hP 110 4 (x_lk_O (g_X G ax am n zm1) _) rfl (i := (0 : Int32)) (v_d (by decide)) d_L_law_826 ?_
    refine lv_iload hx hb d_L_law_827 (lv_at hl 0 rfl) ?_
    refine lv_i2l (v := (b1).toInt64) hx hb d_L_law_829 rfl ?_
    refine W.lcmp hx hb d_L_law_830 ?_
    refine lv_if_eq (tgt := 836) hx hb d_L_law_831 (by decide) (fun _ => ?_) (fun hc => absurd (l_cmp (hout hc0)) hc)
    refine lv_goto (tgt := 1038) hx hb d_L_law_836 (by decide) ?_
    refine W.widen (k := 600) (n := 20000) (Nat.le_of_ble_eq_true rfl) (Nat.le_of_ble_eq_true rfl) ?_
    exact l_tail l hL6 C0 G hs0 _ _ _ hS (lv_sub hl [2, 6] rfl)
set_option maxHeartbeats 4000000 in
set_option maxRecDepth 100000 in
theorem l_case_11 {p : Program} {e : Env} {s : State} {m : MethodId} {below : List Frame} {meth : Method} {c : Code} (l : Launch) {b L : Nat} {xs : Nat → Int32} (hL6 : L = 6) (C0 : lw_At p s m meth c b L xs) (G : x_G) (hs0 : x_s0 G = s.heap.size) (hl9 : l.stackTraces = false) (n : Nat) (hn : n ≤ 40) (hK : va_K (x_D G) vwCl (x_ty G) s) (hG : x_GV G s s.heap) (ax am : Nat → Nat) (zm : x_St) (hm : m_fr n zm) (H : Heap) (locs : List Loc) (ls : Array Slot) (hP : va_P (x_D G) vwCl (x_Wd (g_X G ax am n zm) (x_z0 n)) H) (hD : va_D (x_A G) (x_Wd (g_X G ax am n zm) (x_z0 n))) (hS : va_S (x_A G) s.heap H locs) (hl : lv_has ls 8 [(0, .ref b), (1, .ref (ax 0)), (2, .ref (am 0)), (3, .ref (ax 110)), (4, .int (1 : Int32))]) : W p l e room_1 s m #[Value.ref b] below meth c H locs 137 9525 (lw_Z below #[Value.ref b] s) (F0 m 839 ls []) := by
  obtain ⟨hx, hb, hr, hml, hown, hts9, hX, hbl, hlocks, hgv⟩ := id C0
  have hown : s.vm.findClass "ContentLibraryLaw" = some m.cls := hown
  have hts : ∀ w ∈ x_big, w.before #[Value.ref b] s = true := fun w h => hts9 w (x_bg h).1
  have hbA : ¬ x_A G b := fun h => absurd (show x_s0 G ≤ b from h) (by omega)
  have hz : x_s0 G ≤ s.heap.size := Nat.le_of_eq hs0
  have hG1 : ∀ (ad : Nat → Nat) (n : Nat) (rs : va_W), x_GV (x_mk G ad n rs) s s.heap := fun _ _ _ => hG
  refine lv_aload_n hx hb d_L_law_839 rfl (lv_at hl 1 rfl) ?_
  obtain ⟨r1, z1, zm1, hq1, hq2⟩ := v_reopen (x_fr0 n) hm hn
  refine va_calli (va_runV (As := []) (rest := []) ⟨hx, hb, hml, hown, hts⟩ (c_X_reopen l (g_X G ax am n zm) (x_z0 n) r1 z1 hq1) (cwV 0 hts (x_gV t_158 t_159 t_160 t_1 t_161) rfl rfl rfl (by decide +kernel) ⟨Nat.le_of_ble_eq_true rfl, Nat.le_of_ble_eq_true rfl⟩) ⟨x_blind _ _ _, va_recv hK hP (ci := 0) (q0 := 0) rfl (x_lk_X (g_X G ax am n zm) _), fun U hU hW => ⟨rfl, x_pw hP hD hK (hG1 _ _ _) hS hz hU hW⟩⟩ rfl rfl hl.1 rfl (lv_room (Nat.le_of_ble_eq_true rfl)) d_L_law_840 ⟨Nat.le_of_ble_eq_true rfl, Nat.le_of_ble_eq_true rfl⟩) hS (fun q _ h => h) (fun q h => h) (fun ra u t H locs ht hvm hw hB _ _ hS => ?_)
  obtain ⟨rfl, rfl⟩ := hw
  obtain ⟨hP, hD⟩ := x_back hB ht
  refine lv_aload_n hx hb d_L_law_843 rfl (lv_at hl 2 rfl) ?_
  obtain ⟨hP, hD⟩ := l_toM hP hD
  refine va_calli (va_runV (As := []) (rest := [.int r1]) ⟨hx, hb, hml, hown, hts⟩ (c_M_reopen l (g_M G ax am n z1) zm r1 zm1 hq2) (cwV 0 hts (x_gV t_885 t_886 t_887 t_7 t_888) rfl rfl rfl (by decide +kernel) ⟨Nat.le_of_ble_eq_true rfl, Nat.le_of_ble_eq_true rfl⟩) ⟨m_blind _ _ _, va_recv hK hP (ci := 5) (q0 := 0) rfl (m_lk_M (g_M G ax am n z1) _), fun U hU hW => ⟨rfl, m_pw hP hD hK trivial hS hz hU hW⟩⟩ rfl rfl hl.1 rfl (lv_room (Nat.le_of_ble_eq_true rfl)) d_L_law_844 ⟨Nat.le_of_ble_eq_true rfl, Nat.le_of_ble_eq_true rfl⟩) hS (fun q _ h => h) (fun q h => h) (fun ra u t H locs ht hvm hw hB _ _ hS => ?_)
  obtain ⟨rfl, rfl⟩ := hw
  obtain ⟨hP, hD⟩ := m_back hB ht
  refine lv_icmp_eq (tgt := 1038) hx hb d_L_law_847 (by decide) (fun _ => ?_) (fun hc => absurd rfl hc)
  refine W.widen (k := 600) (n := 20000) (Nat.le_of_ble_eq_true rfl) (Nat.le_of_ble_eq_true rfl) ?_
  exact l_tail l hL6 C0 G hs0 _ _ _ hS (lv_sub hl [0, 4] rfl)
