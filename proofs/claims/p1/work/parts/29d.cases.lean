theorem t_301 : Cond.methodLink "ContentLibraryLaw" 122 (⟨"ContentLibrary", "badAt", "()I"⟩ : MethodName) ∈ x_big := x_bt 301 (by decide +kernel) (by decide +kernel)
theorem t_302 : Cond.instanceMethod (⟨"ContentLibrary", "badAt", "()I"⟩ : MethodName) ∈ x_big := x_bt 302 (by decide +kernel) (by decide +kernel)
theorem t_303 : Cond.selects "ContentLibrary" (⟨"ContentLibrary", "badAt", "()I"⟩ : MethodName) (⟨"ContentLibrary", "badAt", "()I"⟩ : MethodName) ∈ x_big := x_bt 303 (by decide +kernel) (by decide +kernel)
theorem t_304 : Cond.code (⟨"ContentLibrary", "badAt", "()I"⟩ : MethodName) prog_1_method_15_code 2 (some .int) ∈ x_big := x_bt 304 (by decide +kernel) (by decide +kernel)
theorem t_310 : Cond.methodLink "ContentLibraryLaw" 129 (⟨"ContentLibrary", "told", "(I)I"⟩ : MethodName) ∈ x_big := x_bt 310 (by decide +kernel) (by decide +kernel)
theorem t_311 : Cond.instanceMethod (⟨"ContentLibrary", "told", "(I)I"⟩ : MethodName) ∈ x_big := x_bt 311 (by decide +kernel) (by decide +kernel)
theorem t_312 : Cond.selects "ContentLibrary" (⟨"ContentLibrary", "told", "(I)I"⟩ : MethodName) (⟨"ContentLibrary", "told", "(I)I"⟩ : MethodName) ∈ x_big := x_bt 312 (by decide +kernel) (by decide +kernel)
theorem t_313 : Cond.code (⟨"ContentLibrary", "told", "(I)I"⟩ : MethodName) prog_1_method_17_code 2 (some .int) ∈ x_big := x_bt 313 (by decide +kernel) (by decide +kernel)
theorem t_631 : Cond.methodLink "ContentLibraryLaw" 119 (⟨"ContentLibraryLaw", "poke", "(LContentLibrary;III[J)I"⟩ : MethodName) ∈ x_big := x_bt 631 (by decide +kernel) (by decide +kernel)
theorem t_632 : Cond.static (⟨"ContentLibraryLaw", "poke", "(LContentLibrary;III[J)I"⟩ : MethodName) ∈ x_big := x_bt 632 (by decide +kernel) (by decide +kernel)
theorem t_633 : Cond.codeWith (⟨"ContentLibraryLaw", "poke", "(LContentLibrary;III[J)I"⟩ : MethodName) method_14_code 6 (some .int) [(0, 12, 15, 23), (0, 12, 19, 15)] ∈ x_big := x_bt 633 (by decide +kernel) (by decide +kernel)
theorem t_648 : Cond.methodLink "ContentLibraryLaw" 126 (⟨"ContentLibraryLaw", "byteAt", "(LContentLibrary;II[J)I"⟩ : MethodName) ∈ x_big := x_bt 648 (by decide +kernel) (by decide +kernel)
theorem t_649 : Cond.static (⟨"ContentLibraryLaw", "byteAt", "(LContentLibrary;II[J)I"⟩ : MethodName) ∈ x_big := x_bt 649 (by decide +kernel) (by decide +kernel)
theorem t_650 : Cond.codeWith (⟨"ContentLibraryLaw", "byteAt", "(LContentLibrary;II[J)I"⟩ : MethodName) method_15_code 5 (some .int) [(0, 10, 13, 23)] ∈ x_big := x_bt 650 (by decide +kernel) (by decide +kernel)
theorem t_905 : Cond.methodLink "ContentLibraryLaw" 121 (⟨"ContentLibraryModel", "poke", "(III)I"⟩ : MethodName) ∈ x_big := x_bt 905 (by decide +kernel) (by decide +kernel)
theorem t_906 : Cond.instanceMethod (⟨"ContentLibraryModel", "poke", "(III)I"⟩ : MethodName) ∈ x_big := x_bt 906 (by decide +kernel) (by decide +kernel)
theorem t_907 : Cond.selects "ContentLibraryModel" (⟨"ContentLibraryModel", "poke", "(III)I"⟩ : MethodName) (⟨"ContentLibraryModel", "poke", "(III)I"⟩ : MethodName) ∈ x_big := x_bt 907 (by decide +kernel) (by decide +kernel)
theorem t_908 : Cond.code (⟨"ContentLibraryModel", "poke", "(III)I"⟩ : MethodName) prog_7_method_40_code 4 (some .int) ∈ x_big := x_bt 908 (by decide +kernel) (by decide +kernel)
theorem t_909 : Cond.methodLink "ContentLibraryLaw" 125 (⟨"ContentLibraryModel", "badAt", "()I"⟩ : MethodName) ∈ x_big := x_bt 909 (by decide +kernel) (by decide +kernel)
theorem t_910 : Cond.instanceMethod (⟨"ContentLibraryModel", "badAt", "()I"⟩ : MethodName) ∈ x_big := x_bt 910 (by decide +kernel) (by decide +kernel)
theorem t_911 : Cond.selects "ContentLibraryModel" (⟨"ContentLibraryModel", "badAt", "()I"⟩ : MethodName) (⟨"ContentLibraryModel", "badAt", "()I"⟩ : MethodName) ∈ x_big := x_bt 911 (by decide +kernel) (by decide +kernel)
theorem t_912 : Cond.code (⟨"ContentLibraryModel", "badAt", "()I"⟩ : MethodName) prog_7_method_41_code 2 (some .int) ∈ x_big := x_bt 912 (by decide +kernel) (by decide +kernel)
theorem t_913 : Cond.methodLink "ContentLibraryLaw" 128 (⟨"ContentLibraryModel", "byteAt", "(II)I"⟩ : MethodName) ∈ x_big := x_bt 913 (by decide +kernel) (by decide +kernel)
theorem t_914 : Cond.instanceMethod (⟨"ContentLibraryModel", "byteAt", "(II)I"⟩ : MethodName) ∈ x_big := x_bt 914 (by decide +kernel) (by decide +kernel)
theorem t_915 : Cond.selects "ContentLibraryModel" (⟨"ContentLibraryModel", "byteAt", "(II)I"⟩ : MethodName) (⟨"ContentLibraryModel", "byteAt", "(II)I"⟩ : MethodName) ∈ x_big := x_bt 915 (by decide +kernel) (by decide +kernel)
theorem t_916 : Cond.code (⟨"ContentLibraryModel", "byteAt", "(II)I"⟩ : MethodName) prog_7_method_42_code 3 (some .int) ∈ x_big := x_bt 916 (by decide +kernel) (by decide +kernel)
theorem t_917 : Cond.methodLink "ContentLibraryLaw" 132 (⟨"ContentLibraryModel", "told", "(I)I"⟩ : MethodName) ∈ x_big := x_bt 917 (by decide +kernel) (by decide +kernel)
theorem t_918 : Cond.instanceMethod (⟨"ContentLibraryModel", "told", "(I)I"⟩ : MethodName) ∈ x_big := x_bt 918 (by decide +kernel) (by decide +kernel)
theorem t_919 : Cond.selects "ContentLibraryModel" (⟨"ContentLibraryModel", "told", "(I)I"⟩ : MethodName) (⟨"ContentLibraryModel", "told", "(I)I"⟩ : MethodName) ∈ x_big := x_bt 919 (by decide +kernel) (by decide +kernel)
theorem t_920 : Cond.code (⟨"ContentLibraryModel", "told", "(I)I"⟩ : MethodName) prog_7_method_43_code 4 (some .int) ∈ x_big := x_bt 920 (by decide +kernel) (by decide +kernel)
theorem d_L_law_852 : decode code 852 = .ok (.aload_n 1, 1) := by decide +kernel
theorem d_L_law_853 : decode code 853 = .ok (.aload_n 0, 1) := by decide +kernel
theorem d_L_law_854 : decode code 854 = .ok (.iload 4, 2) := by decide +kernel
theorem d_L_law_856 : decode code 856 = .ok (.iconst 1, 1) := by decide +kernel
theorem d_L_law_857 : decode code 857 = .ok (.iadd, 1) := by decide +kernel
theorem d_L_law_858 : decode code 858 = .ok (.iaload, 1) := by decide +kernel
theorem d_L_law_859 : decode code 859 = .ok (.aload_n 0, 1) := by decide +kernel
theorem d_L_law_860 : decode code 860 = .ok (.iload 4, 2) := by decide +kernel
theorem d_L_law_862 : decode code 862 = .ok (.iconst 2, 1) := by decide +kernel
theorem d_L_law_863 : decode code 863 = .ok (.iadd, 1) := by decide +kernel
theorem d_L_law_864 : decode code 864 = .ok (.iaload, 1) := by decide +kernel
theorem d_L_law_865 : decode code 865 = .ok (.aload_n 0, 1) := by decide +kernel
theorem d_L_law_866 : decode code 866 = .ok (.iload 4, 2) := by decide +kernel
theorem d_L_law_868 : decode code 868 = .ok (.iconst 3, 1) := by decide +kernel
theorem d_L_law_869 : decode code 869 = .ok (.iadd, 1) := by decide +kernel
theorem d_L_law_870 : decode code 870 = .ok (.iaload, 1) := by decide +kernel
theorem d_L_law_871 : decode code 871 = .ok (.aload_n 3, 1) := by decide +kernel
theorem d_L_law_872 : decode code 872 = .ok (.invokestatic 119, 3) := by decide +kernel
theorem d_L_law_875 : decode code 875 = .ok (.istore 5, 2) := by decide +kernel
theorem d_L_law_877 : decode code 877 = .ok (.aload_n 2, 1) := by decide +kernel
theorem d_L_law_878 : decode code 878 = .ok (.aload_n 0, 1) := by decide +kernel
theorem d_L_law_879 : decode code 879 = .ok (.iload 4, 2) := by decide +kernel
theorem d_L_law_881 : decode code 881 = .ok (.iconst 1, 1) := by decide +kernel
theorem d_L_law_882 : decode code 882 = .ok (.iadd, 1) := by decide +kernel
theorem d_L_law_883 : decode code 883 = .ok (.iaload, 1) := by decide +kernel
theorem d_L_law_884 : decode code 884 = .ok (.aload_n 0, 1) := by decide +kernel
theorem d_L_law_885 : decode code 885 = .ok (.iload 4, 2) := by decide +kernel
theorem d_L_law_887 : decode code 887 = .ok (.iconst 2, 1) := by decide +kernel
theorem d_L_law_888 : decode code 888 = .ok (.iadd, 1) := by decide +kernel
theorem d_L_law_889 : decode code 889 = .ok (.iaload, 1) := by decide +kernel
theorem d_L_law_890 : decode code 890 = .ok (.aload_n 0, 1) := by decide +kernel
theorem d_L_law_891 : decode code 891 = .ok (.iload 4, 2) := by decide +kernel
theorem d_L_law_893 : decode code 893 = .ok (.iconst 3, 1) := by decide +kernel
theorem d_L_law_894 : decode code 894 = .ok (.iadd, 1) := by decide +kernel
theorem d_L_law_895 : decode code 895 = .ok (.iaload, 1) := by decide +kernel
theorem d_L_law_896 : decode code 896 = .ok (.invokevirtual 121, 3) := by decide +kernel
theorem d_L_law_899 : decode code 899 = .ok (.istore 6, 2) := by decide +kernel
theorem d_L_law_901 : decode code 901 = .ok (.aload_n 2, 1) := by decide +kernel
theorem d_L_law_902 : decode code 902 = .ok (.invokevirtual 78, 3) := by decide +kernel
theorem d_L_law_905 : decode code 905 = .ok (.iload 5, 2) := by decide +kernel
theorem d_L_law_907 : decode code 907 = .ok (.if_icmp .eq 5, 3) := by decide +kernel
theorem d_L_law_912 : decode code 912 = .ok (.iload 5, 2) := by decide +kernel
theorem d_L_law_914 : decode code 914 = .ok (.ifCond .ne 15, 3) := by decide +kernel
theorem d_L_law_929 : decode code 929 = .ok (.goto 109, 3) := by decide +kernel
theorem d_L_law_917 : decode code 917 = .ok (.aload_n 3, 1) := by decide +kernel
theorem d_L_law_918 : decode code 918 = .ok (.iconst 0, 1) := by decide +kernel
theorem d_L_law_919 : decode code 919 = .ok (.laload, 1) := by decide +kernel
theorem d_L_law_920 : decode code 920 = .ok (.iload 6, 2) := by decide +kernel
theorem d_L_law_922 : decode code 922 = .ok (.i2l, 1) := by decide +kernel
theorem d_L_law_923 : decode code 923 = .ok (.lcmp, 1) := by decide +kernel
theorem d_L_law_924 : decode code 924 = .ok (.ifCond .eq 5, 3) := by decide +kernel
theorem d_L_law_932 : decode code 932 = .ok (.aload_n 1, 1) := by decide +kernel
theorem d_L_law_933 : decode code 933 = .ok (.invokevirtual 122, 3) := by decide +kernel
theorem d_L_law_936 : decode code 936 = .ok (.aload_n 2, 1) := by decide +kernel
theorem d_L_law_937 : decode code 937 = .ok (.invokevirtual 125, 3) := by decide +kernel
theorem d_L_law_940 : decode code 940 = .ok (.if_icmp .eq 98, 3) := by decide +kernel
theorem d_L_law_945 : decode code 945 = .ok (.aload_n 1, 1) := by decide +kernel
theorem d_L_law_946 : decode code 946 = .ok (.aload_n 0, 1) := by decide +kernel
theorem d_L_law_947 : decode code 947 = .ok (.iload 4, 2) := by decide +kernel
theorem d_L_law_949 : decode code 949 = .ok (.iconst 1, 1) := by decide +kernel
theorem d_L_law_950 : decode code 950 = .ok (.iadd, 1) := by decide +kernel
theorem d_L_law_951 : decode code 951 = .ok (.iaload, 1) := by decide +kernel
theorem d_L_law_952 : decode code 952 = .ok (.aload_n 0, 1) := by decide +kernel
theorem d_L_law_953 : decode code 953 = .ok (.iload 4, 2) := by decide +kernel
theorem d_L_law_955 : decode code 955 = .ok (.iconst 2, 1) := by decide +kernel
theorem d_L_law_956 : decode code 956 = .ok (.iadd, 1) := by decide +kernel
theorem d_L_law_957 : decode code 957 = .ok (.iaload, 1) := by decide +kernel
theorem d_L_law_958 : decode code 958 = .ok (.aload_n 3, 1) := by decide +kernel
theorem d_L_law_959 : decode code 959 = .ok (.invokestatic 126, 3) := by decide +kernel
theorem d_L_law_962 : decode code 962 = .ok (.istore 5, 2) := by decide +kernel
theorem d_L_law_964 : decode code 964 = .ok (.aload_n 2, 1) := by decide +kernel
theorem d_L_law_965 : decode code 965 = .ok (.aload_n 0, 1) := by decide +kernel
theorem d_L_law_966 : decode code 966 = .ok (.iload 4, 2) := by decide +kernel
theorem d_L_law_968 : decode code 968 = .ok (.iconst 1, 1) := by decide +kernel
theorem d_L_law_969 : decode code 969 = .ok (.iadd, 1) := by decide +kernel
theorem d_L_law_970 : decode code 970 = .ok (.iaload, 1) := by decide +kernel
theorem d_L_law_971 : decode code 971 = .ok (.aload_n 0, 1) := by decide +kernel
theorem d_L_law_972 : decode code 972 = .ok (.iload 4, 2) := by decide +kernel
theorem d_L_law_974 : decode code 974 = .ok (.iconst 2, 1) := by decide +kernel
theorem d_L_law_975 : decode code 975 = .ok (.iadd, 1) := by decide +kernel
theorem d_L_law_976 : decode code 976 = .ok (.iaload, 1) := by decide +kernel
theorem d_L_law_977 : decode code 977 = .ok (.invokevirtual 128, 3) := by decide +kernel
theorem d_L_law_980 : decode code 980 = .ok (.istore 6, 2) := by decide +kernel
theorem d_L_law_982 : decode code 982 = .ok (.aload_n 2, 1) := by decide +kernel
theorem d_L_law_983 : decode code 983 = .ok (.invokevirtual 78, 3) := by decide +kernel
theorem d_L_law_986 : decode code 986 = .ok (.iload 5, 2) := by decide +kernel
theorem d_L_law_988 : decode code 988 = .ok (.if_icmp .eq 5, 3) := by decide +kernel
theorem d_L_law_993 : decode code 993 = .ok (.iload 5, 2) := by decide +kernel
theorem d_L_law_995 : decode code 995 = .ok (.ifCond .ne 15, 3) := by decide +kernel
theorem d_L_law_1010 : decode code 1010 = .ok (.goto 28, 3) := by decide +kernel
theorem d_L_law_998 : decode code 998 = .ok (.aload_n 3, 1) := by decide +kernel
theorem d_L_law_999 : decode code 999 = .ok (.iconst 0, 1) := by decide +kernel
theorem d_L_law_1000 : decode code 1000 = .ok (.laload, 1) := by decide +kernel
theorem d_L_law_1001 : decode code 1001 = .ok (.iload 6, 2) := by decide +kernel
theorem d_L_law_1003 : decode code 1003 = .ok (.i2l, 1) := by decide +kernel
theorem d_L_law_1004 : decode code 1004 = .ok (.lcmp, 1) := by decide +kernel
theorem d_L_law_1005 : decode code 1005 = .ok (.ifCond .eq 5, 3) := by decide +kernel
theorem d_L_law_1013 : decode code 1013 = .ok (.aload_n 1, 1) := by decide +kernel
theorem d_L_law_1014 : decode code 1014 = .ok (.aload_n 0, 1) := by decide +kernel
theorem d_L_law_1015 : decode code 1015 = .ok (.iload 4, 2) := by decide +kernel
theorem d_L_law_1017 : decode code 1017 = .ok (.iconst 1, 1) := by decide +kernel
theorem d_L_law_1018 : decode code 1018 = .ok (.iadd, 1) := by decide +kernel
theorem d_L_law_1019 : decode code 1019 = .ok (.iaload, 1) := by decide +kernel
theorem d_L_law_1020 : decode code 1020 = .ok (.invokevirtual 129, 3) := by decide +kernel
theorem d_L_law_1023 : decode code 1023 = .ok (.aload_n 2, 1) := by decide +kernel
theorem d_L_law_1024 : decode code 1024 = .ok (.aload_n 0, 1) := by decide +kernel
theorem d_L_law_1025 : decode code 1025 = .ok (.iload 4, 2) := by decide +kernel
theorem d_L_law_1027 : decode code 1027 = .ok (.iconst 1, 1) := by decide +kernel
theorem d_L_law_1028 : decode code 1028 = .ok (.iadd, 1) := by decide +kernel
theorem d_L_law_1029 : decode code 1029 = .ok (.iaload, 1) := by decide +kernel
theorem d_L_law_1030 : decode code 1030 = .ok (.invokevirtual 132, 3) := by decide +kernel
theorem d_L_law_1033 : decode code 1033 = .ok (.if_icmp .eq 5, 3) := by decide +kernel
set_option maxHeartbeats 4000000 in
set_option maxRecDepth 100000 in
theorem l_case_12 {p : Program} {e : Env} {s : State} {m : MethodId} {below : List Frame} {meth : Method} {c : Code} (l : Launch) {b L : Nat} {xs : Nat → Int32} (hL6 : L = 6) (C0 : lw_At p s m meth c b L xs) (G : x_G) (hs0 : x_s0 G = s.heap.size) (hl9 : l.stackTraces = false) (n : Nat) (hn : n ≤ 40) (hK : va_K (x_D G) vwCl (x_ty G) s) (hG : x_GV G s s.heap) (ax am : Nat → Nat) (zm : x_St) (hm : m_fr n zm) (H : Heap) (locs : List Loc) (ls : Array Slot) (hP : va_P (x_D G) vwCl (x_Wd (g_X G ax am n zm) (x_z0 n)) H) (hD : va_D (x_A G) (x_Wd (g_X G ax am n zm) (x_z0 n))) (hS : va_S (x_A G) s.heap H locs) (hl : lv_has ls 8 [(0, .ref b), (1, .ref (ax 0)), (2, .ref (am 0)), (3, .ref (ax 110)), (4, .int (1 : Int32))]) : W p l e room_1 s m #[Value.ref b] below meth c H locs 137 9525 (lw_Z below #[Value.ref b] s) (F0 m 852 ls []) := by
  obtain ⟨hx, hb, hr, hml, hown, hts9, hX, hbl, hlocks, hgv⟩ := id C0
  have hown : s.vm.findClass "ContentLibraryLaw" = some m.cls := hown
  have hts : ∀ w ∈ x_big, w.before #[Value.ref b] s = true := fun w h => hts9 w (x_bg h).1
  have hbA : ¬ x_A G b := fun h => absurd (show x_s0 G ≤ b from h) (by omega)
  have hz : x_s0 G ≤ s.heap.size := Nat.le_of_eq hs0
  have hG1 : ∀ (ad : Nat → Nat) (n : Nat) (rs : va_W), x_GV (x_mk G ad n rs) s s.heap := fun _ _ _ => hG
  refine lv_aload_n hx hb d_L_law_852 rfl (lv_at hl 1 rfl) ?_
  refine lv_aload_n hx hb d_L_law_853 rfl (lv_at hl 0 rfl) ?_
  refine lv_iload hx hb d_L_law_854 (lv_at hl 4 rfl) ?_
  refine lv_iconst (v := (1 : Int32)) hx hb d_L_law_856 (by decide) ?_
  refine lv_iadd hx hb d_L_law_857 ?_
  refine va_sld hx hb hX hbl hbA hS (i := ((1 : Int32) + (1 : Int32))) (by rw [hL6]; exact v_d (by decide)) d_L_law_858 ?_
  refine lv_aload_n hx hb d_L_law_859 rfl (lv_at hl 0 rfl) ?_
  refine lv_iload hx hb d_L_law_860 (lv_at hl 4 rfl) ?_
  refine lv_iconst (v := (2 : Int32)) hx hb d_L_law_862 (by decide) ?_
  refine lv_iadd hx hb d_L_law_863 ?_
  refine va_sld hx hb hX hbl hbA hS (i := ((1 : Int32) + (2 : Int32))) (by rw [hL6]; exact v_d (by decide)) d_L_law_864 ?_
  refine lv_aload_n hx hb d_L_law_865 rfl (lv_at hl 0 rfl) ?_
  refine lv_iload hx hb d_L_law_866 (lv_at hl 4 rfl) ?_
  refine lv_iconst (v := (3 : Int32)) hx hb d_L_law_868 (by decide) ?_
  refine lv_iadd hx hb d_L_law_869 ?_
  refine va_sld hx hb hX hbl hbA hS (i := ((1 : Int32) + (3 : Int32))) (by rw [hL6]; exact v_d (by decide)) d_L_law_870 ?_
  refine lv_aload_n hx hb d_L_law_871 rfl (lv_at hl 3 rfl) ?_
  obtain ⟨r1, z1, b1, zm1, hq1, hq2, hth, hout⟩ := v_poke (x_fr0 n) hm hn (xs (((1 : Int32) + (1 : Int32))).toNatClampNeg) (xs (((1 : Int32) + (2 : Int32))).toNatClampNeg) (xs (((1 : Int32) + (3 : Int32))).toNatClampNeg)
  refine va_calli (e_runSW (n := 5) (As := [.ref (ax 0), .int (xs (((1 : Int32) + (1 : Int32))).toNatClampNeg), .int (xs (((1 : Int32) + (2 : Int32))).toNatClampNeg), .int (xs (((1 : Int32) + (3 : Int32))).toNatClampNeg), .ref (ax 110)]) (rest := []) ⟨hx, hb, hml, hown, hts⟩ (fun _ h => h) (c_L_poke l (g_X G ax am n zm) hl9 (xs (((1 : Int32) + (1 : Int32))).toNatClampNeg) (xs (((1 : Int32) + (2 : Int32))).toNatClampNeg) (xs (((1 : Int32) + (3 : Int32))).toNatClampNeg) (x_z0 n) r1 z1 hq1) t_631 t_632 t_0 t_633 rfl rfl ⟨by decide, by decide, by decide +kernel⟩ ⟨Nat.le_of_ble_eq_true rfl, Nat.le_of_ble_eq_true rfl⟩ ⟨x_blind _ _ _, fun U hU hW => ⟨rfl, x_pw hP hD hK (hG1 _ _ _) hS hz hU hW⟩⟩ rfl rfl hl.1 rfl (lv_room (Nat.le_of_ble_eq_true rfl)) d_L_law_872 ⟨Nat.le_of_ble_eq_true rfl, Nat.le_of_ble_eq_true rfl⟩) hS (fun q _ h => h) (fun q h => h) (fun ra u t H locs ht hvm hw hB _ _ hS => ?_)
  obtain ⟨rfl, rfl⟩ := hw
  obtain ⟨hP, hD⟩ := x_back hB ht
  refine lv_istore (lv' := [(5, .int r1), (0, .ref b), (1, .ref (ax 0)), (2, .ref (am 0)), (3, .ref (ax 110)), (4, .int (1 : Int32))]) hx hb d_L_law_875 hl (by decide) rfl (fun ls hl => ?_)
  refine lv_aload_n hx hb d_L_law_877 rfl (lv_at hl 3 rfl) ?_
  refine lv_aload_n hx hb d_L_law_878 rfl (lv_at hl 1 rfl) ?_
  refine lv_iload hx hb d_L_law_879 (lv_at hl 5 rfl) ?_
  refine lv_iconst (v := (1 : Int32)) hx hb d_L_law_881 (by decide) ?_
  refine lv_iadd hx hb d_L_law_882 ?_
  refine va_sld hx hb hX hbl hbA hS (i := ((1 : Int32) + (1 : Int32))) (by rw [hL6]; exact v_d (by decide)) d_L_law_883 ?_
  refine lv_aload_n hx hb d_L_law_884 rfl (lv_at hl 1 rfl) ?_
  refine lv_iload hx hb d_L_law_885 (lv_at hl 5 rfl) ?_
  refine lv_iconst (v := (2 : Int32)) hx hb d_L_law_887 (by decide) ?_
  refine lv_iadd hx hb d_L_law_888 ?_
  refine va_sld hx hb hX hbl hbA hS (i := ((1 : Int32) + (2 : Int32))) (by rw [hL6]; exact v_d (by decide)) d_L_law_889 ?_
  refine lv_aload_n hx hb d_L_law_890 rfl (lv_at hl 1 rfl) ?_
  refine lv_iload hx hb d_L_law_891 (lv_at hl 5 rfl) ?_
  refine lv_iconst (v := (3 : Int32)) hx hb d_L_law_893 (by decide) ?_
  refine lv_iadd hx hb d_L_law_894 ?_
  refine va_sld hx hb hX hbl hbA hS (i := ((1 : Int32) + (3 : Int32))) (by rw [hL6]; exact v_d (by decide)) d_L_law_895 ?_
  obtain ⟨hP, hD⟩ := l_toM hP hD
  refine va_calli (va_runV (As := [.int (xs (((1 : Int32) + (1 : Int32))).toNatClampNeg), .int (xs (((1 : Int32) + (2 : Int32))).toNatClampNeg), .int (xs (((1 : Int32) + (3 : Int32))).toNatClampNeg)]) (rest := []) ⟨hx, hb, hml, hown, hts⟩ (c_M_poke l (g_M G ax am n z1) (xs (((1 : Int32) + (1 : Int32))).toNatClampNeg) (xs (((1 : Int32) + (2 : Int32))).toNatClampNeg) (xs (((1 : Int32) + (3 : Int32))).toNatClampNeg) zm b1 zm1 hq2) (cwV 3 hts (x_gV t_905 t_906 t_907 t_7 t_908) rfl rfl rfl (by decide +kernel) ⟨Nat.le_of_ble_eq_true rfl, Nat.le_of_ble_eq_true rfl⟩) ⟨m_blind _ _ _, va_recv hK hP (ci := 5) (q0 := 0) rfl (m_lk_M (g_M G ax am n z1) _), fun U hU hW => ⟨rfl, m_pw hP hD hK trivial hS hz hU hW⟩⟩ rfl rfl hl.1 rfl (lv_room (Nat.le_of_ble_eq_true rfl)) d_L_law_896 ⟨Nat.le_of_ble_eq_true rfl, Nat.le_of_ble_eq_true rfl⟩) hS (fun q _ h => h) (fun q h => h) (fun ra u t H locs ht hvm hw hB _ _ hS => ?_)
  obtain ⟨rfl, rfl⟩ := hw
  obtain ⟨hP, hD⟩ := m_back hB ht
  refine lv_istore (lv' := [(6, .int b1), (5, .int r1), (0, .ref b), (1, .ref (ax 0)), (2, .ref (am 0)), (3, .ref (ax 110)), (4, .int (1 : Int32))]) hx hb d_L_law_899 hl (by decide) rfl (fun ls hl => ?_)
  refine lv_aload_n hx hb d_L_law_901 rfl (lv_at hl 4 rfl) ?_
  refine va_calli (va_runV (As := []) (rest := []) ⟨hx, hb, hml, hown, hts⟩ (c_M_thrown l (g_M G ax am n z1) zm1 (zm1.1 0 0) zm1 rfl) (cwV 0 hts (x_gV t_767 t_768 t_769 t_7 t_770) rfl rfl rfl (by decide +kernel) ⟨Nat.le_of_ble_eq_true rfl, Nat.le_of_ble_eq_true rfl⟩) ⟨m_blind _ _ _, va_recv hK hP (ci := 5) (q0 := 0) rfl (m_lk_M (g_M G ax am n z1) _), fun U hU hW => ⟨rfl, m_pw hP hD hK trivial hS hz hU hW⟩⟩ rfl rfl hl.1 rfl (lv_room (Nat.le_of_ble_eq_true rfl)) d_L_law_902 ⟨Nat.le_of_ble_eq_true rfl, Nat.le_of_ble_eq_true rfl⟩) hS (fun q _ h => h) (fun q h => h) (fun ra u t H locs ht hvm hw hB _ _ hS => ?_)
  obtain ⟨hw1, hw2⟩ := hw
  subst hw1
  rw [← hw2] at hB
  obtain ⟨hP, hD⟩ := m_back hB ht
  refine lv_iload hx hb d_L_law_905 (lv_at hl 1 rfl) ?_
  refine lv_icmp_eq (tgt := 912) hx hb d_L_law_907 (by decide) (fun _ => ?_) (fun hc => absurd hth hc)
  refine lv_iload hx hb d_L_law_912 (lv_at hl 1 rfl) ?_
  refine lv_if_ne (tgt := 929) hx hb d_L_law_914 (by decide) (fun _ => ?_) (fun hc0 => ?_)
  · refine lv_goto (tgt := 1038) hx hb d_L_law_929 (by decide) ?_
    refine W.widen (k := 600) (n := 20000) (Nat.le_of_ble_eq_true rfl) (Nat.le_of_ble_eq_true rfl) ?_
    exact l_tail l hL6 C0 G hs0 _ _ _ hS (lv_sub hl [2, 6] rfl)
  · refine lv_aload_n hx hb d_L_law_917 rfl (lv_at hl 5 rfl) ?_
    refine lv_iconst (v := (0 : Int32)) hx hb d_L_law_918 (by decide) ?_
    obtain ⟨hP, hD⟩ := l_toX hP hD
    refine va_lald hx hb hK hP 110 4 (x_lk_O (g_X G ax am n zm1) _) rfl (i := (0 : Int32)) (v_d (by decide)) d_L_law_919 ?_
    refine lv_iload hx hb d_L_law_920 (lv_at hl 0 rfl) ?_
    refine lv_i2l (v := (b1).toInt64) hx hb d_L_law_922 rfl ?_
    refine W.lcmp hx hb d_L_law_923 ?_
    refine lv_if_eq (tgt := 929) hx hb d_L_law_924 (by decide) (fun _ => ?_) (fun hc => absurd (l_cmp (hout hc0)) hc)
    refine lv_goto (tgt := 1038) hx hb d_L_law_929 (by decide) ?_
    refine W.widen (k := 600) (n := 20000) (Nat.le_of_ble_eq_true rfl) (Nat.le_of_ble_eq_true rfl) ?_
    exact l_tail l hL6 C0 G hs0 _ _ _ hS (lv_sub hl [2, 6] rfl)
set_option maxHeartbeats 4000000 in
set_option maxRecDepth 100000 in
theorem l_case_13 {p : Program} {e : Env} {s : State} {m : MethodId} {below : List Frame} {meth : Method} {c : Code} (l : Launch) {b L : Nat} {xs : Nat → Int32} (hL6 : L = 6) (C0 : lw_At p s m meth c b L xs) (G : x_G) (hs0 : x_s0 G = s.heap.size) (hl9 : l.stackTraces = false) (n : Nat) (hn : n ≤ 40) (hK : va_K (x_D G) vwCl (x_ty G) s) (hG : x_GV G s s.heap) (ax am : Nat → Nat) (zm : x_St) (hm : m_fr n zm) (H : Heap) (locs : List Loc) (ls : Array Slot) (hP : va_P (x_D G) vwCl (x_Wd (g_X G ax am n zm) (x_z0 n)) H) (hD : va_D (x_A G) (x_Wd (g_X G ax am n zm) (x_z0 n))) (hS : va_S (x_A G) s.heap H locs) (hl : lv_has ls 8 [(0, .ref b), (1, .ref (ax 0)), (2, .ref (am 0)), (3, .ref (ax 110)), (4, .int (1 : Int32))]) : W p l e room_1 s m #[Value.ref b] below meth c H locs 137 9525 (lw_Z below #[Value.ref b] s) (F0 m 932 ls []) := by
  obtain ⟨hx, hb, hr, hml, hown, hts9, hX, hbl, hlocks, hgv⟩ := id C0
  have hown : s.vm.findClass "ContentLibraryLaw" = some m.cls := hown
  have hts : ∀ w ∈ x_big, w.before #[Value.ref b] s = true := fun w h => hts9 w (x_bg h).1
  have hbA : ¬ x_A G b := fun h => absurd (show x_s0 G ≤ b from h) (by omega)
  have hz : x_s0 G ≤ s.heap.size := Nat.le_of_eq hs0
  have hG1 : ∀ (ad : Nat → Nat) (n : Nat) (rs : va_W), x_GV (x_mk G ad n rs) s s.heap := fun _ _ _ => hG
  refine lv_aload_n hx hb d_L_law_932 rfl (lv_at hl 1 rfl) ?_
  obtain ⟨r1, z1, zm1, hq1, hq2⟩ := v_badAt (x_fr0 n) hm hn
  refine va_calli (va_runV (As := []) (rest := []) ⟨hx, hb, hml, hown, hts⟩ (c_X_badAt l (g_X G ax am n zm) (x_z0 n) r1 z1 hq1) (cwV 0 hts (x_gV t_301 t_302 t_303 t_1 t_304) rfl rfl rfl (by decide +kernel) ⟨Nat.le_of_ble_eq_true rfl, Nat.le_of_ble_eq_true rfl⟩) ⟨x_blind _ _ _, va_recv hK hP (ci := 0) (q0 := 0) rfl (x_lk_X (g_X G ax am n zm) _), fun U hU hW => ⟨rfl, x_pw hP hD hK (hG1 _ _ _) hS hz hU hW⟩⟩ rfl rfl hl.1 rfl (lv_room (Nat.le_of_ble_eq_true rfl)) d_L_law_933 ⟨Nat.le_of_ble_eq_true rfl, Nat.le_of_ble_eq_true rfl⟩) hS (fun q _ h => h) (fun q h => h) (fun ra u t H locs ht hvm hw hB _ _ hS => ?_)
  obtain ⟨rfl, rfl⟩ := hw
  obtain ⟨hP, hD⟩ := x_back hB ht
  refine lv_aload_n hx hb d_L_law_936 rfl (lv_at hl 2 rfl) ?_
  obtain ⟨hP, hD⟩ := l_toM hP hD
  refine va_calli (va_runV (As := []) (rest := [.int r1]) ⟨hx, hb, hml, hown, hts⟩ (c_M_badAt l (g_M G ax am n z1) zm r1 zm1 hq2) (cwV 0 hts (x_gV t_909 t_910 t_911 t_7 t_912) rfl rfl rfl (by decide +kernel) ⟨Nat.le_of_ble_eq_true rfl, Nat.le_of_ble_eq_true rfl⟩) ⟨m_blind _ _ _, va_recv hK hP (ci := 5) (q0 := 0) rfl (m_lk_M (g_M G ax am n z1) _), fun U hU hW => ⟨rfl, m_pw hP hD hK trivial hS hz hU hW⟩⟩ rfl rfl hl.1 rfl (lv_room (Nat.le_of_ble_eq_true rfl)) d_L_law_937 ⟨Nat.le_of_ble_eq_true rfl, Nat.le_of_ble_eq_true rfl⟩) hS (fun q _ h => h) (fun q h => h) (fun ra u t H locs ht hvm hw hB _ _ hS => ?_)
  obtain ⟨rfl, rfl⟩ := hw
  obtain ⟨hP, hD⟩ := m_back hB ht
  refine lv_icmp_eq (tgt := 1038) hx hb d_L_law_940 (by decide) (fun _ => ?_) (fun hc => absurd rfl hc)
  refine W.widen (k := 600) (n := 20000) (Nat.le_of_ble_eq_true rfl) (Nat.le_of_ble_eq_true rfl) ?_
  exact l_tail l hL6 C0 G hs0 _ _ _ hS (lv_sub hl [0, 4] rfl)
set_option maxHeartbeats 4000000 in
set_option maxRecDepth 100000 in
theorem l_case_14 {p : Program} {e : Env} {s : State} {m : MethodId} {below : List Frame} {meth : Method} {c : Code} (l : Launch) {b L : Nat} {xs : Nat → Int32} (hL6 : L = 6) (C0 : lw_At p s m meth c b L xs) (G : x_G) (hs0 : x_s0 G = s.heap.size) (hl9 : l.stackTraces = false) (n : Nat) (hn : n ≤ 40) (hK : va_K (x_D G) vwCl (x_ty G) s) (hG : x_GV G s s.heap) (ax am : Nat → Nat) (zm : x_St) (hm : m_fr n zm) (H : Heap) (locs : List Loc) (ls : Array Slot) (hP : va_P (x_D G) vwCl (x_Wd (g_X G ax am n zm) (x_z0 n)) H) (hD : va_D (x_A G) (x_Wd (g_X G ax am n zm) (x_z0 n))) (hS : va_S (x_A G) s.heap H locs) (hl : lv_has ls 8 [(0, .ref b), (1, .ref (ax 0)), (2, .ref (am 0)), (3, .ref (ax 110)), (4, .int (1 : Int32))]) : W p l e room_1 s m #[Value.ref b] below meth c H locs 137 9525 (lw_Z below #[Value.ref b] s) (F0 m 945 ls []) := by
  obtain ⟨hx, hb, hr, hml, hown, hts9, hX, hbl, hlocks, hgv⟩ := id C0
  have hown : s.vm.findClass "ContentLibraryLaw" = some m.cls := hown
  have hts : ∀ w ∈ x_big, w.before #[Value.ref b] s = true := fun w h => hts9 w (x_bg h).1
  have hbA : ¬ x_A G b := fun h => absurd (show x_s0 G ≤ b from h) (by omega)
  have hz : x_s0 G ≤ s.heap.size := Nat.le_of_eq hs0
  have hG1 : ∀ (ad : Nat → Nat) (n : Nat) (rs : va_W), x_GV (x_mk G ad n rs) s s.heap := fun _ _ _ => hG
  refine lv_aload_n hx hb d_L_law_945 rfl (lv_at hl 1 rfl) ?_
  refine lv_aload_n hx hb d_L_law_946 rfl (lv_at hl 0 rfl) ?_
  refine lv_iload hx hb d_L_law_947 (lv_at hl 4 rfl) ?_
  refine lv_iconst (v := (1 : Int32)) hx hb d_L_law_949 (by decide) ?_
  refine lv_iadd hx hb d_L_law_950 ?_
  refine va_sld hx hb hX hbl hbA hS (i := ((1 : Int32) + (1 : Int32))) (by rw [hL6]; exact v_d (by decide)) d_L_law_951 ?_
  refine lv_aload_n hx hb d_L_law_952 rfl (lv_at hl 0 rfl) ?_
  refine lv_iload hx hb d_L_law_953 (lv_at hl 4 rfl) ?_
  refine lv_iconst (v := (2 : Int32)) hx hb d_L_law_955 (by decide) ?_
  refine lv_iadd hx hb d_L_law_956 ?_
  refine va_sld hx hb hX hbl hbA hS (i := ((1 : Int32) + (2 : Int32))) (by rw [hL6]; exact v_d (by decide)) d_L_law_957 ?_
  refine lv_aload_n hx hb d_L_law_958 rfl (lv_at hl 3 rfl) ?_
  obtain ⟨r1, z1, b1, zm1, hq1, hq2, hth, hout⟩ := v_byteAt (x_fr0 n) hm hn (xs (((1 : Int32) + (1 : Int32))).toNatClampNeg) (xs (((1 : Int32) + (2 : Int32))).toNatClampNeg)
  refine va_calli (e_runSW (n := 4) (As := [.ref (ax 0), .int (xs (((1 : Int32) + (1 : Int32))).toNatClampNeg), .int (xs (((1 : Int32) + (2 : Int32))).toNatClampNeg), .ref (ax 110)]) (rest := []) ⟨hx, hb, hml, hown, hts⟩ (fun _ h => h) (c_L_byteAt l (g_X G ax am n zm) hl9 (xs (((1 : Int32) + (1 : Int32))).toNatClampNeg) (xs (((1 : Int32) + (2 : Int32))).toNatClampNeg) (x_z0 n) r1 z1 hq1) t_648 t_649 t_0 t_650 rfl rfl ⟨by decide, by decide, by decide +kernel⟩ ⟨Nat.le_of_ble_eq_true rfl, Nat.le_of_ble_eq_true rfl⟩ ⟨x_blind _ _ _, fun U hU hW => ⟨rfl, x_pw hP hD hK (hG1 _ _ _) hS hz hU hW⟩⟩ rfl rfl hl.1 rfl (lv_room (Nat.le_of_ble_eq_true rfl)) d_L_law_959 ⟨Nat.le_of_ble_eq_true rfl, Nat.le_of_ble_eq_true rfl⟩) hS (fun q _ h => h) (fun q h => h) (fun ra u t H locs ht hvm hw hB _ _ hS => ?_)
  obtain ⟨rfl, rfl⟩ := hw
  obtain ⟨hP, hD⟩ := x_back hB ht
  refine lv_istore (lv' := [(5, .int r1), (0, .ref b), (1, .ref (ax 0)), (2, .ref (am 0)), (3, .ref (ax 110)), (4, .int (1 : Int32))]) hx hb d_L_law_962 hl (by decide) rfl (fun ls hl => ?_)
  refine lv_aload_n hx hb d_L_law_964 rfl (lv_at hl 3 rfl) ?_
  refine lv_aload_n hx hb d_L_law_965 rfl (lv_at hl 1 rfl) ?_
  refine lv_iload hx hb d_L_law_966 (lv_at hl 5 rfl) ?_
  refine lv_iconst (v := (1 : Int32)) hx hb d_L_law_968 (by decide) ?_
  refine lv_iadd hx hb d_L_law_969 ?_
  refine va_sld hx hb hX hbl hbA hS (i := ((1 : Int32) + (1 : Int32))) (by rw [hL6]; exact v_d (by decide)) d_L_law_970 ?_
  refine lv_aload_n hx hb d_L_law_971 rfl (lv_at hl 1 rfl) ?_
  refine lv_iload hx hb d_L_law_972 (lv_at hl 5 rfl) ?_
  refine lv_iconst (v := (2 : Int32)) hx hb d_L_law_974 (by decide) ?_
  refine lv_iadd hx hb d_L_law_975 ?_
  refine va_sld hx hb hX hbl hbA hS (i := ((1 : Int32) + (2 : Int32))) (by rw [hL6]; exact v_d (by decide)) d_L_law_976 ?_
  obtain ⟨hP, hD⟩ := l_toM hP hD
  refine va_calli (va_runV (As := [.int (xs (((1 : Int32) + (1 : Int32))).toNatClampNeg), .int (xs (((1 : Int32) + (2 : Int32))).toNatClampNeg)]) (rest := []) ⟨hx, hb, hml, hown, hts⟩ (c_M_byteAt l (g_M G ax am n z1) (xs (((1 : Int32) + (1 : Int32))).toNatClampNeg) (xs (((1 : Int32) + (2 : Int32))).toNatClampNeg) zm b1 zm1 hq2) (cwV 2 hts (x_gV t_913 t_914 t_915 t_7 t_916) rfl rfl rfl (by decide +kernel) ⟨Nat.le_of_ble_eq_true rfl, Nat.le_of_ble_eq_true rfl⟩) ⟨m_blind _ _ _, va_recv hK hP (ci := 5) (q0 := 0) rfl (m_lk_M (g_M G ax am n z1) _), fun U hU hW => ⟨rfl, m_pw hP hD hK trivial hS hz hU hW⟩⟩ rfl rfl hl.1 rfl (lv_room (Nat.le_of_ble_eq_true rfl)) d_L_law_977 ⟨Nat.le_of_ble_eq_true rfl, Nat.le_of_ble_eq_true rfl⟩) hS (fun q _ h => h) (fun q h => h) (fun ra u t H locs ht hvm hw hB _ _ hS => ?_)
  obtain ⟨rfl, rfl⟩ := hw
  obtain ⟨hP, hD⟩ := m_back hB ht
  refine lv_istore (lv' := [(6, .int b1), (5, .int r1), (0, .ref b), (1, .ref (ax 0)), (2, .ref (am 0)), (3, .ref (ax 110)), (4, .int (1 : Int32))]) hx hb d_L_law_980 hl (by decide) rfl (fun ls hl => ?_)
  refine lv_aload_n hx hb d_L_law_982 rfl (lv_at hl 4 rfl) ?_
  refine va_calli (va_runV (As := []) (rest := []) ⟨hx, hb, hml, hown, hts⟩ (c_M_thrown l (g_M G ax am n z1) zm1 (zm1.1 0 0) zm1 rfl) (cwV 0 hts (x_gV t_767 t_768 t_769 t_7 t_770) rfl rfl rfl (by decide +kernel) ⟨Nat.le_of_ble_eq_true rfl, Nat.le_of_ble_eq_true rfl⟩) ⟨m_blind _ _ _, va_recv hK hP (ci := 5) (q0 := 0) rfl (m_lk_M (g_M G ax am n z1) _), fun U hU hW => ⟨rfl, m_pw hP hD hK trivial hS hz hU hW⟩⟩ rfl rfl hl.1 rfl (lv_room (Nat.le_of_ble_eq_true rfl)) d_L_law_983 ⟨Nat.le_of_ble_eq_true rfl, Nat.le_of_ble_eq_true rfl⟩) hS (fun q _ h => h) (fun q h => h) (fun ra u t H locs ht hvm hw hB _ _ hS => ?_)
  obtain ⟨hw1, hw2⟩ := hw
  subst hw1
  rw [← hw2] at hB
  obtain ⟨hP, hD⟩ := m_back hB ht
  refine lv_iload hx hb d_L_law_986 (lv_at hl 1 rfl) ?_
  refine lv_icmp_eq (tgt := 993) hx hb d_L_law_988 (by decide) (fun _ => ?_) (fun hc => absurd hth hc)
  refine lv_iload hx hb d_L_law_993 (lv_at hl 1 rfl) ?_
  refine lv_if_ne (tgt := 1010) hx hb d_L_law_995 (by decide) (fun _ => ?_) (fun hc0 => ?_)
  · refine lv_goto (tgt := 1038) hx hb d_L_law_1010 (by decide) ?_
    refine W.widen (k := 600) (n := 20000) (Nat.le_of_ble_eq_true rfl) (Nat.le_of_ble_eq_true rfl) ?_
    exact l_tail l hL6 C0 G hs0 _ _ _ hS (lv_sub hl [2, 6] rfl)
  · refine lv_aload_n hx hb d_L_law_998 rfl (lv_at hl 5 rfl) ?_
    refine lv_iconst (v := (0 : Int32)) hx hb d_L_law_999 (by decide) ?_
    obtain ⟨hP, hD⟩ := l_toX hP hD
    refine va_lald hx hb hK hP 110 4 (x_lk_O (g_X G ax am n zm1) _) rfl (i := (0 : Int32)) (v_d (by decide)) d_L_law_1000 ?_
    refine lv_iload hx hb d_L_law_1001 (lv_at hl 0 rfl) ?_
    refine lv_i2l (v := (b1).toInt64) hx hb d_L_law_1003 rfl ?_
    refine W.lcmp hx hb d_L_law_1004 ?_
    refine lv_if_eq (tgt := 1010) hx hb d_L_law_1005 (by decide) (fun _ => ?_) (fun hc => absurd (l_cmp (hout hc0)) hc)
    refine lv_goto (tgt := 1038) hx hb d_L_law_1010 (by decide) ?_
    refine W.widen (k := 600) (n := 20000) (Nat.le_of_ble_eq_true rfl) (Nat.le_of_ble_eq_true rfl) ?_
    exact l_tail l hL6 C0 G hs0 _ _ _ hS (lv_sub hl [2, 6] rfl)
set_option maxHeartbeats 4000000 in
set_option maxRecDepth 100000 in
theorem l_case_15 {p : Program} {e : Env} {s : State} {m : MethodId} {below : List Frame} {meth : Method} {c : Code} (l : Launch) {b L : Nat} {xs : Nat → Int32} (hL6 : L = 6) (C0 : lw_At p s m meth c b L xs) (G : x_G) (hs0 : x_s0 G = s.heap.size) (hl9 : l.stackTraces = false) (n : Nat) (hn : n ≤ 40) (hK : va_K (x_D G) vwCl (x_ty G) s) (hG : x_GV G s s.heap) (ax am : Nat → Nat) (zm : x_St) (hm : m_fr n zm) (H : Heap) (locs : List Loc) (ls : Array Slot) (hP : va_P (x_D G) vwCl (x_Wd (g_X G ax am n zm) (x_z0 n)) H) (hD : va_D (x_A G) (x_Wd (g_X G ax am n zm) (x_z0 n))) (hS : va_S (x_A G) s.heap H locs) (hl : lv_has ls 8 [(0, .ref b), (1, .ref (ax 0)), (2, .ref (am 0)), (3, .ref (ax 110)), (4, .int (1 : Int32))]) : W p l e room_1 s m #[Value.ref b] below meth c H locs 137 9525 (lw_Z below #[Value.ref b] s) (F0 m 1013 ls []) := by
  obtain ⟨hx, hb, hr, hml, hown, hts9, hX, hbl, hlocks, hgv⟩ := id C0
  have hown : s.vm.findClass "ContentLibraryLaw" = some m.cls := hown
  have hts : ∀ w ∈ x_big, w.before #[Value.ref b] s = true := fun w h => hts9 w (x_bg h).1
  have hbA : ¬ x_A G b := fun h => absurd (show x_s0 G ≤ b from h) (by omega)
  have hz : x_s0 G ≤ s.heap.size := Nat.le_of_eq hs0
  have hG1 : ∀ (ad : Nat → Nat) (n : Nat) (rs : va_W), x_GV (x_mk G ad n rs) s s.heap := fun _ _ _ => hG
  refine lv_aload_n hx hb d_L_law_1013 rfl (lv_at hl 1 rfl) ?_
  refine lv_aload_n hx hb d_L_law_1014 rfl (lv_at hl 0 rfl) ?_
  refine lv_iload hx hb d_L_law_1015 (lv_at hl 4 rfl) ?_
  refine lv_iconst (v := (1 : Int32)) hx hb d_L_law_1017 (by decide) ?_
  refine lv_iadd hx hb d_L_law_1018 ?_
  refine va_sld hx hb hX hbl hbA hS (i := ((1 : Int32) + (1 : Int32))) (by rw [hL6]; exact v_d (by decide)) d_L_law_1019 ?_
  obtain ⟨r1, z1, zm1, hq1, hq2⟩ := v_told (x_fr0 n) hm hn (xs (((1 : Int32) + (1 : Int32))).toNatClampNeg)
  refine va_calli (va_runV (As := [.int (xs (((1 : Int32) + (1 : Int32))).toNatClampNeg)]) (rest := []) ⟨hx, hb, hml, hown, hts⟩ (c_X_told l (g_X G ax am n zm) (xs (((1 : Int32) + (1 : Int32))).toNatClampNeg) (x_z0 n) r1 z1 hq1) (cwV 1 hts (x_gV t_310 t_311 t_312 t_1 t_313) rfl rfl rfl (by decide +kernel) ⟨Nat.le_of_ble_eq_true rfl, Nat.le_of_ble_eq_true rfl⟩) ⟨x_blind _ _ _, va_recv hK hP (ci := 0) (q0 := 0) rfl (x_lk_X (g_X G ax am n zm) _), fun U hU hW => ⟨rfl, x_pw hP hD hK (hG1 _ _ _) hS hz hU hW⟩⟩ rfl rfl hl.1 rfl (lv_room (Nat.le_of_ble_eq_true rfl)) d_L_law_1020 ⟨Nat.le_of_ble_eq_true rfl, Nat.le_of_ble_eq_true rfl⟩) hS (fun q _ h => h) (fun q h => h) (fun ra u t H locs ht hvm hw hB _ _ hS => ?_)
  obtain ⟨rfl, rfl⟩ := hw
  obtain ⟨hP, hD⟩ := x_back hB ht
  refine lv_aload_n hx hb d_L_law_1023 rfl (lv_at hl 2 rfl) ?_
  refine lv_aload_n hx hb d_L_law_1024 rfl (lv_at hl 0 rfl) ?_
  refine lv_iload hx hb d_L_law_1025 (lv_at hl 4 rfl) ?_
  refine lv_iconst (v := (1 : Int32)) hx hb d_L_law_1027 (by decide) ?_
  refine lv_iadd hx hb d_L_law_1028 ?_
  refine va_sld hx hb hX hbl hbA hS (i := ((1 : Int32) + (1 : Int32))) (by rw [hL6]; exact v_d (by decide)) d_L_law_1029 ?_
  obtain ⟨hP, hD⟩ := l_toM hP hD
  refine va_calli (va_runV (As := [.int (xs (((1 : Int32) + (1 : Int32))).toNatClampNeg)]) (rest := [.int r1]) ⟨hx, hb, hml, hown, hts⟩ (c_M_told l (g_M G ax am n z1) (xs (((1 : Int32) + (1 : Int32))).toNatClampNeg) zm r1 zm1 hq2) (cwV 1 hts (x_gV t_917 t_918 t_919 t_7 t_920) rfl rfl rfl (by decide +kernel) ⟨Nat.le_of_ble_eq_true rfl, Nat.le_of_ble_eq_true rfl⟩) ⟨m_blind _ _ _, va_recv hK hP (ci := 5) (q0 := 0) rfl (m_lk_M (g_M G ax am n z1) _), fun U hU hW => ⟨rfl, m_pw hP hD hK trivial hS hz hU hW⟩⟩ rfl rfl hl.1 rfl (lv_room (Nat.le_of_ble_eq_true rfl)) d_L_law_1030 ⟨Nat.le_of_ble_eq_true rfl, Nat.le_of_ble_eq_true rfl⟩) hS (fun q _ h => h) (fun q h => h) (fun ra u t H locs ht hvm hw hB _ _ hS => ?_)
  obtain ⟨rfl, rfl⟩ := hw
  obtain ⟨hP, hD⟩ := m_back hB ht
  refine lv_icmp_eq (tgt := 1038) hx hb d_L_law_1033 (by decide) (fun _ => ?_) (fun hc => absurd rfl hc)
  refine W.widen (k := 600) (n := 20000) (Nat.le_of_ble_eq_true rfl) (Nat.le_of_ble_eq_true rfl) ?_
  exact l_tail l hL6 C0 G hs0 _ _ _ hS (lv_sub hl [0, 4] rfl)
