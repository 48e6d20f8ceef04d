theorem t_660 : Cond.methodLink "ContentLibraryModel" 1 (⟨"java/lang/Object", "<init>", "()V"⟩ : MethodName) ∈ x_big := x_bt 660 (by decide +kernel) (by decide +kernel)
theorem t_681 : Cond.fieldLink "ContentLibraryModel" 30 "ContentLibraryModel" "samples" "[I" ∈ x_big := x_bt 681 (by decide +kernel) (by decide +kernel)
theorem t_686 : Cond.fieldLink "ContentLibraryModel" 45 "ContentLibraryModel" "markAt" "[I" ∈ x_big := x_bt 686 (by decide +kernel) (by decide +kernel)
theorem t_687 : Cond.fieldLink "ContentLibraryModel" 48 "ContentLibraryModel" "records" "[I" ∈ x_big := x_bt 687 (by decide +kernel) (by decide +kernel)
theorem t_688 : Cond.fieldLink "ContentLibraryModel" 51 "ContentLibraryModel" "recordAt" "[I" ∈ x_big := x_bt 688 (by decide +kernel) (by decide +kernel)
theorem t_694 : Cond.fieldLink "ContentLibraryModel" 67 "ContentLibraryModel" "rounds" "[I" ∈ x_big := x_bt 694 (by decide +kernel) (by decide +kernel)
theorem t_695 : Cond.fieldLink "ContentLibraryModel" 70 "ContentLibraryModel" "roots" "[I" ∈ x_big := x_bt 695 (by decide +kernel) (by decide +kernel)
theorem t_696 : Cond.fieldLink "ContentLibraryModel" 73 "ContentLibraryModel" "words" "[I" ∈ x_big := x_bt 696 (by decide +kernel) (by decide +kernel)
theorem t_697 : Cond.fieldLink "ContentLibraryModel" 76 "ContentLibraryModel" "state" "[I" ∈ x_big := x_bt 697 (by decide +kernel) (by decide +kernel)
theorem t_698 : Cond.fieldLink "ContentLibraryModel" 79 "ContentLibraryModel" "message" "[I" ∈ x_big := x_bt 698 (by decide +kernel) (by decide +kernel)
theorem t_700 : Cond.fieldLink "ContentLibraryModel" 82 "ContentLibraryModel" "first" "[I" ∈ x_big := x_bt 700 (by decide +kernel) (by decide +kernel)
theorem t_701 : Cond.fieldLink "ContentLibraryModel" 85 "ContentLibraryModel" "chosen" "[I" ∈ x_big := x_bt 701 (by decide +kernel) (by decide +kernel)
theorem t_702 : Cond.fieldLink "ContentLibraryModel" 88 "ContentLibraryModel" "chosenDigest" "[I" ∈ x_big := x_bt 702 (by decide +kernel) (by decide +kernel)
theorem t_766 : Cond.arrayClass .long ∈ x_big := x_bt 766 (by decide +kernel) (by decide +kernel)
theorem d_M_init_0 : decode prog_7_method_1_code 0 = .ok (.aload_n 0, 1) := by decide +kernel
theorem d_M_init_1 : decode prog_7_method_1_code 1 = .ok (.invokespecial 1, 3) := by decide +kernel
theorem d_M_init_4 : decode prog_7_method_1_code 4 = .ok (.aload_n 0, 1) := by decide +kernel
theorem d_M_init_5 : decode prog_7_method_1_code 5 = .ok (.sipush 2560, 3) := by decide +kernel
theorem d_M_init_8 : decode prog_7_method_1_code 8 = .ok (.newarray .int, 2) := by decide +kernel
theorem d_M_init_10 : decode prog_7_method_1_code 10 = .ok (.putfield 7, 3) := by decide +kernel
theorem d_M_init_13 : decode prog_7_method_1_code 13 = .ok (.aload_n 0, 1) := by decide +kernel
theorem d_M_init_14 : decode prog_7_method_1_code 14 = .ok (.iconst (-1), 1) := by decide +kernel
theorem d_M_init_15 : decode prog_7_method_1_code 15 = .ok (.putfield 13, 3) := by decide +kernel
theorem d_M_init_18 : decode prog_7_method_1_code 18 = .ok (.aload_n 0, 1) := by decide +kernel
theorem d_M_init_19 : decode prog_7_method_1_code 19 = .ok (.bipush 8, 2) := by decide +kernel
theorem d_M_init_21 : decode prog_7_method_1_code 21 = .ok (.newarray .boolean, 2) := by decide +kernel
theorem d_M_init_23 : decode prog_7_method_1_code 23 = .ok (.putfield 17, 3) := by decide +kernel
theorem d_M_init_26 : decode prog_7_method_1_code 26 = .ok (.aload_n 0, 1) := by decide +kernel
theorem d_M_init_27 : decode prog_7_method_1_code 27 = .ok (.bipush 8, 2) := by decide +kernel
theorem d_M_init_29 : decode prog_7_method_1_code 29 = .ok (.newarray .int, 2) := by decide +kernel
theorem d_M_init_31 : decode prog_7_method_1_code 31 = .ok (.putfield 21, 3) := by decide +kernel
theorem d_M_init_34 : decode prog_7_method_1_code 34 = .ok (.aload_n 0, 1) := by decide +kernel
theorem d_M_init_35 : decode prog_7_method_1_code 35 = .ok (.bipush 8, 2) := by decide +kernel
theorem d_M_init_37 : decode prog_7_method_1_code 37 = .ok (.newarray .int, 2) := by decide +kernel
theorem d_M_init_39 : decode prog_7_method_1_code 39 = .ok (.putfield 24, 3) := by decide +kernel
theorem d_M_init_42 : decode prog_7_method_1_code 42 = .ok (.aload_n 0, 1) := by decide +kernel
theorem d_M_init_43 : decode prog_7_method_1_code 43 = .ok (.bipush 8, 2) := by decide +kernel
theorem d_M_init_45 : decode prog_7_method_1_code 45 = .ok (.newarray .int, 2) := by decide +kernel
theorem d_M_init_47 : decode prog_7_method_1_code 47 = .ok (.putfield 27, 3) := by decide +kernel
theorem d_M_init_50 : decode prog_7_method_1_code 50 = .ok (.aload_n 0, 1) := by decide +kernel
theorem d_M_init_51 : decode prog_7_method_1_code 51 = .ok (.sipush 512, 3) := by decide +kernel
theorem d_M_init_54 : decode prog_7_method_1_code 54 = .ok (.newarray .int, 2) := by decide +kernel
theorem d_M_init_56 : decode prog_7_method_1_code 56 = .ok (.putfield 30, 3) := by decide +kernel
theorem d_M_init_59 : decode prog_7_method_1_code 59 = .ok (.aload_n 0, 1) := by decide +kernel
theorem d_M_init_60 : decode prog_7_method_1_code 60 = .ok (.bipush 16, 2) := by decide +kernel
theorem d_M_init_62 : decode prog_7_method_1_code 62 = .ok (.newarray .boolean, 2) := by decide +kernel
theorem d_M_init_64 : decode prog_7_method_1_code 64 = .ok (.putfield 33, 3) := by decide +kernel
theorem d_M_init_67 : decode prog_7_method_1_code 67 = .ok (.aload_n 0, 1) := by decide +kernel
theorem d_M_init_68 : decode prog_7_method_1_code 68 = .ok (.bipush 16, 2) := by decide +kernel
theorem d_M_init_70 : decode prog_7_method_1_code 70 = .ok (.newarray .int, 2) := by decide +kernel
theorem d_M_init_72 : decode prog_7_method_1_code 72 = .ok (.putfield 36, 3) := by decide +kernel
theorem d_M_init_75 : decode prog_7_method_1_code 75 = .ok (.aload_n 0, 1) := by decide +kernel
theorem d_M_init_76 : decode prog_7_method_1_code 76 = .ok (.bipush 16, 2) := by decide +kernel
theorem d_M_init_78 : decode prog_7_method_1_code 78 = .ok (.newarray .int, 2) := by decide +kernel
theorem d_M_init_80 : decode prog_7_method_1_code 80 = .ok (.putfield 39, 3) := by decide +kernel
theorem d_M_init_83 : decode prog_7_method_1_code 83 = .ok (.aload_n 0, 1) := by decide +kernel
theorem d_M_init_84 : decode prog_7_method_1_code 84 = .ok (.sipush 1024, 3) := by decide +kernel
theorem d_M_init_87 : decode prog_7_method_1_code 87 = .ok (.newarray .int, 2) := by decide +kernel
theorem d_M_init_89 : decode prog_7_method_1_code 89 = .ok (.putfield 42, 3) := by decide +kernel
theorem d_M_init_92 : decode prog_7_method_1_code 92 = .ok (.aload_n 0, 1) := by decide +kernel
theorem d_M_init_93 : decode prog_7_method_1_code 93 = .ok (.bipush 16, 2) := by decide +kernel
theorem d_M_init_95 : decode prog_7_method_1_code 95 = .ok (.newarray .int, 2) := by decide +kernel
theorem d_M_init_97 : decode prog_7_method_1_code 97 = .ok (.putfield 45, 3) := by decide +kernel
theorem d_M_init_100 : decode prog_7_method_1_code 100 = .ok (.aload_n 0, 1) := by decide +kernel
theorem d_M_init_101 : decode prog_7_method_1_code 101 = .ok (.bipush 16, 2) := by decide +kernel
theorem d_M_init_103 : decode prog_7_method_1_code 103 = .ok (.newarray .int, 2) := by decide +kernel
theorem d_M_init_105 : decode prog_7_method_1_code 105 = .ok (.putfield 48, 3) := by decide +kernel
theorem d_M_init_108 : decode prog_7_method_1_code 108 = .ok (.aload_n 0, 1) := by decide +kernel
theorem d_M_init_109 : decode prog_7_method_1_code 109 = .ok (.bipush 32, 2) := by decide +kernel
theorem d_M_init_111 : decode prog_7_method_1_code 111 = .ok (.newarray .int, 2) := by decide +kernel
theorem d_M_init_113 : decode prog_7_method_1_code 113 = .ok (.putfield 51, 3) := by decide +kernel
theorem d_M_init_116 : decode prog_7_method_1_code 116 = .ok (.aload_n 0, 1) := by decide +kernel
theorem d_M_init_117 : decode prog_7_method_1_code 117 = .ok (.bipush 16, 2) := by decide +kernel
theorem d_M_init_119 : decode prog_7_method_1_code 119 = .ok (.newarray .long, 2) := by decide +kernel
theorem d_M_init_121 : decode prog_7_method_1_code 121 = .ok (.putfield 54, 3) := by decide +kernel
theorem d_M_init_124 : decode prog_7_method_1_code 124 = .ok (.aload_n 0, 1) := by decide +kernel
theorem d_M_init_125 : decode prog_7_method_1_code 125 = .ok (.bipush 40, 2) := by decide +kernel
theorem d_M_init_127 : decode prog_7_method_1_code 127 = .ok (.newarray .int, 2) := by decide +kernel
theorem d_M_init_129 : decode prog_7_method_1_code 129 = .ok (.putfield 58, 3) := by decide +kernel
theorem d_M_init_132 : decode prog_7_method_1_code 132 = .ok (.aload_n 0, 1) := by decide +kernel
theorem d_M_init_133 : decode prog_7_method_1_code 133 = .ok (.bipush 16, 2) := by decide +kernel
theorem d_M_init_135 : decode prog_7_method_1_code 135 = .ok (.newarray .int, 2) := by decide +kernel
theorem d_M_init_137 : decode prog_7_method_1_code 137 = .ok (.putfield 61, 3) := by decide +kernel
theorem d_M_init_140 : decode prog_7_method_1_code 140 = .ok (.aload_n 0, 1) := by decide +kernel
theorem d_M_init_141 : decode prog_7_method_1_code 141 = .ok (.bipush 16, 2) := by decide +kernel
theorem d_M_init_143 : decode prog_7_method_1_code 143 = .ok (.newarray .int, 2) := by decide +kernel
theorem d_M_init_145 : decode prog_7_method_1_code 145 = .ok (.putfield 64, 3) := by decide +kernel
theorem d_M_init_148 : decode prog_7_method_1_code 148 = .ok (.aload_n 0, 1) := by decide +kernel
theorem d_M_init_149 : decode prog_7_method_1_code 149 = .ok (.bipush 64, 2) := by decide +kernel
theorem d_M_init_151 : decode prog_7_method_1_code 151 = .ok (.newarray .int, 2) := by decide +kernel
theorem d_M_init_153 : decode prog_7_method_1_code 153 = .ok (.putfield 67, 3) := by decide +kernel
theorem d_M_init_156 : decode prog_7_method_1_code 156 = .ok (.aload_n 0, 1) := by decide +kernel
theorem d_M_init_157 : decode prog_7_method_1_code 157 = .ok (.bipush 8, 2) := by decide +kernel
theorem d_M_init_159 : decode prog_7_method_1_code 159 = .ok (.newarray .int, 2) := by decide +kernel
theorem d_M_init_161 : decode prog_7_method_1_code 161 = .ok (.putfield 70, 3) := by decide +kernel
theorem d_M_init_164 : decode prog_7_method_1_code 164 = .ok (.aload_n 0, 1) := by decide +kernel
theorem d_M_init_165 : decode prog_7_method_1_code 165 = .ok (.bipush 64, 2) := by decide +kernel
theorem d_M_init_167 : decode prog_7_method_1_code 167 = .ok (.newarray .int, 2) := by decide +kernel
theorem d_M_init_169 : decode prog_7_method_1_code 169 = .ok (.putfield 73, 3) := by decide +kernel
theorem d_M_init_172 : decode prog_7_method_1_code 172 = .ok (.aload_n 0, 1) := by decide +kernel
theorem d_M_init_173 : decode prog_7_method_1_code 173 = .ok (.bipush 8, 2) := by decide +kernel
theorem d_M_init_175 : decode prog_7_method_1_code 175 = .ok (.newarray .int, 2) := by decide +kernel
theorem d_M_init_177 : decode prog_7_method_1_code 177 = .ok (.putfield 76, 3) := by decide +kernel
theorem d_M_init_180 : decode prog_7_method_1_code 180 = .ok (.aload_n 0, 1) := by decide +kernel
theorem d_M_init_181 : decode prog_7_method_1_code 181 = .ok (.sipush 128, 3) := by decide +kernel
theorem d_M_init_184 : decode prog_7_method_1_code 184 = .ok (.newarray .int, 2) := by decide +kernel
theorem d_M_init_186 : decode prog_7_method_1_code 186 = .ok (.putfield 79, 3) := by decide +kernel
theorem d_M_init_189 : decode prog_7_method_1_code 189 = .ok (.aload_n 0, 1) := by decide +kernel
theorem d_M_init_190 : decode prog_7_method_1_code 190 = .ok (.bipush 8, 2) := by decide +kernel
theorem d_M_init_192 : decode prog_7_method_1_code 192 = .ok (.newarray .int, 2) := by decide +kernel
theorem d_M_init_194 : decode prog_7_method_1_code 194 = .ok (.putfield 82, 3) := by decide +kernel
theorem d_M_init_197 : decode prog_7_method_1_code 197 = .ok (.aload_n 0, 1) := by decide +kernel
theorem d_M_init_198 : decode prog_7_method_1_code 198 = .ok (.iconst 3, 1) := by decide +kernel
theorem d_M_init_199 : decode prog_7_method_1_code 199 = .ok (.newarray .int, 2) := by decide +kernel
theorem d_M_init_201 : decode prog_7_method_1_code 201 = .ok (.putfield 85, 3) := by decide +kernel
theorem d_M_init_204 : decode prog_7_method_1_code 204 = .ok (.aload_n 0, 1) := by decide +kernel
theorem d_M_init_205 : decode prog_7_method_1_code 205 = .ok (.bipush 8, 2) := by decide +kernel
theorem d_M_init_207 : decode prog_7_method_1_code 207 = .ok (.newarray .int, 2) := by decide +kernel
theorem d_M_init_209 : decode prog_7_method_1_code 209 = .ok (.putfield 88, 3) := by decide +kernel
abbrev rm_M_init : Room := { frames := 4, cells := 25, slots := 4619, locals := 120 }
set_option maxHeartbeats 8000000 in
set_option maxRecDepth 100000 in
theorem w_M_init_0 (l : Launch) (G : x_G) (p1 : Int32) {p : Program} {e : Env} {s : State} {m : MethodId} {args : Array Value} {below : List Frame} {meth : Method} {cd : Code} {Q : State → Prop} (C0 : x_Ctx G p s m args meth cd prog_7_method_1_code "ContentLibraryModel" 4 none) (hin : meth.name = "<init>") (ad : Nat → Nat) (c : Nat → va_E) (t k : Nat) (hk : k < t) (hck : c k = .inr (5, [.int 0, .int 0, .null, .int 0, .int 0, .null, .null, .null, .null, .null, .null, .null, .null, .null, .null, .null, .null, .null, .null, .int 0, .null, .null, .null, .null, .null, .null, .null, .int 0, .null, .null, .null])) (K : ∀ (ad1 : Nat → Nat) (c1 : Nat → va_E) (H : Heap) (locs : List Loc) (ls : Array Slot), (ad1 k = ad k) → (∀ j, j < t → ad1 j = ad j) → (c1 k = .inr (5, [.int 0, .int 0, .ref (ad1 t), .int 0, .int (-1 : Int32), .ref (ad1 (t + 1)), .ref (ad1 (t + 1 + 1)), .ref (ad1 (t + 1 + 1 + 1)), .ref (ad1 (t + 1 + 1 + 1 + 1)), .ref (ad1 (t + 1 + 1 + 1 + 1 + 1)), .ref (ad1 (t + 1 + 1 + 1 + 1 + 1 + 1)), .ref (ad1 (t + 1 + 1 + 1 + 1 + 1 + 1 + 1)), .ref (ad1 (t + 1 + 1 + 1 + 1 + 1 + 1 + 1 + 1)), .ref (ad1 (t + 1 + 1 + 1 + 1 + 1 + 1 + 1 + 1 + 1)), .ref (ad1 (t + 1 + 1 + 1 + 1 + 1 + 1 + 1 + 1 + 1 + 1)), .ref (ad1 (t + 1 + 1 + 1 + 1 + 1 + 1 + 1 + 1 + 1 + 1 + 1)), .ref (ad1 (t + 1 + 1 + 1 + 1 + 1 + 1 + 1 + 1 + 1 + 1 + 1 + 1)), .ref (ad1 (t + 1 + 1 + 1 + 1 + 1 + 1 + 1 + 1 + 1 + 1 + 1 + 1 + 1)), .ref (ad1 (t + 1 + 1 + 1 + 1 + 1 + 1 + 1 + 1 + 1 + 1 + 1 + 1 + 1 + 1)), .int 0, .ref (ad1 (t + 1 + 1 + 1 + 1 + 1 + 1 + 1 + 1 + 1 + 1 + 1 + 1 + 1 + 1 + 1)), .ref (ad1 (t + 1 + 1 + 1 + 1 + 1 + 1 + 1 + 1 + 1 + 1 + 1 + 1 + 1 + 1 + 1 + 1)), .ref (ad1 (t + 1 + 1 + 1 + 1 + 1 + 1 + 1 + 1 + 1 + 1 + 1 + 1 + 1 + 1 + 1 + 1 + 1)), .ref (ad1 (t + 1 + 1 + 1 + 1 + 1 + 1 + 1 + 1 + 1 + 1 + 1 + 1 + 1 + 1 + 1 + 1 + 1 + 1)), .ref (ad1 (t + 1 + 1 + 1 + 1 + 1 + 1 + 1 + 1 + 1 + 1 + 1 + 1 + 1 + 1 + 1 + 1 + 1 + 1 + 1)), .ref (ad1 (t + 1 + 1 + 1 + 1 + 1 + 1 + 1 + 1 + 1 + 1 + 1 + 1 + 1 + 1 + 1 + 1 + 1 + 1 + 1 + 1)), .ref (ad1 (t + 1 + 1 + 1 + 1 + 1 + 1 + 1 + 1 + 1 + 1 + 1 + 1 + 1 + 1 + 1 + 1 + 1 + 1 + 1 + 1 + 1)), .int 0, .ref (ad1 (t + 1 + 1 + 1 + 1 + 1 + 1 + 1 + 1 + 1 + 1 + 1 + 1 + 1 + 1 + 1 + 1 + 1 + 1 + 1 + 1 + 1 + 1)), .ref (ad1 (t + 1 + 1 + 1 + 1 + 1 + 1 + 1 + 1 + 1 + 1 + 1 + 1 + 1 + 1 + 1 + 1 + 1 + 1 + 1 + 1 + 1 + 1 + 1)), .ref (ad1 (t + 1 + 1 + 1 + 1 + 1 + 1 + 1 + 1 + 1 + 1 + 1 + 1 + 1 + 1 + 1 + 1 + 1 + 1 + 1 + 1 + 1 + 1 + 1 + 1))])) → (c1 t = .inl (x_ca G 0, 2560, .inl (fun _ => (0 : Int32)))) → (c1 (t + 1) = .inl (x_ca G 1, 8, .inl (fun _ => (0 : Int32)))) → (c1 (t + 1 + 1) = .inl (x_ca G 0, 8, .inl (fun _ => (0 : Int32)))) → (c1 (t + 1 + 1 + 1) = .inl (x_ca G 0, 8, .inl (fun _ => (0 : Int32)))) → (c1 (t + 1 + 1 + 1 + 1) = .inl (x_ca G 0, 8, .inl (fun _ => (0 : Int32)))) → (c1 (t + 1 + 1 + 1 + 1 + 1) = .inl (x_ca G 0, 512, .inl (fun _ => (0 : Int32)))) → (c1 (t + 1 + 1 + 1 + 1 + 1 + 1) = .inl (x_ca G 1, 16, .inl (fun _ => (0 : Int32)))) → (c1 (t + 1 + 1 + 1 + 1 + 1 + 1 + 1) = .inl (x_ca G 0, 16, .inl (fun _ => (0 : Int32)))) → (c1 (t + 1 + 1 + 1 + 1 + 1 + 1 + 1 + 1) = .inl (x_ca G 0, 16, .inl (fun _ => (0 : Int32)))) → (c1 (t + 1 + 1 + 1 + 1 + 1 + 1 + 1 + 1 + 1) = .inl (x_ca G 0, 1024, .inl (fun _ => (0 : Int32)))) → (c1 (t + 1 + 1 + 1 + 1 + 1 + 1 + 1 + 1 + 1 + 1) = .inl (x_ca G 0, 16, .inl (fun _ => (0 : Int32)))) → (c1 (t + 1 + 1 + 1 + 1 + 1 + 1 + 1 + 1 + 1 + 1 + 1) = .inl (x_ca G 0, 16, .inl (fun _ => (0 : Int32)))) → (c1 (t + 1 + 1 + 1 + 1 + 1 + 1 + 1 + 1 + 1 + 1 + 1 + 1) = .inl (x_ca G 0, 32, .inl (fun _ => (0 : Int32)))) → (c1 (t + 1 + 1 + 1 + 1 + 1 + 1 + 1 + 1 + 1 + 1 + 1 + 1 + 1) = .inl (x_ca G 4, 16, .inr (.inl (fun _ => (0 : Int64))))) → (c1 (t + 1 + 1 + 1 + 1 + 1 + 1 + 1 + 1 + 1 + 1 + 1 + 1 + 1 + 1) = .inl (x_ca G 0, 40, .inl (fun _ => (0 : Int32)))) → (c1 (t + 1 + 1 + 1 + 1 + 1 + 1 + 1 + 1 + 1 + 1 + 1 + 1 + 1 + 1 + 1) = .inl (x_ca G 0, 16, .inl (fun _ => (0 : Int32)))) → (c1 (t + 1 + 1 + 1 + 1 + 1 + 1 + 1 + 1 + 1 + 1 + 1 + 1 + 1 + 1 + 1 + 1) = .inl (x_ca G 0, 16, .inl (fun _ => (0 : Int32)))) → (c1 (t + 1 + 1 + 1 + 1 + 1 + 1 + 1 + 1 + 1 + 1 + 1 + 1 + 1 + 1 + 1 + 1 + 1) = .inl (x_ca G 0, 64, .inl (fun _ => (0 : Int32)))) → (c1 (t + 1 + 1 + 1 + 1 + 1 + 1 + 1 + 1 + 1 + 1 + 1 + 1 + 1 + 1 + 1 + 1 + 1 + 1) = .inl (x_ca G 0, 8, .inl (fun _ => (0 : Int32)))) → (c1 (t + 1 + 1 + 1 + 1 + 1 + 1 + 1 + 1 + 1 + 1 + 1 + 1 + 1 + 1 + 1 + 1 + 1 + 1 + 1) = .inl (x_ca G 0, 64, .inl (fun _ => (0 : Int32)))) → (c1 (t + 1 + 1 + 1 + 1 + 1 + 1 + 1 + 1 + 1 + 1 + 1 + 1 + 1 + 1 + 1 + 1 + 1 + 1 + 1 + 1) = .inl (x_ca G 0, 8, .inl (fun _ => (0 : Int32)))) → (c1 (t + 1 + 1 + 1 + 1 + 1 + 1 + 1 + 1 + 1 + 1 + 1 + 1 + 1 + 1 + 1 + 1 + 1 + 1 + 1 + 1 + 1) = .inl (x_ca G 0, 128, .inl (fun _ => (0 : Int32)))) → (c1 (t + 1 + 1 + 1 + 1 + 1 + 1 + 1 + 1 + 1 + 1 + 1 + 1 + 1 + 1 + 1 + 1 + 1 + 1 + 1 + 1 + 1 + 1) = .inl (x_ca G 0, 8, .inl (fun _ => (0 : Int32)))) → (c1 (t + 1 + 1 + 1 + 1 + 1 + 1 + 1 + 1 + 1 + 1 + 1 + 1 + 1 + 1 + 1 + 1 + 1 + 1 + 1 + 1 + 1 + 1 + 1) = .inl (x_ca G 0, 3, .inl (fun _ => (0 : Int32)))) → (c1 (t + 1 + 1 + 1 + 1 + 1 + 1 + 1 + 1 + 1 + 1 + 1 + 1 + 1 + 1 + 1 + 1 + 1 + 1 + 1 + 1 + 1 + 1 + 1 + 1) = .inl (x_ca G 0, 8, .inl (fun _ => (0 : Int32)))) → (∀ j, j < t → j ≠ k → c1 j = c j) → va_P (x_D G) vwCl (y_W ad1 c1 (t + 1 + 1 + 1 + 1 + 1 + 1 + 1 + 1 + 1 + 1 + 1 + 1 + 1 + 1 + 1 + 1 + 1 + 1 + 1 + 1 + 1 + 1 + 1 + 1 + 1)) H → va_D (x_A G) (y_W ad1 c1 (t + 1 + 1 + 1 + 1 + 1 + 1 + 1 + 1 + 1 + 1 + 1 + 1 + 1 + 1 + 1 + 1 + 1 + 1 + 1 + 1 + 1 + 1 + 1 + 1 + 1)) → va_S (x_A G) s.heap H locs → lv_has ls 4 [(0, .ref (ad k)), (1, .int p1)] → W p l e rm_M_init s m args below meth cd H locs 25 4619 Q (F0 m 212 ls [])) (H : Heap) (locs : List Loc) (ls : Array Slot) (hP : va_P (x_D G) vwCl (y_W ad c t) H) (hD : va_D (x_A G) (y_W ad c t)) (hS : va_S (x_A G) s.heap H locs) (hl : lv_has ls 4 [(0, .ref (ad k)), (1, .int p1)]) : W p l e rm_M_init s m args below meth cd H locs 0 0 Q (F0 m 0 ls []) := by
  obtain ⟨hx, hb, hr, hml, hown, hts, hlocks, hz, hK, hG⟩ := id C0
  have hA : ∀ q : Nat, s.heap.size ≤ q → x_A G q := fun q h => Nat.le_trans hz h
  have f0_k : c k = .inr (5, [.int 0, .int 0, .null, .int 0, .int 0, .null, .null, .null, .null, .null, .null, .null, .null, .null, .null, .null, .null, .null, .null, .int 0, .null, .null, .null, .null, .null, .null, .null, .int 0, .null, .null, .null]) := hck
  have a0_k : ad k = ad k := rfl
  have g0 : ∀ j, j < t → j ≠ k → c j = c j := fun _ _ _ => rfl
  have b0 : ∀ j, j < t → ad j = ad j := fun _ _ => rfl
  refine lv_aload_n hx hb d_M_init_0 rfl (lv_at hl 0 rfl) ?_
  refine W.objInit hx hb hown (hts _ t_660) (hts _ t_25) (hts _ t_26) rfl (by rw [hml]; exact hl.1) rfl d_M_init_1 (Nat.le_of_ble_eq_true rfl) (Nat.le_of_ble_eq_true rfl) ?_
  refine W.eq (g2 := F0 m 4 ls []) rfl ?_
  refine lv_aload_n hx hb d_M_init_4 rfl (lv_at hl 0 rfl) ?_
  refine lv_sipush (v := (2560 : Int32)) hx hb d_M_init_5 (by decide) ?_
  refine va_newa (atype := .int) hx hb (hts _ t_58) (ty := .int) rfl hK hP hD hS hA (N' := 2560) (a0 := (2560, .inl (fun _ => (0 : Int32)))) (fun _ => rfl) (by decide) (by decide) (by decide) (Nat.le_of_ble_eq_true rfl) (Nat.le_of_ble_eq_true rfl) d_M_init_8 (fun q1 cA H hK2 hP hD hS => ?_)
  obtain rfl := y_caI hK2
  rw [y_push] at hP hD
  obtain ⟨ad1, ead1⟩ : ∃ a1, a1 = va_up ad t q1 := ⟨_, rfl⟩
  rw [← ead1] at hP hD
  have a1_k : ad1 k = (ad k) := by rw [ead1]; exact (va_up_ne _ _ (by omega)).trans a0_k
  have a1_t : ad1 t = q1 := by rw [ead1]; exact va_up_self _ _ _
  have b1 : ∀ j, j < t → ad1 j = ad j := fun j h1 => by rw [ead1]; exact (va_up_ne _ _ (by omega)).trans (b0 j h1)
  obtain ⟨c1, ec1⟩ : ∃ c1, c1 = va_up c t (.inl (x_ca G 0, 2560, .inl (fun _ => (0 : Int32)))) := ⟨_, rfl⟩
  rw [← ec1] at hP hD
  have f1_k : c1 k = .inr (5, [.int 0, .int 0, .null, .int 0, .int 0, .null, .null, .null, .null, .null, .null, .null, .null, .null, .null, .null, .null, .null, .null, .int 0, .null, .null, .null, .null, .null, .null, .null, .int 0, .null, .null, .null]) := by rw [ec1]; exact (va_up_ne _ _ (by omega)).trans f0_k
  have f1_t : c1 t = .inl (x_ca G 0, 2560, .inl (fun _ => (0 : Int32))) := by rw [ec1]; exact va_up_self _ _ _
  have g1 : ∀ j, j < t → j ≠ k → c1 j = c j := fun j h1 h2 => by rw [ec1]; exact (va_up_ne _ _ (by omega)).trans (g0 j h1 h2)
  refine va_putF (D := x_D G) (ci := 5) (v := .ref q1) (ty := .array .int) (C := "ContentLibraryModel") (T := x_TM) (N := 31) hx hb hts x_inM x_tyM x_tyM_ok x_nmM hown hK hP hD hS k (y_at (by omega) a1_k f1_k) rfl 2 (by decide) (hts _ t_674) (fun _ h9 => h9) rfl hin rfl (by decide +kernel) rfl rfl (Nat.le_of_ble_eq_true rfl) d_M_init_10 (fun H locs hP hD hS => ?_)
  rw [y_set (by omega) a1_k] at hP hD
  obtain ⟨c2, ec2⟩ : ∃ c2, c2 = va_up c1 k (.inr (5, ([.int 0, .int 0, .null, .int 0, .int 0, .null, .null, .null, .null, .null, .null, .null, .null, .null, .null, .null, .null, .null, .null, .int 0, .null, .null, .null, .null, .null, .null, .null, .int 0, .null, .null, .null] : List Value).set 2 (.ref q1))) := ⟨_, rfl⟩
  rw [← ec2] at hP hD
  have f2_t : c2 t = .inl (x_ca G 0, 2560, .inl (fun _ => (0 : Int32))) := by rw [ec2]; exact (va_up_ne _ _ (by omega)).trans f1_t
  have f2_k : c2 k = .inr (5, [.int 0, .int 0, .ref q1, .int 0, .int 0, .null, .null, .null, .null, .null, .null, .null, .null, .null, .null, .null, .null, .null, .null, .int 0, .null, .null, .null, .null, .null, .null, .null, .int 0, .null, .null, .null]) := by rw [ec2]; exact va_up_self _ _ _
  have g2 : ∀ j, j < t → j ≠ k → c2 j = c j := fun j h1 h2 => by rw [ec2]; exact (va_up_ne _ _ (by omega)).trans (g1 j h1 h2)
  clear f1_k f1_t g1 ec2
  refine lv_aload_n hx hb d_M_init_13 rfl (lv_at hl 0 rfl) ?_
  refine lv_iconst (v := (-1 : Int32)) hx hb d_M_init_14 (by decide) ?_
  refine va_put (D := x_D G) (ci := 5) (v := .int (-1 : Int32)) (ty := .int) (C := "ContentLibraryModel") (T := x_TM) (N := 31) hx hb hts x_inM x_tyM x_tyM_ok x_nmM hown hK hP hD hS k (y_at (by omega) a1_k f2_k) rfl 4 (by decide) (hts _ t_676) (fun _ h9 => h9) rfl (by decide +kernel) rfl rfl (Nat.le_of_ble_eq_true rfl) d_M_init_15 (fun H locs hP hD hS => ?_)
  rw [y_set (by omega) a1_k] at hP hD
  obtain ⟨c3, ec3⟩ : ∃ c3, c3 = va_up c2 k (.inr (5, ([.int 0, .int 0, .ref q1, .int 0, .int 0, .null, .null, .null, .null, .null, .null, .null, .null, .null, .null, .null, .null, .null, .null, .int 0, .null, .null, .null, .null, .null, .null, .null, .int 0, .null, .null, .null] : List Value).set 4 (.int (-1 : Int32)))) := ⟨_, rfl⟩
  rw [← ec3] at hP hD
  have f3_t : c3 t = .inl (x_ca G 0, 2560, .inl (fun _ => (0 : Int32))) := by rw [ec3]; exact (va_up_ne _ _ (by omega)).trans f2_t
  have f3_k : c3 k = .inr (5, [.int 0, .int 0, .ref q1, .int 0, .int (-1 : Int32), .null, .null, .null, .null, .null, .null, .null, .null, .null, .null, .null, .null, .null, .null, .int 0, .null, .null, .null, .null, .null, .null, .null, .int 0, .null, .null, .null]) := by rw [ec3]; exact va_up_self _ _ _
  have g3 : ∀ j, j < t → j ≠ k → c3 j = c j := fun j h1 h2 => by rw [ec3]; exact (va_up_ne _ _ (by omega)).trans (g2 j h1 h2)
  clear f2_k f2_t g2 ec3
  refine lv_aload_n hx hb d_M_init_18 rfl (lv_at hl 0 rfl) ?_
  refine lv_bipush (v := (8 : Int32)) hx hb d_M_init_19 (by decide) ?_
  refine va_newa (atype := .boolean) hx hb (hts _ t_79) (ty := .boolean) rfl hK hP hD hS hA (N' := 8) (a0 := (8, .inl (fun _ => (0 : Int32)))) (fun _ => rfl) (by decide) (by decide) (by decide) (Nat.le_of_ble_eq_true rfl) (Nat.le_of_ble_eq_true rfl) d_M_init_21 (fun q2 cA H hK2 hP hD hS => ?_)
  obtain rfl := y_caZ hK2
  rw [y_push] at hP hD
  obtain ⟨ad2, ead2⟩ : ∃ a1, a1 = va_up ad1 (t + 1) q2 := ⟨_, rfl⟩
  rw [← ead2] at hP hD
  have a2_k : ad2 k = (ad k) := by rw [ead2]; exact (va_up_ne _ _ (by omega)).trans a1_k
  have a2_t : ad2 t = q1 := by rw [ead2]; exact (va_up_ne _ _ (by omega)).trans a1_t
  have a2_t_1 : ad2 (t + 1) = q2 := by rw [ead2]; exact va_up_self _ _ _
  have b2 : ∀ j, j < t → ad2 j = ad j := fun j h1 => by rw [ead2]; exact (va_up_ne _ _ (by omega)).trans (b1 j h1)
  clear a1_k a1_t b1 ead2
  obtain ⟨c4, ec4⟩ : ∃ c4, c4 = va_up c3 (t + 1) (.inl (x_ca G 1, 8, .inl (fun _ => (0 : Int32)))) := ⟨_, rfl⟩
  rw [← ec4] at hP hD
  have f4_k : c4 k = .inr (5, [.int 0, .int 0, .ref q1, .int 0, .int (-1 : Int32), .null, .null, .null, .null, .null, .null, .null, .null, .null, .null, .null, .null, .null, .null, .int 0, .null, .null, .null, .null, .null, .null, .null, .int 0, .null, .null, .null]) := by rw [ec4]; exact (va_up_ne _ _ (by omega)).trans f3_k
  have f4_t : c4 t = .inl (x_ca G 0, 2560, .inl (fun _ => (0 : Int32))) := by rw [ec4]; exact (va_up_ne _ _ (by omega)).trans f3_t
  have f4_t_1 : c4 (t + 1) = .inl (x_ca G 1, 8, .inl (fun _ => (0 : Int32))) := by rw [ec4]; exact va_up_self _ _ _
  have g4 : ∀ j, j < t → j ≠ k → c4 j = c j := fun j h1 h2 => by rw [ec4]; exact (va_up_ne _ _ (by omega)).trans (g3 j h1 h2)
  clear f3_k f3_t g3 ec4
  refine va_putF (D := x_D G) (ci := 5) (v := .ref q2) (ty := .array .boolean) (C := "ContentLibraryModel") (T := x_TM) (N := 31) hx hb hts x_inM x_tyM x_tyM_ok x_nmM hown hK hP hD hS k (y_at (by omega) a2_k f4_k) rfl 5 (by decide) (hts _ t_677) (fun _ h9 => h9) rfl hin rfl (by decide +kernel) rfl rfl (Nat.le_of_ble_eq_true rfl) d_M_init_23 (fun H locs hP hD hS => ?_)
  rw [y_set (by omega) a2_k] at hP hD
  obtain ⟨c5, ec5⟩ : ∃ c5, c5 = va_up c4 k (.inr (5, ([.int 0, .int 0, .ref q1, .int 0, .int (-1 : Int32), .null, .null, .null, .null, .null, .null, .null, .null, .null, .null, .null, .null, .null, .null, .int 0, .null, .null, .null, .null, .null, .null, .null, .int 0, .null, .null, .null] : List Value).set 5 (.ref q2))) := ⟨_, rfl⟩
  rw [← ec5] at hP hD
  have f5_t : c5 t = .inl (x_ca G 0, 2560, .inl (fun _ => (0 : Int32))) := by rw [ec5]; exact (va_up_ne _ _ (by omega)).trans f4_t
  have f5_t_1 : c5 (t + 1) = .inl (x_ca G 1, 8, .inl (fun _ => (0 : Int32))) := by rw [ec5]; exact (va_up_ne _ _ (by omega)).trans f4_t_1
  have f5_k : c5 k = .inr (5, [.int 0, .int 0, .ref q1, .int 0, .int (-1 : Int32), .ref q2, .null, .null, .null, .null, .null, .null, .null, .null, .null, .null, .null, .null, .null, .int 0, .null, .null, .null, .null, .null, .null, .null, .int 0, .null, .null, .null]) := by rw [ec5]; exact va_up_self _ _ _
  have g5 : ∀ j, j < t → j ≠ k → c5 j = c j := fun j h1 h2 => by rw [ec5]; exact (va_up_ne _ _ (by omega)).trans (g4 j h1 h2)
  clear f4_k f4_t f4_t_1 g4 ec5
  refine lv_aload_n hx hb d_M_init_26 rfl (lv_at hl 0 rfl) ?_
  refine lv_bipush (v := (8 : Int32)) hx hb d_M_init_27 (by decide) ?_
  refine va_newa (atype := .int) hx hb (hts _ t_58) (ty := .int) rfl hK hP hD hS hA (N' := 8) (a0 := (8, .inl (fun _ => (0 : Int32)))) (fun _ => rfl) (by decide) (by decide) (by decide) (Nat.le_of_ble_eq_true rfl) (Nat.le_of_ble_eq_true rfl) d_M_init_29 (fun q3 cA H hK2 hP hD hS => ?_)
  obtain rfl := y_caI hK2
  rw [y_push] at hP hD
  obtain ⟨ad3, ead3⟩ : ∃ a1, a1 = va_up ad2 (t + 1 + 1) q3 := ⟨_, rfl⟩
  rw [← ead3] at hP hD
  have a3_k : ad3 k = (ad k) := by rw [ead3]; exact (va_up_ne _ _ (by omega)).trans a2_k
  have a3_t : ad3 t = q1 := by rw [ead3]; exact (va_up_ne _ _ (by omega)).trans a2_t
  have a3_t_1 : ad3 (t + 1) = q2 := by rw [ead3]; exact (va_up_ne _ _ (by omega)).trans a2_t_1
  have a3_t_1_1 : ad3 (t + 1 + 1) = q3 := by rw [ead3]; exact va_up_self _ _ _
  have b3 : ∀ j, j < t → ad3 j = ad j := fun j h1 => by rw [ead3]; exact (va_up_ne _ _ (by omega)).trans (b2 j h1)
  clear a2_k a2_t a2_t_1 b2 ead3
  obtain ⟨c6, ec6⟩ : ∃ c6, c6 = va_up c5 (t + 1 + 1) (.inl (x_ca G 0, 8, .inl (fun _ => (0 : Int32)))) := ⟨_, rfl⟩
  rw [← ec6] at hP hD
  have f6_k : c6 k = .inr (5, [.int 0, .int 0, .ref q1, .int 0, .int (-1 : Int32), .ref q2, .null, .null, .null, .null, .null, .null, .null, .null, .null, .null, .null, .null, .null, .int 0, .null, .null, .null, .null, .null, .null, .null, .int 0, .null, .null, .null]) := by rw [ec6]; exact (va_up_ne _ _ (by omega)).trans f5_k
  have f6_t : c6 t = .inl (x_ca G 0, 2560, .inl (fun _ => (0 : Int32))) := by rw [ec6]; exact (va_up_ne _ _ (by omega)).trans f5_t
  have f6_t_1 : c6 (t + 1) = .inl (x_ca G 1, 8, .inl (fun _ => (0 : Int32))) := by rw [ec6]; exact (va_up_ne _ _ (by omega)).trans f5_t_1
  have f6_t_1_1 : c6 (t + 1 + 1) = .inl (x_ca G 0, 8, .inl (fun _ => (0 : Int32))) := by rw [ec6]; exact va_up_self _ _ _
  have g6 : ∀ j, j < t → j ≠ k → c6 j = c j := fun j h1 h2 => by rw [ec6]; exact (va_up_ne _ _ (by omega)).trans (g5 j h1 h2)
  clear f5_k f5_t f5_t_1 g5 ec6
  refine va_putF (D := x_D G) (ci := 5) (v := .ref q3) (ty := .array .int) (C := "ContentLibraryModel") (T := x_TM) (N := 31) hx hb hts x_inM x_tyM x_tyM_ok x_nmM hown hK hP hD hS k (y_at (by omega) a3_k f6_k) rfl 6 (by decide) (hts _ t_678) (fun _ h9 => h9) rfl hin rfl (by decide +kernel) rfl rfl (Nat.le_of_ble_eq_true rfl) d_M_init_31 (fun H locs hP hD hS => ?_)
  rw [y_set (by omega) a3_k] at hP hD
  obtain ⟨c7, ec7⟩ : ∃ c7, c7 = va_up c6 k (.inr (5, ([.int 0, .int 0, .ref q1, .int 0, .int (-1 : Int32), .ref q2, .null, .null, .null, .null, .null, .null, .null, .null, .null, .null, .null, .null, .null, .int 0, .null, .null, .null, .null, .null, .null, .null, .int 0, .null, .null, .null] : List Value).set 6 (.ref q3))) := ⟨_, rfl⟩
  rw [← ec7] at hP hD
  have f7_t : c7 t = .inl (x_ca G 0, 2560, .inl (fun _ => (0 : Int32))) := by rw [ec7]; exact (va_up_ne _ _ (by omega)).trans f6_t
  have f7_t_1 : c7 (t + 1) = .inl (x_ca G 1, 8, .inl (fun _ => (0 : Int32))) := by rw [ec7]; exact (va_up_ne _ _ (by omega)).trans f6_t_1
  have f7_t_1_1 : c7 (t + 1 + 1) = .inl (x_ca G 0, 8, .inl (fun _ => (0 : Int32))) := by rw [ec7]; exact (va_up_ne _ _ (by omega)).trans f6_t_1_1
  have f7_k : c7 k = .inr (5, [.int 0, .int 0, .ref q1, .int 0, .int (-1 : Int32), .ref q2, .ref q3, .null, .null, .null, .null, .null, .null, .null, .null, .null, .null, .null, .null, .int 0, .null, .null, .null, .null, .null, .null, .null, .int 0, .null, .null, .null]) := by rw [ec7]; exact va_up_self _ _ _
  have g7 : ∀ j, j < t → j ≠ k → c7 j = c j := fun j h1 h2 => by rw [ec7]; exact (va_up_ne _ _ (by omega)).trans (g6 j h1 h2)
  clear f6_k f6_t f6_t_1 f6_t_1_1 g6 ec7
  refine lv_aload_n hx hb d_M_init_34 rfl (lv_at hl 0 rfl) ?_
  refine lv_bipush (v := (8 : Int32)) hx hb d_M_init_35 (by decide) ?_
  refine va_newa (atype := .int) hx hb (hts _ t_58) (ty := .int) rfl hK hP hD hS hA (N' := 8) (a0 := (8, .inl (fun _ => (0 : Int32)))) (fun _ => rfl) (by decide) (by decide) (by decide) (Nat.le_of_ble_eq_true rfl) (Nat.le_of_ble_eq_true rfl) d_M_init_37 (fun q4 cA H hK2 hP hD hS => ?_)
  obtain rfl := y_caI hK2
  rw [y_push] at hP hD
  obtain ⟨ad4, ead4⟩ : ∃ a1, a1 = va_up ad3 (t + 1 + 1 + 1) q4 := ⟨_, rfl⟩
  rw [← ead4] at hP hD
  have a4_k : ad4 k = (ad k) := by rw [ead4]; exact (va_up_ne _ _ (by omega)).trans a3_k
  have a4_t : ad4 t = q1 := by rw [ead4]; exact (va_up_ne _ _ (by omega)).trans a3_t
  have a4_t_1 : ad4 (t + 1) = q2 := by rw [ead4]; exact (va_up_ne _ _ (by omega)).trans a3_t_1
  have a4_t_1_1 : ad4 (t + 1 + 1) = q3 := by rw [ead4]; exact (va_up_ne _ _ (by omega)).trans a3_t_1_1
  have a4_t_1_1_1 : ad4 (t + 1 + 1 + 1) = q4 := by rw [ead4]; exact va_up_self _ _ _
  have b4 : ∀ j, j < t → ad4 j = ad j := fun j h1 => by rw [ead4]; exact (va_up_ne _ _ (by omega)).trans (b3 j h1)
  clear a3_k a3_t a3_t_1 a3_t_1_1 b3 ead4
  obtain ⟨c8, ec8⟩ : ∃ c8, c8 = va_up c7 (t + 1 + 1 + 1) (.inl (x_ca G 0, 8, .inl (fun _ => (0 : Int32)))) := ⟨_, rfl⟩
  rw [← ec8] at hP hD
  have f8_k : c8 k = .inr (5, [.int 0, .int 0, .ref q1, .int 0, .int (-1 : Int32), .ref q2, .ref q3, .null, .null, .null, .null, .null, .null, .null, .null, .null, .null, .null, .null, .int 0, .null, .null, .null, .null, .null, .null, .null, .int 0, .null, .null, .null]) := by rw [ec8]; exact (va_up_ne _ _ (by omega)).trans f7_k
  have f8_t : c8 t = .inl (x_ca G 0, 2560, .inl (fun _ => (0 : Int32))) := by rw [ec8]; exact (va_up_ne _ _ (by omega)).trans f7_t
  have f8_t_1 : c8 (t + 1) = .inl (x_ca G 1, 8, .inl (fun _ => (0 : Int32))) := by rw [ec8]; exact (va_up_ne _ _ (by omega)).trans f7_t_1
  have f8_t_1_1 : c8 (t + 1 + 1) = .inl (x_ca G 0, 8, .inl (fun _ => (0 : Int32))) := by rw [ec8]; exact (va_up_ne _ _ (by omega)).trans f7_t_1_1
  have f8_t_1_1_1 : c8 (t + 1 + 1 + 1) = .inl (x_ca G 0, 8, .inl (fun _ => (0 : Int32))) := by rw [ec8]; exact va_up_self _ _ _
  have g8 : ∀ j, j < t → j ≠ k → c8 j = c j := fun j h1 h2 => by rw [ec8]; exact (va_up_ne _ _ (by omega)).trans (g7 j h1 h2)
  clear f7_k f7_t f7_t_1 f7_t_1_1 g7 ec8
  refine va_putF (D := x_D G) (ci := 5) (v := .ref q4) (ty := .array .int) (C := "ContentLibraryModel") (T := x_TM) (N := 31) hx hb hts x_inM x_tyM x_tyM_ok x_nmM hown hK hP hD hS k (y_at (by omega) a4_k f8_k) rfl 7 (by decide) (hts _ t_679) (fun _ h9 => h9) rfl hin rfl (by decide +kernel) rfl rfl (Nat.le_of_ble_eq_true rfl) d_M_init_39 (fun H locs hP hD hS => ?_)
  rw [y_set (by omega) a4_k] at hP hD
  obtain ⟨c9, ec9⟩ : ∃ c9, c9 = va_up c8 k (.inr (5, ([.int 0, .int 0, .ref q1, .int 0, .int (-1 : Int32), .ref q2, .ref q3, .null, .null, .null, .null, .null, .null, .null, .null, .null, .null, .null, .null, .int 0, .null, .null, .null, .null, .null, .null, .null, .int 0, .null, .null, .null] : List Value).set 7 (.ref q4))) := ⟨_, rfl⟩
  rw [← ec9] at hP hD
  have f9_t : c9 t = .inl (x_ca G 0, 2560, .inl (fun _ => (0 : Int32))) := by rw [ec9]; exact (va_up_ne _ _ (by omega)).trans f8_t
  have f9_t_1 : c9 (t + 1) = .inl (x_ca G 1, 8, .inl (fun _ => (0 : Int32))) := by rw [ec9]; exact (va_up_ne _ _ (by omega)).trans f8_t_1
  have f9_t_1_1 : c9 (t + 1 + 1) = .inl (x_ca G 0, 8, .inl (fun _ => (0 : Int32))) := by rw [ec9]; exact (va_up_ne _ _ (by omega)).trans f8_t_1_1
  have f9_t_1_1_1 : c9 (t + 1 + 1 + 1) = .inl (x_ca G 0, 8, .inl (fun _ => (0 : Int32))) := by rw [ec9]; exact (va_up_ne _ _ (by omega)).trans f8_t_1_1_1
  have f9_k : c9 k = .inr (5, [.int 0, .int 0, .ref q1, .int 0, .int (-1 : Int32), .ref q2, .ref q3, .ref q4, .null, .null, .null, .null, .null, .null, .null, .null, .null, .null, .null, .int 0, .null, .null, .null, .null, .null, .null, .null, .int 0, .null, .null, .null]) := by rw [ec9]; exact va_up_self _ _ _
  have g9 : ∀ j, j < t → j ≠ k → c9 j = c j := fun j h1 h2 => by rw [ec9]; exact (va_up_ne _ _ (by omega)).trans (g8 j h1 h2)
  clear f8_k f8_t f8_t_1 f8_t_1_1 f8_t_1_1_1 g8 ec9
  refine lv_aload_n hx hb d_M_init_42 rfl (lv_at hl 0 rfl) ?_
  refine lv_bipush (v := (8 : Int32)) hx hb d_M_init_43 (by decide) ?_
  refine va_newa (atype := .int) hx hb (hts _ t_58) (ty := .int) rfl hK hP hD hS hA (N' := 8) (a0 := (8, .inl (fun _ => (0 : Int32)))) (fun _ => rfl) (by decide) (by decide) (by decide) (Nat.le_of_ble_eq_true rfl) (Nat.le_of_ble_eq_true rfl) d_M_init_45 (fun q5 cA H hK2 hP hD hS => ?_)
  obtain rfl := y_caI hK2
  rw [y_push] at hP hD
  obtain ⟨ad5, ead5⟩ : ∃ a1, a1 = va_up ad4 (t + 1 + 1 + 1 + 1) q5 := ⟨_, rfl⟩
  rw [← ead5] at hP hD
  have a5_k : ad5 k = (ad k) := by rw [ead5]; exact (va_up_ne _ _ (by omega)).trans a4_k
  have a5_t : ad5 t = q1 := by rw [ead5]; exact (va_up_ne _ _ (by omega)).trans a4_t
  have a5_t_1 : ad5 (t + 1) = q2 := by rw [ead5]; exact (va_up_ne _ _ (by omega)).trans a4_t_1
  have a5_t_1_1 : ad5 (t + 1 + 1) = q3 := by rw [ead5]; exact (va_up_ne _ _ (by omega)).trans a4_t_1_1
  have a5_t_1_1_1 : ad5 (t + 1 + 1 + 1) = q4 := by rw [ead5]; exact (va_up_ne _ _ (by omega)).trans a4_t_1_1_1
  have a5_t_1_1_1_1 : ad5 (t + 1 + 1 + 1 + 1) = q5 := by rw [ead5]; exact va_up_self _ _ _
  have b5 : ∀ j, j < t → ad5 j = ad j := fun j h1 => by rw [ead5]; exact (va_up_ne _ _ (by omega)).trans (b4 j h1)
  clear a4_k a4_t a4_t_1 a4_t_1_1 a4_t_1_1_1 b4 ead5
  obtain ⟨c10, ec10⟩ : ∃ c10, c10 = va_up c9 (t + 1 + 1 + 1 + 1) (.inl (x_ca G 0, 8, .inl (fun _ => (0 : Int32)))) := ⟨_, rfl⟩
  rw [← ec10] at hP hD
  have f10_k : c10 k = .inr (5, [.int 0, .int 0, .ref q1, .int 0, .int (-1 : Int32), .ref q2, .ref q3, .ref q4, .null, .null, .null, .null, .null, .null, .null, .null, .null, .null, .null, .int 0, .null, .null, .null, .null, .null, .null, .null, .int 0, .null, .null, .null]) := by rw [ec10]; exact (va_up_ne _ _ (by omega)).trans f9_k
  have f10_t : c10 t = .inl (x_ca G 0, 2560, .inl (fun _ => (0 : Int32))) := by rw [ec10]; exact (va_up_ne _ _ (by omega)).trans f9_t
  have f10_t_1 : c10 (t + 1) = .inl (x_ca G 1, 8, .inl (fun _ => (0 : Int32))) := by rw [ec10]; exact (va_up_ne _ _ (by omega)).trans f9_t_1
  have f10_t_1_1 : c10 (t + 1 + 1) = .inl (x_ca G 0, 8, .inl (fun _ => (0 : Int32))) := by rw [ec10]; exact (va_up_ne _ _ (by omega)).trans f9_t_1_1
  have f10_t_1_1_1 : c10 (t + 1 + 1 + 1) = .inl (x_ca G 0, 8, .inl (fun _ => (0 : Int32))) := by rw [ec10]; exact (va_up_ne _ _ (by omega)).trans f9_t_1_1_1
  have f10_t_1_1_1_1 : c10 (t + 1 + 1 + 1 + 1) = .inl (x_ca G 0, 8, .inl (fun _ => (0 : Int32))) := by rw [ec10]; exact va_up_self _ _ _
  have g10 : ∀ j, j < t → j ≠ k → c10 j = c j := fun j h1 h2 => by rw [ec10]; exact (va_up_ne _ _ (by omega)).trans (g9 j h1 h2)
  clear f9_k f9_t f9_t_1 f9_t_1_1 f9_t_1_1_1 g9 ec10
  refine va_putF (D := x_D G) (ci := 5) (v := .ref q5) (ty := .array .int) (C := "ContentLibraryModel") (T := x_TM) (N := 31) hx hb hts x_inM x_tyM x_tyM_ok x_nmM hown hK hP hD hS k (y_at (by omega) a5_k f10_k) rfl 8 (by decide) (hts _ t_680) (fun _ h9 => h9) rfl hin rfl (by decide +kernel) rfl rfl (Nat.le_of_ble_eq_true rfl) d_M_init_47 (fun H locs hP hD hS => ?_)
  rw [y_set (by omega) a5_k] at hP hD
  obtain ⟨c11, ec11⟩ : ∃ c11, c11 = va_up c10 k (.inr (5, ([.int 0, .int 0, .ref q1, .int 0, .int (-1 : Int32), .ref q2, .ref q3, .ref q4, .null, .null, .null, .null, .null, .null, .null, .null, .null, .null, .null, .int 0, .null, .null, .null, .null, .null, .null, .null, .int 0, .null, .null, .null] : List Value).set 8 (.ref q5))) := ⟨_, rfl⟩
  rw [← ec11] at hP hD
  have f11_t : c11 t = .inl (x_ca G 0, 2560, .inl (fun _ => (0 : Int32))) := by rw [ec11]; exact (va_up_ne _ _ (by omega)).trans f10_t
  have f11_t_1 : c11 (t + 1) = .inl (x_ca G 1, 8, .inl (fun _ => (0 : Int32))) := by rw [ec11]; exact (va_up_ne _ _ (by omega)).trans f10_t_1
  have f11_t_1_1 : c11 (t + 1 + 1) = .inl (x_ca G 0, 8, .inl (fun _ => (0 : Int32))) := by rw [ec11]; exact (va_up_ne _ _ (by omega)).trans f10_t_1_1
  have f11_t_1_1_1 : c11 (t + 1 + 1 + 1) = .inl (x_ca G 0, 8, .inl (fun _ => (0 : Int32))) := by rw [ec11]; exact (va_up_ne _ _ (by omega)).trans f10_t_1_1_1
  have f11_t_1_1_1_1 : c11 (t + 1 + 1 + 1 + 1) = .inl (x_ca G 0, 8, .inl (fun _ => (0 : Int32))) := by rw [ec11]; exact (va_up_ne _ _ (by omega)).trans f10_t_1_1_1_1
  have f11_k : c11 k = .inr (5, [.int 0, .int 0, .ref q1, .int 0, .int (-1 : Int32), .ref q2, .ref q3, .ref q4, .ref q5, .null, .null, .null, .null, .null, .null, .null, .null, .null, .null, .int 0, .null, .null, .null, .null, .null, .null, .null, .int 0, .null, .null, .null]) := by rw [ec11]; exact va_up_self _ _ _
  have g11 : ∀ j, j < t → j ≠ k → c11 j = c j := fun j h1 h2 => by rw [ec11]; exact (va_up_ne _ _ (by omega)).trans (g10 j h1 h2)
  clear f10_k f10_t f10_t_1 f10_t_1_1 f10_t_1_1_1 f10_t_1_1_1_1 g10 ec11
  refine lv_aload_n hx hb d_M_init_50 rfl (lv_at hl 0 rfl) ?_
  refine lv_sipush (v := (512 : Int32)) hx hb d_M_init_51 (by decide) ?_
  refine va_newa (atype := .int) hx hb (hts _ t_58) (ty := .int) rfl hK hP hD hS hA (N' := 512) (a0 := (512, .inl (fun _ => (0 : Int32)))) (fun _ => rfl) (by decide) (by decide) (by decide) (Nat.le_of_ble_eq_true rfl) (Nat.le_of_ble_eq_true rfl) d_M_init_54 (fun q6 cA H hK2 hP hD hS => ?_)
  obtain rfl := y_caI hK2
  rw [y_push] at hP hD
  obtain ⟨ad6, ead6⟩ : ∃ a1, a1 = va_up ad5 (t + 1 + 1 + 1 + 1 + 1) q6 := ⟨_, rfl⟩
  rw [← ead6] at hP hD
  have a6_k : ad6 k = (ad k) := by rw [ead6]; exact (va_up_ne _ _ (by omega)).trans a5_k
  have a6_t : ad6 t = q1 := by rw [ead6]; exact (va_up_ne _ _ (by omega)).trans a5_t
  have a6_t_1 : ad6 (t + 1) = q2 := by rw [ead6]; exact (va_up_ne _ _ (by omega)).trans a5_t_1
  have a6_t_1_1 : ad6 (t + 1 + 1) = q3 := by rw [ead6]; exact (va_up_ne _ _ (by omega)).trans a5_t_1_1
  have a6_t_1_1_1 : ad6 (t + 1 + 1 + 1) = q4 := by rw [ead6]; exact (va_up_ne _ _ (by omega)).trans a5_t_1_1_1
  have a6_t_1_1_1_1 : ad6 (t + 1 + 1 + 1 + 1) = q5 := by rw [ead6]; exact (va_up_ne _ _ (by omega)).trans a5_t_1_1_1_1
  have a6_t_1_1_1_1_1 : ad6 (t + 1 + 1 + 1 + 1 + 1) = q6 := by rw [ead6]; exact va_up_self _ _ _
  have b6 : ∀ j, j < t → ad6 j = ad j := fun j h1 => by rw [ead6]; exact (va_up_ne _ _ (by omega)).trans (b5 j h1)
  clear a5_k a5_t a5_t_1 a5_t_1_1 a5_t_1_1_1 a5_t_1_1_1_1 b5 ead6
  obtain ⟨c12, ec12⟩ : ∃ c12, c12 = va_up c11 (t + 1 + 1 + 1 + 1 + 1) (.inl (x_ca G 0, 512, .inl (fun _ => (0 : Int32)))) := ⟨_, rfl⟩
  rw [← ec12] at hP hD
  have f12_k : c12 k = .inr (5, [.int 0, .int 0, .ref q1, .int 0, .int (-1 : Int32), .ref q2, .ref q3, .ref q4, .ref q5, .null, .null, .null, .null, .null, .null, .null, .null, .null, .null, .int 0, .null, .null, .null, .null, .null, .null, .null, .int 0, .null, .null, .null]) := by rw [ec12]; exact (va_up_ne _ _ (by omega)).trans f11_k
  have f12_t : c12 t = .inl (x_ca G 0, 2560, .inl (fun _ => (0 : Int32))) := by rw [ec12]; exact (va_up_ne _ _ (by omega)).trans f11_t
  have f12_t_1 : c12 (t + 1) = .inl (x_ca G 1, 8, .inl (fun _ => (0 : Int32))) := by rw [ec12]; exact (va_up_ne _ _ (by omega)).trans f11_t_1
  have f12_t_1_1 : c12 (t + 1 + 1) = .inl (x_ca G 0, 8, .inl (fun _ => (0 : Int32))) := by rw [ec12]; exact (va_up_ne _ _ (by omega)).trans f11_t_1_1
  have f12_t_1_1_1 : c12 (t + 1 + 1 + 1) = .inl (x_ca G 0, 8, .inl (fun _ => (0 : Int32))) := by rw [ec12]; exact (va_up_ne _ _ (by omega)).trans f11_t_1_1_1
  have f12_t_1_1_1_1 : c12 (t + 1 + 1 + 1 + 1) = .inl (x_ca G 0, 8, .inl (fun _ => (0 : Int32))) := by rw [ec12]; exact (va_up_ne _ _ (by omega)).trans f11_t_1_1_1_1
  have f12_t_1_1_1_1_1 : c12 (t + 1 + 1 + 1 + 1 + 1) = .inl (x_ca G 0, 512, .inl (fun _ => (0 : Int32))) := by rw [ec12]; exact va_up_self _ _ _
  have g12 : ∀ j, j < t → j ≠ k → c12 j = c j := fun j h1 h2 => by rw [ec12]; exact (va_up_ne _ _ (by omega)).trans (g11 j h1 h2)
  clear f11_k f11_t f11_t_1 f11_t_1_1 f11_t_1_1_1 f11_t_1_1_1_1 g11 ec12
  refine va_putF (D := x_D G) (ci := 5) (v := .ref q6) (ty := .array .int) (C := "ContentLibraryModel") (T := x_TM) (N := 31) hx hb hts x_inM x_tyM x_tyM_ok x_nmM hown hK hP hD hS k (y_at (by omega) a6_k f12_k) rfl 9 (by decide) (hts _ t_681) (fun _ h9 => h9) rfl hin rfl (by decide +kernel) rfl rfl (Nat.le_of_ble_eq_true rfl) d_M_init_56 (fun H locs hP hD hS => ?_)
  rw [y_set (by omega) a6_k] at hP hD
  obtain ⟨c13, ec13⟩ : ∃ c13, c13 = va_up c12 k (.inr (5, ([.int 0, .int 0, .ref q1, .int 0, .int (-1 : Int32), .ref q2, .ref q3, .ref q4, .ref q5, .null, .null, .null, .null, .null, .null, .null, .null, .null, .null, .int 0, .null, .null, .null, .null, .null, .null, .null, .int 0, .null, .null, .null] : List Value).set 9 (.ref q6))) := ⟨_, rfl⟩
  rw [← ec13] at hP hD
  have f13_t : c13 t = .inl (x_ca G 0, 2560, .inl (fun _ => (0 : Int32))) := by rw [ec13]; exact (va_up_ne _ _ (by omega)).trans f12_t
  have f13_t_1 : c13 (t + 1) = .inl (x_ca G 1, 8, .inl (fun _ => (0 : Int32))) := by rw [ec13]; exact (va_up_ne _ _ (by omega)).trans f12_t_1
  have f13_t_1_1 : c13 (t + 1 + 1) = .inl (x_ca G 0, 8, .inl (fun _ => (0 : Int32))) := by rw [ec13]; exact (va_up_ne _ _ (by omega)).trans f12_t_1_1
  have f13_t_1_1_1 : c13 (t + 1 + 1 + 1) = .inl (x_ca G 0, 8, .inl (fun _ => (0 : Int32))) := by rw [ec13]; exact (va_up_ne _ _ (by omega)).trans f12_t_1_1_1
  have f13_t_1_1_1_1 : c13 (t + 1 + 1 + 1 + 1) = .inl (x_ca G 0, 8, .inl (fun _ => (0 : Int32))) := by rw [ec13]; exact (va_up_ne _ _ (by omega)).trans f12_t_1_1_1_1
  have f13_t_1_1_1_1_1 : c13 (t + 1 + 1 + 1 + 1 + 1) = .inl (x_ca G 0, 512, .inl (fun _ => (0 : Int32))) := by rw [ec13]; exact (va_up_ne _ _ (by omega)).trans f12_t_1_1_1_1_1
  have f13_k : c13 k = .inr (5, [.int 0, .int 0, .ref q1, .int 0, .int (-1 : Int32), .ref q2, .ref q3, .ref q4, .ref q5, .ref q6, .null, .null, .null, .null, .null, .null, .null, .null, .null, .int 0, .null, .null, .null, .null, .null, .null, .null, .int 0, .null, .null, .null]) := by rw [ec13]; exact va_up_self _ _ _
  have g13 : ∀ j, j < t → j ≠ k → c13 j = c j := fun j h1 h2 => by rw [ec13]; exact (va_up_ne _ _ (by omega)).trans (g12 j h1 h2)
  clear f12_k f12_t f12_t_1 f12_t_1_1 f12_t_1_1_1 f12_t_1_1_1_1 f12_t_1_1_1_1_1 g12 ec13
  refine lv_aload_n hx hb d_M_init_59 rfl (lv_at hl 0 rfl) ?_
  refine lv_bipush (v := (16 : Int32)) hx hb d_M_init_60 (by decide) ?_
  refine va_newa (atype := .boolean) hx hb (hts _ t_79) (ty := .boolean) rfl hK hP hD hS hA (N' := 16) (a0 := (16, .inl (fun _ => (0 : Int32)))) (fun _ => rfl) (by decide) (by decide) (by decide) (Nat.le_of_ble_eq_true rfl) (Nat.le_of_ble_eq_true rfl) d_M_init_62 (fun q7 cA H hK2 hP hD hS => ?_)
  obtain rfl := y_caZ hK2
  rw [y_push] at hP hD
  obtain ⟨ad7, ead7⟩ : ∃ a1, a1 = va_up ad6 (t + 1 + 1 + 1 + 1 + 1 + 1) q7 := ⟨_, rfl⟩
  rw [← ead7] at hP hD
  have a7_k : ad7 k = (ad k) := by rw [ead7]; exact (va_up_ne _ _ (by omega)).trans a6_k
  have a7_t : ad7 t = q1 := by rw [ead7]; exact (va_up_ne _ _ (by omega)).trans a6_t
  have a7_t_1 : ad7 (t + 1) = q2 := by rw [ead7]; exact (va_up_ne _ _ (by omega)).trans a6_t_1
  have a7_t_1_1 : ad7 (t + 1 + 1) = q3 := by rw [ead7]; exact (va_up_ne _ _ (by omega)).trans a6_t_1_1
  have a7_t_1_1_1 : ad7 (t + 1 + 1 + 1) = q4 := by rw [ead7]; exact (va_up_ne _ _ (by omega)).trans a6_t_1_1_1
  have a7_t_1_1_1_1 : ad7 (t + 1 + 1 + 1 + 1) = q5 := by rw [ead7]; exact (va_up_ne _ _ (by omega)).trans a6_t_1_1_1_1
  have a7_t_1_1_1_1_1 : ad7 (t + 1 + 1 + 1 + 1 + 1) = q6 := by rw [ead7]; exact (va_up_ne _ _ (by omega)).trans a6_t_1_1_1_1_1
  have a7_t_1_1_1_1_1_1 : ad7 (t + 1 + 1 + 1 + 1 + 1 + 1) = q7 := by rw [ead7]; exact va_up_self _ _ _
  have b7 : ∀ j, j < t → ad7 j = ad j := fun j h1 => by rw [ead7]; exact (va_up_ne _ _ (by omega)).trans (b6 j h1)
  clear a6_k a6_t a6_t_1 a6_t_1_1 a6_t_1_1_1 a6_t_1_1_1_1 a6_t_1_1_1_1_1 b6 ead7
  obtain ⟨c14, ec14⟩ : ∃ c14, c14 = va_up c13 (t + 1 + 1 + 1 + 1 + 1 + 1) (.inl (x_ca G 1, 16, .inl (fun _ => (0 : Int32)))) := ⟨_, rfl⟩
  rw [← ec14] at hP hD
  have f14_k : c14 k = .inr (5, [.int 0, .int 0, .ref q1, .int 0, .int (-1 : Int32), .ref q2, .ref q3, .ref q4, .ref q5, .ref q6, .null, .null, .null, .null, .null, .null, .null, .null, .null, .int 0, .null, .null, .null, .null, .null, .null, .null, .int 0, .null, .null, .null]) := by rw [ec14]; exact (va_up_ne _ _ (by omega)).trans f13_k
  have f14_t : c14 t = .inl (x_ca G 0, 2560, .inl (fun _ => (0 : Int32))) := by rw [ec14]; exact (va_up_ne _ _ (by omega)).trans f13_t
  have f14_t_1 : c14 (t + 1) = .inl (x_ca G 1, 8, .inl (fun _ => (0 : Int32))) := by rw [ec14]; exact (va_up_ne _ _ (by omega)).trans f13_t_1
  have f14_t_1_1 : c14 (t + 1 + 1) = .inl (x_ca G 0, 8, .inl (fun _ => (0 : Int32))) := by rw [ec14]; exact (va_up_ne _ _ (by omega)).trans f13_t_1_1
  have f14_t_1_1_1 : c14 (t + 1 + 1 + 1) = .inl (x_ca G 0, 8, .inl (fun _ => (0 : Int32))) := by rw [ec14]; exact (va_up_ne _ _ (by omega)).trans f13_t_1_1_1
  have f14_t_1_1_1_1 : c14 (t + 1 + 1 + 1 + 1) = .inl (x_ca G 0, 8, .inl (fun _ => (0 : Int32))) := by rw [ec14]; exact (va_up_ne _ _ (by omega)).trans f13_t_1_1_1_1
  have f14_t_1_1_1_1_1 : c14 (t + 1 + 1 + 1 + 1 + 1) = .inl (x_ca G 0, 512, .inl (fun _ => (0 : Int32))) := by rw [ec14]; exact (va_up_ne _ _ (by omega)).trans f13_t_1_1_1_1_1
  have f14_t_1_1_1_1_1_1 : c14 (t + 1 + 1 + 1 + 1 + 1 + 1) = .inl (x_ca G 1, 16, .inl (fun _ => (0 : Int32))) := by rw [ec14]; exact va_up_self _ _ _
  have g14 : ∀ j, j < t → j ≠ k → c14 j = c j := fun j h1 h2 => by rw [ec14]; exact (va_up_ne _ _ (by omega)).trans (g13 j h1 h2)
  clear f13_k f13_t f13_t_1 f13_t_1_1 f13_t_1_1_1 f13_t_1_1_1_1 f13_t_1_1_1_1_1 g13 ec14
  refine va_putF (D := x_D G) (ci := 5) (v := .ref q7) (ty := .array .boolean) (C := "ContentLibraryModel") (T := x_TM) (N := 31) hx hb hts x_inM x_tyM x_tyM_ok x_nmM hown hK hP hD hS k (y_at (by omega) a7_k f14_k) rfl 10 (by decide) (hts _ t_682) (fun _ h9 => h9) rfl hin rfl (by decide +kernel) rfl rfl (Nat.le_of_ble_eq_true rfl) d_M_init_64 (fun H locs hP hD hS => ?_)
  rw [y_set (by omega) a7_k] at hP hD
  obtain ⟨c15, ec15⟩ : ∃ c15, c15 = va_up c14 k (.inr (5, ([.int 0, .int 0, .ref q1, .int 0, .int (-1 : Int32), .ref q2, .ref q3, .ref q4, .ref q5, .ref q6, .null, .null, .null, .null, .null, .null, .null, .null, .null, .int 0, .null, .null, .null, .null, .null, .null, .null, .int 0, .null, .null, .null] : List Value).set 10 (.ref q7))) := ⟨_, rfl⟩
  rw [← ec15] at hP hD
  have f15_t : c15 t = .inl (x_ca G 0, 2560, .inl (fun _ => (0 : Int32))) := by rw [ec15]; exact (va_up_ne _ _ (by omega)).trans f14_t
  have f15_t_1 : c15 (t + 1) = .inl (x_ca G 1, 8, .inl (fun _ => (0 : Int32))) := by rw [ec15]; exact (va_up_ne _ _ (by omega)).trans f14_t_1
  have f15_t_1_1 : c15 (t + 1 + 1) = .inl (x_ca G 0, 8, .inl (fun _ => (0 : Int32))) := by rw [ec15]; exact (va_up_ne _ _ (by omega)).trans f14_t_1_1
  have f15_t_1_1_1 : c15 (t + 1 + 1 + 1) = .inl (x_ca G 0, 8, .inl (fun _ => (0 : Int32))) := by rw [ec15]; exact (va_up_ne _ _ (by omega)).trans f14_t_1_1_1
  have f15_t_1_1_1_1 : c15 (t + 1 + 1 + 1 + 1) = .inl (x_ca G 0, 8, .inl (fun _ => (0 : Int32))) := by rw [ec15]; exact (va_up_ne _ _ (by omega)).trans f14_t_1_1_1_1
  have f15_t_1_1_1_1_1 : c15 (t + 1 + 1 + 1 + 1 + 1) = .inl (x_ca G 0, 512, .inl (fun _ => (0 : Int32))) := by rw [ec15]; exact (va_up_ne _ _ (by omega)).trans f14_t_1_1_1_1_1
  have f15_t_1_1_1_1_1_1 : c15 (t + 1 + 1 + 1 + 1 + 1 + 1) = .inl (x_ca G 1, 16, .inl (fun _ => (0 : Int32))) := by rw [ec15]; exact (va_up_ne _ _ (by omega)).trans f14_t_1_1_1_1_1_1
  have f15_k : c15 k = .inr (5, [.int 0, .int 0, .ref q1, .int 0, .int (-1 : Int32), .ref q2, .ref q3, .ref q4, .ref q5, .ref q6, .ref q7, .null, .null, .null, .null, .null, .null, .null, .null, .int 0, .null, .null, .null, .null, .null, .null, .null, .int 0, .null, .null, .null]) := by rw [ec15]; exact va_up_self _ _ _
  have g15 : ∀ j, j < t → j ≠ k → c15 j = c j := fun j h1 h2 => by rw [ec15]; exact (va_up_ne _ _ (by omega)).trans (g14 j h1 h2)
  clear f14_k f14_t f14_t_1 f14_t_1_1 f14_t_1_1_1 f14_t_1_1_1_1 f14_t_1_1_1_1_1 f14_t_1_1_1_1_1_1 g14 ec15
  refine lv_aload_n hx hb d_M_init_67 rfl (lv_at hl 0 rfl) ?_
  refine lv_bipush (v := (16 : Int32)) hx hb d_M_init_68 (by decide) ?_
  refine va_newa (atype := .int) hx hb (hts _ t_58) (ty := .int) rfl hK hP hD hS hA (N' := 16) (a0 := (16, .inl (fun _ => (0 : Int32)))) (fun _ => rfl) (by decide) (by decide) (by decide) (Nat.le_of_ble_eq_true rfl) (Nat.le_of_ble_eq_true rfl) d_M_init_70 (fun q8 cA H hK2 hP hD hS => ?_)
  obtain rfl := y_caI hK2
  rw [y_push] at hP hD
  obtain ⟨ad8, ead8⟩ : ∃ a1, a1 = va_up ad7 (t + 1 + 1 + 1 + 1 + 1 + 1 + 1) q8 := ⟨_, rfl⟩
  rw [← ead8] at hP hD
  have a8_k : ad8 k = (ad k) := by rw [ead8]; exact (va_up_ne _ _ (by omega)).trans a7_k
  have a8_t : ad8 t = q1 := by rw [ead8]; exact (va_up_ne _ _ (by omega)).trans a7_t
  have a8_t_1 : ad8 (t + 1) = q2 := by rw [ead8]; exact (va_up_ne _ _ (by omega)).trans a7_t_1
  have a8_t_1_1 : ad8 (t + 1 + 1) = q3 := by rw [ead8]; exact (va_up_ne _ _ (by omega)).trans a7_t_1_1
  have a8_t_1_1_1 : ad8 (t + 1 + 1 + 1) = q4 := by rw [ead8]; exact (va_up_ne _ _ (by omega)).trans a7_t_1_1_1
  have a8_t_1_1_1_1 : ad8 (t + 1 + 1 + 1 + 1) = q5 := by rw [ead8]; exact (va_up_ne _ _ (by omega)).trans a7_t_1_1_1_1
  have a8_t_1_1_1_1_1 : ad8 (t + 1 + 1 + 1 + 1 + 1) = q6 := by rw [ead8]; exact (va_up_ne _ _ (by omega)).trans a7_t_1_1_1_1_1
  have a8_t_1_1_1_1_1_1 : ad8 (t + 1 + 1 + 1 + 1 + 1 + 1) = q7 := by rw [ead8]; exact (va_up_ne _ _ (by omega)).trans a7_t_1_1_1_1_1_1
  have a8_t_1_1_1_1_1_1_1 : ad8 (t + 1 + 1 + 1 + 1 + 1 + 1 + 1) = q8 := by rw [ead8]; exact va_up_self _ _ _
  have b8 : ∀ j, j < t → ad8 j = ad j := fun j h1 => by rw [ead8]; exact (va_up_ne _ _ (by omega)).trans (b7 j h1)
  clear a7_k a7_t a7_t_1 a7_t_1_1 a7_t_1_1_1 a7_t_1_1_1_1 a7_t_1_1_1_1_1 a7_t_1_1_1_1_1_1 b7 ead8
  obtain ⟨c16, ec16⟩ : ∃ c16, c16 = va_up c15 (t + 1 + 1 + 1 + 1 + 1 + 1 + 1) (.inl (x_ca G 0, 16, .inl (fun _ => (0 : Int32)))) := ⟨_, rfl⟩
  rw [← ec16] at hP hD
  have f16_k : c16 k = .inr (5, [.int 0, .int 0, .ref q1, .int 0, .int (-1 : Int32), .ref q2, .ref q3, .ref q4, .ref q5, .ref q6, .ref q7, .null, .null, .null, .null, .null, .null, .null, .null, .int 0, .null, .null, .null, .null, .null, .null, .null, .int 0, .null, .null, .null]) := by rw [ec16]; exact (va_up_ne _ _ (by omega)).trans f15_k
  have f16_t : c16 t = .inl (x_ca G 0, 2560, .inl (fun _ => (0 : Int32))) := by rw [ec16]; exact (va_up_ne _ _ (by omega)).trans f15_t
  have f16_t_1 : c16 (t + 1) = .inl (x_ca G 1, 8, .inl (fun _ => (0 : Int32))) := by rw [ec16]; exact (va_up_ne _ _ (by omega)).trans f15_t_1
  have f16_t_1_1 : c16 (t + 1 + 1) = .inl (x_ca G 0, 8, .inl (fun _ => (0 : Int32))) := by rw [ec16]; exact (va_up_ne _ _ (by omega)).trans f15_t_1_1
  have f16_t_1_1_1 : c16 (t + 1 + 1 + 1) = .inl (x_ca G 0, 8, .inl (fun _ => (0 : Int32))) := by rw [ec16]; exact (va_up_ne _ _ (by omega)).trans f15_t_1_1_1
  have f16_t_1_1_1_1 : c16 (t + 1 + 1 + 1 + 1) = .inl (x_ca G 0, 8, .inl (fun _ => (0 : Int32))) := by rw [ec16]; exact (va_up_ne _ _ (by omega)).trans f15_t_1_1_1_1
  have f16_t_1_1_1_1_1 : c16 (t + 1 + 1 + 1 + 1 + 1) = .inl (x_ca G 0, 512, .inl (fun _ => (0 : Int32))) := by rw [ec16]; exact (va_up_ne _ _ (by omega)).trans f15_t_1_1_1_1_1
  have f16_t_1_1_1_1_1_1 : c16 (t + 1 + 1 + 1 + 1 + 1 + 1) = .inl (x_ca G 1, 16, .inl (fun _ => (0 : Int32))) := by rw [ec16]; exact (va_up_ne _ _ (by omega)).trans f15_t_1_1_1_1_1_1
  have f16_t_1_1_1_1_1_1_1 : c16 (t + 1 + 1 + 1 + 1 + 1 + 1 + 1) = .inl (x_ca G 0, 16, .inl (fun _ => (0 : Int32))) := by rw [ec16]; exact va_up_self _ _ _
  have g16 : ∀ j, j < t → j ≠ k → c16 j = c j := fun j h1 h2 => by rw [ec16]; exact (va_up_ne _ _ (by omega)).trans (g15 j h1 h2)
  clear f15_k f15_t f15_t_1 f15_t_1_1 f15_t_1_1_1 f15_t_1_1_1_1 f15_t_1_1_1_1_1 f15_t_1_1_1_1_1_1 g15 ec16
  refine va_putF (D := x_D G) (ci := 5) (v := .ref q8) (ty := .array .int) (C := "ContentLibraryModel") (T := x_TM) (N := 31) hx hb hts x_inM x_tyM x_tyM_ok x_nmM hown hK hP hD hS k (y_at (by omega) a8_k f16_k) rfl 11 (by decide) (hts _ t_683) (fun _ h9 => h9) rfl hin rfl (by decide +kernel) rfl rfl (Nat.le_of_ble_eq_true rfl) d_M_init_72 (fun H locs hP hD hS => ?_)
  rw [y_set (by omega) a8_k] at hP hD
  obtain ⟨c17, ec17⟩ : ∃ c17, c17 = va_up c16 k (.inr (5, ([.int 0, .int 0, .ref q1, .int 0, .int (-1 : Int32), .ref q2, .ref q3, .ref q4, .ref q5, .ref q6, .ref q7, .null, .null, .null, .null, .null, .null, .null, .null, .int 0, .null, .null, .null, .null, .null, .null, .null, .int 0, .null, .null, .null] : List Value).set 11 (.ref q8))) := ⟨_, rfl⟩
  rw [← ec17] at hP hD
  have f17_t : c17 t = .inl (x_ca G 0, 2560, .inl (fun _ => (0 : Int32))) := by rw [ec17]; exact (va_up_ne _ _ (by omega)).trans f16_t
  have f17_t_1 : c17 (t + 1) = .inl (x_ca G 1, 8, .inl (fun _ => (0 : Int32))) := by rw [ec17]; exact (va_up_ne _ _ (by omega)).trans f16_t_1
  have f17_t_1_1 : c17 (t + 1 + 1) = .inl (x_ca G 0, 8, .inl (fun _ => (0 : Int32))) := by rw [ec17]; exact (va_up_ne _ _ (by omega)).trans f16_t_1_1
  have f17_t_1_1_1 : c17 (t + 1 + 1 + 1) = .inl (x_ca G 0, 8, .inl (fun _ => (0 : Int32))) := by rw [ec17]; exact (va_up_ne _ _ (by omega)).trans f16_t_1_1_1
  have f17_t_1_1_1_1 : c17 (t + 1 + 1 + 1 + 1) = .inl (x_ca G 0, 8, .inl (fun _ => (0 : Int32))) := by rw [ec17]; exact (va_up_ne _ _ (by omega)).trans f16_t_1_1_1_1
  have f17_t_1_1_1_1_1 : c17 (t + 1 + 1 + 1 + 1 + 1) = .inl (x_ca G 0, 512, .inl (fun _ => (0 : Int32))) := by rw [ec17]; exact (va_up_ne _ _ (by omega)).trans f16_t_1_1_1_1_1
  have f17_t_1_1_1_1_1_1 : c17 (t + 1 + 1 + 1 + 1 + 1 + 1) = .inl (x_ca G 1, 16, .inl (fun _ => (0 : Int32))) := by rw [ec17]; exact (va_up_ne _ _ (by omega)).trans f16_t_1_1_1_1_1_1
  have f17_t_1_1_1_1_1_1_1 : c17 (t + 1 + 1 + 1 + 1 + 1 + 1 + 1) = .inl (x_ca G 0, 16, .inl (fun _ => (0 : Int32))) := by rw [ec17]; exact (va_up_ne _ _ (by omega)).trans f16_t_1_1_1_1_1_1_1
  have f17_k : c17 k = .inr (5, [.int 0, .int 0, .ref q1, .int 0, .int (-1 : Int32), .ref q2, .ref q3, .ref q4, .ref q5, .ref q6, .ref q7, .ref q8, .null, .null, .null, .null, .null, .null, .null, .int 0, .null, .null, .null, .null, .null, .null, .null, .int 0, .null, .null, .null]) := by rw [ec17]; exact va_up_self _ _ _
  have g17 : ∀ j, j < t → j ≠ k → c17 j = c j := fun j h1 h2 => by rw [ec17]; exact (va_up_ne _ _ (by omega)).trans (g16 j h1 h2)
  clear f16_k f16_t f16_t_1 f16_t_1_1 f16_t_1_1_1 f16_t_1_1_1_1 f16_t_1_1_1_1_1 f16_t_1_1_1_1_1_1 f16_t_1_1_1_1_1_1_1 g16 ec17
  refine lv_aload_n hx hb d_M_init_75 rfl (lv_at hl 0 rfl) ?_
  refine lv_bipush (v := (16 : Int32)) hx hb d_M_init_76 (by decide) ?_
  refine va_newa (atype := .int) hx hb (hts _ t_58) (ty := .int) rfl hK hP hD hS hA (N' := 16) (a0 := (16, .inl (fun _ => (0 : Int32)))) (fun _ => rfl) (by decide) (by decide) (by decide) (Nat.le_of_ble_eq_true rfl) (Nat.le_of_ble_eq_true rfl) d_M_init_78 (fun q9 cA H hK2 hP hD hS => ?_)
  obtain rfl := y_caI hK2
  rw [y_push] at hP hD
  obtain ⟨ad9, ead9⟩ : ∃ a1, a1 = va_up ad8 (t + 1 + 1 + 1 + 1 + 1 + 1 + 1 + 1) q9 := ⟨_, rfl⟩
  rw [← ead9] at hP hD
  have a9_k : ad9 k = (ad k) := by rw [ead9]; exact (va_up_ne _ _ (by omega)).trans a8_k
  have a9_t : ad9 t = q1 := by rw [ead9]; exact (va_up_ne _ _ (by omega)).trans a8_t
  have a9_t_1 : ad9 (t + 1) = q2 := by rw [ead9]; exact (va_up_ne _ _ (by omega)).trans a8_t_1
  have a9_t_1_1 : ad9 (t + 1 + 1) = q3 := by rw [ead9]; exact (va_up_ne _ _ (by omega)).trans a8_t_1_1
  have a9_t_1_1_1 : ad9 (t + 1 + 1 + 1) = q4 := by rw [ead9]; exact (va_up_ne _ _ (by omega)).trans a8_t_1_1_1
  have a9_t_1_1_1_1 : ad9 (t + 1 + 1 + 1 + 1) = q5 := by rw [ead9]; exact (va_up_ne _ _ (by omega)).trans a8_t_1_1_1_1
  have a9_t_1_1_1_1_1 : ad9 (t + 1 + 1 + 1 + 1 + 1) = q6 := by rw [ead9]; exact (va_up_ne _ _ (by omega)).trans a8_t_1_1_1_1_1
  have a9_t_1_1_1_1_1_1 : ad9 (t + 1 + 1 + 1 + 1 + 1 + 1) = q7 := by rw [ead9]; exact (va_up_ne _ _ (by omega)).trans a8_t_1_1_1_1_1_1
  have a9_t_1_1_1_1_1_1_1 : ad9 (t + 1 + 1 + 1 + 1 + 1 + 1 + 1) = q8 := by rw [ead9]; exact (va_up_ne _ _ (by omega)).trans a8_t_1_1_1_1_1_1_1
  have a9_t_1_1_1_1_1_1_1_1 : ad9 (t + 1 + 1 + 1 + 1 + 1 + 1 + 1 + 1) = q9 := by rw [ead9]; exact va_up_self _ _ _
  have b9 : ∀ j, j < t → ad9 j = ad j := fun j h1 => by rw [ead9]; exact (va_up_ne _ _ (by omega)).trans (b8 j h1)
  clear a8_k a8_t a8_t_1 a8_t_1_1 a8_t_1_1_1 a8_t_1_1_1_1 a8_t_1_1_1_1_1 a8_t_1_1_1_1_1_1 a8_t_1_1_1_1_1_1_1 b8 ead9
  obtain ⟨c18, ec18⟩ : ∃ c18, c18 = va_up c17 (t + 1 + 1 + 1 + 1 + 1 + 1 + 1 + 1) (.inl (x_ca G 0, 16, .inl (fun _ => (0 : Int32)))) := ⟨_, rfl⟩
  rw [← ec18] at hP hD
  have f18_k : c18 k = .inr (5, [.int 0, .int 0, .ref q1, .int 0, .int (-1 : Int32), .ref q2, .ref q3, .ref q4, .ref q5, .ref q6, .ref q7, .ref q8, .null, .null, .null, .null, .null, .null, .null, .int 0, .null, .null, .null, .null, .null, .null, .null, .int 0, .null, .null, .null]) := by rw [ec18]; exact (va_up_ne _ _ (by omega)).trans f17_k
  have f18_t : c18 t = .inl (x_ca G 0, 2560, .inl (fun _ => (0 : Int32))) := by rw [ec18]; exact (va_up_ne _ _ (by omega)).trans f17_t
  have f18_t_1 : c18 (t + 1) = .inl (x_ca G 1, 8, .inl (fun _ => (0 : Int32))) := by rw [ec18]; exact (va_up_ne _ _ (by omega)).trans f17_t_1
  have f18_t_1_1 : c18 (t + 1 + 1) = .inl (x_ca G 0, 8, .inl (fun _ => (0 : Int32))) := by rw [ec18]; exact (va_up_ne _ _ (by omega)).trans f17_t_1_1
  have f18_t_1_1_1 : c18 (t + 1 + 1 + 1) = .inl (x_ca G 0, 8, .inl (fun _ => (0 : Int32))) := by rw [ec18]; exact (va_up_ne _ _ (by omega)).trans f17_t_1_1_1
  have f18_t_1_1_1_1 : c18 (t + 1 + 1 + 1 + 1) = .inl (x_ca G 0, 8, .inl (fun _ => (0 : Int32))) := by rw [ec18]; exact (va_up_ne _ _ (by omega)).trans f17_t_1_1_1_1
  have f18_t_1_1_1_1_1 : c18 (t + 1 + 1 + 1 + 1 + 1) = .inl (x_ca G 0, 512, .inl (fun _ => (0 : Int32))) := by rw [ec18]; exact (va_up_ne _ _ (by omega)).trans f17_t_1_1_1_1_1
  have f18_t_1_1_1_1_1_1 : c18 (t + 1 + 1 + 1 + 1 + 1 + 1) = .inl (x_ca G 1, 16, .inl (fun _ => (0 : Int32))) := by rw [ec18]; exact (va_up_ne _ _ (by omega)).trans f17_t_1_1_1_1_1_1
  have f18_t_1_1_1_1_1_1_1 : c18 (t + 1 + 1 + 1 + 1 + 1 + 1 + 1) = .inl (x_ca G 0, 16, .inl (fun _ => (0 : Int32))) := by rw [ec18]; exact (va_up_ne _ _ (by omega)).trans f17_t_1_1_1_1_1_1_1
  have f18_t_1_1_1_1_1_1_1_1 : c18 (t + 1 + 1 + 1 + 1 + 1 + 1 + 1 + 1) = .inl (x_ca G 0, 16, .inl (fun _ => (0 : Int32))) := by rw [ec18]; exact va_up_self _ _ _
  have g18 : ∀ j, j < t → j ≠ k → c18 j = c j := fun j h1 h2 => by rw [ec18]; exact (va_up_ne _ _ (by omega)).trans (g17 j h1 h2)
  clear f17_k f17_t f17_t_1 f17_t_1_1 f17_t_1_1_1 f17_t_1_1_1_1 f17_t_1_1_1_1_1 f17_t_1_1_1_1_1_1 f17_t_1_1_1_1_1_1_1 g17 ec18
  refine va_putF (D := x_D G) (ci := 5) (v := .ref q9) (ty := .array .int) (C := "ContentLibraryModel") (T := x_TM) (N := 31) hx hb hts x_inM x_tyM x_tyM_ok x_nmM hown hK hP hD hS k (y_at (by omega) a9_k f18_k) rfl 12 (by decide) (hts _ t_684) (fun _ h9 => h9) rfl hin rfl (by decide +kernel) rfl rfl (Nat.le_of_ble_eq_true rfl) d_M_init_80 (fun H locs hP hD hS => ?_)
  rw [y_set (by omega) a9_k] at hP hD
  obtain ⟨c19, ec19⟩ : ∃ c19, c19 = va_up c18 k (.inr (5, ([.int 0, .int 0, .ref q1, .int 0, .int (-1 : Int32), .ref q2, .ref q3, .ref q4, .ref q5, .ref q6, .ref q7, .ref q8, .null, .null, .null, .null, .null, .null, .null, .int 0, .null, .null, .null, .null, .null, .null, .null, .int 0, .null, .null, .null] : List Value).set 12 (.ref q9))) := ⟨_, rfl⟩
  rw [← ec19] at hP hD
  have f19_t : c19 t = .inl (x_ca G 0, 2560, .inl (fun _ => (0 : Int32))) := by rw [ec19]; exact (va_up_ne _ _ (by omega)).trans f18_t
  have f19_t_1 : c19 (t + 1) = .inl (x_ca G 1, 8, .inl (fun _ => (0 : Int32))) := by rw [ec19]; exact (va_up_ne _ _ (by omega)).trans f18_t_1
  have f19_t_1_1 : c19 (t + 1 + 1) = .inl (x_ca G 0, 8, .inl (fun _ => (0 : Int32))) := by rw [ec19]; exact (va_up_ne _ _ (by omega)).trans f18_t_1_1
  have f19_t_1_1_1 : c19 (t + 1 + 1 + 1) = .inl (x_ca G 0, 8, .inl (fun _ => (0 : Int32))) := by rw [ec19]; exact (va_up_ne _ _ (by omega)).trans f18_t_1_1_1
  have f19_t_1_1_1_1 : c19 (t + 1 + 1 + 1 + 1) = .inl (x_ca G 0, 8, .inl (fun _ => (0 : Int32))) := by rw [ec19]; exact (va_up_ne _ _ (by omega)).trans f18_t_1_1_1_1
  have f19_t_1_1_1_1_1 : c19 (t + 1 + 1 + 1 + 1 + 1) = .inl (x_ca G 0, 512, .inl (fun _ => (0 : Int32))) := by rw [ec19]; exact (va_up_ne _ _ (by omega)).trans f18_t_1_1_1_1_1
  have f19_t_1_1_1_1_1_1 : c19 (t + 1 + 1 + 1 + 1 + 1 + 1) = .inl (x_ca G 1, 16, .inl (fun _ => (0 : Int32))) := by rw [ec19]; exact (va_up_ne _ _ (by omega)).trans f18_t_1_1_1_1_1_1
  have f19_t_1_1_1_1_1_1_1 : c19 (t + 1 + 1 + 1 + 1 + 1 + 1 + 1) = .inl (x_ca G 0, 16, .inl (fun _ => (0 : Int32))) := by rw [ec19]; exact (va_up_ne _ _ (by omega)).trans f18_t_1_1_1_1_1_1_1
  have f19_t_1_1_1_1_1_1_1_1 : c19 (t + 1 + 1 + 1 + 1 + 1 + 1 + 1 + 1) = .inl (x_ca G 0, 16, .inl (fun _ => (0 : Int32))) := by rw [ec19]; exact (va_up_ne _ _ (by omega)).trans f18_t_1_1_1_1_1_1_1_1
  have f19_k : c19 k = .inr (5, [.int 0, .int 0, .ref q1, .int 0, .int (-1 : Int32), .ref q2, .ref q3, .ref q4, .ref q5, .ref q6, .ref q7, .ref q8, .ref q9, .null, .null, .null, .null, .null, .null, .int 0, .null, .null, .null, .null, .null, .null, .null, .int 0, .null, .null, .null]) := by rw [ec19]; exact va_up_self _ _ _
  have g19 : ∀ j, j < t → j ≠ k → c19 j = c j := fun j h1 h2 => by rw [ec19]; exact (va_up_ne _ _ (by omega)).trans (g18 j h1 h2)
  clear f18_k f18_t f18_t_1 f18_t_1_1 f18_t_1_1_1 f18_t_1_1_1_1 f18_t_1_1_1_1_1 f18_t_1_1_1_1_1_1 f18_t_1_1_1_1_1_1_1 f18_t_1_1_1_1_1_1_1_1 g18 ec19
  refine lv_aload_n hx hb d_M_init_83 rfl (lv_at hl 0 rfl) ?_
  refine lv_sipush (v := (1024 : Int32)) hx hb d_M_init_84 (by decide) ?_
  refine va_newa (atype := .int) hx hb (hts _ t_58) (ty := .int) rfl hK hP hD hS hA (N' := 1024) (a0 := (1024, .inl (fun _ => (0 : Int32)))) (fun _ => rfl) (by decide) (by decide) (by decide) (Nat.le_of_ble_eq_true rfl) (Nat.le_of_ble_eq_true rfl) d_M_init_87 (fun q10 cA H hK2 hP hD hS => ?_)
  obtain rfl := y_caI hK2
  rw [y_push] at hP hD
  obtain ⟨ad10, ead10⟩ : ∃ a1, a1 = va_up ad9 (t + 1 + 1 + 1 + 1 + 1 + 1 + 1 + 1 + 1) q10 := ⟨_, rfl⟩
  rw [← ead10] at hP hD
  have a10_k : ad10 k = (ad k) := by rw [ead10]; exact (va_up_ne _ _ (by omega)).trans a9_k
  have a10_t : ad10 t = q1 := by rw [ead10]; exact (va_up_ne _ _ (by omega)).trans a9_t
  have a10_t_1 : ad10 (t + 1) = q2 := by rw [ead10]; exact (va_up_ne _ _ (by omega)).trans a9_t_1
  have a10_t_1_1 : ad10 (t + 1 + 1) = q3 := by rw [ead10]; exact (va_up_ne _ _ (by omega)).trans a9_t_1_1
  have a10_t_1_1_1 : ad10 (t + 1 + 1 + 1) = q4 := by rw [ead10]; exact (va_up_ne _ _ (by omega)).trans a9_t_1_1_1
  have a10_t_1_1_1_1 : ad10 (t + 1 + 1 + 1 + 1) = q5 := by rw [ead10]; exact (va_up_ne _ _ (by omega)).trans a9_t_1_1_1_1
  have a10_t_1_1_1_1_1 : ad10 (t + 1 + 1 + 1 + 1 + 1) = q6 := by rw [ead10]; exact (va_up_ne _ _ (by omega)).trans a9_t_1_1_1_1_1
  have a10_t_1_1_1_1_1_1 : ad10 (t + 1 + 1 + 1 + 1 + 1 + 1) = q7 := by rw [ead10]; exact (va_up_ne _ _ (by omega)).trans a9_t_1_1_1_1_1_1
  have a10_t_1_1_1_1_1_1_1 : ad10 (t + 1 + 1 + 1 + 1 + 1 + 1 + 1) = q8 := by rw [ead10]; exact (va_up_ne _ _ (by omega)).trans a9_t_1_1_1_1_1_1_1
  have a10_t_1_1_1_1_1_1_1_1 : ad10 (t + 1 + 1 + 1 + 1 + 1 + 1 + 1 + 1) = q9 := by rw [ead10]; exact (va_up_ne _ _ (by omega)).trans a9_t_1_1_1_1_1_1_1_1
  have a10_t_1_1_1_1_1_1_1_1_1 : ad10 (t + 1 + 1 + 1 + 1 + 1 + 1 + 1 + 1 + 1) = q10 := by rw [ead10]; exact va_up_self _ _ _
  have b10 : ∀ j, j < t → ad10 j = ad j := fun j h1 => by rw [ead10]; exact (va_up_ne _ _ (by omega)).trans (b9 j h1)
  clear a9_k a9_t a9_t_1 a9_t_1_1 a9_t_1_1_1 a9_t_1_1_1_1 a9_t_1_1_1_1_1 a9_t_1_1_1_1_1_1 a9_t_1_1_1_1_1_1_1 a9_t_1_1_1_1_1_1_1_1 b9 ead10
  obtain ⟨c20, ec20⟩ : ∃ c20, c20 = va_up c19 (t + 1 + 1 + 1 + 1 + 1 + 1 + 1 + 1 + 1) (.inl (x_ca G 0, 1024, .inl (fun _ => (0 : Int32)))) := ⟨_, rfl⟩
  rw [← ec20] at hP hD
  have f20_k : c20 k = .inr (5, [.int 0, .int 0, .ref q1, .int 0, .int (-1 : Int32), .ref q2, .ref q3, .ref q4, .ref q5, .ref q6, .ref q7, .ref q8, .ref q9, .null, .null, .null, .null, .null, .null, .int 0, .null, .null, .null, .null, .null, .null, .null, .int 0, .null, .null, .null]) := by rw [ec20]; exact (va_up_ne _ _ (by omega)).trans f19_k
  have f20_t : c20 t = .inl (x_ca G 0, 2560, .inl (fun _ => (0 : Int32))) := by rw [ec20]; exact (va_up_ne _ _ (by omega)).trans f19_t
  have f20_t_1 : c20 (t + 1) = .inl (x_ca G 1, 8, .inl (fun _ => (0 : Int32))) := by rw [ec20]; exact (va_up_ne _ _ (by omega)).trans f19_t_1
  have f20_t_1_1 : c20 (t + 1 + 1) = .inl (x_ca G 0, 8, .inl (fun _ => (0 : Int32))) := by rw [ec20]; exact (va_up_ne _ _ (by omega)).trans f19_t_1_1
  have f20_t_1_1_1 : c20 (t + 1 + 1 + 1) = .inl (x_ca G 0, 8, .inl (fun _ => (0 : Int32))) := by rw [ec20]; exact (va_up_ne _ _ (by omega)).trans f19_t_1_1_1
  have f20_t_1_1_1_1 : c20 (t + 1 + 1 + 1 + 1) = .inl (x_ca G 0, 8, .inl (fun _ => (0 : Int32))) := by rw [ec20]; exact (va_up_ne _ _ (by omega)).trans f19_t_1_1_1_1
  have f20_t_1_1_1_1_1 : c20 (t + 1 + 1 + 1 + 1 + 1) = .inl (x_ca G 0, 512, .inl (fun _ => (0 : Int32))) := by rw [ec20]; exact (va_up_ne _ _ (by omega)).trans f19_t_1_1_1_1_1
  have f20_t_1_1_1_1_1_1 : c20 (t + 1 + 1 + 1 + 1 + 1 + 1) = .inl (x_ca G 1, 16, .inl (fun _ => (0 : Int32))) := by rw [ec20]; exact (va_up_ne _ _ (by omega)).trans f19_t_1_1_1_1_1_1
  have f20_t_1_1_1_1_1_1_1 : c20 (t + 1 + 1 + 1 + 1 + 1 + 1 + 1) = .inl (x_ca G 0, 16, .inl (fun _ => (0 : Int32))) := by rw [ec20]; exact (va_up_ne _ _ (by omega)).trans f19_t_1_1_1_1_1_1_1
  have f20_t_1_1_1_1_1_1_1_1 : c20 (t + 1 + 1 + 1 + 1 + 1 + 1 + 1 + 1) = .inl (x_ca G 0, 16, .inl (fun _ => (0 : Int32))) := by rw [ec20]; exact (va_up_ne _ _ (by omega)).trans f19_t_1_1_1_1_1_1_1_1
  have f20_t_1_1_1_1_1_1_1_1_1 : c20 (t + 1 + 1 + 1 + 1 + 1 + 1 + 1 + 1 + 1) = .inl (x_ca G 0, 1024, .inl (fun _ => (0 : Int32))) := by rw [ec20]; exact va_up_self _ _ _
  have g20 : ∀ j, j < t → j ≠ k → c20 j = c j := fun j h1 h2 => by rw [ec20]; exact (va_up_ne _ _ (by omega)).trans (g19 j h1 h2)
  clear f19_k f19_t f19_t_1 f19_t_1_1 f19_t_1_1_1 f19_t_1_1_1_1 f19_t_1_1_1_1_1 f19_t_1_1_1_1_1_1 f19_t_1_1_1_1_1_1_1 f19_t_1_1_1_1_1_1_1_1 g19 ec20
  refine va_putF (D := x_D G) (ci := 5) (v := .ref q10) (ty := .array .int) (C := "ContentLibraryModel") (T := x_TM) (N := 31) hx hb hts x_inM x_tyM x_tyM_ok x_nmM hown hK hP hD hS k (y_at (by omega) a10_k f20_k) rfl 13 (by decide) (hts _ t_685) (fun _ h9 => h9) rfl hin rfl (by decide +kernel) rfl rfl (Nat.le_of_ble_eq_true rfl) d_M_init_89 (fun H locs hP hD hS => ?_)
  rw [y_set (by omega) a10_k] at hP hD
  obtain ⟨c21, ec21⟩ : ∃ c21, c21 = va_up c20 k (.inr (5, ([.int 0, .int 0, .ref q1, .int 0, .int (-1 : Int32), .ref q2, .ref q3, .ref q4, .ref q5, .ref q6, .ref q7, .ref q8, .ref q9, .null, .null, .null, .null, .null, .null, .int 0, .null, .null, .null, .null, .null, .null, .null, .int 0, .null, .null, .null] : List Value).set 13 (.ref q10))) := ⟨_, rfl⟩
  rw [← ec21] at hP hD
  have f21_t : c21 t = .inl (x_ca G 0, 2560, .inl (fun _ => (0 : Int32))) := by rw [ec21]; exact (va_up_ne _ _ (by omega)).trans f20_t
  have f21_t_1 : c21 (t + 1) = .inl (x_ca G 1, 8, .inl (fun _ => (0 : Int32))) := by rw [ec21]; exact (va_up_ne _ _ (by omega)).trans f20_t_1
  have f21_t_1_1 : c21 (t + 1 + 1) = .inl (x_ca G 0, 8, .inl (fun _ => (0 : Int32))) := by rw [ec21]; exact (va_up_ne _ _ (by omega)).trans f20_t_1_1
  have f21_t_1_1_1 : c21 (t + 1 + 1 + 1) = .inl (x_ca G 0, 8, .inl (fun _ => (0 : Int32))) := by rw [ec21]; exact (va_up_ne _ _ (by omega)).trans f20_t_1_1_1
  have f21_t_1_1_1_1 : c21 (t + 1 + 1 + 1 + 1) = .inl (x_ca G 0, 8, .inl (fun _ => (0 : Int32))) := by rw [ec21]; exact (va_up_ne _ _ (by omega)).trans f20_t_1_1_1_1
  have f21_t_1_1_1_1_1 : c21 (t + 1 + 1 + 1 + 1 + 1) = .inl (x_ca G 0, 512, .inl (fun _ => (0 : Int32))) := by rw [ec21]; exact (va_up_ne _ _ (by omega)).trans f20_t_1_1_1_1_1
  have f21_t_1_1_1_1_1_1 : c21 (t + 1 + 1 + 1 + 1 + 1 + 1) = .inl (x_ca G 1, 16, .inl (fun _ => (0 : Int32))) := by rw [ec21]; exact (va_up_ne _ _ (by omega)).trans f20_t_1_1_1_1_1_1
  have f21_t_1_1_1_1_1_1_1 : c21 (t + 1 + 1 + 1 + 1 + 1 + 1 + 1) = .inl (x_ca G 0, 16, .inl (fun _ => (0 : Int32))) := by rw [ec21]; exact (va_up_ne _ _ (by omega)).trans f20_t_1_1_1_1_1_1_1
  have f21_t_1_1_1_1_1_1_1_1 : c21 (t + 1 + 1 + 1 + 1 + 1 + 1 + 1 + 1) = .inl (x_ca G 0, 16, .inl (fun _ => (0 : Int32))) := by rw [ec21]; exact (va_up_ne _ _ (by omega)).trans f20_t_1_1_1_1_1_1_1_1
  have f21_t_1_1_1_1_1_1_1_1_1 : c21 (t + 1 + 1 + 1 + 1 + 1 + 1 + 1 + 1 + 1) = .inl (x_ca G 0, 1024, .inl (fun _ => (0 : Int32))) := by rw [ec21]; exact (va_up_ne _ _ (by omega)).trans f20_t_1_1_1_1_1_1_1_1_1
  have f21_k : c21 k = .inr (5, [.int 0, .int 0, .ref q1, .int 0, .int (-1 : Int32), .ref q2, .ref q3, .ref q4, .ref q5, .ref q6, .ref q7, .ref q8, .ref q9, .ref q10, .null, .null, .null, .null, .null, .int 0, .null, .null, .null, .null, .null, .null, .null, .int 0, .null, .null, .null]) := by rw [ec21]; exact va_up_self _ _ _
  have g21 : ∀ j, j < t → j ≠ k → c21 j = c j := fun j h1 h2 => by rw [ec21]; exact (va_up_ne _ _ (by omega)).trans (g20 j h1 h2)
  clear f20_k f20_t f20_t_1 f20_t_1_1 f20_t_1_1_1 f20_t_1_1_1_1 f20_t_1_1_1_1_1 f20_t_1_1_1_1_1_1 f20_t_1_1_1_1_1_1_1 f20_t_1_1_1_1_1_1_1_1 f20_t_1_1_1_1_1_1_1_1_1 g20 ec21
  refine lv_aload_n hx hb d_M_init_92 rfl (lv_at hl 0 rfl) ?_
  refine lv_bipush (v := (16 : Int32)) hx hb d_M_init_93 (by decide) ?_
  refine va_newa (atype := .int) hx hb (hts _ t_58) (ty := .int) rfl hK hP hD hS hA (N' := 16) (a0 := (16, .inl (fun _ => (0 : Int32)))) (fun _ => rfl) (by decide) (by decide) (by decide) (Nat.le_of_ble_eq_true rfl) (Nat.le_of_ble_eq_true rfl) d_M_init_95 (fun q11 cA H hK2 hP hD hS => ?_)
  obtain rfl := y_caI hK2
  rw [y_push] at hP hD
  obtain ⟨ad11, ead11⟩ : ∃ a1, a1 = va_up ad10 (t + 1 + 1 + 1 + 1 + 1 + 1 + 1 + 1 + 1 + 1) q11 := ⟨_, rfl⟩
  rw [← ead11] at hP hD
  have a11_k : ad11 k = (ad k) := by rw [ead11]; exact (va_up_ne _ _ (by omega)).trans a10_k
  have a11_t : ad11 t = q1 := by rw [ead11]; exact (va_up_ne _ _ (by omega)).trans a10_t
  have a11_t_1 : ad11 (t + 1) = q2 := by rw [ead11]; exact (va_up_ne _ _ (by omega)).trans a10_t_1
  have a11_t_1_1 : ad11 (t + 1 + 1) = q3 := by rw [ead11]; exact (va_up_ne _ _ (by omega)).trans a10_t_1_1
  have a11_t_1_1_1 : ad11 (t + 1 + 1 + 1) = q4 := by rw [ead11]; exact (va_up_ne _ _ (by omega)).trans a10_t_1_1_1
  have a11_t_1_1_1_1 : ad11 (t + 1 + 1 + 1 + 1) = q5 := by rw [ead11]; exact (va_up_ne _ _ (by omega)).trans a10_t_1_1_1_1
  have a11_t_1_1_1_1_1 : ad11 (t + 1 + 1 + 1 + 1 + 1) = q6 := by rw [ead11]; exact (va_up_ne _ _ (by omega)).trans a10_t_1_1_1_1_1
  have a11_t_1_1_1_1_1_1 : ad11 (t + 1 + 1 + 1 + 1 + 1 + 1) = q7 := by rw [ead11]; exact (va_up_ne _ _ (by omega)).trans a10_t_1_1_1_1_1_1
  have a11_t_1_1_1_1_1_1_1 : ad11 (t + 1 + 1 + 1 + 1 + 1 + 1 + 1) = q8 := by rw [ead11]; exact (va_up_ne _ _ (by omega)).trans a10_t_1_1_1_1_1_1_1
  have a11_t_1_1_1_1_1_1_1_1 : ad11 (t + 1 + 1 + 1 + 1 + 1 + 1 + 1 + 1) = q9 := by rw [ead11]; exact (va_up_ne _ _ (by omega)).trans a10_t_1_1_1_1_1_1_1_1
  have a11_t_1_1_1_1_1_1_1_1_1 : ad11 (t + 1 + 1 + 1 + 1 + 1 + 1 + 1 + 1 + 1) = q10 := by rw [ead11]; exact (va_up_ne _ _ (by omega)).trans a10_t_1_1_1_1_1_1_1_1_1
  have a11_t_1_1_1_1_1_1_1_1_1_1 : ad11 (t + 1 + 1 + 1 + 1 + 1 + 1 + 1 + 1 + 1 + 1) = q11 := by rw [ead11]; exact va_up_self _ _ _
  have b11 : ∀ j, j < t → ad11 j = ad j := fun j h1 => by rw [ead11]; exact (va_up_ne _ _ (by omega)).trans (b10 j h1)
  clear a10_k a10_t a10_t_1 a10_t_1_1 a10_t_1_1_1 a10_t_1_1_1_1 a10_t_1_1_1_1_1 a10_t_1_1_1_1_1_1 a10_t_1_1_1_1_1_1_1 a10_t_1_1_1_1_1_1_1_1 a10_t_1_1_1_1_1_1_1_1_1 b10 ead11
  obtain ⟨c22, ec22⟩ : ∃ c22, c22 = va_up c21 (t + 1 + 1 + 1 + 1 + 1 + 1 + 1 + 1 + 1 + 1) (.inl (x_ca G 0, 16, .inl (fun _ => (0 : Int32)))) := ⟨_, rfl⟩
  rw [← ec22] at hP hD
  have f22_k : c22 k = .inr (5, [.int 0, .int 0, .ref q1, .int 0, .int (-1 : Int32), .ref q2, .ref q3, .ref q4, .ref q5, .ref q6, .ref q7, .ref q8, .ref q9, .ref q10, .null, .null, .null, .null, .null, .int 0, .null, .null, .null, .null, .null, .null, .null, .int 0, .null, .null, .null]) := by rw [ec22]; exact (va_up_ne _ _ (by omega)).trans f21_k
  have f22_t : c22 t = .inl (x_ca G 0, 2560, .inl (fun _ => (0 : Int32))) := by rw [ec22]; exact (va_up_ne _ _ (by omega)).trans f21_t
  have f22_t_1 : c22 (t + 1) = .inl (x_ca G 1, 8, .inl (fun _ => (0 : Int32))) := by rw [ec22]; exact (va_up_ne _ _ (by omega)).trans f21_t_1
  have f22_t_1_1 : c22 (t + 1 + 1) = .inl (x_ca G 0, 8, .inl (fun _ => (0 : Int32))) := by rw [ec22]; exact (va_up_ne _ _ (by omega)).trans f21_t_1_1
  have f22_t_1_1_1 : c22 (t + 1 + 1 + 1) = .inl (x_ca G 0, 8, .inl (fun _ => (0 : Int32))) := by rw [ec22]; exact (va_up_ne _ _ (by omega)).trans f21_t_1_1_1
  have f22_t_1_1_1_1 : c22 (t + 1 + 1 + 1 + 1) = .inl (x_ca G 0, 8, .inl (fun _ => (0 : Int32))) := by rw [ec22]; exact (va_up_ne _ _ (by omega)).trans f21_t_1_1_1_1
  have f22_t_1_1_1_1_1 : c22 (t + 1 + 1 + 1 + 1 + 1) = .inl (x_ca G 0, 512, .inl (fun _ => (0 : Int32))) := by rw [ec22]; exact (va_up_ne _ _ (by omega)).trans f21_t_1_1_1_1_1
  have f22_t_1_1_1_1_1_1 : c22 (t + 1 + 1 + 1 + 1 + 1 + 1) = .inl (x_ca G 1, 16, .inl (fun _ => (0 : Int32))) := by rw [ec22]; exact (va_up_ne _ _ (by omega)).trans f21_t_1_1_1_1_1_1
  have f22_t_1_1_1_1_1_1_1 : c22 (t + 1 + 1 + 1 + 1 + 1 + 1 + 1) = .inl (x_ca G 0, 16, .inl (fun _ => (0 : Int32))) := by rw [ec22]; exact (va_up_ne _ _ (by omega)).trans f21_t_1_1_1_1_1_1_1
  have f22_t_1_1_1_1_1_1_1_1 : c22 (t + 1 + 1 + 1 + 1 + 1 + 1 + 1 + 1) = .inl (x_ca G 0, 16, .inl (fun _ => (0 : Int32))) := by rw [ec22]; exact (va_up_ne _ _ (by omega)).trans f21_t_1_1_1_1_1_1_1_1
  have f22_t_1_1_1_1_1_1_1_1_1 : c22 (t + 1 + 1 + 1 + 1 + 1 + 1 + 1 + 1 + 1) = .inl (x_ca G 0, 1024, .inl (fun _ => (0 : Int32))) := by rw [ec22]; exact (va_up_ne _ _ (by omega)).trans f21_t_1_1_1_1_1_1_1_1_1
  have f22_t_1_1_1_1_1_1_1_1_1_1 : c22 (t + 1 + 1 + 1 + 1 + 1 + 1 + 1 + 1 + 1 + 1) = .inl (x_ca G 0, 16, .inl (fun _ => (0 : Int32))) := by rw [ec22]; exact va_up_self _ _ _
  have g22 : ∀ j, j < t → j ≠ k → c22 j = c j := fun j h1 h2 => by rw [ec22]; exact (va_up_ne _ _ (by omega)).trans (g21 j h1 h2)
  clear f21_k f21_t f21_t_1 f21_t_1_1 f21_t_1_1_1 f21_t_1_1_1_1 f21_t_1_1_1_1_1 f21_t_1_1_1_1_1_1 f21_t_1_1_1_1_1_1_1 f21_t_1_1_1_1_1_1_1_1 f21_t_1_1_1_1_1_1_1_1_1 g21 ec22
  refine va_putF (D := x_D G) (ci := 5) (v := .ref q11) (ty := .array .int) (C := "ContentLibraryModel") (T := x_TM) (N := 31) hx hb hts x_inM x_tyM x_tyM_ok x_nmM hown hK hP hD hS k (y_at (by omega) a11_k f22_k) rfl 14 (by decide) (hts _ t_686) (fun _ h9 => h9) rfl hin rfl (by decide +kernel) rfl rfl (Nat.le_of_ble_eq_true rfl) d_M_init_97 (fun H locs hP hD hS => ?_)
  rw [y_set (by omega) a11_k] at hP hD
  obtain ⟨c23, ec23⟩ : ∃ c23, c23 = va_up c22 k (.inr (5, ([.int 0, .int 0, .ref q1, .int 0, .int (-1 : Int32), .ref q2, .ref q3, .ref q4, .ref q5, .ref q6, .ref q7, .ref q8, .ref q9, .ref q10, .null, .null, .null, .null, .null, .int 0, .null, .null, .null, .null, .null, .null, .null, .int 0, .null, .null, .null] : List Value).set 14 (.ref q11))) := ⟨_, rfl⟩
  rw [← ec23] at hP hD
  have f23_t : c23 t = .inl (x_ca G 0, 2560, .inl (fun _ => (0 : Int32))) := by rw [ec23]; exact (va_up_ne _ _ (by omega)).trans f22_t
  have f23_t_1 : c23 (t + 1) = .inl (x_ca G 1, 8, .inl (fun _ => (0 : Int32))) := by rw [ec23]; exact (va_up_ne _ _ (by omega)).trans f22_t_1
  have f23_t_1_1 : c23 (t + 1 + 1) = .inl (x_ca G 0, 8, .inl (fun _ => (0 : Int32))) := by rw [ec23]; exact (va_up_ne _ _ (by omega)).trans f22_t_1_1
  have f23_t_1_1_1 : c23 (t + 1 + 1 + 1) = .inl (x_ca G 0, 8, .inl (fun _ => (0 : Int32))) := by rw [ec23]; exact (va_up_ne _ _ (by omega)).trans f22_t_1_1_1
  have f23_t_1_1_1_1 : c23 (t + 1 + 1 + 1 + 1) = .inl (x_ca G 0, 8, .inl (fun _ => (0 : Int32))) := by rw [ec23]; exact (va_up_ne _ _ (by omega)).trans f22_t_1_1_1_1
  have f23_t_1_1_1_1_1 : c23 (t + 1 + 1 + 1 + 1 + 1) = .inl (x_ca G 0, 512, .inl (fun _ => (0 : Int32))) := by rw [ec23]; exact (va_up_ne _ _ (by omega)).trans f22_t_1_1_1_1_1
  have f23_t_1_1_1_1_1_1 : c23 (t + 1 + 1 + 1 + 1 + 1 + 1) = .inl (x_ca G 1, 16, .inl (fun _ => (0 : Int32))) := by rw [ec23]; exact (va_up_ne _ _ (by omega)).trans f22_t_1_1_1_1_1_1
  have f23_t_1_1_1_1_1_1_1 : c23 (t + 1 + 1 + 1 + 1 + 1 + 1 + 1) = .inl (x_ca G 0, 16, .inl (fun _ => (0 : Int32))) := by rw [ec23]; exact (va_up_ne _ _ (by omega)).trans f22_t_1_1_1_1_1_1_1
  have f23_t_1_1_1_1_1_1_1_1 : c23 (t + 1 + 1 + 1 + 1 + 1 + 1 + 1 + 1) = .inl (x_ca G 0, 16, .inl (fun _ => (0 : Int32))) := by rw [ec23]; exact (va_up_ne _ _ (by omega)).trans f22_t_1_1_1_1_1_1_1_1
  have f23_t_1_1_1_1_1_1_1_1_1 : c23 (t + 1 + 1 + 1 + 1 + 1 + 1 + 1 + 1 + 1) = .inl (x_ca G 0, 1024, .inl (fun _ => (0 : Int32))) := by rw [ec23]; exact (va_up_ne _ _ (by omega)).trans f22_t_1_1_1_1_1_1_1_1_1
  have f23_t_1_1_1_1_1_1_1_1_1_1 : c23 (t + 1 + 1 + 1 + 1 + 1 + 1 + 1 + 1 + 1 + 1) = .inl (x_ca G 0, 16, .inl (fun _ => (0 : Int32))) := by rw [ec23]; exact (va_up_ne _ _ (by omega)).trans f22_t_1_1_1_1_1_1_1_1_1_1
  have f23_k : c23 k = .inr (5, [.int 0, .int 0, .ref q1, .int 0, .int (-1 : Int32), .ref q2, .ref q3, .ref q4, .ref q5, .ref q6, .ref q7, .ref q8, .ref q9, .ref q10, .ref q11, .null, .null, .null, .null, .int 0, .null, .null, .null, .null, .null, .null, .null, .int 0, .null, .null, .null]) := by rw [ec23]; exact va_up_self _ _ _
  have g23 : ∀ j, j < t → j ≠ k → c23 j = c j := fun j h1 h2 => by rw [ec23]; exact (va_up_ne _ _ (by omega)).trans (g22 j h1 h2)
  clear f22_k f22_t f22_t_1 f22_t_1_1 f22_t_1_1_1 f22_t_1_1_1_1 f22_t_1_1_1_1_1 f22_t_1_1_1_1_1_1 f22_t_1_1_1_1_1_1_1 f22_t_1_1_1_1_1_1_1_1 f22_t_1_1_1_1_1_1_1_1_1 f22_t_1_1_1_1_1_1_1_1_1_1 g22 ec23
  refine lv_aload_n hx hb d_M_init_100 rfl (lv_at hl 0 rfl) ?_
  refine lv_bipush (v := (16 : Int32)) hx hb d_M_init_101 (by decide) ?_
  refine va_newa (atype := .int) hx hb (hts _ t_58) (ty := .int) rfl hK hP hD hS hA (N' := 16) (a0 := (16, .inl (fun _ => (0 : Int32)))) (fun _ => rfl) (by decide) (by decide) (by decide) (Nat.le_of_ble_eq_true rfl) (Nat.le_of_ble_eq_true rfl) d_M_init_103 (fun q12 cA H hK2 hP hD hS => ?_)
  obtain rfl := y_caI hK2
  rw [y_push] at hP hD
  obtain ⟨ad12, ead12⟩ : ∃ a1, a1 = va_up ad11 (t + 1 + 1 + 1 + 1 + 1 + 1 + 1 + 1 + 1 + 1 + 1) q12 := ⟨_, rfl⟩
  rw [← ead12] at hP hD
  have a12_k : ad12 k = (ad k) := by rw [ead12]; exact (va_up_ne _ _ (by omega)).trans a11_k
  have a12_t : ad12 t = q1 := by rw [ead12]; exact (va_up_ne _ _ (by omega)).trans a11_t
  have a12_t_1 : ad12 (t + 1) = q2 := by rw [ead12]; exact (va_up_ne _ _ (by omega)).trans a11_t_1
  have a12_t_1_1 : ad12 (t + 1 + 1) = q3 := by rw [ead12]; exact (va_up_ne _ _ (by omega)).trans a11_t_1_1
  have a12_t_1_1_1 : ad12 (t + 1 + 1 + 1) = q4 := by rw [ead12]; exact (va_up_ne _ _ (by omega)).trans a11_t_1_1_1
  have a12_t_1_1_1_1 : ad12 (t + 1 + 1 + 1 + 1) = q5 := by rw [ead12]; exact (va_up_ne _ _ (by omega)).trans a11_t_1_1_1_1
  have a12_t_1_1_1_1_1 : ad12 (t + 1 + 1 + 1 + 1 + 1) = q6 := by rw [ead12]; exact (va_up_ne _ _ (by omega)).trans a11_t_1_1_1_1_1
  have a12_t_1_1_1_1_1_1 : ad12 (t + 1 + 1 + 1 + 1 + 1 + 1) = q7 := by rw [ead12]; exact (va_up_ne _ _ (by omega)).trans a11_t_1_1_1_1_1_1
  have a12_t_1_1_1_1_1_1_1 : ad12 (t + 1 + 1 + 1 + 1 + 1 + 1 + 1) = q8 := by rw [ead12]; exact (va_up_ne _ _ (by omega)).trans a11_t_1_1_1_1_1_1_1
  have a12_t_1_1_1_1_1_1_1_1 : ad12 (t + 1 + 1 + 1 + 1 + 1 + 1 + 1 + 1) = q9 := by rw [ead12]; exact (va_up_ne _ _ (by omega)).trans a11_t_1_1_1_1_1_1_1_1
  have a12_t_1_1_1_1_1_1_1_1_1 : ad12 (t + 1 + 1 + 1 + 1 + 1 + 1 + 1 + 1 + 1) = q10 := by rw [ead12]; exact (va_up_ne _ _ (by omega)).trans a11_t_1_1_1_1_1_1_1_1_1
  have a12_t_1_1_1_1_1_1_1_1_1_1 : ad12 (t + 1 + 1 + 1 + 1 + 1 + 1 + 1 + 1 + 1 + 1) = q11 := by rw [ead12]; exact (va_up_ne _ _ (by omega)).trans a11_t_1_1_1_1_1_1_1_1_1_1
  have a12_t_1_1_1_1_1_1_1_1_1_1_1 : ad12 (t + 1 + 1 + 1 + 1 + 1 + 1 + 1 + 1 + 1 + 1 + 1) = q12 := by rw [ead12]; exact va_up_self _ _ _
  have b12 : ∀ j, j < t → ad12 j = ad j := fun j h1 => by rw [ead12]; exact (va_up_ne _ _ (by omega)).trans (b11 j h1)
  clear a11_k a11_t a11_t_1 a11_t_1_1 a11_t_1_1_1 a11_t_1_1_1_1 a11_t_1_1_1_1_1 a11_t_1_1_1_1_1_1 a11_t_1_1_1_1_1_1_1 a11_t_1_1_1_1_1_1_1_1 a11_t_1_1_1_1_1_1_1_1_1 a11_t_1_1_1_1_1_1_1_1_1_1 b11 ead12
  obtain ⟨c24, ec24⟩ : ∃ c24, c24 = va_up c23 (t + 1 + 1 + 1 + 1 + 1 + 1 + 1 + 1 + 1 + 1 + 1) (.inl (x_ca G 0, 16, .inl (fun _ => (0 : Int32)))) := ⟨_, rfl⟩
  rw [← ec24] at hP hD
  have f24_k : c24 k = .inr (5, [.int 0, .int 0, .ref q1, .int 0, .int (-1 : Int32), .ref q2, .ref q3, .ref q4, .ref q5, .ref q6, .ref q7, .ref q8, .ref q9, .ref q10, .ref q11, .null, .null, .null, .null, .int 0, .null, .null, .null, .null, .null, .null, .null, .int 0, .null, .null, .null]) := by rw [ec24]; exact (va_up_ne _ _ (by omega)).trans f23_k
  have f24_t : c24 t = .inl (x_ca G 0, 2560, .inl (fun _ => (0 : Int32))) := by rw [ec24]; exact (va_up_ne _ _ (by omega)).trans f23_t
  have f24_t_1 : c24 (t + 1) = .inl (x_ca G 1, 8, .inl (fun _ => (0 : Int32))) := by rw [ec24]; exact (va_up_ne _ _ (by omega)).trans f23_t_1
  have f24_t_1_1 : c24 (t + 1 + 1) = .inl (x_ca G 0, 8, .inl (fun _ => (0 : Int32))) := by rw [ec24]; exact (va_up_ne _ _ (by omega)).trans f23_t_1_1
  have f24_t_1_1_1 : c24 (t + 1 + 1 + 1) = .inl (x_ca G 0, 8, .inl (fun _ => (0 : Int32))) := by rw [ec24]; exact (va_up_ne _ _ (by omega)).trans f23_t_1_1_1
  have f24_t_1_1_1_1 : c24 (t + 1 + 1 + 1 + 1) = .inl (x_ca G 0, 8, .inl (fun _ => (0 : Int32))) := by rw [ec24]; exact (va_up_ne _ _ (by omega)).trans f23_t_1_1_1_1
  have f24_t_1_1_1_1_1 : c24 (t + 1 + 1 + 1 + 1 + 1) = .inl (x_ca G 0, 512, .inl (fun _ => (0 : Int32))) := by rw [ec24]; exact (va_up_ne _ _ (by omega)).trans f23_t_1_1_1_1_1
  have f24_t_1_1_1_1_1_1 : c24 (t + 1 + 1 + 1 + 1 + 1 + 1) = .inl (x_ca G 1, 16, .inl (fun _ => (0 : Int32))) := by rw [ec24]; exact (va_up_ne _ _ (by omega)).trans f23_t_1_1_1_1_1_1
  have f24_t_1_1_1_1_1_1_1 : c24 (t + 1 + 1 + 1 + 1 + 1 + 1 + 1) = .inl (x_ca G 0, 16, .inl (fun _ => (0 : Int32))) := by rw [ec24]; exact (va_up_ne _ _ (by omega)).trans f23_t_1_1_1_1_1_1_1
  have f24_t_1_1_1_1_1_1_1_1 : c24 (t + 1 + 1 + 1 + 1 + 1 + 1 + 1 + 1) = .inl (x_ca G 0, 16, .inl (fun _ => (0 : Int32))) := by rw [ec24]; exact (va_up_ne _ _ (by omega)).trans f23_t_1_1_1_1_1_1_1_1
  have f24_t_1_1_1_1_1_1_1_1_1 : c24 (t + 1 + 1 + 1 + 1 + 1 + 1 + 1 + 1 + 1) = .inl (x_ca G 0, 1024, .inl (fun _ => (0 : Int32))) := by rw [ec24]; exact (va_up_ne _ _ (by omega)).trans f23_t_1_1_1_1_1_1_1_1_1
  have f24_t_1_1_1_1_1_1_1_1_1_1 : c24 (t + 1 + 1 + 1 + 1 + 1 + 1 + 1 + 1 + 1 + 1) = .inl (x_ca G 0, 16, .inl (fun _ => (0 : Int32))) := by rw [ec24]; exact (va_up_ne _ _ (by omega)).trans f23_t_1_1_1_1_1_1_1_1_1_1
  have f24_t_1_1_1_1_1_1_1_1_1_1_1 : c24 (t + 1 + 1 + 1 + 1 + 1 + 1 + 1 + 1 + 1 + 1 + 1) = .inl (x_ca G 0, 16, .inl (fun _ => (0 : Int32))) := by rw [ec24]; exact va_up_self _ _ _
  have g24 : ∀ j, j < t → j ≠ k → c24 j = c j := fun j h1 h2 => by rw [ec24]; exact (va_up_ne _ _ (by omega)).trans (g23 j h1 h2)
  clear f23_k f23_t f23_t_1 f23_t_1_1 f23_t_1_1_1 f23_t_1_1_1_1 f23_t_1_1_1_1_1 f23_t_1_1_1_1_1_1 f23_t_1_1_1_1_1_1_1 f23_t_1_1_1_1_1_1_1_1 f23_t_1_1_1_1_1_1_1_1_1 f23_t_1_1_1_1_1_1_1_1_1_1 g23 ec24
  refine va_putF (D := x_D G) (ci := 5) (v := .ref q12) (ty := .array .int) (C := "ContentLibraryModel") (T := x_TM) (N := 31) hx hb hts x_inM x_tyM x_tyM_ok x_nmM hown hK hP hD hS k (y_at (by omega) a12_k f24_k) rfl 15 (by decide) (hts _ t_687) (fun _ h9 => h9) rfl hin rfl (by decide +kernel) rfl rfl (Nat.le_of_ble_eq_true rfl) d_M_init_105 (fun H locs hP hD hS => ?_)
  rw [y_set (by omega) a12_k] at hP hD
  obtain ⟨c25, ec25⟩ : ∃ c25, c25 = va_up c24 k (.inr (5, ([.int 0, .int 0, .ref q1, .int 0, .int (-1 : Int32), .ref q2, .ref q3, .ref q4, .ref q5, .ref q6, .ref q7, .ref q8, .ref q9, .ref q10, .ref q11, .null, .null, .null, .null, .int 0, .null, .null, .null, .null, .null, .null, .null, .int 0, .null, .null, .null] : List Value).set 15 (.ref q12))) := ⟨_, rfl⟩
  rw [← ec25] at hP hD
  have f25_t : c25 t = .inl (x_ca G 0, 2560, .inl (fun _ => (0 : Int32))) := by rw [ec25]; exact (va_up_ne _ _ (by omega)).trans f24_t
  have f25_t_1 : c25 (t + 1) = .inl (x_ca G 1, 8, .inl (fun _ => (0 : Int32))) := by rw [ec25]; exact (va_up_ne _ _ (by omega)).trans f24_t_1
  have f25_t_1_1 : c25 (t + 1 + 1) = .inl (x_ca G 0, 8, .inl (fun _ => (0 : Int32))) := by rw [ec25]; exact (va_up_ne _ _ (by omega)).trans f24_t_1_1
  have f25_t_1_1_1 : c25 (t + 1 + 1 + 1) = .inl (x_ca G 0, 8, .inl (fun _ => (0 : Int32))) := by rw [ec25]; exact (va_up_ne _ _ (by omega)).trans f24_t_1_1_1
  have f25_t_1_1_1_1 : c25 (t + 1 + 1 + 1 + 1) = .inl (x_ca G 0, 8, .inl (fun _ => (0 : Int32))) := by rw [ec25]; exact (va_up_ne _ _ (by omega)).trans f24_t_1_1_1_1
  have f25_t_1_1_1_1_1 : c25 (t + 1 + 1 + 1 + 1 + 1) = .inl (x_ca G 0, 512, .inl (fun _ => (0 : Int32))) := by rw [ec25]; exact (va_up_ne _ _ (by omega)).trans f24_t_1_1_1_1_1
  have f25_t_1_1_1_1_1_1 : c25 (t + 1 + 1 + 1 + 1 + 1 + 1) = .inl (x_ca G 1, 16, .inl (fun _ => (0 : Int32))) := by rw [ec25]; exact (va_up_ne _ _ (by omega)).trans f24_t_1_1_1_1_1_1
  have f25_t_1_1_1_1_1_1_1 : c25 (t + 1 + 1 + 1 + 1 + 1 + 1 + 1) = .inl (x_ca G 0, 16, .inl (fun _ => (0 : Int32))) := by rw [ec25]; exact (va_up_ne _ _ (by omega)).trans f24_t_1_1_1_1_1_1_1
  have f25_t_1_1_1_1_1_1_1_1 : c25 (t + 1 + 1 + 1 + 1 + 1 + 1 + 1 + 1) = .inl (x_ca G 0, 16, .inl (fun _ => (0 : Int32))) := by rw [ec25]; exact (va_up_ne _ _ (by omega)).trans f24_t_1_1_1_1_1_1_1_1
  have f25_t_1_1_1_1_1_1_1_1_1 : c25 (t + 1 + 1 + 1 + 1 + 1 + 1 + 1 + 1 + 1) = .inl (x_ca G 0, 1024, .inl (fun _ => (0 : Int32))) := by rw [ec25]; exact (va_up_ne _ _ (by omega)).trans f24_t_1_1_1_1_1_1_1_1_1
  have f25_t_1_1_1_1_1_1_1_1_1_1 : c25 (t + 1 + 1 + 1 + 1 + 1 + 1 + 1 + 1 + 1 + 1) = .inl (x_ca G 0, 16, .inl (fun _ => (0 : Int32))) := by rw [ec25]; exact (va_up_ne _ _ (by omega)).trans f24_t_1_1_1_1_1_1_1_1_1_1
  have f25_t_1_1_1_1_1_1_1_1_1_1_1 : c25 (t + 1 + 1 + 1 + 1 + 1 + 1 + 1 + 1 + 1 + 1 + 1) = .inl (x_ca G 0, 16, .inl (fun _ => (0 : Int32))) := by rw [ec25]; exact (va_up_ne _ _ (by omega)).trans f24_t_1_1_1_1_1_1_1_1_1_1_1
  have f25_k : c25 k = .inr (5, [.int 0, .int 0, .ref q1, .int 0, .int (-1 : Int32), .ref q2, .ref q3, .ref q4, .ref q5, .ref q6, .ref q7, .ref q8, .ref q9, .ref q10, .ref q11, .ref q12, .null, .null, .null, .int 0, .null, .null, .null, .null, .null, .null, .null, .int 0, .null, .null, .null]) := by rw [ec25]; exact va_up_self _ _ _
  have g25 : ∀ j, j < t → j ≠ k → c25 j = c j := fun j h1 h2 => by rw [ec25]; exact (va_up_ne _ _ (by omega)).trans (g24 j h1 h2)
  clear f24_k f24_t f24_t_1 f24_t_1_1 f24_t_1_1_1 f24_t_1_1_1_1 f24_t_1_1_1_1_1 f24_t_1_1_1_1_1_1 f24_t_1_1_1_1_1_1_1 f24_t_1_1_1_1_1_1_1_1 f24_t_1_1_1_1_1_1_1_1_1 f24_t_1_1_1_1_1_1_1_1_1_1 f24_t_1_1_1_1_1_1_1_1_1_1_1 g24 ec25
  refine lv_aload_n hx hb d_M_init_108 rfl (lv_at hl 0 rfl) ?_
  refine lv_bipush (v := (32 : Int32)) hx hb d_M_init_109 (by decide) ?_
  refine va_newa (atype := .int) hx hb (hts _ t_58) (ty := .int) rfl hK hP hD hS hA (N' := 32) (a0 := (32, .inl (fun _ => (0 : Int32)))) (fun _ => rfl) (by decide) (by decide) (by decide) (Nat.le_of_ble_eq_true rfl) (Nat.le_of_ble_eq_true rfl) d_M_init_111 (fun q13 cA H hK2 hP hD hS => ?_)
  obtain rfl := y_caI hK2
  rw [y_push] at hP hD
  obtain ⟨ad13, ead13⟩ : ∃ a1, a1 = va_up ad12 (t + 1 + 1 + 1 + 1 + 1 + 1 + 1 + 1 + 1 + 1 + 1 + 1) q13 := ⟨_, rfl⟩
  rw [← ead13] at hP hD
  have a13_k : ad13 k = (ad k) := by rw [ead13]; exact (va_up_ne _ _ (by omega)).trans a12_k
  have a13_t : ad13 t = q1 := by rw [ead13]; exact (va_up_ne _ _ (by omega)).trans a12_t
  have a13_t_1 : ad13 (t + 1) = q2 := by rw [ead13]; exact (va_up_ne _ _ (by omega)).trans a12_t_1
  have a13_t_1_1 : ad13 (t + 1 + 1) = q3 := by rw [ead13]; exact (va_up_ne _ _ (by omega)).trans a12_t_1_1
  have a13_t_1_1_1 : ad13 (t + 1 + 1 + 1) = q4 := by rw [ead13]; exact (va_up_ne _ _ (by omega)).trans a12_t_1_1_1
  have a13_t_1_1_1_1 : ad13 (t + 1 + 1 + 1 + 1) = q5 := by rw [ead13]; exact (va_up_ne _ _ (by omega)).trans a12_t_1_1_1_1
  have a13_t_1_1_1_1_1 : ad13 (t + 1 + 1 + 1 + 1 + 1) = q6 := by rw [ead13]; exact (va_up_ne _ _ (by omega)).trans a12_t_1_1_1_1_1
  have a13_t_1_1_1_1_1_1 : ad13 (t + 1 + 1 + 1 + 1 + 1 + 1) = q7 := by rw [ead13]; exact (va_up_ne _ _ (by omega)).trans a12_t_1_1_1_1_1_1
  have a13_t_1_1_1_1_1_1_1 : ad13 (t + 1 + 1 + 1 + 1 + 1 + 1 + 1) = q8 := by rw [ead13]; exact (va_up_ne _ _ (by omega)).trans a12_t_1_1_1_1_1_1_1
  have a13_t_1_1_1_1_1_1_1_1 : ad13 (t + 1 + 1 + 1 + 1 + 1 + 1 + 1 + 1) = q9 := by rw [ead13]; exact (va_up_ne _ _ (by omega)).trans a12_t_1_1_1_1_1_1_1_1
  have a13_t_1_1_1_1_1_1_1_1_1 : ad13 (t + 1 + 1 + 1 + 1 + 1 + 1 + 1 + 1 + 1) = q10 := by rw [ead13]; exact (va_up_ne _ _ (by omega)).trans a12_t_1_1_1_1_1_1_1_1_1
  have a13_t_1_1_1_1_1_1_1_1_1_1 : ad13 (t + 1 + 1 + 1 + 1 + 1 + 1 + 1 + 1 + 1 + 1) = q11 := by rw [ead13]; exact (va_up_ne _ _ (by omega)).trans a12_t_1_1_1_1_1_1_1_1_1_1
  have a13_t_1_1_1_1_1_1_1_1_1_1_1 : ad13 (t + 1 + 1 + 1 + 1 + 1 + 1 + 1 + 1 + 1 + 1 + 1) = q12 := by rw [ead13]; exact (va_up_ne _ _ (by omega)).trans a12_t_1_1_1_1_1_1_1_1_1_1_1
  have a13_t_1_1_1_1_1_1_1_1_1_1_1_1 : ad13 (t + 1 + 1 + 1 + 1 + 1 + 1 + 1 + 1 + 1 + 1 + 1 + 1) = q13 := by rw [ead13]; exact va_up_self _ _ _
  have b13 : ∀ j, j < t → ad13 j = ad j := fun j h1 => by rw [ead13]; exact (va_up_ne _ _ (by omega)).trans (b12 j h1)
  clear a12_k a12_t a12_t_1 a12_t_1_1 a12_t_1_1_1 a12_t_1_1_1_1 a12_t_1_1_1_1_1 a12_t_1_1_1_1_1_1 a12_t_1_1_1_1_1_1_1 a12_t_1_1_1_1_1_1_1_1 a12_t_1_1_1_1_1_1_1_1_1 a12_t_1_1_1_1_1_1_1_1_1_1 a12_t_1_1_1_1_1_1_1_1_1_1_1 b12 ead13
  obtain ⟨c26, ec26⟩ : ∃ c26, c26 = va_up c25 (t + 1 + 1 + 1 + 1 + 1 + 1 + 1 + 1 + 1 + 1 + 1 + 1) (.inl (x_ca G 0, 32, .inl (fun _ => (0 : Int32)))) := ⟨_, rfl⟩
  rw [← ec26] at hP hD
  have f26_k : c26 k = .inr (5, [.int 0, .int 0, .ref q1, .int 0, .int (-1 : Int32), .ref q2, .ref q3, .ref q4, .ref q5, .ref q6, .ref q7, .ref q8, .ref q9, .ref q10, .ref q11, .ref q12, .null, .null, .null, .int 0, .null, .null, .null, .null, .null, .null, .null, .int 0, .null, .null, .null]) := by rw [ec26]; exact (va_up_ne _ _ (by omega)).trans f25_k
  have f26_t : c26 t = .inl (x_ca G 0, 2560, .inl (fun _ => (0 : Int32))) := by rw [ec26]; exact (va_up_ne _ _ (by omega)).trans f25_t
  have f26_t_1 : c26 (t + 1) = .inl (x_ca G 1, 8, .inl (fun _ => (0 : Int32))) := by rw [ec26]; exact (va_up_ne _ _ (by omega)).trans f25_t_1
  have f26_t_1_1 : c26 (t + 1 + 1) = .inl (x_ca G 0, 8, .inl (fun _ => (0 : Int32))) := by rw [ec26]; exact (va_up_ne _ _ (by omega)).trans f25_t_1_1
  have f26_t_1_1_1 : c26 (t + 1 + 1 + 1) = .inl (x_ca G 0, 8, .inl (fun _ => (0 : Int32))) := by rw [ec26]; exact (va_up_ne _ _ (by omega)).trans f25_t_1_1_1
  have f26_t_1_1_1_1 : c26 (t + 1 + 1 + 1 + 1) = .inl (x_ca G 0, 8, .inl (fun _ => (0 : Int32))) := by rw [ec26]; exact (va_up_ne _ _ (by omega)).trans f25_t_1_1_1_1
  have f26_t_1_1_1_1_1 : c26 (t + 1 + 1 + 1 + 1 + 1) = .inl (x_ca G 0, 512, .inl (fun _ => (0 : Int32))) := by rw [ec26]; exact (va_up_ne _ _ (by omega)).trans f25_t_1_1_1_1_1
  have f26_t_1_1_1_1_1_1 : c26 (t + 1 + 1 + 1 + 1 + 1 + 1) = .inl (x_ca G 1, 16, .inl (fun _ => (0 : Int32))) := by rw [ec26]; exact (va_up_ne _ _ (by omega)).trans f25_t_1_1_1_1_1_1
  have f26_t_1_1_1_1_1_1_1 : c26 (t + 1 + 1 + 1 + 1 + 1 + 1 + 1) = .inl (x_ca G 0, 16, .inl (fun _ => (0 : Int32))) := by rw [ec26]; exact (va_up_ne _ _ (by omega)).trans f25_t_1_1_1_1_1_1_1
  have f26_t_1_1_1_1_1_1_1_1 : c26 (t + 1 + 1 + 1 + 1 + 1 + 1 + 1 + 1) = .inl (x_ca G 0, 16, .inl (fun _ => (0 : Int32))) := by rw [ec26]; exact (va_up_ne _ _ (by omega)).trans f25_t_1_1_1_1_1_1_1_1
  have f26_t_1_1_1_1_1_1_1_1_1 : c26 (t + 1 + 1 + 1 + 1 + 1 + 1 + 1 + 1 + 1) = .inl (x_ca G 0, 1024, .inl (fun _ => (0 : Int32))) := by rw [ec26]; exact (va_up_ne _ _ (by omega)).trans f25_t_1_1_1_1_1_1_1_1_1
  have f26_t_1_1_1_1_1_1_1_1_1_1 : c26 (t + 1 + 1 + 1 + 1 + 1 + 1 + 1 + 1 + 1 + 1) = .inl (x_ca G 0, 16, .inl (fun _ => (0 : Int32))) := by rw [ec26]; exact (va_up_ne _ _ (by omega)).trans f25_t_1_1_1_1_1_1_1_1_1_1
  have f26_t_1_1_1_1_1_1_1_1_1_1_1 : c26 (t + 1 + 1 + 1 + 1 + 1 + 1 + 1 + 1 + 1 + 1 + 1) = .inl (x_ca G 0, 16, .inl (fun _ => (0 : Int32))) := by rw [ec26]; exact (va_up_ne _ _ (by omega)).trans f25_t_1_1_1_1_1_1_1_1_1_1_1
  have f26_t_1_1_1_1_1_1_1_1_1_1_1_1 : c26 (t + 1 + 1 + 1 + 1 + 1 + 1 + 1 + 1 + 1 + 1 + 1 + 1) = .inl (x_ca G 0, 32, .inl (fun _ => (0 : Int32))) := by rw [ec26]; exact va_up_self _ _ _
  have g26 : ∀ j, j < t → j ≠ k → c26 j = c j := fun j h1 h2 => by rw [ec26]; exact (va_up_ne _ _ (by omega)).trans (g25 j h1 h2)
  clear f25_k f25_t f25_t_1 f25_t_1_1 f25_t_1_1_1 f25_t_1_1_1_1 f25_t_1_1_1_1_1 f25_t_1_1_1_1_1_1 f25_t_1_1_1_1_1_1_1 f25_t_1_1_1_1_1_1_1_1 f25_t_1_1_1_1_1_1_1_1_1 f25_t_1_1_1_1_1_1_1_1_1_1 f25_t_1_1_1_1_1_1_1_1_1_1_1 g25 ec26
  refine va_putF (D := x_D G) (ci := 5) (v := .ref q13) (ty := .array .int) (C := "ContentLibraryModel") (T := x_TM) (N := 31) hx hb hts x_inM x_tyM x_tyM_ok x_nmM hown hK hP hD hS k (y_at (by omega) a13_k f26_k) rfl 16 (by decide) (hts _ t_688) (fun _ h9 => h9) rfl hin rfl (by decide +kernel) rfl rfl (Nat.le_of_ble_eq_true rfl) d_M_init_113 (fun H locs hP hD hS => ?_)
  rw [y_set (by omega) a13_k] at hP hD
  obtain ⟨c27, ec27⟩ : ∃ c27, c27 = va_up c26 k (.inr (5, ([.int 0, .int 0, .ref q1, .int 0, .int (-1 : Int32), .ref q2, .ref q3, .ref q4, .ref q5, .ref q6, .ref q7, .ref q8, .ref q9, .ref q10, .ref q11, .ref q12, .null, .null, .null, .int 0, .null, .null, .null, .null, .null, .null, .null, .int 0, .null, .null, .null] : List Value).set 16 (.ref q13))) := ⟨_, rfl⟩
  rw [← ec27] at hP hD
  have f27_t : c27 t = .inl (x_ca G 0, 2560, .inl (fun _ => (0 : Int32))) := by rw [ec27]; exact (va_up_ne _ _ (by omega)).trans f26_t
  have f27_t_1 : c27 (t + 1) = .inl (x_ca G 1, 8, .inl (fun _ => (0 : Int32))) := by rw [ec27]; exact (va_up_ne _ _ (by omega)).trans f26_t_1
  have f27_t_1_1 : c27 (t + 1 + 1) = .inl (x_ca G 0, 8, .inl (fun _ => (0 : Int32))) := by rw [ec27]; exact (va_up_ne _ _ (by omega)).trans f26_t_1_1
  have f27_t_1_1_1 : c27 (t + 1 + 1 + 1) = .inl (x_ca G 0, 8, .inl (fun _ => (0 : Int32))) := by rw [ec27]; exact (va_up_ne _ _ (by omega)).trans f26_t_1_1_1
  have f27_t_1_1_1_1 : c27 (t + 1 + 1 + 1 + 1) = .inl (x_ca G 0, 8, .inl (fun _ => (0 : Int32))) := by rw [ec27]; exact (va_up_ne _ _ (by omega)).trans f26_t_1_1_1_1
  have f27_t_1_1_1_1_1 : c27 (t + 1 + 1 + 1 + 1 + 1) = .inl (x_ca G 0, 512, .inl (fun _ => (0 : Int32))) := by rw [ec27]; exact (va_up_ne _ _ (by omega)).trans f26_t_1_1_1_1_1
  have f27_t_1_1_1_1_1_1 : c27 (t + 1 + 1 + 1 + 1 + 1 + 1) = .inl (x_ca G 1, 16, .inl (fun _ => (0 : Int32))) := by rw [ec27]; exact (va_up_ne _ _ (by omega)).trans f26_t_1_1_1_1_1_1
  have f27_t_1_1_1_1_1_1_1 : c27 (t + 1 + 1 + 1 + 1 + 1 + 1 + 1) = .inl (x_ca G 0, 16, .inl (fun _ => (0 : Int32))) := by rw [ec27]; exact (va_up_ne _ _ (by omega)).trans f26_t_1_1_1_1_1_1_1
  have f27_t_1_1_1_1_1_1_1_1 : c27 (t + 1 + 1 + 1 + 1 + 1 + 1 + 1 + 1) = .inl (x_ca G 0, 16, .inl (fun _ => (0 : Int32))) := by rw [ec27]; exact (va_up_ne _ _ (by omega)).trans f26_t_1_1_1_1_1_1_1_1
  have f27_t_1_1_1_1_1_1_1_1_1 : c27 (t + 1 + 1 + 1 + 1 + 1 + 1 + 1 + 1 + 1) = .inl (x_ca G 0, 1024, .inl (fun _ => (0 : Int32))) := by rw [ec27]; exact (va_up_ne _ _ (by omega)).trans f26_t_1_1_1_1_1_1_1_1_1
  have f27_t_1_1_1_1_1_1_1_1_1_1 : c27 (t + 1 + 1 + 1 + 1 + 1 + 1 + 1 + 1 + 1 + 1) = .inl (x_ca G 0, 16, .inl (fun _ => (0 : Int32))) := by rw [ec27]; exact (va_up_ne _ _ (by omega)).trans f26_t_1_1_1_1_1_1_1_1_1_1
  have f27_t_1_1_1_1_1_1_1_1_1_1_1 : c27 (t + 1 + 1 + 1 + 1 + 1 + 1 + 1 + 1 + 1 + 1 + 1) = .inl (x_ca G 0, 16, .inl (fun _ => (0 : Int32))) := by rw [ec27]; exact (va_up_ne _ _ (by omega)).trans f26_t_1_1_1_1_1_1_1_1_1_1_1
  have f27_t_1_1_1_1_1_1_1_1_1_1_1_1 : c27 (t + 1 + 1 + 1 + 1 + 1 + 1 + 1 + 1 + 1 + 1 + 1 + 1) = .inl (x_ca G 0, 32, .inl (fun _ => (0 : Int32))) := by rw [ec27]; exact (va_up_ne _ _ (by omega)).trans f26_t_1_1_1_1_1_1_1_1_1_1_1_1
  have f27_k : c27 k = .inr (5, [.int 0, .int 0, .ref q1, .int 0, .int (-1 : Int32), .ref q2, .ref q3, .ref q4, .ref q5, .ref q6, .ref q7, .ref q8, .ref q9, .ref q10, .ref q11, .ref q12, .ref q13, .null, .null, .int 0, .null, .null, .null, .null, .null, .null, .null, .int 0, .null, .null, .null]) := by rw [ec27]; exact va_up_self _ _ _
  have g27 : ∀ j, j < t → j ≠ k → c27 j = c j := fun j h1 h2 => by rw [ec27]; exact (va_up_ne _ _ (by omega)).trans (g26 j h1 h2)
  clear f26_k f26_t f26_t_1 f26_t_1_1 f26_t_1_1_1 f26_t_1_1_1_1 f26_t_1_1_1_1_1 f26_t_1_1_1_1_1_1 f26_t_1_1_1_1_1_1_1 f26_t_1_1_1_1_1_1_1_1 f26_t_1_1_1_1_1_1_1_1_1 f26_t_1_1_1_1_1_1_1_1_1_1 f26_t_1_1_1_1_1_1_1_1_1_1_1 f26_t_1_1_1_1_1_1_1_1_1_1_1_1 g26 ec27
  refine lv_aload_n hx hb d_M_init_116 rfl (lv_at hl 0 rfl) ?_
  refine lv_bipush (v := (16 : Int32)) hx hb d_M_init_117 (by decide) ?_
  refine va_newa (atype := .long) hx hb (hts _ t_766) (ty := .long) rfl hK hP hD hS hA (N' := 16) (a0 := (16, .inr (.inl (fun _ => (0 : Int64))))) (fun _ => rfl) (by decide) (by decide) (by decide) (Nat.le_of_ble_eq_true rfl) (Nat.le_of_ble_eq_true rfl) d_M_init_119 (fun q14 cA H hK2 hP hD hS => ?_)
  obtain rfl := y_caJ hK2
  rw [y_push] at hP hD
  obtain ⟨ad14, ead14⟩ : ∃ a1, a1 = va_up ad13 (t + 1 + 1 + 1 + 1 + 1 + 1 + 1 + 1 + 1 + 1 + 1 + 1 + 1) q14 := ⟨_, rfl⟩
  rw [← ead14] at hP hD
  have a14_k : ad14 k = (ad k) := by rw [ead14]; exact (va_up_ne _ _ (by omega)).trans a13_k
  have a14_t : ad14 t = q1 := by rw [ead14]; exact (va_up_ne _ _ (by omega)).trans a13_t
  have a14_t_1 : ad14 (t + 1) = q2 := by rw [ead14]; exact (va_up_ne _ _ (by omega)).trans a13_t_1
  have a14_t_1_1 : ad14 (t + 1 + 1) = q3 := by rw [ead14]; exact (va_up_ne _ _ (by omega)).trans a13_t_1_1
  have a14_t_1_1_1 : ad14 (t + 1 + 1 + 1) = q4 := by rw [ead14]; exact (va_up_ne _ _ (by omega)).trans a13_t_1_1_1
  have a14_t_1_1_1_1 : ad14 (t + 1 + 1 + 1 + 1) = q5 := by rw [ead14]; exact (va_up_ne _ _ (by omega)).trans a13_t_1_1_1_1
  have a14_t_1_1_1_1_1 : ad14 (t + 1 + 1 + 1 + 1 + 1) = q6 := by rw [ead14]; exact (va_up_ne _ _ (by omega)).trans a13_t_1_1_1_1_1
  have a14_t_1_1_1_1_1_1 : ad14 (t + 1 + 1 + 1 + 1 + 1 + 1) = q7 := by rw [ead14]; exact (va_up_ne _ _ (by omega)).trans a13_t_1_1_1_1_1_1
  have a14_t_1_1_1_1_1_1_1 : ad14 (t + 1 + 1 + 1 + 1 + 1 + 1 + 1) = q8 := by rw [ead14]; exact (va_up_ne _ _ (by omega)).trans a13_t_1_1_1_1_1_1_1
  have a14_t_1_1_1_1_1_1_1_1 : ad14 (t + 1 + 1 + 1 + 1 + 1 + 1 + 1 + 1) = q9 := by rw [ead14]; exact (va_up_ne _ _ (by omega)).trans a13_t_1_1_1_1_1_1_1_1
  have a14_t_1_1_1_1_1_1_1_1_1 : ad14 (t + 1 + 1 + 1 + 1 + 1 + 1 + 1 + 1 + 1) = q10 := by rw [ead14]; exact (va_up_ne _ _ (by omega)).trans a13_t_1_1_1_1_1_1_1_1_1
  have a14_t_1_1_1_1_1_1_1_1_1_1 : ad14 (t + 1 + 1 + 1 + 1 + 1 + 1 + 1 + 1 + 1 + 1) = q11 := by rw [ead14]; exact (va_up_ne _ _ (by omega)).trans a13_t_1_1_1_1_1_1_1_1_1_1
  have a14_t_1_1_1_1_1_1_1_1_1_1_1 : ad14 (t + 1 + 1 + 1 + 1 + 1 + 1 + 1 + 1 + 1 + 1 + 1) = q12 := by rw [ead14]; exact (va_up_ne _ _ (by omega)).trans a13_t_1_1_1_1_1_1_1_1_1_1_1
  have a14_t_1_1_1_1_1_1_1_1_1_1_1_1 : ad14 (t + 1 + 1 + 1 + 1 + 1 + 1 + 1 + 1 + 1 + 1 + 1 + 1) = q13 := by rw [ead14]; exact (va_up_ne _ _ (by omega)).trans a13_t_1_1_1_1_1_1_1_1_1_1_1_1
  have a14_t_1_1_1_1_1_1_1_1_1_1_1_1_1 : ad14 (t + 1 + 1 + 1 + 1 + 1 + 1 + 1 + 1 + 1 + 1 + 1 + 1 + 1) = q14 := by rw [ead14]; exact va_up_self _ _ _
  have b14 : ∀ j, j < t → ad14 j = ad j := fun j h1 => by rw [ead14]; exact (va_up_ne _ _ (by omega)).trans (b13 j h1)
  clear a13_k a13_t a13_t_1 a13_t_1_1 a13_t_1_1_1 a13_t_1_1_1_1 a13_t_1_1_1_1_1 a13_t_1_1_1_1_1_1 a13_t_1_1_1_1_1_1_1 a13_t_1_1_1_1_1_1_1_1 a13_t_1_1_1_1_1_1_1_1_1 a13_t_1_1_1_1_1_1_1_1_1_1 a13_t_1_1_1_1_1_1_1_1_1_1_1 a13_t_1_1_1_1_1_1_1_1_1_1_1_1 b13 ead14
  obtain ⟨c28, ec28⟩ : ∃ c28, c28 = va_up c27 (t + 1 + 1 + 1 + 1 + 1 + 1 + 1 + 1 + 1 + 1 + 1 + 1 + 1) (.inl (x_ca G 4, 16, .inr (.inl (fun _ => (0 : Int64))))) := ⟨_, rfl⟩
  rw [← ec28] at hP hD
  have f28_k : c28 k = .inr (5, [.int 0, .int 0, .ref q1, .int 0, .int (-1 : Int32), .ref q2, .ref q3, .ref q4, .ref q5, .ref q6, .ref q7, .ref q8, .ref q9, .ref q10, .ref q11, .ref q12, .ref q13, .null, .null, .int 0, .null, .null, .null, .null, .null, .null, .null, .int 0, .null, .null, .null]) := by rw [ec28]; exact (va_up_ne _ _ (by omega)).trans f27_k
  have f28_t : c28 t = .inl (x_ca G 0, 2560, .inl (fun _ => (0 : Int32))) := by rw [ec28]; exact (va_up_ne _ _ (by omega)).trans f27_t
  have f28_t_1 : c28 (t + 1) = .inl (x_ca G 1, 8, .inl (fun _ => (0 : Int32))) := by rw [ec28]; exact (va_up_ne _ _ (by omega)).trans f27_t_1
  have f28_t_1_1 : c28 (t + 1 + 1) = .inl (x_ca G 0, 8, .inl (fun _ => (0 : Int32))) := by rw [ec28]; exact (va_up_ne _ _ (by omega)).trans f27_t_1_1
  have f28_t_1_1_1 : c28 (t + 1 + 1 + 1) = .inl (x_ca G 0, 8, .inl (fun _ => (0 : Int32))) := by rw [ec28]; exact (va_up_ne _ _ (by omega)).trans f27_t_1_1_1
  have f28_t_1_1_1_1 : c28 (t + 1 + 1 + 1 + 1) = .inl (x_ca G 0, 8, .inl (fun _ => (0 : Int32))) := by rw [ec28]; exact (va_up_ne _ _ (by omega)).trans f27_t_1_1_1_1
  have f28_t_1_1_1_1_1 : c28 (t + 1 + 1 + 1 + 1 + 1) = .inl (x_ca G 0, 512, .inl (fun _ => (0 : Int32))) := by rw [ec28]; exact (va_up_ne _ _ (by omega)).trans f27_t_1_1_1_1_1
  have f28_t_1_1_1_1_1_1 : c28 (t + 1 + 1 + 1 + 1 + 1 + 1) = .inl (x_ca G 1, 16, .inl (fun _ => (0 : Int32))) := by rw [ec28]; exact (va_up_ne _ _ (by omega)).trans f27_t_1_1_1_1_1_1
  have f28_t_1_1_1_1_1_1_1 : c28 (t + 1 + 1 + 1 + 1 + 1 + 1 + 1) = .inl (x_ca G 0, 16, .inl (fun _ => (0 : Int32))) := by rw [ec28]; exact (va_up_ne _ _ (by omega)).trans f27_t_1_1_1_1_1_1_1
  have f28_t_1_1_1_1_1_1_1_1 : c28 (t + 1 + 1 + 1 + 1 + 1 + 1 + 1 + 1) = .inl (x_ca G 0, 16, .inl (fun _ => (0 : Int32))) := by rw [ec28]; exact (va_up_ne _ _ (by omega)).trans f27_t_1_1_1_1_1_1_1_1
  have f28_t_1_1_1_1_1_1_1_1_1 : c28 (t + 1 + 1 + 1 + 1 + 1 + 1 + 1 + 1 + 1) = .inl (x_ca G 0, 1024, .inl (fun _ => (0 : Int32))) := by rw [ec28]; exact (va_up_ne _ _ (by omega)).trans f27_t_1_1_1_1_1_1_1_1_1
  have f28_t_1_1_1_1_1_1_1_1_1_1 : c28 (t + 1 + 1 + 1 + 1 + 1 + 1 + 1 + 1 + 1 + 1) = .inl (x_ca G 0, 16, .inl (fun _ => (0 : Int32))) := by rw [ec28]; exact (va_up_ne _ _ (by omega)).trans f27_t_1_1_1_1_1_1_1_1_1_1
  have f28_t_1_1_1_1_1_1_1_1_1_1_1 : c28 (t + 1 + 1 + 1 + 1 + 1 + 1 + 1 + 1 + 1 + 1 + 1) = .inl (x_ca G 0, 16, .inl (fun _ => (0 : Int32))) := by rw [ec28]; exact (va_up_ne _ _ (by omega)).trans f27_t_1_1_1_1_1_1_1_1_1_1_1
  have f28_t_1_1_1_1_1_1_1_1_1_1_1_1 : c28 (t + 1 + 1 + 1 + 1 + 1 + 1 + 1 + 1 + 1 + 1 + 1 + 1) = .inl (x_ca G 0, 32, .inl (fun _ => (0 : Int32))) := by rw [ec28]; exact (va_up_ne _ _ (by omega)).trans f27_t_1_1_1_1_1_1_1_1_1_1_1_1
  have f28_t_1_1_1_1_1_1_1_1_1_1_1_1_1 : c28 (t + 1 + 1 + 1 + 1 + 1 + 1 + 1 + 1 + 1 + 1 + 1 + 1 + 1) = .inl (x_ca G 4, 16, .inr (.inl (fun _ => (0 : Int64)))) := by rw [ec28]; exact va_up_self _ _ _
  have g28 : ∀ j, j < t → j ≠ k → c28 j = c j := fun j h1 h2 => by rw [ec28]; exact (va_up_ne _ _ (by omega)).trans (g27 j h1 h2)
  clear f27_k f27_t f27_t_1 f27_t_1_1 f27_t_1_1_1 f27_t_1_1_1_1 f27_t_1_1_1_1_1 f27_t_1_1_1_1_1_1 f27_t_1_1_1_1_1_1_1 f27_t_1_1_1_1_1_1_1_1 f27_t_1_1_1_1_1_1_1_1_1 f27_t_1_1_1_1_1_1_1_1_1_1 f27_t_1_1_1_1_1_1_1_1_1_1_1 f27_t_1_1_1_1_1_1_1_1_1_1_1_1 g27 ec28
  refine va_putF (D := x_D G) (ci := 5) (v := .ref q14) (ty := .array .long) (C := "ContentLibraryModel") (T := x_TM) (N := 31) hx hb hts x_inM x_tyM x_tyM_ok x_nmM hown hK hP hD hS k (y_at (by omega) a14_k f28_k) rfl 17 (by decide) (hts _ t_689) (fun _ h9 => h9) rfl hin rfl (by decide +kernel) rfl rfl (Nat.le_of_ble_eq_true rfl) d_M_init_121 (fun H locs hP hD hS => ?_)
  rw [y_set (by omega) a14_k] at hP hD
  obtain ⟨c29, ec29⟩ : ∃ c29, c29 = va_up c28 k (.inr (5, ([.int 0, .int 0, .ref q1, .int 0, .int (-1 : Int32), .ref q2, .ref q3, .ref q4, .ref q5, .ref q6, .ref q7, .ref q8, .ref q9, .ref q10, .ref q11, .ref q12, .ref q13, .null, .null, .int 0, .null, .null, .null, .null, .null, .null, .null, .int 0, .null, .null, .null] : List Value).set 17 (.ref q14))) := ⟨_, rfl⟩
  rw [← ec29] at hP hD
  have f29_t : c29 t = .inl (x_ca G 0, 2560, .inl (fun _ => (0 : Int32))) := by rw [ec29]; exact (va_up_ne _ _ (by omega)).trans f28_t
  have f29_t_1 : c29 (t + 1) = .inl (x_ca G 1, 8, .inl (fun _ => (0 : Int32))) := by rw [ec29]; exact (va_up_ne _ _ (by omega)).trans f28_t_1
  have f29_t_1_1 : c29 (t + 1 + 1) = .inl (x_ca G 0, 8, .inl (fun _ => (0 : Int32))) := by rw [ec29]; exact (va_up_ne _ _ (by omega)).trans f28_t_1_1
  have f29_t_1_1_1 : c29 (t + 1 + 1 + 1) = .inl (x_ca G 0, 8, .inl (fun _ => (0 : Int32))) := by rw [ec29]; exact (va_up_ne _ _ (by omega)).trans f28_t_1_1_1
  have f29_t_1_1_1_1 : c29 (t + 1 + 1 + 1 + 1) = .inl (x_ca G 0, 8, .inl (fun _ => (0 : Int32))) := by rw [ec29]; exact (va_up_ne _ _ (by omega)).trans f28_t_1_1_1_1
  have f29_t_1_1_1_1_1 : c29 (t + 1 + 1 + 1 + 1 + 1) = .inl (x_ca G 0, 512, .inl (fun _ => (0 : Int32))) := by rw [ec29]; exact (va_up_ne _ _ (by omega)).trans f28_t_1_1_1_1_1
  have f29_t_1_1_1_1_1_1 : c29 (t + 1 + 1 + 1 + 1 + 1 + 1) = .inl (x_ca G 1, 16, .inl (fun _ => (0 : Int32))) := by rw [ec29]; exact (va_up_ne _ _ (by omega)).trans f28_t_1_1_1_1_1_1
  have f29_t_1_1_1_1_1_1_1 : c29 (t + 1 + 1 + 1 + 1 + 1 + 1 + 1) = .inl (x_ca G 0, 16, .inl (fun _ => (0 : Int32))) := by rw [ec29]; exact (va_up_ne _ _ (by omega)).trans f28_t_1_1_1_1_1_1_1
  have f29_t_1_1_1_1_1_1_1_1 : c29 (t + 1 + 1 + 1 + 1 + 1 + 1 + 1 + 1) = .inl (x_ca G 0, 16, .inl (fun _ => (0 : Int32))) := by rw [ec29]; exact (va_up_ne _ _ (by omega)).trans f28_t_1_1_1_1_1_1_1_1
  have f29_t_1_1_1_1_1_1_1_1_1 : c29 (t + 1 + 1 + 1 + 1 + 1 + 1 + 1 + 1 + 1) = .inl (x_ca G 0, 1024, .inl (fun _ => (0 : Int32))) := by rw [ec29]; exact (va_up_ne _ _ (by omega)).trans f28_t_1_1_1_1_1_1_1_1_1
  have f29_t_1_1_1_1_1_1_1_1_1_1 : c29 (t + 1 + 1 + 1 + 1 + 1 + 1 + 1 + 1 + 1 + 1) = .inl (x_ca G 0, 16, .inl (fun _ => (0 : Int32))) := by rw [ec29]; exact (va_up_ne _ _ (by omega)).trans f28_t_1_1_1_1_1_1_1_1_1_1
  have f29_t_1_1_1_1_1_1_1_1_1_1_1 : c29 (t + 1 + 1 + 1 + 1 + 1 + 1 + 1 + 1 + 1 + 1 + 1) = .inl (x_ca G 0, 16, .inl (fun _ => (0 : Int32))) := by rw [ec29]; exact (va_up_ne _ _ (by omega)).trans f28_t_1_1_1_1_1_1_1_1_1_1_1
  have f29_t_1_1_1_1_1_1_1_1_1_1_1_1 : c29 (t + 1 + 1 + 1 + 1 + 1 + 1 + 1 + 1 + 1 + 1 + 1 + 1) = .inl (x_ca G 0, 32, .inl (fun _ => (0 : Int32))) := by rw [ec29]; exact (va_up_ne _ _ (by omega)).trans f28_t_1_1_1_1_1_1_1_1_1_1_1_1
  have f29_t_1_1_1_1_1_1_1_1_1_1_1_1_1 : c29 (t + 1 + 1 + 1 + 1 + 1 + 1 + 1 + 1 + 1 + 1 + 1 + 1 + 1) = .inl (x_ca G 4, 16, .inr (.inl (fun _ => (0 : Int64)))) := by rw [ec29]; exact (va_up_ne _ _ (by omega)).trans f28_t_1_1_1_1_1_1_1_1_1_1_1_1_1
  have f29_k : c29 k = .inr (5, [.int 0, .int 0, .ref q1, .int 0, .int (-1 : Int32), .ref q2, .ref q3, .ref q4, .ref q5, .ref q6, .ref q7, .ref q8, .ref q9, .ref q10, .ref q11, .ref q12, .ref q13, .ref q14, .null, .int 0, .null, .null, .null, .null, .null, .null, .null, .int 0, .null, .null, .null]) := by rw [ec29]; exact va_up_self _ _ _
  have g29 : ∀ j, j < t → j ≠ k → c29 j = c j := fun j h1 h2 => by rw [ec29]; exact (va_up_ne _ _ (by omega)).trans (g28 j h1 h2)
  clear f28_k f28_t f28_t_1 f28_t_1_1 f28_t_1_1_1 f28_t_1_1_1_1 f28_t_1_1_1_1_1 f28_t_1_1_1_1_1_1 f28_t_1_1_1_1_1_1_1 f28_t_1_1_1_1_1_1_1_1 f28_t_1_1_1_1_1_1_1_1_1 f28_t_1_1_1_1_1_1_1_1_1_1 f28_t_1_1_1_1_1_1_1_1_1_1_1 f28_t_1_1_1_1_1_1_1_1_1_1_1_1 f28_t_1_1_1_1_1_1_1_1_1_1_1_1_1 g28 ec29
  refine lv_aload_n hx hb d_M_init_124 rfl (lv_at hl 0 rfl) ?_
  refine lv_bipush (v := (40 : Int32)) hx hb d_M_init_125 (by decide) ?_
  refine va_newa (atype := .int) hx hb (hts _ t_58) (ty := .int) rfl hK hP hD hS hA (N' := 40) (a0 := (40, .inl (fun _ => (0 : Int32)))) (fun _ => rfl) (by decide) (by decide) (by decide) (Nat.le_of_ble_eq_true rfl) (Nat.le_of_ble_eq_true rfl) d_M_init_127 (fun q15 cA H hK2 hP hD hS => ?_)
  obtain rfl := y_caI hK2
  rw [y_push] at hP hD
  obtain ⟨ad15, ead15⟩ : ∃ a1, a1 = va_up ad14 (t + 1 + 1 + 1 + 1 + 1 + 1 + 1 + 1 + 1 + 1 + 1 + 1 + 1 + 1) q15 := ⟨_, rfl⟩
  rw [← ead15] at hP hD
  have a15_k : ad15 k = (ad k) := by rw [ead15]; exact (va_up_ne _ _ (by omega)).trans a14_k
  have a15_t : ad15 t = q1 := by rw [ead15]; exact (va_up_ne _ _ (by omega)).trans a14_t
  have a15_t_1 : ad15 (t + 1) = q2 := by rw [ead15]; exact (va_up_ne _ _ (by omega)).trans a14_t_1
  have a15_t_1_1 : ad15 (t + 1 + 1) = q3 := by rw [ead15]; exact (va_up_ne _ _ (by omega)).trans a14_t_1_1
  have a15_t_1_1_1 : ad15 (t + 1 + 1 + 1) = q4 := by rw [ead15]; exact (va_up_ne _ _ (by omega)).trans a14_t_1_1_1
  have a15_t_1_1_1_1 : ad15 (t + 1 + 1 + 1 + 1) = q5 := by rw [ead15]; exact (va_up_ne _ _ (by omega)).trans a14_t_1_1_1_1
  have a15_t_1_1_1_1_1 : ad15 (t + 1 + 1 + 1 + 1 + 1) = q6 := by rw [ead15]; exact (va_up_ne _ _ (by omega)).trans a14_t_1_1_1_1_1
  have a15_t_1_1_1_1_1_1 : ad15 (t + 1 + 1 + 1 + 1 + 1 + 1) = q7 := by rw [ead15]; exact (va_up_ne _ _ (by omega)).trans a14_t_1_1_1_1_1_1
  have a15_t_1_1_1_1_1_1_1 : ad15 (t + 1 + 1 + 1 + 1 + 1 + 1 + 1) = q8 := by rw [ead15]; exact (va_up_ne _ _ (by omega)).trans a14_t_1_1_1_1_1_1_1
  have a15_t_1_1_1_1_1_1_1_1 : ad15 (t + 1 + 1 + 1 + 1 + 1 + 1 + 1 + 1) = q9 := by rw [ead15]; exact (va_up_ne _ _ (by omega)).trans a14_t_1_1_1_1_1_1_1_1
  have a15_t_1_1_1_1_1_1_1_1_1 : ad15 (t + 1 + 1 + 1 + 1 + 1 + 1 + 1 + 1 + 1) = q10 := by rw [ead15]; exact (va_up_ne _ _ (by omega)).trans a14_t_1_1_1_1_1_1_1_1_1
  have a15_t_1_1_1_1_1_1_1_1_1_1 : ad15 (t + 1 + 1 + 1 + 1 + 1 + 1 + 1 + 1 + 1 + 1) = q11 := by rw [ead15]; exact (va_up_ne _ _ (by omega)).trans a14_t_1_1_1_1_1_1_1_1_1_1
  have a15_t_1_1_1_1_1_1_1_1_1_1_1 : ad15 (t + 1 + 1 + 1 + 1 + 1 + 1 + 1 + 1 + 1 + 1 + 1) = q12 := by rw [ead15]; exact (va_up_ne _ _ (by omega)).trans a14_t_1_1_1_1_1_1_1_1_1_1_1
  have a15_t_1_1_1_1_1_1_1_1_1_1_1_1 : ad15 (t + 1 + 1 + 1 + 1 + 1 + 1 + 1 + 1 + 1 + 1 + 1 + 1) = q13 := by rw [ead15]; exact (va_up_ne _ _ (by omega)).trans a14_t_1_1_1_1_1_1_1_1_1_1_1_1
  have a15_t_1_1_1_1_1_1_1_1_1_1_1_1_1 : ad15 (t + 1 + 1 + 1 + 1 + 1 + 1 + 1 + 1 + 1 + 1 + 1 + 1 + 1) = q14 := by rw [ead15]; exact (va_up_ne _ _ (by omega)).trans a14_t_1_1_1_1_1_1_1_1_1_1_1_1_1
  have a15_t_1_1_1_1_1_1_1_1_1_1_1_1_1_1 : ad15 (t + 1 + 1 + 1 + 1 + 1 + 1 + 1 + 1 + 1 + 1 + 1 + 1 + 1 + 1) = q15 := by rw [ead15]; exact va_up_self _ _ _
  have b15 : ∀ j, j < t → ad15 j = ad j := fun j h1 => by rw [ead15]; exact (va_up_ne _ _ (by omega)).trans (b14 j h1)
  clear a14_k a14_t a14_t_1 a14_t_1_1 a14_t_1_1_1 a14_t_1_1_1_1 a14_t_1_1_1_1_1 a14_t_1_1_1_1_1_1 a14_t_1_1_1_1_1_1_1 a14_t_1_1_1_1_1_1_1_1 a14_t_1_1_1_1_1_1_1_1_1 a14_t_1_1_1_1_1_1_1_1_1_1 a14_t_1_1_1_1_1_1_1_1_1_1_1 a14_t_1_1_1_1_1_1_1_1_1_1_1_1 a14_t_1_1_1_1_1_1_1_1_1_1_1_1_1 b14 ead15
  obtain ⟨c30, ec30⟩ : ∃ c30, c30 = va_up c29 (t + 1 + 1 + 1 + 1 + 1 + 1 + 1 + 1 + 1 + 1 + 1 + 1 + 1 + 1) (.inl (x_ca G 0, 40, .inl (fun _ => (0 : Int32)))) := ⟨_, rfl⟩
  rw [← ec30] at hP hD
  have f30_k : c30 k = .inr (5, [.int 0, .int 0, .ref q1, .int 0, .int (-1 : Int32), .ref q2, .ref q3, .ref q4, .ref q5, .ref q6, .ref q7, .ref q8, .ref q9, .ref q10, .ref q11, .ref q12, .ref q13, .ref q14, .null, .int 0, .null, .null, .null, .null, .null, .null, .null, .int 0, .null, .null, .null]) := by rw [ec30]; exact (va_up_ne _ _ (by omega)).trans f29_k
  have f30_t : c30 t = .inl (x_ca G 0, 2560, .inl (fun _ => (0 : Int32))) := by rw [ec30]; exact (va_up_ne _ _ (by omega)).trans f29_t
  have f30_t_1 : c30 (t + 1) = .inl (x_ca G 1, 8, .inl (fun _ => (0 : Int32))) := by rw [ec30]; exact (va_up_ne _ _ (by omega)).trans f29_t_1
  have f30_t_1_1 : c30 (t + 1 + 1) = .inl (x_ca G 0, 8, .inl (fun _ => (0 : Int32))) := by rw [ec30]; exact (va_up_ne _ _ (by omega)).trans f29_t_1_1
  have f30_t_1_1_1 : c30 (t + 1 + 1 + 1) = .inl (x_ca G 0, 8, .inl (fun _ => (0 : Int32))) := by rw [ec30]; exact (va_up_ne _ _ (by omega)).trans f29_t_1_1_1
  have f30_t_1_1_1_1 : c30 (t + 1 + 1 + 1 + 1) = .inl (x_ca G 0, 8, .inl (fun _ => (0 : Int32))) := by rw [ec30]; exact (va_up_ne _ _ (by omega)).trans f29_t_1_1_1_1
  have f30_t_1_1_1_1_1 : c30 (t + 1 + 1 + 1 + 1 + 1) = .inl (x_ca G 0, 512, .inl (fun _ => (0 : Int32))) := by rw [ec30]; exact (va_up_ne _ _ (by omega)).trans f29_t_1_1_1_1_1
  have f30_t_1_1_1_1_1_1 : c30 (t + 1 + 1 + 1 + 1 + 1 + 1) = .inl (x_ca G 1, 16, .inl (fun _ => (0 : Int32))) := by rw [ec30]; exact (va_up_ne _ _ (by omega)).trans f29_t_1_1_1_1_1_1
  have f30_t_1_1_1_1_1_1_1 : c30 (t + 1 + 1 + 1 + 1 + 1 + 1 + 1) = .inl (x_ca G 0, 16, .inl (fun _ => (0 : Int32))) := by rw [ec30]; exact (va_up_ne _ _ (by omega)).trans f29_t_1_1_1_1_1_1_1
  have f30_t_1_1_1_1_1_1_1_1 : c30 (t + 1 + 1 + 1 + 1 + 1 + 1 + 1 + 1) = .inl (x_ca G 0, 16, .inl (fun _ => (0 : Int32))) := by rw [ec30]; exact (va_up_ne _ _ (by omega)).trans f29_t_1_1_1_1_1_1_1_1
  have f30_t_1_1_1_1_1_1_1_1_1 : c30 (t + 1 + 1 + 1 + 1 + 1 + 1 + 1 + 1 + 1) = .inl (x_ca G 0, 1024, .inl (fun _ => (0 : Int32))) := by rw [ec30]; exact (va_up_ne _ _ (by omega)).trans f29_t_1_1_1_1_1_1_1_1_1
  have f30_t_1_1_1_1_1_1_1_1_1_1 : c30 (t + 1 + 1 + 1 + 1 + 1 + 1 + 1 + 1 + 1 + 1) = .inl (x_ca G 0, 16, .inl (fun _ => (0 : Int32))) := by rw [ec30]; exact (va_up_ne _ _ (by omega)).trans f29_t_1_1_1_1_1_1_1_1_1_1
  have f30_t_1_1_1_1_1_1_1_1_1_1_1 : c30 (t + 1 + 1 + 1 + 1 + 1 + 1 + 1 + 1 + 1 + 1 + 1) = .inl (x_ca G 0, 16, .inl (fun _ => (0 : Int32))) := by rw [ec30]; exact (va_up_ne _ _ (by omega)).trans f29_t_1_1_1_1_1_1_1_1_1_1_1
  have f30_t_1_1_1_1_1_1_1_1_1_1_1_1 : c30 (t + 1 + 1 + 1 + 1 + 1 + 1 + 1 + 1 + 1 + 1 + 1 + 1) = .inl (x_ca G 0, 32, .inl (fun _ => (0 : Int32))) := by rw [ec30]; exact (va_up_ne _ _ (by omega)).trans f29_t_1_1_1_1_1_1_1_1_1_1_1_1
  have f30_t_1_1_1_1_1_1_1_1_1_1_1_1_1 : c30 (t + 1 + 1 + 1 + 1 + 1 + 1 + 1 + 1 + 1 + 1 + 1 + 1 + 1) = .inl (x_ca G 4, 16, .inr (.inl (fun _ => (0 : Int64)))) := by rw [ec30]; exact (va_up_ne _ _ (by omega)).trans f29_t_1_1_1_1_1_1_1_1_1_1_1_1_1
  have f30_t_1_1_1_1_1_1_1_1_1_1_1_1_1_1 : c30 (t + 1 + 1 + 1 + 1 + 1 + 1 + 1 + 1 + 1 + 1 + 1 + 1 + 1 + 1) = .inl (x_ca G 0, 40, .inl (fun _ => (0 : Int32))) := by rw [ec30]; exact va_up_self _ _ _
  have g30 : ∀ j, j < t → j ≠ k → c30 j = c j := fun j h1 h2 => by rw [ec30]; exact (va_up_ne _ _ (by omega)).trans (g29 j h1 h2)
  clear f29_k f29_t f29_t_1 f29_t_1_1 f29_t_1_1_1 f29_t_1_1_1_1 f29_t_1_1_1_1_1 f29_t_1_1_1_1_1_1 f29_t_1_1_1_1_1_1_1 f29_t_1_1_1_1_1_1_1_1 f29_t_1_1_1_1_1_1_1_1_1 f29_t_1_1_1_1_1_1_1_1_1_1 f29_t_1_1_1_1_1_1_1_1_1_1_1 f29_t_1_1_1_1_1_1_1_1_1_1_1_1 f29_t_1_1_1_1_1_1_1_1_1_1_1_1_1 g29 ec30
  refine va_putF (D := x_D G) (ci := 5) (v := .ref q15) (ty := .array .int) (C := "ContentLibraryModel") (T := x_TM) (N := 31) hx hb hts x_inM x_tyM x_tyM_ok x_nmM hown hK hP hD hS k (y_at (by omega) a15_k f30_k) rfl 18 (by decide) (hts _ t_690) (fun _ h9 => h9) rfl hin rfl (by decide +kernel) rfl rfl (Nat.le_of_ble_eq_true rfl) d_M_init_129 (fun H locs hP hD hS => ?_)
  rw [y_set (by omega) a15_k] at hP hD
  obtain ⟨c31, ec31⟩ : ∃ c31, c31 = va_up c30 k (.inr (5, ([.int 0, .int 0, .ref q1, .int 0, .int (-1 : Int32), .ref q2, .ref q3, .ref q4, .ref q5, .ref q6, .ref q7, .ref q8, .ref q9, .ref q10, .ref q11, .ref q12, .ref q13, .ref q14, .null, .int 0, .null, .null, .null, .null, .null, .null, .null, .int 0, .null, .null, .null] : List Value).set 18 (.ref q15))) := ⟨_, rfl⟩
  rw [← ec31] at hP hD
  have f31_t : c31 t = .inl (x_ca G 0, 2560, .inl (fun _ => (0 : Int32))) := by rw [ec31]; exact (va_up_ne _ _ (by omega)).trans f30_t
  have f31_t_1 : c31 (t + 1) = .inl (x_ca G 1, 8, .inl (fun _ => (0 : Int32))) := by rw [ec31]; exact (va_up_ne _ _ (by omega)).trans f30_t_1
  have f31_t_1_1 : c31 (t + 1 + 1) = .inl (x_ca G 0, 8, .inl (fun _ => (0 : Int32))) := by rw [ec31]; exact (va_up_ne _ _ (by omega)).trans f30_t_1_1
  have f31_t_1_1_1 : c31 (t + 1 + 1 + 1) = .inl (x_ca G 0, 8, .inl (fun _ => (0 : Int32))) := by rw [ec31]; exact (va_up_ne _ _ (by omega)).trans f30_t_1_1_1
  have f31_t_1_1_1_1 : c31 (t + 1 + 1 + 1 + 1) = .inl (x_ca G 0, 8, .inl (fun _ => (0 : Int32))) := by rw [ec31]; exact (va_up_ne _ _ (by omega)).trans f30_t_1_1_1_1
  have f31_t_1_1_1_1_1 : c31 (t + 1 + 1 + 1 + 1 + 1) = .inl (x_ca G 0, 512, .inl (fun _ => (0 : Int32))) := by rw [ec31]; exact (va_up_ne _ _ (by omega)).trans f30_t_1_1_1_1_1
  have f31_t_1_1_1_1_1_1 : c31 (t + 1 + 1 + 1 + 1 + 1 + 1) = .inl (x_ca G 1, 16, .inl (fun _ => (0 : Int32))) := by rw [ec31]; exact (va_up_ne _ _ (by omega)).trans f30_t_1_1_1_1_1_1
  have f31_t_1_1_1_1_1_1_1 : c31 (t + 1 + 1 + 1 + 1 + 1 + 1 + 1) = .inl (x_ca G 0, 16, .inl (fun _ => (0 : Int32))) := by rw [ec31]; exact (va_up_ne _ _ (by omega)).trans f30_t_1_1_1_1_1_1_1
  have f31_t_1_1_1_1_1_1_1_1 : c31 (t + 1 + 1 + 1 + 1 + 1 + 1 + 1 + 1) = .inl (x_ca G 0, 16, .inl (fun _ => (0 : Int32))) := by rw [ec31]; exact (va_up_ne _ _ (by omega)).trans f30_t_1_1_1_1_1_1_1_1
  have f31_t_1_1_1_1_1_1_1_1_1 : c31 (t + 1 + 1 + 1 + 1 + 1 + 1 + 1 + 1 + 1) = .inl (x_ca G 0, 1024, .inl (fun _ => (0 : Int32))) := by rw [ec31]; exact (va_up_ne _ _ (by omega)).trans f30_t_1_1_1_1_1_1_1_1_1
  have f31_t_1_1_1_1_1_1_1_1_1_1 : c31 (t + 1 + 1 + 1 + 1 + 1 + 1 + 1 + 1 + 1 + 1) = .inl (x_ca G 0, 16, .inl (fun _ => (0 : Int32))) := by rw [ec31]; exact (va_up_ne _ _ (by omega)).trans f30_t_1_1_1_1_1_1_1_1_1_1
  have f31_t_1_1_1_1_1_1_1_1_1_1_1 : c31 (t + 1 + 1 + 1 + 1 + 1 + 1 + 1 + 1 + 1 + 1 + 1) = .inl (x_ca G 0, 16, .inl (fun _ => (0 : Int32))) := by rw [ec31]; exact (va_up_ne _ _ (by omega)).trans f30_t_1_1_1_1_1_1_1_1_1_1_1
  have f31_t_1_1_1_1_1_1_1_1_1_1_1_1 : c31 (t + 1 + 1 + 1 + 1 + 1 + 1 + 1 + 1 + 1 + 1 + 1 + 1) = .inl (x_ca G 0, 32, .inl (fun _ => (0 : Int32))) := by rw [ec31]; exact (va_up_ne _ _ (by omega)).trans f30_t_1_1_1_1_1_1_1_1_1_1_1_1
  have f31_t_1_1_1_1_1_1_1_1_1_1_1_1_1 : c31 (t + 1 + 1 + 1 + 1 + 1 + 1 + 1 + 1 + 1 + 1 + 1 + 1 + 1) = .inl (x_ca G 4, 16, .inr (.inl (fun _ => (0 : Int64)))) := by rw [ec31]; exact (va_up_ne _ _ (by omega)).trans f30_t_1_1_1_1_1_1_1_1_1_1_1_1_1
  have f31_t_1_1_1_1_1_1_1_1_1_1_1_1_1_1 : c31 (t + 1 + 1 + 1 + 1 + 1 + 1 + 1 + 1 + 1 + 1 + 1 + 1 + 1 + 1) = .inl (x_ca G 0, 40, .inl (fun _ => (0 : Int32))) := by rw [ec31]; exact (va_up_ne _ _ (by omega)).trans f30_t_1_1_1_1_1_1_1_1_1_1_1_1_1_1
  have f31_k : c31 k = .inr (5, [.int 0, .int 0, .ref q1, .int 0, .int (-1 : Int32), .ref q2, .ref q3, .ref q4, .ref q5, .ref q6, .ref q7, .ref q8, .ref q9, .ref q10, .ref q11, .ref q12, .ref q13, .ref q14, .ref q15, .int 0, .null, .null, .null, .null, .null, .null, .null, .int 0, .null, .null, .null]) := by rw [ec31]; exact va_up_self _ _ _
  have g31 : ∀ j, j < t → j ≠ k → c31 j = c j := fun j h1 h2 => by rw [ec31]; exact (va_up_ne _ _ (by omega)).trans (g30 j h1 h2)
  clear f30_k f30_t f30_t_1 f30_t_1_1 f30_t_1_1_1 f30_t_1_1_1_1 f30_t_1_1_1_1_1 f30_t_1_1_1_1_1_1 f30_t_1_1_1_1_1_1_1 f30_t_1_1_1_1_1_1_1_1 f30_t_1_1_1_1_1_1_1_1_1 f30_t_1_1_1_1_1_1_1_1_1_1 f30_t_1_1_1_1_1_1_1_1_1_1_1 f30_t_1_1_1_1_1_1_1_1_1_1_1_1 f30_t_1_1_1_1_1_1_1_1_1_1_1_1_1 f30_t_1_1_1_1_1_1_1_1_1_1_1_1_1_1 g30 ec31
  refine lv_aload_n hx hb d_M_init_132 rfl (lv_at hl 0 rfl) ?_
  refine lv_bipush (v := (16 : Int32)) hx hb d_M_init_133 (by decide) ?_
  refine va_newa (atype := .int) hx hb (hts _ t_58) (ty := .int) rfl hK hP hD hS hA (N' := 16) (a0 := (16, .inl (fun _ => (0 : Int32)))) (fun _ => rfl) (by decide) (by decide) (by decide) (Nat.le_of_ble_eq_true rfl) (Nat.le_of_ble_eq_true rfl) d_M_init_135 (fun q16 cA H hK2 hP hD hS => ?_)
  obtain rfl := y_caI hK2
  rw [y_push] at hP hD
  obtain ⟨ad16, ead16⟩ : ∃ a1, a1 = va_up ad15 (t + 1 + 1 + 1 + 1 + 1 + 1 + 1 + 1 + 1 + 1 + 1 + 1 + 1 + 1 + 1) q16 := ⟨_, rfl⟩
  rw [← ead16] at hP hD
  have a16_k : ad16 k = (ad k) := by rw [ead16]; exact (va_up_ne _ _ (by omega)).trans a15_k
  have a16_t : ad16 t = q1 := by rw [ead16]; exact (va_up_ne _ _ (by omega)).trans a15_t
  have a16_t_1 : ad16 (t + 1) = q2 := by rw [ead16]; exact (va_up_ne _ _ (by omega)).trans a15_t_1
  have a16_t_1_1 : ad16 (t + 1 + 1) = q3 := by rw [ead16]; exact (va_up_ne _ _ (by omega)).trans a15_t_1_1
  have a16_t_1_1_1 : ad16 (t + 1 + 1 + 1) = q4 := by rw [ead16]; exact (va_up_ne _ _ (by omega)).trans a15_t_1_1_1
  have a16_t_1_1_1_1 : ad16 (t + 1 + 1 + 1 + 1) = q5 := by rw [ead16]; exact (va_up_ne _ _ (by omega)).trans a15_t_1_1_1_1
  have a16_t_1_1_1_1_1 : ad16 (t + 1 + 1 + 1 + 1 + 1) = q6 := by rw [ead16]; exact (va_up_ne _ _ (by omega)).trans a15_t_1_1_1_1_1
  have a16_t_1_1_1_1_1_1 : ad16 (t + 1 + 1 + 1 + 1 + 1 + 1) = q7 := by rw [ead16]; exact (va_up_ne _ _ (by omega)).trans a15_t_1_1_1_1_1_1
  have a16_t_1_1_1_1_1_1_1 : ad16 (t + 1 + 1 + 1 + 1 + 1 + 1 + 1) = q8 := by rw [ead16]; exact (va_up_ne _ _ (by omega)).trans a15_t_1_1_1_1_1_1_1
  have a16_t_1_1_1_1_1_1_1_1 : ad16 (t + 1 + 1 + 1 + 1 + 1 + 1 + 1 + 1) = q9 := by rw [ead16]; exact (va_up_ne _ _ (by omega)).trans a15_t_1_1_1_1_1_1_1_1
  have a16_t_1_1_1_1_1_1_1_1_1 : ad16 (t + 1 + 1 + 1 + 1 + 1 + 1 + 1 + 1 + 1) = q10 := by rw [ead16]; exact (va_up_ne _ _ (by omega)).trans a15_t_1_1_1_1_1_1_1_1_1
  have a16_t_1_1_1_1_1_1_1_1_1_1 : ad16 (t + 1 + 1 + 1 + 1 + 1 + 1 + 1 + 1 + 1 + 1) = q11 := by rw [ead16]; exact (va_up_ne _ _ (by omega)).trans a15_t_1_1_1_1_1_1_1_1_1_1
  have a16_t_1_1_1_1_1_1_1_1_1_1_1 : ad16 (t + 1 + 1 + 1 + 1 + 1 + 1 + 1 + 1 + 1 + 1 + 1) = q12 := by rw [ead16]; exact (va_up_ne _ _ (by omega)).trans a15_t_1_1_1_1_1_1_1_1_1_1_1
  have a16_t_1_1_1_1_1_1_1_1_1_1_1_1 : ad16 (t + 1 + 1 + 1 + 1 + 1 + 1 + 1 + 1 + 1 + 1 + 1 + 1) = q13 := by rw [ead16]; exact (va_up_ne _ _ (by omega)).trans a15_t_1_1_1_1_1_1_1_1_1_1_1_1
  have a16_t_1_1_1_1_1_1_1_1_1_1_1_1_1 : ad16 (t + 1 + 1 + 1 + 1 + 1 + 1 + 1 + 1 + 1 + 1 + 1 + 1 + 1) = q14 := by rw [ead16]; exact (va_up_ne _ _ (by omega)).trans a15_t_1_1_1_1_1_1_1_1_1_1_1_1_1
  have a16_t_1_1_1_1_1_1_1_1_1_1_1_1_1_1 : ad16 (t + 1 + 1 + 1 + 1 + 1 + 1 + 1 + 1 + 1 + 1 + 1 + 1 + 1 + 1) = q15 := by rw [ead16]; exact (va_up_ne _ _ (by omega)).trans a15_t_1_1_1_1_1_1_1_1_1_1_1_1_1_1
  have a16_t_1_1_1_1_1_1_1_1_1_1_1_1_1_1_1 : ad16 (t + 1 + 1 + 1 + 1 + 1 + 1 + 1 + 1 + 1 + 1 + 1 + 1 + 1 + 1 + 1) = q16 := by rw [ead16]; exact va_up_self _ _ _
  have b16 : ∀ j, j < t → ad16 j = ad j := fun j h1 => by rw [ead16]; exact (va_up_ne _ _ (by omega)).trans (b15 j h1)
  clear a15_k a15_t a15_t_1 a15_t_1_1 a15_t_1_1_1 a15_t_1_1_1_1 a15_t_1_1_1_1_1 a15_t_1_1_1_1_1_1 a15_t_1_1_1_1_1_1_1 a15_t_1_1_1_1_1_1_1_1 a15_t_1_1_1_1_1_1_1_1_1 a15_t_1_1_1_1_1_1_1_1_1_1 a15_t_1_1_1_1_1_1_1_1_1_1_1 a15_t_1_1_1_1_1_1_1_1_1_1_1_1 a15_t_1_1_1_1_1_1_1_1_1_1_1_1_1 a15_t_1_1_1_1_1_1_1_1_1_1_1_1_1_1 b15 ead16
  obtain ⟨c32, ec32⟩ : ∃ c32, c32 = va_up c31 (t + 1 + 1 + 1 + 1 + 1 + 1 + 1 + 1 + 1 + 1 + 1 + 1 + 1 + 1 + 1) (.inl (x_ca G 0, 16, .inl (fun _ => (0 : Int32)))) := ⟨_, rfl⟩
  rw [← ec32] at hP hD
  have f32_k : c32 k = .inr (5, [.int 0, .int 0, .ref q1, .int 0, .int (-1 : Int32), .ref q2, .ref q3, .ref q4, .ref q5, .ref q6, .ref q7, .ref q8, .ref q9, .ref q10, .ref q11, .ref q12, .ref q13, .ref q14, .ref q15, .int 0, .null, .null, .null, .null, .null, .null, .null, .int 0, .null, .null, .null]) := by rw [ec32]; exact (va_up_ne _ _ (by omega)).trans f31_k
  have f32_t : c32 t = .inl (x_ca G 0, 2560, .inl (fun _ => (0 : Int32))) := by rw [ec32]; exact (va_up_ne _ _ (by omega)).trans f31_t
  have f32_t_1 : c32 (t + 1) = .inl (x_ca G 1, 8, .inl (fun _ => (0 : Int32))) := by rw [ec32]; exact (va_up_ne _ _ (by omega)).trans f31_t_1
  have f32_t_1_1 : c32 (t + 1 + 1) = .inl (x_ca G 0, 8, .inl (fun _ => (0 : Int32))) := by rw [ec32]; exact (va_up_ne _ _ (by omega)).trans f31_t_1_1
  have f32_t_1_1_1 : c32 (t + 1 + 1 + 1) = .inl (x_ca G 0, 8, .inl (fun _ => (0 : Int32))) := by rw [ec32]; exact (va_up_ne _ _ (by omega)).trans f31_t_1_1_1
  have f32_t_1_1_1_1 : c32 (t + 1 + 1 + 1 + 1) = .inl (x_ca G 0, 8, .inl (fun _ => (0 : Int32))) := by rw [ec32]; exact (va_up_ne _ _ (by omega)).trans f31_t_1_1_1_1
  have f32_t_1_1_1_1_1 : c32 (t + 1 + 1 + 1 + 1 + 1) = .inl (x_ca G 0, 512, .inl (fun _ => (0 : Int32))) := by rw [ec32]; exact (va_up_ne _ _ (by omega)).trans f31_t_1_1_1_1_1
  have f32_t_1_1_1_1_1_1 : c32 (t + 1 + 1 + 1 + 1 + 1 + 1) = .inl (x_ca G 1, 16, .inl (fun _ => (0 : Int32))) := by rw [ec32]; exact (va_up_ne _ _ (by omega)).trans f31_t_1_1_1_1_1_1
  have f32_t_1_1_1_1_1_1_1 : c32 (t + 1 + 1 + 1 + 1 + 1 + 1 + 1) = .inl (x_ca G 0, 16, .inl (fun _ => (0 : Int32))) := by rw [ec32]; exact (va_up_ne _ _ (by omega)).trans f31_t_1_1_1_1_1_1_1
  have f32_t_1_1_1_1_1_1_1_1 : c32 (t + 1 + 1 + 1 + 1 + 1 + 1 + 1 + 1) = .inl (x_ca G 0, 16, .inl (fun _ => (0 : Int32))) := by rw [ec32]; exact (va_up_ne _ _ (by omega)).trans f31_t_1_1_1_1_1_1_1_1
  have f32_t_1_1_1_1_1_1_1_1_1 : c32 (t + 1 + 1 + 1 + 1 + 1 + 1 + 1 + 1 + 1) = .inl (x_ca G 0, 1024, .inl (fun _ => (0 : Int32))) := by rw [ec32]; exact (va_up_ne _ _ (by omega)).trans f31_t_1_1_1_1_1_1_1_1_1
  have f32_t_1_1_1_1_1_1_1_1_1_1 : c32 (t + 1 + 1 + 1 + 1 + 1 + 1 + 1 + 1 + 1 + 1) = .inl (x_ca G 0, 16, .inl (fun _ => (0 : Int32))) := by rw [ec32]; exact (va_up_ne _ _ (by omega)).trans f31_t_1_1_1_1_1_1_1_1_1_1
  have f32_t_1_1_1_1_1_1_1_1_1_1_1 : c32 (t + 1 + 1 + 1 + 1 + 1 + 1 + 1 + 1 + 1 + 1 + 1) = .inl (x_ca G 0, 16, .inl (fun _ => (0 : Int32))) := by rw [ec32]; exact (va_up_ne _ _ (by omega)).trans f31_t_1_1_1_1_1_1_1_1_1_1_1
  have f32_t_1_1_1_1_1_1_1_1_1_1_1_1 : c32 (t + 1 + 1 + 1 + 1 + 1 + 1 + 1 + 1 + 1 + 1 + 1 + 1) = .inl (x_ca G 0, 32, .inl (fun _ => (0 : Int32))) := by rw [ec32]; exact (va_up_ne _ _ (by omega)).trans f31_t_1_1_1_1_1_1_1_1_1_1_1_1
  have f32_t_1_1_1_1_1_1_1_1_1_1_1_1_1 : c32 (t + 1 + 1 + 1 + 1 + 1 + 1 + 1 + 1 + 1 + 1 + 1 + 1 + 1) = .inl (x_ca G 4, 16, .inr (.inl (fun _ => (0 : Int64)))) := by rw [ec32]; exact (va_up_ne _ _ (by omega)).trans f31_t_1_1_1_1_1_1_1_1_1_1_1_1_1
  have f32_t_1_1_1_1_1_1_1_1_1_1_1_1_1_1 : c32 (t + 1 + 1 + 1 + 1 + 1 + 1 + 1 + 1 + 1 + 1 + 1 + 1 + 1 + 1) = .inl (x_ca G 0, 40, .inl (fun _ => (0 : Int32))) := by rw [ec32]; exact (va_up_ne _ _ (by omega)).trans f31_t_1_1_1_1_1_1_1_1_1_1_1_1_1_1
  have f32_t_1_1_1_1_1_1_1_1_1_1_1_1_1_1_1 : c32 (t + 1 + 1 + 1 + 1 + 1 + 1 + 1 + 1 + 1 + 1 + 1 + 1 + 1 + 1 + 1) = .inl (x_ca G 0, 16, .inl (fun _ => (0 : Int32))) := by rw [ec32]; exact va_up_self _ _ _
  have g32 : ∀ j, j < t → j ≠ k → c32 j = c j := fun j h1 h2 => by rw [ec32]; exact (va_up_ne _ _ (by omega)).trans (g31 j h1 h2)
  clear f31_k f31_t f31_t_1 f31_t_1_1 f31_t_1_1_1 f31_t_1_1_1_1 f31_t_1_1_1_1_1 f31_t_1_1_1_1_1_1 f31_t_1_1_1_1_1_1_1 f31_t_1_1_1_1_1_1_1_1 f31_t_1_1_1_1_1_1_1_1_1 f31_t_1_1_1_1_1_1_1_1_1_1 f31_t_1_1_1_1_1_1_1_1_1_1_1 f31_t_1_1_1_1_1_1_1_1_1_1_1_1 f31_t_1_1_1_1_1_1_1_1_1_1_1_1_1 f31_t_1_1_1_1_1_1_1_1_1_1_1_1_1_1 g31 ec32
  refine va_putF (D := x_D G) (ci := 5) (v := .ref q16) (ty := .array .int) (C := "ContentLibraryModel") (T := x_TM) (N := 31) hx hb hts x_inM x_tyM x_tyM_ok x_nmM hown hK hP hD hS k (y_at (by omega) a16_k f32_k) rfl 20 (by decide) (hts _ t_692) (fun _ h9 => h9) rfl hin rfl (by decide +kernel) rfl rfl (Nat.le_of_ble_eq_true rfl) d_M_init_137 (fun H locs hP hD hS => ?_)
  rw [y_set (by omega) a16_k] at hP hD
  obtain ⟨c33, ec33⟩ : ∃ c33, c33 = va_up c32 k (.inr (5, ([.int 0, .int 0, .ref q1, .int 0, .int (-1 : Int32), .ref q2, .ref q3, .ref q4, .ref q5, .ref q6, .ref q7, .ref q8, .ref q9, .ref q10, .ref q11, .ref q12, .ref q13, .ref q14, .ref q15, .int 0, .null, .null, .null, .null, .null, .null, .null, .int 0, .null, .null, .null] : List Value).set 20 (.ref q16))) := ⟨_, rfl⟩
  rw [← ec33] at hP hD
  have f33_t : c33 t = .inl (x_ca G 0, 2560, .inl (fun _ => (0 : Int32))) := by rw [ec33]; exact (va_up_ne _ _ (by omega)).trans f32_t
  have f33_t_1 : c33 (t + 1) = .inl (x_ca G 1, 8, .inl (fun _ => (0 : Int32))) := by rw [ec33]; exact (va_up_ne _ _ (by omega)).trans f32_t_1
  have f33_t_1_1 : c33 (t + 1 + 1) = .inl (x_ca G 0, 8, .inl (fun _ => (0 : Int32))) := by rw [ec33]; exact (va_up_ne _ _ (by omega)).trans f32_t_1_1
  have f33_t_1_1_1 : c33 (t + 1 + 1 + 1) = .inl (x_ca G 0, 8, .inl (fun _ => (0 : Int32))) := by rw [ec33]; exact (va_up_ne _ _ (by omega)).trans f32_t_1_1_1
  have f33_t_1_1_1_1 : c33 (t + 1 + 1 + 1 + 1) = .inl (x_ca G 0, 8, .inl (fun _ => (0 : Int32))) := by rw [ec33]; exact (va_up_ne _ _ (by omega)).trans f32_t_1_1_1_1
  have f33_t_1_1_1_1_1 : c33 (t + 1 + 1 + 1 + 1 + 1) = .inl (x_ca G 0, 512, .inl (fun _ => (0 : Int32))) := by rw [ec33]; exact (va_up_ne _ _ (by omega)).trans f32_t_1_1_1_1_1
  have f33_t_1_1_1_1_1_1 : c33 (t + 1 + 1 + 1 + 1 + 1 + 1) = .inl (x_ca G 1, 16, .inl (fun _ => (0 : Int32))) := by rw [ec33]; exact (va_up_ne _ _ (by omega)).trans f32_t_1_1_1_1_1_1
  have f33_t_1_1_1_1_1_1_1 : c33 (t + 1 + 1 + 1 + 1 + 1 + 1 + 1) = .inl (x_ca G 0, 16, .inl (fun _ => (0 : Int32))) := by rw [ec33]; exact (va_up_ne _ _ (by omega)).trans f32_t_1_1_1_1_1_1_1
  have f33_t_1_1_1_1_1_1_1_1 : c33 (t + 1 + 1 + 1 + 1 + 1 + 1 + 1 + 1) = .inl (x_ca G 0, 16, .inl (fun _ => (0 : Int32))) := by rw [ec33]; exact (va_up_ne _ _ (by omega)).trans f32_t_1_1_1_1_1_1_1_1
  have f33_t_1_1_1_1_1_1_1_1_1 : c33 (t + 1 + 1 + 1 + 1 + 1 + 1 + 1 + 1 + 1) = .inl (x_ca G 0, 1024, .inl (fun _ => (0 : Int32))) := by rw [ec33]; exact (va_up_ne _ _ (by omega)).trans f32_t_1_1_1_1_1_1_1_1_1
  have f33_t_1_1_1_1_1_1_1_1_1_1 : c33 (t + 1 + 1 + 1 + 1 + 1 + 1 + 1 + 1 + 1 + 1) = .inl (x_ca G 0, 16, .inl (fun _ => (0 : Int32))) := by rw [ec33]; exact (va_up_ne _ _ (by omega)).trans f32_t_1_1_1_1_1_1_1_1_1_1
  have f33_t_1_1_1_1_1_1_1_1_1_1_1 : c33 (t + 1 + 1 + 1 + 1 + 1 + 1 + 1 + 1 + 1 + 1 + 1) = .inl (x_ca G 0, 16, .inl (fun _ => (0 : Int32))) := by rw [ec33]; exact (va_up_ne _ _ (by omega)).trans f32_t_1_1_1_1_1_1_1_1_1_1_1
  have f33_t_1_1_1_1_1_1_1_1_1_1_1_1 : c33 (t + 1 + 1 + 1 + 1 + 1 + 1 + 1 + 1 + 1 + 1 + 1 + 1) = .inl (x_ca G 0, 32, .inl (fun _ => (0 : Int32))) := by rw [ec33]; exact (va_up_ne _ _ (by omega)).trans f32_t_1_1_1_1_1_1_1_1_1_1_1_1
  have f33_t_1_1_1_1_1_1_1_1_1_1_1_1_1 : c33 (t + 1 + 1 + 1 + 1 + 1 + 1 + 1 + 1 + 1 + 1 + 1 + 1 + 1) = .inl (x_ca G 4, 16, .inr (.inl (fun _ => (0 : Int64)))) := by rw [ec33]; exact (va_up_ne _ _ (by omega)).trans f32_t_1_1_1_1_1_1_1_1_1_1_1_1_1
  have f33_t_1_1_1_1_1_1_1_1_1_1_1_1_1_1 : c33 (t + 1 + 1 + 1 + 1 + 1 + 1 + 1 + 1 + 1 + 1 + 1 + 1 + 1 + 1) = .inl (x_ca G 0, 40, .inl (fun _ => (0 : Int32))) := by rw [ec33]; exact (va_up_ne _ _ (by omega)).trans f32_t_1_1_1_1_1_1_1_1_1_1_1_1_1_1
  have f33_t_1_1_1_1_1_1_1_1_1_1_1_1_1_1_1 : c33 (t + 1 + 1 + 1 + 1 + 1 + 1 + 1 + 1 + 1 + 1 + 1 + 1 + 1 + 1 + 1) = .inl (x_ca G 0, 16, .inl (fun _ => (0 : Int32))) := by rw [ec33]; exact (va_up_ne _ _ (by omega)).trans f32_t_1_1_1_1_1_1_1_1_1_1_1_1_1_1_1
  have f33_k : c33 k = .inr (5, [.int 0, .int 0, .ref q1, .int 0, .int (-1 : Int32), .ref q2, .ref q3, .ref q4, .ref q5, .ref q6, .ref q7, .ref q8, .ref q9, .ref q10, .ref q11, .ref q12, .ref q13, .ref q14, .ref q15, .int 0, .ref q16, .null, .null, .null, .null, .null, .null, .int 0, .null, .null, .null]) := by rw [ec33]; exact va_up_self _ _ _
  have g33 : ∀ j, j < t → j ≠ k → c33 j = c j := fun j h1 h2 => by rw [ec33]; exact (va_up_ne _ _ (by omega)).trans (g32 j h1 h2)
  clear f32_k f32_t f32_t_1 f32_t_1_1 f32_t_1_1_1 f32_t_1_1_1_1 f32_t_1_1_1_1_1 f32_t_1_1_1_1_1_1 f32_t_1_1_1_1_1_1_1 f32_t_1_1_1_1_1_1_1_1 f32_t_1_1_1_1_1_1_1_1_1 f32_t_1_1_1_1_1_1_1_1_1_1 f32_t_1_1_1_1_1_1_1_1_1_1_1 f32_t_1_1_1_1_1_1_1_1_1_1_1_1 f32_t_1_1_1_1_1_1_1_1_1_1_1_1_1 f32_t_1_1_1_1_1_1_1_1_1_1_1_1_1_1 f32_t_1_1_1_1_1_1_1_1_1_1_1_1_1_1_1 g32 ec33
  refine lv_aload_n hx hb d_M_init_140 rfl (lv_at hl 0 rfl) ?_
  refine lv_bipush (v := (16 : Int32)) hx hb d_M_init_141 (by decide) ?_
  refine va_newa (atype := .int) hx hb (hts _ t_58) (ty := .int) rfl hK hP hD hS hA (N' := 16) (a0 := (16, .inl (fun _ => (0 : Int32)))) (fun _ => rfl) (by decide) (by decide) (by decide) (Nat.le_of_ble_eq_true rfl) (Nat.le_of_ble_eq_true rfl) d_M_init_143 (fun q17 cA H hK2 hP hD hS => ?_)
  obtain rfl := y_caI hK2
  rw [y_push] at hP hD
  obtain ⟨ad17, ead17⟩ : ∃ a1, a1 = va_up ad16 (t + 1 + 1 + 1 + 1 + 1 + 1 + 1 + 1 + 1 + 1 + 1 + 1 + 1 + 1 + 1 + 1) q17 := ⟨_, rfl⟩
  rw [← ead17] at hP hD
  have a17_k : ad17 k = (ad k) := by rw [ead17]; exact (va_up_ne _ _ (by omega)).trans a16_k
  have a17_t : ad17 t = q1 := by rw [ead17]; exact (va_up_ne _ _ (by omega)).trans a16_t
  have a17_t_1 : ad17 (t + 1) = q2 := by rw [ead17]; exact (va_up_ne _ _ (by omega)).trans a16_t_1
  have a17_t_1_1 : ad17 (t + 1 + 1) = q3 := by rw [ead17]; exact (va_up_ne _ _ (by omega)).trans a16_t_1_1
  have a17_t_1_1_1 : ad17 (t + 1 + 1 + 1) = q4 := by rw [ead17]; exact (va_up_ne _ _ (by omega)).trans a16_t_1_1_1
  have a17_t_1_1_1_1 : ad17 (t + 1 + 1 + 1 + 1) = q5 := by rw [ead17]; exact (va_up_ne _ _ (by omega)).trans a16_t_1_1_1_1
  have a17_t_1_1_1_1_1 : ad17 (t + 1 + 1 + 1 + 1 + 1) = q6 := by rw [ead17]; exact (va_up_ne _ _ (by omega)).trans a16_t_1_1_1_1_1
  have a17_t_1_1_1_1_1_1 : ad17 (t + 1 + 1 + 1 + 1 + 1 + 1) = q7 := by rw [ead17]; exact (va_up_ne _ _ (by omega)).trans a16_t_1_1_1_1_1_1
  have a17_t_1_1_1_1_1_1_1 : ad17 (t + 1 + 1 + 1 + 1 + 1 + 1 + 1) = q8 := by rw [ead17]; exact (va_up_ne _ _ (by omega)).trans a16_t_1_1_1_1_1_1_1
  have a17_t_1_1_1_1_1_1_1_1 : ad17 (t + 1 + 1 + 1 + 1 + 1 + 1 + 1 + 1) = q9 := by rw [ead17]; exact (va_up_ne _ _ (by omega)).trans a16_t_1_1_1_1_1_1_1_1
  have a17_t_1_1_1_1_1_1_1_1_1 : ad17 (t + 1 + 1 + 1 + 1 + 1 + 1 + 1 + 1 + 1) = q10 := by rw [ead17]; exact (va_up_ne _ _ (by omega)).trans a16_t_1_1_1_1_1_1_1_1_1
  have a17_t_1_1_1_1_1_1_1_1_1_1 : ad17 (t + 1 + 1 + 1 + 1 + 1 + 1 + 1 + 1 + 1 + 1) = q11 := by rw [ead17]; exact (va_up_ne _ _ (by omega)).trans a16_t_1_1_1_1_1_1_1_1_1_1
  have a17_t_1_1_1_1_1_1_1_1_1_1_1 : ad17 (t + 1 + 1 + 1 + 1 + 1 + 1 + 1 + 1 + 1 + 1 + 1) = q12 := by rw [ead17]; exact (va_up_ne _ _ (by omega)).trans a16_t_1_1_1_1_1_1_1_1_1_1_1
  have a17_t_1_1_1_1_1_1_1_1_1_1_1_1 : ad17 (t + 1 + 1 + 1 + 1 + 1 + 1 + 1 + 1 + 1 + 1 + 1 + 1) = q13 := by rw [ead17]; exact (va_up_ne _ _ (by omega)).trans a16_t_1_1_1_1_1_1_1_1_1_1_1_1
  have a17_t_1_1_1_1_1_1_1_1_1_1_1_1_1 : ad17 (t + 1 + 1 + 1 + 1 + 1 + 1 + 1 + 1 + 1 + 1 + 1 + 1 + 1) = q14 := by rw [ead17]; exact (va_up_ne _ _ (by omega)).trans a16_t_1_1_1_1_1_1_1_1_1_1_1_1_1
  have a17_t_1_1_1_1_1_1_1_1_1_1_1_1_1_1 : ad17 (t + 1 + 1 + 1 + 1 + 1 + 1 + 1 + 1 + 1 + 1 + 1 + 1 + 1 + 1) = q15 := by rw [ead17]; exact (va_up_ne _ _ (by omega)).trans a16_t_1_1_1_1_1_1_1_1_1_1_1_1_1_1
  have a17_t_1_1_1_1_1_1_1_1_1_1_1_1_1_1_1 : ad17 (t + 1 + 1 + 1 + 1 + 1 + 1 + 1 + 1 + 1 + 1 + 1 + 1 + 1 + 1 + 1) = q16 := by rw [ead17]; exact (va_up_ne _ _ (by omega)).trans a16_t_1_1_1_1_1_1_1_1_1_1_1_1_1_1_1
  have a17_t_1_1_1_1_1_1_1_1_1_1_1_1_1_1_1_1 : ad17 (t + 1 + 1 + 1 + 1 + 1 + 1 + 1 + 1 + 1 + 1 + 1 + 1 + 1 + 1 + 1 + 1) = q17 := by rw [ead17]; exact va_up_self _ _ _
  have b17 : ∀ j, j < t → ad17 j = ad j := fun j h1 => by rw [ead17]; exact (va_up_ne _ _ (by omega)).trans (b16 j h1)
  clear a16_k a16_t a16_t_1 a16_t_1_1 a16_t_1_1_1 a16_t_1_1_1_1 a16_t_1_1_1_1_1 a16_t_1_1_1_1_1_1 a16_t_1_1_1_1_1_1_1 a16_t_1_1_1_1_1_1_1_1 a16_t_1_1_1_1_1_1_1_1_1 a16_t_1_1_1_1_1_1_1_1_1_1 a16_t_1_1_1_1_1_1_1_1_1_1_1 a16_t_1_1_1_1_1_1_1_1_1_1_1_1 a16_t_1_1_1_1_1_1_1_1_1_1_1_1_1 a16_t_1_1_1_1_1_1_1_1_1_1_1_1_1_1 a16_t_1_1_1_1_1_1_1_1_1_1_1_1_1_1_1 b16 ead17
  obtain ⟨c34, ec34⟩ : ∃ c34, c34 = va_up c33 (t + 1 + 1 + 1 + 1 + 1 + 1 + 1 + 1 + 1 + 1 + 1 + 1 + 1 + 1 + 1 + 1) (.inl (x_ca G 0, 16, .inl (fun _ => (0 : Int32)))) := ⟨_, rfl⟩
  rw [← ec34] at hP hD
  have f34_k : c34 k = .inr (5, [.int 0, .int 0, .ref q1, .int 0, .int (-1 : Int32), .ref q2, .ref q3, .ref q4, .ref q5, .ref q6, .ref q7, .ref q8, .ref q9, .ref q10, .ref q11, .ref q12, .ref q13, .ref q14, .ref q15, .int 0, .ref q16, .null, .null, .null, .null, .null, .null, .int 0, .null, .null, .null]) := by rw [ec34]; exact (va_up_ne _ _ (by omega)).trans f33_k
  have f34_t : c34 t = .inl (x_ca G 0, 2560, .inl (fun _ => (0 : Int32))) := by rw [ec34]; exact (va_up_ne _ _ (by omega)).trans f33_t
  have f34_t_1 : c34 (t + 1) = .inl (x_ca G 1, 8, .inl (fun _ => (0 : Int32))) := by rw [ec34]; exact (va_up_ne _ _ (by omega)).trans f33_t_1
  have f34_t_1_1 : c34 (t + 1 + 1) = .inl (x_ca G 0, 8, .inl (fun _ => (0 : Int32))) := by rw [ec34]; exact (va_up_ne _ _ (by omega)).trans f33_t_1_1
  have f34_t_1_1_1 : c34 (t + 1 + 1 + 1) = .inl (x_ca G 0, 8, .inl (fun _ => (0 : Int32))) := by rw [ec34]; exact (va_up_ne _ _ (by omega)).trans f33_t_1_1_1
  have f34_t_1_1_1_1 : c34 (t + 1 + 1 + 1 + 1) = .inl (x_ca G 0, 8, .inl (fun _ => (0 : Int32))) := by rw [ec34]; exact (va_up_ne _ _ (by omega)).trans f33_t_1_1_1_1
  have f34_t_1_1_1_1_1 : c34 (t + 1 + 1 + 1 + 1 + 1) = .inl (x_ca G 0, 512, .inl (fun _ => (0 : Int32))) := by rw [ec34]; exact (va_up_ne _ _ (by omega)).trans f33_t_1_1_1_1_1
  have f34_t_1_1_1_1_1_1 : c34 (t + 1 + 1 + 1 + 1 + 1 + 1) = .inl (x_ca G 1, 16, .inl (fun _ => (0 : Int32))) := by rw [ec34]; exact (va_up_ne _ _ (by omega)).trans f33_t_1_1_1_1_1_1
  have f34_t_1_1_1_1_1_1_1 : c34 (t + 1 + 1 + 1 + 1 + 1 + 1 + 1) = .inl (x_ca G 0, 16, .inl (fun _ => (0 : Int32))) := by rw [ec34]; exact (va_up_ne _ _ (by omega)).trans f33_t_1_1_1_1_1_1_1
  have f34_t_1_1_1_1_1_1_1_1 : c34 (t + 1 + 1 + 1 + 1 + 1 + 1 + 1 + 1) = .inl (x_ca G 0, 16, .inl (fun _ => (0 : Int32))) := by rw [ec34]; exact (va_up_ne _ _ (by omega)).trans f33_t_1_1_1_1_1_1_1_1
  have f34_t_1_1_1_1_1_1_1_1_1 : c34 (t + 1 + 1 + 1 + 1 + 1 + 1 + 1 + 1 + 1) = .inl (x_ca G 0, 1024, .inl (fun _ => (0 : Int32))) := by rw [ec34]; exact (va_up_ne _ _ (by omega)).trans f33_t_1_1_1_1_1_1_1_1_1
  have f34_t_1_1_1_1_1_1_1_1_1_1 : c34 (t + 1 + 1 + 1 + 1 + 1 + 1 + 1 + 1 + 1 + 1) = .inl (x_ca G 0, 16, .inl (fun _ => (0 : Int32))) := by rw [ec34]; exact (va_up_ne _ _ (by omega)).trans f33_t_1_1_1_1_1_1_1_1_1_1
  have f34_t_1_1_1_1_1_1_1_1_1_1_1 : c34 (t + 1 + 1 + 1 + 1 + 1 + 1 + 1 + 1 + 1 + 1 + 1) = .inl (x_ca G 0, 16, .inl (fun _ => (0 : Int32))) := by rw [ec34]; exact (va_up_ne _ _ (by omega)).trans f33_t_1_1_1_1_1_1_1_1_1_1_1
  have f34_t_1_1_1_1_1_1_1_1_1_1_1_1 : c34 (t + 1 + 1 + 1 + 1 + 1 + 1 + 1 + 1 + 1 + 1 + 1 + 1) = .inl (x_ca G 0, 32, .inl (fun _ => (0 : Int32))) := by rw [ec34]; exact (va_up_ne _ _ (by omega)).trans f33_t_1_1_1_1_1_1_1_1_1_1_1_1
  have f34_t_1_1_1_1_1_1_1_1_1_1_1_1_1 : c34 (t + 1 + 1 + 1 + 1 + 1 + 1 + 1 + 1 + 1 + 1 + 1 + 1 + 1) = .inl (x_ca G 4, 16, .inr (.inl (fun _ => (0 : Int64)))) := by rw [ec34]; exact (va_up_ne _ _ (by omega)).trans f33_t_1_1_1_1_1_1_1_1_1_1_1_1_1
  have f34_t_1_1_1_1_1_1_1_1_1_1_1_1_1_1 : c34 (t + 1 + 1 + 1 + 1 + 1 + 1 + 1 + 1 + 1 + 1 + 1 + 1 + 1 + 1) = .inl (x_ca G 0, 40, .inl (fun _ => (0 : Int32))) := by rw [ec34]; exact (va_up_ne _ _ (by omega)).trans f33_t_1_1_1_1_1_1_1_1_1_1_1_1_1_1
  have f34_t_1_1_1_1_1_1_1_1_1_1_1_1_1_1_1 : c34 (t + 1 + 1 + 1 + 1 + 1 + 1 + 1 + 1 + 1 + 1 + 1 + 1 + 1 + 1 + 1) = .inl (x_ca G 0, 16, .inl (fun _ => (0 : Int32))) := by rw [ec34]; exact (va_up_ne _ _ (by omega)).trans f33_t_1_1_1_1_1_1_1_1_1_1_1_1_1_1_1
  have f34_t_1_1_1_1_1_1_1_1_1_1_1_1_1_1_1_1 : c34 (t + 1 + 1 + 1 + 1 + 1 + 1 + 1 + 1 + 1 + 1 + 1 + 1 + 1 + 1 + 1 + 1) = .inl (x_ca G 0, 16, .inl (fun _ => (0 : Int32))) := by rw [ec34]; exact va_up_self _ _ _
  have g34 : ∀ j, j < t → j ≠ k → c34 j = c j := fun j h1 h2 => by rw [ec34]; exact (va_up_ne _ _ (by omega)).trans (g33 j h1 h2)
  clear f33_k f33_t f33_t_1 f33_t_1_1 f33_t_1_1_1 f33_t_1_1_1_1 f33_t_1_1_1_1_1 f33_t_1_1_1_1_1_1 f33_t_1_1_1_1_1_1_1 f33_t_1_1_1_1_1_1_1_1 f33_t_1_1_1_1_1_1_1_1_1 f33_t_1_1_1_1_1_1_1_1_1_1 f33_t_1_1_1_1_1_1_1_1_1_1_1 f33_t_1_1_1_1_1_1_1_1_1_1_1_1 f33_t_1_1_1_1_1_1_1_1_1_1_1_1_1 f33_t_1_1_1_1_1_1_1_1_1_1_1_1_1_1 f33_t_1_1_1_1_1_1_1_1_1_1_1_1_1_1_1 g33 ec34
  refine va_putF (D := x_D G) (ci := 5) (v := .ref q17) (ty := .array .int) (C := "ContentLibraryModel") (T := x_TM) (N := 31) hx hb hts x_inM x_tyM x_tyM_ok x_nmM hown hK hP hD hS k (y_at (by omega) a17_k f34_k) rfl 21 (by decide) (hts _ t_693) (fun _ h9 => h9) rfl hin rfl (by decide +kernel) rfl rfl (Nat.le_of_ble_eq_true rfl) d_M_init_145 (fun H locs hP hD hS => ?_)
  rw [y_set (by omega) a17_k] at hP hD
  obtain ⟨c35, ec35⟩ : ∃ c35, c35 = va_up c34 k (.inr (5, ([.int 0, .int 0, .ref q1, .int 0, .int (-1 : Int32), .ref q2, .ref q3, .ref q4, .ref q5, .ref q6, .ref q7, .ref q8, .ref q9, .ref q10, .ref q11, .ref q12, .ref q13, .ref q14, .ref q15, .int 0, .ref q16, .null, .null, .null, .null, .null, .null, .int 0, .null, .null, .null] : List Value).set 21 (.ref q17))) := ⟨_, rfl⟩
  rw [← ec35] at hP hD
  have f35_t : c35 t = .inl (x_ca G 0, 2560, .inl (fun _ => (0 : Int32))) := by rw [ec35]; exact (va_up_ne _ _ (by omega)).trans f34_t
  have f35_t_1 : c35 (t + 1) = .inl (x_ca G 1, 8, .inl (fun _ => (0 : Int32))) := by rw [ec35]; exact (va_up_ne _ _ (by omega)).trans f34_t_1
  have f35_t_1_1 : c35 (t + 1 + 1) = .inl (x_ca G 0, 8, .inl (fun _ => (0 : Int32))) := by rw [ec35]; exact (va_up_ne _ _ (by omega)).trans f34_t_1_1
  have f35_t_1_1_1 : c35 (t + 1 + 1 + 1) = .inl (x_ca G 0, 8, .inl (fun _ => (0 : Int32))) := by rw [ec35]; exact (va_up_ne _ _ (by omega)).trans f34_t_1_1_1
  have f35_t_1_1_1_1 : c35 (t + 1 + 1 + 1 + 1) = .inl (x_ca G 0, 8, .inl (fun _ => (0 : Int32))) := by rw [ec35]; exact (va_up_ne _ _ (by omega)).trans f34_t_1_1_1_1
  have f35_t_1_1_1_1_1 : c35 (t + 1 + 1 + 1 + 1 + 1) = .inl (x_ca G 0, 512, .inl (fun _ => (0 : Int32))) := by rw [ec35]; exact (va_up_ne _ _ (by omega)).trans f34_t_1_1_1_1_1
  have f35_t_1_1_1_1_1_1 : c35 (t + 1 + 1 + 1 + 1 + 1 + 1) = .inl (x_ca G 1, 16, .inl (fun _ => (0 : Int32))) := by rw [ec35]; exact (va_up_ne _ _ (by omega)).trans f34_t_1_1_1_1_1_1
  have f35_t_1_1_1_1_1_1_1 : c35 (t + 1 + 1 + 1 + 1 + 1 + 1 + 1) = .inl (x_ca G 0, 16, .inl (fun _ => (0 : Int32))) := by rw [ec35]; exact (va_up_ne _ _ (by omega)).trans f34_t_1_1_1_1_1_1_1
  have f35_t_1_1_1_1_1_1_1_1 : c35 (t + 1 + 1 + 1 + 1 + 1 + 1 + 1 + 1) = .inl (x_ca G 0, 16, .inl (fun _ => (0 : Int32))) := by rw [ec35]; exact (va_up_ne _ _ (by omega)).trans f34_t_1_1_1_1_1_1_1_1
  have f35_t_1_1_1_1_1_1_1_1_1 : c35 (t + 1 + 1 + 1 + 1 + 1 + 1 + 1 + 1 + 1) = .inl (x_ca G 0, 1024, .inl (fun _ => (0 : Int32))) := by rw [ec35]; exact (va_up_ne _ _ (by omega)).trans f34_t_1_1_1_1_1_1_1_1_1
  have f35_t_1_1_1_1_1_1_1_1_1_1 : c35 (t + 1 + 1 + 1 + 1 + 1 + 1 + 1 + 1 + 1 + 1) = .inl (x_ca G 0, 16, .inl (fun _ => (0 : Int32))) := by rw [ec35]; exact (va_up_ne _ _ (by omega)).trans f34_t_1_1_1_1_1_1_1_1_1_1
  have f35_t_1_1_1_1_1_1_1_1_1_1_1 : c35 (t + 1 + 1 + 1 + 1 + 1 + 1 + 1 + 1 + 1 + 1 + 1) = .inl (x_ca G 0, 16, .inl (fun _ => (0 : Int32))) := by rw [ec35]; exact (va_up_ne _ _ (by omega)).trans f34_t_1_1_1_1_1_1_1_1_1_1_1
  have f35_t_1_1_1_1_1_1_1_1_1_1_1_1 : c35 (t + 1 + 1 + 1 + 1 + 1 + 1 + 1 + 1 + 1 + 1 + 1 + 1) = .inl (x_ca G 0, 32, .inl (fun _ => (0 : Int32))) := by rw [ec35]; exact (va_up_ne _ _ (by omega)).trans f34_t_1_1_1_1_1_1_1_1_1_1_1_1
  have f35_t_1_1_1_1_1_1_1_1_1_1_1_1_1 : c35 (t + 1 + 1 + 1 + 1 + 1 + 1 + 1 + 1 + 1 + 1 + 1 + 1 + 1) = .inl (x_ca G 4, 16, .inr (.inl (fun _ => (0 : Int64)))) := by rw [ec35]; exact (va_up_ne _ _ (by omega)).trans f34_t_1_1_1_1_1_1_1_1_1_1_1_1_1
  have f35_t_1_1_1_1_1_1_1_1_1_1_1_1_1_1 : c35 (t + 1 + 1 + 1 + 1 + 1 + 1 + 1 + 1 + 1 + 1 + 1 + 1 + 1 + 1) = .inl (x_ca G 0, 40, .inl (fun _ => (0 : Int32))) := by rw [ec35]; exact (va_up_ne _ _ (by omega)).trans f34_t_1_1_1_1_1_1_1_1_1_1_1_1_1_1
  have f35_t_1_1_1_1_1_1_1_1_1_1_1_1_1_1_1 : c35 (t + 1 + 1 + 1 + 1 + 1 + 1 + 1 + 1 + 1 + 1 + 1 + 1 + 1 + 1 + 1) = .inl (x_ca G 0, 16, .inl (fun _ => (0 : Int32))) := by rw [ec35]; exact (va_up_ne _ _ (by omega)).trans f34_t_1_1_1_1_1_1_1_1_1_1_1_1_1_1_1
  have f35_t_1_1_1_1_1_1_1_1_1_1_1_1_1_1_1_1 : c35 (t + 1 + 1 + 1 + 1 + 1 + 1 + 1 + 1 + 1 + 1 + 1 + 1 + 1 + 1 + 1 + 1) = .inl (x_ca G 0, 16, .inl (fun _ => (0 : Int32))) := by rw [ec35]; exact (va_up_ne _ _ (by omega)).trans f34_t_1_1_1_1_1_1_1_1_1_1_1_1_1_1_1_1
  have f35_k : c35 k = .inr (5, [.int 0, .int 0, .ref q1, .int 0, .int (-1 : Int32), .ref q2, .ref q3, .ref q4, .ref q5, .ref q6, .ref q7, .ref q8, .ref q9, .ref q10, .ref q11, .ref q12, .ref q13, .ref q14, .ref q15, .int 0, .ref q16, .ref q17, .null, .null, .null, .null, .null, .int 0, .null, .null, .null]) := by rw [ec35]; exact va_up_self _ _ _
  have g35 : ∀ j, j < t → j ≠ k → c35 j = c j := fun j h1 h2 => by rw [ec35]; exact (va_up_ne _ _ (by omega)).trans (g34 j h1 h2)
  clear f34_k f34_t f34_t_1 f34_t_1_1 f34_t_1_1_1 f34_t_1_1_1_1 f34_t_1_1_1_1_1 f34_t_1_1_1_1_1_1 f34_t_1_1_1_1_1_1_1 f34_t_1_1_1_1_1_1_1_1 f34_t_1_1_1_1_1_1_1_1_1 f34_t_1_1_1_1_1_1_1_1_1_1 f34_t_1_1_1_1_1_1_1_1_1_1_1 f34_t_1_1_1_1_1_1_1_1_1_1_1_1 f34_t_1_1_1_1_1_1_1_1_1_1_1_1_1 f34_t_1_1_1_1_1_1_1_1_1_1_1_1_1_1 f34_t_1_1_1_1_1_1_1_1_1_1_1_1_1_1_1 f34_t_1_1_1_1_1_1_1_1_1_1_1_1_1_1_1_1 g34 ec35
  refine lv_aload_n hx hb d_M_init_148 rfl (lv_at hl 0 rfl) ?_
  refine lv_bipush (v := (64 : Int32)) hx hb d_M_init_149 (by decide) ?_
  refine va_newa (atype := .int) hx hb (hts _ t_58) (ty := .int) rfl hK hP hD hS hA (N' := 64) (a0 := (64, .inl (fun _ => (0 : Int32)))) (fun _ => rfl) (by decide) (by decide) (by decide) (Nat.le_of_ble_eq_true rfl) (Nat.le_of_ble_eq_true rfl) d_M_init_151 (fun q18 cA H hK2 hP hD hS => ?_)
  obtain rfl := y_caI hK2
  rw [y_push] at hP hD
  obtain ⟨ad18, ead18⟩ : ∃ a1, a1 = va_up ad17 (t + 1 + 1 + 1 + 1 + 1 + 1 + 1 + 1 + 1 + 1 + 1 + 1 + 1 + 1 + 1 + 1 + 1) q18 := ⟨_, rfl⟩
  rw [← ead18] at hP hD
  have a18_k : ad18 k = (ad k) := by rw [ead18]; exact (va_up_ne _ _ (by omega)).trans a17_k
  have a18_t : ad18 t = q1 := by rw [ead18]; exact (va_up_ne _ _ (by omega)).trans a17_t
  have a18_t_1 : ad18 (t + 1) = q2 := by rw [ead18]; exact (va_up_ne _ _ (by omega)).trans a17_t_1
  have a18_t_1_1 : ad18 (t + 1 + 1) = q3 := by rw [ead18]; exact (va_up_ne _ _ (by omega)).trans a17_t_1_1
  have a18_t_1_1_1 : ad18 (t + 1 + 1 + 1) = q4 := by rw [ead18]; exact (va_up_ne _ _ (by omega)).trans a17_t_1_1_1
  have a18_t_1_1_1_1 : ad18 (t + 1 + 1 + 1 + 1) = q5 := by rw [ead18]; exact (va_up_ne _ _ (by omega)).trans a17_t_1_1_1_1
  have a18_t_1_1_1_1_1 : ad18 (t + 1 + 1 + 1 + 1 + 1) = q6 := by rw [ead18]; exact (va_up_ne _ _ (by omega)).trans a17_t_1_1_1_1_1
  have a18_t_1_1_1_1_1_1 : ad18 (t + 1 + 1 + 1 + 1 + 1 + 1) = q7 := by rw [ead18]; exact (va_up_ne _ _ (by omega)).trans a17_t_1_1_1_1_1_1
  have a18_t_1_1_1_1_1_1_1 : ad18 (t + 1 + 1 + 1 + 1 + 1 + 1 + 1) = q8 := by rw [ead18]; exact (va_up_ne _ _ (by omega)).trans a17_t_1_1_1_1_1_1_1
  have a18_t_1_1_1_1_1_1_1_1 : ad18 (t + 1 + 1 + 1 + 1 + 1 + 1 + 1 + 1) = q9 := by rw [ead18]; exact (va_up_ne _ _ (by omega)).trans a17_t_1_1_1_1_1_1_1_1
  have a18_t_1_1_1_1_1_1_1_1_1 : ad18 (t + 1 + 1 + 1 + 1 + 1 + 1 + 1 + 1 + 1) = q10 := by rw [ead18]; exact (va_up_ne _ _ (by omega)).trans a17_t_1_1_1_1_1_1_1_1_1
  have a18_t_1_1_1_1_1_1_1_1_1_1 : ad18 (t + 1 + 1 + 1 + 1 + 1 + 1 + 1 + 1 + 1 + 1) = q11 := by rw [ead18]; exact (va_up_ne _ _ (by omega)).trans a17_t_1_1_1_1_1_1_1_1_1_1
  have a18_t_1_1_1_1_1_1_1_1_1_1_1 : ad18 (t + 1 + 1 + 1 + 1 + 1 + 1 + 1 + 1 + 1 + 1 + 1) = q12 := by rw [ead18]; exact (va_up_ne _ _ (by omega)).trans a17_t_1_1_1_1_1_1_1_1_1_1_1
  have a18_t_1_1_1_1_1_1_1_1_1_1_1_1 : ad18 (t + 1 + 1 + 1 + 1 + 1 + 1 + 1 + 1 + 1 + 1 + 1 + 1) = q13 := by rw [ead18]; exact (va_up_ne _ _ (by omega)).trans a17_t_1_1_1_1_1_1_1_1_1_1_1_1
  have a18_t_1_1_1_1_1_1_1_1_1_1_1_1_1 : ad18 (t + 1 + 1 + 1 + 1 + 1 + 1 + 1 + 1 + 1 + 1 + 1 + 1 + 1) = q14 := by rw [ead18]; exact (va_up_ne _ _ (by omega)).trans a17_t_1_1_1_1_1_1_1_1_1_1_1_1_1
  have a18_t_1_1_1_1_1_1_1_1_1_1_1_1_1_1 : ad18 (t + 1 + 1 + 1 + 1 + 1 + 1 + 1 + 1 + 1 + 1 + 1 + 1 + 1 + 1) = q15 := by rw [ead18]; exact (va_up_ne _ _ (by omega)).trans a17_t_1_1_1_1_1_1_1_1_1_1_1_1_1_1
  have a18_t_1_1_1_1_1_1_1_1_1_1_1_1_1_1_1 : ad18 (t + 1 + 1 + 1 + 1 + 1 + 1 + 1 + 1 + 1 + 1 + 1 + 1 + 1 + 1 + 1) = q16 := by rw [ead18]; exact (va_up_ne _ _ (by omega)).trans a17_t_1_1_1_1_1_1_1_1_1_1_1_1_1_1_1
  have a18_t_1_1_1_1_1_1_1_1_1_1_1_1_1_1_1_1 : ad18 (t + 1 + 1 + 1 + 1 + 1 + 1 + 1 + 1 + 1 + 1 + 1 + 1 + 1 + 1 + 1 + 1) = q17 := by rw [ead18]; exact (va_up_ne _ _ (by omega)).trans a17_t_1_1_1_1_1_1_1_1_1_1_1_1_1_1_1_1
  have a18_t_1_1_1_1_1_1_1_1_1_1_1_1_1_1_1_1_1 : ad18 (t + 1 + 1 + 1 + 1 + 1 + 1 + 1 + 1 + 1 + 1 + 1 + 1 + 1 + 1 + 1 + 1 + 1) = q18 := by rw [ead18]; exact va_up_self _ _ _
  have b18 : ∀ j, j < t → ad18 j = ad j := fun j h1 => by rw [ead18]; exact (va_up_ne _ _ (by omega)).trans (b17 j h1)
  clear a17_k a17_t a17_t_1 a17_t_1_1 a17_t_1_1_1 a17_t_1_1_1_1 a17_t_1_1_1_1_1 a17_t_1_1_1_1_1_1 a17_t_1_1_1_1_1_1_1 a17_t_1_1_1_1_1_1_1_1 a17_t_1_1_1_1_1_1_1_1_1 a17_t_1_1_1_1_1_1_1_1_1_1 a17_t_1_1_1_1_1_1_1_1_1_1_1 a17_t_1_1_1_1_1_1_1_1_1_1_1_1 a17_t_1_1_1_1_1_1_1_1_1_1_1_1_1 a17_t_1_1_1_1_1_1_1_1_1_1_1_1_1_1 a17_t_1_1_1_1_1_1_1_1_1_1_1_1_1_1_1 a17_t_1_1_1_1_1_1_1_1_1_1_1_1_1_1_1_1 b17 ead18
  obtain ⟨c36, ec36⟩ : ∃ c36, c36 = va_up c35 (t + 1 + 1 + 1 + 1 + 1 + 1 + 1 + 1 + 1 + 1 + 1 + 1 + 1 + 1 + 1 + 1 + 1) (.inl (x_ca G 0, 64, .inl (fun _ => (0 : Int32)))) := ⟨_, rfl⟩
  rw [← ec36] at hP hD
  have f36_k : c36 k = .inr (5, [.int 0, .int 0, .ref q1, .int 0, .int (-1 : Int32), .ref q2, .ref q3, .ref q4, .ref q5, .ref q6, .ref q7, .ref q8, .ref q9, .ref q10, .ref q11, .ref q12, .ref q13, .ref q14, .ref q15, .int 0, .ref q16, .ref q17, .null, .null, .null, .null, .null, .int 0, .null, .null, .null]) := by rw [ec36]; exact (va_up_ne _ _ (by omega)).trans f35_k
  have f36_t : c36 t = .inl (x_ca G 0, 2560, .inl (fun _ => (0 : Int32))) := by rw [ec36]; exact (va_up_ne _ _ (by omega)).trans f35_t
  have f36_t_1 : c36 (t + 1) = .inl (x_ca G 1, 8, .inl (fun _ => (0 : Int32))) := by rw [ec36]; exact (va_up_ne _ _ (by omega)).trans f35_t_1
  have f36_t_1_1 : c36 (t + 1 + 1) = .inl (x_ca G 0, 8, .inl (fun _ => (0 : Int32))) := by rw [ec36]; exact (va_up_ne _ _ (by omega)).trans f35_t_1_1
  have f36_t_1_1_1 : c36 (t + 1 + 1 + 1) = .inl (x_ca G 0, 8, .inl (fun _ => (0 : Int32))) := by rw [ec36]; exact (va_up_ne _ _ (by omega)).trans f35_t_1_1_1
  have f36_t_1_1_1_1 : c36 (t + 1 + 1 + 1 + 1) = .inl (x_ca G 0, 8, .inl (fun _ => (0 : Int32))) := by rw [ec36]; exact (va_up_ne _ _ (by omega)).trans f35_t_1_1_1_1
  have f36_t_1_1_1_1_1 : c36 (t + 1 + 1 + 1 + 1 + 1) = .inl (x_ca G 0, 512, .inl (fun _ => (0 : Int32))) := by rw [ec36]; exact (va_up_ne _ _ (by omega)).trans f35_t_1_1_1_1_1
  have f36_t_1_1_1_1_1_1 : c36 (t + 1 + 1 + 1 + 1 + 1 + 1) = .inl (x_ca G 1, 16, .inl (fun _ => (0 : Int32))) := by rw [ec36]; exact (va_up_ne _ _ (by omega)).trans f35_t_1_1_1_1_1_1
  have f36_t_1_1_1_1_1_1_1 : c36 (t + 1 + 1 + 1 + 1 + 1 + 1 + 1) = .inl (x_ca G 0, 16, .inl (fun _ => (0 : Int32))) := by rw [ec36]; exact (va_up_ne _ _ (by omega)).trans f35_t_1_1_1_1_1_1_1
  have f36_t_1_1_1_1_1_1_1_1 : c36 (t + 1 + 1 + 1 + 1 + 1 + 1 + 1 + 1) = .inl (x_ca G 0, 16, .inl (fun _ => (0 : Int32))) := by rw [ec36]; exact (va_up_ne _ _ (by omega)).trans f35_t_1_1_1_1_1_1_1_1
  have f36_t_1_1_1_1_1_1_1_1_1 : c36 (t + 1 + 1 + 1 + 1 + 1 + 1 + 1 + 1 + 1) = .inl (x_ca G 0, 1024, .inl (fun _ => (0 : Int32))) := by rw [ec36]; exact (va_up_ne _ _ (by omega)).trans f35_t_1_1_1_1_1_1_1_1_1
  have f36_t_1_1_1_1_1_1_1_1_1_1 : c36 (t + 1 + 1 + 1 + 1 + 1 + 1 + 1 + 1 + 1 + 1) = .inl (x_ca G 0, 16, .inl (fun _ => (0 : Int32))) := by rw [ec36]; exact (va_up_ne _ _ (by omega)).trans f35_t_1_1_1_1_1_1_1_1_1_1
  have f36_t_1_1_1_1_1_1_1_1_1_1_1 : c36 (t + 1 + 1 + 1 + 1 + 1 + 1 + 1 + 1 + 1 + 1 + 1) = .inl (x_ca G 0, 16, .inl (fun _ => (0 : Int32))) := by rw [ec36]; exact (va_up_ne _ _ (by omega)).trans f35_t_1_1_1_1_1_1_1_1_1_1_1
  have f36_t_1_1_1_1_1_1_1_1_1_1_1_1 : c36 (t + 1 + 1 + 1 + 1 + 1 + 1 + 1 + 1 + 1 + 1 + 1 + 1) = .inl (x_ca G 0, 32, .inl (fun _ => (0 : Int32))) := by rw [ec36]; exact (va_up_ne _ _ (by omega)).trans f35_t_1_1_1_1_1_1_1_1_1_1_1_1
  have f36_t_1_1_1_1_1_1_1_1_1_1_1_1_1 : c36 (t + 1 + 1 + 1 + 1 + 1 + 1 + 1 + 1 + 1 + 1 + 1 + 1 + 1) = .inl (x_ca G 4, 16, .inr (.inl (fun _ => (0 : Int64)))) := by rw [ec36]; exact (va_up_ne _ _ (by omega)).trans f35_t_1_1_1_1_1_1_1_1_1_1_1_1_1
  have f36_t_1_1_1_1_1_1_1_1_1_1_1_1_1_1 : c36 (t + 1 + 1 + 1 + 1 + 1 + 1 + 1 + 1 + 1 + 1 + 1 + 1 + 1 + 1) = .inl (x_ca G 0, 40, .inl (fun _ => (0 : Int32))) := by rw [ec36]; exact (va_up_ne _ _ (by omega)).trans f35_t_1_1_1_1_1_1_1_1_1_1_1_1_1_1
  have f36_t_1_1_1_1_1_1_1_1_1_1_1_1_1_1_1 : c36 (t + 1 + 1 + 1 + 1 + 1 + 1 + 1 + 1 + 1 + 1 + 1 + 1 + 1 + 1 + 1) = .inl (x_ca G 0, 16, .inl (fun _ => (0 : Int32))) := by rw [ec36]; exact (va_up_ne _ _ (by omega)).trans f35_t_1_1_1_1_1_1_1_1_1_1_1_1_1_1_1
  have f36_t_1_1_1_1_1_1_1_1_1_1_1_1_1_1_1_1 : c36 (t + 1 + 1 + 1 + 1 + 1 + 1 + 1 + 1 + 1 + 1 + 1 + 1 + 1 + 1 + 1 + 1) = .inl (x_ca G 0, 16, .inl (fun _ => (0 : Int32))) := by rw [ec36]; exact (va_up_ne _ _ (by omega)).trans f35_t_1_1_1_1_1_1_1_1_1_1_1_1_1_1_1_1
  have f36_t_1_1_1_1_1_1_1_1_1_1_1_1_1_1_1_1_1 : c36 (t + 1 + 1 + 1 + 1 + 1 + 1 + 1 + 1 + 1 + 1 + 1 + 1 + 1 + 1 + 1 + 1 + 1) = .inl (x_ca G 0, 64, .inl (fun _ => (0 : Int32))) := by rw [ec36]; exact va_up_self _ _ _
  have g36 : ∀ j, j < t → j ≠ k → c36 j = c j := fun j h1 h2 => by rw [ec36]; exact (va_up_ne _ _ (by omega)).trans (g35 j h1 h2)
  clear f35_k f35_t f35_t_1 f35_t_1_1 f35_t_1_1_1 f35_t_1_1_1_1 f35_t_1_1_1_1_1 f35_t_1_1_1_1_1_1 f35_t_1_1_1_1_1_1_1 f35_t_1_1_1_1_1_1_1_1 f35_t_1_1_1_1_1_1_1_1_1 f35_t_1_1_1_1_1_1_1_1_1_1 f35_t_1_1_1_1_1_1_1_1_1_1_1 f35_t_1_1_1_1_1_1_1_1_1_1_1_1 f35_t_1_1_1_1_1_1_1_1_1_1_1_1_1 f35_t_1_1_1_1_1_1_1_1_1_1_1_1_1_1 f35_t_1_1_1_1_1_1_1_1_1_1_1_1_1_1_1 f35_t_1_1_1_1_1_1_1_1_1_1_1_1_1_1_1_1 g35 ec36
  refine va_putF (D := x_D G) (ci := 5) (v := .ref q18) (ty := .array .int) (C := "ContentLibraryModel") (T := x_TM) (N := 31) hx hb hts x_inM x_tyM x_tyM_ok x_nmM hown hK hP hD hS k (y_at (by omega) a18_k f36_k) rfl 22 (by decide) (hts _ t_694) (fun _ h9 => h9) rfl hin rfl (by decide +kernel) rfl rfl (Nat.le_of_ble_eq_true rfl) d_M_init_153 (fun H locs hP hD hS => ?_)
  rw [y_set (by omega) a18_k] at hP hD
  obtain ⟨c37, ec37⟩ : ∃ c37, c37 = va_up c36 k (.inr (5, ([.int 0, .int 0, .ref q1, .int 0, .int (-1 : Int32), .ref q2, .ref q3, .ref q4, .ref q5, .ref q6, .ref q7, .ref q8, .ref q9, .ref q10, .ref q11, .ref q12, .ref q13, .ref q14, .ref q15, .int 0, .ref q16, .ref q17, .null, .null, .null, .null, .null, .int 0, .null, .null, .null] : List Value).set 22 (.ref q18))) := ⟨_, rfl⟩
  rw [← ec37] at hP hD
  have f37_t : c37 t = .inl (x_ca G 0, 2560, .inl (fun _ => (0 : Int32))) := by rw [ec37]; exact (va_up_ne _ _ (by omega)).trans f36_t
  have f37_t_1 : c37 (t + 1) = .inl (x_ca G 1, 8, .inl (fun _ => (0 : Int32))) := by rw [ec37]; exact (va_up_ne _ _ (by omega)).trans f36_t_1
  have f37_t_1_1 : c37 (t + 1 + 1) = .inl (x_ca G 0, 8, .inl (fun _ => (0 : Int32))) := by rw [ec37]; exact (va_up_ne _ _ (by omega)).trans f36_t_1_1
  have f37_t_1_1_1 : c37 (t + 1 + 1 + 1) = .inl (x_ca G 0, 8, .inl (fun _ => (0 : Int32))) := by rw [ec37]; exact (va_up_ne _ _ (by omega)).trans f36_t_1_1_1
  have f37_t_1_1_1_1 : c37 (t + 1 + 1 + 1 + 1) = .inl (x_ca G 0, 8, .inl (fun _ => (0 : Int32))) := by rw [ec37]; exact (va_up_ne _ _ (by omega)).trans f36_t_1_1_1_1
  have f37_t_1_1_1_1_1 : c37 (t + 1 + 1 + 1 + 1 + 1) = .inl (x_ca G 0, 512, .inl (fun _ => (0 : Int32))) := by rw [ec37]; exact (va_up_ne _ _ (by omega)).trans f36_t_1_1_1_1_1
  have f37_t_1_1_1_1_1_1 : c37 (t + 1 + 1 + 1 + 1 + 1 + 1) = .inl (x_ca G 1, 16, .inl (fun _ => (0 : Int32))) := by rw [ec37]; exact (va_up_ne _ _ (by omega)).trans f36_t_1_1_1_1_1_1
  have f37_t_1_1_1_1_1_1_1 : c37 (t + 1 + 1 + 1 + 1 + 1 + 1 + 1) = .inl (x_ca G 0, 16, .inl (fun _ => (0 : Int32))) := by rw [ec37]; exact (va_up_ne _ _ (by omega)).trans f36_t_1_1_1_1_1_1_1
  have f37_t_1_1_1_1_1_1_1_1 : c37 (t + 1 + 1 + 1 + 1 + 1 + 1 + 1 + 1) = .inl (x_ca G 0, 16, .inl (fun _ => (0 : Int32))) := by rw [ec37]; exact (va_up_ne _ _ (by omega)).trans f36_t_1_1_1_1_1_1_1_1
  have f37_t_1_1_1_1_1_1_1_1_1 : c37 (t + 1 + 1 + 1 + 1 + 1 + 1 + 1 + 1 + 1) = .inl (x_ca G 0, 1024, .inl (fun _ => (0 : Int32))) := by rw [ec37]; exact (va_up_ne _ _ (by omega)).trans f36_t_1_1_1_1_1_1_1_1_1
  have f37_t_1_1_1_1_1_1_1_1_1_1 : c37 (t + 1 + 1 + 1 + 1 + 1 + 1 + 1 + 1 + 1 + 1) = .inl (x_ca G 0, 16, .inl (fun _ => (0 : Int32))) := by rw [ec37]; exact (va_up_ne _ _ (by omega)).trans f36_t_1_1_1_1_1_1_1_1_1_1
  have f37_t_1_1_1_1_1_1_1_1_1_1_1 : c37 (t + 1 + 1 + 1 + 1 + 1 + 1 + 1 + 1 + 1 + 1 + 1) = .inl (x_ca G 0, 16, .inl (fun _ => (0 : Int32))) := by rw [ec37]; exact (va_up_ne _ _ (by omega)).trans f36_t_1_1_1_1_1_1_1_1_1_1_1
  have f37_t_1_1_1_1_1_1_1_1_1_1_1_1 : c37 (t + 1 + 1 + 1 + 1 + 1 + 1 + 1 + 1 + 1 + 1 + 1 + 1) = .inl (x_ca G 0, 32, .inl (fun _ => (0 : Int32))) := by rw [ec37]; exact (va_up_ne _ _ (by omega)).trans f36_t_1_1_1_1_1_1_1_1_1_1_1_1
  have f37_t_1_1_1_1_1_1_1_1_1_1_1_1_1 : c37 (t + 1 + 1 + 1 + 1 + 1 + 1 + 1 + 1 + 1 + 1 + 1 + 1 + 1) = .inl (x_ca G 4, 16, .inr (.inl (fun _ => (0 : Int64)))) := by rw [ec37]; exact (va_up_ne _ _ (by omega)).trans f36_t_1_1_1_1_1_1_1_1_1_1_1_1_1
  have f37_t_1_1_1_1_1_1_1_1_1_1_1_1_1_1 : c37 (t + 1 + 1 + 1 + 1 + 1 + 1 + 1 + 1 + 1 + 1 + 1 + 1 + 1 + 1) = .inl (x_ca G 0, 40, .inl (fun _ => (0 : Int32))) := by rw [ec37]; exact (va_up_ne _ _ (by omega)).trans f36_t_1_1_1_1_1_1_1_1_1_1_1_1_1_1
  have f37_t_1_1_1_1_1_1_1_1_1_1_1_1_1_1_1 : c37 (t + 1 + 1 + 1 + 1 + 1 + 1 + 1 + 1 + 1 + 1 + 1 + 1 + 1 + 1 + 1) = .inl (x_ca G 0, 16, .inl (fun _ => (0 : Int32))) := by rw [ec37]; exact (va_up_ne _ _ (by omega)).trans f36_t_1_1_1_1_1_1_1_1_1_1_1_1_1_1_1
  have f37_t_1_1_1_1_1_1_1_1_1_1_1_1_1_1_1_1 : c37 (t + 1 + 1 + 1 + 1 + 1 + 1 + 1 + 1 + 1 + 1 + 1 + 1 + 1 + 1 + 1 + 1) = .inl (x_ca G 0, 16, .inl (fun _ => (0 : Int32))) := by rw [ec37]; exact (va_up_ne _ _ (by omega)).trans f36_t_1_1_1_1_1_1_1_1_1_1_1_1_1_1_1_1
  have f37_t_1_1_1_1_1_1_1_1_1_1_1_1_1_1_1_1_1 : c37 (t + 1 + 1 + 1 + 1 + 1 + 1 + 1 + 1 + 1 + 1 + 1 + 1 + 1 + 1 + 1 + 1 + 1) = .inl (x_ca G 0, 64, .inl (fun _ => (0 : Int32))) := by rw [ec37]; exact (va_up_ne _ _ (by omega)).trans f36_t_1_1_1_1_1_1_1_1_1_1_1_1_1_1_1_1_1
  have f37_k : c37 k = .inr (5, [.int 0, .int 0, .ref q1, .int 0, .int (-1 : Int32), .ref q2, .ref q3, .ref q4, .ref q5, .ref q6, .ref q7, .ref q8, .ref q9, .ref q10, .ref q11, .ref q12, .ref q13, .ref q14, .ref q15, .int 0, .ref q16, .ref q17, .ref q18, .null, .null, .null, .null, .int 0, .null, .null, .null]) := by rw [ec37]; exact va_up_self _ _ _
  have g37 : ∀ j, j < t → j ≠ k → c37 j = c j := fun j h1 h2 => by rw [ec37]; exact (va_up_ne _ _ (by omega)).trans (g36 j h1 h2)
  clear f36_k f36_t f36_t_1 f36_t_1_1 f36_t_1_1_1 f36_t_1_1_1_1 f36_t_1_1_1_1_1 f36_t_1_1_1_1_1_1 f36_t_1_1_1_1_1_1_1 f36_t_1_1_1_1_1_1_1_1 f36_t_1_1_1_1_1_1_1_1_1 f36_t_1_1_1_1_1_1_1_1_1_1 f36_t_1_1_1_1_1_1_1_1_1_1_1 f36_t_1_1_1_1_1_1_1_1_1_1_1_1 f36_t_1_1_1_1_1_1_1_1_1_1_1_1_1 f36_t_1_1_1_1_1_1_1_1_1_1_1_1_1_1 f36_t_1_1_1_1_1_1_1_1_1_1_1_1_1_1_1 f36_t_1_1_1_1_1_1_1_1_1_1_1_1_1_1_1_1 f36_t_1_1_1_1_1_1_1_1_1_1_1_1_1_1_1_1_1 g36 ec37
  refine lv_aload_n hx hb d_M_init_156 rfl (lv_at hl 0 rfl) ?_
  refine lv_bipush (v := (8 : Int32)) hx hb d_M_init_157 (by decide) ?_
  refine va_newa (atype := .int) hx hb (hts _ t_58) (ty := .int) rfl hK hP hD hS hA (N' := 8) (a0 := (8, .inl (fun _ => (0 : Int32)))) (fun _ => rfl) (by decide) (by decide) (by decide) (Nat.le_of_ble_eq_true rfl) (Nat.le_of_ble_eq_true rfl) d_M_init_159 (fun q19 cA H hK2 hP hD hS => ?_)
  obtain rfl := y_caI hK2
  rw [y_push] at hP hD
  obtain ⟨ad19, ead19⟩ : ∃ a1, a1 = va_up ad18 (t + 1 + 1 + 1 + 1 + 1 + 1 + 1 + 1 + 1 + 1 + 1 + 1 + 1 + 1 + 1 + 1 + 1 + 1) q19 := ⟨_, rfl⟩
  rw [← ead19] at hP hD
  have a19_k : ad19 k = (ad k) := by rw [ead19]; exact (va_up_ne _ _ (by omega)).trans a18_k
  have a19_t : ad19 t = q1 := by rw [ead19]; exact (va_up_ne _ _ (by omega)).trans a18_t
  have a19_t_1 : ad19 (t + 1) = q2 := by rw [ead19]; exact (va_up_ne _ _ (by omega)).trans a18_t_1
  have a19_t_1_1 : ad19 (t + 1 + 1) = q3 := by rw [ead19]; exact (va_up_ne _ _ (by omega)).trans a18_t_1_1
  have a19_t_1_1_1 : ad19 (t + 1 + 1 + 1) = q4 := by rw [ead19]; exact (va_up_ne _ _ (by omega)).trans a18_t_1_1_1
  have a19_t_1_1_1_1 : ad19 (t + 1 + 1 + 1 + 1) = q5 := by rw [ead19]; exact (va_up_ne _ _ (by omega)).trans a18_t_1_1_1_1
  have a19_t_1_1_1_1_1 : ad19 (t + 1 + 1 + 1 + 1 + 1) = q6 := by rw [ead19]; exact (va_up_ne _ _ (by omega)).trans a18_t_1_1_1_1_1
  have a19_t_1_1_1_1_1_1 : ad19 (t + 1 + 1 + 1 + 1 + 1 + 1) = q7 := by rw [ead19]; exact (va_up_ne _ _ (by omega)).trans a18_t_1_1_1_1_1_1
  have a19_t_1_1_1_1_1_1_1 : ad19 (t + 1 + 1 + 1 + 1 + 1 + 1 + 1) = q8 := by rw [ead19]; exact (va_up_ne _ _ (by omega)).trans a18_t_1_1_1_1_1_1_1
  have a19_t_1_1_1_1_1_1_1_1 : ad19 (t + 1 + 1 + 1 + 1 + 1 + 1 + 1 + 1) = q9 := by rw [ead19]; exact (va_up_ne _ _ (by omega)).trans a18_t_1_1_1_1_1_1_1_1
  have a19_t_1_1_1_1_1_1_1_1_1 : ad19 (t + 1 + 1 + 1 + 1 + 1 + 1 + 1 + 1 + 1) = q10 := by rw [ead19]; exact (va_up_ne _ _ (by omega)).trans a18_t_1_1_1_1_1_1_1_1_1
  have a19_t_1_1_1_1_1_1_1_1_1_1 : ad19 (t + 1 + 1 + 1 + 1 + 1 + 1 + 1 + 1 + 1 + 1) = q11 := by rw [ead19]; exact (va_up_ne _ _ (by omega)).trans a18_t_1_1_1_1_1_1_1_1_1_1
  have a19_t_1_1_1_1_1_1_1_1_1_1_1 : ad19 (t + 1 + 1 + 1 + 1 + 1 + 1 + 1 + 1 + 1 + 1 + 1) = q12 := by rw [ead19]; exact (va_up_ne _ _ (by omega)).trans a18_t_1_1_1_1_1_1_1_1_1_1_1
  have a19_t_1_1_1_1_1_1_1_1_1_1_1_1 : ad19 (t + 1 + 1 + 1 + 1 + 1 + 1 + 1 + 1 + 1 + 1 + 1 + 1) = q13 := by rw [ead19]; exact (va_up_ne _ _ (by omega)).trans a18_t_1_1_1_1_1_1_1_1_1_1_1_1
  have a19_t_1_1_1_1_1_1_1_1_1_1_1_1_1 : ad19 (t + 1 + 1 + 1 + 1 + 1 + 1 + 1 + 1 + 1 + 1 + 1 + 1 + 1) = q14 := by rw [ead19]; exact (va_up_ne _ _ (by omega)).trans a18_t_1_1_1_1_1_1_1_1_1_1_1_1_1
  have a19_t_1_1_1_1_1_1_1_1_1_1_1_1_1_1 : ad19 (t + 1 + 1 + 1 + 1 + 1 + 1 + 1 + 1 + 1 + 1 + 1 + 1 + 1 + 1) = q15 := by rw [ead19]; exact (va_up_ne _ _ (by omega)).trans a18_t_1_1_1_1_1_1_1_1_1_1_1_1_1_1
  have a19_t_1_1_1_1_1_1_1_1_1_1_1_1_1_1_1 : ad19 (t + 1 + 1 + 1 + 1 + 1 + 1 + 1 + 1 + 1 + 1 + 1 + 1 + 1 + 1 + 1) = q16 := by rw [ead19]; exact (va_up_ne _ _ (by omega)).trans a18_t_1_1_1_1_1_1_1_1_1_1_1_1_1_1_1
  have a19_t_1_1_1_1_1_1_1_1_1_1_1_1_1_1_1_1 : ad19 (t + 1 + 1 + 1 + 1 + 1 + 1 + 1 + 1 + 1 + 1 + 1 + 1 + 1 + 1 + 1 + 1) = q17 := by rw [ead19]; exact (va_up_ne _ _ (by omega)).trans a18_t_1_1_1_1_1_1_1_1_1_1_1_1_1_1_1_1
  have a19_t_1_1_1_1_1_1_1_1_1_1_1_1_1_1_1_1_1 : ad19 (t + 1 + 1 + 1 + 1 + 1 + 1 + 1 + 1 + 1 + 1 + 1 + 1 + 1 + 1 + 1 + 1 + 1) = q18 := by rw [ead19]; exact (va_up_ne _ _ (by omega)).trans a18_t_1_1_1_1_1_1_1_1_1_1_1_1_1_1_1_1_1
  have a19_t_1_1_1_1_1_1_1_1_1_1_1_1_1_1_1_1_1_1 : ad19 (t + 1 + 1 + 1 + 1 + 1 + 1 + 1 + 1 + 1 + 1 + 1 + 1 + 1 + 1 + 1 + 1 + 1 + 1) = q19 := by rw [ead19]; exact va_up_self _ _ _
  have b19 : ∀ j, j < t → ad19 j = ad j := fun j h1 => by rw [ead19]; exact (va_up_ne _ _ (by omega)).trans (b18 j h1)
  clear a18_k a18_t a18_t_1 a18_t_1_1 a18_t_1_1_1 a18_t_1_1_1_1 a18_t_1_1_1_1_1 a18_t_1_1_1_1_1_1 a18_t_1_1_1_1_1_1_1 a18_t_1_1_1_1_1_1_1_1 a18_t_1_1_1_1_1_1_1_1_1 a18_t_1_1_1_1_1_1_1_1_1_1 a18_t_1_1_1_1_1_1_1_1_1_1_1 a18_t_1_1_1_1_1_1_1_1_1_1_1_1 a18_t_1_1_1_1_1_1_1_1_1_1_1_1_1 a18_t_1_1_1_1_1_1_1_1_1_1_1_1_1_1 a18_t_1_1_1_1_1_1_1_1_1_1_1_1_1_1_1 a18_t_1_1_1_1_1_1_1_1_1_1_1_1_1_1_1_1 a18_t_1_1_1_1_1_1_1_1_1_1_1_1_1_1_1_1_1 b18 ead19
  obtain ⟨c38, ec38⟩ : ∃ c38, c38 = va_up c37 (t + 1 + 1 + 1 + 1 + 1 + 1 + 1 + 1 + 1 + 1 + 1 + 1 + 1 + 1 + 1 + 1 + 1 + 1) (.inl (x_ca G 0, 8, .inl (fun _ => (0 : Int32)))) := ⟨_, rfl⟩
  rw [← ec38] at hP hD
  have f38_k : c38 k = .inr (5, [.int 0, .int 0, .ref q1, .int 0, .int (-1 : Int32), .ref q2, .ref q3, .ref q4, .ref q5, .ref q6, .ref q7, .ref q8, .ref q9, .ref q10, .ref q11, .ref q12, .ref q13, .ref q14, .ref q15, .int 0, .ref q16, .ref q17, .ref q18, .null, .null, .null, .null, .int 0, .null, .null, .null]) := by rw [ec38]; exact (va_up_ne _ _ (by omega)).trans f37_k
  have f38_t : c38 t = .inl (x_ca G 0, 2560, .inl (fun _ => (0 : Int32))) := by rw [ec38]; exact (va_up_ne _ _ (by omega)).trans f37_t
  have f38_t_1 : c38 (t + 1) = .inl (x_ca G 1, 8, .inl (fun _ => (0 : Int32))) := by rw [ec38]; exact (va_up_ne _ _ (by omega)).trans f37_t_1
  have f38_t_1_1 : c38 (t + 1 + 1) = .inl (x_ca G 0, 8, .inl (fun _ => (0 : Int32))) := by rw [ec38]; exact (va_up_ne _ _ (by omega)).trans f37_t_1_1
  have f38_t_1_1_1 : c38 (t + 1 + 1 + 1) = .inl (x_ca G 0, 8, .inl (fun _ => (0 : Int32))) := by rw [ec38]; exact (va_up_ne _ _ (by omega)).trans f37_t_1_1_1
  have f38_t_1_1_1_1 : c38 (t + 1 + 1 + 1 + 1) = .inl (x_ca G 0, 8, .inl (fun _ => (0 : Int32))) := by rw [ec38]; exact (va_up_ne _ _ (by omega)).trans f37_t_1_1_1_1
  have f38_t_1_1_1_1_1 : c38 (t + 1 + 1 + 1 + 1 + 1) = .inl (x_ca G 0, 512, .inl (fun _ => (0 : Int32))) := by rw [ec38]; exact (va_up_ne _ _ (by omega)).trans f37_t_1_1_1_1_1
  have f38_t_1_1_1_1_1_1 : c38 (t + 1 + 1 + 1 + 1 + 1 + 1) = .inl (x_ca G 1, 16, .inl (fun _ => (0 : Int32))) := by rw [ec38]; exact (va_up_ne _ _ (by omega)).trans f37_t_1_1_1_1_1_1
  have f38_t_1_1_1_1_1_1_1 : c38 (t + 1 + 1 + 1 + 1 + 1 + 1 + 1) = .inl (x_ca G 0, 16, .inl (fun _ => (0 : Int32))) := by rw [ec38]; exact (va_up_ne _ _ (by omega)).trans f37_t_1_1_1_1_1_1_1
  have f38_t_1_1_1_1_1_1_1_1 : c38 (t + 1 + 1 + 1 + 1 + 1 + 1 + 1 + 1) = .inl (x_ca G 0, 16, .inl (fun _ => (0 : Int32))) := by rw [ec38]; exact (va_up_ne _ _ (by omega)).trans f37_t_1_1_1_1_1_1_1_1
  have f38_t_1_1_1_1_1_1_1_1_1 : c38 (t + 1 + 1 + 1 + 1 + 1 + 1 + 1 + 1 + 1) = .inl (x_ca G 0, 1024, .inl (fun _ => (0 : Int32))) := by rw [ec38]; exact (va_up_ne _ _ (by omega)).trans f37_t_1_1_1_1_1_1_1_1_1
  have f38_t_1_1_1_1_1_1_1_1_1_1 : c38 (t + 1 + 1 + 1 + 1 + 1 + 1 + 1 + 1 + 1 + 1) = .inl (x_ca G 0, 16, .inl (fun _ => (0 : Int32))) := by rw [ec38]; exact (va_up_ne _ _ (by omega)).trans f37_t_1_1_1_1_1_1_1_1_1_1
  have f38_t_1_1_1_1_1_1_1_1_1_1_1 : c38 (t + 1 + 1 + 1 + 1 + 1 + 1 + 1 + 1 + 1 + 1 + 1) = .inl (x_ca G 0, 16, .inl (fun _ => (0 : Int32))) := by rw [ec38]; exact (va_up_ne _ _ (by omega)).trans f37_t_1_1_1_1_1_1_1_1_1_1_1
  have f38_t_1_1_1_1_1_1_1_1_1_1_1_1 : c38 (t + 1 + 1 + 1 + 1 + 1 + 1 + 1 + 1 + 1 + 1 + 1 + 1) = .inl (x_ca G 0, 32, .inl (fun _ => (0 : Int32))) := by rw [ec38]; exact (va_up_ne _ _ (by omega)).trans f37_t_1_1_1_1_1_1_1_1_1_1_1_1
  have f38_t_1_1_1_1_1_1_1_1_1_1_1_1_1 : c38 (t + 1 + 1 + 1 + 1 + 1 + 1 + 1 + 1 + 1 + 1 + 1 + 1 + 1) = .inl (x_ca G 4, 16, .inr (.inl (fun _ => (0 : Int64)))) := by rw [ec38]; exact (va_up_ne _ _ (by omega)).trans f37_t_1_1_1_1_1_1_1_1_1_1_1_1_1
  have f38_t_1_1_1_1_1_1_1_1_1_1_1_1_1_1 : c38 (t + 1 + 1 + 1 + 1 + 1 + 1 + 1 + 1 + 1 + 1 + 1 + 1 + 1 + 1) = .inl (x_ca G 0, 40, .inl (fun _ => (0 : Int32))) := by rw [ec38]; exact (va_up_ne _ _ (by omega)).trans f37_t_1_1_1_1_1_1_1_1_1_1_1_1_1_1
  have f38_t_1_1_1_1_1_1_1_1_1_1_1_1_1_1_1 : c38 (t + 1 + 1 + 1 + 1 + 1 + 1 + 1 + 1 + 1 + 1 + 1 + 1 + 1 + 1 + 1) = .inl (x_ca G 0, 16, .inl (fun _ => (0 : Int32))) := by rw [ec38]; exact (va_up_ne _ _ (by omega)).trans f37_t_1_1_1_1_1_1_1_1_1_1_1_1_1_1_1
  have f38_t_1_1_1_1_1_1_1_1_1_1_1_1_1_1_1_1 : c38 (t + 1 + 1 + 1 + 1 + 1 + 1 + 1 + 1 + 1 + 1 + 1 + 1 + 1 + 1 + 1 + 1) = .inl (x_ca G 0, 16, .inl (fun _ => (0 : Int32))) := by rw [ec38]; exact (va_up_ne _ _ (by omega)).trans f37_t_1_1_1_1_1_1_1_1_1_1_1_1_1_1_1_1
  have f38_t_1_1_1_1_1_1_1_1_1_1_1_1_1_1_1_1_1 : c38 (t + 1 + 1 + 1 + 1 + 1 + 1 + 1 + 1 + 1 + 1 + 1 + 1 + 1 + 1 + 1 + 1 + 1) = .inl (x_ca G 0, 64, .inl (fun _ => (0 : Int32))) := by rw [ec38]; exact (va_up_ne _ _ (by omega)).trans f37_t_1_1_1_1_1_1_1_1_1_1_1_1_1_1_1_1_1
  have f38_t_1_1_1_1_1_1_1_1_1_1_1_1_1_1_1_1_1_1 : c38 (t + 1 + 1 + 1 + 1 + 1 + 1 + 1 + 1 + 1 + 1 + 1 + 1 + 1 + 1 + 1 + 1 + 1 + 1) = .inl (x_ca G 0, 8, .inl (fun _ => (0 : Int32))) := by rw [ec38]; exact va_up_self _ _ _
  have g38 : ∀ j, j < t → j ≠ k → c38 j = c j := fun j h1 h2 => by rw [ec38]; exact (va_up_ne _ _ (by omega)).trans (g37 j h1 h2)
  clear f37_k f37_t f37_t_1 f37_t_1_1 f37_t_1_1_1 f37_t_1_1_1_1 f37_t_1_1_1_1_1 f37_t_1_1_1_1_1_1 f37_t_1_1_1_1_1_1_1 f37_t_1_1_1_1_1_1_1_1 f37_t_1_1_1_1_1_1_1_1_1 f37_t_1_1_1_1_1_1_1_1_1_1 f37_t_1_1_1_1_1_1_1_1_1_1_1 f37_t_1_1_1_1_1_1_1_1_1_1_1_1 f37_t_1_1_1_1_1_1_1_1_1_1_1_1_1 f37_t_1_1_1_1_1_1_1_1_1_1_1_1_1_1 f37_t_1_1_1_1_1_1_1_1_1_1_1_1_1_1_1 f37_t_1_1_1_1_1_1_1_1_1_1_1_1_1_1_1_1 f37_t_1_1_1_1_1_1_1_1_1_1_1_1_1_1_1_1_1 g37 ec38
  refine va_putF (D := x_D G) (ci := 5) (v := .ref q19) (ty := .array .int) (C := "ContentLibraryModel") (T := x_TM) (N := 31) hx hb hts x_inM x_tyM x_tyM_ok x_nmM hown hK hP hD hS k (y_at (by omega) a19_k f38_k) rfl 23 (by decide) (hts _ t_695) (fun _ h9 => h9) rfl hin rfl (by decide +kernel) rfl rfl (Nat.le_of_ble_eq_true rfl) d_M_init_161 (fun H locs hP hD hS => ?_)
  rw [y_set (by omega) a19_k] at hP hD
  obtain ⟨c39, ec39⟩ : ∃ c39, c39 = va_up c38 k (.inr (5, ([.int 0, .int 0, .ref q1, .int 0, .int (-1 : Int32), .ref q2, .ref q3, .ref q4, .ref q5, .ref q6, .ref q7, .ref q8, .ref q9, .ref q10, .ref q11, .ref q12, .ref q13, .ref q14, .ref q15, .int 0, .ref q16, .ref q17, .ref q18, .null, .null, .null, .null, .int 0, .null, .null, .null] : List Value).set 23 (.ref q19))) := ⟨_, rfl⟩
  rw [← ec39] at hP hD
  have f39_t : c39 t = .inl (x_ca G 0, 2560, .inl (fun _ => (0 : Int32))) := by rw [ec39]; exact (va_up_ne _ _ (by omega)).trans f38_t
  have f39_t_1 : c39 (t + 1) = .inl (x_ca G 1, 8, .inl (fun _ => (0 : Int32))) := by rw [ec39]; exact (va_up_ne _ _ (by omega)).trans f38_t_1
  have f39_t_1_1 : c39 (t + 1 + 1) = .inl (x_ca G 0, 8, .inl (fun _ => (0 : Int32))) := by rw [ec39]; exact (va_up_ne _ _ (by omega)).trans f38_t_1_1
  have f39_t_1_1_1 : c39 (t + 1 + 1 + 1) = .inl (x_ca G 0, 8, .inl (fun _ => (0 : Int32))) := by rw [ec39]; exact (va_up_ne _ _ (by omega)).trans f38_t_1_1_1
  have f39_t_1_1_1_1 : c39 (t + 1 + 1 + 1 + 1) = .inl (x_ca G 0, 8, .inl (fun _ => (0 : Int32))) := by rw [ec39]; exact (va_up_ne _ _ (by omega)).trans f38_t_1_1_1_1
  have f39_t_1_1_1_1_1 : c39 (t + 1 + 1 + 1 + 1 + 1) = .inl (x_ca G 0, 512, .inl (fun _ => (0 : Int32))) := by rw [ec39]; exact (va_up_ne _ _ (by omega)).trans f38_t_1_1_1_1_1
  have f39_t_1_1_1_1_1_1 : c39 (t + 1 + 1 + 1 + 1 + 1 + 1) = .inl (x_ca G 1, 16, .inl (fun _ => (0 : Int32))) := by rw [ec39]; exact (va_up_ne _ _ (by omega)).trans f38_t_1_1_1_1_1_1
  have f39_t_1_1_1_1_1_1_1 : c39 (t + 1 + 1 + 1 + 1 + 1 + 1 + 1) = .inl (x_ca G 0, 16, .inl (fun _ => (0 : Int32))) := by rw [ec39]; exact (va_up_ne _ _ (by omega)).trans f38_t_1_1_1_1_1_1_1
  have f39_t_1_1_1_1_1_1_1_1 : c39 (t + 1 + 1 + 1 + 1 + 1 + 1 + 1 + 1) = .inl (x_ca G 0, 16, .inl (fun _ => (0 : Int32))) := by rw [ec39]; exact (va_up_ne _ _ (by omega)).trans f38_t_1_1_1_1_1_1_1_1
  have f39_t_1_1_1_1_1_1_1_1_1 : c39 (t + 1 + 1 + 1 + 1 + 1 + 1 + 1 + 1 + 1) = .inl (x_ca G 0, 1024, .inl (fun _ => (0 : Int32))) := by rw [ec39]; exact (va_up_ne _ _ (by omega)).trans f38_t_1_1_1_1_1_1_1_1_1
  have f39_t_1_1_1_1_1_1_1_1_1_1 : c39 (t + 1 + 1 + 1 + 1 + 1 + 1 + 1 + 1 + 1 + 1) = .inl (x_ca G 0, 16, .inl (fun _ => (0 : Int32))) := by rw [ec39]; exact (va_up_ne _ _ (by omega)).trans f38_t_1_1_1_1_1_1_1_1_1_1
  have f39_t_1_1_1_1_1_1_1_1_1_1_1 : c39 (t + 1 + 1 + 1 + 1 + 1 + 1 + 1 + 1 + 1 + 1 + 1) = .inl (x_ca G 0, 16, .inl (fun _ => (0 : Int32))) := by rw [ec39]; exact (va_up_ne _ _ (by omega)).trans f38_t_1_1_1_1_1_1_1_1_1_1_1
  have f39_t_1_1_1_1_1_1_1_1_1_1_1_1 : c39 (t + 1 + 1 + 1 + 1 + 1 + 1 + 1 + 1 + 1 + 1 + 1 + 1) = .inl (x_ca G 0, 32, .inl (fun _ => (0 : Int32))) := by rw [ec39]; exact (va_up_ne _ _ (by omega)).trans f38_t_1_1_1_1_1_1_1_1_1_1_1_1
  have f39_t_1_1_1_1_1_1_1_1_1_1_1_1_1 : c39 (t + 1 + 1 + 1 + 1 + 1 + 1 + 1 + 1 + 1 + 1 + 1 + 1 + 1) = .inl (x_ca G 4, 16, .inr (.inl (fun _ => (0 : Int64)))) := by rw [ec39]; exact (va_up_ne _ _ (by omega)).trans f38_t_1_1_1_1_1_1_1_1_1_1_1_1_1
  have f39_t_1_1_1_1_1_1_1_1_1_1_1_1_1_1 : c39 (t + 1 + 1 + 1 + 1 + 1 + 1 + 1 + 1 + 1 + 1 + 1 + 1 + 1 + 1) = .inl (x_ca G 0, 40, .inl (fun _ => (0 : Int32))) := by rw [ec39]; exact (va_up_ne _ _ (by omega)).trans f38_t_1_1_1_1_1_1_1_1_1_1_1_1_1_1
  have f39_t_1_1_1_1_1_1_1_1_1_1_1_1_1_1_1 : c39 (t + 1 + 1 + 1 + 1 + 1 + 1 + 1 + 1 + 1 + 1 + 1 + 1 + 1 + 1 + 1) = .inl (x_ca G 0, 16, .inl (fun _ => (0 : Int32))) := by rw [ec39]; exact (va_up_ne _ _ (by omega)).trans f38_t_1_1_1_1_1_1_1_1_1_1_1_1_1_1_1
  have f39_t_1_1_1_1_1_1_1_1_1_1_1_1_1_1_1_1 : c39 (t + 1 + 1 + 1 + 1 + 1 + 1 + 1 + 1 + 1 + 1 + 1 + 1 + 1 + 1 + 1 + 1) = .inl (x_ca G 0, 16, .inl (fun _ => (0 : Int32))) := by rw [ec39]; exact (va_up_ne _ _ (by omega)).trans f38_t_1_1_1_1_1_1_1_1_1_1_1_1_1_1_1_1
  have f39_t_1_1_1_1_1_1_1_1_1_1_1_1_1_1_1_1_1 : c39 (t + 1 + 1 + 1 + 1 + 1 + 1 + 1 + 1 + 1 + 1 + 1 + 1 + 1 + 1 + 1 + 1 + 1) = .inl (x_ca G 0, 64, .inl (fun _ => (0 : Int32))) := by rw [ec39]; exact (va_up_ne _ _ (by omega)).trans f38_t_1_1_1_1_1_1_1_1_1_1_1_1_1_1_1_1_1
  have f39_t_1_1_1_1_1_1_1_1_1_1_1_1_1_1_1_1_1_1 : c39 (t + 1 + 1 + 1 + 1 + 1 + 1 + 1 + 1 + 1 + 1 + 1 + 1 + 1 + 1 + 1 + 1 + 1 + 1) = .inl (x_ca G 0, 8, .inl (fun _ => (0 : Int32))) := by rw [ec39]; exact (va_up_ne _ _ (by omega)).trans f38_t_1_1_1_1_1_1_1_1_1_1_1_1_1_1_1_1_1_1
  have f39_k : c39 k = .inr (5, [.int 0, .int 0, .ref q1, .int 0, .int (-1 : Int32), .ref q2, .ref q3, .ref q4, .ref q5, .ref q6, .ref q7, .ref q8, .ref q9, .ref q10, .ref q11, .ref q12, .ref q13, .ref q14, .ref q15, .int 0, .ref q16, .ref q17, .ref q18, .ref q19, .null, .null, .null, .int 0, .null, .null, .null]) := by rw [ec39]; exact va_up_self _ _ _
  have g39 : ∀ j, j < t → j ≠ k → c39 j = c j := fun j h1 h2 => by rw [ec39]; exact (va_up_ne _ _ (by omega)).trans (g38 j h1 h2)
  clear f38_k f38_t f38_t_1 f38_t_1_1 f38_t_1_1_1 f38_t_1_1_1_1 f38_t_1_1_1_1_1 f38_t_1_1_1_1_1_1 f38_t_1_1_1_1_1_1_1 f38_t_1_1_1_1_1_1_1_1 f38_t_1_1_1_1_1_1_1_1_1 f38_t_1_1_1_1_1_1_1_1_1_1 f38_t_1_1_1_1_1_1_1_1_1_1_1 f38_t_1_1_1_1_1_1_1_1_1_1_1_1 f38_t_1_1_1_1_1_1_1_1_1_1_1_1_1 f38_t_1_1_1_1_1_1_1_1_1_1_1_1_1_1 f38_t_1_1_1_1_1_1_1_1_1_1_1_1_1_1_1 f38_t_1_1_1_1_1_1_1_1_1_1_1_1_1_1_1_1 f38_t_1_1_1_1_1_1_1_1_1_1_1_1_1_1_1_1_1 f38_t_1_1_1_1_1_1_1_1_1_1_1_1_1_1_1_1_1_1 g38 ec39
  refine lv_aload_n hx hb d_M_init_164 rfl (lv_at hl 0 rfl) ?_
  refine lv_bipush (v := (64 : Int32)) hx hb d_M_init_165 (by decide) ?_
  refine va_newa (atype := .int) hx hb (hts _ t_58) (ty := .int) rfl hK hP hD hS hA (N' := 64) (a0 := (64, .inl (fun _ => (0 : Int32)))) (fun _ => rfl) (by decide) (by decide) (by decide) (Nat.le_of_ble_eq_true rfl) (Nat.le_of_ble_eq_true rfl) d_M_init_167 (fun q20 cA H hK2 hP hD hS => ?_)
  obtain rfl := y_caI hK2
  rw [y_push] at hP hD
  obtain ⟨ad20, ead20⟩ : ∃ a1, a1 = va_up ad19 (t + 1 + 1 + 1 + 1 + 1 + 1 + 1 + 1 + 1 + 1 + 1 + 1 + 1 + 1 + 1 + 1 + 1 + 1 + 1) q20 := ⟨_, rfl⟩
  rw [← ead20] at hP hD
  have a20_k : ad20 k = (ad k) := by rw [ead20]; exact (va_up_ne _ _ (by omega)).trans a19_k
  have a20_t : ad20 t = q1 := by rw [ead20]; exact (va_up_ne _ _ (by omega)).trans a19_t
  have a20_t_1 : ad20 (t + 1) = q2 := by rw [ead20]; exact (va_up_ne _ _ (by omega)).trans a19_t_1
  have a20_t_1_1 : ad20 (t + 1 + 1) = q3 := by rw [ead20]; exact (va_up_ne _ _ (by omega)).trans a19_t_1_1
  have a20_t_1_1_1 : ad20 (t + 1 + 1 + 1) = q4 := by rw [ead20]; exact (va_up_ne _ _ (by omega)).trans a19_t_1_1_1
  have a20_t_1_1_1_1 : ad20 (t + 1 + 1 + 1 + 1) = q5 := by rw [ead20]; exact (va_up_ne _ _ (by omega)).trans a19_t_1_1_1_1
  have a20_t_1_1_1_1_1 : ad20 (t + 1 + 1 + 1 + 1 + 1) = q6 := by rw [ead20]; exact (va_up_ne _ _ (by omega)).trans a19_t_1_1_1_1_1
  have a20_t_1_1_1_1_1_1 : ad20 (t + 1 + 1 + 1 + 1 + 1 + 1) = q7 := by rw [ead20]; exact (va_up_ne _ _ (by omega)).trans a19_t_1_1_1_1_1_1
  have a20_t_1_1_1_1_1_1_1 : ad20 (t + 1 + 1 + 1 + 1 + 1 + 1 + 1) = q8 := by rw [ead20]; exact (va_up_ne _ _ (by omega)).trans a19_t_1_1_1_1_1_1_1
  have a20_t_1_1_1_1_1_1_1_1 : ad20 (t + 1 + 1 + 1 + 1 + 1 + 1 + 1 + 1) = q9 := by rw [ead20]; exact (va_up_ne _ _ (by omega)).trans a19_t_1_1_1_1_1_1_1_1
  have a20_t_1_1_1_1_1_1_1_1_1 : ad20 (t + 1 + 1 + 1 + 1 + 1 + 1 + 1 + 1 + 1) = q10 := by rw [ead20]; exact (va_up_ne _ _ (by omega)).trans a19_t_1_1_1_1_1_1_1_1_1
  have a20_t_1_1_1_1_1_1_1_1_1_1 : ad20 (t + 1 + 1 + 1 + 1 + 1 + 1 + 1 + 1 + 1 + 1) = q11 := by rw [ead20]; exact (va_up_ne _ _ (by omega)).trans a19_t_1_1_1_1_1_1_1_1_1_1
  have a20_t_1_1_1_1_1_1_1_1_1_1_1 : ad20 (t + 1 + 1 + 1 + 1 + 1 + 1 + 1 + 1 + 1 + 1 + 1) = q12 := by rw [ead20]; exact (va_up_ne _ _ (by omega)).trans a19_t_1_1_1_1_1_1_1_1_1_1_1
  have a20_t_1_1_1_1_1_1_1_1_1_1_1_1 : ad20 (t + 1 + 1 + 1 + 1 + 1 + 1 + 1 + 1 + 1 + 1 + 1 + 1) = q13 := by rw [ead20]; exact (va_up_ne _ _ (by omega)).trans a19_t_1_1_1_1_1_1_1_1_1_1_1_1
  have a20_t_1_1_1_1_1_1_1_1_1_1_1_1_1 : ad20 (t + 1 + 1 + 1 + 1 + 1 + 1 + 1 + 1 + 1 + 1 + 1 + 1 + 1) = q14 := by rw [ead20]; exact (va_up_ne _ _ (by omega)).trans a19_t_1_1_1_1_1_1_1_1_1_1_1_1_1
  have a20_t_1_1_1_1_1_1_1_1_1_1_1_1_1_1 : ad20 (t + 1 + 1 + 1 + 1 + 1 + 1 + 1 + 1 + 1 + 1 + 1 + 1 + 1 + 1) = q15 := by rw [ead20]; exact (va_up_ne _ _ (by omega)).trans a19_t_1_1_1_1_1_1_1_1_1_1_1_1_1_1
  have a20_t_1_1_1_1_1_1_1_1_1_1_1_1_1_1_1 : ad20 (t + 1 + 1 + 1 + 1 + 1 + 1 + 1 + 1 + 1 + 1 + 1 + 1 + 1 + 1 + 1) = q16 := by rw [ead20]; exact (va_up_ne _ _ (by omega)).trans a19_t_1_1_1_1_1_1_1_1_1_1_1_1_1_1_1
  have a20_t_1_1_1_1_1_1_1_1_1_1_1_1_1_1_1_1 : ad20 (t + 1 + 1 + 1 + 1 + 1 + 1 + 1 + 1 + 1 + 1 + 1 + 1 + 1 + 1 + 1 + 1) = q17 := by rw [ead20]; exact (va_up_ne _ _ (by omega)).trans a19_t_1_1_1_1_1_1_1_1_1_1_1_1_1_1_1_1
  have a20_t_1_1_1_1_1_1_1_1_1_1_1_1_1_1_1_1_1 : ad20 (t + 1 + 1 + 1 + 1 + 1 + 1 + 1 + 1 + 1 + 1 + 1 + 1 + 1 + 1 + 1 + 1 + 1) = q18 := by rw [ead20]; exact (va_up_ne _ _ (by omega)).trans a19_t_1_1_1_1_1_1_1_1_1_1_1_1_1_1_1_1_1
  have a20_t_1_1_1_1_1_1_1_1_1_1_1_1_1_1_1_1_1_1 : ad20 (t + 1 + 1 + 1 + 1 + 1 + 1 + 1 + 1 + 1 + 1 + 1 + 1 + 1 + 1 + 1 + 1 + 1 + 1) = q19 := by rw [ead20]; exact (va_up_ne _ _ (by omega)).trans a19_t_1_1_1_1_1_1_1_1_1_1_1_1_1_1_1_1_1_1
  have a20_t_1_1_1_1_1_1_1_1_1_1_1_1_1_1_1_1_1_1_1 : ad20 (t + 1 + 1 + 1 + 1 + 1 + 1 + 1 + 1 + 1 + 1 + 1 + 1 + 1 + 1 + 1 + 1 + 1 + 1 + 1) = q20 := by rw [ead20]; exact va_up_self _ _ _
  have b20 : ∀ j, j < t → ad20 j = ad j := fun j h1 => by rw [ead20]; exact (va_up_ne _ _ (by omega)).trans (b19 j h1)
  clear a19_k a19_t a19_t_1 a19_t_1_1 a19_t_1_1_1 a19_t_1_1_1_1 a19_t_1_1_1_1_1 a19_t_1_1_1_1_1_1 a19_t_1_1_1_1_1_1_1 a19_t_1_1_1_1_1_1_1_1 a19_t_1_1_1_1_1_1_1_1_1 a19_t_1_1_1_1_1_1_1_1_1_1 a19_t_1_1_1_1_1_1_1_1_1_1_1 a19_t_1_1_1_1_1_1_1_1_1_1_1_1 a19_t_1_1_1_1_1_1_1_1_1_1_1_1_1 a19_t_1_1_1_1_1_1_1_1_1_1_1_1_1_1 a19_t_1_1_1_1_1_1_1_1_1_1_1_1_1_1_1 a19_t_1_1_1_1_1_1_1_1_1_1_1_1_1_1_1_1 a19_t_1_1_1_1_1_1_1_1_1_1_1_1_1_1_1_1_1 a19_t_1_1_1_1_1_1_1_1_1_1_1_1_1_1_1_1_1_1 b19 ead20
  obtain ⟨c40, ec40⟩ : ∃ c40, c40 = va_up c39 (t + 1 + 1 + 1 + 1 + 1 + 1 + 1 + 1 + 1 + 1 + 1 + 1 + 1 + 1 + 1 + 1 + 1 + 1 + 1) (.inl (x_ca G 0, 64, .inl (fun _ => (0 : Int32)))) := ⟨_, rfl⟩
  rw [← ec40] at hP hD
  have f40_k : c40 k = .inr (5, [.int 0, .int 0, .ref q1, .int 0, .int (-1 : Int32), .ref q2, .ref q3, .ref q4, .ref q5, .ref q6, .ref q7, .ref q8, .ref q9, .ref q10, .ref q11, .ref q12, .ref q13, .ref q14, .ref q15, .int 0, .ref q16, .ref q17, .ref q18, .ref q19, .null, .null, .null, .int 0, .null, .null, .null]) := by rw [ec40]; exact (va_up_ne _ _ (by omega)).trans f39_k
  have f40_t : c40 t = .inl (x_ca G 0, 2560, .inl (fun _ => (0 : Int32))) := by rw [ec40]; exact (va_up_ne _ _ (by omega)).trans f39_t
  have f40_t_1 : c40 (t + 1) = .inl (x_ca G 1, 8, .inl (fun _ => (0 : Int32))) := by rw [ec40]; exact (va_up_ne _ _ (by omega)).trans f39_t_1
  have f40_t_1_1 : c40 (t + 1 + 1) = .inl (x_ca G 0, 8, .inl (fun _ => (0 : Int32))) := by rw [ec40]; exact (va_up_ne _ _ (by omega)).trans f39_t_1_1
  have f40_t_1_1_1 : c40 (t + 1 + 1 + 1) = .inl (x_ca G 0, 8, .inl (fun _ => (0 : Int32))) := by rw [ec40]; exact (va_up_ne _ _ (by omega)).trans f39_t_1_1_1
  have f40_t_1_1_1_1 : c40 (t + 1 + 1 + 1 + 1) = .inl (x_ca G 0, 8, .inl (fun _ => (0 : Int32))) := by rw [ec40]; exact (va_up_ne _ _ (by omega)).trans f39_t_1_1_1_1
  have f40_t_1_1_1_1_1 : c40 (t + 1 + 1 + 1 + 1 + 1) = .inl (x_ca G 0, 512, .inl (fun _ => (0 : Int32))) := by rw [ec40]; exact (va_up_ne _ _ (by omega)).trans f39_t_1_1_1_1_1
  have f40_t_1_1_1_1_1_1 : c40 (t + 1 + 1 + 1 + 1 + 1 + 1) = .inl (x_ca G 1, 16, .inl (fun _ => (0 : Int32))) := by rw [ec40]; exact (va_up_ne _ _ (by omega)).trans f39_t_1_1_1_1_1_1
  have f40_t_1_1_1_1_1_1_1 : c40 (t + 1 + 1 + 1 + 1 + 1 + 1 + 1) = .inl (x_ca G 0, 16, .inl (fun _ => (0 : Int32))) := by rw [ec40]; exact (va_up_ne _ _ (by omega)).trans f39_t_1_1_1_1_1_1_1
  have f40_t_1_1_1_1_1_1_1_1 : c40 (t + 1 + 1 + 1 + 1 + 1 + 1 + 1 + 1) = .inl (x_ca G 0, 16, .inl (fun _ => (0 : Int32))) := by rw [ec40]; exact (va_up_ne _ _ (by omega)).trans f39_t_1_1_1_1_1_1_1_1
  have f40_t_1_1_1_1_1_1_1_1_1 : c40 (t + 1 + 1 + 1 + 1 + 1 + 1 + 1 + 1 + 1) = .inl (x_ca G 0, 1024, .inl (fun _ => (0 : Int32))) := by rw [ec40]; exact (va_up_ne _ _ (by omega)).trans f39_t_1_1_1_1_1_1_1_1_1
  have f40_t_1_1_1_1_1_1_1_1_1_1 : c40 (t + 1 + 1 + 1 + 1 + 1 + 1 + 1 + 1 + 1 + 1) = .inl (x_ca G 0, 16, .inl (fun _ => (0 : Int32))) := by rw [ec40]; exact (va_up_ne _ _ (by omega)).trans f39_t_1_1_1_1_1_1_1_1_1_1
  have f40_t_1_1_1_1_1_1_1_1_1_1_1 : c40 (t + 1 + 1 + 1 + 1 + 1 + 1 + 1 + 1 + 1 + 1 + 1) = .inl (x_ca G 0, 16, .inl (fun _ => (0 : Int32))) := by rw [ec40]; exact (va_up_ne _ _ (by omega)).trans f39_t_1_1_1_1_1_1_1_1_1_1_1
  have f40_t_1_1_1_1_1_1_1_1_1_1_1_1 : c40 (t + 1 + 1 + 1 + 1 + 1 + 1 + 1 + 1 + 1 + 1 + 1 + 1) = .inl (x_ca G 0, 32, .inl (fun _ => (0 : Int32))) := by rw [ec40]; exact (va_up_ne _ _ (by omega)).trans f39_t_1_1_1_1_1_1_1_1_1_1_1_1
  have f40_t_1_1_1_1_1_1_1_1_1_1_1_1_1 : c40 (t + 1 + 1 + 1 + 1 + 1 + 1 + 1 + 1 + 1 + 1 + 1 + 1 + 1) = .inl (x_ca G 4, 16, .inr (.inl (fun _ => (0 : Int64)))) := by rw [ec40]; exact (va_up_ne _ _ (by omega)).trans f39_t_1_1_1_1_1_1_1_1_1_1_1_1_1
  have f40_t_1_1_1_1_1_1_1_1_1_1_1_1_1_1 : c40 (t + 1 + 1 + 1 + 1 + 1 + 1 + 1 + 1 + 1 + 1 + 1 + 1 + 1 + 1) = .inl (x_ca G 0, 40, .inl (fun _ => (0 : Int32))) := by rw [ec40]; exact (va_up_ne _ _ (by omega)).trans f39_t_1_1_1_1_1_1_1_1_1_1_1_1_1_1
  have f40_t_1_1_1_1_1_1_1_1_1_1_1_1_1_1_1 : c40 (t + 1 + 1 + 1 + 1 + 1 + 1 + 1 + 1 + 1 + 1 + 1 + 1 + 1 + 1 + 1) = .inl (x_ca G 0, 16, .inl (fun _ => (0 : Int32))) := by rw [ec40]; exact (va_up_ne _ _ (by omega)).trans f39_t_1_1_1_1_1_1_1_1_1_1_1_1_1_1_1
  have f40_t_1_1_1_1_1_1_1_1_1_1_1_1_1_1_1_1 : c40 (t + 1 + 1 + 1 + 1 + 1 + 1 + 1 + 1 + 1 + 1 + 1 + 1 + 1 + 1 + 1 + 1) = .inl (x_ca G 0, 16, .inl (fun _ => (0 : Int32))) := by rw [ec40]; exact (va_up_ne _ _ (by omega)).trans f39_t_1_1_1_1_1_1_1_1_1_1_1_1_1_1_1_1
  have f40_t_1_1_1_1_1_1_1_1_1_1_1_1_1_1_1_1_1 : c40 (t + 1 + 1 + 1 + 1 + 1 + 1 + 1 + 1 + 1 + 1 + 1 + 1 + 1 + 1 + 1 + 1 + 1) = .inl (x_ca G 0, 64, .inl (fun _ => (0 : Int32))) := by rw [ec40]; exact (va_up_ne _ _ (by omega)).trans f39_t_1_1_1_1_1_1_1_1_1_1_1_1_1_1_1_1_1
  have f40_t_1_1_1_1_1_1_1_1_1_1_1_1_1_1_1_1_1_1 : c40 (t + 1 + 1 + 1 + 1 + 1 + 1 + 1 + 1 + 1 + 1 + 1 + 1 + 1 + 1 + 1 + 1 + 1 + 1) = .inl (x_ca G 0, 8, .inl (fun _ => (0 : Int32))) := by rw [ec40]; exact (va_up_ne _ _ (by omega)).trans f39_t_1_1_1_1_1_1_1_1_1_1_1_1_1_1_1_1_1_1
  have f40_t_1_1_1_1_1_1_1_1_1_1_1_1_1_1_1_1_1_1_1 : c40 (t + 1 + 1 + 1 + 1 + 1 + 1 + 1 + 1 + 1 + 1 + 1 + 1 + 1 + 1 + 1 + 1 + 1 + 1 + 1) = .inl (x_ca G 0, 64, .inl (fun _ => (0 : Int32))) := by rw [ec40]; exact va_up_self _ _ _
  have g40 : ∀ j, j < t → j ≠ k → c40 j = c j := fun j h1 h2 => by rw [ec40]; exact (va_up_ne _ _ (by omega)).trans (g39 j h1 h2)
  clear f39_k f39_t f39_t_1 f39_t_1_1 f39_t_1_1_1 f39_t_1_1_1_1 f39_t_1_1_1_1_1 f39_t_1_1_1_1_1_1 f39_t_1_1_1_1_1_1_1 f39_t_1_1_1_1_1_1_1_1 f39_t_1_1_1_1_1_1_1_1_1 f39_t_1_1_1_1_1_1_1_1_1_1 f39_t_1_1_1_1_1_1_1_1_1_1_1 f39_t_1_1_1_1_1_1_1_1_1_1_1_1 f39_t_1_1_1_1_1_1_1_1_1_1_1_1_1 f39_t_1_1_1_1_1_1_1_1_1_1_1_1_1_1 f39_t_1_1_1_1_1_1_1_1_1_1_1_1_1_1_1 f39_t_1_1_1_1_1_1_1_1_1_1_1_1_1_1_1_1 f39_t_1_1_1_1_1_1_1_1_1_1_1_1_1_1_1_1_1 f39_t_1_1_1_1_1_1_1_1_1_1_1_1_1_1_1_1_1_1 g39 ec40
  refine va_putF (D := x_D G) (ci := 5) (v := .ref q20) (ty := .array .int) (C := "ContentLibraryModel") (T := x_TM) (N := 31) hx hb hts x_inM x_tyM x_tyM_ok x_nmM hown hK hP hD hS k (y_at (by omega) a20_k f40_k) rfl 24 (by decide) (hts _ t_696) (fun _ h9 => h9) rfl hin rfl (by decide +kernel) rfl rfl (Nat.le_of_ble_eq_true rfl) d_M_init_169 (fun H locs hP hD hS => ?_)
  rw [y_set (by omega) a20_k] at hP hD
  obtain ⟨c41, ec41⟩ : ∃ c41, c41 = va_up c40 k (.inr (5, ([.int 0, .int 0, .ref q1, .int 0, .int (-1 : Int32), .ref q2, .ref q3, .ref q4, .ref q5, .ref q6, .ref q7, .ref q8, .ref q9, .ref q10, .ref q11, .ref q12, .ref q13, .ref q14, .ref q15, .int 0, .ref q16, .ref q17, .ref q18, .ref q19, .null, .null, .null, .int 0, .null, .null, .null] : List Value).set 24 (.ref q20))) := ⟨_, rfl⟩
  rw [← ec41] at hP hD
  have f41_t : c41 t = .inl (x_ca G 0, 2560, .inl (fun _ => (0 : Int32))) := by rw [ec41]; exact (va_up_ne _ _ (by omega)).trans f40_t
  have f41_t_1 : c41 (t + 1) = .inl (x_ca G 1, 8, .inl (fun _ => (0 : Int32))) := by rw [ec41]; exact (va_up_ne _ _ (by omega)).trans f40_t_1
  have f41_t_1_1 : c41 (t + 1 + 1) = .inl (x_ca G 0, 8, .inl (fun _ => (0 : Int32))) := by rw [ec41]; exact (va_up_ne _ _ (by omega)).trans f40_t_1_1
  have f41_t_1_1_1 : c41 (t + 1 + 1 + 1) = .inl (x_ca G 0, 8, .inl (fun _ => (0 : Int32))) := by rw [ec41]; exact (va_up_ne _ _ (by omega)).trans f40_t_1_1_1
  have f41_t_1_1_1_1 : c41 (t + 1 + 1 + 1 + 1) = .inl (x_ca G 0, 8, .inl (fun _ => (0 : Int32))) := by rw [ec41]; exact (va_up_ne _ _ (by omega)).trans f40_t_1_1_1_1
  have f41_t_1_1_1_1_1 : c41 (t + 1 + 1 + 1 + 1 + 1) = .inl (x_ca G 0, 512, .inl (fun _ => (0 : Int32))) := by rw [ec41]; exact (va_up_ne _ _ (by omega)).trans f40_t_1_1_1_1_1
  have f41_t_1_1_1_1_1_1 : c41 (t + 1 + 1 + 1 + 1 + 1 + 1) = .inl (x_ca G 1, 16, .inl (fun _ => (0 : Int32))) := by rw [ec41]; exact (va_up_ne _ _ (by omega)).trans f40_t_1_1_1_1_1_1
  have f41_t_1_1_1_1_1_1_1 : c41 (t + 1 + 1 + 1 + 1 + 1 + 1 + 1) = .inl (x_ca G 0, 16, .inl (fun _ => (0 : Int32))) := by rw [ec41]; exact (va_up_ne _ _ (by omega)).trans f40_t_1_1_1_1_1_1_1
  have f41_t_1_1_1_1_1_1_1_1 : c41 (t + 1 + 1 + 1 + 1 + 1 + 1 + 1 + 1) = .inl (x_ca G 0, 16, .inl (fun _ => (0 : Int32))) := by rw [ec41]; exact (va_up_ne _ _ (by omega)).trans f40_t_1_1_1_1_1_1_1_1
  have f41_t_1_1_1_1_1_1_1_1_1 : c41 (t + 1 + 1 + 1 + 1 + 1 + 1 + 1 + 1 + 1) = .inl (x_ca G 0, 1024, .inl (fun _ => (0 : Int32))) := by rw [ec41]; exact (va_up_ne _ _ (by omega)).trans f40_t_1_1_1_1_1_1_1_1_1
  have f41_t_1_1_1_1_1_1_1_1_1_1 : c41 (t + 1 + 1 + 1 + 1 + 1 + 1 + 1 + 1 + 1 + 1) = .inl (x_ca G 0, 16, .inl (fun _ => (0 : Int32))) := by rw [ec41]; exact (va_up_ne _ _ (by omega)).trans f40_t_1_1_1_1_1_1_1_1_1_1
  have f41_t_1_1_1_1_1_1_1_1_1_1_1 : c41 (t + 1 + 1 + 1 + 1 + 1 + 1 + 1 + 1 + 1 + 1 + 1) = .inl (x_ca G 0, 16, .inl (fun _ => (0 : Int32))) := by rw [ec41]; exact (va_up_ne _ _ (by omega)).trans f40_t_1_1_1_1_1_1_1_1_1_1_1
  have f41_t_1_1_1_1_1_1_1_1_1_1_1_1 : c41 (t + 1 + 1 + 1 + 1 + 1 + 1 + 1 + 1 + 1 + 1 + 1 + 1) = .inl (x_ca G 0, 32, .inl (fun _ => (0 : Int32))) := by rw [ec41]; exact (va_up_ne _ _ (by omega)).trans f40_t_1_1_1_1_1_1_1_1_1_1_1_1
  have f41_t_1_1_1_1_1_1_1_1_1_1_1_1_1 : c41 (t + 1 + 1 + 1 + 1 + 1 + 1 + 1 + 1 + 1 + 1 + 1 + 1 + 1) = .inl (x_ca G 4, 16, .inr (.inl (fun _ => (0 : Int64)))) := by rw [ec41]; exact (va_up_ne _ _ (by omega)).trans f40_t_1_1_1_1_1_1_1_1_1_1_1_1_1
  have f41_t_1_1_1_1_1_1_1_1_1_1_1_1_1_1 : c41 (t + 1 + 1 + 1 + 1 + 1 + 1 + 1 + 1 + 1 + 1 + 1 + 1 + 1 + 1) = .inl (x_ca G 0, 40, .inl (fun _ => (0 : Int32))) := by rw [ec41]; exact (va_up_ne _ _ (by omega)).trans f40_t_1_1_1_1_1_1_1_1_1_1_1_1_1_1
  have f41_t_1_1_1_1_1_1_1_1_1_1_1_1_1_1_1 : c41 (t + 1 + 1 + 1 + 1 + 1 + 1 + 1 + 1 + 1 + 1 + 1 + 1 + 1 + 1 + 1) = .inl (x_ca G 0, 16, .inl (fun _ => (0 : Int32))) := by rw [ec41]; exact (va_up_ne _ _ (by omega)).trans f40_t_1_1_1_1_1_1_1_1_1_1_1_1_1_1_1
  have f41_t_1_1_1_1_1_1_1_1_1_1_1_1_1_1_1_1 : c41 (t + 1 + 1 + 1 + 1 + 1 + 1 + 1 + 1 + 1 + 1 + 1 + 1 + 1 + 1 + 1 + 1) = .inl (x_ca G 0, 16, .inl (fun _ => (0 : Int32))) := by rw [ec41]; exact (va_up_ne _ _ (by omega)).trans f40_t_1_1_1_1_1_1_1_1_1_1_1_1_1_1_1_1
  have f41_t_1_1_1_1_1_1_1_1_1_1_1_1_1_1_1_1_1 : c41 (t + 1 + 1 + 1 + 1 + 1 + 1 + 1 + 1 + 1 + 1 + 1 + 1 + 1 + 1 + 1 + 1 + 1) = .inl (x_ca G 0, 64, .inl (fun _ => (0 : Int32))) := by rw [ec41]; exact (va_up_ne _ _ (by omega)).trans f40_t_1_1_1_1_1_1_1_1_1_1_1_1_1_1_1_1_1
  have f41_t_1_1_1_1_1_1_1_1_1_1_1_1_1_1_1_1_1_1 : c41 (t + 1 + 1 + 1 + 1 + 1 + 1 + 1 + 1 + 1 + 1 + 1 + 1 + 1 + 1 + 1 + 1 + 1 + 1) = .inl (x_ca G 0, 8, .inl (fun _ => (0 : Int32))) := by rw [ec41]; exact (va_up_ne _ _ (by omega)).trans f40_t_1_1_1_1_1_1_1_1_1_1_1_1_1_1_1_1_1_1
  have f41_t_1_1_1_1_1_1_1_1_1_1_1_1_1_1_1_1_1_1_1 : c41 (t + 1 + 1 + 1 + 1 + 1 + 1 + 1 + 1 + 1 + 1 + 1 + 1 + 1 + 1 + 1 + 1 + 1 + 1 + 1) = .inl (x_ca G 0, 64, .inl (fun _ => (0 : Int32))) := by rw [ec41]; exact (va_up_ne _ _ (by omega)).trans f40_t_1_1_1_1_1_1_1_1_1_1_1_1_1_1_1_1_1_1_1
  have f41_k : c41 k = .inr (5, [.int 0, .int 0, .ref q1, .int 0, .int (-1 : Int32), .ref q2, .ref q3, .ref q4, .ref q5, .ref q6, .ref q7, .ref q8, .ref q9, .ref q10, .ref q11, .ref q12, .ref q13, .ref q14, .ref q15, .int 0, .ref q16, .ref q17, .ref q18, .ref q19, .ref q20, .null, .null, .int 0, .null, .null, .null]) := by rw [ec41]; exact va_up_self _ _ _
  have g41 : ∀ j, j < t → j ≠ k → c41 j = c j := fun j h1 h2 => by rw [ec41]; exact (va_up_ne _ _ (by omega)).trans (g40 j h1 h2)
  clear f40_k f40_t f40_t_1 f40_t_1_1 f40_t_1_1_1 f40_t_1_1_1_1 f40_t_1_1_1_1_1 f40_t_1_1_1_1_1_1 f40_t_1_1_1_1_1_1_1 f40_t_1_1_1_1_1_1_1_1 f40_t_1_1_1_1_1_1_1_1_1 f40_t_1_1_1_1_1_1_1_1_1_1 f40_t_1_1_1_1_1_1_1_1_1_1_1 f40_t_1_1_1_1_1_1_1_1_1_1_1_1 f40_t_1_1_1_1_1_1_1_1_1_1_1_1_1 f40_t_1_1_1_1_1_1_1_1_1_1_1_1_1_1 f40_t_1_1_1_1_1_1_1_1_1_1_1_1_1_1_1 f40_t_1_1_1_1_1_1_1_1_1_1_1_1_1_1_1_1 f40_t_1_1_1_1_1_1_1_1_1_1_1_1_1_1_1_1_1 f40_t_1_1_1_1_1_1_1_1_1_1_1_1_1_1_1_1_1_1 f40_t_1_1_1_1_1_1_1_1_1_1_1_1_1_1_1_1_1_1_1 g40 ec41
  refine lv_aload_n hx hb d_M_init_172 rfl (lv_at hl 0 rfl) ?_
  refine lv_bipush (v := (8 : Int32)) hx hb d_M_init_173 (by decide) ?_
  refine va_newa (atype := .int) hx hb (hts _ t_58) (ty := .int) rfl hK hP hD hS hA (N' := 8) (a0 := (8, .inl (fun _ => (0 : Int32)))) (fun _ => rfl) (by decide) (by decide) (by decide) (Nat.le_of_ble_eq_true rfl) (Nat.le_of_ble_eq_true rfl) d_M_init_175 (fun q21 cA H hK2 hP hD hS => ?_)
  obtain rfl := y_caI hK2
  rw [y_push] at hP hD
  obtain ⟨ad21, ead21⟩ : ∃ a1, a1 = va_up ad20 (t + 1 + 1 + 1 + 1 + 1 + 1 + 1 + 1 + 1 + 1 + 1 + 1 + 1 + 1 + 1 + 1 + 1 + 1 + 1 + 1) q21 := ⟨_, rfl⟩
  rw [← ead21] at hP hD
  have a21_k : ad21 k = (ad k) := by rw [ead21]; exact (va_up_ne _ _ (by omega)).trans a20_k
  have a21_t : ad21 t = q1 := by rw [ead21]; exact (va_up_ne _ _ (by omega)).trans a20_t
  have a21_t_1 : ad21 (t + 1) = q2 := by rw [ead21]; exact (va_up_ne _ _ (by omega)).trans a20_t_1
  have a21_t_1_1 : ad21 (t + 1 + 1) = q3 := by rw [ead21]; exact (va_up_ne _ _ (by omega)).trans a20_t_1_1
  have a21_t_1_1_1 : ad21 (t + 1 + 1 + 1) = q4 := by rw [ead21]; exact (va_up_ne _ _ (by omega)).trans a20_t_1_1_1
  have a21_t_1_1_1_1 : ad21 (t + 1 + 1 + 1 + 1) = q5 := by rw [ead21]; exact (va_up_ne _ _ (by omega)).trans a20_t_1_1_1_1
  have a21_t_1_1_1_1_1 : ad21 (t + 1 + 1 + 1 + 1 + 1) = q6 := by rw [ead21]; exact (va_up_ne _ _ (by omega)).trans a20_t_1_1_1_1_1
  have a21_t_1_1_1_1_1_1 : ad21 (t + 1 + 1 + 1 + 1 + 1 + 1) = q7 := by rw [ead21]; exact (va_up_ne _ _ (by omega)).trans a20_t_1_1_1_1_1_1
  have a21_t_1_1_1_1_1_1_1 : ad21 (t + 1 + 1 + 1 + 1 + 1 + 1 + 1) = q8 := by rw [ead21]; exact (va_up_ne _ _ (by omega)).trans a20_t_1_1_1_1_1_1_1
  have a21_t_1_1_1_1_1_1_1_1 : ad21 (t + 1 + 1 + 1 + 1 + 1 + 1 + 1 + 1) = q9 := by rw [ead21]; exact (va_up_ne _ _ (by omega)).trans a20_t_1_1_1_1_1_1_1_1
  have a21_t_1_1_1_1_1_1_1_1_1 : ad21 (t + 1 + 1 + 1 + 1 + 1 + 1 + 1 + 1 + 1) = q10 := by rw [ead21]; exact (va_up_ne _ _ (by omega)).trans a20_t_1_1_1_1_1_1_1_1_1
  have a21_t_1_1_1_1_1_1_1_1_1_1 : ad21 (t + 1 + 1 + 1 + 1 + 1 + 1 + 1 + 1 + 1 + 1) = q11 := by rw [ead21]; exact (va_up_ne _ _ (by omega)).trans a20_t_1_1_1_1_1_1_1_1_1_1
  have a21_t_1_1_1_1_1_1_1_1_1_1_1 : ad21 (t + 1 + 1 + 1 + 1 + 1 + 1 + 1 + 1 + 1 + 1 + 1) = q12 := by rw [ead21]; exact (va_up_ne _ _ (by omega)).trans a20_t_1_1_1_1_1_1_1_1_1_1_1
  have a21_t_1_1_1_1_1_1_1_1_1_1_1_1 : ad21 (t + 1 + 1 + 1 + 1 + 1 + 1 + 1 + 1 + 1 + 1 + 1 + 1) = q13 := by rw [ead21]; exact (va_up_ne _ _ (by omega)).trans a20_t_1_1_1_1_1_1_1_1_1_1_1_1
  have a21_t_1_1_1_1_1_1_1_1_1_1_1_1_1 : ad21 (t + 1 + 1 + 1 + 1 + 1 + 1 + 1 + 1 + 1 + 1 + 1 + 1 + 1) = q14 := by rw [ead21]; exact (va_up_ne _ _ (by omega)).trans a20_t_1_1_1_1_1_1_1_1_1_1_1_1_1
  have a21_t_1_1_1_1_1_1_1_1_1_1_1_1_1_1 : ad21 (t + 1 + 1 + 1 + 1 + 1 + 1 + 1 + 1 + 1 + 1 + 1 + 1 + 1 + 1) = q15 := by rw [ead21]; exact (va_up_ne _ _ (by omega)).trans a20_t_1_1_1_1_1_1_1_1_1_1_1_1_1_1
  have a21_t_1_1_1_1_1_1_1_1_1_1_1_1_1_1_1 : ad21 (t + 1 + 1 + 1 + 1 + 1 + 1 + 1 + 1 + 1 + 1 + 1 + 1 + 1 + 1 + 1) = q16 := by rw [ead21]; exact (va_up_ne _ _ (by omega)).trans a20_t_1_1_1_1_1_1_1_1_1_1_1_1_1_1_1
  have a21_t_1_1_1_1_1_1_1_1_1_1_1_1_1_1_1_1 : ad21 (t + 1 + 1 + 1 + 1 + 1 + 1 + 1 + 1 + 1 + 1 + 1 + 1 + 1 + 1 + 1 + 1) = q17 := by rw [ead21]; exact (va_up_ne _ _ (by omega)).trans a20_t_1_1_1_1_1_1_1_1_1_1_1_1_1_1_1_1
  have a21_t_1_1_1_1_1_1_1_1_1_1_1_1_1_1_1_1_1 : ad21 (t + 1 + 1 + 1 + 1 + 1 + 1 + 1 + 1 + 1 + 1 + 1 + 1 + 1 + 1 + 1 + 1 + 1) = q18 := by rw [ead21]; exact (va_up_ne _ _ (by omega)).trans a20_t_1_1_1_1_1_1_1_1_1_1_1_1_1_1_1_1_1
  have a21_t_1_1_1_1_1_1_1_1_1_1_1_1_1_1_1_1_1_1 : ad21 (t + 1 + 1 + 1 + 1 + 1 + 1 + 1 + 1 + 1 + 1 + 1 + 1 + 1 + 1 + 1 + 1 + 1 + 1) = q19 := by rw [ead21]; exact (va_up_ne _ _ (by omega)).trans a20_t_1_1_1_1_1_1_1_1_1_1_1_1_1_1_1_1_1_1
  have a21_t_1_1_1_1_1_1_1_1_1_1_1_1_1_1_1_1_1_1_1 : ad21 (t + 1 + 1 + 1 + 1 + 1 + 1 + 1 + 1 + 1 + 1 + 1 + 1 + 1 + 1 + 1 + 1 + 1 + 1 + 1) = q20 := by rw [ead21]; exact (va_up_ne _ _ (by omega)).trans a20_t_1_1_1_1_1_1_1_1_1_1_1_1_1_1_1_1_1_1_1
  have a21_t_1_1_1_1_1_1_1_1_1_1_1_1_1_1_1_1_1_1_1_1 : ad21 (t + 1 + 1 + 1 + 1 + 1 + 1 + 1 + 1 + 1 + 1 + 1 + 1 + 1 + 1 + 1 + 1 + 1 + 1 + 1 + 1) = q21 := by rw [ead21]; exact va_up_self _ _ _
  have b21 : ∀ j, j < t → ad21 j = ad j := fun j h1 => by rw [ead21]; exact (va_up_ne _ _ (by omega)).trans (b20 j h1)
  clear a20_k a20_t a20_t_1 a20_t_1_1 a20_t_1_1_1 a20_t_1_1_1_1 a20_t_1_1_1_1_1 a20_t_1_1_1_1_1_1 a20_t_1_1_1_1_1_1_1 a20_t_1_1_1_1_1_1_1_1 a20_t_1_1_1_1_1_1_1_1_1 a20_t_1_1_1_1_1_1_1_1_1_1 a20_t_1_1_1_1_1_1_1_1_1_1_1 a20_t_1_1_1_1_1_1_1_1_1_1_1_1 a20_t_1_1_1_1_1_1_1_1_1_1_1_1_1 a20_t_1_1_1_1_1_1_1_1_1_1_1_1_1_1 a20_t_1_1_1_1_1_1_1_1_1_1_1_1_1_1_1 a20_t_1_1_1_1_1_1_1_1_1_1_1_1_1_1_1_1 a20_t_1_1_1_1_1_1_1_1_1_1_1_1_1_1_1_1_1 a20_t_1_1_1_1_1_1_1_1_1_1_1_1_1_1_1_1_1_1 a20_t_1_1_1_1_1_1_1_1_1_1_1_1_1_1_1_1_1_1_1 b20 ead21
  obtain ⟨c42, ec42⟩ : ∃ c42, c42 = va_up c41 (t + 1 + 1 + 1 + 1 + 1 + 1 + 1 + 1 + 1 + 1 + 1 + 1 + 1 + 1 + 1 + 1 + 1 + 1 + 1 + 1) (.inl (x_ca G 0, 8, .inl (fun _ => (0 : Int32)))) := ⟨_, rfl⟩
  rw [← ec42] at hP hD
  have f42_k : c42 k = .inr (5, [.int 0, .int 0, .ref q1, .int 0, .int (-1 : Int32), .ref q2, .ref q3, .ref q4, .ref q5, .ref q6, .ref q7, .ref q8, .ref q9, .ref q10, .ref q11, .ref q12, .ref q13, .ref q14, .ref q15, .int 0, .ref q16, .ref q17, .ref q18, .ref q19, .ref q20, .null, .null, .int 0, .null, .null, .null]) := by rw [ec42]; exact (va_up_ne _ _ (by omega)).trans f41_k
  have f42_t : c42 t = .inl (x_ca G 0, 2560, .inl (fun _ => (0 : Int32))) := by rw [ec42]; exact (va_up_ne _ _ (by omega)).trans f41_t
  have f42_t_1 : c42 (t + 1) = .inl (x_ca G 1, 8, .inl (fun _ => (0 : Int32))) := by rw [ec42]; exact (va_up_ne _ _ (by omega)).trans f41_t_1
  have f42_t_1_1 : c42 (t + 1 + 1) = .inl (x_ca G 0, 8, .inl (fun _ => (0 : Int32))) := by rw [ec42]; exact (va_up_ne _ _ (by omega)).trans f41_t_1_1
  have f42_t_1_1_1 : c42 (t + 1 + 1 + 1) = .inl (x_ca G 0, 8, .inl (fun _ => (0 : Int32))) := by rw [ec42]; exact (va_up_ne _ _ (by omega)).trans f41_t_1_1_1
  have f42_t_1_1_1_1 : c42 (t + 1 + 1 + 1 + 1) = .inl (x_ca G 0, 8, .inl (fun _ => (0 : Int32))) := by rw [ec42]; exact (va_up_ne _ _ (by omega)).trans f41_t_1_1_1_1
  have f42_t_1_1_1_1_1 : c42 (t + 1 + 1 + 1 + 1 + 1) = .inl (x_ca G 0, 512, .inl (fun _ => (0 : Int32))) := by rw [ec42]; exact (va_up_ne _ _ (by omega)).trans f41_t_1_1_1_1_1
  have f42_t_1_1_1_1_1_1 : c42 (t + 1 + 1 + 1 + 1 + 1 + 1) = .inl (x_ca G 1, 16, .inl (fun _ => (0 : Int32))) := by rw [ec42]; exact (va_up_ne _ _ (by omega)).trans f41_t_1_1_1_1_1_1
  have f42_t_1_1_1_1_1_1_1 : c42 (t + 1 + 1 + 1 + 1 + 1 + 1 + 1) = .inl (x_ca G 0, 16, .inl (fun _ => (0 : Int32))) := by rw [ec42]; exact (va_up_ne _ _ (by omega)).trans f41_t_1_1_1_1_1_1_1
  have f42_t_1_1_1_1_1_1_1_1 : c42 (t + 1 + 1 + 1 + 1 + 1 + 1 + 1 + 1) = .inl (x_ca G 0, 16, .inl (fun _ => (0 : Int32))) := by rw [ec42]; exact (va_up_ne _ _ (by omega)).trans f41_t_1_1_1_1_1_1_1_1
  have f42_t_1_1_1_1_1_1_1_1_1 : c42 (t + 1 + 1 + 1 + 1 + 1 + 1 + 1 + 1 + 1) = .inl (x_ca G 0, 1024, .inl (fun _ => (0 : Int32))) := by rw [ec42]; exact (va_up_ne _ _ (by omega)).trans f41_t_1_1_1_1_1_1_1_1_1
  have f42_t_1_1_1_1_1_1_1_1_1_1 : c42 (t + 1 + 1 + 1 + 1 + 1 + 1 + 1 + 1 + 1 + 1) = .inl (x_ca G 0, 16, .inl (fun _ => (0 : Int32))) := by rw [ec42]; exact (va_up_ne _ _ (by omega)).trans f41_t_1_1_1_1_1_1_1_1_1_1
  have f42_t_1_1_1_1_1_1_1_1_1_1_1 : c42 (t + 1 + 1 + 1 + 1 + 1 + 1 + 1 + 1 + 1 + 1 + 1) = .inl (x_ca G 0, 16, .inl (fun _ => (0 : Int32))) := by rw [ec42]; exact (va_up_ne _ _ (by omega)).trans f41_t_1_1_1_1_1_1_1_1_1_1_1
  have f42_t_1_1_1_1_1_1_1_1_1_1_1_1 : c42 (t + 1 + 1 + 1 + 1 + 1 + 1 + 1 + 1 + 1 + 1 + 1 + 1) = .inl (x_ca G 0, 32, .inl (fun _ => (0 : Int32))) := by rw [ec42]; exact (va_up_ne _ _ (by omega)).trans f41_t_1_1_1_1_1_1_1_1_1_1_1_1
  have f42_t_1_1_1_1_1_1_1_1_1_1_1_1_1 : c42 (t + 1 + 1 + 1 + 1 + 1 + 1 + 1 + 1 + 1 + 1 + 1 + 1 + 1) = .inl (x_ca G 4, 16, .inr (.inl (fun _ => (0 : Int64)))) := by rw [ec42]; exact (va_up_ne _ _ (by omega)).trans f41_t_1_1_1_1_1_1_1_1_1_1_1_1_1
  have f42_t_1_1_1_1_1_1_1_1_1_1_1_1_1_1 : c42 (t + 1 + 1 + 1 + 1 + 1 + 1 + 1 + 1 + 1 + 1 + 1 + 1 + 1 + 1) = .inl (x_ca G 0, 40, .inl (fun _ => (0 : Int32))) := by rw [ec42]; exact (va_up_ne _ _ (by omega)).trans f41_t_1_1_1_1_1_1_1_1_1_1_1_1_1_1
  have f42_t_1_1_1_1_1_1_1_1_1_1_1_1_1_1_1 : c42 (t + 1 + 1 + 1 + 1 + 1 + 1 + 1 + 1 + 1 + 1 + 1 + 1 + 1 + 1 + 1) = .inl (x_ca G 0, 16, .inl (fun _ => (0 : Int32))) := by rw [ec42]; exact (va_up_ne _ _ (by omega)).trans f41_t_1_1_1_1_1_1_1_1_1_1_1_1_1_1_1
  have f42_t_1_1_1_1_1_1_1_1_1_1_1_1_1_1_1_1 : c42 (t + 1 + 1 + 1 + 1 + 1 + 1 + 1 + 1 + 1 + 1 + 1 + 1 + 1 + 1 + 1 + 1) = .inl (x_ca G 0, 16, .inl (fun _ => (0 : Int32))) := by rw [ec42]; exact (va_up_ne _ _ (by omega)).trans f41_t_1_1_1_1_1_1_1_1_1_1_1_1_1_1_1_1
  have f42_t_1_1_1_1_1_1_1_1_1_1_1_1_1_1_1_1_1 : c42 (t + 1 + 1 + 1 + 1 + 1 + 1 + 1 + 1 + 1 + 1 + 1 + 1 + 1 + 1 + 1 + 1 + 1) = .inl (x_ca G 0, 64, .inl (fun _ => (0 : Int32))) := by rw [ec42]; exact (va_up_ne _ _ (by omega)).trans f41_t_1_1_1_1_1_1_1_1_1_1_1_1_1_1_1_1_1
  have f42_t_1_1_1_1_1_1_1_1_1_1_1_1_1_1_1_1_1_1 : c42 (t + 1 + 1 + 1 + 1 + 1 + 1 + 1 + 1 + 1 + 1 + 1 + 1 + 1 + 1 + 1 + 1 + 1 + 1) = .inl (x_ca G 0, 8, .inl (fun _ => (0 : Int32))) := by rw [ec42]; exact (va_up_ne _ _ (by omega)).trans f41_t_1_1_1_1_1_1_1_1_1_1_1_1_1_1_1_1_1_1
  have f42_t_1_1_1_1_1_1_1_1_1_1_1_1_1_1_1_1_1_1_1 : c42 (t + 1 + 1 + 1 + 1 + 1 + 1 + 1 + 1 + 1 + 1 + 1 + 1 + 1 + 1 + 1 + 1 + 1 + 1 + 1) = .inl (x_ca G 0, 64, .inl (fun _ => (0 : Int32))) := by rw [ec42]; exact (va_up_ne _ _ (by omega)).trans f41_t_1_1_1_1_1_1_1_1_1_1_1_1_1_1_1_1_1_1_1
  have f42_t_1_1_1_1_1_1_1_1_1_1_1_1_1_1_1_1_1_1_1_1 : c42 (t + 1 + 1 + 1 + 1 + 1 + 1 + 1 + 1 + 1 + 1 + 1 + 1 + 1 + 1 + 1 + 1 + 1 + 1 + 1 + 1) = .inl (x_ca G 0, 8, .inl (fun _ => (0 : Int32))) := by rw [ec42]; exact va_up_self _ _ _
  have g42 : ∀ j, j < t → j ≠ k → c42 j = c j := fun j h1 h2 => by rw [ec42]; exact (va_up_ne _ _ (by omega)).trans (g41 j h1 h2)
  clear f41_k f41_t f41_t_1 f41_t_1_1 f41_t_1_1_1 f41_t_1_1_1_1 f41_t_1_1_1_1_1 f41_t_1_1_1_1_1_1 f41_t_1_1_1_1_1_1_1 f41_t_1_1_1_1_1_1_1_1 f41_t_1_1_1_1_1_1_1_1_1 f41_t_1_1_1_1_1_1_1_1_1_1 f41_t_1_1_1_1_1_1_1_1_1_1_1 f41_t_1_1_1_1_1_1_1_1_1_1_1_1 f41_t_1_1_1_1_1_1_1_1_1_1_1_1_1 f41_t_1_1_1_1_1_1_1_1_1_1_1_1_1_1 f41_t_1_1_1_1_1_1_1_1_1_1_1_1_1_1_1 f41_t_1_1_1_1_1_1_1_1_1_1_1_1_1_1_1_1 f41_t_1_1_1_1_1_1_1_1_1_1_1_1_1_1_1_1_1 f41_t_1_1_1_1_1_1_1_1_1_1_1_1_1_1_1_1_1_1 f41_t_1_1_1_1_1_1_1_1_1_1_1_1_1_1_1_1_1_1_1 g41 ec42
  refine va_putF (D := x_D G) (ci := 5) (v := .ref q21) (ty := .array .int) (C := "ContentLibraryModel") (T := x_TM) (N := 31) hx hb hts x_inM x_tyM x_tyM_ok x_nmM hown hK hP hD hS k (y_at (by omega) a21_k f42_k) rfl 25 (by decide) (hts _ t_697) (fun _ h9 => h9) rfl hin rfl (by decide +kernel) rfl rfl (Nat.le_of_ble_eq_true rfl) d_M_init_177 (fun H locs hP hD hS => ?_)
  rw [y_set (by omega) a21_k] at hP hD
  obtain ⟨c43, ec43⟩ : ∃ c43, c43 = va_up c42 k (.inr (5, ([.int 0, .int 0, .ref q1, .int 0, .int (-1 : Int32), .ref q2, .ref q3, .ref q4, .ref q5, .ref q6, .ref q7, .ref q8, .ref q9, .ref q10, .ref q11, .ref q12, .ref q13, .ref q14, .ref q15, .int 0, .ref q16, .ref q17, .ref q18, .ref q19, .ref q20, .null, .null, .int 0, .null, .null, .null] : List Value).set 25 (.ref q21))) := ⟨_, rfl⟩
  rw [← ec43] at hP hD
  have f43_t : c43 t = .inl (x_ca G 0, 2560, .inl (fun _ => (0 : Int32))) := by rw [ec43]; exact (va_up_ne _ _ (by omega)).trans f42_t
  have f43_t_1 : c43 (t + 1) = .inl (x_ca G 1, 8, .inl (fun _ => (0 : Int32))) := by rw [ec43]; exact (va_up_ne _ _ (by omega)).trans f42_t_1
  have f43_t_1_1 : c43 (t + 1 + 1) = .inl (x_ca G 0, 8, .inl (fun _ => (0 : Int32))) := by rw [ec43]; exact (va_up_ne _ _ (by omega)).trans f42_t_1_1
  have f43_t_1_1_1 : c43 (t + 1 + 1 + 1) = .inl (x_ca G 0, 8, .inl (fun _ => (0 : Int32))) := by rw [ec43]; exact (va_up_ne _ _ (by omega)).trans f42_t_1_1_1
  have f43_t_1_1_1_1 : c43 (t + 1 + 1 + 1 + 1) = .inl (x_ca G 0, 8, .inl (fun _ => (0 : Int32))) := by rw [ec43]; exact (va_up_ne _ _ (by omega)).trans f42_t_1_1_1_1
  have f43_t_1_1_1_1_1 : c43 (t + 1 + 1 + 1 + 1 + 1) = .inl (x_ca G 0, 512, .inl (fun _ => (0 : Int32))) := by rw [ec43]; exact (va_up_ne _ _ (by omega)).trans f42_t_1_1_1_1_1
  have f43_t_1_1_1_1_1_1 : c43 (t + 1 + 1 + 1 + 1 + 1 + 1) = .inl (x_ca G 1, 16, .inl (fun _ => (0 : Int32))) := by rw [ec43]; exact (va_up_ne _ _ (by omega)).trans f42_t_1_1_1_1_1_1
  have f43_t_1_1_1_1_1_1_1 : c43 (t + 1 + 1 + 1 + 1 + 1 + 1 + 1) = .inl (x_ca G 0, 16, .inl (fun _ => (0 : Int32))) := by rw [ec43]; exact (va_up_ne _ _ (by omega)).trans f42_t_1_1_1_1_1_1_1
  have f43_t_1_1_1_1_1_1_1_1 : c43 (t + 1 + 1 + 1 + 1 + 1 + 1 + 1 + 1) = .inl (x_ca G 0, 16, .inl (fun _ => (0 : Int32))) := by rw [ec43]; exact (va_up_ne _ _ (by omega)).trans f42_t_1_1_1_1_1_1_1_1
  have f43_t_1_1_1_1_1_1_1_1_1 : c43 (t + 1 + 1 + 1 + 1 + 1 + 1 + 1 + 1 + 1) = .inl (x_ca G 0, 1024, .inl (fun _ => (0 : Int32))) := by rw [ec43]; exact (va_up_ne _ _ (by omega)).trans f42_t_1_1_1_1_1_1_1_1_1
  have f43_t_1_1_1_1_1_1_1_1_1_1 : c43 (t + 1 + 1 + 1 + 1 + 1 + 1 + 1 + 1 + 1 + 1) = .inl (x_ca G 0, 16, .inl (fun _ => (0 : Int32))) := by rw [ec43]; exact (va_up_ne _ _ (by omega)).trans f42_t_1_1_1_1_1_1_1_1_1_1
  have f43_t_1_1_1_1_1_1_1_1_1_1_1 : c43 (t + 1 + 1 + 1 + 1 + 1 + 1 + 1 + 1 + 1 + 1 + 1) = .inl (x_ca G 0, 16, .inl (fun _ => (0 : Int32))) := by rw [ec43]; exact (va_up_ne _ _ (by omega)).trans f42_t_1_1_1_1_1_1_1_1_1_1_1
  have f43_t_1_1_1_1_1_1_1_1_1_1_1_1 : c43 (t + 1 + 1 + 1 + 1 + 1 + 1 + 1 + 1 + 1 + 1 + 1 + 1) = .inl (x_ca G 0, 32, .inl (fun _ => (0 : Int32))) := by rw [ec43]; exact (va_up_ne _ _ (by omega)).trans f42_t_1_1_1_1_1_1_1_1_1_1_1_1
  have f43_t_1_1_1_1_1_1_1_1_1_1_1_1_1 : c43 (t + 1 + 1 + 1 + 1 + 1 + 1 + 1 + 1 + 1 + 1 + 1 + 1 + 1) = .inl (x_ca G 4, 16, .inr (.inl (fun _ => (0 : Int64)))) := by rw [ec43]; exact (va_up_ne _ _ (by omega)).trans f42_t_1_1_1_1_1_1_1_1_1_1_1_1_1
  have f43_t_1_1_1_1_1_1_1_1_1_1_1_1_1_1 : c43 (t + 1 + 1 + 1 + 1 + 1 + 1 + 1 + 1 + 1 + 1 + 1 + 1 + 1 + 1) = .inl (x_ca G 0, 40, .inl (fun _ => (0 : Int32))) := by rw [ec43]; exact (va_up_ne _ _ (by omega)).trans f42_t_1_1_1_1_1_1_1_1_1_1_1_1_1_1
  have f43_t_1_1_1_1_1_1_1_1_1_1_1_1_1_1_1 : c43 (t + 1 + 1 + 1 + 1 + 1 + 1 + 1 + 1 + 1 + 1 + 1 + 1 + 1 + 1 + 1) = .inl (x_ca G 0, 16, .inl (fun _ => (0 : Int32))) := by rw [ec43]; exact (va_up_ne _ _ (by omega)).trans f42_t_1_1_1_1_1_1_1_1_1_1_1_1_1_1_1
  have f43_t_1_1_1_1_1_1_1_1_1_1_1_1_1_1_1_1 : c43 (t + 1 + 1 + 1 + 1 + 1 + 1 + 1 + 1 + 1 + 1 + 1 + 1 + 1 + 1 + 1 + 1) = .inl (x_ca G 0, 16, .inl (fun _ => (0 : Int32))) := by rw [ec43]; exact (va_up_ne _ _ (by omega)).trans f42_t_1_1_1_1_1_1_1_1_1_1_1_1_1_1_1_1
  have f43_t_1_1_1_1_1_1_1_1_1_1_1_1_1_1_1_1_1 : c43 (t + 1 + 1 + 1 + 1 + 1 + 1 + 1 + 1 + 1 + 1 + 1 + 1 + 1 + 1 + 1 + 1 + 1) = .inl (x_ca G 0, 64, .inl (fun _ => (0 : Int32))) := by rw [ec43]; exact (va_up_ne _ _ (by omega)).trans f42_t_1_1_1_1_1_1_1_1_1_1_1_1_1_1_1_1_1
  have f43_t_1_1_1_1_1_1_1_1_1_1_1_1_1_1_1_1_1_1 : c43 (t + 1 + 1 + 1 + 1 + 1 + 1 + 1 + 1 + 1 + 1 + 1 + 1 + 1 + 1 + 1 + 1 + 1 + 1) = .inl (x_ca G 0, 8, .inl (fun _ => (0 : Int32))) := by rw [ec43]; exact (va_up_ne _ _ (by omega)).trans f42_t_1_1_1_1_1_1_1_1_1_1_1_1_1_1_1_1_1_1
  have f43_t_1_1_1_1_1_1_1_1_1_1_1_1_1_1_1_1_1_1_1 : c43 (t + 1 + 1 + 1 + 1 + 1 + 1 + 1 + 1 + 1 + 1 + 1 + 1 + 1 + 1 + 1 + 1 + 1 + 1 + 1) = .inl (x_ca G 0, 64, .inl (fun _ => (0 : Int32))) := by rw [ec43]; exact (va_up_ne _ _ (by omega)).trans f42_t_1_1_1_1_1_1_1_1_1_1_1_1_1_1_1_1_1_1_1
  have f43_t_1_1_1_1_1_1_1_1_1_1_1_1_1_1_1_1_1_1_1_1 : c43 (t + 1 + 1 + 1 + 1 + 1 + 1 + 1 + 1 + 1 + 1 + 1 + 1 + 1 + 1 + 1 + 1 + 1 + 1 + 1 + 1) = .inl (x_ca G 0, 8, .inl (fun _ => (0 : Int32))) := by rw [ec43]; exact (va_up_ne _ _ (by omega)).trans f42_t_1_1_1_1_1_1_1_1_1_1_1_1_1_1_1_1_1_1_1_1
  have f43_k : c43 k = .inr (5, [.int 0, .int 0, .ref q1, .int 0, .int (-1 : Int32), .ref q2, .ref q3, .ref q4, .ref q5, .ref q6, .ref q7, .ref q8, .ref q9, .ref q10, .ref q11, .ref q12, .ref q13, .ref q14, .ref q15, .int 0, .ref q16, .ref q17, .ref q18, .ref q19, .ref q20, .ref q21, .null, .int 0, .null, .null, .null]) := by rw [ec43]; exact va_up_self _ _ _
  have g43 : ∀ j, j < t → j ≠ k → c43 j = c j := fun j h1 h2 => by rw [ec43]; exact (va_up_ne _ _ (by omega)).trans (g42 j h1 h2)
  clear f42_k f42_t f42_t_1 f42_t_1_1 f42_t_1_1_1 f42_t_1_1_1_1 f42_t_1_1_1_1_1 f42_t_1_1_1_1_1_1 f42_t_1_1_1_1_1_1_1 f42_t_1_1_1_1_1_1_1_1 f42_t_1_1_1_1_1_1_1_1_1 f42_t_1_1_1_1_1_1_1_1_1_1 f42_t_1_1_1_1_1_1_1_1_1_1_1 f42_t_1_1_1_1_1_1_1_1_1_1_1_1 f42_t_1_1_1_1_1_1_1_1_1_1_1_1_1 f42_t_1_1_1_1_1_1_1_1_1_1_1_1_1_1 f42_t_1_1_1_1_1_1_1_1_1_1_1_1_1_1_1 f42_t_1_1_1_1_1_1_1_1_1_1_1_1_1_1_1_1 f42_t_1_1_1_1_1_1_1_1_1_1_1_1_1_1_1_1_1 f42_t_1_1_1_1_1_1_1_1_1_1_1_1_1_1_1_1_1_1 f42_t_1_1_1_1_1_1_1_1_1_1_1_1_1_1_1_1_1_1_1 f42_t_1_1_1_1_1_1_1_1_1_1_1_1_1_1_1_1_1_1_1_1 g42 ec43
  refine lv_aload_n hx hb d_M_init_180 rfl (lv_at hl 0 rfl) ?_
  refine lv_sipush (v := (128 : Int32)) hx hb d_M_init_181 (by decide) ?_
  refine va_newa (atype := .int) hx hb (hts _ t_58) (ty := .int) rfl hK hP hD hS hA (N' := 128) (a0 := (128, .inl (fun _ => (0 : Int32)))) (fun _ => rfl) (by decide) (by decide) (by decide) (Nat.le_of_ble_eq_true rfl) (Nat.le_of_ble_eq_true rfl) d_M_init_184 (fun q22 cA H hK2 hP hD hS => ?_)
  obtain rfl := y_caI hK2
  rw [y_push] at hP hD
  obtain ⟨ad22, ead22⟩ : ∃ a1, a1 = va_up ad21 (t + 1 + 1 + 1 + 1 + 1 + 1 + 1 + 1 + 1 + 1 + 1 + 1 + 1 + 1 + 1 + 1 + 1 + 1 + 1 + 1 + 1) q22 := ⟨_, rfl⟩
  rw [← ead22] at hP hD
  have a22_k : ad22 k = (ad k) := by rw [ead22]; exact (va_up_ne _ _ (by omega)).trans a21_k
  have a22_t : ad22 t = q1 := by rw [ead22]; exact (va_up_ne _ _ (by omega)).trans a21_t
  have a22_t_1 : ad22 (t + 1) = q2 := by rw [ead22]; exact (va_up_ne _ _ (by omega)).trans a21_t_1
  have a22_t_1_1 : ad22 (t + 1 + 1) = q3 := by rw [ead22]; exact (va_up_ne _ _ (by omega)).trans a21_t_1_1
  have a22_t_1_1_1 : ad22 (t + 1 + 1 + 1) = q4 := by rw [ead22]; exact (va_up_ne _ _ (by omega)).trans a21_t_1_1_1
  have a22_t_1_1_1_1 : ad22 (t + 1 + 1 + 1 + 1) = q5 := by rw [ead22]; exact (va_up_ne _ _ (by omega)).trans a21_t_1_1_1_1
  have a22_t_1_1_1_1_1 : ad22 (t + 1 + 1 + 1 + 1 + 1) = q6 := by rw [ead22]; exact (va_up_ne _ _ (by omega)).trans a21_t_1_1_1_1_1
  have a22_t_1_1_1_1_1_1 : ad22 (t + 1 + 1 + 1 + 1 + 1 + 1) = q7 := by rw [ead22]; exact (va_up_ne _ _ (by omega)).trans a21_t_1_1_1_1_1_1
  have a22_t_1_1_1_1_1_1_1 : ad22 (t + 1 + 1 + 1 + 1 + 1 + 1 + 1) = q8 := by rw [ead22]; exact (va_up_ne _ _ (by omega)).trans a21_t_1_1_1_1_1_1_1
  have a22_t_1_1_1_1_1_1_1_1 : ad22 (t + 1 + 1 + 1 + 1 + 1 + 1 + 1 + 1) = q9 := by rw [ead22]; exact (va_up_ne _ _ (by omega)).trans a21_t_1_1_1_1_1_1_1_1
  have a22_t_1_1_1_1_1_1_1_1_1 : ad22 (t + 1 + 1 + 1 + 1 + 1 + 1 + 1 + 1 + 1) = q10 := by rw [ead22]; exact (va_up_ne _ _ (by omega)).trans a21_t_1_1_1_1_1_1_1_1_1
  have a22_t_1_1_1_1_1_1_1_1_1_1 : ad22 (t + 1 + 1 + 1 + 1 + 1 + 1 + 1 + 1 + 1 + 1) = q11 := by rw [ead22]; exact (va_up_ne _ _ (by omega)).trans a21_t_1_1_1_1_1_1_1_1_1_1
  have a22_t_1_1_1_1_1_1_1_1_1_1_1 : ad22 (t + 1 + 1 + 1 + 1 + 1 + 1 + 1 + 1 + 1 + 1 + 1) = q12 := by rw [ead22]; exact (va_up_ne _ _ (by omega)).trans a21_t_1_1_1_1_1_1_1_1_1_1_1
  have a22_t_1_1_1_1_1_1_1_1_1_1_1_1 : ad22 (t + 1 + 1 + 1 + 1 + 1 + 1 + 1 + 1 + 1 + 1 + 1 + 1) = q13 := by rw [ead22]; exact (va_up_ne _ _ (by omega)).trans a21_t_1_1_1_1_1_1_1_1_1_1_1_1
  have a22_t_1_1_1_1_1_1_1_1_1_1_1_1_1 : ad22 (t + 1 + 1 + 1 + 1 + 1 + 1 + 1 + 1 + 1 + 1 + 1 + 1 + 1) = q14 := by rw [ead22]; exact (va_up_ne _ _ (by omega)).trans a21_t_1_1_1_1_1_1_1_1_1_1_1_1_1
  have a22_t_1_1_1_1_1_1_1_1_1_1_1_1_1_1 : ad22 (t + 1 + 1 + 1 + 1 + 1 + 1 + 1 + 1 + 1 + 1 + 1 + 1 + 1 + 1) = q15 := by rw [ead22]; exact (va_up_ne _ _ (by omega)).trans a21_t_1_1_1_1_1_1_1_1_1_1_1_1_1_1
  have a22_t_1_1_1_1_1_1_1_1_1_1_1_1_1_1_1 : ad22 (t + 1 + 1 + 1 + 1 + 1 + 1 + 1 + 1 + 1 + 1 + 1 + 1 + 1 + 1 + 1) = q16 := by rw [ead22]; exact (va_up_ne _ _ (by omega)).trans a21_t_1_1_1_1_1_1_1_1_1_1_1_1_1_1_1
  have a22_t_1_1_1_1_1_1_1_1_1_1_1_1_1_1_1_1 : ad22 (t + 1 + 1 + 1 + 1 + 1 + 1 + 1 + 1 + 1 + 1 + 1 + 1 + 1 + 1 + 1 + 1) = q17 := by rw [ead22]; exact (va_up_ne _ _ (by omega)).trans a21_t_1_1_1_1_1_1_1_1_1_1_1_1_1_1_1_1
  have a22_t_1_1_1_1_1_1_1_1_1_1_1_1_1_1_1_1_1 : ad22 (t + 1 + 1 + 1 + 1 + 1 + 1 + 1 + 1 + 1 + 1 + 1 + 1 + 1 + 1 + 1 + 1 + 1) = q18 := by rw [ead22]; exact (va_up_ne _ _ (by omega)).trans a21_t_1_1_1_1_1_1_1_1_1_1_1_1_1_1_1_1_1
  have a22_t_1_1_1_1_1_1_1_1_1_1_1_1_1_1_1_1_1_1 : ad22 (t + 1 + 1 + 1 + 1 + 1 + 1 + 1 + 1 + 1 + 1 + 1 + 1 + 1 + 1 + 1 + 1 + 1 + 1) = q19 := by rw [ead22]; exact (va_up_ne _ _ (by omega)).trans a21_t_1_1_1_1_1_1_1_1_1_1_1_1_1_1_1_1_1_1
  have a22_t_1_1_1_1_1_1_1_1_1_1_1_1_1_1_1_1_1_1_1 : ad22 (t + 1 + 1 + 1 + 1 + 1 + 1 + 1 + 1 + 1 + 1 + 1 + 1 + 1 + 1 + 1 + 1 + 1 + 1 + 1) = q20 := by rw [ead22]; exact (va_up_ne _ _ (by omega)).trans a21_t_1_1_1_1_1_1_1_1_1_1_1_1_1_1_1_1_1_1_1
  have a22_t_1_1_1_1_1_1_1_1_1_1_1_1_1_1_1_1_1_1_1_1 : ad22 (t + 1 + 1 + 1 + 1 + 1 + 1 + 1 + 1 + 1 + 1 + 1 + 1 + 1 + 1 + 1 + 1 + 1 + 1 + 1 + 1) = q21 := by rw [ead22]; exact (va_up_ne _ _ (by omega)).trans a21_t_1_1_1_1_1_1_1_1_1_1_1_1_1_1_1_1_1_1_1_1
  have a22_t_1_1_1_1_1_1_1_1_1_1_1_1_1_1_1_1_1_1_1_1_1 : ad22 (t + 1 + 1 + 1 + 1 + 1 + 1 + 1 + 1 + 1 + 1 + 1 + 1 + 1 + 1 + 1 + 1 + 1 + 1 + 1 + 1 + 1) = q22 := by rw [ead22]; exact va_up_self _ _ _
  have b22 : ∀ j, j < t → ad22 j = ad j := fun j h1 => by rw [ead22]; exact (va_up_ne _ _ (by omega)).trans (b21 j h1)
  clear a21_k a21_t a21_t_1 a21_t_1_1 a21_t_1_1_1 a21_t_1_1_1_1 a21_t_1_1_1_1_1 a21_t_1_1_1_1_1_1 a21_t_1_1_1_1_1_1_1 a21_t_1_1_1_1_1_1_1_1 a21_t_1_1_1_1_1_1_1_1_1 a21_t_1_1_1_1_1_1_1_1_1_1 a21_t_1_1_1_1_1_1_1_1_1_1_1 a21_t_1_1_1_1_1_1_1_1_1_1_1_1 a21_t_1_1_1_1_1_1_1_1_1_1_1_1_1 a21_t_1_1_1_1_1_1_1_1_1_1_1_1_1_1 a21_t_1_1_1_1_1_1_1_1_1_1_1_1_1_1_1 a21_t_1_1_1_1_1_1_1_1_1_1_1_1_1_1_1_1 a21_t_1_1_1_1_1_1_1_1_1_1_1_1_1_1_1_1_1 a21_t_1_1_1_1_1_1_1_1_1_1_1_1_1_1_1_1_1_1 a21_t_1_1_1_1_1_1_1_1_1_1_1_1_1_1_1_1_1_1_1 a21_t_1_1_1_1_1_1_1_1_1_1_1_1_1_1_1_1_1_1_1_1 b21 ead22
  obtain ⟨c44, ec44⟩ : ∃ c44, c44 = va_up c43 (t + 1 + 1 + 1 + 1 + 1 + 1 + 1 + 1 + 1 + 1 + 1 + 1 + 1 + 1 + 1 + 1 + 1 + 1 + 1 + 1 + 1) (.inl (x_ca G 0, 128, .inl (fun _ => (0 : Int32)))) := ⟨_, rfl⟩
  rw [← ec44] at hP hD
  have f44_k : c44 k = .inr (5, [.int 0, .int 0, .ref q1, .int 0, .int (-1 : Int32), .ref q2, .ref q3, .ref q4, .ref q5, .ref q6, .ref q7, .ref q8, .ref q9, .ref q10, .ref q11, .ref q12, .ref q13, .ref q14, .ref q15, .int 0, .ref q16, .ref q17, .ref q18, .ref q19, .ref q20, .ref q21, .null, .int 0, .null, .null, .null]) := by rw [ec44]; exact (va_up_ne _ _ (by omega)).trans f43_k
  have f44_t : c44 t = .inl (x_ca G 0, 2560, .inl (fun _ => (0 : Int32))) := by rw [ec44]; exact (va_up_ne _ _ (by omega)).trans f43_t
  have f44_t_1 : c44 (t + 1) = .inl (x_ca G 1, 8, .inl (fun _ => (0 : Int32))) := by rw [ec44]; exact (va_up_ne _ _ (by omega)).trans f43_t_1
  have f44_t_1_1 : c44 (t + 1 + 1) = .inl (x_ca G 0, 8, .inl (fun _ => (0 : Int32))) := by rw [ec44]; exact (va_up_ne _ _ (by omega)).trans f43_t_1_1
  have f44_t_1_1_1 : c44 (t + 1 + 1 + 1) = .inl (x_ca G 0, 8, .inl (fun _ => (0 : Int32))) := by rw [ec44]; exact (va_up_ne _ _ (by omega)).trans f43_t_1_1_1
  have f44_t_1_1_1_1 : c44 (t + 1 + 1 + 1 + 1) = .inl (x_ca G 0, 8, .inl (fun _ => (0 : Int32))) := by rw [ec44]; exact (va_up_ne _ _ (by omega)).trans f43_t_1_1_1_1
  have f44_t_1_1_1_1_1 : c44 (t + 1 + 1 + 1 + 1 + 1) = .inl (x_ca G 0, 512, .inl (fun _ => (0 : Int32))) := by rw [ec44]; exact (va_up_ne _ _ (by omega)).trans f43_t_1_1_1_1_1
  have f44_t_1_1_1_1_1_1 : c44 (t + 1 + 1 + 1 + 1 + 1 + 1) = .inl (x_ca G 1, 16, .inl (fun _ => (0 : Int32))) := by rw [ec44]; exact (va_up_ne _ _ (by omega)).trans f43_t_1_1_1_1_1_1
  have f44_t_1_1_1_1_1_1_1 : c44 (t + 1 + 1 + 1 + 1 + 1 + 1 + 1) = .inl (x_ca G 0, 16, .inl (fun _ => (0 : Int32))) := by rw [ec44]; exact (va_up_ne _ _ (by omega)).trans f43_t_1_1_1_1_1_1_1
  have f44_t_1_1_1_1_1_1_1_1 : c44 (t + 1 + 1 + 1 + 1 + 1 + 1 + 1 + 1) = .inl (x_ca G 0, 16, .inl (fun _ => (0 : Int32))) := by rw [ec44]; exact (va_up_ne _ _ (by omega)).trans f43_t_1_1_1_1_1_1_1_1
  have f44_t_1_1_1_1_1_1_1_1_1 : c44 (t + 1 + 1 + 1 + 1 + 1 + 1 + 1 + 1 + 1) = .inl (x_ca G 0, 1024, .inl (fun _ => (0 : Int32))) := by rw [ec44]; exact (va_up_ne _ _ (by omega)).trans f43_t_1_1_1_1_1_1_1_1_1
  have f44_t_1_1_1_1_1_1_1_1_1_1 : c44 (t + 1 + 1 + 1 + 1 + 1 + 1 + 1 + 1 + 1 + 1) = .inl (x_ca G 0, 16, .inl (fun _ => (0 : Int32))) := by rw [ec44]; exact (va_up_ne _ _ (by omega)).trans f43_t_1_1_1_1_1_1_1_1_1_1
  have f44_t_1_1_1_1_1_1_1_1_1_1_1 : c44 (t + 1 + 1 + 1 + 1 + 1 + 1 + 1 + 1 + 1 + 1 + 1) = .inl (x_ca G 0, 16, .inl (fun _ => (0 : Int32))) := by rw [ec44]; exact (va_up_ne _ _ (by omega)).trans f43_t_1_1_1_1_1_1_1_1_1_1_1
  have f44_t_1_1_1_1_1_1_1_1_1_1_1_1 : c44 (t + 1 + 1 + 1 + 1 + 1 + 1 + 1 + 1 + 1 + 1 + 1 + 1) = .inl (x_ca G 0, 32, .inl (fun _ => (0 : Int32))) := by rw [ec44]; exact (va_up_ne _ _ (by omega)).trans f43_t_1_1_1_1_1_1_1_1_1_1_1_1
  have f44_t_1_1_1_1_1_1_1_1_1_1_1_1_1 : c44 (t + 1 + 1 + 1 + 1 + 1 + 1 + 1 + 1 + 1 + 1 + 1 + 1 + 1) = .inl (x_ca G 4, 16, .inr (.inl (fun _ => (0 : Int64)))) := by rw [ec44]; exact (va_up_ne _ _ (by omega)).trans f43_t_1_1_1_1_1_1_1_1_1_1_1_1_1
  have f44_t_1_1_1_1_1_1_1_1_1_1_1_1_1_1 : c44 (t + 1 + 1 + 1 + 1 + 1 + 1 + 1 + 1 + 1 + 1 + 1 + 1 + 1 + 1) = .inl (x_ca G 0, 40, .inl (fun _ => (0 : Int32))) := by rw [ec44]; exact (va_up_ne _ _ (by omega)).trans f43_t_1_1_1_1_1_1_1_1_1_1_1_1_1_1
  have f44_t_1_1_1_1_1_1_1_1_1_1_1_1_1_1_1 : c44 (t + 1 + 1 + 1 + 1 + 1 + 1 + 1 + 1 + 1 + 1 + 1 + 1 + 1 + 1 + 1) = .inl (x_ca G 0, 16, .inl (fun _ => (0 : Int32))) := by rw [ec44]; exact (va_up_ne _ _ (by omega)).trans f43_t_1_1_1_1_1_1_1_1_1_1_1_1_1_1_1
  have f44_t_1_1_1_1_1_1_1_1_1_1_1_1_1_1_1_1 : c44 (t + 1 + 1 + 1 + 1 + 1 + 1 + 1 + 1 + 1 + 1 + 1 + 1 + 1 + 1 + 1 + 1) = .inl (x_ca G 0, 16, .inl (fun _ => (0 : Int32))) := by rw [ec44]; exact (va_up_ne _ _ (by omega)).trans f43_t_1_1_1_1_1_1_1_1_1_1_1_1_1_1_1_1
  have f44_t_1_1_1_1_1_1_1_1_1_1_1_1_1_1_1_1_1 : c44 (t + 1 + 1 + 1 + 1 + 1 + 1 + 1 + 1 + 1 + 1 + 1 + 1 + 1 + 1 + 1 + 1 + 1) = .inl (x_ca G 0, 64, .inl (fun _ => (0 : Int32))) := by rw [ec44]; exact (va_up_ne _ _ (by omega)).trans f43_t_1_1_1_1_1_1_1_1_1_1_1_1_1_1_1_1_1
  have f44_t_1_1_1_1_1_1_1_1_1_1_1_1_1_1_1_1_1_1 : c44 (t + 1 + 1 + 1 + 1 + 1 + 1 + 1 + 1 + 1 + 1 + 1 + 1 + 1 + 1 + 1 + 1 + 1 + 1) = .inl (x_ca G 0, 8, .inl (fun _ => (0 : Int32))) := by rw [ec44]; exact (va_up_ne _ _ (by omega)).trans f43_t_1_1_1_1_1_1_1_1_1_1_1_1_1_1_1_1_1_1
  have f44_t_1_1_1_1_1_1_1_1_1_1_1_1_1_1_1_1_1_1_1 : c44 (t + 1 + 1 + 1 + 1 + 1 + 1 + 1 + 1 + 1 + 1 + 1 + 1 + 1 + 1 + 1 + 1 + 1 + 1 + 1) = .inl (x_ca G 0, 64, .inl (fun _ => (0 : Int32))) := by rw [ec44]; exact (va_up_ne _ _ (by omega)).trans f43_t_1_1_1_1_1_1_1_1_1_1_1_1_1_1_1_1_1_1_1
  have f44_t_1_1_1_1_1_1_1_1_1_1_1_1_1_1_1_1_1_1_1_1 : c44 (t + 1 + 1 + 1 + 1 + 1 + 1 + 1 + 1 + 1 + 1 + 1 + 1 + 1 + 1 + 1 + 1 + 1 + 1 + 1 + 1) = .inl (x_ca G 0, 8, .inl (fun _ => (0 : Int32))) := by rw [ec44]; exact (va_up_ne _ _ (by omega)).trans f43_t_1_1_1_1_1_1_1_1_1_1_1_1_1_1_1_1_1_1_1_1
  have f44_t_1_1_1_1_1_1_1_1_1_1_1_1_1_1_1_1_1_1_1_1_1 : c44 (t + 1 + 1 + 1 + 1 + 1 + 1 + 1 + 1 + 1 + 1 + 1 + 1 + 1 + 1 + 1 + 1 + 1 + 1 + 1 + 1 + 1) = .inl (x_ca G 0, 128, .inl (fun _ => (0 : Int32))) := by rw [ec44]; exact va_up_self _ _ _
  have g44 : ∀ j, j < t → j ≠ k → c44 j = c j := fun j h1 h2 => by rw [ec44]; exact (va_up_ne _ _ (by omega)).trans (g43 j h1 h2)
  clear f43_k f43_t f43_t_1 f43_t_1_1 f43_t_1_1_1 f43_t_1_1_1_1 f43_t_1_1_1_1_1 f43_t_1_1_1_1_1_1 f43_t_1_1_1_1_1_1_1 f43_t_1_1_1_1_1_1_1_1 f43_t_1_1_1_1_1_1_1_1_1 f43_t_1_1_1_1_1_1_1_1_1_1 f43_t_1_1_1_1_1_1_1_1_1_1_1 f43_t_1_1_1_1_1_1_1_1_1_1_1_1 f43_t_1_1_1_1_1_1_1_1_1_1_1_1_1 f43_t_1_1_1_1_1_1_1_1_1_1_1_1_1_1 f43_t_1_1_1_1_1_1_1_1_1_1_1_1_1_1_1 f43_t_1_1_1_1_1_1_1_1_1_1_1_1_1_1_1_1 f43_t_1_1_1_1_1_1_1_1_1_1_1_1_1_1_1_1_1 f43_t_1_1_1_1_1_1_1_1_1_1_1_1_1_1_1_1_1_1 f43_t_1_1_1_1_1_1_1_1_1_1_1_1_1_1_1_1_1_1_1 f43_t_1_1_1_1_1_1_1_1_1_1_1_1_1_1_1_1_1_1_1_1 g43 ec44
  refine va_putF (D := x_D G) (ci := 5) (v := .ref q22) (ty := .array .int) (C := "ContentLibraryModel") (T := x_TM) (N := 31) hx hb hts x_inM x_tyM x_tyM_ok x_nmM hown hK hP hD hS k (y_at (by omega) a22_k f44_k) rfl 26 (by decide) (hts _ t_698) (fun _ h9 => h9) rfl hin rfl (by decide +kernel) rfl rfl (Nat.le_of_ble_eq_true rfl) d_M_init_186 (fun H locs hP hD hS => ?_)
  rw [y_set (by omega) a22_k] at hP hD
  obtain ⟨c45, ec45⟩ : ∃ c45, c45 = va_up c44 k (.inr (5, ([.int 0, .int 0, .ref q1, .int 0, .int (-1 : Int32), .ref q2, .ref q3, .ref q4, .ref q5, .ref q6, .ref q7, .ref q8, .ref q9, .ref q10, .ref q11, .ref q12, .ref q13, .ref q14, .ref q15, .int 0, .ref q16, .ref q17, .ref q18, .ref q19, .ref q20, .ref q21, .null, .int 0, .null, .null, .null] : List Value).set 26 (.ref q22))) := ⟨_, rfl⟩
  rw [← ec45] at hP hD
  have f45_t : c45 t = .inl (x_ca G 0, 2560, .inl (fun _ => (0 : Int32))) := by rw [ec45]; exact (va_up_ne _ _ (by omega)).trans f44_t
  have f45_t_1 : c45 (t + 1) = .inl (x_ca G 1, 8, .inl (fun _ => (0 : Int32))) := by rw [ec45]; exact (va_up_ne _ _ (by omega)).trans f44_t_1
  have f45_t_1_1 : c45 (t + 1 + 1) = .inl (x_ca G 0, 8, .inl (fun _ => (0 : Int32))) := by rw [ec45]; exact (va_up_ne _ _ (by omega)).trans f44_t_1_1
  have f45_t_1_1_1 : c45 (t + 1 + 1 + 1) = .inl (x_ca G 0, 8, .inl (fun _ => (0 : Int32))) := by rw [ec45]; exact (va_up_ne _ _ (by omega)).trans f44_t_1_1_1
  have f45_t_1_1_1_1 : c45 (t + 1 + 1 + 1 + 1) = .inl (x_ca G 0, 8, .inl (fun _ => (0 : Int32))) := by rw [ec45]; exact (va_up_ne _ _ (by omega)).trans f44_t_1_1_1_1
  have f45_t_1_1_1_1_1 : c45 (t + 1 + 1 + 1 + 1 + 1) = .inl (x_ca G 0, 512, .inl (fun _ => (0 : Int32))) := by rw [ec45]; exact (va_up_ne _ _ (by omega)).trans f44_t_1_1_1_1_1
  have f45_t_1_1_1_1_1_1 : c45 (t + 1 + 1 + 1 + 1 + 1 + 1) = .inl (x_ca G 1, 16, .inl (fun _ => (0 : Int32))) := by rw [ec45]; exact (va_up_ne _ _ (by omega)).trans f44_t_1_1_1_1_1_1
  have f45_t_1_1_1_1_1_1_1 : c45 (t + 1 + 1 + 1 + 1 + 1 + 1 + 1) = .inl (x_ca G 0, 16, .inl (fun _ => (0 : Int32))) := by rw [ec45]; exact (va_up_ne _ _ (by omega)).trans f44_t_1_1_1_1_1_1_1
  have f45_t_1_1_1_1_1_1_1_1 : c45 (t + 1 + 1 + 1 + 1 + 1 + 1 + 1 + 1) = .inl (x_ca G 0, 16, .inl (fun _ => (0 : Int32))) := by rw [ec45]; exact (va_up_ne _ _ (by omega)).trans f44_t_1_1_1_1_1_1_1_1
  have f45_t_1_1_1_1_1_1_1_1_1 : c45 (t + 1 + 1 + 1 + 1 + 1 + 1 + 1 + 1 + 1) = .inl (x_ca G 0, 1024, .inl (fun _ => (0 : Int32))) := by rw [ec45]; exact (va_up_ne _ _ (by omega)).trans f44_t_1_1_1_1_1_1_1_1_1
  have f45_t_1_1_1_1_1_1_1_1_1_1 : c45 (t + 1 + 1 + 1 + 1 + 1 + 1 + 1 + 1 + 1 + 1) = .inl (x_ca G 0, 16, .inl (fun _ => (0 : Int32))) := by rw [ec45]; exact (va_up_ne _ _ (by omega)).trans f44_t_1_1_1_1_1_1_1_1_1_1
  have f45_t_1_1_1_1_1_1_1_1_1_1_1 : c45 (t + 1 + 1 + 1 + 1 + 1 + 1 + 1 + 1 + 1 + 1 + 1) = .inl (x_ca G 0, 16, .inl (fun _ => (0 : Int32))) := by rw [ec45]; exact (va_up_ne _ _ (by omega)).trans f44_t_1_1_1_1_1_1_1_1_1_1_1
  have f45_t_1_1_1_1_1_1_1_1_1_1_1_1 : c45 (t + 1 + 1 + 1 + 1 + 1 + 1 + 1 + 1 + 1 + 1 + 1 + 1) = .inl (x_ca G 0, 32, .inl (fun _ => (0 : Int32))) := by rw [ec45]; exact (va_up_ne _ _ (by omega)).trans f44_t_1_1_1_1_1_1_1_1_1_1_1_1
  have f45_t_1_1_1_1_1_1_1_1_1_1_1_1_1 : c45 (t + 1 + 1 + 1 + 1 + 1 + 1 + 1 + 1 + 1 + 1 + 1 + 1 + 1) = .inl (x_ca G 4, 16, .inr (.inl (fun _ => (0 : Int64)))) := by rw [ec45]; exact (va_up_ne _ _ (by omega)).trans f44_t_1_1_1_1_1_1_1_1_1_1_1_1_1
  have f45_t_1_1_1_1_1_1_1_1_1_1_1_1_1_1 : c45 (t + 1 + 1 + 1 + 1 + 1 + 1 + 1 + 1 + 1 + 1 + 1 + 1 + 1 + 1) = .inl (x_ca G 0, 40, .inl (fun _ => (0 : Int32))) := by rw [ec45]; exact (va_up_ne _ _ (by omega)).trans f44_t_1_1_1_1_1_1_1_1_1_1_1_1_1_1
  have f45_t_1_1_1_1_1_1_1_1_1_1_1_1_1_1_1 : c45 (t + 1 + 1 + 1 + 1 + 1 + 1 + 1 + 1 + 1 + 1 + 1 + 1 + 1 + 1 + 1) = .inl (x_ca G 0, 16, .inl (fun _ => (0 : Int32))) := by rw [ec45]; exact (va_up_ne _ _ (by omega)).trans f44_t_1_1_1_1_1_1_1_1_1_1_1_1_1_1_1
  have f45_t_1_1_1_1_1_1_1_1_1_1_1_1_1_1_1_1 : c45 (t + 1 + 1 + 1 + 1 + 1 + 1 + 1 + 1 + 1 + 1 + 1 + 1 + 1 + 1 + 1 + 1) = .inl (x_ca G 0, 16, .inl (fun _ => (0 : Int32))) := by rw [ec45]; exact (va_up_ne _ _ (by omega)).trans f44_t_1_1_1_1_1_1_1_1_1_1_1_1_1_1_1_1
  have f45_t_1_1_1_1_1_1_1_1_1_1_1_1_1_1_1_1_1 : c45 (t + 1 + 1 + 1 + 1 + 1 + 1 + 1 + 1 + 1 + 1 + 1 + 1 + 1 + 1 + 1 + 1 + 1) = .inl (x_ca G 0, 64, .inl (fun _ => (0 : Int32))) := by rw [ec45]; exact (va_up_ne _ _ (by omega)).trans f44_t_1_1_1_1_1_1_1_1_1_1_1_1_1_1_1_1_1
  have f45_t_1_1_1_1_1_1_1_1_1_1_1_1_1_1_1_1_1_1 : c45 (t + 1 + 1 + 1 + 1 + 1 + 1 + 1 + 1 + 1 + 1 + 1 + 1 + 1 + 1 + 1 + 1 + 1 + 1) = .inl (x_ca G 0, 8, .inl (fun _ => (0 : Int32))) := by rw [ec45]; exact (va_up_ne _ _ (by omega)).trans f44_t_1_1_1_1_1_1_1_1_1_1_1_1_1_1_1_1_1_1
  have f45_t_1_1_1_1_1_1_1_1_1_1_1_1_1_1_1_1_1_1_1 : c45 (t + 1 + 1 + 1 + 1 + 1 + 1 + 1 + 1 + 1 + 1 + 1 + 1 + 1 + 1 + 1 + 1 + 1 + 1 + 1) = .inl (x_ca G 0, 64, .inl (fun _ => (0 : Int32))) := by rw [ec45]; exact (va_up_ne _ _ (by omega)).trans f44_t_1_1_1_1_1_1_1_1_1_1_1_1_1_1_1_1_1_1_1
  have f45_t_1_1_1_1_1_1_1_1_1_1_1_1_1_1_1_1_1_1_1_1 : c45 (t + 1 + 1 + 1 + 1 + 1 + 1 + 1 + 1 + 1 + 1 + 1 + 1 + 1 + 1 + 1 + 1 + 1 + 1 + 1 + 1) = .inl (x_ca G 0, 8, .inl (fun _ => (0 : Int32))) := by rw [ec45]; exact (va_up_ne _ _ (by omega)).trans f44_t_1_1_1_1_1_1_1_1_1_1_1_1_1_1_1_1_1_1_1_1
  have f45_t_1_1_1_1_1_1_1_1_1_1_1_1_1_1_1_1_1_1_1_1_1 : c45 (t + 1 + 1 + 1 + 1 + 1 + 1 + 1 + 1 + 1 + 1 + 1 + 1 + 1 + 1 + 1 + 1 + 1 + 1 + 1 + 1 + 1) = .inl (x_ca G 0, 128, .inl (fun _ => (0 : Int32))) := by rw [ec45]; exact (va_up_ne _ _ (by omega)).trans f44_t_1_1_1_1_1_1_1_1_1_1_1_1_1_1_1_1_1_1_1_1_1
  have f45_k : c45 k = .inr (5, [.int 0, .int 0, .ref q1, .int 0, .int (-1 : Int32), .ref q2, .ref q3, .ref q4, .ref q5, .ref q6, .ref q7, .ref q8, .ref q9, .ref q10, .ref q11, .ref q12, .ref q13, .ref q14, .ref q15, .int 0, .ref q16, .ref q17, .ref q18, .ref q19, .ref q20, .ref q21, .ref q22, .int 0, .null, .null, .null]) := by rw [ec45]; exact va_up_self _ _ _
  have g45 : ∀ j, j < t → j ≠ k → c45 j = c j := fun j h1 h2 => by rw [ec45]; exact (va_up_ne _ _ (by omega)).trans (g44 j h1 h2)
  clear f44_k f44_t f44_t_1 f44_t_1_1 f44_t_1_1_1 f44_t_1_1_1_1 f44_t_1_1_1_1_1 f44_t_1_1_1_1_1_1 f44_t_1_1_1_1_1_1_1 f44_t_1_1_1_1_1_1_1_1 f44_t_1_1_1_1_1_1_1_1_1 f44_t_1_1_1_1_1_1_1_1_1_1 f44_t_1_1_1_1_1_1_1_1_1_1_1 f44_t_1_1_1_1_1_1_1_1_1_1_1_1 f44_t_1_1_1_1_1_1_1_1_1_1_1_1_1 f44_t_1_1_1_1_1_1_1_1_1_1_1_1_1_1 f44_t_1_1_1_1_1_1_1_1_1_1_1_1_1_1_1 f44_t_1_1_1_1_1_1_1_1_1_1_1_1_1_1_1_1 f44_t_1_1_1_1_1_1_1_1_1_1_1_1_1_1_1_1_1 f44_t_1_1_1_1_1_1_1_1_1_1_1_1_1_1_1_1_1_1 f44_t_1_1_1_1_1_1_1_1_1_1_1_1_1_1_1_1_1_1_1 f44_t_1_1_1_1_1_1_1_1_1_1_1_1_1_1_1_1_1_1_1_1 f44_t_1_1_1_1_1_1_1_1_1_1_1_1_1_1_1_1_1_1_1_1_1 g44 ec45
  refine lv_aload_n hx hb d_M_init_189 rfl (lv_at hl 0 rfl) ?_
  refine lv_bipush (v := (8 : Int32)) hx hb d_M_init_190 (by decide) ?_
  refine va_newa (atype := .int) hx hb (hts _ t_58) (ty := .int) rfl hK hP hD hS hA (N' := 8) (a0 := (8, .inl (fun _ => (0 : Int32)))) (fun _ => rfl) (by decide) (by decide) (by decide) (Nat.le_of_ble_eq_true rfl) (Nat.le_of_ble_eq_true rfl) d_M_init_192 (fun q23 cA H hK2 hP hD hS => ?_)
  obtain rfl := y_caI hK2
  rw [y_push] at hP hD
  obtain ⟨ad23, ead23⟩ : ∃ a1, a1 = va_up ad22 (t + 1 + 1 + 1 + 1 + 1 + 1 + 1 + 1 + 1 + 1 + 1 + 1 + 1 + 1 + 1 + 1 + 1 + 1 + 1 + 1 + 1 + 1) q23 := ⟨_, rfl⟩
  rw [← ead23] at hP hD
  have a23_k : ad23 k = (ad k) := by rw [ead23]; exact (va_up_ne _ _ (by omega)).trans a22_k
  have a23_t : ad23 t = q1 := by rw [ead23]; exact (va_up_ne _ _ (by omega)).trans a22_t
  have a23_t_1 : ad23 (t + 1) = q2 := by rw [ead23]; exact (va_up_ne _ _ (by omega)).trans a22_t_1
  have a23_t_1_1 : ad23 (t + 1 + 1) = q3 := by rw [ead23]; exact (va_up_ne _ _ (by omega)).trans a22_t_1_1
  have a23_t_1_1_1 : ad23 (t + 1 + 1 + 1) = q4 := by rw [ead23]; exact (va_up_ne _ _ (by omega)).trans a22_t_1_1_1
  have a23_t_1_1_1_1 : ad23 (t + 1 + 1 + 1 + 1) = q5 := by rw [ead23]; exact (va_up_ne _ _ (by omega)).trans a22_t_1_1_1_1
  have a23_t_1_1_1_1_1 : ad23 (t + 1 + 1 + 1 + 1 + 1) = q6 := by rw [ead23]; exact (va_up_ne _ _ (by omega)).trans a22_t_1_1_1_1_1
  have a23_t_1_1_1_1_1_1 : ad23 (t + 1 + 1 + 1 + 1 + 1 + 1) = q7 := by rw [ead23]; exact (va_up_ne _ _ (by omega)).trans a22_t_1_1_1_1_1_1
  have a23_t_1_1_1_1_1_1_1 : ad23 (t + 1 + 1 + 1 + 1 + 1 + 1 + 1) = q8 := by rw [ead23]; exact (va_up_ne _ _ (by omega)).trans a22_t_1_1_1_1_1_1_1
  have a23_t_1_1_1_1_1_1_1_1 : ad23 (t + 1 + 1 + 1 + 1 + 1 + 1 + 1 + 1) = q9 := by rw [ead23]; exact (va_up_ne _ _ (by omega)).trans a22_t_1_1_1_1_1_1_1_1
  have a23_t_1_1_1_1_1_1_1_1_1 : ad23 (t + 1 + 1 + 1 + 1 + 1 + 1 + 1 + 1 + 1) = q10 := by rw [ead23]; exact (va_up_ne _ _ (by omega)).trans a22_t_1_1_1_1_1_1_1_1_1
  have a23_t_1_1_1_1_1_1_1_1_1_1 : ad23 (t + 1 + 1 + 1 + 1 + 1 + 1 + 1 + 1 + 1 + 1) = q11 := by rw [ead23]; exact (va_up_ne _ _ (by omega)).trans a22_t_1_1_1_1_1_1_1_1_1_1
  have a23_t_1_1_1_1_1_1_1_1_1_1_1 : ad23 (t + 1 + 1 + 1 + 1 + 1 + 1 + 1 + 1 + 1 + 1 + 1) = q12 := by rw [ead23]; exact (va_up_ne _ _ (by omega)).trans a22_t_1_1_1_1_1_1_1_1_1_1_1
  have a23_t_1_1_1_1_1_1_1_1_1_1_1_1 : ad23 (t + 1 + 1 + 1 + 1 + 1 + 1 + 1 + 1 + 1 + 1 + 1 + 1) = q13 := by rw [ead23]; exact (va_up_ne _ _ (by omega)).trans a22_t_1_1_1_1_1_1_1_1_1_1_1_1
  have a23_t_1_1_1_1_1_1_1_1_1_1_1_1_1 : ad23 (t + 1 + 1 + 1 + 1 + 1 + 1 + 1 + 1 + 1 + 1 + 1 + 1 + 1) = q14 := by rw [ead23]; exact (va_up_ne _ _ (by omega)).trans a22_t_1_1_1_1_1_1_1_1_1_1_1_1_1
  have a23_t_1_1_1_1_1_1_1_1_1_1_1_1_1_1 : ad23 (t + 1 + 1 + 1 + 1 + 1 + 1 + 1 + 1 + 1 + 1 + 1 + 1 + 1 + 1) = q15 := by rw [ead23]; exact (va_up_ne _ _ (by omega)).trans a22_t_1_1_1_1_1_1_1_1_1_1_1_1_1_1
  have a23_t_1_1_1_1_1_1_1_1_1_1_1_1_1_1_1 : ad23 (t + 1 + 1 + 1 + 1 + 1 + 1 + 1 + 1 + 1 + 1 + 1 + 1 + 1 + 1 + 1) = q16 := by rw [ead23]; exact (va_up_ne _ _ (by omega)).trans a22_t_1_1_1_1_1_1_1_1_1_1_1_1_1_1_1
  have a23_t_1_1_1_1_1_1_1_1_1_1_1_1_1_1_1_1 : ad23 (t + 1 + 1 + 1 + 1 + 1 + 1 + 1 + 1 + 1 + 1 + 1 + 1 + 1 + 1 + 1 + 1) = q17 := by rw [ead23]; exact (va_up_ne _ _ (by omega)).trans a22_t_1_1_1_1_1_1_1_1_1_1_1_1_1_1_1_1
  have a23_t_1_1_1_1_1_1_1_1_1_1_1_1_1_1_1_1_1 : ad23 (t + 1 + 1 + 1 + 1 + 1 + 1 + 1 + 1 + 1 + 1 + 1 + 1 + 1 + 1 + 1 + 1 + 1) = q18 := by rw [ead23]; exact (va_up_ne _ _ (by omega)).trans a22_t_1_1_1_1_1_1_1_1_1_1_1_1_1_1_1_1_1
  have a23_t_1_1_1_1_1_1_1_1_1_1_1_1_1_1_1_1_1_1 : ad23 (t + 1 + 1 + 1 + 1 + 1 + 1 + 1 + 1 + 1 + 1 + 1 + 1 + 1 + 1 + 1 + 1 + 1 + 1) = q19 := by rw [ead23]; exact (va_up_ne _ _ (by omega)).trans a22_t_1_1_1_1_1_1_1_1_1_1_1_1_1_1_1_1_1_1
  have a23_t_1_1_1_1_1_1_1_1_1_1_1_1_1_1_1_1_1_1_1 : ad23 (t + 1 + 1 + 1 + 1 + 1 + 1 + 1 + 1 + 1 + 1 + 1 + 1 + 1 + 1 + 1 + 1 + 1 + 1 + 1) = q20 := by rw [ead23]; exact (va_up_ne _ _ (by omega)).trans a22_t_1_1_1_1_1_1_1_1_1_1_1_1_1_1_1_1_1_1_1
  have a23_t_1_1_1_1_1_1_1_1_1_1_1_1_1_1_1_1_1_1_1_1 : ad23 (t + 1 + 1 + 1 + 1 + 1 + 1 + 1 + 1 + 1 + 1 + 1 + 1 + 1 + 1 + 1 + 1 + 1 + 1 + 1 + 1) = q21 := by rw [ead23]; exact (va_up_ne _ _ (by omega)).trans a22_t_1_1_1_1_1_1_1_1_1_1_1_1_1_1_1_1_1_1_1_1
  have a23_t_1_1_1_1_1_1_1_1_1_1_1_1_1_1_1_1_1_1_1_1_1 : ad23 (t + 1 + 1 + 1 + 1 + 1 + 1 + 1 + 1 + 1 + 1 + 1 + 1 + 1 + 1 + 1 + 1 + 1 + 1 + 1 + 1 + 1) = q22 := by rw [ead23]; exact (va_up_ne _ _ (by omega)).trans a22_t_1_1_1_1_1_1_1_1_1_1_1_1_1_1_1_1_1_1_1_1_1
  have a23_t_1_1_1_1_1_1_1_1_1_1_1_1_1_1_1_1_1_1_1_1_1_1 : ad23 (t + 1 + 1 + 1 + 1 + 1 + 1 + 1 + 1 + 1 + 1 + 1 + 1 + 1 + 1 + 1 + 1 + 1 + 1 + 1 + 1 + 1 + 1) = q23 := by rw [ead23]; exact va_up_self _ _ _
  have b23 : ∀ j, j < t → ad23 j = ad j := fun j h1 => by rw [ead23]; exact (va_up_ne _ _ (by omega)).trans (b22 j h1)
  clear a22_k a22_t a22_t_1 a22_t_1_1 a22_t_1_1_1 a22_t_1_1_1_1 a22_t_1_1_1_1_1 a22_t_1_1_1_1_1_1 a22_t_1_1_1_1_1_1_1 a22_t_1_1_1_1_1_1_1_1 a22_t_1_1_1_1_1_1_1_1_1 a22_t_1_1_1_1_1_1_1_1_1_1 a22_t_1_1_1_1_1_1_1_1_1_1_1 a22_t_1_1_1_1_1_1_1_1_1_1_1_1 a22_t_1_1_1_1_1_1_1_1_1_1_1_1_1 a22_t_1_1_1_1_1_1_1_1_1_1_1_1_1_1 a22_t_1_1_1_1_1_1_1_1_1_1_1_1_1_1_1 a22_t_1_1_1_1_1_1_1_1_1_1_1_1_1_1_1_1 a22_t_1_1_1_1_1_1_1_1_1_1_1_1_1_1_1_1_1 a22_t_1_1_1_1_1_1_1_1_1_1_1_1_1_1_1_1_1_1 a22_t_1_1_1_1_1_1_1_1_1_1_1_1_1_1_1_1_1_1_1 a22_t_1_1_1_1_1_1_1_1_1_1_1_1_1_1_1_1_1_1_1_1 a22_t_1_1_1_1_1_1_1_1_1_1_1_1_1_1_1_1_1_1_1_1_1 b22 ead23
  obtain ⟨c46, ec46⟩ : ∃ c46, c46 = va_up c45 (t + 1 + 1 + 1 + 1 + 1 + 1 + 1 + 1 + 1 + 1 + 1 + 1 + 1 + 1 + 1 + 1 + 1 + 1 + 1 + 1 + 1 + 1) (.inl (x_ca G 0, 8, .inl (fun _ => (0 : Int32)))) := ⟨_, rfl⟩
  rw [← ec46] at hP hD
  have f46_k : c46 k = .inr (5, [.int 0, .int 0, .ref q1, .int 0, .int (-1 : Int32), .ref q2, .ref q3, .ref q4, .ref q5, .ref q6, .ref q7, .ref q8, .ref q9, .ref q10, .ref q11, .ref q12, .ref q13, .ref q14, .ref q15, .int 0, .ref q16, .ref q17, .ref q18, .ref q19, .ref q20, .ref q21, .ref q22, .int 0, .null, .null, .null]) := by rw [ec46]; exact (va_up_ne _ _ (by omega)).trans f45_k
  have f46_t : c46 t = .inl (x_ca G 0, 2560, .inl (fun _ => (0 : Int32))) := by rw [ec46]; exact (va_up_ne _ _ (by omega)).trans f45_t
  have f46_t_1 : c46 (t + 1) = .inl (x_ca G 1, 8, .inl (fun _ => (0 : Int32))) := by rw [ec46]; exact (va_up_ne _ _ (by omega)).trans f45_t_1
  have f46_t_1_1 : c46 (t + 1 + 1) = .inl (x_ca G 0, 8, .inl (fun _ => (0 : Int32))) := by rw [ec46]; exact (va_up_ne _ _ (by omega)).trans f45_t_1_1
  have f46_t_1_1_1 : c46 (t + 1 + 1 + 1) = .inl (x_ca G 0, 8, .inl (fun _ => (0 : Int32))) := by rw [ec46]; exact (va_up_ne _ _ (by omega)).trans f45_t_1_1_1
  have f46_t_1_1_1_1 : c46 (t + 1 + 1 + 1 + 1) = .inl (x_ca G 0, 8, .inl (fun _ => (0 : Int32))) := by rw [ec46]; exact (va_up_ne _ _ (by omega)).trans f45_t_1_1_1_1
  have f46_t_1_1_1_1_1 : c46 (t + 1 + 1 + 1 + 1 + 1) = .inl (x_ca G 0, 512, .inl (fun _ => (0 : Int32))) := by rw [ec46]; exact (va_up_ne _ _ (by omega)).trans f45_t_1_1_1_1_1
  have f46_t_1_1_1_1_1_1 : c46 (t + 1 + 1 + 1 + 1 + 1 + 1) = .inl (x_ca G 1, 16, .inl (fun _ => (0 : Int32))) := by rw [ec46]; exact (va_up_ne _ _ (by omega)).trans f45_t_1_1_1_1_1_1
  have f46_t_1_1_1_1_1_1_1 : c46 (t + 1 + 1 + 1 + 1 + 1 + 1 + 1) = .inl (x_ca G 0, 16, .inl (fun _ => (0 : Int32))) := by rw [ec46]; exact (va_up_ne _ _ (by omega)).trans f45_t_1_1_1_1_1_1_1
  have f46_t_1_1_1_1_1_1_1_1 : c46 (t + 1 + 1 + 1 + 1 + 1 + 1 + 1 + 1) = .inl (x_ca G 0, 16, .inl (fun _ => (0 : Int32))) := by rw [ec46]; exact (va_up_ne _ _ (by omega)).trans f45_t_1_1_1_1_1_1_1_1
  have f46_t_1_1_1_1_1_1_1_1_1 : c46 (t + 1 + 1 + 1 + 1 + 1 + 1 + 1 + 1 + 1) = .inl (x_ca G 0, 1024, .inl (fun _ => (0 : Int32))) := by rw [ec46]; exact (va_up_ne _ _ (by omega)).trans f45_t_1_1_1_1_1_1_1_1_1
  have f46_t_1_1_1_1_1_1_1_1_1_1 : c46 (t + 1 + 1 + 1 + 1 + 1 + 1 + 1 + 1 + 1 + 1) = .inl (x_ca G 0, 16, .inl (fun _ => (0 : Int32))) := by rw [ec46]; exact (va_up_ne _ _ (by omega)).trans f45_t_1_1_1_1_1_1_1_1_1_1
  have f46_t_1_1_1_1_1_1_1_1_1_1_1 : c46 (t + 1 + 1 + 1 + 1 + 1 + 1 + 1 + 1 + 1 + 1 + 1) = .inl (x_ca G 0, 16, .inl (fun _ => (0 : Int32))) := by rw [ec46]; exact (va_up_ne _ _ (by omega)).trans f45_t_1_1_1_1_1_1_1_1_1_1_1
  have f46_t_1_1_1_1_1_1_1_1_1_1_1_1 : c46 (t + 1 + 1 + 1 + 1 + 1 + 1 + 1 + 1 + 1 + 1 + 1 + 1) = .inl (x_ca G 0, 32, .inl (fun _ => (0 : Int32))) := by rw [ec46]; exact (va_up_ne _ _ (by omega)).trans f45_t_1_1_1_1_1_1_1_1_1_1_1_1
  have f46_t_1_1_1_1_1_1_1_1_1_1_1_1_1 : c46 (t + 1 + 1 + 1 + 1 + 1 + 1 + 1 + 1 + 1 + 1 + 1 + 1 + 1) = .inl (x_ca G 4, 16, .inr (.inl (fun _ => (0 : Int64)))) := by rw [ec46]; exact (va_up_ne _ _ (by omega)).trans f45_t_1_1_1_1_1_1_1_1_1_1_1_1_1
  have f46_t_1_1_1_1_1_1_1_1_1_1_1_1_1_1 : c46 (t + 1 + 1 + 1 + 1 + 1 + 1 + 1 + 1 + 1 + 1 + 1 + 1 + 1 + 1) = .inl (x_ca G 0, 40, .inl (fun _ => (0 : Int32))) := by rw [ec46]; exact (va_up_ne _ _ (by omega)).trans f45_t_1_1_1_1_1_1_1_1_1_1_1_1_1_1
  have f46_t_1_1_1_1_1_1_1_1_1_1_1_1_1_1_1 : c46 (t + 1 + 1 + 1 + 1 + 1 + 1 + 1 + 1 + 1 + 1 + 1 + 1 + 1 + 1 + 1) = .inl (x_ca G 0, 16, .inl (fun _ => (0 : Int32))) := by rw [ec46]; exact (va_up_ne _ _ (by omega)).trans f45_t_1_1_1_1_1_1_1_1_1_1_1_1_1_1_1
  have f46_t_1_1_1_1_1_1_1_1_1_1_1_1_1_1_1_1 : c46 (t + 1 + 1 + 1 + 1 + 1 + 1 + 1 + 1 + 1 + 1 + 1 + 1 + 1 + 1 + 1 + 1) = .inl (x_ca G 0, 16, .inl (fun _ => (0 : Int32))) := by rw [ec46]; exact (va_up_ne _ _ (by omega)).trans f45_t_1_1_1_1_1_1_1_1_1_1_1_1_1_1_1_1
  have f46_t_1_1_1_1_1_1_1_1_1_1_1_1_1_1_1_1_1 : c46 (t + 1 + 1 + 1 + 1 + 1 + 1 + 1 + 1 + 1 + 1 + 1 + 1 + 1 + 1 + 1 + 1 + 1) = .inl (x_ca G 0, 64, .inl (fun _ => (0 : Int32))) := by rw [ec46]; exact (va_up_ne _ _ (by omega)).trans f45_t_1_1_1_1_1_1_1_1_1_1_1_1_1_1_1_1_1
  have f46_t_1_1_1_1_1_1_1_1_1_1_1_1_1_1_1_1_1_1 : c46 (t + 1 + 1 + 1 + 1 + 1 + 1 + 1 + 1 + 1 + 1 + 1 + 1 + 1 + 1 + 1 + 1 + 1 + 1) = .inl (x_ca G 0, 8, .inl (fun _ => (0 : Int32))) := by rw [ec46]; exact (va_up_ne _ _ (by omega)).trans f45_t_1_1_1_1_1_1_1_1_1_1_1_1_1_1_1_1_1_1
  have f46_t_1_1_1_1_1_1_1_1_1_1_1_1_1_1_1_1_1_1_1 : c46 (t + 1 + 1 + 1 + 1 + 1 + 1 + 1 + 1 + 1 + 1 + 1 + 1 + 1 + 1 + 1 + 1 + 1 + 1 + 1) = .inl (x_ca G 0, 64, .inl (fun _ => (0 : Int32))) := by rw [ec46]; exact (va_up_ne _ _ (by omega)).trans f45_t_1_1_1_1_1_1_1_1_1_1_1_1_1_1_1_1_1_1_1
  have f46_t_1_1_1_1_1_1_1_1_1_1_1_1_1_1_1_1_1_1_1_1 : c46 (t + 1 + 1 + 1 + 1 + 1 + 1 + 1 + 1 + 1 + 1 + 1 + 1 + 1 + 1 + 1 + 1 + 1 + 1 + 1 + 1) = .inl (x_ca G 0, 8, .inl (fun _ => (0 : Int32))) := by rw [ec46]; exact (va_up_ne _ _ (by omega)).trans f45_t_1_1_1_1_1_1_1_1_1_1_1_1_1_1_1_1_1_1_1_1
  have f46_t_1_1_1_1_1_1_1_1_1_1_1_1_1_1_1_1_1_1_1_1_1 : c46 (t + 1 + 1 + 1 + 1 + 1 + 1 + 1 + 1 + 1 + 1 + 1 + 1 + 1 + 1 + 1 + 1 + 1 + 1 + 1 + 1 + 1) = .inl (x_ca G 0, 128, .inl (fun _ => (0 : Int32))) := by rw [ec46]; exact (va_up_ne _ _ (by omega)).trans f45_t_1_1_1_1_1_1_1_1_1_1_1_1_1_1_1_1_1_1_1_1_1
  have f46_t_1_1_1_1_1_1_1_1_1_1_1_1_1_1_1_1_1_1_1_1_1_1 : c46 (t + 1 + 1 + 1 + 1 + 1 + 1 + 1 + 1 + 1 + 1 + 1 + 1 + 1 + 1 + 1 + 1 + 1 + 1 + 1 + 1 + 1 + 1) = .inl (x_ca G 0, 8, .inl (fun _ => (0 : Int32))) := by rw [ec46]; exact va_up_self _ _ _
  have g46 : ∀ j, j < t → j ≠ k → c46 j = c j := fun j h1 h2 => by rw [ec46]; exact (va_up_ne _ _ (by omega)).trans (g45 j h1 h2)
  clear f45_k f45_t f45_t_1 f45_t_1_1 f45_t_1_1_1 f45_t_1_1_1_1 f45_t_1_1_1_1_1 f45_t_1_1_1_1_1_1 f45_t_1_1_1_1_1_1_1 f45_t_1_1_1_1_1_1_1_1 f45_t_1_1_1_1_1_1_1_1_1 f45_t_1_1_1_1_1_1_1_1_1_1 f45_t_1_1_1_1_1_1_1_1_1_1_1 f45_t_1_1_1_1_1_1_1_1_1_1_1_1 f45_t_1_1_1_1_1_1_1_1_1_1_1_1_1 f45_t_1_1_1_1_1_1_1_1_1_1_1_1_1_1 f45_t_1_1_1_1_1_1_1_1_1_1_1_1_1_1_1 f45_t_1_1_1_1_1_1_1_1_1_1_1_1_1_1_1_1 f45_t_1_1_1_1_1_1_1_1_1_1_1_1_1_1_1_1_1 f45_t_1_1_1_1_1_1_1_1_1_1_1_1_1_1_1_1_1_1 f45_t_1_1_1_1_1_1_1_1_1_1_1_1_1_1_1_1_1_1_1 f45_t_1_1_1_1_1_1_1_1_1_1_1_1_1_1_1_1_1_1_1_1 f45_t_1_1_1_1_1_1_1_1_1_1_1_1_1_1_1_1_1_1_1_1_1 g45 ec46
  refine va_putF (D := x_D G) (ci := 5) (v := .ref q23) (ty := .array .int) (C := "ContentLibraryModel") (T := x_TM) (N := 31) hx hb hts x_inM x_tyM x_tyM_ok x_nmM hown hK hP hD hS k (y_at (by omega) a23_k f46_k) rfl 28 (by decide) (hts _ t_700) (fun _ h9 => h9) rfl hin rfl (by decide +kernel) rfl rfl (Nat.le_of_ble_eq_true rfl) d_M_init_194 (fun H locs hP hD hS => ?_)
  rw [y_set (by omega) a23_k] at hP hD
  obtain ⟨c47, ec47⟩ : ∃ c47, c47 = va_up c46 k (.inr (5, ([.int 0, .int 0, .ref q1, .int 0, .int (-1 : Int32), .ref q2, .ref q3, .ref q4, .ref q5, .ref q6, .ref q7, .ref q8, .ref q9, .ref q10, .ref q11, .ref q12, .ref q13, .ref q14, .ref q15, .int 0, .ref q16, .ref q17, .ref q18, .ref q19, .ref q20, .ref q21, .ref q22, .int 0, .null, .null, .null] : List Value).set 28 (.ref q23))) := ⟨_, rfl⟩
  rw [← ec47] at hP hD
  have f47_t : c47 t = .inl (x_ca G 0, 2560, .inl (fun _ => (0 : Int32))) := by rw [ec47]; exact (va_up_ne _ _ (by omega)).trans f46_t
  have f47_t_1 : c47 (t + 1) = .inl (x_ca G 1, 8, .inl (fun _ => (0 : Int32))) := by rw [ec47]; exact (va_up_ne _ _ (by omega)).trans f46_t_1
  have f47_t_1_1 : c47 (t + 1 + 1) = .inl (x_ca G 0, 8, .inl (fun _ => (0 : Int32))) := by rw [ec47]; exact (va_up_ne _ _ (by omega)).trans f46_t_1_1
  have f47_t_1_1_1 : c47 (t + 1 + 1 + 1) = .inl (x_ca G 0, 8, .inl (fun _ => (0 : Int32))) := by rw [ec47]; exact (va_up_ne _ _ (by omega)).trans f46_t_1_1_1
  have f47_t_1_1_1_1 : c47 (t + 1 + 1 + 1 + 1) = .inl (x_ca G 0, 8, .inl (fun _ => (0 : Int32))) := by rw [ec47]; exact (va_up_ne _ _ (by omega)).trans f46_t_1_1_1_1
  have f47_t_1_1_1_1_1 : c47 (t + 1 + 1 + 1 + 1 + 1) = .inl (x_ca G 0, 512, .inl (fun _ => (0 : Int32))) := by rw [ec47]; exact (va_up_ne _ _ (by omega)).trans f46_t_1_1_1_1_1
  have f47_t_1_1_1_1_1_1 : c47 (t + 1 + 1 + 1 + 1 + 1 + 1) = .inl (x_ca G 1, 16, .inl (fun _ => (0 : Int32))) := by rw [ec47]; exact (va_up_ne _ _ (by omega)).trans f46_t_1_1_1_1_1_1
  have f47_t_1_1_1_1_1_1_1 : c47 (t + 1 + 1 + 1 + 1 + 1 + 1 + 1) = .inl (x_ca G 0, 16, .inl (fun _ => (0 : Int32))) := by rw [ec47]; exact (va_up_ne _ _ (by omega)).trans f46_t_1_1_1_1_1_1_1
  have f47_t_1_1_1_1_1_1_1_1 : c47 (t + 1 + 1 + 1 + 1 + 1 + 1 + 1 + 1) = .inl (x_ca G 0, 16, .inl (fun _ => (0 : Int32))) := by rw [ec47]; exact (va_up_ne _ _ (by omega)).trans f46_t_1_1_1_1_1_1_1_1
  have f47_t_1_1_1_1_1_1_1_1_1 : c47 (t + 1 + 1 + 1 + 1 + 1 + 1 + 1 + 1 + 1) = .inl (x_ca G 0, 1024, .inl (fun _ => (0 : Int32))) := by rw [ec47]; exact (va_up_ne _ _ (by omega)).trans f46_t_1_1_1_1_1_1_1_1_1
  have f47_t_1_1_1_1_1_1_1_1_1_1 : c47 (t + 1 + 1 + 1 + 1 + 1 + 1 + 1 + 1 + 1 + 1) = .inl (x_ca G 0, 16, .inl (fun _ => (0 : Int32))) := by rw [ec47]; exact (va_up_ne _ _ (by omega)).trans f46_t_1_1_1_1_1_1_1_1_1_1
  have f47_t_1_1_1_1_1_1_1_1_1_1_1 : c47 (t + 1 + 1 + 1 + 1 + 1 + 1 + 1 + 1 + 1 + 1 + 1) = .inl (x_ca G 0, 16, .inl (fun _ => (0 : Int32))) := by rw [ec47]; exact (va_up_ne _ _ (by omega)).trans f46_t_1_1_1_1_1_1_1_1_1_1_1
  have f47_t_1_1_1_1_1_1_1_1_1_1_1_1 : c47 (t + 1 + 1 + 1 + 1 + 1 + 1 + 1 + 1 + 1 + 1 + 1 + 1) = .inl (x_ca G 0, 32, .inl (fun _ => (0 : Int32))) := by rw [ec47]; exact (va_up_ne _ _ (by omega)).trans f46_t_1_1_1_1_1_1_1_1_1_1_1_1
  have f47_t_1_1_1_1_1_1_1_1_1_1_1_1_1 : c47 (t + 1 + 1 + 1 + 1 + 1 + 1 + 1 + 1 + 1 + 1 + 1 + 1 + 1) = .inl (x_ca G 4, 16, .inr (.inl (fun _ => (0 : Int64)))) := by rw [ec47]; exact (va_up_ne _ _ (by omega)).trans f46_t_1_1_1_1_1_1_1_1_1_1_1_1_1
  have f47_t_1_1_1_1_1_1_1_1_1_1_1_1_1_1 : c47 (t + 1 + 1 + 1 + 1 + 1 + 1 + 1 + 1 + 1 + 1 + 1 + 1 + 1 + 1) = .inl (x_ca G 0, 40, .inl (fun _ => (0 : Int32))) := by rw [ec47]; exact (va_up_ne _ _ (by omega)).trans f46_t_1_1_1_1_1_1_1_1_1_1_1_1_1_1
  have f47_t_1_1_1_1_1_1_1_1_1_1_1_1_1_1_1 : c47 (t + 1 + 1 + 1 + 1 + 1 + 1 + 1 + 1 + 1 + 1 + 1 + 1 + 1 + 1 + 1) = .inl (x_ca G 0, 16, .inl (fun _ => (0 : Int32))) := by rw [ec47]; exact (va_up_ne _ _ (by omega)).trans f46_t_1_1_1_1_1_1_1_1_1_1_1_1_1_1_1
  have f47_t_1_1_1_1_1_1_1_1_1_1_1_1_1_1_1_1 : c47 (t + 1 + 1 + 1 + 1 + 1 + 1 + 1 + 1 + 1 + 1 + 1 + 1 + 1 + 1 + 1 + 1) = .inl (x_ca G 0, 16, .inl (fun _ => (0 : Int32))) := by rw [ec47]; exact (va_up_ne _ _ (by omega)).trans f46_t_1_1_1_1_1_1_1_1_1_1_1_1_1_1_1_1
  have f47_t_1_1_1_1_1_1_1_1_1_1_1_1_1_1_1_1_1 : c47 (t + 1 + 1 + 1 + 1 + 1 + 1 + 1 + 1 + 1 + 1 + 1 + 1 + 1 + 1 + 1 + 1 + 1) = .inl (x_ca G 0, 64, .inl (fun _ => (0 : Int32))) := by rw [ec47]; exact (va_up_ne _ _ (by omega)).trans f46_t_1_1_1_1_1_1_1_1_1_1_1_1_1_1_1_1_1
  have f47_t_1_1_1_1_1_1_1_1_1_1_1_1_1_1_1_1_1_1 : c47 (t + 1 + 1 + 1 + 1 + 1 + 1 + 1 + 1 + 1 + 1 + 1 + 1 + 1 + 1 + 1 + 1 + 1 + 1) = .inl (x_ca G 0, 8, .inl (fun _ => (0 : Int32))) := by rw [ec47]; exact (va_up_ne _ _ (by omega)).trans f46_t_1_1_1_1_1_1_1_1_1_1_1_1_1_1_1_1_1_1
  have f47_t_1_1_1_1_1_1_1_1_1_1_1_1_1_1_1_1_1_1_1 : c47 (t + 1 + 1 + 1 + 1 + 1 + 1 + 1 + 1 + 1 + 1 + 1 + 1 + 1 + 1 + 1 + 1 + 1 + 1 + 1) = .inl (x_ca G 0, 64, .inl (fun _ => (0 : Int32))) := by rw [ec47]; exact (va_up_ne _ _ (by omega)).trans f46_t_1_1_1_1_1_1_1_1_1_1_1_1_1_1_1_1_1_1_1
  have f47_t_1_1_1_1_1_1_1_1_1_1_1_1_1_1_1_1_1_1_1_1 : c47 (t + 1 + 1 + 1 + 1 + 1 + 1 + 1 + 1 + 1 + 1 + 1 + 1 + 1 + 1 + 1 + 1 + 1 + 1 + 1 + 1) = .inl (x_ca G 0, 8, .inl (fun _ => (0 : Int32))) := by rw [ec47]; exact (va_up_ne _ _ (by omega)).trans f46_t_1_1_1_1_1_1_1_1_1_1_1_1_1_1_1_1_1_1_1_1
  have f47_t_1_1_1_1_1_1_1_1_1_1_1_1_1_1_1_1_1_1_1_1_1 : c47 (t + 1 + 1 + 1 + 1 + 1 + 1 + 1 + 1 + 1 + 1 + 1 + 1 + 1 + 1 + 1 + 1 + 1 + 1 + 1 + 1 + 1) = .inl (x_ca G 0, 128, .inl (fun _ => (0 : Int32))) := by rw [ec47]; exact (va_up_ne _ _ (by omega)).trans f46_t_1_1_1_1_1_1_1_1_1_1_1_1_1_1_1_1_1_1_1_1_1
  have f47_t_1_1_1_1_1_1_1_1_1_1_1_1_1_1_1_1_1_1_1_1_1_1 : c47 (t + 1 + 1 + 1 + 1 + 1 + 1 + 1 + 1 + 1 + 1 + 1 + 1 + 1 + 1 + 1 + 1 + 1 + 1 + 1 + 1 + 1 + 1) = .inl (x_ca G 0, 8, .inl (fun _ => (0 : Int32))) := by rw [ec47]; exact (va_up_ne _ _ (by omega)).trans f46_t_1_1_1_1_1_1_1_1_1_1_1_1_1_1_1_1_1_1_1_1_1_1
  have f47_k : c47 k = .inr (5, [.int 0, .int 0, .ref q1, .int 0, .int (-1 : Int32), .ref q2, .ref q3, .ref q4, .ref q5, .ref q6, .ref q7, .ref q8, .ref q9, .ref q10, .ref q11, .ref q12, .ref q13, .ref q14, .ref q15, .int 0, .ref q16, .ref q17, .ref q18, .ref q19, .ref q20, .ref q21, .ref q22, .int 0, .ref q23, .null, .null]) := by rw [ec47]; exact va_up_self _ _ _
  have g47 : ∀ j, j < t → j ≠ k → c47 j = c j := fun j h1 h2 => by rw [ec47]; exact (va_up_ne _ _ (by omega)).trans (g46 j h1 h2)
  clear f46_k f46_t f46_t_1 f46_t_1_1 f46_t_1_1_1 f46_t_1_1_1_1 f46_t_1_1_1_1_1 f46_t_1_1_1_1_1_1 f46_t_1_1_1_1_1_1_1 f46_t_1_1_1_1_1_1_1_1 f46_t_1_1_1_1_1_1_1_1_1 f46_t_1_1_1_1_1_1_1_1_1_1 f46_t_1_1_1_1_1_1_1_1_1_1_1 f46_t_1_1_1_1_1_1_1_1_1_1_1_1 f46_t_1_1_1_1_1_1_1_1_1_1_1_1_1 f46_t_1_1_1_1_1_1_1_1_1_1_1_1_1_1 f46_t_1_1_1_1_1_1_1_1_1_1_1_1_1_1_1 f46_t_1_1_1_1_1_1_1_1_1_1_1_1_1_1_1_1 f46_t_1_1_1_1_1_1_1_1_1_1_1_1_1_1_1_1_1 f46_t_1_1_1_1_1_1_1_1_1_1_1_1_1_1_1_1_1_1 f46_t_1_1_1_1_1_1_1_1_1_1_1_1_1_1_1_1_1_1_1 f46_t_1_1_1_1_1_1_1_1_1_1_1_1_1_1_1_1_1_1_1_1 f46_t_1_1_1_1_1_1_1_1_1_1_1_1_1_1_1_1_1_1_1_1_1 f46_t_1_1_1_1_1_1_1_1_1_1_1_1_1_1_1_1_1_1_1_1_1_1 g46 ec47
  refine lv_aload_n hx hb d_M_init_197 rfl (lv_at hl 0 rfl) ?_
  refine lv_iconst (v := (3 : Int32)) hx hb d_M_init_198 (by decide) ?_
  refine va_newa (atype := .int) hx hb (hts _ t_58) (ty := .int) rfl hK hP hD hS hA (N' := 3) (a0 := (3, .inl (fun _ => (0 : Int32)))) (fun _ => rfl) (by decide) (by decide) (by decide) (Nat.le_of_ble_eq_true rfl) (Nat.le_of_ble_eq_true rfl) d_M_init_199 (fun q24 cA H hK2 hP hD hS => ?_)
  obtain rfl := y_caI hK2
  rw [y_push] at hP hD
  obtain ⟨ad24, ead24⟩ : ∃ a1, a1 = va_up ad23 (t + 1 + 1 + 1 + 1 + 1 + 1 + 1 + 1 + 1 + 1 + 1 + 1 + 1 + 1 + 1 + 1 + 1 + 1 + 1 + 1 + 1 + 1 + 1) q24 := ⟨_, rfl⟩
  rw [← ead24] at hP hD
  have a24_k : ad24 k = (ad k) := by rw [ead24]; exact (va_up_ne _ _ (by omega)).trans a23_k
  have a24_t : ad24 t = q1 := by rw [ead24]; exact (va_up_ne _ _ (by omega)).trans a23_t
  have a24_t_1 : ad24 (t + 1) = q2 := by rw [ead24]; exact (va_up_ne _ _ (by omega)).trans a23_t_1
  have a24_t_1_1 : ad24 (t + 1 + 1) = q3 := by rw [ead24]; exact (va_up_ne _ _ (by omega)).trans a23_t_1_1
  have a24_t_1_1_1 : ad24 (t + 1 + 1 + 1) = q4 := by rw [ead24]; exact (va_up_ne _ _ (by omega)).trans a23_t_1_1_1
  have a24_t_1_1_1_1 : ad24 (t + 1 + 1 + 1 + 1) = q5 := by rw [ead24]; exact (va_up_ne _ _ (by omega)).trans a23_t_1_1_1_1
  have a24_t_1_1_1_1_1 : ad24 (t + 1 + 1 + 1 + 1 + 1) = q6 := by rw [ead24]; exact (va_up_ne _ _ (by omega)).trans a23_t_1_1_1_1_1
  have a24_t_1_1_1_1_1_1 : ad24 (t + 1 + 1 + 1 + 1 + 1 + 1) = q7 := by rw [ead24]; exact (va_up_ne _ _ (by omega)).trans a23_t_1_1_1_1_1_1
  have a24_t_1_1_1_1_1_1_1 : ad24 (t + 1 + 1 + 1 + 1 + 1 + 1 + 1) = q8 := by rw [ead24]; exact (va_up_ne _ _ (by omega)).trans a23_t_1_1_1_1_1_1_1
  have a24_t_1_1_1_1_1_1_1_1 : ad24 (t + 1 + 1 + 1 + 1 + 1 + 1 + 1 + 1) = q9 := by rw [ead24]; exact (va_up_ne _ _ (by omega)).trans a23_t_1_1_1_1_1_1_1_1
  have a24_t_1_1_1_1_1_1_1_1_1 : ad24 (t + 1 + 1 + 1 + 1 + 1 + 1 + 1 + 1 + 1) = q10 := by rw [ead24]; exact (va_up_ne _ _ (by omega)).trans a23_t_1_1_1_1_1_1_1_1_1
  have a24_t_1_1_1_1_1_1_1_1_1_1 : ad24 (t + 1 + 1 + 1 + 1 + 1 + 1 + 1 + 1 + 1 + 1) = q11 := by rw [ead24]; exact (va_up_ne _ _ (by omega)).trans a23_t_1_1_1_1_1_1_1_1_1_1
  have a24_t_1_1_1_1_1_1_1_1_1_1_1 : ad24 (t + 1 + 1 + 1 + 1 + 1 + 1 + 1 + 1 + 1 + 1 + 1) = q12 := by rw [ead24]; exact (va_up_ne _ _ (by omega)).trans a23_t_1_1_1_1_1_1_1_1_1_1_1
  have a24_t_1_1_1_1_1_1_1_1_1_1_1_1 : ad24 (t + 1 + 1 + 1 + 1 + 1 + 1 + 1 + 1 + 1 + 1 + 1 + 1) = q13 := by rw [ead24]; exact (va_up_ne _ _ (by omega)).trans a23_t_1_1_1_1_1_1_1_1_1_1_1_1
  have a24_t_1_1_1_1_1_1_1_1_1_1_1_1_1 : ad24 (t + 1 + 1 + 1 + 1 + 1 + 1 + 1 + 1 + 1 + 1 + 1 + 1 + 1) = q14 := by rw [ead24]; exact (va_up_ne _ _ (by omega)).trans a23_t_1_1_1_1_1_1_1_1_1_1_1_1_1
  have a24_t_1_1_1_1_1_1_1_1_1_1_1_1_1_1 : ad24 (t + 1 + 1 + 1 + 1 + 1 + 1 + 1 + 1 + 1 + 1 + 1 + 1 + 1 + 1) = q15 := by rw [ead24]; exact (va_up_ne _ _ (by omega)).trans a23_t_1_1_1_1_1_1_1_1_1_1_1_1_1_1
  have a24_t_1_1_1_1_1_1_1_1_1_1_1_1_1_1_1 : ad24 (t + 1 + 1 + 1 + 1 + 1 + 1 + 1 + 1 + 1 + 1 + 1 + 1 + 1 + 1 + 1) = q16 := by rw [ead24]; exact (va_up_ne _ _ (by omega)).trans a23_t_1_1_1_1_1_1_1_1_1_1_1_1_1_1_1
  have a24_t_1_1_1_1_1_1_1_1_1_1_1_1_1_1_1_1 : ad24 (t + 1 + 1 + 1 + 1 + 1 + 1 + 1 + 1 + 1 + 1 + 1 + 1 + 1 + 1 + 1 + 1) = q17 := by rw [ead24]; exact (va_up_ne _ _ (by omega)).trans a23_t_1_1_1_1_1_1_1_1_1_1_1_1_1_1_1_1
  have a24_t_1_1_1_1_1_1_1_1_1_1_1_1_1_1_1_1_1 : ad24 (t + 1 + 1 + 1 + 1 + 1 + 1 + 1 + 1 + 1 + 1 + 1 + 1 + 1 + 1 + 1 + 1 + 1) = q18 := by rw [ead24]; exact (va_up_ne _ _ (by omega)).trans a23_t_1_1_1_1_1_1_1_1_1_1_1_1_1_1_1_1_1
  have a24_t_1_1_1_1_1_1_1_1_1_1_1_1_1_1_1_1_1_1 : ad24 (t + 1 + 1 + 1 + 1 + 1 + 1 + 1 + 1 + 1 + 1 + 1 + 1 + 1 + 1 + 1 + 1 + 1 + 1) = q19 := by rw [ead24]; exact (va_up_ne _ _ (by omega)).trans a23_t_1_1_1_1_1_1_1_1_1_1_1_1_1_1_1_1_1_1
  have a24_t_1_1_1_1_1_1_1_1_1_1_1_1_1_1_1_1_1_1_1 : ad24 (t + 1 + 1 + 1 + 1 + 1 + 1 + 1 + 1 + 1 + 1 + 1 + 1 + 1 + 1 + 1 + 1 + 1 + 1 + 1) = q20 := by rw [ead24]; exact (va_up_ne _ _ (by omega)).trans a23_t_1_1_1_1_1_1_1_1_1_1_1_1_1_1_1_1_1_1_1
  have a24_t_1_1_1_1_1_1_1_1_1_1_1_1_1_1_1_1_1_1_1_1 : ad24 (t + 1 + 1 + 1 + 1 + 1 + 1 + 1 + 1 + 1 + 1 + 1 + 1 + 1 + 1 + 1 + 1 + 1 + 1 + 1 + 1) = q21 := by rw [ead24]; exact (va_up_ne _ _ (by omega)).trans a23_t_1_1_1_1_1_1_1_1_1_1_1_1_1_1_1_1_1_1_1_1
  have a24_t_1_1_1_1_1_1_1_1_1_1_1_1_1_1_1_1_1_1_1_1_1 : ad24 (t + 1 + 1 + 1 + 1 + 1 + 1 + 1 + 1 + 1 + 1 + 1 + 1 + 1 + 1 + 1 + 1 + 1 + 1 + 1 + 1 + 1) = q22 := by rw [ead24]; exact (va_up_ne _ _ (by omega)).trans a23_t_1_1_1_1_1_1_1_1_1_1_1_1_1_1_1_1_1_1_1_1_1
  have a24_t_1_1_1_1_1_1_1_1_1_1_1_1_1_1_1_1_1_1_1_1_1_1 : ad24 (t + 1 + 1 + 1 + 1 + 1 + 1 + 1 + 1 + 1 + 1 + 1 + 1 + 1 + 1 + 1 + 1 + 1 + 1 + 1 + 1 + 1 + 1) = q23 := by rw [ead24]; exact (va_up_ne _ _ (by omega)).trans a23_t_1_1_1_1_1_1_1_1_1_1_1_1_1_1_1_1_1_1_1_1_1_1
  have a24_t_1_1_1_1_1_1_1_1_1_1_1_1_1_1_1_1_1_1_1_1_1_1_1 : ad24 (t + 1 + 1 + 1 + 1 + 1 + 1 + 1 + 1 + 1 + 1 + 1 + 1 + 1 + 1 + 1 + 1 + 1 + 1 + 1 + 1 + 1 + 1 + 1) = q24 := by rw [ead24]; exact va_up_self _ _ _
  have b24 : ∀ j, j < t → ad24 j = ad j := fun j h1 => by rw [ead24]; exact (va_up_ne _ _ (by omega)).trans (b23 j h1)
  clear a23_k a23_t a23_t_1 a23_t_1_1 a23_t_1_1_1 a23_t_1_1_1_1 a23_t_1_1_1_1_1 a23_t_1_1_1_1_1_1 a23_t_1_1_1_1_1_1_1 a23_t_1_1_1_1_1_1_1_1 a23_t_1_1_1_1_1_1_1_1_1 a23_t_1_1_1_1_1_1_1_1_1_1 a23_t_1_1_1_1_1_1_1_1_1_1_1 a23_t_1_1_1_1_1_1_1_1_1_1_1_1 a23_t_1_1_1_1_1_1_1_1_1_1_1_1_1 a23_t_1_1_1_1_1_1_1_1_1_1_1_1_1_1 a23_t_1_1_1_1_1_1_1_1_1_1_1_1_1_1_1 a23_t_1_1_1_1_1_1_1_1_1_1_1_1_1_1_1_1 a23_t_1_1_1_1_1_1_1_1_1_1_1_1_1_1_1_1_1 a23_t_1_1_1_1_1_1_1_1_1_1_1_1_1_1_1_1_1_1 a23_t_1_1_1_1_1_1_1_1_1_1_1_1_1_1_1_1_1_1_1 a23_t_1_1_1_1_1_1_1_1_1_1_1_1_1_1_1_1_1_1_1_1 a23_t_1_1_1_1_1_1_1_1_1_1_1_1_1_1_1_1_1_1_1_1_1 a23_t_1_1_1_1_1_1_1_1_1_1_1_1_1_1_1_1_1_1_1_1_1_1 b23 ead24
  obtain ⟨c48, ec48⟩ : ∃ c48, c48 = va_up c47 (t + 1 + 1 + 1 + 1 + 1 + 1 + 1 + 1 + 1 + 1 + 1 + 1 + 1 + 1 + 1 + 1 + 1 + 1 + 1 + 1 + 1 + 1 + 1) (.inl (x_ca G 0, 3, .inl (fun _ => (0 : Int32)))) := ⟨_, rfl⟩
  rw [← ec48] at hP hD
  have f48_k : c48 k = .inr (5, [.int 0, .int 0, .ref q1, .int 0, .int (-1 : Int32), .ref q2, .ref q3, .ref q4, .ref q5, .ref q6, .ref q7, .ref q8, .ref q9, .ref q10, .ref q11, .ref q12, .ref q13, .ref q14, .ref q15, .int 0, .ref q16, .ref q17, .ref q18, .ref q19, .ref q20, .ref q21, .ref q22, .int 0, .ref q23, .null, .null]) := by rw [ec48]; exact (va_up_ne _ _ (by omega)).trans f47_k
  have f48_t : c48 t = .inl (x_ca G 0, 2560, .inl (fun _ => (0 : Int32))) := by rw [ec48]; exact (va_up_ne _ _ (by omega)).trans f47_t
  have f48_t_1 : c48 (t + 1) = .inl (x_ca G 1, 8, .inl (fun _ => (0 : Int32))) := by rw [ec48]; exact (va_up_ne _ _ (by omega)).trans f47_t_1
  have f48_t_1_1 : c48 (t + 1 + 1) = .inl (x_ca G 0, 8, .inl (fun _ => (0 : Int32))) := by rw [ec48]; exact (va_up_ne _ _ (by omega)).trans f47_t_1_1
  have f48_t_1_1_1 : c48 (t + 1 + 1 + 1) = .inl (x_ca G 0, 8, .inl (fun _ => (0 : Int32))) := by rw [ec48]; exact (va_up_ne _ _ (by omega)).trans f47_t_1_1_1
  have f48_t_1_1_1_1 : c48 (t + 1 + 1 + 1 + 1) = .inl (x_ca G 0, 8, .inl (fun _ => (0 : Int32))) := by rw [ec48]; exact (va_up_ne _ _ (by omega)).trans f47_t_1_1_1_1
  have f48_t_1_1_1_1_1 : c48 (t + 1 + 1 + 1 + 1 + 1) = .inl (x_ca G 0, 512, .inl (fun _ => (0 : Int32))) := by rw [ec48]; exact (va_up_ne _ _ (by omega)).trans f47_t_1_1_1_1_1
  have f48_t_1_1_1_1_1_1 : c48 (t + 1 + 1 + 1 + 1 + 1 + 1) = .inl (x_ca G 1, 16, .inl (fun _ => (0 : Int32))) := by rw [ec48]; exact (va_up_ne _ _ (by omega)).trans f47_t_1_1_1_1_1_1
  have f48_t_1_1_1_1_1_1_1 : c48 (t + 1 + 1 + 1 + 1 + 1 + 1 + 1) = .inl (x_ca G 0, 16, .inl (fun _ => (0 : Int32))) := by rw [ec48]; exact (va_up_ne _ _ (by omega)).trans f47_t_1_1_1_1_1_1_1
  have f48_t_1_1_1_1_1_1_1_1 : c48 (t + 1 + 1 + 1 + 1 + 1 + 1 + 1 + 1) = .inl (x_ca G 0, 16, .inl (fun _ => (0 : Int32))) := by rw [ec48]; exact (va_up_ne _ _ (by omega)).trans f47_t_1_1_1_1_1_1_1_1
  have f48_t_1_1_1_1_1_1_1_1_1 : c48 (t + 1 + 1 + 1 + 1 + 1 + 1 + 1 + 1 + 1) = .inl (x_ca G 0, 1024, .inl (fun _ => (0 : Int32))) := by rw [ec48]; exact (va_up_ne _ _ (by omega)).trans f47_t_1_1_1_1_1_1_1_1_1
  have f48_t_1_1_1_1_1_1_1_1_1_1 : c48 (t + 1 + 1 + 1 + 1 + 1 + 1 + 1 + 1 + 1 + 1) = .inl (x_ca G 0, 16, .inl (fun _ => (0 : Int32))) := by rw [ec48]; exact (va_up_ne _ _ (by omega)).trans f47_t_1_1_1_1_1_1_1_1_1_1
  have f48_t_1_1_1_1_1_1_1_1_1_1_1 : c48 (t + 1 + 1 + 1 + 1 + 1 + 1 + 1 + 1 + 1 + 1 + 1) = .inl (x_ca G 0, 16, .inl (fun _ => (0 : Int32))) := by rw [ec48]; exact (va_up_ne _ _ (by omega)).trans f47_t_1_1_1_1_1_1_1_1_1_1_1
  have f48_t_1_1_1_1_1_1_1_1_1_1_1_1 : c48 (t + 1 + 1 + 1 + 1 + 1 + 1 + 1 + 1 + 1 + 1 + 1 + 1) = .inl (x_ca G 0, 32, .inl (fun _ => (0 : Int32))) := by rw [ec48]; exact (va_up_ne _ _ (by omega)).trans f47_t_1_1_1_1_1_1_1_1_1_1_1_1
  have f48_t_1_1_1_1_1_1_1_1_1_1_1_1_1 : c48 (t + 1 + 1 + 1 + 1 + 1 + 1 + 1 + 1 + 1 + 1 + 1 + 1 + 1) = .inl (x_ca G 4, 16, .inr (.inl (fun _ => (0 : Int64)))) := by rw [ec48]; exact (va_up_ne _ _ (by omega)).trans f47_t_1_1_1_1_1_1_1_1_1_1_1_1_1
  have f48_t_1_1_1_1_1_1_1_1_1_1_1_1_1_1 : c48 (t + 1 + 1 + 1 + 1 + 1 + 1 + 1 + 1 + 1 + 1 + 1 + 1 + 1 + 1) = .inl (x_ca G 0, 40, .inl (fun _ => (0 : Int32))) := by rw [ec48]; exact (va_up_ne _ _ (by omega)).trans f47_t_1_1_1_1_1_1_1_1_1_1_1_1_1_1
  have f48_t_1_1_1_1_1_1_1_1_1_1_1_1_1_1_1 : c48 (t + 1 + 1 + 1 + 1 + 1 + 1 + 1 + 1 + 1 + 1 + 1 + 1 + 1 + 1 + 1) = .inl (x_ca G 0, 16, .inl (fun _ => (0 : Int32))) := by rw [ec48]; exact (va_up_ne _ _ (by omega)).trans f47_t_1_1_1_1_1_1_1_1_1_1_1_1_1_1_1
  have f48_t_1_1_1_1_1_1_1_1_1_1_1_1_1_1_1_1 : c48 (t + 1 + 1 + 1 + 1 + 1 + 1 + 1 + 1 + 1 + 1 + 1 + 1 + 1 + 1 + 1 + 1) = .inl (x_ca G 0, 16, .inl (fun _ => (0 : Int32))) := by rw [ec48]; exact (va_up_ne _ _ (by omega)).trans f47_t_1_1_1_1_1_1_1_1_1_1_1_1_1_1_1_1
  have f48_t_1_1_1_1_1_1_1_1_1_1_1_1_1_1_1_1_1 : c48 (t + 1 + 1 + 1 + 1 + 1 + 1 + 1 + 1 + 1 + 1 + 1 + 1 + 1 + 1 + 1 + 1 + 1) = .inl (x_ca G 0, 64, .inl (fun _ => (0 : Int32))) := by rw [ec48]; exact (va_up_ne _ _ (by omega)).trans f47_t_1_1_1_1_1_1_1_1_1_1_1_1_1_1_1_1_1
  have f48_t_1_1_1_1_1_1_1_1_1_1_1_1_1_1_1_1_1_1 : c48 (t + 1 + 1 + 1 + 1 + 1 + 1 + 1 + 1 + 1 + 1 + 1 + 1 + 1 + 1 + 1 + 1 + 1 + 1) = .inl (x_ca G 0, 8, .inl (fun _ => (0 : Int32))) := by rw [ec48]; exact (va_up_ne _ _ (by omega)).trans f47_t_1_1_1_1_1_1_1_1_1_1_1_1_1_1_1_1_1_1
  have f48_t_1_1_1_1_1_1_1_1_1_1_1_1_1_1_1_1_1_1_1 : c48 (t + 1 + 1 + 1 + 1 + 1 + 1 + 1 + 1 + 1 + 1 + 1 + 1 + 1 + 1 + 1 + 1 + 1 + 1 + 1) = .inl (x_ca G 0, 64, .inl (fun _ => (0 : Int32))) := by rw [ec48]; exact (va_up_ne _ _ (by omega)).trans f47_t_1_1_1_1_1_1_1_1_1_1_1_1_1_1_1_1_1_1_1
  have f48_t_1_1_1_1_1_1_1_1_1_1_1_1_1_1_1_1_1_1_1_1 : c48 (t + 1 + 1 + 1 + 1 + 1 + 1 + 1 + 1 + 1 + 1 + 1 + 1 + 1 + 1 + 1 + 1 + 1 + 1 + 1 + 1) = .inl (x_ca G 0, 8, .inl (fun _ => (0 : Int32))) := by rw [ec48]; exact (va_up_ne _ _ (by omega)).trans f47_t_1_1_1_1_1_1_1_1_1_1_1_1_1_1_1_1_1_1_1_1
  have f48_t_1_1_1_1_1_1_1_1_1_1_1_1_1_1_1_1_1_1_1_1_1 : c48 (t + 1 + 1 + 1 + 1 + 1 + 1 + 1 + 1 + 1 + 1 + 1 + 1 + 1 + 1 + 1 + 1 + 1 + 1 + 1 + 1 + 1) = .inl (x_ca G 0, 128, .inl (fun _ => (0 : Int32))) := by rw [ec48]; exact (va_up_ne _ _ (by omega)).trans f47_t_1_1_1_1_1_1_1_1_1_1_1_1_1_1_1_1_1_1_1_1_1
  have f48_t_1_1_1_1_1_1_1_1_1_1_1_1_1_1_1_1_1_1_1_1_1_1 : c48 (t + 1 + 1 + 1 + 1 + 1 + 1 + 1 + 1 + 1 + 1 + 1 + 1 + 1 + 1 + 1 + 1 + 1 + 1 + 1 + 1 + 1 + 1) = .inl (x_ca G 0, 8, .inl (fun _ => (0 : Int32))) := by rw [ec48]; exact (va_up_ne _ _ (by omega)).trans f47_t_1_1_1_1_1_1_1_1_1_1_1_1_1_1_1_1_1_1_1_1_1_1
  have f48_t_1_1_1_1_1_1_1_1_1_1_1_1_1_1_1_1_1_1_1_1_1_1_1 : c48 (t + 1 + 1 + 1 + 1 + 1 + 1 + 1 + 1 + 1 + 1 + 1 + 1 + 1 + 1 + 1 + 1 + 1 + 1 + 1 + 1 + 1 + 1 + 1) = .inl (x_ca G 0, 3, .inl (fun _ => (0 : Int32))) := by rw [ec48]; exact va_up_self _ _ _
  have g48 : ∀ j, j < t → j ≠ k → c48 j = c j := fun j h1 h2 => by rw [ec48]; exact (va_up_ne _ _ (by omega)).trans (g47 j h1 h2)
  clear f47_k f47_t f47_t_1 f47_t_1_1 f47_t_1_1_1 f47_t_1_1_1_1 f47_t_1_1_1_1_1 f47_t_1_1_1_1_1_1 f47_t_1_1_1_1_1_1_1 f47_t_1_1_1_1_1_1_1_1 f47_t_1_1_1_1_1_1_1_1_1 f47_t_1_1_1_1_1_1_1_1_1_1 f47_t_1_1_1_1_1_1_1_1_1_1_1 f47_t_1_1_1_1_1_1_1_1_1_1_1_1 f47_t_1_1_1_1_1_1_1_1_1_1_1_1_1 f47_t_1_1_1_1_1_1_1_1_1_1_1_1_1_1 f47_t_1_1_1_1_1_1_1_1_1_1_1_1_1_1_1 f47_t_1_1_1_1_1_1_1_1_1_1_1_1_1_1_1_1 f47_t_1_1_1_1_1_1_1_1_1_1_1_1_1_1_1_1_1 f47_t_1_1_1_1_1_1_1_1_1_1_1_1_1_1_1_1_1_1 f47_t_1_1_1_1_1_1_1_1_1_1_1_1_1_1_1_1_1_1_1 f47_t_1_1_1_1_1_1_1_1_1_1_1_1_1_1_1_1_1_1_1_1 f47_t_1_1_1_1_1_1_1_1_1_1_1_1_1_1_1_1_1_1_1_1_1 f47_t_1_1_1_1_1_1_1_1_1_1_1_1_1_1_1_1_1_1_1_1_1_1 g47 ec48
  refine va_putF (D := x_D G) (ci := 5) (v := .ref q24) (ty := .array .int) (C := "ContentLibraryModel") (T := x_TM) (N := 31) hx hb hts x_inM x_tyM x_tyM_ok x_nmM hown hK hP hD hS k (y_at (by omega) a24_k f48_k) rfl 29 (by decide) (hts _ t_701) (fun _ h9 => h9) rfl hin rfl (by decide +kernel) rfl rfl (Nat.le_of_ble_eq_true rfl) d_M_init_201 (fun H locs hP hD hS => ?_)
  rw [y_set (by omega) a24_k] at hP hD
  obtain ⟨c49, ec49⟩ : ∃ c49, c49 = va_up c48 k (.inr (5, ([.int 0, .int 0, .ref q1, .int 0, .int (-1 : Int32), .ref q2, .ref q3, .ref q4, .ref q5, .ref q6, .ref q7, .ref q8, .ref q9, .ref q10, .ref q11, .ref q12, .ref q13, .ref q14, .ref q15, .int 0, .ref q16, .ref q17, .ref q18, .ref q19, .ref q20, .ref q21, .ref q22, .int 0, .ref q23, .null, .null] : List Value).set 29 (.ref q24))) := ⟨_, rfl⟩
  rw [← ec49] at hP hD
  have f49_t : c49 t = .inl (x_ca G 0, 2560, .inl (fun _ => (0 : Int32))) := by rw [ec49]; exact (va_up_ne _ _ (by omega)).trans f48_t
  have f49_t_1 : c49 (t + 1) = .inl (x_ca G 1, 8, .inl (fun _ => (0 : Int32))) := by rw [ec49]; exact (va_up_ne _ _ (by omega)).trans f48_t_1
  have f49_t_1_1 : c49 (t + 1 + 1) = .inl (x_ca G 0, 8, .inl (fun _ => (0 : Int32))) := by rw [ec49]; exact (va_up_ne _ _ (by omega)).trans f48_t_1_1
  have f49_t_1_1_1 : c49 (t + 1 + 1 + 1) = .inl (x_ca G 0, 8, .inl (fun _ => (0 : Int32))) := by rw [ec49]; exact (va_up_ne _ _ (by omega)).trans f48_t_1_1_1
  have f49_t_1_1_1_1 : c49 (t + 1 + 1 + 1 + 1) = .inl (x_ca G 0, 8, .inl (fun _ => (0 : Int32))) := by rw [ec49]; exact (va_up_ne _ _ (by omega)).trans f48_t_1_1_1_1
  have f49_t_1_1_1_1_1 : c49 (t + 1 + 1 + 1 + 1 + 1) = .inl (x_ca G 0, 512, .inl (fun _ => (0 : Int32))) := by rw [ec49]; exact (va_up_ne _ _ (by omega)).trans f48_t_1_1_1_1_1
  have f49_t_1_1_1_1_1_1 : c49 (t + 1 + 1 + 1 + 1 + 1 + 1) = .inl (x_ca G 1, 16, .inl (fun _ => (0 : Int32))) := by rw [ec49]; exact (va_up_ne _ _ (by omega)).trans f48_t_1_1_1_1_1_1
  have f49_t_1_1_1_1_1_1_1 : c49 (t + 1 + 1 + 1 + 1 + 1 + 1 + 1) = .inl (x_ca G 0, 16, .inl (fun _ => (0 : Int32))) := by rw [ec49]; exact (va_up_ne _ _ (by omega)).trans f48_t_1_1_1_1_1_1_1
  have f49_t_1_1_1_1_1_1_1_1 : c49 (t + 1 + 1 + 1 + 1 + 1 + 1 + 1 + 1) = .inl (x_ca G 0, 16, .inl (fun _ => (0 : Int32))) := by rw [ec49]; exact (va_up_ne _ _ (by omega)).trans f48_t_1_1_1_1_1_1_1_1
  have f49_t_1_1_1_1_1_1_1_1_1 : c49 (t + 1 + 1 + 1 + 1 + 1 + 1 + 1 + 1 + 1) = .inl (x_ca G 0, 1024, .inl (fun _ => (0 : Int32))) := by rw [ec49]; exact (va_up_ne _ _ (by omega)).trans f48_t_1_1_1_1_1_1_1_1_1
  have f49_t_1_1_1_1_1_1_1_1_1_1 : c49 (t + 1 + 1 + 1 + 1 + 1 + 1 + 1 + 1 + 1 + 1) = .inl (x_ca G 0, 16, .inl (fun _ => (0 : Int32))) := by rw [ec49]; exact (va_up_ne _ _ (by omega)).trans f48_t_1_1_1_1_1_1_1_1_1_1
  have f49_t_1_1_1_1_1_1_1_1_1_1_1 : c49 (t + 1 + 1 + 1 + 1 + 1 + 1 + 1 + 1 + 1 + 1 + 1) = .inl (x_ca G 0, 16, .inl (fun _ => (0 : Int32))) := by rw [ec49]; exact (va_up_ne _ _ (by omega)).trans f48_t_1_1_1_1_1_1_1_1_1_1_1
  have f49_t_1_1_1_1_1_1_1_1_1_1_1_1 : c49 (t + 1 + 1 + 1 + 1 + 1 + 1 + 1 + 1 + 1 + 1 + 1 + 1) = .inl (x_ca G 0, 32, .inl (fun _ => (0 : Int32))) := by rw [ec49]; exact (va_up_ne _ _ (by omega)).trans f48_t_1_1_1_1_1_1_1_1_1_1_1_1
  have f49_t_1_1_1_1_1_1_1_1_1_1_1_1_1 : c49 (t + 1 + 1 + 1 + 1 + 1 + 1 + 1 + 1 + 1 + 1 + 1 + 1 + 1) = .inl (x_ca G 4, 16, .inr (.inl (fun _ => (0 : Int64)))) := by rw [ec49]; exact (va_up_ne _ _ (by omega)).trans f48_t_1_1_1_1_1_1_1_1_1_1_1_1_1
  have f49_t_1_1_1_1_1_1_1_1_1_1_1_1_1_1 : c49 (t + 1 + 1 + 1 + 1 + 1 + 1 + 1 + 1 + 1 + 1 + 1 + 1 + 1 + 1) = .inl (x_ca G 0, 40, .inl (fun _ => (0 : Int32))) := by rw [ec49]; exact (va_up_ne _ _ (by omega)).trans f48_t_1_1_1_1_1_1_1_1_1_1_1_1_1_1
  have f49_t_1_1_1_1_1_1_1_1_1_1_1_1_1_1_1 : c49 (t + 1 + 1 + 1 + 1 + 1 + 1 + 1 + 1 + 1 + 1 + 1 + 1 + 1 + 1 + 1) = .inl (x_ca G 0, 16, .inl (fun _ => (0 : Int32))) := by rw [ec49]; exact (va_up_ne _ _ (by omega)).trans f48_t_1_1_1_1_1_1_1_1_1_1_1_1_1_1_1
  have f49_t_1_1_1_1_1_1_1_1_1_1_1_1_1_1_1_1 : c49 (t + 1 + 1 + 1 + 1 + 1 + 1 + 1 + 1 + 1 + 1 + 1 + 1 + 1 + 1 + 1 + 1) = .inl (x_ca G 0, 16, .inl (fun _ => (0 : Int32))) := by rw [ec49]; exact (va_up_ne _ _ (by omega)).trans f48_t_1_1_1_1_1_1_1_1_1_1_1_1_1_1_1_1
  have f49_t_1_1_1_1_1_1_1_1_1_1_1_1_1_1_1_1_1 : c49 (t + 1 + 1 + 1 + 1 + 1 + 1 + 1 + 1 + 1 + 1 + 1 + 1 + 1 + 1 + 1 + 1 + 1) = .inl (x_ca G 0, 64, .inl (fun _ => (0 : Int32))) := by rw [ec49]; exact (va_up_ne _ _ (by omega)).trans f48_t_1_1_1_1_1_1_1_1_1_1_1_1_1_1_1_1_1
  have f49_t_1_1_1_1_1_1_1_1_1_1_1_1_1_1_1_1_1_1 : c49 (t + 1 + 1 + 1 + 1 + 1 + 1 + 1 + 1 + 1 + 1 + 1 + 1 + 1 + 1 + 1 + 1 + 1 + 1) = .inl (x_ca G 0, 8, .inl (fun _ => (0 : Int32))) := by rw [ec49]; exact (va_up_ne _ _ (by omega)).trans f48_t_1_1_1_1_1_1_1_1_1_1_1_1_1_1_1_1_1_1
  have f49_t_1_1_1_1_1_1_1_1_1_1_1_1_1_1_1_1_1_1_1 : c49 (t + 1 + 1 + 1 + 1 + 1 + 1 + 1 + 1 + 1 + 1 + 1 + 1 + 1 + 1 + 1 + 1 + 1 + 1 + 1) = .inl (x_ca G 0, 64, .inl (fun _ => (0 : Int32))) := by rw [ec49]; exact (va_up_ne _ _ (by omega)).trans f48_t_1_1_1_1_1_1_1_1_1_1_1_1_1_1_1_1_1_1_1
  have f49_t_1_1_1_1_1_1_1_1_1_1_1_1_1_1_1_1_1_1_1_1 : c49 (t + 1 + 1 + 1 + 1 + 1 + 1 + 1 + 1 + 1 + 1 + 1 + 1 + 1 + 1 + 1 + 1 + 1 + 1 + 1 + 1) = .inl (x_ca G 0, 8, .inl (fun _ => (0 : Int32))) := by rw [ec49]; exact (va_up_ne _ _ (by omega)).trans f48_t_1_1_1_1_1_1_1_1_1_1_1_1_1_1_1_1_1_1_1_1
  have f49_t_1_1_1_1_1_1_1_1_1_1_1_1_1_1_1_1_1_1_1_1_1 : c49 (t + 1 + 1 + 1 + 1 + 1 + 1 + 1 + 1 + 1 + 1 + 1 + 1 + 1 + 1 + 1 + 1 + 1 + 1 + 1 + 1 + 1) = .inl (x_ca G 0, 128, .inl (fun _ => (0 : Int32))) := by rw [ec49]; exact (va_up_ne _ _ (by omega)).trans f48_t_1_1_1_1_1_1_1_1_1_1_1_1_1_1_1_1_1_1_1_1_1
  have f49_t_1_1_1_1_1_1_1_1_1_1_1_1_1_1_1_1_1_1_1_1_1_1 : c49 (t + 1 + 1 + 1 + 1 + 1 + 1 + 1 + 1 + 1 + 1 + 1 + 1 + 1 + 1 + 1 + 1 + 1 + 1 + 1 + 1 + 1 + 1) = .inl (x_ca G 0, 8, .inl (fun _ => (0 : Int32))) := by rw [ec49]; exact (va_up_ne _ _ (by omega)).trans f48_t_1_1_1_1_1_1_1_1_1_1_1_1_1_1_1_1_1_1_1_1_1_1
  have f49_t_1_1_1_1_1_1_1_1_1_1_1_1_1_1_1_1_1_1_1_1_1_1_1 : c49 (t + 1 + 1 + 1 + 1 + 1 + 1 + 1 + 1 + 1 + 1 + 1 + 1 + 1 + 1 + 1 + 1 + 1 + 1 + 1 + 1 + 1 + 1 + 1) = .inl (x_ca G 0, 3, .inl (fun _ => (0 : Int32))) := by rw [ec49]; exact (va_up_ne _ _ (by omega)).trans f48_t_1_1_1_1_1_1_1_1_1_1_1_1_1_1_1_1_1_1_1_1_1_1_1
  have f49_k : c49 k = .inr (5, [.int 0, .int 0, .ref q1, .int 0, .int (-1 : Int32), .ref q2, .ref q3, .ref q4, .ref q5, .ref q6, .ref q7, .ref q8, .ref q9, .ref q10, .ref q11, .ref q12, .ref q13, .ref q14, .ref q15, .int 0, .ref q16, .ref q17, .ref q18, .ref q19, .ref q20, .ref q21, .ref q22, .int 0, .ref q23, .ref q24, .null]) := by rw [ec49]; exact va_up_self _ _ _
  have g49 : ∀ j, j < t → j ≠ k → c49 j = c j := fun j h1 h2 => by rw [ec49]; exact (va_up_ne _ _ (by omega)).trans (g48 j h1 h2)
  clear f48_k f48_t f48_t_1 f48_t_1_1 f48_t_1_1_1 f48_t_1_1_1_1 f48_t_1_1_1_1_1 f48_t_1_1_1_1_1_1 f48_t_1_1_1_1_1_1_1 f48_t_1_1_1_1_1_1_1_1 f48_t_1_1_1_1_1_1_1_1_1 f48_t_1_1_1_1_1_1_1_1_1_1 f48_t_1_1_1_1_1_1_1_1_1_1_1 f48_t_1_1_1_1_1_1_1_1_1_1_1_1 f48_t_1_1_1_1_1_1_1_1_1_1_1_1_1 f48_t_1_1_1_1_1_1_1_1_1_1_1_1_1_1 f48_t_1_1_1_1_1_1_1_1_1_1_1_1_1_1_1 f48_t_1_1_1_1_1_1_1_1_1_1_1_1_1_1_1_1 f48_t_1_1_1_1_1_1_1_1_1_1_1_1_1_1_1_1_1 f48_t_1_1_1_1_1_1_1_1_1_1_1_1_1_1_1_1_1_1 f48_t_1_1_1_1_1_1_1_1_1_1_1_1_1_1_1_1_1_1_1 f48_t_1_1_1_1_1_1_1_1_1_1_1_1_1_1_1_1_1_1_1_1 f48_t_1_1_1_1_1_1_1_1_1_1_1_1_1_1_1_1_1_1_1_1_1 f48_t_1_1_1_1_1_1_1_1_1_1_1_1_1_1_1_1_1_1_1_1_1_1 f48_t_1_1_1_1_1_1_1_1_1_1_1_1_1_1_1_1_1_1_1_1_1_1_1 g48 ec49
  refine lv_aload_n hx hb d_M_init_204 rfl (lv_at hl 0 rfl) ?_
  refine lv_bipush (v := (8 : Int32)) hx hb d_M_init_205 (by decide) ?_
  refine va_newa (atype := .int) hx hb (hts _ t_58) (ty := .int) rfl hK hP hD hS hA (N' := 8) (a0 := (8, .inl (fun _ => (0 : Int32)))) (fun _ => rfl) (by decide) (by decide) (by decide) (Nat.le_of_ble_eq_true rfl) (Nat.le_of_ble_eq_true rfl) d_M_init_207 (fun q25 cA H hK2 hP hD hS => ?_)
  obtain rfl := y_caI hK2
  rw [y_push] at hP hD
  obtain ⟨ad25, ead25⟩ : ∃ a1, a1 = va_up ad24 (t + 1 + 1 + 1 + 1 + 1 + 1 + 1 + 1 + 1 + 1 + 1 + 1 + 1 + 1 + 1 + 1 + 1 + 1 + 1 + 1 + 1 + 1 + 1 + 1) q25 := ⟨_, rfl⟩
  rw [← ead25] at hP hD
  have a25_k : ad25 k = (ad k) := by rw [ead25]; exact (va_up_ne _ _ (by omega)).trans a24_k
  have a25_t : ad25 t = q1 := by rw [ead25]; exact (va_up_ne _ _ (by omega)).trans a24_t
  have a25_t_1 : ad25 (t + 1) = q2 := by rw [ead25]; exact (va_up_ne _ _ (by omega)).trans a24_t_1
  have a25_t_1_1 : ad25 (t + 1 + 1) = q3 := by rw [ead25]; exact (va_up_ne _ _ (by omega)).trans a24_t_1_1
  have a25_t_1_1_1 : ad25 (t + 1 + 1 + 1) = q4 := by rw [ead25]; exact (va_up_ne _ _ (by omega)).trans a24_t_1_1_1
  have a25_t_1_1_1_1 : ad25 (t + 1 + 1 + 1 + 1) = q5 := by rw [ead25]; exact (va_up_ne _ _ (by omega)).trans a24_t_1_1_1_1
  have a25_t_1_1_1_1_1 : ad25 (t + 1 + 1 + 1 + 1 + 1) = q6 := by rw [ead25]; exact (va_up_ne _ _ (by omega)).trans a24_t_1_1_1_1_1
  have a25_t_1_1_1_1_1_1 : ad25 (t + 1 + 1 + 1 + 1 + 1 + 1) = q7 := by rw [ead25]; exact (va_up_ne _ _ (by omega)).trans a24_t_1_1_1_1_1_1
  have a25_t_1_1_1_1_1_1_1 : ad25 (t + 1 + 1 + 1 + 1 + 1 + 1 + 1) = q8 := by rw [ead25]; exact (va_up_ne _ _ (by omega)).trans a24_t_1_1_1_1_1_1_1
  have a25_t_1_1_1_1_1_1_1_1 : ad25 (t + 1 + 1 + 1 + 1 + 1 + 1 + 1 + 1) = q9 := by rw [ead25]; exact (va_up_ne _ _ (by omega)).trans a24_t_1_1_1_1_1_1_1_1
  have a25_t_1_1_1_1_1_1_1_1_1 : ad25 (t + 1 + 1 + 1 + 1 + 1 + 1 + 1 + 1 + 1) = q10 := by rw [ead25]; exact (va_up_ne _ _ (by omega)).trans a24_t_1_1_1_1_1_1_1_1_1
  have a25_t_1_1_1_1_1_1_1_1_1_1 : ad25 (t + 1 + 1 + 1 + 1 + 1 + 1 + 1 + 1 + 1 + 1) = q11 := by rw [ead25]; exact (va_up_ne _ _ (by omega)).trans a24_t_1_1_1_1_1_1_1_1_1_1
  have a25_t_1_1_1_1_1_1_1_1_1_1_1 : ad25 (t + 1 + 1 + 1 + 1 + 1 + 1 + 1 + 1 + 1 + 1 + 1) = q12 := by rw [ead25]; exact (va_up_ne _ _ (by omega)).trans a24_t_1_1_1_1_1_1_1_1_1_1_1
  have a25_t_1_1_1_1_1_1_1_1_1_1_1_1 : ad25 (t + 1 + 1 + 1 + 1 + 1 + 1 + 1 + 1 + 1 + 1 + 1 + 1) = q13 := by rw [ead25]; exact (va_up_ne _ _ (by omega)).trans a24_t_1_1_1_1_1_1_1_1_1_1_1_1
  have a25_t_1_1_1_1_1_1_1_1_1_1_1_1_1 : ad25 (t + 1 + 1 + 1 + 1 + 1 + 1 + 1 + 1 + 1 + 1 + 1 + 1 + 1) = q14 := by rw [ead25]; exact (va_up_ne _ _ (by omega)).trans a24_t_1_1_1_1_1_1_1_1_1_1_1_1_1
  have a25_t_1_1_1_1_1_1_1_1_1_1_1_1_1_1 : ad25 (t + 1 + 1 + 1 + 1 + 1 + 1 + 1 + 1 + 1 + 1 + 1 + 1 + 1 + 1) = q15 := by rw [ead25]; exact (va_up_ne _ _ (by omega)).trans a24_t_1_1_1_1_1_1_1_1_1_1_1_1_1_1
  have a25_t_1_1_1_1_1_1_1_1_1_1_1_1_1_1_1 : ad25 (t + 1 + 1 + 1 + 1 + 1 + 1 + 1 + 1 + 1 + 1 + 1 + 1 + 1 + 1 + 1) = q16 := by rw [ead25]; exact (va_up_ne _ _ (by omega)).trans a24_t_1_1_1_1_1_1_1_1_1_1_1_1_1_1_1
  have a25_t_1_1_1_1_1_1_1_1_1_1_1_1_1_1_1_1 : ad25 (t + 1 + 1 + 1 + 1 + 1 + 1 + 1 + 1 + 1 + 1 + 1 + 1 + 1 + 1 + 1 + 1) = q17 := by rw [ead25]; exact (va_up_ne _ _ (by omega)).trans a24_t_1_1_1_1_1_1_1_1_1_1_1_1_1_1_1_1
  have a25_t_1_1_1_1_1_1_1_1_1_1_1_1_1_1_1_1_1 : ad25 (t + 1 + 1 + 1 + 1 + 1 + 1 + 1 + 1 + 1 + 1 + 1 + 1 + 1 + 1 + 1 + 1 + 1) = q18 := by rw [ead25]; exact (va_up_ne _ _ (by omega)).trans a24_t_1_1_1_1_1_1_1_1_1_1_1_1_1_1_1_1_1
  have a25_t_1_1_1_1_1_1_1_1_1_1_1_1_1_1_1_1_1_1 : ad25 (t + 1 + 1 + 1 + 1 + 1 + 1 + 1 + 1 + 1 + 1 + 1 + 1 + 1 + 1 + 1 + 1 + 1 + 1) = q19 := by rw [ead25]; exact (va_up_ne _ _ (by omega)).trans a24_t_1_1_1_1_1_1_1_1_1_1_1_1_1_1_1_1_1_1
  have a25_t_1_1_1_1_1_1_1_1_1_1_1_1_1_1_1_1_1_1_1 : ad25 (t + 1 + 1 + 1 + 1 + 1 + 1 + 1 + 1 + 1 + 1 + 1 + 1 + 1 + 1 + 1 + 1 + 1 + 1 + 1) = q20 := by rw [ead25]; exact (va_up_ne _ _ (by omega)).trans a24_t_1_1_1_1_1_1_1_1_1_1_1_1_1_1_1_1_1_1_1
  have a25_t_1_1_1_1_1_1_1_1_1_1_1_1_1_1_1_1_1_1_1_1 : ad25 (t + 1 + 1 + 1 + 1 + 1 + 1 + 1 + 1 + 1 + 1 + 1 + 1 + 1 + 1 + 1 + 1 + 1 + 1 + 1 + 1) = q21 := by rw [ead25]; exact (va_up_ne _ _ (by omega)).trans a24_t_1_1_1_1_1_1_1_1_1_1_1_1_1_1_1_1_1_1_1_1
  have a25_t_1_1_1_1_1_1_1_1_1_1_1_1_1_1_1_1_1_1_1_1_1 : ad25 (t + 1 + 1 + 1 + 1 + 1 + 1 + 1 + 1 + 1 + 1 + 1 + 1 + 1 + 1 + 1 + 1 + 1 + 1 + 1 + 1 + 1) = q22 := by rw [ead25]; exact (va_up_ne _ _ (by omega)).trans a24_t_1_1_1_1_1_1_1_1_1_1_1_1_1_1_1_1_1_1_1_1_1
  have a25_t_1_1_1_1_1_1_1_1_1_1_1_1_1_1_1_1_1_1_1_1_1_1 : ad25 (t + 1 + 1 + 1 + 1 + 1 + 1 + 1 + 1 + 1 + 1 + 1 + 1 + 1 + 1 + 1 + 1 + 1 + 1 + 1 + 1 + 1 + 1) = q23 := by rw [ead25]; exact (va_up_ne _ _ (by omega)).trans a24_t_1_1_1_1_1_1_1_1_1_1_1_1_1_1_1_1_1_1_1_1_1_1
  have a25_t_1_1_1_1_1_1_1_1_1_1_1_1_1_1_1_1_1_1_1_1_1_1_1 : ad25 (t + 1 + 1 + 1 + 1 + 1 + 1 + 1 + 1 + 1 + 1 + 1 + 1 + 1 + 1 + 1 + 1 + 1 + 1 + 1 + 1 + 1 + 1 + 1) = q24 := by rw [ead25]; exact (va_up_ne _ _ (by omega)).trans a24_t_1_1_1_1_1_1_1_1_1_1_1_1_1_1_1_1_1_1_1_1_1_1_1
  have a25_t_1_1_1_1_1_1_1_1_1_1_1_1_1_1_1_1_1_1_1_1_1_1_1_1 : ad25 (t + 1 + 1 + 1 + 1 + 1 + 1 + 1 + 1 + 1 + 1 + 1 + 1 + 1 + 1 + 1 + 1 + 1 + 1 + 1 + 1 + 1 + 1 + 1 + 1) = q25 := by rw [ead25]; exact va_up_self _ _ _
  have b25 : ∀ j, j < t → ad25 j = ad j := fun j h1 => by rw [ead25]; exact (va_up_ne _ _ (by omega)).trans (b24 j h1)
  clear a24_k a24_t a24_t_1 a24_t_1_1 a24_t_1_1_1 a24_t_1_1_1_1 a24_t_1_1_1_1_1 a24_t_1_1_1_1_1_1 a24_t_1_1_1_1_1_1_1 a24_t_1_1_1_1_1_1_1_1 a24_t_1_1_1_1_1_1_1_1_1 a24_t_1_1_1_1_1_1_1_1_1_1 a24_t_1_1_1_1_1_1_1_1_1_1_1 a24_t_1_1_1_1_1_1_1_1_1_1_1_1 a24_t_1_1_1_1_1_1_1_1_1_1_1_1_1 a24_t_1_1_1_1_1_1_1_1_1_1_1_1_1_1 a24_t_1_1_1_1_1_1_1_1_1_1_1_1_1_1_1 a24_t_1_1_1_1_1_1_1_1_1_1_1_1_1_1_1_1 a24_t_1_1_1_1_1_1_1_1_1_1_1_1_1_1_1_1_1 a24_t_1_1_1_1_1_1_1_1_1_1_1_1_1_1_1_1_1_1 a24_t_1_1_1_1_1_1_1_1_1_1_1_1_1_1_1_1_1_1_1 a24_t_1_1_1_1_1_1_1_1_1_1_1_1_1_1_1_1_1_1_1_1 a24_t_1_1_1_1_1_1_1_1_1_1_1_1_1_1_1_1_1_1_1_1_1 a24_t_1_1_1_1_1_1_1_1_1_1_1_1_1_1_1_1_1_1_1_1_1_1 a24_t_1_1_1_1_1_1_1_1_1_1_1_1_1_1_1_1_1_1_1_1_1_1_1 b24 ead25
  obtain ⟨c50, ec50⟩ : ∃ c50, c50 = va_up c49 (t + 1 + 1 + 1 + 1 + 1 + 1 + 1 + 1 + 1 + 1 + 1 + 1 + 1 + 1 + 1 + 1 + 1 + 1 + 1 + 1 + 1 + 1 + 1 + 1) (.inl (x_ca G 0, 8, .inl (fun _ => (0 : Int32)))) := ⟨_, rfl⟩
  rw [← ec50] at hP hD
  have f50_k : c50 k = .inr (5, [.int 0, .int 0, .ref q1, .int 0, .int (-1 : Int32), .ref q2, .ref q3, .ref q4, .ref q5, .ref q6, .ref q7, .ref q8, .ref q9, .ref q10, .ref q11, .ref q12, .ref q13, .ref q14, .ref q15, .int 0, .ref q16, .ref q17, .ref q18, .ref q19, .ref q20, .ref q21, .ref q22, .int 0, .ref q23, .ref q24, .null]) := by rw [ec50]; exact (va_up_ne _ _ (by omega)).trans f49_k
  have f50_t : c50 t = .inl (x_ca G 0, 2560, .inl (fun _ => (0 : Int32))) := by rw [ec50]; exact (va_up_ne _ _ (by omega)).trans f49_t
  have f50_t_1 : c50 (t + 1) = .inl (x_ca G 1, 8, .inl (fun _ => (0 : Int32))) := by rw [ec50]; exact (va_up_ne _ _ (by omega)).trans f49_t_1
  have f50_t_1_1 : c50 (t + 1 + 1) = .inl (x_ca G 0, 8, .inl (fun _ => (0 : Int32))) := by rw [ec50]; exact (va_up_ne _ _ (by omega)).trans f49_t_1_1
  have f50_t_1_1_1 : c50 (t + 1 + 1 + 1) = .inl (x_ca G 0, 8, .inl (fun _ => (0 : Int32))) := by rw [ec50]; exact (va_up_ne _ _ (by omega)).trans f49_t_1_1_1
  have f50_t_1_1_1_1 : c50 (t + 1 + 1 + 1 + 1) = .inl (x_ca G 0, 8, .inl (fun _ => (0 : Int32))) := by rw [ec50]; exact (va_up_ne _ _ (by omega)).trans f49_t_1_1_1_1
  have f50_t_1_1_1_1_1 : c50 (t + 1 + 1 + 1 + 1 + 1) = .inl (x_ca G 0, 512, .inl (fun _ => (0 : Int32))) := by rw [ec50]; exact (va_up_ne _ _ (by omega)).trans f49_t_1_1_1_1_1
  have f50_t_1_1_1_1_1_1 : c50 (t + 1 + 1 + 1 + 1 + 1 + 1) = .inl (x_ca G 1, 16, .inl (fun _ => (0 : Int32))) := by rw [ec50]; exact (va_up_ne _ _ (by omega)).trans f49_t_1_1_1_1_1_1
  have f50_t_1_1_1_1_1_1_1 : c50 (t + 1 + 1 + 1 + 1 + 1 + 1 + 1) = .inl (x_ca G 0, 16, .inl (fun _ => (0 : Int32))) := by rw [ec50]; exact (va_up_ne _ _ (by omega)).trans f49_t_1_1_1_1_1_1_1
  have f50_t_1_1_1_1_1_1_1_1 : c50 (t + 1 + 1 + 1 + 1 + 1 + 1 + 1 + 1) = .inl (x_ca G 0, 16, .inl (fun _ => (0 : Int32))) := by rw [ec50]; exact (va_up_ne _ _ (by omega)).trans f49_t_1_1_1_1_1_1_1_1
  have f50_t_1_1_1_1_1_1_1_1_1 : c50 (t + 1 + 1 + 1 + 1 + 1 + 1 + 1 + 1 + 1) = .inl (x_ca G 0, 1024, .inl (fun _ => (0 : Int32))) := by rw [ec50]; exact (va_up_ne _ _ (by omega)).trans f49_t_1_1_1_1_1_1_1_1_1
  have f50_t_1_1_1_1_1_1_1_1_1_1 : c50 (t + 1 + 1 + 1 + 1 + 1 + 1 + 1 + 1 + 1 + 1) = .inl (x_ca G 0, 16, .inl (fun _ => (0 : Int32))) := by rw [ec50]; exact (va_up_ne _ _ (by omega)).trans f49_t_1_1_1_1_1_1_1_1_1_1
  have f50_t_1_1_1_1_1_1_1_1_1_1_1 : c50 (t + 1 + 1 + 1 + 1 + 1 + 1 + 1 + 1 + 1 + 1 + 1) = .inl (x_ca G 0, 16, .inl (fun _ => (0 : Int32))) := by rw [ec50]; exact (va_up_ne _ _ (by omega)).trans f49_t_1_1_1_1_1_1_1_1_1_1_1
  have f50_t_1_1_1_1_1_1_1_1_1_1_1_1 : c50 (t + 1 + 1 + 1 + 1 + 1 + 1 + 1 + 1 + 1 + 1 + 1 + 1) = .inl (x_ca G 0, 32, .inl (fun _ => (0 : Int32))) := by rw [ec50]; exact (va_up_ne _ _ (by omega)).trans f49_t_1_1_1_1_1_1_1_1_1_1_1_1
  have f50_t_1_1_1_1_1_1_1_1_1_1_1_1_1 : c50 (t + 1 + 1 + 1 + 1 + 1 + 1 + 1 + 1 + 1 + 1 + 1 + 1 + 1) = .inl (x_ca G 4, 16, .inr (.inl (fun _ => (0 : Int64)))) := by rw [ec50]; exact (va_up_ne _ _ (by omega)).trans f49_t_1_1_1_1_1_1_1_1_1_1_1_1_1
  have f50_t_1_1_1_1_1_1_1_1_1_1_1_1_1_1 : c50 (t + 1 + 1 + 1 + 1 + 1 + 1 + 1 + 1 + 1 + 1 + 1 + 1 + 1 + 1) = .inl (x_ca G 0, 40, .inl (fun _ => (0 : Int32))) := by rw [ec50]; exact (va_up_ne _ _ (by omega)).trans f49_t_1_1_1_1_1_1_1_1_1_1_1_1_1_1
  have f50_t_1_1_1_1_1_1_1_1_1_1_1_1_1_1_1 : c50 (t + 1 + 1 + 1 + 1 + 1 + 1 + 1 + 1 + 1 + 1 + 1 + 1 + 1 + 1 + 1) = .inl (x_ca G 0, 16, .inl (fun _ => (0 : Int32))) := by rw [ec50]; exact (va_up_ne _ _ (by omega)).trans f49_t_1_1_1_1_1_1_1_1_1_1_1_1_1_1_1
  have f50_t_1_1_1_1_1_1_1_1_1_1_1_1_1_1_1_1 : c50 (t + 1 + 1 + 1 + 1 + 1 + 1 + 1 + 1 + 1 + 1 + 1 + 1 + 1 + 1 + 1 + 1) = .inl (x_ca G 0, 16, .inl (fun _ => (0 : Int32))) := by rw [ec50]; exact (va_up_ne _ _ (by omega)).trans f49_t_1_1_1_1_1_1_1_1_1_1_1_1_1_1_1_1
  have f50_t_1_1_1_1_1_1_1_1_1_1_1_1_1_1_1_1_1 : c50 (t + 1 + 1 + 1 + 1 + 1 + 1 + 1 + 1 + 1 + 1 + 1 + 1 + 1 + 1 + 1 + 1 + 1) = .inl (x_ca G 0, 64, .inl (fun _ => (0 : Int32))) := by rw [ec50]; exact (va_up_ne _ _ (by omega)).trans f49_t_1_1_1_1_1_1_1_1_1_1_1_1_1_1_1_1_1
  have f50_t_1_1_1_1_1_1_1_1_1_1_1_1_1_1_1_1_1_1 : c50 (t + 1 + 1 + 1 + 1 + 1 + 1 + 1 + 1 + 1 + 1 + 1 + 1 + 1 + 1 + 1 + 1 + 1 + 1) = .inl (x_ca G 0, 8, .inl (fun _ => (0 : Int32))) := by rw [ec50]; exact (va_up_ne _ _ (by omega)).trans f49_t_1_1_1_1_1_1_1_1_1_1_1_1_1_1_1_1_1_1
  have f50_t_1_1_1_1_1_1_1_1_1_1_1_1_1_1_1_1_1_1_1 : c50 (t + 1 + 1 + 1 + 1 + 1 + 1 + 1 + 1 + 1 + 1 + 1 + 1 + 1 + 1 + 1 + 1 + 1 + 1 + 1) = .inl (x_ca G 0, 64, .inl (fun _ => (0 : Int32))) := by rw [ec50]; exact (va_up_ne _ _ (by omega)).trans f49_t_1_1_1_1_1_1_1_1_1_1_1_1_1_1_1_1_1_1_1
  have f50_t_1_1_1_1_1_1_1_1_1_1_1_1_1_1_1_1_1_1_1_1 : c50 (t + 1 + 1 + 1 + 1 + 1 + 1 + 1 + 1 + 1 + 1 + 1 + 1 + 1 + 1 + 1 + 1 + 1 + 1 + 1 + 1) = .inl (x_ca G 0, 8, .inl (fun _ => (0 : Int32))) := by rw [ec50]; exact (va_up_ne _ _ (by omega)).trans f49_t_1_1_1_1_1_1_1_1_1_1_1_1_1_1_1_1_1_1_1_1
  have f50_t_1_1_1_1_1_1_1_1_1_1_1_1_1_1_1_1_1_1_1_1_1 : c50 (t + 1 + 1 + 1 + 1 + 1 + 1 + 1 + 1 + 1 + 1 + 1 + 1 + 1 + 1 + 1 + 1 + 1 + 1 + 1 + 1 + 1) = .inl (x_ca G 0, 128, .inl (fun _ => (0 : Int32))) := by rw [ec50]; exact (va_up_ne _ _ (by omega)).trans f49_t_1_1_1_1_1_1_1_1_1_1_1_1_1_1_1_1_1_1_1_1_1
  have f50_t_1_1_1_1_1_1_1_1_1_1_1_1_1_1_1_1_1_1_1_1_1_1 : c50 (t + 1 + 1 + 1 + 1 + 1 + 1 + 1 + 1 + 1 + 1 + 1 + 1 + 1 + 1 + 1 + 1 + 1 + 1 + 1 + 1 + 1 + 1) = .inl (x_ca G 0, 8, .inl (fun _ => (0 : Int32))) := by rw [ec50]; exact (va_up_ne _ _ (by omega)).trans f49_t_1_1_1_1_1_1_1_1_1_1_1_1_1_1_1_1_1_1_1_1_1_1
  have f50_t_1_1_1_1_1_1_1_1_1_1_1_1_1_1_1_1_1_1_1_1_1_1_1 : c50 (t + 1 + 1 + 1 + 1 + 1 + 1 + 1 + 1 + 1 + 1 + 1 + 1 + 1 + 1 + 1 + 1 + 1 + 1 + 1 + 1 + 1 + 1 + 1) = .inl (x_ca G 0, 3, .inl (fun _ => (0 : Int32))) := by rw [ec50]; exact (va_up_ne _ _ (by omega)).trans f49_t_1_1_1_1_1_1_1_1_1_1_1_1_1_1_1_1_1_1_1_1_1_1_1
  have f50_t_1_1_1_1_1_1_1_1_1_1_1_1_1_1_1_1_1_1_1_1_1_1_1_1 : c50 (t + 1 + 1 + 1 + 1 + 1 + 1 + 1 + 1 + 1 + 1 + 1 + 1 + 1 + 1 + 1 + 1 + 1 + 1 + 1 + 1 + 1 + 1 + 1 + 1) = .inl (x_ca G 0, 8, .inl (fun _ => (0 : Int32))) := by rw [ec50]; exact va_up_self _ _ _
  have g50 : ∀ j, j < t → j ≠ k → c50 j = c j := fun j h1 h2 => by rw [ec50]; exact (va_up_ne _ _ (by omega)).trans (g49 j h1 h2)
  clear f49_k f49_t f49_t_1 f49_t_1_1 f49_t_1_1_1 f49_t_1_1_1_1 f49_t_1_1_1_1_1 f49_t_1_1_1_1_1_1 f49_t_1_1_1_1_1_1_1 f49_t_1_1_1_1_1_1_1_1 f49_t_1_1_1_1_1_1_1_1_1 f49_t_1_1_1_1_1_1_1_1_1_1 f49_t_1_1_1_1_1_1_1_1_1_1_1 f49_t_1_1_1_1_1_1_1_1_1_1_1_1 f49_t_1_1_1_1_1_1_1_1_1_1_1_1_1 f49_t_1_1_1_1_1_1_1_1_1_1_1_1_1_1 f49_t_1_1_1_1_1_1_1_1_1_1_1_1_1_1_1 f49_t_1_1_1_1_1_1_1_1_1_1_1_1_1_1_1_1 f49_t_1_1_1_1_1_1_1_1_1_1_1_1_1_1_1_1_1 f49_t_1_1_1_1_1_1_1_1_1_1_1_1_1_1_1_1_1_1 f49_t_1_1_1_1_1_1_1_1_1_1_1_1_1_1_1_1_1_1_1 f49_t_1_1_1_1_1_1_1_1_1_1_1_1_1_1_1_1_1_1_1_1 f49_t_1_1_1_1_1_1_1_1_1_1_1_1_1_1_1_1_1_1_1_1_1 f49_t_1_1_1_1_1_1_1_1_1_1_1_1_1_1_1_1_1_1_1_1_1_1 f49_t_1_1_1_1_1_1_1_1_1_1_1_1_1_1_1_1_1_1_1_1_1_1_1 g49 ec50
  refine va_putF (D := x_D G) (ci := 5) (v := .ref q25) (ty := .array .int) (C := "ContentLibraryModel") (T := x_TM) (N := 31) hx hb hts x_inM x_tyM x_tyM_ok x_nmM hown hK hP hD hS k (y_at (by omega) a25_k f50_k) rfl 30 (by decide) (hts _ t_702) (fun _ h9 => h9) rfl hin rfl (by decide +kernel) rfl rfl (Nat.le_of_ble_eq_true rfl) d_M_init_209 (fun H locs hP hD hS => ?_)
  rw [y_set (by omega) a25_k] at hP hD
  obtain ⟨c51, ec51⟩ : ∃ c51, c51 = va_up c50 k (.inr (5, ([.int 0, .int 0, .ref q1, .int 0, .int (-1 : Int32), .ref q2, .ref q3, .ref q4, .ref q5, .ref q6, .ref q7, .ref q8, .ref q9, .ref q10, .ref q11, .ref q12, .ref q13, .ref q14, .ref q15, .int 0, .ref q16, .ref q17, .ref q18, .ref q19, .ref q20, .ref q21, .ref q22, .int 0, .ref q23, .ref q24, .null] : List Value).set 30 (.ref q25))) := ⟨_, rfl⟩
  rw [← ec51] at hP hD
  have f51_t : c51 t = .inl (x_ca G 0, 2560, .inl (fun _ => (0 : Int32))) := by rw [ec51]; exact (va_up_ne _ _ (by omega)).trans f50_t
  have f51_t_1 : c51 (t + 1) = .inl (x_ca G 1, 8, .inl (fun _ => (0 : Int32))) := by rw [ec51]; exact (va_up_ne _ _ (by omega)).trans f50_t_1
  have f51_t_1_1 : c51 (t + 1 + 1) = .inl (x_ca G 0, 8, .inl (fun _ => (0 : Int32))) := by rw [ec51]; exact (va_up_ne _ _ (by omega)).trans f50_t_1_1
  have f51_t_1_1_1 : c51 (t + 1 + 1 + 1) = .inl (x_ca G 0, 8, .inl (fun _ => (0 : Int32))) := by rw [ec51]; exact (va_up_ne _ _ (by omega)).trans f50_t_1_1_1
  have f51_t_1_1_1_1 : c51 (t + 1 + 1 + 1 + 1) = .inl (x_ca G 0, 8, .inl (fun _ => (0 : Int32))) := by rw [ec51]; exact (va_up_ne _ _ (by omega)).trans f50_t_1_1_1_1
  have f51_t_1_1_1_1_1 : c51 (t + 1 + 1 + 1 + 1 + 1) = .inl (x_ca G 0, 512, .inl (fun _ => (0 : Int32))) := by rw [ec51]; exact (va_up_ne _ _ (by omega)).trans f50_t_1_1_1_1_1
  have f51_t_1_1_1_1_1_1 : c51 (t + 1 + 1 + 1 + 1 + 1 + 1) = .inl (x_ca G 1, 16, .inl (fun _ => (0 : Int32))) := by rw [ec51]; exact (va_up_ne _ _ (by omega)).trans f50_t_1_1_1_1_1_1
  have f51_t_1_1_1_1_1_1_1 : c51 (t + 1 + 1 + 1 + 1 + 1 + 1 + 1) = .inl (x_ca G 0, 16, .inl (fun _ => (0 : Int32))) := by rw [ec51]; exact (va_up_ne _ _ (by omega)).trans f50_t_1_1_1_1_1_1_1
  have f51_t_1_1_1_1_1_1_1_1 : c51 (t + 1 + 1 + 1 + 1 + 1 + 1 + 1 + 1) = .inl (x_ca G 0, 16, .inl (fun _ => (0 : Int32))) := by rw [ec51]; exact (va_up_ne _ _ (by omega)).trans f50_t_1_1_1_1_1_1_1_1
  have f51_t_1_1_1_1_1_1_1_1_1 : c51 (t + 1 + 1 + 1 + 1 + 1 + 1 + 1 + 1 + 1) = .inl (x_ca G 0, 1024, .inl (fun _ => (0 : Int32))) := by rw [ec51]; exact (va_up_ne _ _ (by omega)).trans f50_t_1_1_1_1_1_1_1_1_1
  have f51_t_1_1_1_1_1_1_1_1_1_1 : c51 (t + 1 + 1 + 1 + 1 + 1 + 1 + 1 + 1 + 1 + 1) = .inl (x_ca G 0, 16, .inl (fun _ => (0 : Int32))) := by rw [ec51]; exact (va_up_ne _ _ (by omega)).trans f50_t_1_1_1_1_1_1_1_1_1_1
  have f51_t_1_1_1_1_1_1_1_1_1_1_1 : c51 (t + 1 + 1 + 1 + 1 + 1 + 1 + 1 + 1 + 1 + 1 + 1) = .inl (x_ca G 0, 16, .inl (fun _ => (0 : Int32))) := by rw [ec51]; exact (va_up_ne _ _ (by omega)).trans f50_t_1_1_1_1_1_1_1_1_1_1_1
  have f51_t_1_1_1_1_1_1_1_1_1_1_1_1 : c51 (t + 1 + 1 + 1 + 1 + 1 + 1 + 1 + 1 + 1 + 1 + 1 + 1) = .inl (x_ca G 0, 32, .inl (fun _ => (0 : Int32))) := by rw [ec51]; exact (va_up_ne _ _ (by omega)).trans f50_t_1_1_1_1_1_1_1_1_1_1_1_1
  have f51_t_1_1_1_1_1_1_1_1_1_1_1_1_1 : c51 (t + 1 + 1 + 1 + 1 + 1 + 1 + 1 + 1 + 1 + 1 + 1 + 1 + 1) = .inl (x_ca G 4, 16, .inr (.inl (fun _ => (0 : Int64)))) := by rw [ec51]; exact (va_up_ne _ _ (by omega)).trans f50_t_1_1_1_1_1_1_1_1_1_1_1_1_1
  have f51_t_1_1_1_1_1_1_1_1_1_1_1_1_1_1 : c51 (t + 1 + 1 + 1 + 1 + 1 + 1 + 1 + 1 + 1 + 1 + 1 + 1 + 1 + 1) = .inl (x_ca G 0, 40, .inl (fun _ => (0 : Int32))) := by rw [ec51]; exact (va_up_ne _ _ (by omega)).trans f50_t_1_1_1_1_1_1_1_1_1_1_1_1_1_1
  have f51_t_1_1_1_1_1_1_1_1_1_1_1_1_1_1_1 : c51 (t + 1 + 1 + 1 + 1 + 1 + 1 + 1 + 1 + 1 + 1 + 1 + 1 + 1 + 1 + 1) = .inl (x_ca G 0, 16, .inl (fun _ => (0 : Int32))) := by rw [ec51]; exact (va_up_ne _ _ (by omega)).trans f50_t_1_1_1_1_1_1_1_1_1_1_1_1_1_1_1
  have f51_t_1_1_1_1_1_1_1_1_1_1_1_1_1_1_1_1 : c51 (t + 1 + 1 + 1 + 1 + 1 + 1 + 1 + 1 + 1 + 1 + 1 + 1 + 1 + 1 + 1 + 1) = .inl (x_ca G 0, 16, .inl (fun _ => (0 : Int32))) := by rw [ec51]; exact (va_up_ne _ _ (by omega)).trans f50_t_1_1_1_1_1_1_1_1_1_1_1_1_1_1_1_1
  have f51_t_1_1_1_1_1_1_1_1_1_1_1_1_1_1_1_1_1 : c51 (t + 1 + 1 + 1 + 1 + 1 + 1 + 1 + 1 + 1 + 1 + 1 + 1 + 1 + 1 + 1 + 1 + 1) = .inl (x_ca G 0, 64, .inl (fun _ => (0 : Int32))) := by rw [ec51]; exact (va_up_ne _ _ (by omega)).trans f50_t_1_1_1_1_1_1_1_1_1_1_1_1_1_1_1_1_1
  have f51_t_1_1_1_1_1_1_1_1_1_1_1_1_1_1_1_1_1_1 : c51 (t + 1 + 1 + 1 + 1 + 1 + 1 + 1 + 1 + 1 + 1 + 1 + 1 + 1 + 1 + 1 + 1 + 1 + 1) = .inl (x_ca G 0, 8, .inl (fun _ => (0 : Int32))) := by rw [ec51]; exact (va_up_ne _ _ (by omega)).trans f50_t_1_1_1_1_1_1_1_1_1_1_1_1_1_1_1_1_1_1
  have f51_t_1_1_1_1_1_1_1_1_1_1_1_1_1_1_1_1_1_1_1 : c51 (t + 1 + 1 + 1 + 1 + 1 + 1 + 1 + 1 + 1 + 1 + 1 + 1 + 1 + 1 + 1 + 1 + 1 + 1 + 1) = .inl (x_ca G 0, 64, .inl (fun _ => (0 : Int32))) := by rw [ec51]; exact (va_up_ne _ _ (by omega)).trans f50_t_1_1_1_1_1_1_1_1_1_1_1_1_1_1_1_1_1_1_1
  have f51_t_1_1_1_1_1_1_1_1_1_1_1_1_1_1_1_1_1_1_1_1 : c51 (t + 1 + 1 + 1 + 1 + 1 + 1 + 1 + 1 + 1 + 1 + 1 + 1 + 1 + 1 + 1 + 1 + 1 + 1 + 1 + 1) = .inl (x_ca G 0, 8, .inl (fun _ => (0 : Int32))) := by rw [ec51]; exact (va_up_ne _ _ (by omega)).trans f50_t_1_1_1_1_1_1_1_1_1_1_1_1_1_1_1_1_1_1_1_1
  have f51_t_1_1_1_1_1_1_1_1_1_1_1_1_1_1_1_1_1_1_1_1_1 : c51 (t + 1 + 1 + 1 + 1 + 1 + 1 + 1 + 1 + 1 + 1 + 1 + 1 + 1 + 1 + 1 + 1 + 1 + 1 + 1 + 1 + 1) = .inl (x_ca G 0, 128, .inl (fun _ => (0 : Int32))) := by rw [ec51]; exact (va_up_ne _ _ (by omega)).trans f50_t_1_1_1_1_1_1_1_1_1_1_1_1_1_1_1_1_1_1_1_1_1
  have f51_t_1_1_1_1_1_1_1_1_1_1_1_1_1_1_1_1_1_1_1_1_1_1 : c51 (t + 1 + 1 + 1 + 1 + 1 + 1 + 1 + 1 + 1 + 1 + 1 + 1 + 1 + 1 + 1 + 1 + 1 + 1 + 1 + 1 + 1 + 1) = .inl (x_ca G 0, 8, .inl (fun _ => (0 : Int32))) := by rw [ec51]; exact (va_up_ne _ _ (by omega)).trans f50_t_1_1_1_1_1_1_1_1_1_1_1_1_1_1_1_1_1_1_1_1_1_1
  have f51_t_1_1_1_1_1_1_1_1_1_1_1_1_1_1_1_1_1_1_1_1_1_1_1 : c51 (t + 1 + 1 + 1 + 1 + 1 + 1 + 1 + 1 + 1 + 1 + 1 + 1 + 1 + 1 + 1 + 1 + 1 + 1 + 1 + 1 + 1 + 1 + 1) = .inl (x_ca G 0, 3, .inl (fun _ => (0 : Int32))) := by rw [ec51]; exact (va_up_ne _ _ (by omega)).trans f50_t_1_1_1_1_1_1_1_1_1_1_1_1_1_1_1_1_1_1_1_1_1_1_1
  have f51_t_1_1_1_1_1_1_1_1_1_1_1_1_1_1_1_1_1_1_1_1_1_1_1_1 : c51 (t + 1 + 1 + 1 + 1 + 1 + 1 + 1 + 1 + 1 + 1 + 1 + 1 + 1 + 1 + 1 + 1 + 1 + 1 + 1 + 1 + 1 + 1 + 1 + 1) = .inl (x_ca G 0, 8, .inl (fun _ => (0 : Int32))) := by rw [ec51]; exact (va_up_ne _ _ (by omega)).trans f50_t_1_1_1_1_1_1_1_1_1_1_1_1_1_1_1_1_1_1_1_1_1_1_1_1
  have f51_k : c51 k = .inr (5, [.int 0, .int 0, .ref q1, .int 0, .int (-1 : Int32), .ref q2, .ref q3, .ref q4, .ref q5, .ref q6, .ref q7, .ref q8, .ref q9, .ref q10, .ref q11, .ref q12, .ref q13, .ref q14, .ref q15, .int 0, .ref q16, .ref q17, .ref q18, .ref q19, .ref q20, .ref q21, .ref q22, .int 0, .ref q23, .ref q24, .ref q25]) := by rw [ec51]; exact va_up_self _ _ _
  have g51 : ∀ j, j < t → j ≠ k → c51 j = c j := fun j h1 h2 => by rw [ec51]; exact (va_up_ne _ _ (by omega)).trans (g50 j h1 h2)
  clear f50_k f50_t f50_t_1 f50_t_1_1 f50_t_1_1_1 f50_t_1_1_1_1 f50_t_1_1_1_1_1 f50_t_1_1_1_1_1_1 f50_t_1_1_1_1_1_1_1 f50_t_1_1_1_1_1_1_1_1 f50_t_1_1_1_1_1_1_1_1_1 f50_t_1_1_1_1_1_1_1_1_1_1 f50_t_1_1_1_1_1_1_1_1_1_1_1 f50_t_1_1_1_1_1_1_1_1_1_1_1_1 f50_t_1_1_1_1_1_1_1_1_1_1_1_1_1 f50_t_1_1_1_1_1_1_1_1_1_1_1_1_1_1 f50_t_1_1_1_1_1_1_1_1_1_1_1_1_1_1_1 f50_t_1_1_1_1_1_1_1_1_1_1_1_1_1_1_1_1 f50_t_1_1_1_1_1_1_1_1_1_1_1_1_1_1_1_1_1 f50_t_1_1_1_1_1_1_1_1_1_1_1_1_1_1_1_1_1_1 f50_t_1_1_1_1_1_1_1_1_1_1_1_1_1_1_1_1_1_1_1 f50_t_1_1_1_1_1_1_1_1_1_1_1_1_1_1_1_1_1_1_1_1 f50_t_1_1_1_1_1_1_1_1_1_1_1_1_1_1_1_1_1_1_1_1_1 f50_t_1_1_1_1_1_1_1_1_1_1_1_1_1_1_1_1_1_1_1_1_1_1 f50_t_1_1_1_1_1_1_1_1_1_1_1_1_1_1_1_1_1_1_1_1_1_1_1 f50_t_1_1_1_1_1_1_1_1_1_1_1_1_1_1_1_1_1_1_1_1_1_1_1_1 g50 ec51
  refine K ad25 c51 H locs ls a25_k b25 ?_ f51_t f51_t_1 f51_t_1_1 f51_t_1_1_1 f51_t_1_1_1_1 f51_t_1_1_1_1_1 f51_t_1_1_1_1_1_1 f51_t_1_1_1_1_1_1_1 f51_t_1_1_1_1_1_1_1_1 f51_t_1_1_1_1_1_1_1_1_1 f51_t_1_1_1_1_1_1_1_1_1_1 f51_t_1_1_1_1_1_1_1_1_1_1_1 f51_t_1_1_1_1_1_1_1_1_1_1_1_1 f51_t_1_1_1_1_1_1_1_1_1_1_1_1_1 f51_t_1_1_1_1_1_1_1_1_1_1_1_1_1_1 f51_t_1_1_1_1_1_1_1_1_1_1_1_1_1_1_1 f51_t_1_1_1_1_1_1_1_1_1_1_1_1_1_1_1_1 f51_t_1_1_1_1_1_1_1_1_1_1_1_1_1_1_1_1_1 f51_t_1_1_1_1_1_1_1_1_1_1_1_1_1_1_1_1_1_1 f51_t_1_1_1_1_1_1_1_1_1_1_1_1_1_1_1_1_1_1_1 f51_t_1_1_1_1_1_1_1_1_1_1_1_1_1_1_1_1_1_1_1_1 f51_t_1_1_1_1_1_1_1_1_1_1_1_1_1_1_1_1_1_1_1_1_1 f51_t_1_1_1_1_1_1_1_1_1_1_1_1_1_1_1_1_1_1_1_1_1_1 f51_t_1_1_1_1_1_1_1_1_1_1_1_1_1_1_1_1_1_1_1_1_1_1_1 f51_t_1_1_1_1_1_1_1_1_1_1_1_1_1_1_1_1_1_1_1_1_1_1_1_1 g51 hP hD hS hl
  rw [a25_t, a25_t_1, a25_t_1_1, a25_t_1_1_1, a25_t_1_1_1_1, a25_t_1_1_1_1_1, a25_t_1_1_1_1_1_1, a25_t_1_1_1_1_1_1_1, a25_t_1_1_1_1_1_1_1_1, a25_t_1_1_1_1_1_1_1_1_1, a25_t_1_1_1_1_1_1_1_1_1_1, a25_t_1_1_1_1_1_1_1_1_1_1_1, a25_t_1_1_1_1_1_1_1_1_1_1_1_1, a25_t_1_1_1_1_1_1_1_1_1_1_1_1_1, a25_t_1_1_1_1_1_1_1_1_1_1_1_1_1_1, a25_t_1_1_1_1_1_1_1_1_1_1_1_1_1_1_1, a25_t_1_1_1_1_1_1_1_1_1_1_1_1_1_1_1_1, a25_t_1_1_1_1_1_1_1_1_1_1_1_1_1_1_1_1_1, a25_t_1_1_1_1_1_1_1_1_1_1_1_1_1_1_1_1_1_1, a25_t_1_1_1_1_1_1_1_1_1_1_1_1_1_1_1_1_1_1_1, a25_t_1_1_1_1_1_1_1_1_1_1_1_1_1_1_1_1_1_1_1_1, a25_t_1_1_1_1_1_1_1_1_1_1_1_1_1_1_1_1_1_1_1_1_1, a25_t_1_1_1_1_1_1_1_1_1_1_1_1_1_1_1_1_1_1_1_1_1_1, a25_t_1_1_1_1_1_1_1_1_1_1_1_1_1_1_1_1_1_1_1_1_1_1_1, a25_t_1_1_1_1_1_1_1_1_1_1_1_1_1_1_1_1_1_1_1_1_1_1_1_1]; exact f51_k
