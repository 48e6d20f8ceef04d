theorem t_25 : Cond.instanceMethod (⟨"java/lang/Object", "<init>", "()V"⟩ : MethodName) ∈ x_big := x_bt 25 (by decide +kernel) (by decide +kernel)
theorem t_26 : Cond.code (⟨"java/lang/Object", "<init>", "()V"⟩ : MethodName) object_method_1_code 1 none ∈ x_big := x_bt 26 (by decide +kernel) (by decide +kernel)
theorem t_38 : Cond.methodLink "ContentLibrary$Blocks" 5 (⟨"java/lang/Object", "<init>", "()V"⟩ : MethodName) ∈ x_big := x_bt 38 (by decide +kernel) (by decide +kernel)
theorem t_58 : Cond.arrayClass .int ∈ x_big := x_bt 58 (by decide +kernel) (by decide +kernel)
theorem t_61 : Cond.instantiable "ContentLibrary$Picture" 3 ∈ x_big := x_bt 61 (by decide +kernel) (by decide +kernel)
theorem t_63 : Cond.instanceMethod (⟨"ContentLibrary$Picture", "<init>", "()V"⟩ : MethodName) ∈ x_big := x_bt 63 (by decide +kernel) (by decide +kernel)
theorem t_64 : Cond.code (⟨"ContentLibrary$Picture", "<init>", "()V"⟩ : MethodName) prog_5_method_1_code 1 none ∈ x_big := x_bt 64 (by decide +kernel) (by decide +kernel)
theorem t_65 : Cond.methodLink "ContentLibrary$Picture" 5 (⟨"java/lang/Object", "<init>", "()V"⟩ : MethodName) ∈ x_big := x_bt 65 (by decide +kernel) (by decide +kernel)
theorem t_86 : Cond.methodLink "ContentLibrary$Kept" 3 (⟨"java/lang/Object", "<init>", "()V"⟩ : MethodName) ∈ x_big := x_bt 86 (by decide +kernel) (by decide +kernel)
theorem t_87 : Cond.classLink "ContentLibrary$Kept" 15 "ContentLibrary$Picture" ∈ x_big := x_bt 87 (by decide +kernel) (by decide +kernel)
theorem t_88 : Cond.methodLink "ContentLibrary$Kept" 17 (⟨"ContentLibrary$Picture", "<init>", "()V"⟩ : MethodName) ∈ x_big := x_bt 88 (by decide +kernel) (by decide +kernel)
theorem t_89 : Cond.fieldLink "ContentLibrary$Kept" 9 "ContentLibrary$Kept" "there" "Z" ∈ x_big := x_bt 89 (by decide +kernel) (by decide +kernel)
theorem t_91 : Cond.fieldLink "ContentLibrary$Kept" 18 "ContentLibrary$Kept" "picture" "LContentLibrary$Picture;" ∈ x_big := x_bt 91 (by decide +kernel) (by decide +kernel)
theorem t_95 : Cond.fieldLink "ContentLibrary$Kept" 26 "ContentLibrary$Kept" "print" "J" ∈ x_big := x_bt 95 (by decide +kernel) (by decide +kernel)
theorem t_97 : Cond.fieldLink "ContentLibrary$Kept" 30 "ContentLibrary$Kept" "recordBlocks" "I" ∈ x_big := x_bt 97 (by decide +kernel) (by decide +kernel)
theorem t_99 : Cond.fieldLink "ContentLibrary$Kept" 34 "ContentLibrary$Kept" "places" "[I" ∈ x_big := x_bt 99 (by decide +kernel) (by decide +kernel)
theorem t_119 : Cond.methodLink "ContentLibrary$Digester" 3 (⟨"java/lang/Object", "<init>", "()V"⟩ : MethodName) ∈ x_big := x_bt 119 (by decide +kernel) (by decide +kernel)
theorem t_120 : Cond.fieldLink "ContentLibrary$Digester" 11 "ContentLibrary$Digester" "padded" "[I" ∈ x_big := x_bt 120 (by decide +kernel) (by decide +kernel)
theorem t_121 : Cond.fieldLink "ContentLibrary$Digester" 15 "ContentLibrary$Digester" "schedule" "[I" ∈ x_big := x_bt 121 (by decide +kernel) (by decide +kernel)
theorem t_122 : Cond.fieldLink "ContentLibrary$Digester" 18 "ContentLibrary$Digester" "state" "[I" ∈ x_big := x_bt 122 (by decide +kernel) (by decide +kernel)
theorem d_P_init_0 : decode prog_5_method_1_code 0 = .ok (.aload_n 0, 1) := by decide +kernel
theorem d_P_init_1 : decode prog_5_method_1_code 1 = .ok (.invokespecial 5, 3) := by decide +kernel
theorem d_P_init_4 : decode prog_5_method_1_code 4 = .ok (.aload_n 0, 1) := by decide +kernel
theorem d_P_init_5 : decode prog_5_method_1_code 5 = .ok (.iconst 0, 1) := by decide +kernel
theorem d_P_init_6 : decode prog_5_method_1_code 6 = .ok (.putfield 11, 3) := by decide +kernel
theorem d_P_init_9 : decode prog_5_method_1_code 9 = .ok (.aload_n 0, 1) := by decide +kernel
theorem d_P_init_10 : decode prog_5_method_1_code 10 = .ok (.bipush 66, 2) := by decide +kernel
theorem d_P_init_12 : decode prog_5_method_1_code 12 = .ok (.newarray .int, 2) := by decide +kernel
theorem d_P_init_14 : decode prog_5_method_1_code 14 = .ok (.putfield 15, 3) := by decide +kernel
theorem d_P_init_17 : decode prog_5_method_1_code 17 = .ok (.aload_n 0, 1) := by decide +kernel
theorem d_P_init_18 : decode prog_5_method_1_code 18 = .ok (.iconst 0, 1) := by decide +kernel
theorem d_P_init_19 : decode prog_5_method_1_code 19 = .ok (.putfield 19, 3) := by decide +kernel
theorem d_P_init_22 : decode prog_5_method_1_code 22 = .ok (.return_, 1) := by decide +kernel
theorem d_K_init_0 : decode prog_4_method_1_code 0 = .ok (.aload_n 0, 1) := by decide +kernel
theorem d_K_init_1 : decode prog_4_method_1_code 1 = .ok (.invokespecial 3, 3) := by decide +kernel
theorem d_K_init_4 : decode prog_4_method_1_code 4 = .ok (.aload_n 0, 1) := by decide +kernel
theorem d_K_init_5 : decode prog_4_method_1_code 5 = .ok (.iconst 0, 1) := by decide +kernel
theorem d_K_init_6 : decode prog_4_method_1_code 6 = .ok (.putfield 9, 3) := by decide +kernel
theorem d_K_init_9 : decode prog_4_method_1_code 9 = .ok (.aload_n 0, 1) := by decide +kernel
theorem d_K_init_10 : decode prog_4_method_1_code 10 = .ok (.new 15, 3) := by decide +kernel
theorem d_K_init_13 : decode prog_4_method_1_code 13 = .ok (.dup, 1) := by decide +kernel
theorem d_K_init_14 : decode prog_4_method_1_code 14 = .ok (.invokespecial 17, 3) := by decide +kernel
theorem d_K_init_17 : decode prog_4_method_1_code 17 = .ok (.putfield 18, 3) := by decide +kernel
theorem d_K_init_20 : decode prog_4_method_1_code 20 = .ok (.aload_n 0, 1) := by decide +kernel
theorem d_K_init_21 : decode prog_4_method_1_code 21 = .ok (.bipush 8, 2) := by decide +kernel
theorem d_K_init_23 : decode prog_4_method_1_code 23 = .ok (.newarray .int, 2) := by decide +kernel
theorem d_K_init_25 : decode prog_4_method_1_code 25 = .ok (.putfield 22, 3) := by decide +kernel
theorem d_K_init_28 : decode prog_4_method_1_code 28 = .ok (.aload_n 0, 1) := by decide +kernel
theorem d_K_init_29 : decode prog_4_method_1_code 29 = .ok (.lconst 0, 1) := by decide +kernel
theorem d_K_init_30 : decode prog_4_method_1_code 30 = .ok (.putfield 26, 3) := by decide +kernel
theorem d_K_init_33 : decode prog_4_method_1_code 33 = .ok (.aload_n 0, 1) := by decide +kernel
theorem d_K_init_34 : decode prog_4_method_1_code 34 = .ok (.iconst 0, 1) := by decide +kernel
theorem d_K_init_35 : decode prog_4_method_1_code 35 = .ok (.putfield 30, 3) := by decide +kernel
theorem d_K_init_38 : decode prog_4_method_1_code 38 = .ok (.aload_n 0, 1) := by decide +kernel
theorem d_K_init_39 : decode prog_4_method_1_code 39 = .ok (.iconst 3, 1) := by decide +kernel
theorem d_K_init_40 : decode prog_4_method_1_code 40 = .ok (.newarray .int, 2) := by decide +kernel
theorem d_K_init_42 : decode prog_4_method_1_code 42 = .ok (.putfield 34, 3) := by decide +kernel
theorem d_K_init_45 : decode prog_4_method_1_code 45 = .ok (.return_, 1) := by decide +kernel
theorem d_D_init_0 : decode prog_3_method_1_code 0 = .ok (.aload_n 0, 1) := by decide +kernel
theorem d_D_init_1 : decode prog_3_method_1_code 1 = .ok (.invokespecial 3, 3) := by decide +kernel
theorem d_D_init_4 : decode prog_3_method_1_code 4 = .ok (.aload_n 0, 1) := by decide +kernel
theorem d_D_init_5 : decode prog_3_method_1_code 5 = .ok (.sipush 128, 3) := by decide +kernel
theorem d_D_init_8 : decode prog_3_method_1_code 8 = .ok (.newarray .int, 2) := by decide +kernel
theorem d_D_init_10 : decode prog_3_method_1_code 10 = .ok (.putfield 11, 3) := by decide +kernel
theorem d_D_init_13 : decode prog_3_method_1_code 13 = .ok (.aload_n 0, 1) := by decide +kernel
theorem d_D_init_14 : decode prog_3_method_1_code 14 = .ok (.bipush 64, 2) := by decide +kernel
theorem d_D_init_16 : decode prog_3_method_1_code 16 = .ok (.newarray .int, 2) := by decide +kernel
theorem d_D_init_18 : decode prog_3_method_1_code 18 = .ok (.putfield 15, 3) := by decide +kernel
theorem d_D_init_21 : decode prog_3_method_1_code 21 = .ok (.aload_n 0, 1) := by decide +kernel
theorem d_D_init_22 : decode prog_3_method_1_code 22 = .ok (.bipush 8, 2) := by decide +kernel
theorem d_D_init_24 : decode prog_3_method_1_code 24 = .ok (.newarray .int, 2) := by decide +kernel
theorem d_D_init_26 : decode prog_3_method_1_code 26 = .ok (.putfield 18, 3) := by decide +kernel
theorem d_D_init_29 : decode prog_3_method_1_code 29 = .ok (.return_, 1) := by decide +kernel
theorem d_B_init_0 : decode prog_2_method_1_code 0 = .ok (.aload_n 0, 1) := by decide +kernel
theorem d_B_init_1 : decode prog_2_method_1_code 1 = .ok (.invokespecial 5, 3) := by decide +kernel
theorem d_B_init_4 : decode prog_2_method_1_code 4 = .ok (.aload_n 0, 1) := by decide +kernel
theorem d_B_init_5 : decode prog_2_method_1_code 5 = .ok (.iload_n 1, 1) := by decide +kernel
theorem d_B_init_6 : decode prog_2_method_1_code 6 = .ok (.putfield 11, 3) := by decide +kernel
theorem d_B_init_9 : decode prog_2_method_1_code 9 = .ok (.aload_n 0, 1) := by decide +kernel
theorem d_B_init_10 : decode prog_2_method_1_code 10 = .ok (.iconst (-1), 1) := by decide +kernel
theorem d_B_init_11 : decode prog_2_method_1_code 11 = .ok (.putfield 15, 3) := by decide +kernel
theorem d_B_init_14 : decode prog_2_method_1_code 14 = .ok (.aload_n 0, 1) := by decide +kernel
theorem d_B_init_15 : decode prog_2_method_1_code 15 = .ok (.iconst 0, 1) := by decide +kernel
theorem d_B_init_16 : decode prog_2_method_1_code 16 = .ok (.putfield 18, 3) := by decide +kernel
theorem d_B_init_19 : decode prog_2_method_1_code 19 = .ok (.aload_n 0, 1) := by decide +kernel
theorem d_B_init_20 : decode prog_2_method_1_code 20 = .ok (.iload_n 1, 1) := by decide +kernel
theorem d_B_init_21 : decode prog_2_method_1_code 21 = .ok (.bipush 64, 2) := by decide +kernel
theorem d_B_init_23 : decode prog_2_method_1_code 23 = .ok (.imul, 1) := by decide +kernel
theorem d_B_init_24 : decode prog_2_method_1_code 24 = .ok (.newarray .int, 2) := by decide +kernel
theorem d_B_init_26 : decode prog_2_method_1_code 26 = .ok (.putfield 22, 3) := by decide +kernel
theorem d_B_init_29 : decode prog_2_method_1_code 29 = .ok (.aload_n 0, 1) := by decide +kernel
theorem d_B_init_30 : decode prog_2_method_1_code 30 = .ok (.bipush 64, 2) := by decide +kernel
theorem d_B_init_32 : decode prog_2_method_1_code 32 = .ok (.newarray .int, 2) := by decide +kernel
theorem d_B_init_34 : decode prog_2_method_1_code 34 = .ok (.putfield 26, 3) := by decide +kernel
theorem d_B_init_37 : decode prog_2_method_1_code 37 = .ok (.return_, 1) := by decide +kernel
set_option maxHeartbeats 4000000 in
set_option maxRecDepth 100000 in
theorem c_P_init (l : Launch) (G : x_G) (ad : Nat → Nat) (c : Nat → va_E) (t k : Nat) (hk : k < t) (hck : c k = .inr (2, [.int 0, .null, .int 0])) : Met l (⟨"ContentLibrary$Picture", "<init>", "()V"⟩ : MethodName) (x_ws (⟨"ContentLibrary$Picture", "<init>", "()V"⟩ : MethodName) prog_5_method_1_code 1 none) ({ frames := 1, cells := 1, slots := 66, locals := 12 } : Room) (va_Pc [.ref (ad k)] (y_PW G ad c t)) (va_Qv (fun _ : Unit => True) (fun _ U => ∃ (ad1 : Nat → Nat) (c1 : Nat → va_E), y_PW G ad1 c1 (t + 1) U ∧ (∀ j, j < t → ad1 j = ad j) ∧ c1 k = .inr (2, [.int (0 : Int32), .ref (ad1 t), .int (0 : Int32)]) ∧ c1 t = .inl (x_ca G 0, 66, .inl (fun _ => (0 : Int32))) ∧ ∀ j, j < t → j ≠ k → c1 j = c j) (x_A G)) 1 66 (x_A G) := by
  refine Met.ofW (cc := prog_5_method_1_code) (maxL := 1) (ret := none) (by decide) rfl ?_
  intro p e s m args below meth cd s₁ B hml hv
  obtain ⟨rfl, hz, hP, hD, hK, hG⟩ := hv
  obtain ⟨hx, hb, hr, hml, hown, hts, hlocks, hz, hK, hG⟩ : x_Ctx G p s m _ meth cd prog_5_method_1_code "ContentLibrary$Picture" 1 none := ⟨B.exec, B.bytes, B.returns, hml, findClass_of_methodNamed B.named, fun w h => atoms_spec (ws := (x_ws (⟨"ContentLibrary$Picture", "<init>", "()V"⟩ : MethodName) prog_5_method_1_code 1 none)) B.pre w (List.mem_cons_of_mem _ h), B.notSynchronized, hz, hK, hG⟩
  have hin : meth.name = "<init>" := (name_of_methodNamed B.named B.method).1
  have hA : ∀ q : Nat, s.heap.size ≤ q → x_A G q := fun q h => Nat.le_trans hz h
  have hS : va_S (x_A G) s.heap s.heap [] := va_S.rf
  have f0_k : c k = .inr (2, [.int 0, .null, .int 0]) := hck
  have a0_k : ad k = ad k := rfl
  have g0 : ∀ j, j < t → j ≠ k → c j = c j := fun _ _ _ => rfl
  have b0 : ∀ j, j < t → ad j = ad j := fun _ _ => rfl
  have hl := lv_entry ([.ref (ad k)]) (n := 1) (Nat.le_of_ble_eq_true rfl)
  rw [lg_entry_eq]
  generalize (lg_sl ([.ref (ad k)]) ++ List.replicate (1 - (lg_sl ([.ref (ad k)])).length) Slot.unset).toArray = ls at hl ⊢
  have hl : lv_has ls 1 [(0, .ref (ad k))] := hl
  refine lv_aload_n hx hb d_P_init_0 rfl (lv_at hl 0 rfl) ?_
  refine W.objInit hx hb hown (hts _ t_65) (hts _ t_25) (hts _ t_26) rfl (by rw [hml]; exact hl.1) rfl d_P_init_1 (Nat.le_of_ble_eq_true rfl) (Nat.le_of_ble_eq_true rfl) ?_
  refine W.eq (g2 := F0 m 4 ls []) rfl ?_
  refine lv_aload_n hx hb d_P_init_4 rfl (lv_at hl 0 rfl) ?_
  refine lv_iconst (v := (0 : Int32)) hx hb d_P_init_5 (by decide) ?_
  refine va_put (D := x_D G) (ci := 2) (v := .int (0 : Int32)) (ty := .boolean) (C := "ContentLibrary$Picture") (T := x_TP) (N := 3) hx hb hts x_inP x_tyP x_tyP_ok x_nmP hown hK hP hD hS k (y_at (by omega) a0_k f0_k) rfl 0 (by decide) (hts _ t_66) (fun _ h9 => h9) rfl (by decide +kernel) rfl rfl (Nat.le_of_ble_eq_true rfl) d_P_init_6 (fun H locs hP hD hS => ?_)
  rw [y_set (by omega) a0_k] at hP hD
  obtain ⟨c1, ec1⟩ : ∃ c1, c1 = va_up c k (.inr (2, ([.int 0, .null, .int 0] : List Value).set 0 (.int (0 : Int32)))) := ⟨_, rfl⟩
  rw [← ec1] at hP hD
  have f1_k : c1 k = .inr (2, [.int (0 : Int32), .null, .int 0]) := by rw [ec1]; exact va_up_self _ _ _
  have g1 : ∀ j, j < t → j ≠ k → c1 j = c j := fun j h1 h2 => by rw [ec1]; exact (va_up_ne _ _ (by omega)).trans (g0 j h1 h2)
  refine lv_aload_n hx hb d_P_init_9 rfl (lv_at hl 0 rfl) ?_
  refine lv_bipush (v := (66 : Int32)) hx hb d_P_init_10 (by decide) ?_
  refine va_newa (atype := .int) hx hb (hts _ t_58) (ty := .int) rfl hK hP hD hS hA (N' := 66) (a0 := (66, .inl (fun _ => (0 : Int32)))) (fun _ => rfl) (by decide) (by decide) (by decide) (Nat.le_of_ble_eq_true rfl) (Nat.le_of_ble_eq_true rfl) d_P_init_12 (fun q1 cA H hK2 hP hD hS => ?_)
  obtain rfl := y_caI hK2
  rw [y_push] at hP hD
  obtain ⟨ad1, ead1⟩ : ∃ a1, a1 = va_up ad t q1 := ⟨_, rfl⟩
  rw [← ead1] at hP hD
  have a1_k : ad1 k = (ad k) := by rw [ead1]; exact (va_up_ne _ _ (by omega)).trans a0_k
  have a1_t : ad1 t = q1 := by rw [ead1]; exact va_up_self _ _ _
  have b1 : ∀ j, j < t → ad1 j = ad j := fun j h1 => by rw [ead1]; exact (va_up_ne _ _ (by omega)).trans (b0 j h1)
  obtain ⟨c2, ec2⟩ : ∃ c2, c2 = va_up c1 t (.inl (x_ca G 0, 66, .inl (fun _ => (0 : Int32)))) := ⟨_, rfl⟩
  rw [← ec2] at hP hD
  have f2_k : c2 k = .inr (2, [.int (0 : Int32), .null, .int 0]) := by rw [ec2]; exact (va_up_ne _ _ (by omega)).trans f1_k
  have f2_t : c2 t = .inl (x_ca G 0, 66, .inl (fun _ => (0 : Int32))) := by rw [ec2]; exact va_up_self _ _ _
  have g2 : ∀ j, j < t → j ≠ k → c2 j = c j := fun j h1 h2 => by rw [ec2]; exact (va_up_ne _ _ (by omega)).trans (g1 j h1 h2)
  refine va_putF (D := x_D G) (ci := 2) (v := .ref q1) (ty := .array .int) (C := "ContentLibrary$Picture") (T := x_TP) (N := 3) hx hb hts x_inP x_tyP x_tyP_ok x_nmP hown hK hP hD hS k (y_at (by omega) a1_k f2_k) rfl 1 (by decide) (hts _ t_68) (fun _ h9 => h9) rfl hin rfl (by decide +kernel) rfl rfl (Nat.le_of_ble_eq_true rfl) d_P_init_14 (fun H locs hP hD hS => ?_)
  rw [y_set (by omega) a1_k] at hP hD
  obtain ⟨c3, ec3⟩ : ∃ c3, c3 = va_up c2 k (.inr (2, ([.int (0 : Int32), .null, .int 0] : List Value).set 1 (.ref q1))) := ⟨_, rfl⟩
  rw [← ec3] at hP hD
  have f3_t : c3 t = .inl (x_ca G 0, 66, .inl (fun _ => (0 : Int32))) := by rw [ec3]; exact (va_up_ne _ _ (by omega)).trans f2_t
  have f3_k : c3 k = .inr (2, [.int (0 : Int32), .ref q1, .int 0]) := by rw [ec3]; exact va_up_self _ _ _
  have g3 : ∀ j, j < t → j ≠ k → c3 j = c j := fun j h1 h2 => by rw [ec3]; exact (va_up_ne _ _ (by omega)).trans (g2 j h1 h2)
  refine lv_aload_n hx hb d_P_init_17 rfl (lv_at hl 0 rfl) ?_
  refine lv_iconst (v := (0 : Int32)) hx hb d_P_init_18 (by decide) ?_
  refine va_put (D := x_D G) (ci := 2) (v := .int (0 : Int32)) (ty := .int) (C := "ContentLibrary$Picture") (T := x_TP) (N := 3) hx hb hts x_inP x_tyP x_tyP_ok x_nmP hown hK hP hD hS k (y_at (by omega) a1_k f3_k) rfl 2 (by decide) (hts _ t_71) (fun _ h9 => h9) rfl (by decide +kernel) rfl rfl (Nat.le_of_ble_eq_true rfl) d_P_init_19 (fun H locs hP hD hS => ?_)
  rw [y_set (by omega) a1_k] at hP hD
  obtain ⟨c4, ec4⟩ : ∃ c4, c4 = va_up c3 k (.inr (2, ([.int (0 : Int32), .ref q1, .int 0] : List Value).set 2 (.int (0 : Int32)))) := ⟨_, rfl⟩
  rw [← ec4] at hP hD
  have f4_t : c4 t = .inl (x_ca G 0, 66, .inl (fun _ => (0 : Int32))) := by rw [ec4]; exact (va_up_ne _ _ (by omega)).trans f3_t
  have f4_k : c4 k = .inr (2, [.int (0 : Int32), .ref q1, .int (0 : Int32)]) := by rw [ec4]; exact va_up_self _ _ _
  have g4 : ∀ j, j < t → j ≠ k → c4 j = c j := fun j h1 h2 => by rw [ec4]; exact (va_up_ne _ _ (by omega)).trans (g3 j h1 h2)
  refine W.widen (k := 1) (n := 66) (Nat.le_of_ble_eq_true rfl) (Nat.le_of_ble_eq_true rfl) ?_
  exact W.vret hx hb hr (fun T9 ht hW => ⟨⟨(), rfl, trivial, ⟨ad1, c4, y_pw hP hD hK hG hS hz ht hW, b1, by rw [a1_t]; exact f4_k, f4_t, g4⟩⟩, hS.F ht⟩) hS.2.2 d_P_init_22
set_option maxHeartbeats 4000000 in
set_option maxRecDepth 100000 in
theorem c_K_init (l : Launch) (G : x_G) (ad : Nat → Nat) (c : Nat → va_E) (t k : Nat) (hk : k < t) (hck : c k = .inr (3, [.int 0, .null, .null, .long 0, .int 0, .null])) : Met l (⟨"ContentLibrary$Kept", "<init>", "()V"⟩ : MethodName) (x_ws (⟨"ContentLibrary$Kept", "<init>", "()V"⟩ : MethodName) prog_4_method_1_code 1 none) ({ frames := 2, cells := 4, slots := 80, locals := 32 } : Room) (va_Pc [.ref (ad k)] (y_PW G ad c t)) (va_Qv (fun _ : Unit => True) (fun _ U => ∃ (ad1 : Nat → Nat) (c1 : Nat → va_E), y_PW G ad1 c1 (t + 1 + 1 + 1 + 1) U ∧ (∀ j, j < t → ad1 j = ad j) ∧ c1 k = .inr (3, [.int (0 : Int32), .ref (ad1 t), .ref (ad1 (t + 1 + 1)), .long (0 : Int64), .int (0 : Int32), .ref (ad1 (t + 1 + 1 + 1))]) ∧ c1 t = .inr (2, [.int (0 : Int32), .ref (ad1 (t + 1)), .int (0 : Int32)]) ∧ c1 (t + 1) = .inl (x_ca G 0, 66, .inl (fun _ => (0 : Int32))) ∧ c1 (t + 1 + 1) = .inl (x_ca G 0, 8, .inl (fun _ => (0 : Int32))) ∧ c1 (t + 1 + 1 + 1) = .inl (x_ca G 0, 3, .inl (fun _ => (0 : Int32))) ∧ ∀ j, j < t → j ≠ k → c1 j = c j) (x_A G)) 4 80 (x_A G) := by
  refine Met.ofW (cc := prog_4_method_1_code) (maxL := 1) (ret := none) (by decide) rfl ?_
  intro p e s m args below meth cd s₁ B hml hv
  obtain ⟨rfl, hz, hP, hD, hK, hG⟩ := hv
  obtain ⟨hx, hb, hr, hml, hown, hts, hlocks, hz, hK, hG⟩ : x_Ctx G p s m _ meth cd prog_4_method_1_code "ContentLibrary$Kept" 1 none := ⟨B.exec, B.bytes, B.returns, hml, findClass_of_methodNamed B.named, fun w h => atoms_spec (ws := (x_ws (⟨"ContentLibrary$Kept", "<init>", "()V"⟩ : MethodName) prog_4_method_1_code 1 none)) B.pre w (List.mem_cons_of_mem _ h), B.notSynchronized, hz, hK, hG⟩
  have hin : meth.name = "<init>" := (name_of_methodNamed B.named B.method).1
  have hA : ∀ q : Nat, s.heap.size ≤ q → x_A G q := fun q h => Nat.le_trans hz h
  have hS : va_S (x_A G) s.heap s.heap [] := va_S.rf
  have f0_k : c k = .inr (3, [.int 0, .null, .null, .long 0, .int 0, .null]) := hck
  have a0_k : ad k = ad k := rfl
  have g0 : ∀ j, j < t → j ≠ k → c j = c j := fun _ _ _ => rfl
  have b0 : ∀ j, j < t → ad j = ad j := fun _ _ => rfl
  have hl := lv_entry ([.ref (ad k)]) (n := 1) (Nat.le_of_ble_eq_true rfl)
  rw [lg_entry_eq]
  generalize (lg_sl ([.ref (ad k)]) ++ List.replicate (1 - (lg_sl ([.ref (ad k)])).length) Slot.unset).toArray = ls at hl ⊢
  have hl : lv_has ls 1 [(0, .ref (ad k))] := hl
  refine lv_aload_n hx hb d_K_init_0 rfl (lv_at hl 0 rfl) ?_
  refine W.objInit hx hb hown (hts _ t_86) (hts _ t_25) (hts _ t_26) rfl (by rw [hml]; exact hl.1) rfl d_K_init_1 (Nat.le_of_ble_eq_true rfl) (Nat.le_of_ble_eq_true rfl) ?_
  refine W.eq (g2 := F0 m 4 ls []) rfl ?_
  refine lv_aload_n hx hb d_K_init_4 rfl (lv_at hl 0 rfl) ?_
  refine lv_iconst (v := (0 : Int32)) hx hb d_K_init_5 (by decide) ?_
  refine va_put (D := x_D G) (ci := 3) (v := .int (0 : Int32)) (ty := .boolean) (C := "ContentLibrary$Kept") (T := x_TK) (N := 6) hx hb hts x_inK x_tyK x_tyK_ok x_nmK hown hK hP hD hS k (y_at (by omega) a0_k f0_k) rfl 0 (by decide) (hts _ t_89) (fun _ h9 => h9) rfl (by decide +kernel) rfl rfl (Nat.le_of_ble_eq_true rfl) d_K_init_6 (fun H locs hP hD hS => ?_)
  rw [y_set (by omega) a0_k] at hP hD
  obtain ⟨c1, ec1⟩ : ∃ c1, c1 = va_up c k (.inr (3, ([.int 0, .null, .null, .long 0, .int 0, .null] : List Value).set 0 (.int (0 : Int32)))) := ⟨_, rfl⟩
  rw [← ec1] at hP hD
  have f1_k : c1 k = .inr (3, [.int (0 : Int32), .null, .null, .long 0, .int 0, .null]) := by rw [ec1]; exact va_up_self _ _ _
  have g1 : ∀ j, j < t → j ≠ k → c1 j = c j := fun j h1 h2 => by rw [ec1]; exact (va_up_ne _ _ (by omega)).trans (g0 j h1 h2)
  refine lv_aload_n hx hb d_K_init_9 rfl (lv_at hl 0 rfl) ?_
  refine va_new (ci := 2) (fs := [.int 0, .null, .int 0]) (C := "ContentLibrary$Picture") (T := x_TP) (N := 3) hx hb hts x_inP x_tyP x_tyP_ok hown (hts _ t_87) (hts _ t_61) (hts _ t_4) hK hP hD hS hA rfl (by decide) (Nat.le_of_ble_eq_true rfl) (Nat.le_of_ble_eq_true rfl) d_K_init_10 (fun q1 H hP hD hS => ?_)
  rw [y_push] at hP hD
  obtain ⟨ad1, ead1⟩ : ∃ a1, a1 = va_up ad t q1 := ⟨_, rfl⟩
  rw [← ead1] at hP hD
  have a1_k : ad1 k = (ad k) := by rw [ead1]; exact (va_up_ne _ _ (by omega)).trans a0_k
  have a1_t : ad1 t = q1 := by rw [ead1]; exact va_up_self _ _ _
  have b1 : ∀ j, j < t → ad1 j = ad j := fun j h1 => by rw [ead1]; exact (va_up_ne _ _ (by omega)).trans (b0 j h1)
  obtain ⟨c2, ec2⟩ : ∃ c2, c2 = va_up c1 t (.inr (2, [.int 0, .null, .int 0])) := ⟨_, rfl⟩
  rw [← ec2] at hP hD
  have f2_k : c2 k = .inr (3, [.int (0 : Int32), .null, .null, .long 0, .int 0, .null]) := by rw [ec2]; exact (va_up_ne _ _ (by omega)).trans f1_k
  have f2_t : c2 t = .inr (2, [.int 0, .null, .int 0]) := by rw [ec2]; exact va_up_self _ _ _
  have g2 : ∀ j, j < t → j ≠ k → c2 j = c j := fun j h1 h2 => by rw [ec2]; exact (va_up_ne _ _ (by omega)).trans (g1 j h1 h2)
  refine lv_dup hx hb d_K_init_13 rfl ?_
  refine W.eq (g2 := F0 m 14 ls [.ref q1, .ref q1, .ref (ad k)]) rfl ?_
  rw [← a1_t]
  refine va_callv (va_runI (As := []) (rest := [.ref (ad1 t), .ref (ad k)]) ⟨hx, hb, hml, hown, hts⟩ (c_P_init l G ad1 c2 (t + 1) t (by omega) f2_t) (cwI 0 hts (x_gws t_64) rfl rfl rfl (hts _ t_4) (hts _ t_88) (hts _ t_63) rfl (by decide +kernel) ⟨Nat.le_of_ble_eq_true rfl, Nat.le_of_ble_eq_true rfl⟩) ⟨y_blind _ _ _ _ _, fun U hU hW => ⟨rfl, y_pw hP hD hK hG hS hz hU hW⟩⟩ rfl rfl hl.1 rfl (lv_room (Nat.le_of_ble_eq_true rfl)) d_K_init_14 ⟨Nat.le_of_ble_eq_true rfl, Nat.le_of_ble_eq_true rfl⟩) hS (fun q _ h => h) (fun q h => h) (fun u U H locs ht hvm hw hB _ _ hS => ?_)
  rw [a1_t]
  obtain ⟨ad2, c3, hPW, hb9, hck9, hn0, hfr9⟩ := hB
  obtain ⟨hP, hD⟩ := y_back hPW ht
  have a2_k : ad2 k = (ad k) := (hb9 _ (by omega)).trans a1_k
  have f3_k : c3 k = .inr (3, [.int (0 : Int32), .null, .null, .long 0, .int 0, .null]) := (hfr9 _ (by omega) (by omega)).trans f2_k
  have a2_t : ad2 t = q1 := (hb9 _ (by omega)).trans a1_t
  have b2 : ∀ j, j < t → ad2 j = ad j := fun j h1 => (hb9 _ (by omega)).trans (b1 j h1)
  have f3_t : c3 t = .inr (2, [.int (0 : Int32), .ref (ad2 (t + 1)), .int (0 : Int32)]) := hck9
  have a2_t_1 : ad2 (t + 1) = ad2 (t + 1) := rfl
  have f3_t_1 : c3 (t + 1) = .inl (x_ca G 0, 66, .inl (fun _ => (0 : Int32))) := hn0
  have g3 : ∀ j, j < t → j ≠ k → c3 j = c j := fun j h1 h2 => (hfr9 _ (by omega) (by omega)).trans (g2 j h1 h2)
  refine va_putF (D := x_D G) (ci := 3) (v := .ref q1) (ty := .object "ContentLibrary$Picture") (C := "ContentLibrary$Kept") (T := x_TK) (N := 6) hx hb hts x_inK x_tyK x_tyK_ok x_nmK hown hK hP hD hS k (y_at (by omega) a2_k f3_k) rfl 1 (by decide) (hts _ t_91) (fun _ h9 => h9) rfl hin rfl (by decide +kernel) rfl rfl (Nat.le_of_ble_eq_true rfl) d_K_init_17 (fun H locs hP hD hS => ?_)
  rw [y_set (by omega) a2_k] at hP hD
  obtain ⟨c4, ec4⟩ : ∃ c4, c4 = va_up c3 k (.inr (3, ([.int (0 : Int32), .null, .null, .long 0, .int 0, .null] : List Value).set 1 (.ref q1))) := ⟨_, rfl⟩
  rw [← ec4] at hP hD
  have f4_t : c4 t = .inr (2, [.int (0 : Int32), .ref (ad2 (t + 1)), .int (0 : Int32)]) := by rw [ec4]; exact (va_up_ne _ _ (by omega)).trans f3_t
  have f4_t_1 : c4 (t + 1) = .inl (x_ca G 0, 66, .inl (fun _ => (0 : Int32))) := by rw [ec4]; exact (va_up_ne _ _ (by omega)).trans f3_t_1
  have f4_k : c4 k = .inr (3, [.int (0 : Int32), .ref q1, .null, .long 0, .int 0, .null]) := by rw [ec4]; exact va_up_self _ _ _
  have g4 : ∀ j, j < t → j ≠ k → c4 j = c j := fun j h1 h2 => by rw [ec4]; exact (va_up_ne _ _ (by omega)).trans (g3 j h1 h2)
  refine lv_aload_n hx hb d_K_init_20 rfl (lv_at hl 0 rfl) ?_
  refine lv_bipush (v := (8 : Int32)) hx hb d_K_init_21 (by decide) ?_
  refine va_newa (atype := .int) hx hb (hts _ t_58) (ty := .int) rfl hK hP hD hS hA (N' := 8) (a0 := (8, .inl (fun _ => (0 : Int32)))) (fun _ => rfl) (by decide) (by decide) (by decide) (Nat.le_of_ble_eq_true rfl) (Nat.le_of_ble_eq_true rfl) d_K_init_23 (fun q2 cA H hK2 hP hD hS => ?_)
  obtain rfl := y_caI hK2
  rw [y_push] at hP hD
  obtain ⟨ad3, ead3⟩ : ∃ a1, a1 = va_up ad2 (t + 1 + 1) q2 := ⟨_, rfl⟩
  rw [← ead3] at hP hD
  have a3_k : ad3 k = (ad k) := by rw [ead3]; exact (va_up_ne _ _ (by omega)).trans a2_k
  have a3_t : ad3 t = q1 := by rw [ead3]; exact (va_up_ne _ _ (by omega)).trans a2_t
  have a3_t_1 : ad3 (t + 1) = (ad2 (t + 1)) := by rw [ead3]; exact (va_up_ne _ _ (by omega)).trans a2_t_1
  have a3_t_1_1 : ad3 (t + 1 + 1) = q2 := by rw [ead3]; exact va_up_self _ _ _
  have b3 : ∀ j, j < t → ad3 j = ad j := fun j h1 => by rw [ead3]; exact (va_up_ne _ _ (by omega)).trans (b2 j h1)
  obtain ⟨c5, ec5⟩ : ∃ c5, c5 = va_up c4 (t + 1 + 1) (.inl (x_ca G 0, 8, .inl (fun _ => (0 : Int32)))) := ⟨_, rfl⟩
  rw [← ec5] at hP hD
  have f5_k : c5 k = .inr (3, [.int (0 : Int32), .ref q1, .null, .long 0, .int 0, .null]) := by rw [ec5]; exact (va_up_ne _ _ (by omega)).trans f4_k
  have f5_t : c5 t = .inr (2, [.int (0 : Int32), .ref (ad2 (t + 1)), .int (0 : Int32)]) := by rw [ec5]; exact (va_up_ne _ _ (by omega)).trans f4_t
  have f5_t_1 : c5 (t + 1) = .inl (x_ca G 0, 66, .inl (fun _ => (0 : Int32))) := by rw [ec5]; exact (va_up_ne _ _ (by omega)).trans f4_t_1
  have f5_t_1_1 : c5 (t + 1 + 1) = .inl (x_ca G 0, 8, .inl (fun _ => (0 : Int32))) := by rw [ec5]; exact va_up_self _ _ _
  have g5 : ∀ j, j < t → j ≠ k → c5 j = c j := fun j h1 h2 => by rw [ec5]; exact (va_up_ne _ _ (by omega)).trans (g4 j h1 h2)
  refine va_putF (D := x_D G) (ci := 3) (v := .ref q2) (ty := .array .int) (C := "ContentLibrary$Kept") (T := x_TK) (N := 6) hx hb hts x_inK x_tyK x_tyK_ok x_nmK hown hK hP hD hS k (y_at (by omega) a3_k f5_k) rfl 2 (by decide) (hts _ t_93) (fun _ h9 => h9) rfl hin rfl (by decide +kernel) rfl rfl (Nat.le_of_ble_eq_true rfl) d_K_init_25 (fun H locs hP hD hS => ?_)
  rw [y_set (by omega) a3_k] at hP hD
  obtain ⟨c6, ec6⟩ : ∃ c6, c6 = va_up c5 k (.inr (3, ([.int (0 : Int32), .ref q1, .null, .long 0, .int 0, .null] : List Value).set 2 (.ref q2))) := ⟨_, rfl⟩
  rw [← ec6] at hP hD
  have f6_t : c6 t = .inr (2, [.int (0 : Int32), .ref (ad2 (t + 1)), .int (0 : Int32)]) := by rw [ec6]; exact (va_up_ne _ _ (by omega)).trans f5_t
  have f6_t_1 : c6 (t + 1) = .inl (x_ca G 0, 66, .inl (fun _ => (0 : Int32))) := by rw [ec6]; exact (va_up_ne _ _ (by omega)).trans f5_t_1
  have f6_t_1_1 : c6 (t + 1 + 1) = .inl (x_ca G 0, 8, .inl (fun _ => (0 : Int32))) := by rw [ec6]; exact (va_up_ne _ _ (by omega)).trans f5_t_1_1
  have f6_k : c6 k = .inr (3, [.int (0 : Int32), .ref q1, .ref q2, .long 0, .int 0, .null]) := by rw [ec6]; exact va_up_self _ _ _
  have g6 : ∀ j, j < t → j ≠ k → c6 j = c j := fun j h1 h2 => by rw [ec6]; exact (va_up_ne _ _ (by omega)).trans (g5 j h1 h2)
  refine lv_aload_n hx hb d_K_init_28 rfl (lv_at hl 0 rfl) ?_
  refine lv_lconst (v := (0 : Int64)) hx hb d_K_init_29 (by decide) ?_
  refine va_put (D := x_D G) (ci := 3) (v := .long (0 : Int64)) (ty := .long) (C := "ContentLibrary$Kept") (T := x_TK) (N := 6) hx hb hts x_inK x_tyK x_tyK_ok x_nmK hown hK hP hD hS k (y_at (by omega) a3_k f6_k) rfl 3 (by decide) (hts _ t_95) (fun _ h9 => h9) rfl (by decide +kernel) rfl rfl (Nat.le_of_ble_eq_true rfl) d_K_init_30 (fun H locs hP hD hS => ?_)
  rw [y_set (by omega) a3_k] at hP hD
  obtain ⟨c7, ec7⟩ : ∃ c7, c7 = va_up c6 k (.inr (3, ([.int (0 : Int32), .ref q1, .ref q2, .long 0, .int 0, .null] : List Value).set 3 (.long (0 : Int64)))) := ⟨_, rfl⟩
  rw [← ec7] at hP hD
  have f7_t : c7 t = .inr (2, [.int (0 : Int32), .ref (ad2 (t + 1)), .int (0 : Int32)]) := by rw [ec7]; exact (va_up_ne _ _ (by omega)).trans f6_t
  have f7_t_1 : c7 (t + 1) = .inl (x_ca G 0, 66, .inl (fun _ => (0 : Int32))) := by rw [ec7]; exact (va_up_ne _ _ (by omega)).trans f6_t_1
  have f7_t_1_1 : c7 (t + 1 + 1) = .inl (x_ca G 0, 8, .inl (fun _ => (0 : Int32))) := by rw [ec7]; exact (va_up_ne _ _ (by omega)).trans f6_t_1_1
  have f7_k : c7 k = .inr (3, [.int (0 : Int32), .ref q1, .ref q2, .long (0 : Int64), .int 0, .null]) := by rw [ec7]; exact va_up_self _ _ _
  have g7 : ∀ j, j < t → j ≠ k → c7 j = c j := fun j h1 h2 => by rw [ec7]; exact (va_up_ne _ _ (by omega)).trans (g6 j h1 h2)
  refine lv_aload_n hx hb d_K_init_33 rfl (lv_at hl 0 rfl) ?_
  refine lv_iconst (v := (0 : Int32)) hx hb d_K_init_34 (by decide) ?_
  refine va_put (D := x_D G) (ci := 3) (v := .int (0 : Int32)) (ty := .int) (C := "ContentLibrary$Kept") (T := x_TK) (N := 6) hx hb hts x_inK x_tyK x_tyK_ok x_nmK hown hK hP hD hS k (y_at (by omega) a3_k f7_k) rfl 4 (by decide) (hts _ t_97) (fun _ h9 => h9) rfl (by decide +kernel) rfl rfl (Nat.le_of_ble_eq_true rfl) d_K_init_35 (fun H locs hP hD hS => ?_)
  rw [y_set (by omega) a3_k] at hP hD
  obtain ⟨c8, ec8⟩ : ∃ c8, c8 = va_up c7 k (.inr (3, ([.int (0 : Int32), .ref q1, .ref q2, .long (0 : Int64), .int 0, .null] : List Value).set 4 (.int (0 : Int32)))) := ⟨_, rfl⟩
  rw [← ec8] at hP hD
  have f8_t : c8 t = .inr (2, [.int (0 : Int32), .ref (ad2 (t + 1)), .int (0 : Int32)]) := by rw [ec8]; exact (va_up_ne _ _ (by omega)).trans f7_t
  have f8_t_1 : c8 (t + 1) = .inl (x_ca G 0, 66, .inl (fun _ => (0 : Int32))) := by rw [ec8]; exact (va_up_ne _ _ (by omega)).trans f7_t_1
  have f8_t_1_1 : c8 (t + 1 + 1) = .inl (x_ca G 0, 8, .inl (fun _ => (0 : Int32))) := by rw [ec8]; exact (va_up_ne _ _ (by omega)).trans f7_t_1_1
  have f8_k : c8 k = .inr (3, [.int (0 : Int32), .ref q1, .ref q2, .long (0 : Int64), .int (0 : Int32), .null]) := by rw [ec8]; exact va_up_self _ _ _
  have g8 : ∀ j, j < t → j ≠ k → c8 j = c j := fun j h1 h2 => by rw [ec8]; exact (va_up_ne _ _ (by omega)).trans (g7 j h1 h2)
  refine lv_aload_n hx hb d_K_init_38 rfl (lv_at hl 0 rfl) ?_
  refine lv_iconst (v := (3 : Int32)) hx hb d_K_init_39 (by decide) ?_
  refine va_newa (atype := .int) hx hb (hts _ t_58) (ty := .int) rfl hK hP hD hS hA (N' := 3) (a0 := (3, .inl (fun _ => (0 : Int32)))) (fun _ => rfl) (by decide) (by decide) (by decide) (Nat.le_of_ble_eq_true rfl) (Nat.le_of_ble_eq_true rfl) d_K_init_40 (fun q3 cA H hK2 hP hD hS => ?_)
  obtain rfl := y_caI hK2
  rw [y_push] at hP hD
  obtain ⟨ad4, ead4⟩ : ∃ a1, a1 = va_up ad3 (t + 1 + 1 + 1) q3 := ⟨_, rfl⟩
  rw [← ead4] at hP hD
  have a4_k : ad4 k = (ad k) := by rw [ead4]; exact (va_up_ne _ _ (by omega)).trans a3_k
  have a4_t : ad4 t = q1 := by rw [ead4]; exact (va_up_ne _ _ (by omega)).trans a3_t
  have a4_t_1 : ad4 (t + 1) = (ad2 (t + 1)) := by rw [ead4]; exact (va_up_ne _ _ (by omega)).trans a3_t_1
  have a4_t_1_1 : ad4 (t + 1 + 1) = q2 := by rw [ead4]; exact (va_up_ne _ _ (by omega)).trans a3_t_1_1
  have a4_t_1_1_1 : ad4 (t + 1 + 1 + 1) = q3 := by rw [ead4]; exact va_up_self _ _ _
  have b4 : ∀ j, j < t → ad4 j = ad j := fun j h1 => by rw [ead4]; exact (va_up_ne _ _ (by omega)).trans (b3 j h1)
  obtain ⟨c9, ec9⟩ : ∃ c9, c9 = va_up c8 (t + 1 + 1 + 1) (.inl (x_ca G 0, 3, .inl (fun _ => (0 : Int32)))) := ⟨_, rfl⟩
  rw [← ec9] at hP hD
  have f9_k : c9 k = .inr (3, [.int (0 : Int32), .ref q1, .ref q2, .long (0 : Int64), .int (0 : Int32), .null]) := by rw [ec9]; exact (va_up_ne _ _ (by omega)).trans f8_k
  have f9_t : c9 t = .inr (2, [.int (0 : Int32), .ref (ad2 (t + 1)), .int (0 : Int32)]) := by rw [ec9]; exact (va_up_ne _ _ (by omega)).trans f8_t
  have f9_t_1 : c9 (t + 1) = .inl (x_ca G 0, 66, .inl (fun _ => (0 : Int32))) := by rw [ec9]; exact (va_up_ne _ _ (by omega)).trans f8_t_1
  have f9_t_1_1 : c9 (t + 1 + 1) = .inl (x_ca G 0, 8, .inl (fun _ => (0 : Int32))) := by rw [ec9]; exact (va_up_ne _ _ (by omega)).trans f8_t_1_1
  have f9_t_1_1_1 : c9 (t + 1 + 1 + 1) = .inl (x_ca G 0, 3, .inl (fun _ => (0 : Int32))) := by rw [ec9]; exact va_up_self _ _ _
  have g9 : ∀ j, j < t → j ≠ k → c9 j = c j := fun j h1 h2 => by rw [ec9]; exact (va_up_ne _ _ (by omega)).trans (g8 j h1 h2)
  refine va_putF (D := x_D G) (ci := 3) (v := .ref q3) (ty := .array .int) (C := "ContentLibrary$Kept") (T := x_TK) (N := 6) hx hb hts x_inK x_tyK x_tyK_ok x_nmK hown hK hP hD hS k (y_at (by omega) a4_k f9_k) rfl 5 (by decide) (hts _ t_99) (fun _ h9 => h9) rfl hin rfl (by decide +kernel) rfl rfl (Nat.le_of_ble_eq_true rfl) d_K_init_42 (fun H locs hP hD hS => ?_)
  rw [y_set (by omega) a4_k] at hP hD
  obtain ⟨c10, ec10⟩ : ∃ c10, c10 = va_up c9 k (.inr (3, ([.int (0 : Int32), .ref q1, .ref q2, .long (0 : Int64), .int (0 : Int32), .null] : List Value).set 5 (.ref q3))) := ⟨_, rfl⟩
  rw [← ec10] at hP hD
  have f10_t : c10 t = .inr (2, [.int (0 : Int32), .ref (ad2 (t + 1)), .int (0 : Int32)]) := by rw [ec10]; exact (va_up_ne _ _ (by omega)).trans f9_t
  have f10_t_1 : c10 (t + 1) = .inl (x_ca G 0, 66, .inl (fun _ => (0 : Int32))) := by rw [ec10]; exact (va_up_ne _ _ (by omega)).trans f9_t_1
  have f10_t_1_1 : c10 (t + 1 + 1) = .inl (x_ca G 0, 8, .inl (fun _ => (0 : Int32))) := by rw [ec10]; exact (va_up_ne _ _ (by omega)).trans f9_t_1_1
  have f10_t_1_1_1 : c10 (t + 1 + 1 + 1) = .inl (x_ca G 0, 3, .inl (fun _ => (0 : Int32))) := by rw [ec10]; exact (va_up_ne _ _ (by omega)).trans f9_t_1_1_1
  have f10_k : c10 k = .inr (3, [.int (0 : Int32), .ref q1, .ref q2, .long (0 : Int64), .int (0 : Int32), .ref q3]) := by rw [ec10]; exact va_up_self _ _ _
  have g10 : ∀ j, j < t → j ≠ k → c10 j = c j := fun j h1 h2 => by rw [ec10]; exact (va_up_ne _ _ (by omega)).trans (g9 j h1 h2)
  refine W.widen (k := 4) (n := 80) (Nat.le_of_ble_eq_true rfl) (Nat.le_of_ble_eq_true rfl) ?_
  exact W.vret hx hb hr (fun T9 ht hW => ⟨⟨(), rfl, trivial, ⟨ad4, c10, y_pw hP hD hK hG hS hz ht hW, b4, by rw [a4_t, a4_t_1_1, a4_t_1_1_1]; exact f10_k, by rw [a4_t_1]; exact f10_t, f10_t_1, f10_t_1_1, f10_t_1_1_1, g10⟩⟩, hS.F ht⟩) hS.2.2 d_K_init_45
set_option maxHeartbeats 4000000 in
set_option maxRecDepth 100000 in
theorem c_D_init (l : Launch) (G : x_G) (ad : Nat → Nat) (c : Nat → va_E) (t k : Nat) (hk : k < t) (hck : c k = .inr (4, [.null, .null, .null])) : Met l (⟨"ContentLibrary$Digester", "<init>", "()V"⟩ : MethodName) (x_ws (⟨"ContentLibrary$Digester", "<init>", "()V"⟩ : MethodName) prog_3_method_1_code 1 none) ({ frames := 1, cells := 3, slots := 200, locals := 12 } : Room) (va_Pc [.ref (ad k)] (y_PW G ad c t)) (va_Qv (fun _ : Unit => True) (fun _ U => ∃ (ad1 : Nat → Nat) (c1 : Nat → va_E), y_PW G ad1 c1 (t + 1 + 1 + 1) U ∧ (∀ j, j < t → ad1 j = ad j) ∧ c1 k = .inr (4, [.ref (ad1 t), .ref (ad1 (t + 1)), .ref (ad1 (t + 1 + 1))]) ∧ c1 t = .inl (x_ca G 0, 128, .inl (fun _ => (0 : Int32))) ∧ c1 (t + 1) = .inl (x_ca G 0, 64, .inl (fun _ => (0 : Int32))) ∧ c1 (t + 1 + 1) = .inl (x_ca G 0, 8, .inl (fun _ => (0 : Int32))) ∧ ∀ j, j < t → j ≠ k → c1 j = c j) (x_A G)) 3 200 (x_A G) := by
  refine Met.ofW (cc := prog_3_method_1_code) (maxL := 1) (ret := none) (by decide) rfl ?_
  intro p e s m args below meth cd s₁ B hml hv
  obtain ⟨rfl, hz, hP, hD, hK, hG⟩ := hv
  obtain ⟨hx, hb, hr, hml, hown, hts, hlocks, hz, hK, hG⟩ : x_Ctx G p s m _ meth cd prog_3_method_1_code "ContentLibrary$Digester" 1 none := ⟨B.exec, B.bytes, B.returns, hml, findClass_of_methodNamed B.named, fun w h => atoms_spec (ws := (x_ws (⟨"ContentLibrary$Digester", "<init>", "()V"⟩ : MethodName) prog_3_method_1_code 1 none)) B.pre w (List.mem_cons_of_mem _ h), B.notSynchronized, hz, hK, hG⟩
  have hin : meth.name = "<init>" := (name_of_methodNamed B.named B.method).1
  have hA : ∀ q : Nat, s.heap.size ≤ q → x_A G q := fun q h => Nat.le_trans hz h
  have hS : va_S (x_A G) s.heap s.heap [] := va_S.rf
  have f0_k : c k = .inr (4, [.null, .null, .null]) := hck
  have a0_k : ad k = ad k := rfl
  have g0 : ∀ j, j < t → j ≠ k → c j = c j := fun _ _ _ => rfl
  have b0 : ∀ j, j < t → ad j = ad j := fun _ _ => rfl
  have hl := lv_entry ([.ref (ad k)]) (n := 1) (Nat.le_of_ble_eq_true rfl)
  rw [lg_entry_eq]
  generalize (lg_sl ([.ref (ad k)]) ++ List.replicate (1 - (lg_sl ([.ref (ad k)])).length) Slot.unset).toArray = ls at hl ⊢
  have hl : lv_has ls 1 [(0, .ref (ad k))] := hl
  refine lv_aload_n hx hb d_D_init_0 rfl (lv_at hl 0 rfl) ?_
  refine W.objInit hx hb hown (hts _ t_119) (hts _ t_25) (hts _ t_26) rfl (by rw [hml]; exact hl.1) rfl d_D_init_1 (Nat.le_of_ble_eq_true rfl) (Nat.le_of_ble_eq_true rfl) ?_
  refine W.eq (g2 := F0 m 4 ls []) rfl ?_
  refine lv_aload_n hx hb d_D_init_4 rfl (lv_at hl 0 rfl) ?_
  refine lv_sipush (v := (128 : Int32)) hx hb d_D_init_5 (by decide) ?_
  refine va_newa (atype := .int) hx hb (hts _ t_58) (ty := .int) rfl hK hP hD hS hA (N' := 128) (a0 := (128, .inl (fun _ => (0 : Int32)))) (fun _ => rfl) (by decide) (by decide) (by decide) (Nat.le_of_ble_eq_true rfl) (Nat.le_of_ble_eq_true rfl) d_D_init_8 (fun q1 cA H hK2 hP hD hS => ?_)
  obtain rfl := y_caI hK2
  rw [y_push] at hP hD
  obtain ⟨ad1, ead1⟩ : ∃ a1, a1 = va_up ad t q1 := ⟨_, rfl⟩
  rw [← ead1] at hP hD
  have a1_k : ad1 k = (ad k) := by rw [ead1]; exact (va_up_ne _ _ (by omega)).trans a0_k
  have a1_t : ad1 t = q1 := by rw [ead1]; exact va_up_self _ _ _
  have b1 : ∀ j, j < t → ad1 j = ad j := fun j h1 => by rw [ead1]; exact (va_up_ne _ _ (by omega)).trans (b0 j h1)
  obtain ⟨c1, ec1⟩ : ∃ c1, c1 = va_up c t (.inl (x_ca G 0, 128, .inl (fun _ => (0 : Int32)))) := ⟨_, rfl⟩
  rw [← ec1] at hP hD
  have f1_k : c1 k = .inr (4, [.null, .null, .null]) := by rw [ec1]; exact (va_up_ne _ _ (by omega)).trans f0_k
  have f1_t : c1 t = .inl (x_ca G 0, 128, .inl (fun _ => (0 : Int32))) := by rw [ec1]; exact va_up_self _ _ _
  have g1 : ∀ j, j < t → j ≠ k → c1 j = c j := fun j h1 h2 => by rw [ec1]; exact (va_up_ne _ _ (by omega)).trans (g0 j h1 h2)
  refine va_putF (D := x_D G) (ci := 4) (v := .ref q1) (ty := .array .int) (C := "ContentLibrary$Digester") (T := x_TD) (N := 3) hx hb hts x_inD x_tyD x_tyD_ok x_nmD hown hK hP hD hS k (y_at (by omega) a1_k f1_k) rfl 0 (by decide) (hts _ t_120) (fun _ h9 => h9) rfl hin rfl (by decide +kernel) rfl rfl (Nat.le_of_ble_eq_true rfl) d_D_init_10 (fun H locs hP hD hS => ?_)
  rw [y_set (by omega) a1_k] at hP hD
  obtain ⟨c2, ec2⟩ : ∃ c2, c2 = va_up c1 k (.inr (4, ([.null, .null, .null] : List Value).set 0 (.ref q1))) := ⟨_, rfl⟩
  rw [← ec2] at hP hD
  have f2_t : c2 t = .inl (x_ca G 0, 128, .inl (fun _ => (0 : Int32))) := by rw [ec2]; exact (va_up_ne _ _ (by omega)).trans f1_t
  have f2_k : c2 k = .inr (4, [.ref q1, .null, .null]) := by rw [ec2]; exact va_up_self _ _ _
  have g2 : ∀ j, j < t → j ≠ k → c2 j = c j := fun j h1 h2 => by rw [ec2]; exact (va_up_ne _ _ (by omega)).trans (g1 j h1 h2)
  refine lv_aload_n hx hb d_D_init_13 rfl (lv_at hl 0 rfl) ?_
  refine lv_bipush (v := (64 : Int32)) hx hb d_D_init_14 (by decide) ?_
  refine va_newa (atype := .int) hx hb (hts _ t_58) (ty := .int) rfl hK hP hD hS hA (N' := 64) (a0 := (64, .inl (fun _ => (0 : Int32)))) (fun _ => rfl) (by decide) (by decide) (by decide) (Nat.le_of_ble_eq_true rfl) (Nat.le_of_ble_eq_true rfl) d_D_init_16 (fun q2 cA H hK2 hP hD hS => ?_)
  obtain rfl := y_caI hK2
  rw [y_push] at hP hD
  obtain ⟨ad2, ead2⟩ : ∃ a1, a1 = va_up ad1 (t + 1) q2 := ⟨_, rfl⟩
  rw [← ead2] at hP hD
  have a2_k : ad2 k = (ad k) := by rw [ead2]; exact (va_up_ne _ _ (by omega)).trans a1_k
  have a2_t : ad2 t = q1 := by rw [ead2]; exact (va_up_ne _ _ (by omega)).trans a1_t
  have a2_t_1 : ad2 (t + 1) = q2 := by rw [ead2]; exact va_up_self _ _ _
  have b2 : ∀ j, j < t → ad2 j = ad j := fun j h1 => by rw [ead2]; exact (va_up_ne _ _ (by omega)).trans (b1 j h1)
  obtain ⟨c3, ec3⟩ : ∃ c3, c3 = va_up c2 (t + 1) (.inl (x_ca G 0, 64, .inl (fun _ => (0 : Int32)))) := ⟨_, rfl⟩
  rw [← ec3] at hP hD
  have f3_k : c3 k = .inr (4, [.ref q1, .null, .null]) := by rw [ec3]; exact (va_up_ne _ _ (by omega)).trans f2_k
  have f3_t : c3 t = .inl (x_ca G 0, 128, .inl (fun _ => (0 : Int32))) := by rw [ec3]; exact (va_up_ne _ _ (by omega)).trans f2_t
  have f3_t_1 : c3 (t + 1) = .inl (x_ca G 0, 64, .inl (fun _ => (0 : Int32))) := by rw [ec3]; exact va_up_self _ _ _
  have g3 : ∀ j, j < t → j ≠ k → c3 j = c j := fun j h1 h2 => by rw [ec3]; exact (va_up_ne _ _ (by omega)).trans (g2 j h1 h2)
  refine va_putF (D := x_D G) (ci := 4) (v := .ref q2) (ty := .array .int) (C := "ContentLibrary$Digester") (T := x_TD) (N := 3) hx hb hts x_inD x_tyD x_tyD_ok x_nmD hown hK hP hD hS k (y_at (by omega) a2_k f3_k) rfl 1 (by decide) (hts _ t_121) (fun _ h9 => h9) rfl hin rfl (by decide +kernel) rfl rfl (Nat.le_of_ble_eq_true rfl) d_D_init_18 (fun H locs hP hD hS => ?_)
  rw [y_set (by omega) a2_k] at hP hD
  obtain ⟨c4, ec4⟩ : ∃ c4, c4 = va_up c3 k (.inr (4, ([.ref q1, .null, .null] : List Value).set 1 (.ref q2))) := ⟨_, rfl⟩
  rw [← ec4] at hP hD
  have f4_t : c4 t = .inl (x_ca G 0, 128, .inl (fun _ => (0 : Int32))) := by rw [ec4]; exact (va_up_ne _ _ (by omega)).trans f3_t
  have f4_t_1 : c4 (t + 1) = .inl (x_ca G 0, 64, .inl (fun _ => (0 : Int32))) := by rw [ec4]; exact (va_up_ne _ _ (by omega)).trans f3_t_1
  have f4_k : c4 k = .inr (4, [.ref q1, .ref q2, .null]) := by rw [ec4]; exact va_up_self _ _ _
  have g4 : ∀ j, j < t → j ≠ k → c4 j = c j := fun j h1 h2 => by rw [ec4]; exact (va_up_ne _ _ (by omega)).trans (g3 j h1 h2)
  refine lv_aload_n hx hb d_D_init_21 rfl (lv_at hl 0 rfl) ?_
  refine lv_bipush (v := (8 : Int32)) hx hb d_D_init_22 (by decide) ?_
  refine va_newa (atype := .int) hx hb (hts _ t_58) (ty := .int) rfl hK hP hD hS hA (N' := 8) (a0 := (8, .inl (fun _ => (0 : Int32)))) (fun _ => rfl) (by decide) (by decide) (by decide) (Nat.le_of_ble_eq_true rfl) (Nat.le_of_ble_eq_true rfl) d_D_init_24 (fun q3 cA H hK2 hP hD hS => ?_)
  obtain rfl := y_caI hK2
  rw [y_push] at hP hD
  obtain ⟨ad3, ead3⟩ : ∃ a1, a1 = va_up ad2 (t + 1 + 1) q3 := ⟨_, rfl⟩
  rw [← ead3] at hP hD
  have a3_k : ad3 k = (ad k) := by rw [ead3]; exact (va_up_ne _ _ (by omega)).trans a2_k
  have a3_t : ad3 t = q1 := by rw [ead3]; exact (va_up_ne _ _ (by omega)).trans a2_t
  have a3_t_1 : ad3 (t + 1) = q2 := by rw [ead3]; exact (va_up_ne _ _ (by omega)).trans a2_t_1
  have a3_t_1_1 : ad3 (t + 1 + 1) = q3 := by rw [ead3]; exact va_up_self _ _ _
  have b3 : ∀ j, j < t → ad3 j = ad j := fun j h1 => by rw [ead3]; exact (va_up_ne _ _ (by omega)).trans (b2 j h1)
  obtain ⟨c5, ec5⟩ : ∃ c5, c5 = va_up c4 (t + 1 + 1) (.inl (x_ca G 0, 8, .inl (fun _ => (0 : Int32)))) := ⟨_, rfl⟩
  rw [← ec5] at hP hD
  have f5_k : c5 k = .inr (4, [.ref q1, .ref q2, .null]) := by rw [ec5]; exact (va_up_ne _ _ (by omega)).trans f4_k
  have f5_t : c5 t = .inl (x_ca G 0, 128, .inl (fun _ => (0 : Int32))) := by rw [ec5]; exact (va_up_ne _ _ (by omega)).trans f4_t
  have f5_t_1 : c5 (t + 1) = .inl (x_ca G 0, 64, .inl (fun _ => (0 : Int32))) := by rw [ec5]; exact (va_up_ne _ _ (by omega)).trans f4_t_1
  have f5_t_1_1 : c5 (t + 1 + 1) = .inl (x_ca G 0, 8, .inl (fun _ => (0 : Int32))) := by rw [ec5]; exact va_up_self _ _ _
  have g5 : ∀ j, j < t → j ≠ k → c5 j = c j := fun j h1 h2 => by rw [ec5]; exact (va_up_ne _ _ (by omega)).trans (g4 j h1 h2)
  refine va_putF (D := x_D G) (ci := 4) (v := .ref q3) (ty := .array .int) (C := "ContentLibrary$Digester") (T := x_TD) (N := 3) hx hb hts x_inD x_tyD x_tyD_ok x_nmD hown hK hP hD hS k (y_at (by omega) a3_k f5_k) rfl 2 (by decide) (hts _ t_122) (fun _ h9 => h9) rfl hin rfl (by decide +kernel) rfl rfl (Nat.le_of_ble_eq_true rfl) d_D_init_26 (fun H locs hP hD hS => ?_)
  rw [y_set (by omega) a3_k] at hP hD
  obtain ⟨c6, ec6⟩ : ∃ c6, c6 = va_up c5 k (.inr (4, ([.ref q1, .ref q2, .null] : List Value).set 2 (.ref q3))) := ⟨_, rfl⟩
  rw [← ec6] at hP hD
  have f6_t : c6 t = .inl (x_ca G 0, 128, .inl (fun _ => (0 : Int32))) := by rw [ec6]; exact (va_up_ne _ _ (by omega)).trans f5_t
  have f6_t_1 : c6 (t + 1) = .inl (x_ca G 0, 64, .inl (fun _ => (0 : Int32))) := by rw [ec6]; exact (va_up_ne _ _ (by omega)).trans f5_t_1
  have f6_t_1_1 : c6 (t + 1 + 1) = .inl (x_ca G 0, 8, .inl (fun _ => (0 : Int32))) := by rw [ec6]; exact (va_up_ne _ _ (by omega)).trans f5_t_1_1
  have f6_k : c6 k = .inr (4, [.ref q1, .ref q2, .ref q3]) := by rw [ec6]; exact va_up_self _ _ _
  have g6 : ∀ j, j < t → j ≠ k → c6 j = c j := fun j h1 h2 => by rw [ec6]; exact (va_up_ne _ _ (by omega)).trans (g5 j h1 h2)
  refine W.widen (k := 3) (n := 200) (Nat.le_of_ble_eq_true rfl) (Nat.le_of_ble_eq_true rfl) ?_
  exact W.vret hx hb hr (fun T9 ht hW => ⟨⟨(), rfl, trivial, ⟨ad3, c6, y_pw hP hD hK hG hS hz ht hW, b3, by rw [a3_t, a3_t_1, a3_t_1_1]; exact f6_k, f6_t, f6_t_1, f6_t_1_1, g6⟩⟩, hS.F ht⟩) hS.2.2 d_D_init_29
set_option maxHeartbeats 4000000 in
set_option maxRecDepth 100000 in
theorem c_B_init (l : Launch) (G : x_G) (ad : Nat → Nat) (c : Nat → va_E) (t k : Nat) (hk : k < t) (hck : c k = .inr (1, [.int 0, .int 0, .int 0, .null, .null])) (n : Nat) (hn : n ≤ 40) : Met l (⟨"ContentLibrary$Blocks", "<init>", "(I)V"⟩ : MethodName) (x_ws (⟨"ContentLibrary$Blocks", "<init>", "(I)V"⟩ : MethodName) prog_2_method_1_code 2 none) ({ frames := 1, cells := 2, slots := 2624, locals := 12 } : Room) (va_Pc [.ref (ad k), .int (nI n)] (y_PW G ad c t)) (va_Qv (fun _ : Unit => True) (fun _ U => ∃ (ad1 : Nat → Nat) (c1 : Nat → va_E), y_PW G ad1 c1 (t + 1 + 1) U ∧ (∀ j, j < t → ad1 j = ad j) ∧ c1 k = .inr (1, [.int (nI n), .int (-1 : Int32), .int (0 : Int32), .ref (ad1 t), .ref (ad1 (t + 1))]) ∧ c1 t = .inl (x_ca G 0, (n * 64), .inl (fun _ => (0 : Int32))) ∧ c1 (t + 1) = .inl (x_ca G 0, 64, .inl (fun _ => (0 : Int32))) ∧ ∀ j, j < t → j ≠ k → c1 j = c j) (x_A G)) 2 2624 (x_A G) := by
  refine Met.ofW (cc := prog_2_method_1_code) (maxL := 2) (ret := none) (by decide) rfl ?_
  intro p e s m args below meth cd s₁ B hml hv
  obtain ⟨rfl, hz, hP, hD, hK, hG⟩ := hv
  obtain ⟨hx, hb, hr, hml, hown, hts, hlocks, hz, hK, hG⟩ : x_Ctx G p s m _ meth cd prog_2_method_1_code "ContentLibrary$Blocks" 2 none := ⟨B.exec, B.bytes, B.returns, hml, findClass_of_methodNamed B.named, fun w h => atoms_spec (ws := (x_ws (⟨"ContentLibrary$Blocks", "<init>", "(I)V"⟩ : MethodName) prog_2_method_1_code 2 none)) B.pre w (List.mem_cons_of_mem _ h), B.notSynchronized, hz, hK, hG⟩
  have hin : meth.name = "<init>" := (name_of_methodNamed B.named B.method).1
  have hA : ∀ q : Nat, s.heap.size ≤ q → x_A G q := fun q h => Nat.le_trans hz h
  have hS : va_S (x_A G) s.heap s.heap [] := va_S.rf
  have f0_k : c k = .inr (1, [.int 0, .int 0, .int 0, .null, .null]) := hck
  have a0_k : ad k = ad k := rfl
  have g0 : ∀ j, j < t → j ≠ k → c j = c j := fun _ _ _ => rfl
  have b0 : ∀ j, j < t → ad j = ad j := fun _ _ => rfl
  have e64 : nI n * (64 : Int32) = nI (n * 64) := pk_mul n 64
  have hL1 : ¬ (nI n * (64 : Int32)) < 0 := by rw [e64]; exact nI_pos (by omega)
  have hL2 : (nI n * (64 : Int32)).toNatClampNeg = n * 64 := by rw [e64]; exact nI_clamp (by omega)
  have hL3 : n * 64 * 4 ≤ 536870912 := by omega
  have hl := lv_entry ([.ref (ad k), .int (nI n)]) (n := 2) (Nat.le_of_ble_eq_true rfl)
  rw [lg_entry_eq]
  generalize (lg_sl ([.ref (ad k), .int (nI n)]) ++ List.replicate (2 - (lg_sl ([.ref (ad k), .int (nI n)])).length) Slot.unset).toArray = ls at hl ⊢
  have hl : lv_has ls 2 [(0, .ref (ad k)), (1, .int (nI n))] := hl
  refine lv_aload_n hx hb d_B_init_0 rfl (lv_at hl 0 rfl) ?_
  refine W.objInit hx hb hown (hts _ t_38) (hts _ t_25) (hts _ t_26) rfl (by rw [hml]; exact hl.1) rfl d_B_init_1 (Nat.le_of_ble_eq_true rfl) (Nat.le_of_ble_eq_true rfl) ?_
  refine W.eq (g2 := F0 m 4 ls []) rfl ?_
  refine lv_aload_n hx hb d_B_init_4 rfl (lv_at hl 0 rfl) ?_
  refine lv_iload_n hx hb d_B_init_5 rfl (lv_at hl 1 rfl) ?_
  refine va_putF (D := x_D G) (ci := 1) (v := .int (nI n)) (ty := .int) (C := "ContentLibrary$Blocks") (T := x_TB) (N := 5) hx hb hts x_inB x_tyB x_tyB_ok x_nmB hown hK hP hD hS k (y_at (by omega) a0_k f0_k) rfl 0 (by decide) (hts _ t_39) (fun _ h9 => h9) rfl hin rfl (by decide +kernel) rfl rfl (Nat.le_of_ble_eq_true rfl) d_B_init_6 (fun H locs hP hD hS => ?_)
  rw [y_set (by omega) a0_k] at hP hD
  obtain ⟨c1, ec1⟩ : ∃ c1, c1 = va_up c k (.inr (1, ([.int 0, .int 0, .int 0, .null, .null] : List Value).set 0 (.int (nI n)))) := ⟨_, rfl⟩
  rw [← ec1] at hP hD
  have f1_k : c1 k = .inr (1, [.int (nI n), .int 0, .int 0, .null, .null]) := by rw [ec1]; exact va_up_self _ _ _
  have g1 : ∀ j, j < t → j ≠ k → c1 j = c j := fun j h1 h2 => by rw [ec1]; exact (va_up_ne _ _ (by omega)).trans (g0 j h1 h2)
  refine lv_aload_n hx hb d_B_init_9 rfl (lv_at hl 0 rfl) ?_
  refine lv_iconst (v := (-1 : Int32)) hx hb d_B_init_10 (by decide) ?_
  refine va_put (D := x_D G) (ci := 1) (v := .int (-1 : Int32)) (ty := .int) (C := "ContentLibrary$Blocks") (T := x_TB) (N := 5) hx hb hts x_inB x_tyB x_tyB_ok x_nmB hown hK hP hD hS k (y_at (by omega) a0_k f1_k) rfl 1 (by decide) (hts _ t_41) (fun _ h9 => h9) rfl (by decide +kernel) rfl rfl (Nat.le_of_ble_eq_true rfl) d_B_init_11 (fun H locs hP hD hS => ?_)
  rw [y_set (by omega) a0_k] at hP hD
  obtain ⟨c2, ec2⟩ : ∃ c2, c2 = va_up c1 k (.inr (1, ([.int (nI n), .int 0, .int 0, .null, .null] : List Value).set 1 (.int (-1 : Int32)))) := ⟨_, rfl⟩
  rw [← ec2] at hP hD
  have f2_k : c2 k = .inr (1, [.int (nI n), .int (-1 : Int32), .int 0, .null, .null]) := by rw [ec2]; exact va_up_self _ _ _
  have g2 : ∀ j, j < t → j ≠ k → c2 j = c j := fun j h1 h2 => by rw [ec2]; exact (va_up_ne _ _ (by omega)).trans (g1 j h1 h2)
  refine lv_aload_n hx hb d_B_init_14 rfl (lv_at hl 0 rfl) ?_
  refine lv_iconst (v := (0 : Int32)) hx hb d_B_init_15 (by decide) ?_
  refine va_put (D := x_D G) (ci := 1) (v := .int (0 : Int32)) (ty := .boolean) (C := "ContentLibrary$Blocks") (T := x_TB) (N := 5) hx hb hts x_inB x_tyB x_tyB_ok x_nmB hown hK hP hD hS k (y_at (by omega) a0_k f2_k) rfl 2 (by decide) (hts _ t_43) (fun _ h9 => h9) rfl (by decide +kernel) rfl rfl (Nat.le_of_ble_eq_true rfl) d_B_init_16 (fun H locs hP hD hS => ?_)
  rw [y_set (by omega) a0_k] at hP hD
  obtain ⟨c3, ec3⟩ : ∃ c3, c3 = va_up c2 k (.inr (1, ([.int (nI n), .int (-1 : Int32), .int 0, .null, .null] : List Value).set 2 (.int (0 : Int32)))) := ⟨_, rfl⟩
  rw [← ec3] at hP hD
  have f3_k : c3 k = .inr (1, [.int (nI n), .int (-1 : Int32), .int (0 : Int32), .null, .null]) := by rw [ec3]; exact va_up_self _ _ _
  have g3 : ∀ j, j < t → j ≠ k → c3 j = c j := fun j h1 h2 => by rw [ec3]; exact (va_up_ne _ _ (by omega)).trans (g2 j h1 h2)
  refine lv_aload_n hx hb d_B_init_19 rfl (lv_at hl 0 rfl) ?_
  refine lv_iload_n hx hb d_B_init_20 rfl (lv_at hl 1 rfl) ?_
  refine lv_bipush (v := (64 : Int32)) hx hb d_B_init_21 (by decide) ?_
  refine lv_imul hx hb d_B_init_23 ?_
  refine va_newa (atype := .int) hx hb (hts _ t_58) (ty := .int) rfl hK hP hD hS hA (N' := (n * 64)) (a0 := ((n * 64), .inl (fun _ => (0 : Int32)))) (fun _ => rfl) hL1 hL2 hL3 (Nat.le_of_ble_eq_true rfl) (show 0 + (n * 64) ≤ 2624 from by omega) d_B_init_24 (fun q1 cA H hK2 hP hD hS => ?_)
  obtain rfl := y_caI hK2
  rw [y_push] at hP hD
  obtain ⟨ad1, ead1⟩ : ∃ a1, a1 = va_up ad t q1 := ⟨_, rfl⟩
  rw [← ead1] at hP hD
  have a1_k : ad1 k = (ad k) := by rw [ead1]; exact (va_up_ne _ _ (by omega)).trans a0_k
  have a1_t : ad1 t = q1 := by rw [ead1]; exact va_up_self _ _ _
  have b1 : ∀ j, j < t → ad1 j = ad j := fun j h1 => by rw [ead1]; exact (va_up_ne _ _ (by omega)).trans (b0 j h1)
  obtain ⟨c4, ec4⟩ : ∃ c4, c4 = va_up c3 t (.inl (x_ca G 0, (n * 64), .inl (fun _ => (0 : Int32)))) := ⟨_, rfl⟩
  rw [← ec4] at hP hD
  have f4_k : c4 k = .inr (1, [.int (nI n), .int (-1 : Int32), .int (0 : Int32), .null, .null]) := by rw [ec4]; exact (va_up_ne _ _ (by omega)).trans f3_k
  have f4_t : c4 t = .inl (x_ca G 0, (n * 64), .inl (fun _ => (0 : Int32))) := by rw [ec4]; exact va_up_self _ _ _
  have g4 : ∀ j, j < t → j ≠ k → c4 j = c j := fun j h1 h2 => by rw [ec4]; exact (va_up_ne _ _ (by omega)).trans (g3 j h1 h2)
  refine va_putF (D := x_D G) (ci := 1) (v := .ref q1) (ty := .array .int) (C := "ContentLibrary$Blocks") (T := x_TB) (N := 5) hx hb hts x_inB x_tyB x_tyB_ok x_nmB hown hK hP hD hS k (y_at (by omega) a1_k f4_k) rfl 3 (by decide) (hts _ t_45) (fun _ h9 => h9) rfl hin rfl (by decide +kernel) rfl rfl (Nat.le_of_ble_eq_true rfl) d_B_init_26 (fun H locs hP hD hS => ?_)
  rw [y_set (by omega) a1_k] at hP hD
  obtain ⟨c5, ec5⟩ : ∃ c5, c5 = va_up c4 k (.inr (1, ([.int (nI n), .int (-1 : Int32), .int (0 : Int32), .null, .null] : List Value).set 3 (.ref q1))) := ⟨_, rfl⟩
  rw [← ec5] at hP hD
  have f5_t : c5 t = .inl (x_ca G 0, (n * 64), .inl (fun _ => (0 : Int32))) := by rw [ec5]; exact (va_up_ne _ _ (by omega)).trans f4_t
  have f5_k : c5 k = .inr (1, [.int (nI n), .int (-1 : Int32), .int (0 : Int32), .ref q1, .null]) := by rw [ec5]; exact va_up_self _ _ _
  have g5 : ∀ j, j < t → j ≠ k → c5 j = c j := fun j h1 h2 => by rw [ec5]; exact (va_up_ne _ _ (by omega)).trans (g4 j h1 h2)
  refine lv_aload_n hx hb d_B_init_29 rfl (lv_at hl 0 rfl) ?_
  refine lv_bipush (v := (64 : Int32)) hx hb d_B_init_30 (by decide) ?_
  refine va_newa (atype := .int) hx hb (hts _ t_58) (ty := .int) rfl hK hP hD hS hA (N' := 64) (a0 := (64, .inl (fun _ => (0 : Int32)))) (fun _ => rfl) (by decide) (by decide) (by decide) (Nat.le_of_ble_eq_true rfl) (show 0 + (n * 64) + 64 ≤ 2624 from by omega) d_B_init_32 (fun q2 cA H hK2 hP hD hS => ?_)
  obtain rfl := y_caI hK2
  rw [y_push] at hP hD
  obtain ⟨ad2, ead2⟩ : ∃ a1, a1 = va_up ad1 (t + 1) q2 := ⟨_, rfl⟩
  rw [← ead2] at hP hD
  have a2_k : ad2 k = (ad k) := by rw [ead2]; exact (va_up_ne _ _ (by omega)).trans a1_k
  have a2_t : ad2 t = q1 := by rw [ead2]; exact (va_up_ne _ _ (by omega)).trans a1_t
  have a2_t_1 : ad2 (t + 1) = q2 := by rw [ead2]; exact va_up_self _ _ _
  have b2 : ∀ j, j < t → ad2 j = ad j := fun j h1 => by rw [ead2]; exact (va_up_ne _ _ (by omega)).trans (b1 j h1)
  obtain ⟨c6, ec6⟩ : ∃ c6, c6 = va_up c5 (t + 1) (.inl (x_ca G 0, 64, .inl (fun _ => (0 : Int32)))) := ⟨_, rfl⟩
  rw [← ec6] at hP hD
  have f6_k : c6 k = .inr (1, [.int (nI n), .int (-1 : Int32), .int (0 : Int32), .ref q1, .null]) := by rw [ec6]; exact (va_up_ne _ _ (by omega)).trans f5_k
  have f6_t : c6 t = .inl (x_ca G 0, (n * 64), .inl (fun _ => (0 : Int32))) := by rw [ec6]; exact (va_up_ne _ _ (by omega)).trans f5_t
  have f6_t_1 : c6 (t + 1) = .inl (x_ca G 0, 64, .inl (fun _ => (0 : Int32))) := by rw [ec6]; exact va_up_self _ _ _
  have g6 : ∀ j, j < t → j ≠ k → c6 j = c j := fun j h1 h2 => by rw [ec6]; exact (va_up_ne _ _ (by omega)).trans (g5 j h1 h2)
  refine va_putF (D := x_D G) (ci := 1) (v := .ref q2) (ty := .array .int) (C := "ContentLibrary$Blocks") (T := x_TB) (N := 5) hx hb hts x_inB x_tyB x_tyB_ok x_nmB hown hK hP hD hS k (y_at (by omega) a2_k f6_k) rfl 4 (by decide) (hts _ t_46) (fun _ h9 => h9) rfl hin rfl (by decide +kernel) rfl rfl (Nat.le_of_ble_eq_true rfl) d_B_init_34 (fun H locs hP hD hS => ?_)
  rw [y_set (by omega) a2_k] at hP hD
  obtain ⟨c7, ec7⟩ : ∃ c7, c7 = va_up c6 k (.inr (1, ([.int (nI n), .int (-1 : Int32), .int (0 : Int32), .ref q1, .null] : List Value).set 4 (.ref q2))) := ⟨_, rfl⟩
  rw [← ec7] at hP hD
  have f7_t : c7 t = .inl (x_ca G 0, (n * 64), .inl (fun _ => (0 : Int32))) := by rw [ec7]; exact (va_up_ne _ _ (by omega)).trans f6_t
  have f7_t_1 : c7 (t + 1) = .inl (x_ca G 0, 64, .inl (fun _ => (0 : Int32))) := by rw [ec7]; exact (va_up_ne _ _ (by omega)).trans f6_t_1
  have f7_k : c7 k = .inr (1, [.int (nI n), .int (-1 : Int32), .int (0 : Int32), .ref q1, .ref q2]) := by rw [ec7]; exact va_up_self _ _ _
  have g7 : ∀ j, j < t → j ≠ k → c7 j = c j := fun j h1 h2 => by rw [ec7]; exact (va_up_ne _ _ (by omega)).trans (g6 j h1 h2)
  refine W.widen (k := 2) (n := 2624) (Nat.le_of_ble_eq_true rfl) (show 0 + (n * 64) + 64 ≤ 2624 from by omega) ?_
  exact W.vret hx hb hr (fun T9 ht hW => ⟨⟨(), rfl, trivial, ⟨ad2, c7, y_pw hP hD hK hG hS hz ht hW, b2, by rw [a2_t, a2_t_1]; exact f7_k, f7_t, f7_t_1, g7⟩⟩, hS.F ht⟩) hS.2.2 d_B_init_37
