theorem t_24 : Cond.methodLink "ContentLibrary" 1 (⟨"java/lang/Object", "<init>", "()V"⟩ : MethodName) ∈ x_big := x_bt 24 (by decide +kernel) (by decide +kernel)
theorem t_27 : Cond.methodLink "ContentLibrary" 9 (⟨"java/lang/Math", "min", "(II)I"⟩ : MethodName) ∈ x_big := x_bt 27 (by decide +kernel) (by decide +kernel)
theorem t_30 : Cond.methodLink "ContentLibrary" 15 (⟨"java/lang/Math", "max", "(II)I"⟩ : MethodName) ∈ x_big := x_bt 30 (by decide +kernel) (by decide +kernel)
theorem t_31 : Cond.static (⟨"java/lang/Math", "max", "(II)I"⟩ : MethodName) ∈ x_big := x_bt 31 (by decide +kernel) (by decide +kernel)
theorem t_32 : Cond.code (⟨"java/lang/Math", "max", "(II)I"⟩ : MethodName) prog_14_method_65_code 2 (some .int) ∈ x_big := x_bt 32 (by decide +kernel) (by decide +kernel)
theorem t_33 : Cond.classLink "ContentLibrary" 18 "ContentLibrary$Blocks" ∈ x_big := x_bt 33 (by decide +kernel) (by decide +kernel)
theorem t_34 : Cond.instantiable "ContentLibrary$Blocks" 5 ∈ x_big := x_bt 34 (by decide +kernel) (by decide +kernel)
theorem t_35 : Cond.methodLink "ContentLibrary" 20 (⟨"ContentLibrary$Blocks", "<init>", "(I)V"⟩ : MethodName) ∈ x_big := x_bt 35 (by decide +kernel) (by decide +kernel)
theorem t_36 : Cond.instanceMethod (⟨"ContentLibrary$Blocks", "<init>", "(I)V"⟩ : MethodName) ∈ x_big := x_bt 36 (by decide +kernel) (by decide +kernel)
theorem t_37 : Cond.code (⟨"ContentLibrary$Blocks", "<init>", "(I)V"⟩ : MethodName) prog_2_method_1_code 2 none ∈ x_big := x_bt 37 (by decide +kernel) (by decide +kernel)
theorem t_79 : Cond.arrayClass .boolean ∈ x_big := x_bt 79 (by decide +kernel) (by decide +kernel)
theorem d_X_init_0 : decode prog_1_method_1_code 0 = .ok (.aload_n 0, 1) := by decide +kernel
theorem d_X_init_1 : decode prog_1_method_1_code 1 = .ok (.invokespecial 1, 3) := by decide +kernel
theorem d_X_init_4 : decode prog_1_method_1_code 4 = .ok (.iconst 1, 1) := by decide +kernel
theorem d_X_init_5 : decode prog_1_method_1_code 5 = .ok (.iload_n 1, 1) := by decide +kernel
theorem d_X_init_6 : decode prog_1_method_1_code 6 = .ok (.bipush 40, 2) := by decide +kernel
theorem d_X_init_8 : decode prog_1_method_1_code 8 = .ok (.invokestatic 9, 3) := by decide +kernel
theorem d_X_init_11 : decode prog_1_method_1_code 11 = .ok (.invokestatic 15, 3) := by decide +kernel
theorem d_X_init_14 : decode prog_1_method_1_code 14 = .ok (.istore_n 2, 1) := by decide +kernel
theorem d_X_init_43 : decode prog_1_method_1_code 43 = .ok (.iconst 0, 1) := by decide +kernel
theorem d_X_init_44 : decode prog_1_method_1_code 44 = .ok (.istore_n 3, 1) := by decide +kernel
theorem d_X_init_15 : decode prog_1_method_1_code 15 = .ok (.aload_n 0, 1) := by decide +kernel
theorem d_X_init_16 : decode prog_1_method_1_code 16 = .ok (.new 18, 3) := by decide +kernel
theorem d_X_init_19 : decode prog_1_method_1_code 19 = .ok (.dup, 1) := by decide +kernel
theorem d_X_init_20 : decode prog_1_method_1_code 20 = .ok (.iload_n 2, 1) := by decide +kernel
theorem d_X_init_21 : decode prog_1_method_1_code 21 = .ok (.invokespecial 20, 3) := by decide +kernel
theorem d_X_init_24 : decode prog_1_method_1_code 24 = .ok (.putfield 23, 3) := by decide +kernel
theorem d_X_init_27 : decode prog_1_method_1_code 27 = .ok (.aload_n 0, 1) := by decide +kernel
theorem d_X_init_28 : decode prog_1_method_1_code 28 = .ok (.iload_n 2, 1) := by decide +kernel
theorem d_X_init_29 : decode prog_1_method_1_code 29 = .ok (.newarray .boolean, 2) := by decide +kernel
theorem d_X_init_31 : decode prog_1_method_1_code 31 = .ok (.putfield 27, 3) := by decide +kernel
theorem d_X_init_34 : decode prog_1_method_1_code 34 = .ok (.aload_n 0, 1) := by decide +kernel
theorem d_X_init_35 : decode prog_1_method_1_code 35 = .ok (.bipush 8, 2) := by decide +kernel
theorem d_X_init_37 : decode prog_1_method_1_code 37 = .ok (.anewarray 31, 3) := by decide +kernel
theorem d_X_init_40 : decode prog_1_method_1_code 40 = .ok (.putfield 33, 3) := by decide +kernel
set_option maxHeartbeats 4000000 in
set_option maxRecDepth 100000 in
theorem c_X_init (l : Launch) (G : x_G) (n : Nat) (hn40 : n ≤ 40) (p1 : Int32) (hp : (if (1 : Int32) < (if (40 : Int32) < p1 then (40 : Int32) else p1) then (if (40 : Int32) < p1 then (40 : Int32) else p1) else (1 : Int32)) = nI n) (ad : Nat → Nat) (c : Nat → va_E) (hck : c 0 = .inr (0, [.null, .null, .null, .null, .null, .null, .null, .null, .int 0])) : Met l (⟨"ContentLibrary", "<init>", "(I)V"⟩ : MethodName) (x_ws (⟨"ContentLibrary", "<init>", "(I)V"⟩ : MethodName) prog_1_method_1_code 4 none) rm_X_init (va_Pc [.ref (ad 0), .int p1] (y_PW G ad c 1)) (va_Qv (fun _ : Unit => True) (fun _ U => ∃ (ad1 : Nat → Nat) (c1 : Nat → va_E) (f g : Nat → Option Nat), y_PW G ad1 c1 110 U ∧ y_XE G n (ad 0) ad1 c1 f g) (x_A G)) 109 4864 (x_A G) := by
  refine Met.ofW (cc := prog_1_method_1_code) (maxL := 4) (ret := none) (by decide) rfl ?_
  intro p e s m args below meth cd s₁ B hml hv
  obtain ⟨rfl, hz, hP, hD, hK, hG⟩ := hv
  have C0 : x_Ctx G p s m _ meth cd prog_1_method_1_code "ContentLibrary" 4 none := ⟨B.exec, B.bytes, B.returns, hml, findClass_of_methodNamed B.named, fun w h => atoms_spec (ws := (x_ws (⟨"ContentLibrary", "<init>", "(I)V"⟩ : MethodName) prog_1_method_1_code 4 none)) B.pre w (List.mem_cons_of_mem _ h), B.notSynchronized, hz, hK, hG⟩
  obtain ⟨hx, hb, hr, hml, hown, hts, hlocks, hz, hK, hG⟩ := id C0
  have hin : meth.name = "<init>" := (name_of_methodNamed B.named B.method).1
  have hA : ∀ q : Nat, s.heap.size ≤ q → x_A G q := fun q h => Nat.le_trans hz h
  have hS : va_S (x_A G) s.heap s.heap [] := va_S.rf
  have hl := lv_entry ([.ref (ad 0), .int p1]) (n := 4) (Nat.le_of_ble_eq_true rfl)
  rw [lg_entry_eq]
  generalize (lg_sl ([.ref (ad 0), .int p1]) ++ List.replicate (4 - (lg_sl ([.ref (ad 0), .int p1])).length) Slot.unset).toArray = ls at hl ⊢
  have hl : lv_has ls 4 [(0, .ref (ad 0)), (1, .int p1)] := hl
  refine lv_aload_n hx hb d_X_init_0 rfl (lv_at hl 0 rfl) ?_
  refine W.objInit hx hb hown (hts _ t_24) (hts _ t_25) (hts _ t_26) rfl (by rw [hml]; exact hl.1) rfl d_X_init_1 (Nat.le_of_ble_eq_true rfl) (Nat.le_of_ble_eq_true rfl) ?_
  refine W.eq (g2 := F0 m 4 ls []) rfl ?_
  refine lv_iconst (v := (1 : Int32)) hx hb d_X_init_4 (by decide) ?_
  refine lv_iload_n hx hb d_X_init_5 rfl (lv_at hl 1 rfl) ?_
  refine lv_bipush (v := (40 : Int32)) hx hb d_X_init_6 (by decide) ?_
  refine va_mmin hx hb (hml.trans hl.1.symm) hown (hts _ t_27) (hts _ t_28) (hts _ t_2) (hts _ t_29) (Nat.le_of_ble_eq_true rfl) (Nat.le_of_ble_eq_true rfl) (Nat.le_of_ble_eq_true rfl) (Nat.le_of_ble_eq_true rfl) d_X_init_8 ?_
  refine va_mmax hx hb (hml.trans hl.1.symm) hown (hts _ t_30) (hts _ t_31) (hts _ t_2) (hts _ t_32) (Nat.le_of_ble_eq_true rfl) (Nat.le_of_ble_eq_true rfl) (Nat.le_of_ble_eq_true rfl) (Nat.le_of_ble_eq_true rfl) d_X_init_11 ?_
  rw [hp]
  refine lv_istore_n (lv' := [(2, .int (nI n)), (0, .ref (ad 0)), (1, .int p1)]) hx hb d_X_init_14 rfl hl (by decide) rfl (fun ls hl => ?_)
  obtain ⟨t, htt⟩ : ∃ t : Nat, t = 1 := ⟨_, rfl⟩
  obtain ⟨k, hkk⟩ : ∃ k : Nat, k = 0 := ⟨_, rfl⟩
  rw [← htt] at hP hD
  have hl : lv_has ls 4 [(2, .int (nI n)), (0, .ref (ad k)), (1, .int p1)] := by rw [hkk]; exact hl
  have f0_k : c k = .inr (0, [.null, .null, .null, .null, .null, .null, .null, .null, .int 0]) := by rw [hkk]; exact hck
  have a0_k : ad k = ad k := rfl
  have g0 : ∀ j, j < t → j ≠ k → c j = c j := fun _ _ _ => rfl
  have b0 : ∀ j, j < t → ad j = ad j := fun _ _ => rfl
  refine lv_aload_n hx hb d_X_init_15 rfl (lv_at hl 1 rfl) ?_
  refine va_new (ci := 1) (fs := [.int 0, .int 0, .int 0, .null, .null]) (C := "ContentLibrary$Blocks") (T := x_TB) (N := 5) hx hb hts x_inB x_tyB x_tyB_ok hown (hts _ t_33) (hts _ t_34) (hts _ t_3) hK hP hD hS hA rfl (by decide) (Nat.le_of_ble_eq_true rfl) (show 0 + 5 ≤ 4864 from by omega) d_X_init_16 (fun q1 H hP hD hS => ?_)
  rw [y_push] at hP hD
  obtain ⟨ad1, ead1⟩ : ∃ a1, a1 = va_up ad t q1 := ⟨_, rfl⟩
  rw [← ead1] at hP hD
  have a1_k : ad1 k = (ad k) := by rw [ead1]; exact (va_up_ne _ _ (by omega)).trans a0_k
  have a1_t : ad1 t = q1 := by rw [ead1]; exact va_up_self _ _ _
  have b1 : ∀ j, j < t → ad1 j = ad j := fun j h1 => by rw [ead1]; exact (va_up_ne _ _ (by omega)).trans (b0 j h1)
  obtain ⟨c1, ec1⟩ : ∃ c1, c1 = va_up c t (.inr (1, [.int 0, .int 0, .int 0, .null, .null])) := ⟨_, rfl⟩
  rw [← ec1] at hP hD
  have f1_k : c1 k = .inr (0, [.null, .null, .null, .null, .null, .null, .null, .null, .int 0]) := by rw [ec1]; exact (va_up_ne _ _ (by omega)).trans f0_k
  have f1_t : c1 t = .inr (1, [.int 0, .int 0, .int 0, .null, .null]) := by rw [ec1]; exact va_up_self _ _ _
  have g1 : ∀ j, j < t → j ≠ k → c1 j = c j := fun j h1 h2 => by rw [ec1]; exact (va_up_ne _ _ (by omega)).trans (g0 j h1 h2)
  refine lv_dup hx hb d_X_init_19 rfl ?_
  refine lv_iload_n hx hb d_X_init_20 rfl (lv_at hl 0 rfl) ?_
  refine W.eq (g2 := F0 m 21 ls [.int (nI n), .ref q1, .ref q1, .ref (ad k)]) rfl ?_
  rw [← a1_t]
  refine va_callv (va_runI (As := [.int (nI n)]) (rest := [.ref (ad1 t), .ref (ad k)]) ⟨hx, hb, hml, hown, hts⟩ (c_B_init l G ad1 c1 (t + 1) t (by omega) f1_t n hn40) (cwI 1 hts (x_gws t_37) rfl rfl rfl (hts _ t_3) (hts _ t_35) (hts _ t_36) rfl (by decide +kernel) ⟨Nat.le_of_ble_eq_true rfl, Nat.le_of_ble_eq_true rfl⟩) ⟨y_blind _ _ _ _ _, fun U hU hW => ⟨rfl, y_pw hP hD hK hG hS hz hU hW⟩⟩ rfl rfl hl.1 rfl (lv_room (Nat.le_of_ble_eq_true rfl)) d_X_init_21 ⟨Nat.le_of_ble_eq_true rfl, show 0 + 5 + 2624 ≤ 4864 from by omega⟩) hS (fun q _ h => h) (fun q h => h) (fun u U H locs ht hvm hw hB _ _ hS => ?_)
  rw [a1_t]
  obtain ⟨ad2, c2, hPW, hb9, hck9, hn0, hn1, hfr9⟩ := hB
  obtain ⟨hP, hD⟩ := y_back hPW ht
  have a2_k : ad2 k = (ad k) := (hb9 _ (by omega)).trans a1_k
  have f2_k : c2 k = .inr (0, [.null, .null, .null, .null, .null, .null, .null, .null, .int 0]) := (hfr9 _ (by omega) (by omega)).trans f1_k
  have a2_t : ad2 t = q1 := (hb9 _ (by omega)).trans a1_t
  have b2 : ∀ j, j < t → ad2 j = ad j := fun j h1 => (hb9 _ (by omega)).trans (b1 j h1)
  have f2_t : c2 t = .inr (1, [.int (nI n), .int (-1 : Int32), .int (0 : Int32), .ref (ad2 (t + 1)), .ref (ad2 (t + 1 + 1))]) := hck9
  have a2_t_1 : ad2 (t + 1) = ad2 (t + 1) := rfl
  have f2_t_1 : c2 (t + 1) = .inl (x_ca G 0, (n * 64), .inl (fun _ => (0 : Int32))) := hn0
  have a2_t_1_1 : ad2 (t + 1 + 1) = ad2 (t + 1 + 1) := rfl
  have f2_t_1_1 : c2 (t + 1 + 1) = .inl (x_ca G 0, 64, .inl (fun _ => (0 : Int32))) := hn1
  have g2 : ∀ j, j < t → j ≠ k → c2 j = c j := fun j h1 h2 => (hfr9 _ (by omega) (by omega)).trans (g1 j h1 h2)
  refine va_putF (D := x_D G) (ci := 0) (v := .ref q1) (ty := .object "ContentLibrary$Blocks") (C := "ContentLibrary") (T := x_TX) (N := 9) hx hb hts x_inX x_tyX x_tyX_ok x_nmX hown hK hP hD hS k (y_at (by omega) a2_k f2_k) rfl 0 (by decide) (hts _ t_130) (fun _ h9 => h9) rfl hin rfl (by decide +kernel) rfl rfl (Nat.le_of_ble_eq_true rfl) d_X_init_24 (fun H locs hP hD hS => ?_)
  rw [y_set (by omega) a2_k] at hP hD
  obtain ⟨c3, ec3⟩ : ∃ c3, c3 = va_up c2 k (.inr (0, ([.null, .null, .null, .null, .null, .null, .null, .null, .int 0] : List Value).set 0 (.ref q1))) := ⟨_, rfl⟩
  rw [← ec3] at hP hD
  have f3_t : c3 t = .inr (1, [.int (nI n), .int (-1 : Int32), .int (0 : Int32), .ref (ad2 (t + 1)), .ref (ad2 (t + 1 + 1))]) := by rw [ec3]; exact (va_up_ne _ _ (by omega)).trans f2_t
  have f3_t_1 : c3 (t + 1) = .inl (x_ca G 0, (n * 64), .inl (fun _ => (0 : Int32))) := by rw [ec3]; exact (va_up_ne _ _ (by omega)).trans f2_t_1
  have f3_t_1_1 : c3 (t + 1 + 1) = .inl (x_ca G 0, 64, .inl (fun _ => (0 : Int32))) := by rw [ec3]; exact (va_up_ne _ _ (by omega)).trans f2_t_1_1
  have f3_k : c3 k = .inr (0, [.ref q1, .null, .null, .null, .null, .null, .null, .null, .int 0]) := by rw [ec3]; exact va_up_self _ _ _
  have g3 : ∀ j, j < t → j ≠ k → c3 j = c j := fun j h1 h2 => by rw [ec3]; exact (va_up_ne _ _ (by omega)).trans (g2 j h1 h2)
  refine lv_aload_n hx hb d_X_init_27 rfl (lv_at hl 1 rfl) ?_
  refine lv_iload_n hx hb d_X_init_28 rfl (lv_at hl 0 rfl) ?_
  refine va_newa (atype := .boolean) hx hb (hts _ t_79) (ty := .boolean) rfl hK hP hD hS hA (N' := n) (a0 := (n, .inl (fun _ => (0 : Int32)))) (fun _ => rfl) (nI_pos (by omega)) (nI_clamp (by omega)) (show n * 1 ≤ 536870912 from by omega) (Nat.le_of_ble_eq_true rfl) (show 0 + 5 + 2624 + n ≤ 4864 from by omega) d_X_init_29 (fun q2 cA H hK2 hP hD hS => ?_)
  obtain rfl := y_caZ hK2
  rw [y_push] at hP hD
  obtain ⟨ad3, ead3⟩ : ∃ a1, a1 = va_up ad2 (t + 1 + 1 + 1) q2 := ⟨_, rfl⟩
  rw [← ead3] at hP hD
  have a3_k : ad3 k = (ad k) := by rw [ead3]; exact (va_up_ne _ _ (by omega)).trans a2_k
  have a3_t : ad3 t = q1 := by rw [ead3]; exact (va_up_ne _ _ (by omega)).trans a2_t
  have a3_t_1 : ad3 (t + 1) = (ad2 (t + 1)) := by rw [ead3]; exact (va_up_ne _ _ (by omega)).trans a2_t_1
  have a3_t_1_1 : ad3 (t + 1 + 1) = (ad2 (t + 1 + 1)) := by rw [ead3]; exact (va_up_ne _ _ (by omega)).trans a2_t_1_1
  have a3_t_1_1_1 : ad3 (t + 1 + 1 + 1) = q2 := by rw [ead3]; exact va_up_self _ _ _
  have b3 : ∀ j, j < t → ad3 j = ad j := fun j h1 => by rw [ead3]; exact (va_up_ne _ _ (by omega)).trans (b2 j h1)
  obtain ⟨c4, ec4⟩ : ∃ c4, c4 = va_up c3 (t + 1 + 1 + 1) (.inl (x_ca G 1, n, .inl (fun _ => (0 : Int32)))) := ⟨_, rfl⟩
  rw [← ec4] at hP hD
  have f4_k : c4 k = .inr (0, [.ref q1, .null, .null, .null, .null, .null, .null, .null, .int 0]) := by rw [ec4]; exact (va_up_ne _ _ (by omega)).trans f3_k
  have f4_t : c4 t = .inr (1, [.int (nI n), .int (-1 : Int32), .int (0 : Int32), .ref (ad2 (t + 1)), .ref (ad2 (t + 1 + 1))]) := by rw [ec4]; exact (va_up_ne _ _ (by omega)).trans f3_t
  have f4_t_1 : c4 (t + 1) = .inl (x_ca G 0, (n * 64), .inl (fun _ => (0 : Int32))) := by rw [ec4]; exact (va_up_ne _ _ (by omega)).trans f3_t_1
  have f4_t_1_1 : c4 (t + 1 + 1) = .inl (x_ca G 0, 64, .inl (fun _ => (0 : Int32))) := by rw [ec4]; exact (va_up_ne _ _ (by omega)).trans f3_t_1_1
  have f4_t_1_1_1 : c4 (t + 1 + 1 + 1) = .inl (x_ca G 1, n, .inl (fun _ => (0 : Int32))) := by rw [ec4]; exact va_up_self _ _ _
  have g4 : ∀ j, j < t → j ≠ k → c4 j = c j := fun j h1 h2 => by rw [ec4]; exact (va_up_ne _ _ (by omega)).trans (g3 j h1 h2)
  refine va_putF (D := x_D G) (ci := 0) (v := .ref q2) (ty := .array .boolean) (C := "ContentLibrary") (T := x_TX) (N := 9) hx hb hts x_inX x_tyX x_tyX_ok x_nmX hown hK hP hD hS k (y_at (by omega) a3_k f4_k) rfl 1 (by decide) (hts _ t_131) (fun _ h9 => h9) rfl hin rfl (by decide +kernel) rfl rfl (Nat.le_of_ble_eq_true rfl) d_X_init_31 (fun H locs hP hD hS => ?_)
  rw [y_set (by omega) a3_k] at hP hD
  obtain ⟨c5, ec5⟩ : ∃ c5, c5 = va_up c4 k (.inr (0, ([.ref q1, .null, .null, .null, .null, .null, .null, .null, .int 0] : List Value).set 1 (.ref q2))) := ⟨_, rfl⟩
  rw [← ec5] at hP hD
  have f5_t : c5 t = .inr (1, [.int (nI n), .int (-1 : Int32), .int (0 : Int32), .ref (ad2 (t + 1)), .ref (ad2 (t + 1 + 1))]) := by rw [ec5]; exact (va_up_ne _ _ (by omega)).trans f4_t
  have f5_t_1 : c5 (t + 1) = .inl (x_ca G 0, (n * 64), .inl (fun _ => (0 : Int32))) := by rw [ec5]; exact (va_up_ne _ _ (by omega)).trans f4_t_1
  have f5_t_1_1 : c5 (t + 1 + 1) = .inl (x_ca G 0, 64, .inl (fun _ => (0 : Int32))) := by rw [ec5]; exact (va_up_ne _ _ (by omega)).trans f4_t_1_1
  have f5_t_1_1_1 : c5 (t + 1 + 1 + 1) = .inl (x_ca G 1, n, .inl (fun _ => (0 : Int32))) := by rw [ec5]; exact (va_up_ne _ _ (by omega)).trans f4_t_1_1_1
  have f5_k : c5 k = .inr (0, [.ref q1, .ref q2, .null, .null, .null, .null, .null, .null, .int 0]) := by rw [ec5]; exact va_up_self _ _ _
  have g5 : ∀ j, j < t → j ≠ k → c5 j = c j := fun j h1 h2 => by rw [ec5]; exact (va_up_ne _ _ (by omega)).trans (g4 j h1 h2)
  refine lv_aload_n hx hb d_X_init_34 rfl (lv_at hl 1 rfl) ?_
  refine lv_bipush (v := (8 : Int32)) hx hb d_X_init_35 (by decide) ?_
  refine va_newq (C := "ContentLibrary$Picture") hx hb hown (hts _ t_59) hG.1.2.1 hK hP hD hS hA (N' := 8) (by decide) (by decide) (by decide) (Nat.le_of_ble_eq_true rfl) (show 0 + 5 + 2624 + n + 8 ≤ 4864 from by omega) d_X_init_37 (fun q3 cA H hK2 hP hD hS => ?_)
  obtain rfl := y_caO 2 rfl hK2
  rw [y_push] at hP hD
  obtain ⟨ad4, ead4⟩ : ∃ a1, a1 = va_up ad3 (t + 1 + 1 + 1 + 1) q3 := ⟨_, rfl⟩
  rw [← ead4] at hP hD
  have a4_k : ad4 k = (ad k) := by rw [ead4]; exact (va_up_ne _ _ (by omega)).trans a3_k
  have a4_t : ad4 t = q1 := by rw [ead4]; exact (va_up_ne _ _ (by omega)).trans a3_t
  have a4_t_1 : ad4 (t + 1) = (ad2 (t + 1)) := by rw [ead4]; exact (va_up_ne _ _ (by omega)).trans a3_t_1
  have a4_t_1_1 : ad4 (t + 1 + 1) = (ad2 (t + 1 + 1)) := by rw [ead4]; exact (va_up_ne _ _ (by omega)).trans a3_t_1_1
  have a4_t_1_1_1 : ad4 (t + 1 + 1 + 1) = q2 := by rw [ead4]; exact (va_up_ne _ _ (by omega)).trans a3_t_1_1_1
  have a4_t_1_1_1_1 : ad4 (t + 1 + 1 + 1 + 1) = q3 := by rw [ead4]; exact va_up_self _ _ _
  have b4 : ∀ j, j < t → ad4 j = ad j := fun j h1 => by rw [ead4]; exact (va_up_ne _ _ (by omega)).trans (b3 j h1)
  obtain ⟨c6, ec6⟩ : ∃ c6, c6 = va_up c5 (t + 1 + 1 + 1 + 1) (.inl (x_ca G 2, 8, .inr (.inr (.inr (.inr (fun _ => none)))))) := ⟨_, rfl⟩
  rw [← ec6] at hP hD
  have f6_k : c6 k = .inr (0, [.ref q1, .ref q2, .null, .null, .null, .null, .null, .null, .int 0]) := by rw [ec6]; exact (va_up_ne _ _ (by omega)).trans f5_k
  have f6_t : c6 t = .inr (1, [.int (nI n), .int (-1 : Int32), .int (0 : Int32), .ref (ad2 (t + 1)), .ref (ad2 (t + 1 + 1))]) := by rw [ec6]; exact (va_up_ne _ _ (by omega)).trans f5_t
  have f6_t_1 : c6 (t + 1) = .inl (x_ca G 0, (n * 64), .inl (fun _ => (0 : Int32))) := by rw [ec6]; exact (va_up_ne _ _ (by omega)).trans f5_t_1
  have f6_t_1_1 : c6 (t + 1 + 1) = .inl (x_ca G 0, 64, .inl (fun _ => (0 : Int32))) := by rw [ec6]; exact (va_up_ne _ _ (by omega)).trans f5_t_1_1
  have f6_t_1_1_1 : c6 (t + 1 + 1 + 1) = .inl (x_ca G 1, n, .inl (fun _ => (0 : Int32))) := by rw [ec6]; exact (va_up_ne _ _ (by omega)).trans f5_t_1_1_1
  have f6_t_1_1_1_1 : c6 (t + 1 + 1 + 1 + 1) = .inl (x_ca G 2, 8, .inr (.inr (.inr (.inr (fun _ => none))))) := by rw [ec6]; exact va_up_self _ _ _
  have g6 : ∀ j, j < t → j ≠ k → c6 j = c j := fun j h1 h2 => by rw [ec6]; exact (va_up_ne _ _ (by omega)).trans (g5 j h1 h2)
  refine va_putF (D := x_D G) (ci := 0) (v := .ref q3) (ty := .array (.object "ContentLibrary$Picture")) (C := "ContentLibrary") (T := x_TX) (N := 9) hx hb hts x_inX x_tyX x_tyX_ok x_nmX hown hK hP hD hS k (y_at (by omega) a4_k f6_k) rfl 2 (by decide) (hts _ t_132) (fun _ h9 => h9) rfl hin rfl (by decide +kernel) rfl rfl (Nat.le_of_ble_eq_true rfl) d_X_init_40 (fun H locs hP hD hS => ?_)
  rw [y_set (by omega) a4_k] at hP hD
  obtain ⟨c7, ec7⟩ : ∃ c7, c7 = va_up c6 k (.inr (0, ([.ref q1, .ref q2, .null, .null, .null, .null, .null, .null, .int 0] : List Value).set 2 (.ref q3))) := ⟨_, rfl⟩
  rw [← ec7] at hP hD
  have f7_t : c7 t = .inr (1, [.int (nI n), .int (-1 : Int32), .int (0 : Int32), .ref (ad2 (t + 1)), .ref (ad2 (t + 1 + 1))]) := by rw [ec7]; exact (va_up_ne _ _ (by omega)).trans f6_t
  have f7_t_1 : c7 (t + 1) = .inl (x_ca G 0, (n * 64), .inl (fun _ => (0 : Int32))) := by rw [ec7]; exact (va_up_ne _ _ (by omega)).trans f6_t_1
  have f7_t_1_1 : c7 (t + 1 + 1) = .inl (x_ca G 0, 64, .inl (fun _ => (0 : Int32))) := by rw [ec7]; exact (va_up_ne _ _ (by omega)).trans f6_t_1_1
  have f7_t_1_1_1 : c7 (t + 1 + 1 + 1) = .inl (x_ca G 1, n, .inl (fun _ => (0 : Int32))) := by rw [ec7]; exact (va_up_ne _ _ (by omega)).trans f6_t_1_1_1
  have f7_t_1_1_1_1 : c7 (t + 1 + 1 + 1 + 1) = .inl (x_ca G 2, 8, .inr (.inr (.inr (.inr (fun _ => none))))) := by rw [ec7]; exact (va_up_ne _ _ (by omega)).trans f6_t_1_1_1_1
  have f7_k : c7 k = .inr (0, [.ref q1, .ref q2, .ref q3, .null, .null, .null, .null, .null, .int 0]) := by rw [ec7]; exact va_up_self _ _ _
  have g7 : ∀ j, j < t → j ≠ k → c7 j = c j := fun j h1 h2 => by rw [ec7]; exact (va_up_ne _ _ (by omega)).trans (g6 j h1 h2)
  refine lv_iconst (v := (0 : Int32)) hx hb d_X_init_43 (by decide) ?_
  refine lv_istore_n (lv' := [(3, .int (0 : Int32)), (2, .int (nI n)), (0, .ref (ad k)), (1, .int p1)]) hx hb d_X_init_44 rfl hl (by decide) rfl (fun ls hl => ?_)
  have e1 : ad4 1 = q1 := by have h := a4_t; rw [htt] at h; exact h
  have e2 : ad4 2 = (ad2 2) := by have h := a4_t_1; rw [htt] at h; exact h
  have e3 : ad4 3 = (ad2 3) := by have h := a4_t_1_1; rw [htt] at h; exact h
  have e4 : ad4 4 = q2 := by have h := a4_t_1_1_1; rw [htt] at h; exact h
  have e5 : ad4 5 = q3 := by have h := a4_t_1_1_1_1; rw [htt] at h; exact h
  have F1 : c7 1 = .inr (1, [.int (nI n), .int (-1 : Int32), .int (0 : Int32), .ref (ad2 2), .ref (ad2 3)]) := by have h := f7_t; rw [htt] at h; exact h
  have F2 : c7 2 = .inl (x_ca G 0, (n * 64), .inl (fun _ => (0 : Int32))) := by have h := f7_t_1; rw [htt] at h; exact h
  have F3 : c7 3 = .inl (x_ca G 0, 64, .inl (fun _ => (0 : Int32))) := by have h := f7_t_1_1; rw [htt] at h; exact h
  have F4 : c7 4 = .inl (x_ca G 1, n, .inl (fun _ => (0 : Int32))) := by have h := f7_t_1_1_1; rw [htt] at h; exact h
  have F5 : c7 5 = .inl (x_ca G 2, 8, .inr (.inr (.inr (.inr (fun _ => none))))) := by have h := f7_t_1_1_1_1; rw [htt] at h; exact h
  have F0 : c7 0 = .inr (0, [.ref q1, .ref q2, .ref q3, .null, .null, .null, .null, .null, .int 0]) := by have h := f7_k; rw [hkk] at h; exact h
  have E0 : ad4 0 = ad 0 := by have h := a4_k; rw [hkk] at h; exact h
  rw [htt] at hP hD
  rw [hkk] at hl
  refine W.widen (k := 5) (n := 2677) (Nat.le_of_ble_eq_true rfl) (show 0 + 5 + 2624 + n + 8 ≤ 2677 from by omega) ?_
  refine w_X_init_45 l G n (ad 0) C0 (fun ad2 c2 f H locs ls h0 hc0 hB0 hPi hP hD hS hl => w_X_init_70 l G n _ C0 hin (fun ad3 c3 f g H locs ls h0 hc0 hB0 hPi hKi hP hD hS hl => w_X_init_106 l G n _ C0 hin ad3 c3 f g H locs ls h0 hc0 hB0 hPi hKi hP hD hS hl) ad2 c2 f H locs ls h0 hc0 hB0 hPi hP hD hS hl) 8 0 (by omega) ad4 c7 (fun _ => none) H locs ls E0 ?_ ⟨?_, F2, F3, F4⟩ ⟨F5, fun j hj => absurd hj (by omega)⟩ hP hD hS (lv_sub hl [2, 1, 0] rfl)
  · rw [e1, e4, e5]; exact F0
  · rw [e2, e3]; exact F1
