theorem t_6 : Cond.initialized "ContentLibrary$Digester" ∈ x_big := x_bt 6 (by decide +kernel) (by decide +kernel)
theorem t_114 : Cond.classLink "ContentLibrary" 45 "ContentLibrary$Digester" ∈ x_big := x_bt 114 (by decide +kernel) (by decide +kernel)
theorem t_115 : Cond.instantiable "ContentLibrary$Digester" 3 ∈ x_big := x_bt 115 (by decide +kernel) (by decide +kernel)
theorem t_116 : Cond.methodLink "ContentLibrary" 47 (⟨"ContentLibrary$Digester", "<init>", "()V"⟩ : MethodName) ∈ x_big := x_bt 116 (by decide +kernel) (by decide +kernel)
theorem t_117 : Cond.instanceMethod (⟨"ContentLibrary$Digester", "<init>", "()V"⟩ : MethodName) ∈ x_big := x_bt 117 (by decide +kernel) (by decide +kernel)
theorem t_118 : Cond.code (⟨"ContentLibrary$Digester", "<init>", "()V"⟩ : MethodName) prog_3_method_1_code 1 none ∈ x_big := x_bt 118 (by decide +kernel) (by decide +kernel)
theorem t_134 : Cond.fieldLink "ContentLibrary" 48 "ContentLibrary" "digester" "LContentLibrary$Digester;" ∈ x_big := x_bt 134 (by decide +kernel) (by decide +kernel)
theorem t_135 : Cond.fieldLink "ContentLibrary" 52 "ContentLibrary" "freshDigest" "[I" ∈ x_big := x_bt 135 (by decide +kernel) (by decide +kernel)
theorem d_X_init_106 : decode prog_1_method_1_code 106 = .ok (.aload_n 0, 1) := by decide +kernel
theorem d_X_init_107 : decode prog_1_method_1_code 107 = .ok (.new 45, 3) := by decide +kernel
theorem d_X_init_110 : decode prog_1_method_1_code 110 = .ok (.dup, 1) := by decide +kernel
theorem d_X_init_111 : decode prog_1_method_1_code 111 = .ok (.invokespecial 47, 3) := by decide +kernel
theorem d_X_init_114 : decode prog_1_method_1_code 114 = .ok (.putfield 48, 3) := by decide +kernel
theorem d_X_init_117 : decode prog_1_method_1_code 117 = .ok (.aload_n 0, 1) := by decide +kernel
theorem d_X_init_118 : decode prog_1_method_1_code 118 = .ok (.bipush 8, 2) := by decide +kernel
theorem d_X_init_120 : decode prog_1_method_1_code 120 = .ok (.newarray .int, 2) := by decide +kernel
theorem d_X_init_122 : decode prog_1_method_1_code 122 = .ok (.putfield 52, 3) := by decide +kernel
theorem d_X_init_125 : decode prog_1_method_1_code 125 = .ok (.aload_n 0, 1) := by decide +kernel
theorem d_X_init_126 : decode prog_1_method_1_code 126 = .ok (.bipush 16, 2) := by decide +kernel
theorem d_X_init_128 : decode prog_1_method_1_code 128 = .ok (.newarray .int, 2) := by decide +kernel
theorem d_X_init_130 : decode prog_1_method_1_code 130 = .ok (.putfield 56, 3) := by decide +kernel
theorem d_X_init_133 : decode prog_1_method_1_code 133 = .ok (.aload_n 0, 1) := by decide +kernel
theorem d_X_init_134 : decode prog_1_method_1_code 134 = .ok (.bipush 16, 2) := by decide +kernel
theorem d_X_init_136 : decode prog_1_method_1_code 136 = .ok (.newarray .int, 2) := by decide +kernel
theorem d_X_init_138 : decode prog_1_method_1_code 138 = .ok (.putfield 59, 3) := by decide +kernel
theorem d_X_init_141 : decode prog_1_method_1_code 141 = .ok (.aload_n 0, 1) := by decide +kernel
theorem d_X_init_142 : decode prog_1_method_1_code 142 = .ok (.iconst 0, 1) := by decide +kernel
theorem d_X_init_143 : decode prog_1_method_1_code 143 = .ok (.putfield 62, 3) := by decide +kernel
theorem d_X_init_146 : decode prog_1_method_1_code 146 = .ok (.return_, 1) := by decide +kernel
def y_XE (G : x_G) (n a0 : Nat) (ad : Nat → Nat) (c : Nat → va_E) (f g : Nat → Option Nat) : Prop := ad 0 = a0 ∧ y_B0 G n ad c ∧ y_Pi G ad c f 8 ∧ y_Ki G ad c g 16 ∧ c 0 = .inr (0, [.ref (ad 1), .ref (ad 4), .ref (ad 5), .ref (ad 22), .ref (ad 103), .ref (ad 107), .ref (ad 108), .ref (ad 109), .int (0 : Int32)]) ∧ c 103 = .inr (4, [.ref (ad 104), .ref (ad 105), .ref (ad 106)]) ∧ c 104 = .inl (x_ca G 0, 128, .inl (fun _ => (0 : Int32))) ∧ c 105 = .inl (x_ca G 0, 64, .inl (fun _ => (0 : Int32))) ∧ c 106 = .inl (x_ca G 0, 8, .inl (fun _ => (0 : Int32))) ∧ c 107 = .inl (x_ca G 0, 8, .inl (fun _ => (0 : Int32))) ∧ c 108 = .inl (x_ca G 0, 16, .inl (fun _ => (0 : Int32))) ∧ c 109 = .inl (x_ca G 0, 16, .inl (fun _ => (0 : Int32)))
set_option maxHeartbeats 4000000 in
set_option maxRecDepth 100000 in
theorem w_X_init_106 (l : Launch) (G : x_G) (n a0 : Nat) {p : Program} {e : Env} {s : State} {m : MethodId} {args : Array Value} {below : List Frame} {meth : Method} {cd : Code} (C0 : x_Ctx G p s m args meth cd prog_1_method_1_code "ContentLibrary" 4 none) (hin : meth.name = "<init>") (ad : Nat → Nat) (c : Nat → va_E) (f g : Nat → Option Nat) (H : Heap) (locs : List Loc) (ls : Array Slot) (h0 : ad 0 = a0) (hc0 : c 0 = .inr (0, [.ref (ad 1), .ref (ad 4), .ref (ad 5), .ref (ad 22), .null, .null, .null, .null, .int 0])) (hB0 : y_B0 G n ad c) (hPi : y_Pi G ad c f 8) (hKi : y_Ki G ad c g 16) (hP : va_P (x_D G) vwCl (y_W ad c 103) H) (hD : va_D (x_A G) (y_W ad c 103)) (hS : va_S (x_A G) s.heap H locs) (hl : lv_has ls 4 [(0, .ref a0), (2, .int (nI n)), (3, .int (nI 16))]) : W p l e rm_X_init s m args below meth cd H locs 102 4621 (MQ below (va_Qv (fun _ : Unit => True) (fun _ U => ∃ (ad : Nat → Nat) (c : Nat → va_E) (f g : Nat → Option Nat), y_PW G ad c 110 U ∧ y_XE G n a0 ad c f g) (x_A G)) args s 109 4864 (x_A G)) (F0 m 106 ls []) := by
  obtain ⟨hx, hb, hr, hml, hown, hts, hlocks, hz, hK, hG⟩ := id C0
  have hA : ∀ q : Nat, s.heap.size ≤ q → x_A G q := fun q h => Nat.le_trans hz h
  obtain ⟨t, htt⟩ : ∃ t : Nat, t = 103 := ⟨_, rfl⟩
  obtain ⟨k, hkk⟩ : ∃ k : Nat, k = 0 := ⟨_, rfl⟩
  rw [← htt] at hP hD
  have f0_k : c k = .inr (0, [.ref (ad 1), .ref (ad 4), .ref (ad 5), .ref (ad 22), .null, .null, .null, .null, .int 0]) := by rw [hkk]; exact hc0
  have a0_k : ad k = a0 := by rw [hkk]; exact h0
  have g0 : ∀ j, j < t → j ≠ k → c j = c j := fun _ _ _ => rfl
  have b0 : ∀ j, j < t → ad j = ad j := fun _ _ => rfl
  refine lv_aload_n hx hb d_X_init_106 rfl (lv_at hl 0 rfl) ?_
  refine va_new (ci := 4) (fs := [.null, .null, .null]) (C := "ContentLibrary$Digester") (T := x_TD) (N := 3) hx hb hts x_inD x_tyD x_tyD_ok hown (hts _ t_114) (hts _ t_115) (hts _ t_6) hK hP hD hS hA rfl (by decide) (Nat.le_of_ble_eq_true rfl) (Nat.le_of_ble_eq_true rfl) d_X_init_107 (fun q1 H hP hD hS => ?_)
  rw [y_push] at hP hD
  obtain ⟨ad1, ead1⟩ : ∃ a1, a1 = va_up ad t q1 := ⟨_, rfl⟩
  rw [← ead1] at hP hD
  have a1_k : ad1 k = a0 := by rw [ead1]; exact (va_up_ne _ _ (by omega)).trans a0_k
  have a1_t : ad1 t = q1 := by rw [ead1]; exact va_up_self _ _ _
  have b1 : ∀ j, j < t → ad1 j = ad j := fun j h1 => by rw [ead1]; exact (va_up_ne _ _ (by omega)).trans (b0 j h1)
  obtain ⟨c1, ec1⟩ : ∃ c1, c1 = va_up c t (.inr (4, [.null, .null, .null])) := ⟨_, rfl⟩
  rw [← ec1] at hP hD
  have f1_k : c1 k = .inr (0, [.ref (ad 1), .ref (ad 4), .ref (ad 5), .ref (ad 22), .null, .null, .null, .null, .int 0]) := by rw [ec1]; exact (va_up_ne _ _ (by omega)).trans f0_k
  have f1_t : c1 t = .inr (4, [.null, .null, .null]) := by rw [ec1]; exact va_up_self _ _ _
  have g1 : ∀ j, j < t → j ≠ k → c1 j = c j := fun j h1 h2 => by rw [ec1]; exact (va_up_ne _ _ (by omega)).trans (g0 j h1 h2)
  refine lv_dup hx hb d_X_init_110 rfl ?_
  refine W.eq (g2 := F0 m 111 ls [.ref q1, .ref q1, .ref a0]) rfl ?_
  rw [← a1_t]
  refine va_callv (va_runI (As := []) (rest := [.ref (ad1 t), .ref a0]) ⟨hx, hb, hml, hown, hts⟩ (c_D_init l G ad1 c1 (t + 1) t (by omega) f1_t) (cwI 0 hts (x_gws t_118) rfl rfl rfl (hts _ t_6) (hts _ t_116) (hts _ t_117) rfl (by decide +kernel) ⟨Nat.le_of_ble_eq_true rfl, Nat.le_of_ble_eq_true rfl⟩) ⟨y_blind _ _ _ _ _, fun U hU hW => ⟨rfl, y_pw hP hD hK hG hS hz hU hW⟩⟩ rfl rfl hl.1 rfl (lv_room (Nat.le_of_ble_eq_true rfl)) d_X_init_111 ⟨Nat.le_of_ble_eq_true rfl, Nat.le_of_ble_eq_true rfl⟩) hS (fun q _ h => h) (fun q h => h) (fun u U H locs ht hvm hw hB _ _ hS => ?_)
  rw [a1_t]
  obtain ⟨ad2, c2, hPW, hb9, hck9, hn0, hn1, hn2, hfr9⟩ := hB
  obtain ⟨hP, hD⟩ := y_back hPW ht
  have a2_k : ad2 k = a0 := (hb9 _ (by omega)).trans a1_k
  have f2_k : c2 k = .inr (0, [.ref (ad 1), .ref (ad 4), .ref (ad 5), .ref (ad 22), .null, .null, .null, .null, .int 0]) := (hfr9 _ (by omega) (by omega)).trans f1_k
  have a2_t : ad2 t = q1 := (hb9 _ (by omega)).trans a1_t
  have b2 : ∀ j, j < t → ad2 j = ad j := fun j h1 => (hb9 _ (by omega)).trans (b1 j h1)
  have f2_t : c2 t = .inr (4, [.ref (ad2 (t + 1)), .ref (ad2 (t + 1 + 1)), .ref (ad2 (t + 1 + 1 + 1))]) := hck9
  have a2_t_1 : ad2 (t + 1) = ad2 (t + 1) := rfl
  have f2_t_1 : c2 (t + 1) = .inl (x_ca G 0, 128, .inl (fun _ => (0 : Int32))) := hn0
  have a2_t_1_1 : ad2 (t + 1 + 1) = ad2 (t + 1 + 1) := rfl
  have f2_t_1_1 : c2 (t + 1 + 1) = .inl (x_ca G 0, 64, .inl (fun _ => (0 : Int32))) := hn1
  have a2_t_1_1_1 : ad2 (t + 1 + 1 + 1) = ad2 (t + 1 + 1 + 1) := rfl
  have f2_t_1_1_1 : c2 (t + 1 + 1 + 1) = .inl (x_ca G 0, 8, .inl (fun _ => (0 : Int32))) := hn2
  have g2 : ∀ j, j < t → j ≠ k → c2 j = c j := fun j h1 h2 => (hfr9 _ (by omega) (by omega)).trans (g1 j h1 h2)
  refine va_putF (D := x_D G) (ci := 0) (v := .ref q1) (ty := .object "ContentLibrary$Digester") (C := "ContentLibrary") (T := x_TX) (N := 9) hx hb hts x_inX x_tyX x_tyX_ok x_nmX hown hK hP hD hS k (y_at (by omega) a2_k f2_k) rfl 4 (by decide) (hts _ t_134) (fun _ h9 => h9) rfl hin rfl (by decide +kernel) rfl rfl (Nat.le_of_ble_eq_true rfl) d_X_init_114 (fun H locs hP hD hS => ?_)
  rw [y_set (by omega) a2_k] at hP hD
  obtain ⟨c3, ec3⟩ : ∃ c3, c3 = va_up c2 k (.inr (0, ([.ref (ad 1), .ref (ad 4), .ref (ad 5), .ref (ad 22), .null, .null, .null, .null, .int 0] : List Value).set 4 (.ref q1))) := ⟨_, rfl⟩
  rw [← ec3] at hP hD
  have f3_t : c3 t = .inr (4, [.ref (ad2 (t + 1)), .ref (ad2 (t + 1 + 1)), .ref (ad2 (t + 1 + 1 + 1))]) := by rw [ec3]; exact (va_up_ne _ _ (by omega)).trans f2_t
  have f3_t_1 : c3 (t + 1) = .inl (x_ca G 0, 128, .inl (fun _ => (0 : Int32))) := by rw [ec3]; exact (va_up_ne _ _ (by omega)).trans f2_t_1
  have f3_t_1_1 : c3 (t + 1 + 1) = .inl (x_ca G 0, 64, .inl (fun _ => (0 : Int32))) := by rw [ec3]; exact (va_up_ne _ _ (by omega)).trans f2_t_1_1
  have f3_t_1_1_1 : c3 (t + 1 + 1 + 1) = .inl (x_ca G 0, 8, .inl (fun _ => (0 : Int32))) := by rw [ec3]; exact (va_up_ne _ _ (by omega)).trans f2_t_1_1_1
  have f3_k : c3 k = .inr (0, [.ref (ad 1), .ref (ad 4), .ref (ad 5), .ref (ad 22), .ref q1, .null, .null, .null, .int 0]) := by rw [ec3]; exact va_up_self _ _ _
  have g3 : ∀ j, j < t → j ≠ k → c3 j = c j := fun j h1 h2 => by rw [ec3]; exact (va_up_ne _ _ (by omega)).trans (g2 j h1 h2)
  refine lv_aload_n hx hb d_X_init_117 rfl (lv_at hl 0 rfl) ?_
  refine lv_bipush (v := (8 : Int32)) hx hb d_X_init_118 (by decide) ?_
  refine va_newa (atype := .int) hx hb (hts _ t_58) (ty := .int) rfl hK hP hD hS hA (N' := 8) (a0 := (8, .inl (fun _ => (0 : Int32)))) (fun _ => rfl) (by decide) (by decide) (by decide) (Nat.le_of_ble_eq_true rfl) (Nat.le_of_ble_eq_true rfl) d_X_init_120 (fun q2 cA H hK2 hP hD hS => ?_)
  obtain rfl := y_caI hK2
  rw [y_push] at hP hD
  obtain ⟨ad3, ead3⟩ : ∃ a1, a1 = va_up ad2 (t + 1 + 1 + 1 + 1) q2 := ⟨_, rfl⟩
  rw [← ead3] at hP hD
  have a3_k : ad3 k = a0 := by rw [ead3]; exact (va_up_ne _ _ (by omega)).trans a2_k
  have a3_t : ad3 t = q1 := by rw [ead3]; exact (va_up_ne _ _ (by omega)).trans a2_t
  have a3_t_1 : ad3 (t + 1) = (ad2 (t + 1)) := by rw [ead3]; exact (va_up_ne _ _ (by omega)).trans a2_t_1
  have a3_t_1_1 : ad3 (t + 1 + 1) = (ad2 (t + 1 + 1)) := by rw [ead3]; exact (va_up_ne _ _ (by omega)).trans a2_t_1_1
  have a3_t_1_1_1 : ad3 (t + 1 + 1 + 1) = (ad2 (t + 1 + 1 + 1)) := by rw [ead3]; exact (va_up_ne _ _ (by omega)).trans a2_t_1_1_1
  have a3_t_1_1_1_1 : ad3 (t + 1 + 1 + 1 + 1) = q2 := by rw [ead3]; exact va_up_self _ _ _
  have b3 : ∀ j, j < t → ad3 j = ad j := fun j h1 => by rw [ead3]; exact (va_up_ne _ _ (by omega)).trans (b2 j h1)
  obtain ⟨c4, ec4⟩ : ∃ c4, c4 = va_up c3 (t + 1 + 1 + 1 + 1) (.inl (x_ca G 0, 8, .inl (fun _ => (0 : Int32)))) := ⟨_, rfl⟩
  rw [← ec4] at hP hD
  have f4_k : c4 k = .inr (0, [.ref (ad 1), .ref (ad 4), .ref (ad 5), .ref (ad 22), .ref q1, .null, .null, .null, .int 0]) := by rw [ec4]; exact (va_up_ne _ _ (by omega)).trans f3_k
  have f4_t : c4 t = .inr (4, [.ref (ad2 (t + 1)), .ref (ad2 (t + 1 + 1)), .ref (ad2 (t + 1 + 1 + 1))]) := by rw [ec4]; exact (va_up_ne _ _ (by omega)).trans f3_t
  have f4_t_1 : c4 (t + 1) = .inl (x_ca G 0, 128, .inl (fun _ => (0 : Int32))) := by rw [ec4]; exact (va_up_ne _ _ (by omega)).trans f3_t_1
  have f4_t_1_1 : c4 (t + 1 + 1) = .inl (x_ca G 0, 64, .inl (fun _ => (0 : Int32))) := by rw [ec4]; exact (va_up_ne _ _ (by omega)).trans f3_t_1_1
  have f4_t_1_1_1 : c4 (t + 1 + 1 + 1) = .inl (x_ca G 0, 8, .inl (fun _ => (0 : Int32))) := by rw [ec4]; exact (va_up_ne _ _ (by omega)).trans f3_t_1_1_1
  have f4_t_1_1_1_1 : c4 (t + 1 + 1 + 1 + 1) = .inl (x_ca G 0, 8, .inl (fun _ => (0 : Int32))) := by rw [ec4]; exact va_up_self _ _ _
  have g4 : ∀ j, j < t → j ≠ k → c4 j = c j := fun j h1 h2 => by rw [ec4]; exact (va_up_ne _ _ (by omega)).trans (g3 j h1 h2)
  refine va_putF (D := x_D G) (ci := 0) (v := .ref q2) (ty := .array .int) (C := "ContentLibrary") (T := x_TX) (N := 9) hx hb hts x_inX x_tyX x_tyX_ok x_nmX hown hK hP hD hS k (y_at (by omega) a3_k f4_k) rfl 5 (by decide) (hts _ t_135) (fun _ h9 => h9) rfl hin rfl (by decide +kernel) rfl rfl (Nat.le_of_ble_eq_true rfl) d_X_init_122 (fun H locs hP hD hS => ?_)
  rw [y_set (by omega) a3_k] at hP hD
  obtain ⟨c5, ec5⟩ : ∃ c5, c5 = va_up c4 k (.inr (0, ([.ref (ad 1), .ref (ad 4), .ref (ad 5), .ref (ad 22), .ref q1, .null, .null, .null, .int 0] : List Value).set 5 (.ref q2))) := ⟨_, rfl⟩
  rw [← ec5] at hP hD
  have f5_t : c5 t = .inr (4, [.ref (ad2 (t + 1)), .ref (ad2 (t + 1 + 1)), .ref (ad2 (t + 1 + 1 + 1))]) := by rw [ec5]; exact (va_up_ne _ _ (by omega)).trans f4_t
  have f5_t_1 : c5 (t + 1) = .inl (x_ca G 0, 128, .inl (fun _ => (0 : Int32))) := by rw [ec5]; exact (va_up_ne _ _ (by omega)).trans f4_t_1
  have f5_t_1_1 : c5 (t + 1 + 1) = .inl (x_ca G 0, 64, .inl (fun _ => (0 : Int32))) := by rw [ec5]; exact (va_up_ne _ _ (by omega)).trans f4_t_1_1
  have f5_t_1_1_1 : c5 (t + 1 + 1 + 1) = .inl (x_ca G 0, 8, .inl (fun _ => (0 : Int32))) := by rw [ec5]; exact (va_up_ne _ _ (by omega)).trans f4_t_1_1_1
  have f5_t_1_1_1_1 : c5 (t + 1 + 1 + 1 + 1) = .inl (x_ca G 0, 8, .inl (fun _ => (0 : Int32))) := by rw [ec5]; exact (va_up_ne _ _ (by omega)).trans f4_t_1_1_1_1
  have f5_k : c5 k = .inr (0, [.ref (ad 1), .ref (ad 4), .ref (ad 5), .ref (ad 22), .ref q1, .ref q2, .null, .null, .int 0]) := by rw [ec5]; exact va_up_self _ _ _
  have g5 : ∀ j, j < t → j ≠ k → c5 j = c j := fun j h1 h2 => by rw [ec5]; exact (va_up_ne _ _ (by omega)).trans (g4 j h1 h2)
  refine lv_aload_n hx hb d_X_init_125 rfl (lv_at hl 0 rfl) ?_
  refine lv_bipush (v := (16 : Int32)) hx hb d_X_init_126 (by decide) ?_
  refine va_newa (atype := .int) hx hb (hts _ t_58) (ty := .int) rfl hK hP hD hS hA (N' := 16) (a0 := (16, .inl (fun _ => (0 : Int32)))) (fun _ => rfl) (by decide) (by decide) (by decide) (Nat.le_of_ble_eq_true rfl) (Nat.le_of_ble_eq_true rfl) d_X_init_128 (fun q3 cA H hK2 hP hD hS => ?_)
  obtain rfl := y_caI hK2
  rw [y_push] at hP hD
  obtain ⟨ad4, ead4⟩ : ∃ a1, a1 = va_up ad3 (t + 1 + 1 + 1 + 1 + 1) q3 := ⟨_, rfl⟩
  rw [← ead4] at hP hD
  have a4_k : ad4 k = a0 := by rw [ead4]; exact (va_up_ne _ _ (by omega)).trans a3_k
  have a4_t : ad4 t = q1 := by rw [ead4]; exact (va_up_ne _ _ (by omega)).trans a3_t
  have a4_t_1 : ad4 (t + 1) = (ad2 (t + 1)) := by rw [ead4]; exact (va_up_ne _ _ (by omega)).trans a3_t_1
  have a4_t_1_1 : ad4 (t + 1 + 1) = (ad2 (t + 1 + 1)) := by rw [ead4]; exact (va_up_ne _ _ (by omega)).trans a3_t_1_1
  have a4_t_1_1_1 : ad4 (t + 1 + 1 + 1) = (ad2 (t + 1 + 1 + 1)) := by rw [ead4]; exact (va_up_ne _ _ (by omega)).trans a3_t_1_1_1
  have a4_t_1_1_1_1 : ad4 (t + 1 + 1 + 1 + 1) = q2 := by rw [ead4]; exact (va_up_ne _ _ (by omega)).trans a3_t_1_1_1_1
  have a4_t_1_1_1_1_1 : ad4 (t + 1 + 1 + 1 + 1 + 1) = q3 := by rw [ead4]; exact va_up_self _ _ _
  have b4 : ∀ j, j < t → ad4 j = ad j := fun j h1 => by rw [ead4]; exact (va_up_ne _ _ (by omega)).trans (b3 j h1)
  obtain ⟨c6, ec6⟩ : ∃ c6, c6 = va_up c5 (t + 1 + 1 + 1 + 1 + 1) (.inl (x_ca G 0, 16, .inl (fun _ => (0 : Int32)))) := ⟨_, rfl⟩
  rw [← ec6] at hP hD
  have f6_k : c6 k = .inr (0, [.ref (ad 1), .ref (ad 4), .ref (ad 5), .ref (ad 22), .ref q1, .ref q2, .null, .null, .int 0]) := by rw [ec6]; exact (va_up_ne _ _ (by omega)).trans f5_k
  have f6_t : c6 t = .inr (4, [.ref (ad2 (t + 1)), .ref (ad2 (t + 1 + 1)), .ref (ad2 (t + 1 + 1 + 1))]) := by rw [ec6]; exact (va_up_ne _ _ (by omega)).trans f5_t
  have f6_t_1 : c6 (t + 1) = .inl (x_ca G 0, 128, .inl (fun _ => (0 : Int32))) := by rw [ec6]; exact (va_up_ne _ _ (by omega)).trans f5_t_1
  have f6_t_1_1 : c6 (t + 1 + 1) = .inl (x_ca G 0, 64, .inl (fun _ => (0 : Int32))) := by rw [ec6]; exact (va_up_ne _ _ (by omega)).trans f5_t_1_1
  have f6_t_1_1_1 : c6 (t + 1 + 1 + 1) = .inl (x_ca G 0, 8, .inl (fun _ => (0 : Int32))) := by rw [ec6]; exact (va_up_ne _ _ (by omega)).trans f5_t_1_1_1
  have f6_t_1_1_1_1 : c6 (t + 1 + 1 + 1 + 1) = .inl (x_ca G 0, 8, .inl (fun _ => (0 : Int32))) := by rw [ec6]; exact (va_up_ne _ _ (by omega)).trans f5_t_1_1_1_1
  have f6_t_1_1_1_1_1 : c6 (t + 1 + 1 + 1 + 1 + 1) = .inl (x_ca G 0, 16, .inl (fun _ => (0 : Int32))) := by rw [ec6]; exact va_up_self _ _ _
  have g6 : ∀ j, j < t → j ≠ k → c6 j = c j := fun j h1 h2 => by rw [ec6]; exact (va_up_ne _ _ (by omega)).trans (g5 j h1 h2)
  refine va_putF (D := x_D G) (ci := 0) (v := .ref q3) (ty := .array .int) (C := "ContentLibrary") (T := x_TX) (N := 9) hx hb hts x_inX x_tyX x_tyX_ok x_nmX hown hK hP hD hS k (y_at (by omega) a4_k f6_k) rfl 6 (by decide) (hts _ t_136) (fun _ h9 => h9) rfl hin rfl (by decide +kernel) rfl rfl (Nat.le_of_ble_eq_true rfl) d_X_init_130 (fun H locs hP hD hS => ?_)
  rw [y_set (by omega) a4_k] at hP hD
  obtain ⟨c7, ec7⟩ : ∃ c7, c7 = va_up c6 k (.inr (0, ([.ref (ad 1), .ref (ad 4), .ref (ad 5), .ref (ad 22), .ref q1, .ref q2, .null, .null, .int 0] : List Value).set 6 (.ref q3))) := ⟨_, rfl⟩
  rw [← ec7] at hP hD
  have f7_t : c7 t = .inr (4, [.ref (ad2 (t + 1)), .ref (ad2 (t + 1 + 1)), .ref (ad2 (t + 1 + 1 + 1))]) := by rw [ec7]; exact (va_up_ne _ _ (by omega)).trans f6_t
  have f7_t_1 : c7 (t + 1) = .inl (x_ca G 0, 128, .inl (fun _ => (0 : Int32))) := by rw [ec7]; exact (va_up_ne _ _ (by omega)).trans f6_t_1
  have f7_t_1_1 : c7 (t + 1 + 1) = .inl (x_ca G 0, 64, .inl (fun _ => (0 : Int32))) := by rw [ec7]; exact (va_up_ne _ _ (by omega)).trans f6_t_1_1
  have f7_t_1_1_1 : c7 (t + 1 + 1 + 1) = .inl (x_ca G 0, 8, .inl (fun _ => (0 : Int32))) := by rw [ec7]; exact (va_up_ne _ _ (by omega)).trans f6_t_1_1_1
  have f7_t_1_1_1_1 : c7 (t + 1 + 1 + 1 + 1) = .inl (x_ca G 0, 8, .inl (fun _ => (0 : Int32))) := by rw [ec7]; exact (va_up_ne _ _ (by omega)).trans f6_t_1_1_1_1
  have f7_t_1_1_1_1_1 : c7 (t + 1 + 1 + 1 + 1 + 1) = .inl (x_ca G 0, 16, .inl (fun _ => (0 : Int32))) := by rw [ec7]; exact (va_up_ne _ _ (by omega)).trans f6_t_1_1_1_1_1
  have f7_k : c7 k = .inr (0, [.ref (ad 1), .ref (ad 4), .ref (ad 5), .ref (ad 22), .ref q1, .ref q2, .ref q3, .null, .int 0]) := by rw [ec7]; exact va_up_self _ _ _
  have g7 : ∀ j, j < t → j ≠ k → c7 j = c j := fun j h1 h2 => by rw [ec7]; exact (va_up_ne _ _ (by omega)).trans (g6 j h1 h2)
  refine lv_aload_n hx hb d_X_init_133 rfl (lv_at hl 0 rfl) ?_
  refine lv_bipush (v := (16 : Int32)) hx hb d_X_init_134 (by decide) ?_
  refine va_newa (atype := .int) hx hb (hts _ t_58) (ty := .int) rfl hK hP hD hS hA (N' := 16) (a0 := (16, .inl (fun _ => (0 : Int32)))) (fun _ => rfl) (by decide) (by decide) (by decide) (Nat.le_of_ble_eq_true rfl) (Nat.le_of_ble_eq_true rfl) d_X_init_136 (fun q4 cA H hK2 hP hD hS => ?_)
  obtain rfl := y_caI hK2
  rw [y_push] at hP hD
  obtain ⟨ad5, ead5⟩ : ∃ a1, a1 = va_up ad4 (t + 1 + 1 + 1 + 1 + 1 + 1) q4 := ⟨_, rfl⟩
  rw [← ead5] at hP hD
  have a5_k : ad5 k = a0 := by rw [ead5]; exact (va_up_ne _ _ (by omega)).trans a4_k
  have a5_t : ad5 t = q1 := by rw [ead5]; exact (va_up_ne _ _ (by omega)).trans a4_t
  have a5_t_1 : ad5 (t + 1) = (ad2 (t + 1)) := by rw [ead5]; exact (va_up_ne _ _ (by omega)).trans a4_t_1
  have a5_t_1_1 : ad5 (t + 1 + 1) = (ad2 (t + 1 + 1)) := by rw [ead5]; exact (va_up_ne _ _ (by omega)).trans a4_t_1_1
  have a5_t_1_1_1 : ad5 (t + 1 + 1 + 1) = (ad2 (t + 1 + 1 + 1)) := by rw [ead5]; exact (va_up_ne _ _ (by omega)).trans a4_t_1_1_1
  have a5_t_1_1_1_1 : ad5 (t + 1 + 1 + 1 + 1) = q2 := by rw [ead5]; exact (va_up_ne _ _ (by omega)).trans a4_t_1_1_1_1
  have a5_t_1_1_1_1_1 : ad5 (t + 1 + 1 + 1 + 1 + 1) = q3 := by rw [ead5]; exact (va_up_ne _ _ (by omega)).trans a4_t_1_1_1_1_1
  have a5_t_1_1_1_1_1_1 : ad5 (t + 1 + 1 + 1 + 1 + 1 + 1) = q4 := by rw [ead5]; exact va_up_self _ _ _
  have b5 : ∀ j, j < t → ad5 j = ad j := fun j h1 => by rw [ead5]; exact (va_up_ne _ _ (by omega)).trans (b4 j h1)
  obtain ⟨c8, ec8⟩ : ∃ c8, c8 = va_up c7 (t + 1 + 1 + 1 + 1 + 1 + 1) (.inl (x_ca G 0, 16, .inl (fun _ => (0 : Int32)))) := ⟨_, rfl⟩
  rw [← ec8] at hP hD
  have f8_k : c8 k = .inr (0, [.ref (ad 1), .ref (ad 4), .ref (ad 5), .ref (ad 22), .ref q1, .ref q2, .ref q3, .null, .int 0]) := by rw [ec8]; exact (va_up_ne _ _ (by omega)).trans f7_k
  have f8_t : c8 t = .inr (4, [.ref (ad2 (t + 1)), .ref (ad2 (t + 1 + 1)), .ref (ad2 (t + 1 + 1 + 1))]) := by rw [ec8]; exact (va_up_ne _ _ (by omega)).trans f7_t
  have f8_t_1 : c8 (t + 1) = .inl (x_ca G 0, 128, .inl (fun _ => (0 : Int32))) := by rw [ec8]; exact (va_up_ne _ _ (by omega)).trans f7_t_1
  have f8_t_1_1 : c8 (t + 1 + 1) = .inl (x_ca G 0, 64, .inl (fun _ => (0 : Int32))) := by rw [ec8]; exact (va_up_ne _ _ (by omega)).trans f7_t_1_1
  have f8_t_1_1_1 : c8 (t + 1 + 1 + 1) = .inl (x_ca G 0, 8, .inl (fun _ => (0 : Int32))) := by rw [ec8]; exact (va_up_ne _ _ (by omega)).trans f7_t_1_1_1
  have f8_t_1_1_1_1 : c8 (t + 1 + 1 + 1 + 1) = .inl (x_ca G 0, 8, .inl (fun _ => (0 : Int32))) := by rw [ec8]; exact (va_up_ne _ _ (by omega)).trans f7_t_1_1_1_1
  have f8_t_1_1_1_1_1 : c8 (t + 1 + 1 + 1 + 1 + 1) = .inl (x_ca G 0, 16, .inl (fun _ => (0 : Int32))) := by rw [ec8]; exact (va_up_ne _ _ (by omega)).trans f7_t_1_1_1_1_1
  have f8_t_1_1_1_1_1_1 : c8 (t + 1 + 1 + 1 + 1 + 1 + 1) = .inl (x_ca G 0, 16, .inl (fun _ => (0 : Int32))) := by rw [ec8]; exact va_up_self _ _ _
  have g8 : ∀ j, j < t → j ≠ k → c8 j = c j := fun j h1 h2 => by rw [ec8]; exact (va_up_ne _ _ (by omega)).trans (g7 j h1 h2)
  refine va_putF (D := x_D G) (ci := 0) (v := .ref q4) (ty := .array .int) (C := "ContentLibrary") (T := x_TX) (N := 9) hx hb hts x_inX x_tyX x_tyX_ok x_nmX hown hK hP hD hS k (y_at (by omega) a5_k f8_k) rfl 7 (by decide) (hts _ t_137) (fun _ h9 => h9) rfl hin rfl (by decide +kernel) rfl rfl (Nat.le_of_ble_eq_true rfl) d_X_init_138 (fun H locs hP hD hS => ?_)
  rw [y_set (by omega) a5_k] at hP hD
  obtain ⟨c9, ec9⟩ : ∃ c9, c9 = va_up c8 k (.inr (0, ([.ref (ad 1), .ref (ad 4), .ref (ad 5), .ref (ad 22), .ref q1, .ref q2, .ref q3, .null, .int 0] : List Value).set 7 (.ref q4))) := ⟨_, rfl⟩
  rw [← ec9] at hP hD
  have f9_t : c9 t = .inr (4, [.ref (ad2 (t + 1)), .ref (ad2 (t + 1 + 1)), .ref (ad2 (t + 1 + 1 + 1))]) := by rw [ec9]; exact (va_up_ne _ _ (by omega)).trans f8_t
  have f9_t_1 : c9 (t + 1) = .inl (x_ca G 0, 128, .inl (fun _ => (0 : Int32))) := by rw [ec9]; exact (va_up_ne _ _ (by omega)).trans f8_t_1
  have f9_t_1_1 : c9 (t + 1 + 1) = .inl (x_ca G 0, 64, .inl (fun _ => (0 : Int32))) := by rw [ec9]; exact (va_up_ne _ _ (by omega)).trans f8_t_1_1
  have f9_t_1_1_1 : c9 (t + 1 + 1 + 1) = .inl (x_ca G 0, 8, .inl (fun _ => (0 : Int32))) := by rw [ec9]; exact (va_up_ne _ _ (by omega)).trans f8_t_1_1_1
  have f9_t_1_1_1_1 : c9 (t + 1 + 1 + 1 + 1) = .inl (x_ca G 0, 8, .inl (fun _ => (0 : Int32))) := by rw [ec9]; exact (va_up_ne _ _ (by omega)).trans f8_t_1_1_1_1
  have f9_t_1_1_1_1_1 : c9 (t + 1 + 1 + 1 + 1 + 1) = .inl (x_ca G 0, 16, .inl (fun _ => (0 : Int32))) := by rw [ec9]; exact (va_up_ne _ _ (by omega)).trans f8_t_1_1_1_1_1
  have f9_t_1_1_1_1_1_1 : c9 (t + 1 + 1 + 1 + 1 + 1 + 1) = .inl (x_ca G 0, 16, .inl (fun _ => (0 : Int32))) := by rw [ec9]; exact (va_up_ne _ _ (by omega)).trans f8_t_1_1_1_1_1_1
  have f9_k : c9 k = .inr (0, [.ref (ad 1), .ref (ad 4), .ref (ad 5), .ref (ad 22), .ref q1, .ref q2, .ref q3, .ref q4, .int 0]) := by rw [ec9]; exact va_up_self _ _ _
  have g9 : ∀ j, j < t → j ≠ k → c9 j = c j := fun j h1 h2 => by rw [ec9]; exact (va_up_ne _ _ (by omega)).trans (g8 j h1 h2)
  refine lv_aload_n hx hb d_X_init_141 rfl (lv_at hl 0 rfl) ?_
  refine lv_iconst (v := (0 : Int32)) hx hb d_X_init_142 (by decide) ?_
  refine va_put (D := x_D G) (ci := 0) (v := .int (0 : Int32)) (ty := .int) (C := "ContentLibrary") (T := x_TX) (N := 9) hx hb hts x_inX x_tyX x_tyX_ok x_nmX hown hK hP hD hS k (y_at (by omega) a5_k f9_k) rfl 8 (by decide) (hts _ t_138) (fun _ h9 => h9) rfl (by decide +kernel) rfl rfl (Nat.le_of_ble_eq_true rfl) d_X_init_143 (fun H locs hP hD hS => ?_)
  rw [y_set (by omega) a5_k] at hP hD
  obtain ⟨c10, ec10⟩ : ∃ c10, c10 = va_up c9 k (.inr (0, ([.ref (ad 1), .ref (ad 4), .ref (ad 5), .ref (ad 22), .ref q1, .ref q2, .ref q3, .ref q4, .int 0] : List Value).set 8 (.int (0 : Int32)))) := ⟨_, rfl⟩
  rw [← ec10] at hP hD
  have f10_t : c10 t = .inr (4, [.ref (ad2 (t + 1)), .ref (ad2 (t + 1 + 1)), .ref (ad2 (t + 1 + 1 + 1))]) := by rw [ec10]; exact (va_up_ne _ _ (by omega)).trans f9_t
  have f10_t_1 : c10 (t + 1) = .inl (x_ca G 0, 128, .inl (fun _ => (0 : Int32))) := by rw [ec10]; exact (va_up_ne _ _ (by omega)).trans f9_t_1
  have f10_t_1_1 : c10 (t + 1 + 1) = .inl (x_ca G 0, 64, .inl (fun _ => (0 : Int32))) := by rw [ec10]; exact (va_up_ne _ _ (by omega)).trans f9_t_1_1
  have f10_t_1_1_1 : c10 (t + 1 + 1 + 1) = .inl (x_ca G 0, 8, .inl (fun _ => (0 : Int32))) := by rw [ec10]; exact (va_up_ne _ _ (by omega)).trans f9_t_1_1_1
  have f10_t_1_1_1_1 : c10 (t + 1 + 1 + 1 + 1) = .inl (x_ca G 0, 8, .inl (fun _ => (0 : Int32))) := by rw [ec10]; exact (va_up_ne _ _ (by omega)).trans f9_t_1_1_1_1
  have f10_t_1_1_1_1_1 : c10 (t + 1 + 1 + 1 + 1 + 1) = .inl (x_ca G 0, 16, .inl (fun _ => (0 : Int32))) := by rw [ec10]; exact (va_up_ne _ _ (by omega)).trans f9_t_1_1_1_1_1
  have f10_t_1_1_1_1_1_1 : c10 (t + 1 + 1 + 1 + 1 + 1 + 1) = .inl (x_ca G 0, 16, .inl (fun _ => (0 : Int32))) := by rw [ec10]; exact (va_up_ne _ _ (by omega)).trans f9_t_1_1_1_1_1_1
  have f10_k : c10 k = .inr (0, [.ref (ad 1), .ref (ad 4), .ref (ad 5), .ref (ad 22), .ref q1, .ref q2, .ref q3, .ref q4, .int (0 : Int32)]) := by rw [ec10]; exact va_up_self _ _ _
  have g10 : ∀ j, j < t → j ≠ k → c10 j = c j := fun j h1 h2 => by rw [ec10]; exact (va_up_ne _ _ (by omega)).trans (g9 j h1 h2)
  have eb : ∀ j, j < 103 → ad5 j = ad j := fun j hj => b5 j (by omega)
  have eg : ∀ j, 0 < j → j < 103 → c10 j = c j := fun j h1 h2 => g10 j (by omega) (by omega)
  have e103 : ad5 103 = q1 := by have h := a5_t; rw [htt] at h; exact h
  have e104 : ad5 104 = (ad2 104) := by have h := a5_t_1; rw [htt] at h; exact h
  have e105 : ad5 105 = (ad2 105) := by have h := a5_t_1_1; rw [htt] at h; exact h
  have e106 : ad5 106 = (ad2 106) := by have h := a5_t_1_1_1; rw [htt] at h; exact h
  have e107 : ad5 107 = q2 := by have h := a5_t_1_1_1_1; rw [htt] at h; exact h
  have e108 : ad5 108 = q3 := by have h := a5_t_1_1_1_1_1; rw [htt] at h; exact h
  have e109 : ad5 109 = q4 := by have h := a5_t_1_1_1_1_1_1; rw [htt] at h; exact h
  have F103 : c10 103 = .inr (4, [.ref (ad2 104), .ref (ad2 105), .ref (ad2 106)]) := by have h := f10_t; rw [htt] at h; exact h
  have F104 : c10 104 = .inl (x_ca G 0, 128, .inl (fun _ => (0 : Int32))) := by have h := f10_t_1; rw [htt] at h; exact h
  have F105 : c10 105 = .inl (x_ca G 0, 64, .inl (fun _ => (0 : Int32))) := by have h := f10_t_1_1; rw [htt] at h; exact h
  have F106 : c10 106 = .inl (x_ca G 0, 8, .inl (fun _ => (0 : Int32))) := by have h := f10_t_1_1_1; rw [htt] at h; exact h
  have F107 : c10 107 = .inl (x_ca G 0, 8, .inl (fun _ => (0 : Int32))) := by have h := f10_t_1_1_1_1; rw [htt] at h; exact h
  have F108 : c10 108 = .inl (x_ca G 0, 16, .inl (fun _ => (0 : Int32))) := by have h := f10_t_1_1_1_1_1; rw [htt] at h; exact h
  have F109 : c10 109 = .inl (x_ca G 0, 16, .inl (fun _ => (0 : Int32))) := by have h := f10_t_1_1_1_1_1_1; rw [htt] at h; exact h
  have F0 : c10 0 = .inr (0, [.ref (ad 1), .ref (ad 4), .ref (ad 5), .ref (ad 22), .ref q1, .ref q2, .ref q3, .ref q4, .int (0 : Int32)]) := by have h := f10_k; rw [hkk] at h; exact h
  have E0 : ad5 0 = a0 := by have h := a5_k; rw [hkk] at h; exact h
  rw [htt] at hP hD
  refine W.widen (k := 109) (n := 4864) (Nat.le_of_ble_eq_true rfl) (Nat.le_of_ble_eq_true rfl) ?_
  exact W.vret hx hb hr (fun T9 ht9 hW => ⟨⟨(), rfl, trivial, ad5, c10, f, g, y_pw hP hD hK hG hS hz ht9 hW, E0, hB0.up (fun j hj => eb j (by omega)) (fun j h1 h2 => eg j h1 (by omega)), hPi.up (fun j hj => eb j (by omega)) (fun j h1 h2 => eg j (by omega) (by omega)), hKi.up (fun j hj => eb j (by omega)) (fun j h1 h2 => eg j (by omega) (by omega)), by rw [eb 1 (by omega), eb 4 (by omega), eb 5 (by omega), eb 22 (by omega), e103, e107, e108, e109]; exact F0, by rw [e104, e105, e106]; exact F103, F104, F105, F106, F107, F108, F109⟩, hS.F ht9⟩) hS.2.2 d_X_init_146
