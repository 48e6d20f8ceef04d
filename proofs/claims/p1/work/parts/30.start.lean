theorem t_19 : Cond.classLink "ContentLibraryLaw" 8 "ContentLibrary" ∈ x_big := x_bt 19 (by decide +kernel) (by decide +kernel)
theorem t_20 : Cond.instantiable "ContentLibrary" 9 ∈ x_big := x_bt 20 (by decide +kernel) (by decide +kernel)
theorem t_21 : Cond.methodLink "ContentLibraryLaw" 68 (⟨"ContentLibrary", "<init>", "(I)V"⟩ : MethodName) ∈ x_big := x_bt 21 (by decide +kernel) (by decide +kernel)
theorem t_22 : Cond.instanceMethod (⟨"ContentLibrary", "<init>", "(I)V"⟩ : MethodName) ∈ x_big := x_bt 22 (by decide +kernel) (by decide +kernel)
theorem t_23 : Cond.code (⟨"ContentLibrary", "<init>", "(I)V"⟩ : MethodName) prog_1_method_1_code 4 none ∈ x_big := x_bt 23 (by decide +kernel) (by decide +kernel)
theorem t_322 : Cond.methodLink "ContentLibraryLaw" 62 (⟨"ContentLibraryLaw", "cell", "([II)I"⟩ : MethodName) ∈ x_big := x_bt 322 (by decide +kernel) (by decide +kernel)
theorem t_323 : Cond.static (⟨"ContentLibraryLaw", "cell", "([II)I"⟩ : MethodName) ∈ x_big := x_bt 323 (by decide +kernel) (by decide +kernel)
theorem t_324 : Cond.code (⟨"ContentLibraryLaw", "cell", "([II)I"⟩ : MethodName) method_2_code 2 (some .int) ∈ x_big := x_bt 324 (by decide +kernel) (by decide +kernel)
theorem t_655 : Cond.classLink "ContentLibraryLaw" 71 "ContentLibraryModel" ∈ x_big := x_bt 655 (by decide +kernel) (by decide +kernel)
theorem t_656 : Cond.instantiable "ContentLibraryModel" 31 ∈ x_big := x_bt 656 (by decide +kernel) (by decide +kernel)
theorem t_657 : Cond.methodLink "ContentLibraryLaw" 73 (⟨"ContentLibraryModel", "<init>", "(I)V"⟩ : MethodName) ∈ x_big := x_bt 657 (by decide +kernel) (by decide +kernel)
theorem t_658 : Cond.instanceMethod (⟨"ContentLibraryModel", "<init>", "(I)V"⟩ : MethodName) ∈ x_big := x_bt 658 (by decide +kernel) (by decide +kernel)
theorem t_659 : Cond.code (⟨"ContentLibraryModel", "<init>", "(I)V"⟩ : MethodName) prog_7_method_1_code 4 none ∈ x_big := x_bt 659 (by decide +kernel) (by decide +kernel)
theorem d_L_law_0 : decode code 0 = .ok (.new 8, 3) := by decide +kernel
theorem d_L_law_3 : decode code 3 = .ok (.dup, 1) := by decide +kernel
theorem d_L_law_4 : decode code 4 = .ok (.aload_n 0, 1) := by decide +kernel
theorem d_L_law_5 : decode code 5 = .ok (.iconst 0, 1) := by decide +kernel
theorem d_L_law_6 : decode code 6 = .ok (.invokestatic 62, 3) := by decide +kernel
theorem d_L_law_9 : decode code 9 = .ok (.invokespecial 68, 3) := by decide +kernel
theorem d_L_law_12 : decode code 12 = .ok (.astore_n 1, 1) := by decide +kernel
theorem d_L_law_13 : decode code 13 = .ok (.new 71, 3) := by decide +kernel
theorem d_L_law_16 : decode code 16 = .ok (.dup, 1) := by decide +kernel
theorem d_L_law_17 : decode code 17 = .ok (.aload_n 0, 1) := by decide +kernel
theorem d_L_law_18 : decode code 18 = .ok (.iconst 0, 1) := by decide +kernel
theorem d_L_law_19 : decode code 19 = .ok (.invokestatic 62, 3) := by decide +kernel
theorem d_L_law_22 : decode code 22 = .ok (.invokespecial 73, 3) := by decide +kernel
theorem d_L_law_25 : decode code 25 = .ok (.astore_n 2, 1) := by decide +kernel
theorem d_L_law_26 : decode code 26 = .ok (.iconst 1, 1) := by decide +kernel
theorem d_L_law_27 : decode code 27 = .ok (.newarray .long, 2) := by decide +kernel
theorem d_L_law_29 : decode code 29 = .ok (.astore_n 3, 1) := by decide +kernel
theorem d_L_law_30 : decode code 30 = .ok (.iconst 1, 1) := by decide +kernel
theorem d_L_law_31 : decode code 31 = .ok (.istore 4, 2) := by decide +kernel
theorem d_L_law_42 : decode code 42 = .ok (.aload_n 0, 1) := by decide +kernel
theorem d_L_law_43 : decode code 43 = .ok (.iload 4, 2) := by decide +kernel
theorem d_L_law_45 : decode code 45 = .ok (.iaload, 1) := by decide +kernel
theorem d_L_law_46 : decode code 46 = .ok (.bipush 15, 2) := by decide +kernel
theorem d_L_law_48 : decode code 48 = .ok (.iand, 1) := by decide +kernel
theorem d_L_law_49 : decode code 49 = .ok (.tableswitch 989 0 15 #[79, 147, 239, 295, 363, 418, 498, 566, 634, 690, 734, 790, 803, 883, 896, 964], 79) := by decide +kernel
theorem l_prim {s : State} {args : Array Value} {ty : FieldType} (h : (Cond.arrayClass ty).before args s = true) : ∃ cA : ClassId, ArrOfT s cA ty ∧ s.vm.findClass ("[" ++ ty.toString) = some cA := by
  obtain ⟨c, k, comp, h1, h2, h3⟩ := Cond.arrayClass_spec h
  exact ⟨c, fun n z => ⟨fun k h => (by cases h), k, h2, comp, h3⟩, h1⟩
theorem l_objs {s : State} {C : String} (h : va_AO C s) : ∃ cA : ClassId, ArrOfT s cA (.object C) ∧ va_RA s cA (.object C) := by
  obtain ⟨comp, c, k, h1, h2, h3, h4, h5⟩ := Cond.arrayOver_spec h
  exact ⟨c, fun n z => ⟨fun k h => (by cases h), k, h3, comp, h4⟩, k, comp, h3, h4, h1, h5⟩
theorem l_g1 : ∀ q ∈ x_strs, Cond.stringRef "ContentLibrary" q.1 q.2 ∈ tables_1 ∧ Cond.exactly (.string "ContentLibrary" q.1) "java/lang/String" ∈ flatC (Jvm.Cond.and given_1 narrow_1) := by decide +kernel
theorem l_g2 : ∀ E ∈ x_excs, Cond.castable E E ∈ tables_1 := by decide +kernel
theorem l_g3 : ∀ E ∈ x_excs, ∀ F ∈ x_excs, E ≠ F → Cond.not (.castable E F) ∈ flatC (Jvm.Cond.and given_1 narrow_1) := by decide +kernel
theorem l_g4 : ∀ y ∈ x_decls, Cond.declares y ∈ tables_1 := by decide +kernel
abbrev l_S : Term := .static "ContentLibrary$Digester" "START" "[I"
abbrev l_R : Term := .static "ContentLibrary$Digester" "ROUND" "[I"
theorem l_g5 : ∀ j, j < 8 → Cond.eq (.elem l_S (.int (Int32.ofNat j))) (.int (x_START j)) ∈ flatC (Jvm.Cond.and given_1 narrow_1) := by decide +kernel
theorem l_g6 : ∀ j, j < 64 → Cond.eq (.elem l_R (.int (Int32.ofNat j))) (.int (x_ROUND j)) ∈ flatC (Jvm.Cond.and given_1 narrow_1) := by decide +kernel
theorem l_g7 : Cond.arrayOf l_S .int ∈ flatC (Jvm.Cond.and given_1 narrow_1) ∧ Cond.arrayOf l_R .int ∈ flatC (Jvm.Cond.and given_1 narrow_1) ∧ Cond.eq (.length l_S) (.int 8) ∈ flatC (Jvm.Cond.and given_1 narrow_1) ∧ Cond.eq (.length l_R) (.int 64) ∈ flatC (Jvm.Cond.and given_1 narrow_1) ∧ Cond.isRef (.static x_thN "UNASSIGNED_STACK" "[Ljava/lang/StackTraceElement;") ∈ flatC (Jvm.Cond.and given_1 narrow_1) ∧ Cond.isRef (.static x_thN "SUPPRESSED_SENTINEL" "Ljava/util/List;") ∈ flatC (Jvm.Cond.and given_1 narrow_1) := by decide +kernel
theorem l_g8 : Cond.arrayOver (.object "ContentLibrary$Picture") ∈ tables_1 ∧ Cond.arrayOver (.object "ContentLibrary$Kept") ∈ tables_1 ∧ Cond.laysStatic "ContentLibrary$Digester" "START" "[I" ∈ tables_1 ∧ Cond.laysStatic "ContentLibrary$Digester" "ROUND" "[I" ∈ tables_1 ∧ Cond.laysStatic x_thN "UNASSIGNED_STACK" "[Ljava/lang/StackTraceElement;" ∈ tables_1 ∧ Cond.laysStatic x_thN "SUPPRESSED_SENTINEL" "Ljava/util/List;" ∈ tables_1 ∧ Cond.initialized "ContentLibrary$Digester" ∈ tables_1 ∧ Cond.initialized x_thN ∈ tables_1 := by decide +kernel
set_option maxHeartbeats 4000000 in
set_option maxRecDepth 100000 in
theorem l_G {p : Program} {s : State} {m : MethodId} {meth : Method} {c : Code} {b L : Nat} {xs : Nat → Int32} (C0 : lw_At p s m meth c b L xs) : ∃ G : x_G, x_s0 G = s.heap.size ∧ va_K (x_D G) vwCl (x_ty G) s ∧ x_GV G s s.heap := by
  obtain ⟨hx, hb, hr, hml, hown, hts9, hX, hbl, hlocks, hgv⟩ := id C0
  have hts : ∀ w ∈ x_big, w.before #[Value.ref b] s = true := fun w h => hts9 w (x_bg h).1
  have ht : ∀ w ∈ tables_1, w.before #[Value.ref b] s = true := fun w h => hts9 w (List.mem_append_right _ h)
  have hs : ∀ w ∈ flatC (Jvm.Cond.and given_1 narrow_1), w.before #[Value.ref b] s = true := flat_of_before _ hgv
  obtain ⟨k0, i0, hk0⟩ := u_known (C := "ContentLibrary") (T := x_TX) (N := 9) (n := 9) hts x_inX (hts _ t_20)
  obtain ⟨k1, i1, hk1⟩ := u_known (C := "ContentLibrary$Blocks") (T := x_TB) (N := 5) (n := 5) hts x_inB (hts _ t_34)
  obtain ⟨k2, i2, hk2⟩ := u_known (C := "ContentLibrary$Picture") (T := x_TP) (N := 3) (n := 3) hts x_inP (hts _ t_61)
  obtain ⟨k3, i3, hk3⟩ := u_known (C := "ContentLibrary$Kept") (T := x_TK) (N := 6) (n := 6) hts x_inK (hts _ t_82)
  obtain ⟨k4, i4, hk4⟩ := u_known (C := "ContentLibrary$Digester") (T := x_TD) (N := 3) (n := 3) hts x_inD (hts _ t_115)
  obtain ⟨k5, i5, hk5⟩ := u_known (C := "ContentLibraryModel") (T := x_TM) (N := 31) (n := 31) hts x_inM (hts _ t_656)
  obtain ⟨e1, e2, e3, e4, e5, e6⟩ := l_g7
  obtain ⟨f1, f2, f3, f4, f5, f6, f7, f8⟩ := l_g8
  have o1 : va_AO "ContentLibrary$Picture" s := va_AO.of (ht _ f1)
  have o2 : va_AO "ContentLibrary$Kept" s := va_AO.of (ht _ f2)
  obtain ⟨a0, ha0⟩ := l_prim (hts _ t_58)
  obtain ⟨a1, ha1⟩ := l_prim (hts _ t_79)
  obtain ⟨a2, ha2⟩ := l_objs o1
  obtain ⟨a3, ha3⟩ := l_objs o2
  obtain ⟨a4, ha4⟩ := l_prim (hts _ t_766)
  have hA : ∀ (G : x_G), x_s0 G = s.heap.size → ∀ a : Nat, a < s.heap.size → ¬ x_A G a := fun G e a h q => absurd (show x_s0 G ≤ a from q) (by omega)
  obtain ⟨G, hG⟩ : ∃ G : x_G, G = (fun k => if k = 0 then k0 else if k = 1 then k1 else if k = 2 then k2 else if k = 3 then k3 else if k = 4 then k4 else k5, fun k => if k = 0 then i0 else if k = 1 then i1 else if k = 2 then i2 else if k = 3 then i3 else if k = 4 then i4 else i5, fun k => if k = 0 then a0 else if k = 1 then a1 else if k = 2 then a2 else if k = 3 then a3 else a4, fun _ => 0, 0, s.heap.size, []) := ⟨_, rfl⟩
  have hs0 : x_s0 G = s.heap.size := by rw [hG]
  have hA9 := hA G hs0
  refine ⟨G, hs0, ⟨?_, ?_⟩, ⟨⟨?_, o1, o2⟩, ⟨⟨?_, ?_⟩, ?_, ?_, ⟨?_, ?_⟩, ⟨?_, ?_⟩⟩⟩⟩
  · rw [hG]
    intro k q hq
    match k, hq with
    | 0, hq => cases hq; exact hk0
    | 1, hq => cases hq; exact hk1
    | 2, hq => cases hq; exact hk2
    | 3, hq => cases hq; exact hk3
    | 4, hq => cases hq; exact hk4
    | 5, hq => cases hq; exact hk5
    | k + 6, hq => cases hq
  · rw [hG]
    intro k q hq
    match k, hq with
    | 0, hq => cases hq; exact ha0
    | 1, hq => cases hq; exact ha1
    | 2, hq => cases hq; exact ha2
    | 3, hq => cases hq; exact ha3
    | 4, hq => cases hq; exact ha4
    | k + 5, hq => cases hq
  · obtain ⟨tS, s1, s2⟩ := va_Tof (A := x_A G) (N := 8) (f := fun j => .int (x_START j)) (by decide) (hs _ e1) (va_eqt (hs _ e3)) (fun j hj => va_eqt (hs _ (l_g5 j hj))) hA9
    obtain ⟨tR, r1, r2⟩ := va_Tof (A := x_A G) (N := 64) (f := fun j => .int (x_ROUND j)) (by decide) (hs _ e2) (va_eqt (hs _ e4)) (fun j hj => va_eqt (hs _ (l_g6 j hj))) hA9
    exact ⟨tS, tR, va_Zof (ht _ f3) (ht _ f7) s1 hA9, s2, va_Zof (ht _ f4) (ht _ f7) r1 hA9, r2⟩
  · exact fun E hE => va_Nw.of rfl (ht _ (l_g2 E hE))
  · exact fun E hE F hF h => va_Nc.of (hs _ (l_g3 E hE F hF h))
  · exact fun y hy => va_Nw.of rfl (ht _ (l_g4 y hy))
  · intro q hq
    obtain ⟨h1, h2⟩ := l_g1 q hq
    obtain ⟨a, -, -, -, ha, -⟩ := Cond.exactly_spec (hs _ h2)
    exact ⟨a, vk_R.of (ht _ h1) ha⟩
  · exact va_Zqof (ht _ f5) (ht _ f8) (hs _ e5) hA9
  · exact e_L.of (ht _ f5) hA9
  · exact va_Zqof (ht _ f6) (ht _ f8) (hs _ e6) hA9
  · exact e_L.of (ht _ f6) hA9
set_option maxHeartbeats 4000000 in
set_option maxRecDepth 100000 in
theorem whole_start {p : Program} {e : Env} {s : State} {m : MethodId} {below : List Frame} {meth : Method} {c : Code} (l : Launch) (hl9 : l.stackTraces = false) {b L : Nat} {xs : Nat → Int32} (hL : L ≤ 6) (C0 : lw_At p s m meth c b L xs) : W p l e room_1 s m #[Value.ref b] below meth c s.heap [] 0 0 (lw_Z below #[Value.ref b] s) (entryFrame m ([Value.ref b] : List Value).toArray 8) := by
  obtain ⟨hx, hb, hr, hml, hown, hts9, hX, hbl, hlocks, hgv⟩ := id C0
  have hown : s.vm.findClass "ContentLibraryLaw" = some m.cls := hown
  have hts : ∀ w ∈ x_big, w.before #[Value.ref b] s = true := fun w h => hts9 w (x_bg h).1
  obtain ⟨G, hs0, hK, hG⟩ := l_G C0
  have hz : x_s0 G ≤ s.heap.size := Nat.le_of_eq hs0
  have hA : ∀ q : Nat, s.heap.size ≤ q → x_A G q := fun q h => Nat.le_trans hz h
  have hbA : ¬ x_A G b := fun h => absurd (show x_s0 G ≤ b from h) (by omega)
  have hS : va_S (x_A G) s.heap s.heap [] := va_S.rf
  obtain ⟨v, hv⟩ : ∃ v : Int32, v = if 0 < L then xs 0 else 0 := ⟨_, rfl⟩
  obtain ⟨n, hn, hp, hp1, hp2, hp3⟩ := l_clamp v
  obtain ⟨ad, -⟩ : ∃ ad : Nat → Nat, ad = fun _ => 0 := ⟨_, rfl⟩
  obtain ⟨cs, -⟩ : ∃ cs : Nat → va_E, cs = fun _ => .inr (0, []) := ⟨_, rfl⟩
  have hP : va_P (x_D G) vwCl (y_W ad cs 0) s.heap := fun k q h => by rw [y_out (Nat.not_lt_zero k)] at h; cases h
  have hD : va_D (x_A G) (y_W ad cs 0) := ⟨fun i j p q h => (by rw [y_out (Nat.not_lt_zero i)] at h; cases h), fun k q h => (by rw [y_out (Nat.not_lt_zero k)] at h; cases h)⟩
  have hl := lv_entry ([.ref b]) (n := 8) (Nat.le_of_ble_eq_true rfl)
  rw [lg_entry_eq]
  generalize (lg_sl ([.ref b]) ++ List.replicate (8 - (lg_sl ([.ref b])).length) Slot.unset).toArray = ls at hl ⊢
  have hl : lv_has ls 8 [(0, .ref b)] := hl
  refine va_new (ci := 0) (fs := [.null, .null, .null, .null, .null, .null, .null, .null, .int 0]) (C := "ContentLibrary") (T := x_TX) (N := 9) hx hb hts x_inX x_tyX x_tyX_ok hown (hts _ t_19) (hts _ t_20) (hts _ t_1) hK hP hD hS hA rfl (by decide) (Nat.le_of_ble_eq_true rfl) (Nat.le_of_ble_eq_true rfl) d_L_law_0 (fun q1 H hP hD hS => ?_)
  rw [y_push] at hP hD
  obtain ⟨ad1, ea1⟩ : ∃ a1 : Nat → Nat, a1 = va_up ad 0 q1 := ⟨_, rfl⟩
  obtain ⟨c1, ec1⟩ : ∃ c1 : Nat → va_E, c1 = va_up cs 0 (.inr (0, [.null, .null, .null, .null, .null, .null, .null, .null, .int 0])) := ⟨_, rfl⟩
  rw [← ea1, ← ec1] at hP hD
  have hq1 : ad1 0 = q1 := by rw [ea1]; exact va_up_self _ _ _
  have hck1 : c1 0 = .inr (0, [.null, .null, .null, .null, .null, .null, .null, .null, .int 0]) := by rw [ec1]; exact va_up_self _ _ _
  clear ea1 ec1
  subst hq1
  refine lv_dup hx hb d_L_law_3 rfl ?_
  refine lv_aload_n hx hb d_L_law_4 rfl (lv_at hl 0 rfl) ?_
  refine lv_iconst (v := 0) hx hb d_L_law_5 (by decide) ?_
  refine va_calli (va_runS (As := [.ref b, .int 0]) (rest := [.ref (ad1 0), .ref (ad1 0)]) ⟨hx, hb, hml, hown, hts⟩ (c_L_cell l b L xs (by omega)) (va_cwS 2 hts (x_gS t_322 t_323 t_0 t_324) rfl rfl rfl (by decide +kernel) ⟨Nat.le_of_ble_eq_true rfl, Nat.le_of_ble_eq_true rfl⟩) ⟨fun a U g mk q => ⟨q.1, q.2.1, va_X.moved (u := U) (U := U.calling g mk a) (Vm.Alike.refl U.vm) q.2.2⟩, fun U hU hW => ⟨rfl, by rw [hU]; exact Nat.lt_of_lt_of_le hbl hS.1, by rw [hU]; exact va_X.moved hW.alike (va_X.kept hX (hS.2.1 b hbl hbA))⟩⟩ rfl rfl hl.1 rfl (lv_room (Nat.le_of_ble_eq_true rfl)) d_L_law_6 ⟨Nat.le_of_ble_eq_true rfl, Nat.le_of_ble_eq_true rfl⟩) hS (fun q _ h => h.elim) (fun q h => h.elim) (fun ra u t H1 locs ht hvm hw hB hz1 hk1 hS => ?_)
  have hP := hP.kept (fun k q hq => hk1 q.1 (hP k q hq).lt (fun h => h))
  generalize H1 = H at hP hS ⊢
  have hw : v = ra := hv.trans hw.symm
  subst hw
  refine va_callv (va_runI (As := [.int v]) (rest := [.ref (ad1 0)]) ⟨hx, hb, hml, hown, hts⟩ (c_X_init l G n hn v hp ad1 c1 hck1) (cwI 1 hts (x_gws t_23) rfl rfl rfl (hts _ t_1) (hts _ t_21) (hts _ t_22) rfl (by decide +kernel) ⟨Nat.le_of_ble_eq_true rfl, Nat.le_of_ble_eq_true rfl⟩) ⟨y_blind _ _ _ _ _, fun U hU hW => ⟨rfl, y_pw hP hD hK hG hS hz hU hW⟩⟩ rfl rfl hl.1 rfl (lv_room (Nat.le_of_ble_eq_true rfl)) d_L_law_9 ⟨Nat.le_of_ble_eq_true rfl, Nat.le_of_ble_eq_true rfl⟩) hS (fun q _ h => h) (fun q h => h) (fun u t H locs ht hvm hw hB _ _ hS => ?_)
  obtain ⟨ad2, c2, f2, g2, hB, hE⟩ := hB
  obtain ⟨hP, hD⟩ := y_back hB ht
  clear hB
  refine lv_astore_n (lv' := [(1, .ref (ad1 0)), (0, .ref b)]) hx hb d_L_law_12 rfl hl (by decide) rfl (fun ls hl => ?_)
  refine va_new (ci := 5) (fs := [.int 0, .int 0, .null, .int 0, .int 0, .null, .null, .null, .null, .null, .null, .null, .null, .null, .null, .null, .null, .null, .null, .int 0, .null, .null, .null, .null, .null, .null, .null, .int 0, .null, .null, .null]) (C := "ContentLibraryModel") (T := x_TM) (N := 31) hx hb hts x_inM x_tyM x_tyM_ok hown (hts _ t_655) (hts _ t_656) (hts _ t_7) hK hP hD hS hA rfl (by decide) (Nat.le_of_ble_eq_true rfl) (Nat.le_of_ble_eq_true rfl) d_L_law_13 (fun q2 H hP hD hS => ?_)
  rw [y_push] at hP hD
  have hE := y_XEc (ad' := va_up ad2 110 q2) (c' := va_up c2 110 (.inr (5, [.int 0, .int 0, .null, .int 0, .int 0, .null, .null, .null, .null, .null, .null, .null, .null, .null, .null, .null, .null, .null, .null, .int 0, .null, .null, .null, .null, .null, .null, .null, .int 0, .null, .null, .null]))) (fun k hk => va_up_ne _ _ (by omega)) (fun k hk => va_up_ne _ _ (by omega)) hE
  obtain ⟨ad3, ea3⟩ : ∃ a1 : Nat → Nat, a1 = va_up ad2 110 q2 := ⟨_, rfl⟩
  obtain ⟨c3, ec3⟩ : ∃ c1 : Nat → va_E, c1 = va_up c2 110 (.inr (5, [.int 0, .int 0, .null, .int 0, .int 0, .null, .null, .null, .null, .null, .null, .null, .null, .null, .null, .null, .null, .null, .null, .int 0, .null, .null, .null, .null, .null, .null, .null, .int 0, .null, .null, .null])) := ⟨_, rfl⟩
  rw [← ea3, ← ec3] at hP hD hE
  have hq2 : ad3 110 = q2 := by rw [ea3]; exact va_up_self _ _ _
  have hck3 : c3 110 = .inr (5, [.int 0, .int 0, .null, .int 0, .int 0, .null, .null, .null, .null, .null, .null, .null, .null, .null, .null, .null, .null, .null, .null, .int 0, .null, .null, .null, .null, .null, .null, .null, .int 0, .null, .null, .null]) := by rw [ec3]; exact va_up_self _ _ _
  clear ea3 ec3
  subst hq2
  refine lv_dup hx hb d_L_law_16 rfl ?_
  refine lv_aload_n hx hb d_L_law_17 rfl (lv_at hl 1 rfl) ?_
  refine lv_iconst (v := 0) hx hb d_L_law_18 (by decide) ?_
  refine va_calli (va_runS (As := [.ref b, .int 0]) (rest := [.ref (ad3 110), .ref (ad3 110)]) ⟨hx, hb, hml, hown, hts⟩ (c_L_cell l b L xs (by omega)) (va_cwS 2 hts (x_gS t_322 t_323 t_0 t_324) rfl rfl rfl (by decide +kernel) ⟨Nat.le_of_ble_eq_true rfl, Nat.le_of_ble_eq_true rfl⟩) ⟨fun a U g mk q => ⟨q.1, q.2.1, va_X.moved (u := U) (U := U.calling g mk a) (Vm.Alike.refl U.vm) q.2.2⟩, fun U hU hW => ⟨rfl, by rw [hU]; exact Nat.lt_of_lt_of_le hbl hS.1, by rw [hU]; exact va_X.moved hW.alike (va_X.kept hX (hS.2.1 b hbl hbA))⟩⟩ rfl rfl hl.1 rfl (lv_room (Nat.le_of_ble_eq_true rfl)) d_L_law_19 ⟨Nat.le_of_ble_eq_true rfl, Nat.le_of_ble_eq_true rfl⟩) hS (fun q _ h => h.elim) (fun q h => h.elim) (fun ra u t H1 locs ht hvm hw hB hz1 hk1 hS => ?_)
  have hP := hP.kept (fun k q hq => hk1 q.1 (hP k q hq).lt (fun h => h))
  generalize H1 = H at hP hS ⊢
  have hw : v = ra := hv.trans hw.symm
  subst hw
  refine va_callv (va_runI (As := [.int v]) (rest := [.ref (ad3 110)]) ⟨hx, hb, hml, hown, hts⟩ (c_M_init l G n v hp1 hp2 hp3 ad3 c3 hck3) (cwI 1 hts (x_gws t_659) rfl rfl rfl (hts _ t_7) (hts _ t_657) (hts _ t_658) rfl (by decide +kernel) ⟨Nat.le_of_ble_eq_true rfl, Nat.le_of_ble_eq_true rfl⟩) ⟨y_blind _ _ _ _ _, fun U hU hW => ⟨rfl, y_pw hP hD hK hG hS hz hU hW⟩⟩ rfl rfl hl.1 rfl (lv_room (Nat.le_of_ble_eq_true rfl)) d_L_law_22 ⟨Nat.le_of_ble_eq_true rfl, Nat.le_of_ble_eq_true rfl⟩) hS (fun q _ h => h) (fun q h => h) (fun u t H locs ht hvm hw hB _ _ hS => ?_)
  obtain ⟨am, zm, hB, -, hfr, ham⟩ := hB
  obtain ⟨hP, hD⟩ := m_back hB ht
  clear hB
  refine lv_astore_n (lv' := [(2, .ref (ad3 110)), (1, .ref (ad1 0)), (0, .ref b)]) hx hb d_L_law_25 rfl hl (by decide) rfl (fun ls hl => ?_)
  refine lv_iconst (v := (1 : Int32)) hx hb d_L_law_26 (by decide) ?_
  refine va_newa (atype := .long) hx hb (hts _ t_766) (ty := .long) rfl hK hP hD hS hA (N' := 1) (a0 := (1, .inr (.inl (fun _ => (0 : Int64))))) (fun _ => rfl) (by decide) (by decide) (by decide) (Nat.le_of_ble_eq_true rfl) (Nat.le_of_ble_eq_true rfl) d_L_law_27 (fun q3 cA H hK2 hP hD hS => ?_)
  obtain rfl := y_caJ hK2
  refine lv_astore_n (lv' := [(3, .ref q3), (2, .ref (ad3 110)), (1, .ref (ad1 0)), (0, .ref b)]) hx hb d_L_law_29 rfl hl (by decide) rfl (fun ls hl => ?_)
  refine lv_iconst (v := (1 : Int32)) hx hb d_L_law_30 (by decide) ?_
  refine lv_istore (lv' := [(4, .int 1), (3, .ref q3), (2, .ref (ad3 110)), (1, .ref (ad1 0)), (0, .ref b)]) hx hb d_L_law_31 hl (by decide) rfl (fun ls hl => ?_)
  obtain ⟨ax, hax0, hax1, hP, hD⟩ := l_start hE hP hD
  rw [← ham, ← hax0, ← hax1] at hl
  refine lv_iload hx hb d_L_law_33 (lv_at hl 0 rfl) ?_
  refine lv_aload_n hx hb d_L_law_35 rfl (lv_at hl 4 rfl) ?_
  refine va_slen hx hb hX hbl hbA hS d_L_law_36 ?_
  refine lv_iconst (v := 5) hx hb d_L_law_37 (by decide) ?_
  refine lv_isub hx hb d_L_law_38 ?_
  refine lv_icmp_gt (tgt := 1044) hx hb d_L_law_39 (by decide) (fun _ => l_end l C0 G hs0 (Nat.le_of_ble_eq_true rfl) (Nat.le_of_ble_eq_true rfl) H _ ls hS) (fun hc => ?_)
  have hL6 : L = 6 := by
    rcases (show L = 0 ∨ L = 1 ∨ L = 2 ∨ L = 3 ∨ L = 4 ∨ L = 5 ∨ L = 6 by omega) with rfl | rfl | rfl | rfl | rfl | rfl | rfl
    · exact absurd (by decide) hc
    · exact absurd (by decide) hc
    · exact absurd (by decide) hc
    · exact absurd (by decide) hc
    · exact absurd (by decide) hc
    · exact absurd (by decide) hc
    · rfl
  refine lv_aload_n hx hb d_L_law_42 rfl (lv_at hl 4 rfl) ?_
  refine lv_iload hx hb d_L_law_43 (lv_at hl 0 rfl) ?_
  refine va_sld hx hb hX hbl hbA hS (i := 1) (by rw [hL6]; exact v_d (by decide)) d_L_law_45 ?_
  refine lv_bipush (v := (15 : Int32)) hx hb d_L_law_46 (by decide) ?_
  refine lv_iand hx hb d_L_law_48 ?_
  refine W.widen (k := 137) (n := 9525) (Nat.le_of_ble_eq_true rfl) (Nat.le_of_ble_eq_true rfl) ?_
  have hl : lv_has ls 8 [(0, .ref b), (1, .ref (ax 0)), (2, .ref (am 0)), (3, .ref (ax 110)), (4, .int 1)] := lv_sub hl [4, 3, 2, 1, 0] rfl
  obtain ⟨j, hj, ej⟩ := pk_andE (xs ((1 : Int32)).toNatClampNeg) (m := 15) 4 (by decide)
  rcases (show j = 0 ∨ j = 1 ∨ j = 2 ∨ j = 3 ∨ j = 4 ∨ j = 5 ∨ j = 6 ∨ j = 7 ∨ j = 8 ∨ j = 9 ∨ j = 10 ∨ j = 11 ∨ j = 12 ∨ j = 13 ∨ j = 14 ∨ j = 15 by omega) with rfl | rfl | rfl | rfl | rfl | rfl | rfl | rfl | rfl | rfl | rfl | rfl | rfl | rfl | rfl | rfl
  · refine lv_tableIn (tgt := 128) hx hb d_L_law_49 (by rw [ej]; decide) (by rw [ej]; decide) (by rw [ej]; rfl) (by decide) ?_
    exact l_case_0 l hL6 C0 G hs0 hl9 n hn hK hG ax am zm hfr _ _ _ hP hD hS hl
  · refine lv_tableIn (tgt := 196) hx hb d_L_law_49 (by rw [ej]; decide) (by rw [ej]; decide) (by rw [ej]; rfl) (by decide) ?_
    exact l_case_1 l hL6 C0 G hs0 hl9 n hn hK hG ax am zm hfr _ _ _ hP hD hS hl
  · refine lv_tableIn (tgt := 288) hx hb d_L_law_49 (by rw [ej]; decide) (by rw [ej]; decide) (by rw [ej]; rfl) (by decide) ?_
    exact l_case_2 l hL6 C0 G hs0 hl9 n hn hK hG ax am zm hfr _ _ _ hP hD hS hl
  · refine lv_tableIn (tgt := 344) hx hb d_L_law_49 (by rw [ej]; decide) (by rw [ej]; decide) (by rw [ej]; rfl) (by decide) ?_
    exact l_case_3 l hL6 C0 G hs0 hl9 n hn hK hG ax am zm hfr _ _ _ hP hD hS hl
  · refine lv_tableIn (tgt := 412) hx hb d_L_law_49 (by rw [ej]; decide) (by rw [ej]; decide) (by rw [ej]; rfl) (by decide) ?_
    exact l_case_4 l hL6 C0 G hs0 hl9 n hn hK hG ax am zm hfr _ _ _ hP hD hS hl
  · refine lv_tableIn (tgt := 467) hx hb d_L_law_49 (by rw [ej]; decide) (by rw [ej]; decide) (by rw [ej]; rfl) (by decide) ?_
    exact l_case_5 l hL6 C0 G hs0 hl9 n hn hK hG ax am zm hfr _ _ _ hP hD hS hl
  · refine lv_tableIn (tgt := 547) hx hb d_L_law_49 (by rw [ej]; decide) (by rw [ej]; decide) (by rw [ej]; rfl) (by decide) ?_
    exact l_case_6 l hL6 C0 G hs0 hl9 n hn hK hG ax am zm hfr _ _ _ hP hD hS hl
  · refine lv_tableIn (tgt := 615) hx hb d_L_law_49 (by rw [ej]; decide) (by rw [ej]; decide) (by rw [ej]; rfl) (by decide) ?_
    exact l_case_7 l hL6 C0 G hs0 hl9 n hn hK hG ax am zm hfr _ _ _ hP hD hS hl
  · refine lv_tableIn (tgt := 683) hx hb d_L_law_49 (by rw [ej]; decide) (by rw [ej]; decide) (by rw [ej]; rfl) (by decide) ?_
    exact l_case_8 l hL6 C0 G hs0 hl9 n hn hK hG ax am zm hfr _ _ _ hP hD hS hl
  · refine lv_tableIn (tgt := 739) hx hb d_L_law_49 (by rw [ej]; decide) (by rw [ej]; decide) (by rw [ej]; rfl) (by decide) ?_
    exact l_case_9 l hL6 C0 G hs0 hl9 n hn hK hG ax am zm hfr _ _ _ hP hD hS hl
  · refine lv_tableIn (tgt := 783) hx hb d_L_law_49 (by rw [ej]; decide) (by rw [ej]; decide) (by rw [ej]; rfl) (by decide) ?_
    exact l_case_10 l hL6 C0 G hs0 hl9 n hn hK hG ax am zm hfr _ _ _ hP hD hS hl
  · refine lv_tableIn (tgt := 839) hx hb d_L_law_49 (by rw [ej]; decide) (by rw [ej]; decide) (by rw [ej]; rfl) (by decide) ?_
    exact l_case_11 l hL6 C0 G hs0 hl9 n hn hK hG ax am zm hfr _ _ _ hP hD hS hl
  · refine lv_tableIn (tgt := 852) hx hb d_L_law_49 (by rw [ej]; decide) (by rw [ej]; decide) (by rw [ej]; rfl) (by decide) ?_
    exact l_case_12 l hL6 C0 G hs0 hl9 n hn hK hG ax am zm hfr _ _ _ hP hD hS hl
  · refine lv_tableIn (tgt := 932) hx hb d_L_law_49 (by rw [ej]; decide) (by rw [ej]; decide) (by rw [ej]; rfl) (by decide) ?_
    exact l_case_13 l hL6 C0 G hs0 hl9 n hn hK hG ax am zm hfr _ _ _ hP hD hS hl
  · refine lv_tableIn (tgt := 945) hx hb d_L_law_49 (by rw [ej]; decide) (by rw [ej]; decide) (by rw [ej]; rfl) (by decide) ?_
    exact l_case_14 l hL6 C0 G hs0 hl9 n hn hK hG ax am zm hfr _ _ _ hP hD hS hl
  · refine lv_tableIn (tgt := 1013) hx hb d_L_law_49 (by rw [ej]; decide) (by rw [ej]; decide) (by rw [ej]; rfl) (by decide) ?_
    exact l_case_15 l hL6 C0 G hs0 hl9 n hn hK hG ax am zm hfr _ _ _ hP hD hS hl
