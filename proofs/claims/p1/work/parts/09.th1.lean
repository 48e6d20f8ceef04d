theorem t_11 : Cond.initialized "java/lang/IllegalStateException" ∈ x_big := x_bt 11 (by decide +kernel) (by decide +kernel)
theorem t_12 : Cond.initialized "java/lang/IllegalArgumentException" ∈ x_big := x_bt 12 (by decide +kernel) (by decide +kernel)
theorem t_14 : Cond.initialized "java/lang/IndexOutOfBoundsException" ∈ x_big := x_bt 14 (by decide +kernel) (by decide +kernel)
theorem t_339 : Cond.classLink "ContentLibrary" 251 "java/lang/IllegalStateException" ∈ x_big := x_bt 339 (by decide +kernel) (by decide +kernel)
theorem t_409 : Cond.classLink "ContentLibrary" 73 "java/lang/IllegalArgumentException" ∈ x_big := x_bt 409 (by decide +kernel) (by decide +kernel)
theorem t_457 : Cond.classLink "ContentLibrary" 145 "java/lang/IndexOutOfBoundsException" ∈ x_big := x_bt 457 (by decide +kernel) (by decide +kernel)
theorem t_489 : Cond.methodLink "ContentLibrary" 258 (⟨"ContentLibrary$Picture", "isWhole", "()Z"⟩ : MethodName) ∈ x_big := x_bt 489 (by decide +kernel) (by decide +kernel)
theorem at_255_IllegalStateException : ∀ w ∈ Jvm.Bundle.ownAtoms "ContentLibrary" 255 "java/lang/IllegalStateException" ["java/lang/RuntimeException", "java/lang/Exception"], w ∈ x_big ∨ w ∈ e_rest "java/lang/IllegalStateException" := by
  have h : ∀ w ∈ Jvm.Bundle.ownAtoms "ContentLibrary" 255 "java/lang/IllegalStateException" ["java/lang/RuntimeException", "java/lang/Exception"], (goodWord w = true ∧ w ∈ lw_tbl) ∨ w ∈ e_rest "java/lang/IllegalStateException" := by decide +kernel
  exact fun w hw => (h w hw).imp (fun q => List.mem_filter.mpr ⟨q.2, q.1⟩) id
theorem at_149_IndexOutOfBoundsException : ∀ w ∈ Jvm.Bundle.ownAtoms "ContentLibrary" 149 "java/lang/IndexOutOfBoundsException" ["java/lang/RuntimeException", "java/lang/Exception"], w ∈ x_big ∨ w ∈ e_rest "java/lang/IndexOutOfBoundsException" := by
  have h : ∀ w ∈ Jvm.Bundle.ownAtoms "ContentLibrary" 149 "java/lang/IndexOutOfBoundsException" ["java/lang/RuntimeException", "java/lang/Exception"], (goodWord w = true ∧ w ∈ lw_tbl) ∨ w ∈ e_rest "java/lang/IndexOutOfBoundsException" := by decide +kernel
  exact fun w hw => (h w hw).imp (fun q => List.mem_filter.mpr ⟨q.2, q.1⟩) id
theorem at_77_IllegalArgumentException : ∀ w ∈ Jvm.Bundle.ownAtoms "ContentLibrary" 77 "java/lang/IllegalArgumentException" ["java/lang/RuntimeException", "java/lang/Exception"], w ∈ x_big ∨ w ∈ e_rest "java/lang/IllegalArgumentException" := by
  have h : ∀ w ∈ Jvm.Bundle.ownAtoms "ContentLibrary" 77 "java/lang/IllegalArgumentException" ["java/lang/RuntimeException", "java/lang/Exception"], (goodWord w = true ∧ w ∈ lw_tbl) ∨ w ∈ e_rest "java/lang/IllegalArgumentException" := by decide +kernel
  exact fun w hw => (h w hw).imp (fun q => List.mem_filter.mpr ⟨q.2, q.1⟩) id
theorem d_X_refuseWhenCut_0 : decode prog_1_method_18_code 0 = .ok (.aload_n 0, 1) := by decide +kernel
theorem d_X_refuseWhenCut_1 : decode prog_1_method_18_code 1 = .ok (.getfield 23, 3) := by decide +kernel
theorem d_X_refuseWhenCut_4 : decode prog_1_method_18_code 4 = .ok (.getfield 213, 3) := by decide +kernel
theorem d_X_refuseWhenCut_7 : decode prog_1_method_18_code 7 = .ok (.ifCond .eq 13, 3) := by decide +kernel
theorem d_X_refuseWhenCut_10 : decode prog_1_method_18_code 10 = .ok (.new 251, 3) := by decide +kernel
theorem d_X_refuseWhenCut_13 : decode prog_1_method_18_code 13 = .ok (.dup, 1) := by decide +kernel
theorem d_X_refuseWhenCut_14 : decode prog_1_method_18_code 14 = .ok (.ldc 253, 2) := by decide +kernel
theorem d_X_refuseWhenCut_16 : decode prog_1_method_18_code 16 = .ok (.invokespecial 255, 3) := by decide +kernel
theorem d_X_refuseWhenCut_19 : decode prog_1_method_18_code 19 = .ok (.athrow, 1) := by decide +kernel
theorem d_X_refuseWhenCut_20 : decode prog_1_method_18_code 20 = .ok (.return_, 1) := by decide +kernel
theorem d_X_refuseUnlessByte_0 : decode prog_1_method_19_code 0 = .ok (.iload_n 1, 1) := by decide +kernel
theorem d_X_refuseUnlessByte_1 : decode prog_1_method_19_code 1 = .ok (.ifCond .lt 24, 3) := by decide +kernel
theorem d_X_refuseUnlessByte_4 : decode prog_1_method_19_code 4 = .ok (.iload_n 1, 1) := by decide +kernel
theorem d_X_refuseUnlessByte_5 : decode prog_1_method_19_code 5 = .ok (.aload_n 0, 1) := by decide +kernel
theorem d_X_refuseUnlessByte_6 : decode prog_1_method_19_code 6 = .ok (.getfield 23, 3) := by decide +kernel
theorem d_X_refuseUnlessByte_9 : decode prog_1_method_19_code 9 = .ok (.getfield 233, 3) := by decide +kernel
theorem d_X_refuseUnlessByte_12 : decode prog_1_method_19_code 12 = .ok (.if_icmp .ge 13, 3) := by decide +kernel
theorem d_X_refuseUnlessByte_15 : decode prog_1_method_19_code 15 = .ok (.iload_n 2, 1) := by decide +kernel
theorem d_X_refuseUnlessByte_16 : decode prog_1_method_19_code 16 = .ok (.ifCond .lt 9, 3) := by decide +kernel
theorem d_X_refuseUnlessByte_19 : decode prog_1_method_19_code 19 = .ok (.iload_n 2, 1) := by decide +kernel
theorem d_X_refuseUnlessByte_20 : decode prog_1_method_19_code 20 = .ok (.bipush 64, 2) := by decide +kernel
theorem d_X_refuseUnlessByte_22 : decode prog_1_method_19_code 22 = .ok (.if_icmp .lt 14, 3) := by decide +kernel
theorem d_X_refuseUnlessByte_25 : decode prog_1_method_19_code 25 = .ok (.new 145, 3) := by decide +kernel
theorem d_X_refuseUnlessByte_28 : decode prog_1_method_19_code 28 = .ok (.dup, 1) := by decide +kernel
theorem d_X_refuseUnlessByte_29 : decode prog_1_method_19_code 29 = .ok (.ldc_w 256, 3) := by decide +kernel
theorem d_X_refuseUnlessByte_32 : decode prog_1_method_19_code 32 = .ok (.invokespecial 149, 3) := by decide +kernel
theorem d_X_refuseUnlessByte_35 : decode prog_1_method_19_code 35 = .ok (.athrow, 1) := by decide +kernel
theorem d_X_refuseUnlessByte_36 : decode prog_1_method_19_code 36 = .ok (.return_, 1) := by decide +kernel
theorem d_X_refuseUnlessWhole_0 : decode prog_1_method_20_code 0 = .ok (.aload_n 0, 1) := by decide +kernel
theorem d_X_refuseUnlessWhole_1 : decode prog_1_method_20_code 1 = .ok (.invokevirtual 258, 3) := by decide +kernel
theorem d_X_refuseUnlessWhole_4 : decode prog_1_method_20_code 4 = .ok (.ifCond .ne 14, 3) := by decide +kernel
theorem d_X_refuseUnlessWhole_7 : decode prog_1_method_20_code 7 = .ok (.new 73, 3) := by decide +kernel
theorem d_X_refuseUnlessWhole_10 : decode prog_1_method_20_code 10 = .ok (.dup, 1) := by decide +kernel
theorem d_X_refuseUnlessWhole_11 : decode prog_1_method_20_code 11 = .ok (.ldc_w 262, 3) := by decide +kernel
theorem d_X_refuseUnlessWhole_14 : decode prog_1_method_20_code 14 = .ok (.invokespecial 77, 3) := by decide +kernel
theorem d_X_refuseUnlessWhole_17 : decode prog_1_method_20_code 17 = .ok (.athrow, 1) := by decide +kernel
theorem d_X_refuseUnlessWhole_18 : decode prog_1_method_20_code 18 = .ok (.return_, 1) := by decide +kernel
theorem d_X_pictureBeingMade_0 : decode prog_1_method_21_code 0 = .ok (.iload_n 1, 1) := by decide +kernel
theorem d_X_pictureBeingMade_1 : decode prog_1_method_21_code 1 = .ok (.ifCond .lt 21, 3) := by decide +kernel
theorem d_X_pictureBeingMade_4 : decode prog_1_method_21_code 4 = .ok (.iload_n 1, 1) := by decide +kernel
theorem d_X_pictureBeingMade_5 : decode prog_1_method_21_code 5 = .ok (.bipush 8, 2) := by decide +kernel
theorem d_X_pictureBeingMade_7 : decode prog_1_method_21_code 7 = .ok (.if_icmp .ge 15, 3) := by decide +kernel
theorem d_X_pictureBeingMade_10 : decode prog_1_method_21_code 10 = .ok (.aload_n 0, 1) := by decide +kernel
theorem d_X_pictureBeingMade_11 : decode prog_1_method_21_code 11 = .ok (.getfield 33, 3) := by decide +kernel
theorem d_X_pictureBeingMade_14 : decode prog_1_method_21_code 14 = .ok (.iload_n 1, 1) := by decide +kernel
theorem d_X_pictureBeingMade_15 : decode prog_1_method_21_code 15 = .ok (.aaload, 1) := by decide +kernel
theorem d_X_pictureBeingMade_16 : decode prog_1_method_21_code 16 = .ok (.getfield 80, 3) := by decide +kernel
theorem d_X_pictureBeingMade_19 : decode prog_1_method_21_code 19 = .ok (.ifCond .ne 14, 3) := by decide +kernel
theorem d_X_pictureBeingMade_22 : decode prog_1_method_21_code 22 = .ok (.new 145, 3) := by decide +kernel
theorem d_X_pictureBeingMade_25 : decode prog_1_method_21_code 25 = .ok (.dup, 1) := by decide +kernel
theorem d_X_pictureBeingMade_26 : decode prog_1_method_21_code 26 = .ok (.ldc_w 264, 3) := by decide +kernel
theorem d_X_pictureBeingMade_29 : decode prog_1_method_21_code 29 = .ok (.invokespecial 149, 3) := by decide +kernel
theorem d_X_pictureBeingMade_32 : decode prog_1_method_21_code 32 = .ok (.athrow, 1) := by decide +kernel
theorem d_X_pictureBeingMade_33 : decode prog_1_method_21_code 33 = .ok (.aload_n 0, 1) := by decide +kernel
theorem d_X_pictureBeingMade_34 : decode prog_1_method_21_code 34 = .ok (.getfield 33, 3) := by decide +kernel
theorem d_X_pictureBeingMade_37 : decode prog_1_method_21_code 37 = .ok (.iload_n 1, 1) := by decide +kernel
theorem d_X_pictureBeingMade_38 : decode prog_1_method_21_code 38 = .ok (.aaload, 1) := by decide +kernel
theorem d_X_pictureBeingMade_39 : decode prog_1_method_21_code 39 = .ok (.areturn, 1) := by decide +kernel
theorem d_X_keptAt_0 : decode prog_1_method_22_code 0 = .ok (.iload_n 1, 1) := by decide +kernel
theorem d_X_keptAt_1 : decode prog_1_method_22_code 1 = .ok (.ifCond .lt 21, 3) := by decide +kernel
theorem d_X_keptAt_4 : decode prog_1_method_22_code 4 = .ok (.iload_n 1, 1) := by decide +kernel
theorem d_X_keptAt_5 : decode prog_1_method_22_code 5 = .ok (.bipush 16, 2) := by decide +kernel
theorem d_X_keptAt_7 : decode prog_1_method_22_code 7 = .ok (.if_icmp .ge 15, 3) := by decide +kernel
theorem d_X_keptAt_10 : decode prog_1_method_22_code 10 = .ok (.aload_n 0, 1) := by decide +kernel
theorem d_X_keptAt_11 : decode prog_1_method_22_code 11 = .ok (.getfield 40, 3) := by decide +kernel
theorem d_X_keptAt_14 : decode prog_1_method_22_code 14 = .ok (.iload_n 1, 1) := by decide +kernel
theorem d_X_keptAt_15 : decode prog_1_method_22_code 15 = .ok (.aaload, 1) := by decide +kernel
theorem d_X_keptAt_16 : decode prog_1_method_22_code 16 = .ok (.getfield 178, 3) := by decide +kernel
theorem d_X_keptAt_19 : decode prog_1_method_22_code 19 = .ok (.ifCond .ne 14, 3) := by decide +kernel
theorem d_X_keptAt_22 : decode prog_1_method_22_code 22 = .ok (.new 145, 3) := by decide +kernel
theorem d_X_keptAt_25 : decode prog_1_method_22_code 25 = .ok (.dup, 1) := by decide +kernel
theorem d_X_keptAt_26 : decode prog_1_method_22_code 26 = .ok (.ldc_w 266, 3) := by decide +kernel
theorem d_X_keptAt_29 : decode prog_1_method_22_code 29 = .ok (.invokespecial 149, 3) := by decide +kernel
theorem d_X_keptAt_32 : decode prog_1_method_22_code 32 = .ok (.athrow, 1) := by decide +kernel
theorem d_X_keptAt_33 : decode prog_1_method_22_code 33 = .ok (.aload_n 0, 1) := by decide +kernel
theorem d_X_keptAt_34 : decode prog_1_method_22_code 34 = .ok (.getfield 40, 3) := by decide +kernel
theorem d_X_keptAt_37 : decode prog_1_method_22_code 37 = .ok (.iload_n 1, 1) := by decide +kernel
theorem d_X_keptAt_38 : decode prog_1_method_22_code 38 = .ok (.aaload, 1) := by decide +kernel
theorem d_X_keptAt_39 : decode prog_1_method_22_code 39 = .ok (.areturn, 1) := by decide +kernel
def f_X_refuseWhenCut (xn : Nat)  (z0 : x_St) : Option ((String ⊕ Unit) × x_St) :=
  (if (z0.1 1 2) = 0 then
  (some (Sum.inr (), z0))
  else
  (some (Sum.inl "java/lang/IllegalStateException", z0)))
def f_X_refuseUnlessByte (xn : Nat) (p1 : Int32) (p2 : Int32) (z0 : x_St) : Option ((String ⊕ Unit) × x_St) :=
  (if p1 < 0 then
  (some (Sum.inl "java/lang/IndexOutOfBoundsException", z0))
  else
  (if (z0.1 1 0) ≤ p1 then
  (some (Sum.inl "java/lang/IndexOutOfBoundsException", z0))
  else
  (if p2 < 0 then
  (some (Sum.inl "java/lang/IndexOutOfBoundsException", z0))
  else
  (if p2 < (64 : Int32) then
  (some (Sum.inr (), z0))
  else
  (some (Sum.inl "java/lang/IndexOutOfBoundsException", z0))))))
def f_X_refuseUnlessWhole (xn : Nat) (k1 : Nat) (z0 : x_St) : Option ((String ⊕ Unit) × x_St) :=
  (x_cl (f_P_isWhole xn k1 z0) (fun r1 z1 =>
  (if r1 = 0 then
  (some (Sum.inl "java/lang/IllegalArgumentException", z1))
  else
  (some (Sum.inr (), z1)))))
def f_X_pictureBeingMade (xn : Nat) (p1 : Int32) (z0 : x_St) : Option ((String ⊕ Nat) × x_St) :=
  (if p1 < 0 then
  (some (Sum.inl "java/lang/IndexOutOfBoundsException", z0))
  else
  (if (8 : Int32) ≤ p1 then
  (some (Sum.inl "java/lang/IndexOutOfBoundsException", z0))
  else
  (x_ck p1 8
  (if (z0.1 (6 + 2 * (p1).toNatClampNeg) 0) = 0 then
  (some (Sum.inl "java/lang/IndexOutOfBoundsException", z0))
  else
  (x_ck p1 8
  (some (Sum.inr (6 + 2 * (p1).toNatClampNeg), z0)))))))
def f_X_keptAt (xn : Nat) (p1 : Int32) (z0 : x_St) : Option ((String ⊕ Nat) × x_St) :=
  (if p1 < 0 then
  (some (Sum.inl "java/lang/IndexOutOfBoundsException", z0))
  else
  (if (16 : Int32) ≤ p1 then
  (some (Sum.inl "java/lang/IndexOutOfBoundsException", z0))
  else
  (x_ck p1 16
  (if (z0.1 (23 + 5 * (p1).toNatClampNeg) 0) = 0 then
  (some (Sum.inl "java/lang/IndexOutOfBoundsException", z0))
  else
  (x_ck p1 16
  (some (Sum.inr (23 + 5 * (p1).toNatClampNeg), z0)))))))
abbrev rm_X_refuseWhenCut : Room := { frames := 6, cells := 0, slots := 0, locals := 82 }
abbrev rx_X_refuseWhenCut : Room := { frames := 6, cells := 1, slots := 6, locals := 82 }
set_option maxHeartbeats 4000000 in
set_option maxRecDepth 100000 in
theorem c_X_refuseWhenCut (l : Launch) (G : x_G)  (z0 : x_St) (r : Unit) (zo : x_St) (hf : f_X_refuseWhenCut (x_n G)  z0 = some (Sum.inr r, zo)) : Met l (⟨"ContentLibrary", "refuseWhenCut", "()V"⟩ : MethodName) (x_ws (⟨"ContentLibrary", "refuseWhenCut", "()V"⟩ : MethodName) prog_1_method_18_code 1 none) rm_X_refuseWhenCut (va_Pc [.ref (x_ad G 0)] (x_PW G z0)) (va_Qv (fun u => r = () ∧ zo = u) (x_PW G) (x_A G)) 0 0 (x_A G) := by
  refine Met.ofW (cc := prog_1_method_18_code) (maxL := 1) (ret := none) (by decide) rfl ?_
  intro p e s m args below meth c s₁ B hml hv
  obtain ⟨rfl, hz, hP, hD, hK, hG⟩ := hv
  have C0 : x_Ctx G p s m _ meth c prog_1_method_18_code "ContentLibrary" 1 none := ⟨B.exec, B.bytes, B.returns, hml, findClass_of_methodNamed B.named, fun w h => atoms_spec (ws := (x_ws (⟨"ContentLibrary", "refuseWhenCut", "()V"⟩ : MethodName) prog_1_method_18_code 1 none)) B.pre w (List.mem_cons_of_mem _ h), B.notSynchronized, hz, hK, hG⟩
  obtain ⟨hx, hb, hr, hml, hown, hts, hlocks, hz, hK, hG⟩ := id C0
  have hS : va_S (x_A G) s.heap s.heap [] := va_S.rf
  have hl := lv_entry ([.ref (x_ad G 0)]) (n := 1) (Nat.le_of_ble_eq_true rfl)
  rw [lg_entry_eq]
  generalize (lg_sl ([.ref (x_ad G 0)]) ++ List.replicate (1 - (lg_sl ([.ref (x_ad G 0)])).length) Slot.unset).toArray = ls at hl ⊢
  have hl : lv_has ls 1 [(0, .ref (x_ad G 0))] := hl
  rw [f_X_refuseWhenCut] at hf
  refine lv_aload_n hx hb d_X_refuseWhenCut_0 rfl (lv_at hl 0 rfl) ?_
  refine va_get (D := x_D G) (ci := 0) (v := .ref (x_ad G 1)) (C := "ContentLibrary") (T := x_TX) (N := 9) hx hb hts x_inX hown hK hP 0 (x_lk_X G _) rfl 0 (by decide) (hts _ t_130) (fun _ h9 => h9) rfl d_X_refuseWhenCut_1 ?_
  refine va_get (D := x_D G) (ci := 1) (v := .int (z0.1 1 2)) (C := "ContentLibrary$Blocks") (T := x_TB) (N := 5) hx hb hts x_inB hown hK hP 1 (x_lk_B G _) rfl 2 (by decide) (hts _ t_44) (fun _ h9 => h9) rfl d_X_refuseWhenCut_4 ?_
  refine lv_if_eq (tgt := 20) hx hb d_X_refuseWhenCut_7 (by decide) (fun hc1 => ?_) (fun hc1 => ?_)
  · have hf := x_br_t hf hc1
    obtain ⟨rfl, rfl⟩ := x_retr hf
    exact W.vret hx hb hr (fun t ht hW => ⟨⟨_, rfl, ⟨rfl, rfl⟩, x_pw hP hD hK hG hS hz ht hW⟩, hS.F ht⟩) hS.2.2 d_X_refuseWhenCut_20
  · have hf := x_br_f hf hc1
    exact absurd hf x_no_r
set_option maxHeartbeats 4000000 in
set_option maxRecDepth 100000 in
theorem c_X_refuseWhenCut_x (l : Launch) (G : x_G) (hl9 : l.stackTraces = false)  (z0 : x_St) (E : String) (zo : x_St) (hf : f_X_refuseWhenCut (x_n G)  z0 = some (Sum.inl E, zo)) : e_Met l G (⟨"ContentLibrary", "refuseWhenCut", "()V"⟩ : MethodName) (x_ws (⟨"ContentLibrary", "refuseWhenCut", "()V"⟩ : MethodName) prog_1_method_18_code 1 none) rx_X_refuseWhenCut (va_Pc [.ref (x_ad G 0)] (x_PW G z0)) E zo 1 6 := by
  refine e_ofW (cc := prog_1_method_18_code) (maxL := 1) (ret := none) (by decide) rfl ?_
  intro p e s m args below meth c s₁ B hml hEx hv
  obtain ⟨rfl, hz, hP, hD, hK, hG⟩ := hv
  have C0 : x_Ctx G p s m _ meth c prog_1_method_18_code "ContentLibrary" 1 none := ⟨B.exec, B.bytes, B.returns, hml, findClass_of_methodNamed B.named, fun w h => atoms_spec (ws := (x_ws (⟨"ContentLibrary", "refuseWhenCut", "()V"⟩ : MethodName) prog_1_method_18_code 1 none)) B.pre w (List.mem_cons_of_mem _ h), B.notSynchronized, hz, hK, hG⟩
  obtain ⟨hx, hb, hr, hml, hown, hts, hlocks, hz, hK, hG⟩ := id C0
  have hS : va_S (x_A G) s.heap s.heap [] := va_S.rf
  have hl := lv_entry ([.ref (x_ad G 0)]) (n := 1) (Nat.le_of_ble_eq_true rfl)
  rw [lg_entry_eq]
  generalize (lg_sl ([.ref (x_ad G 0)]) ++ List.replicate (1 - (lg_sl ([.ref (x_ad G 0)])).length) Slot.unset).toArray = ls at hl ⊢
  have hl : lv_has ls 1 [(0, .ref (x_ad G 0))] := hl
  rw [f_X_refuseWhenCut] at hf
  refine lv_aload_n hx hb d_X_refuseWhenCut_0 rfl (lv_at hl 0 rfl) ?_
  refine va_get (D := x_D G) (ci := 0) (v := .ref (x_ad G 1)) (C := "ContentLibrary") (T := x_TX) (N := 9) hx hb hts x_inX hown hK hP 0 (x_lk_X G _) rfl 0 (by decide) (hts _ t_130) (fun _ h9 => h9) rfl d_X_refuseWhenCut_1 ?_
  refine va_get (D := x_D G) (ci := 1) (v := .int (z0.1 1 2)) (C := "ContentLibrary$Blocks") (T := x_TB) (N := 5) hx hb hts x_inB hown hK hP 1 (x_lk_B G _) rfl 2 (by decide) (hts _ t_44) (fun _ h9 => h9) rfl d_X_refuseWhenCut_4 ?_
  refine lv_if_eq (tgt := 20) hx hb d_X_refuseWhenCut_7 (by decide) (fun hc1 => ?_) (fun hc1 => ?_)
  · have hf := x_br_t hf hc1
    exact absurd hf x_no_x
  · have hf := x_br_f hf hc1
    obtain ⟨rfl, rfl⟩ := x_retx hf
    exact e_throw (text := "the library is cut") (is := 253) hx hb hl9 hown (by decide +kernel) (by decide) (by decide +kernel) hts t_339 t_11 at_255_IllegalStateException hG hS (hl.1.trans hml.symm) d_X_refuseWhenCut_10 d_X_refuseWhenCut_13 d_X_refuseWhenCut_14 d_X_refuseWhenCut_16 d_X_refuseWhenCut_19 hEx (Nat.le_of_ble_eq_true rfl) (Nat.le_of_ble_eq_true rfl) (Nat.le_of_ble_eq_true rfl) (Nat.le_of_ble_eq_true rfl) hlocks (fun t hW hsz hk => x_pwk hP hD hK hG hS hz hsz hk hW) (Nat.le_of_ble_eq_true rfl) (Nat.le_of_ble_eq_true rfl)
abbrev rm_X_refuseUnlessByte : Room := { frames := 6, cells := 0, slots := 0, locals := 82 }
abbrev rx_X_refuseUnlessByte : Room := { frames := 6, cells := 1, slots := 6, locals := 82 }
set_option maxHeartbeats 4000000 in
set_option maxRecDepth 100000 in
theorem c_X_refuseUnlessByte (l : Launch) (G : x_G) (p1 : Int32) (p2 : Int32) (z0 : x_St) (r : Unit) (zo : x_St) (hf : f_X_refuseUnlessByte (x_n G) p1 p2 z0 = some (Sum.inr r, zo)) : Met l (⟨"ContentLibrary", "refuseUnlessByte", "(II)V"⟩ : MethodName) (x_ws (⟨"ContentLibrary", "refuseUnlessByte", "(II)V"⟩ : MethodName) prog_1_method_19_code 3 none) rm_X_refuseUnlessByte (va_Pc [.ref (x_ad G 0), .int p1, .int p2] (x_PW G z0)) (va_Qv (fun u => r = () ∧ zo = u) (x_PW G) (x_A G)) 0 0 (x_A G) := by
  refine Met.ofW (cc := prog_1_method_19_code) (maxL := 3) (ret := none) (by decide) rfl ?_
  intro p e s m args below meth c s₁ B hml hv
  obtain ⟨rfl, hz, hP, hD, hK, hG⟩ := hv
  have C0 : x_Ctx G p s m _ meth c prog_1_method_19_code "ContentLibrary" 3 none := ⟨B.exec, B.bytes, B.returns, hml, findClass_of_methodNamed B.named, fun w h => atoms_spec (ws := (x_ws (⟨"ContentLibrary", "refuseUnlessByte", "(II)V"⟩ : MethodName) prog_1_method_19_code 3 none)) B.pre w (List.mem_cons_of_mem _ h), B.notSynchronized, hz, hK, hG⟩
  obtain ⟨hx, hb, hr, hml, hown, hts, hlocks, hz, hK, hG⟩ := id C0
  have hS : va_S (x_A G) s.heap s.heap [] := va_S.rf
  have hl := lv_entry ([.ref (x_ad G 0), .int p1, .int p2]) (n := 3) (Nat.le_of_ble_eq_true rfl)
  rw [lg_entry_eq]
  generalize (lg_sl ([.ref (x_ad G 0), .int p1, .int p2]) ++ List.replicate (3 - (lg_sl ([.ref (x_ad G 0), .int p1, .int p2])).length) Slot.unset).toArray = ls at hl ⊢
  have hl : lv_has ls 3 [(0, .ref (x_ad G 0)), (1, .int p1), (2, .int p2)] := hl
  rw [f_X_refuseUnlessByte] at hf
  refine lv_iload_n hx hb d_X_refuseUnlessByte_0 rfl (lv_at hl 1 rfl) ?_
  refine lv_if_lt (tgt := 25) hx hb d_X_refuseUnlessByte_1 (by decide) (fun hc1 => ?_) (fun hc1 => ?_)
  · have hf := x_br_t hf hc1
    exact absurd hf x_no_r
  · have hf := x_br_f hf hc1
    refine lv_iload_n hx hb d_X_refuseUnlessByte_4 rfl (lv_at hl 1 rfl) ?_
    refine lv_aload_n hx hb d_X_refuseUnlessByte_5 rfl (lv_at hl 0 rfl) ?_
    refine va_get (D := x_D G) (ci := 0) (v := .ref (x_ad G 1)) (C := "ContentLibrary") (T := x_TX) (N := 9) hx hb hts x_inX hown hK hP 0 (x_lk_X G _) rfl 0 (by decide) (hts _ t_130) (fun _ h9 => h9) rfl d_X_refuseUnlessByte_6 ?_
    refine va_get (D := x_D G) (ci := 1) (v := .int (z0.1 1 0)) (C := "ContentLibrary$Blocks") (T := x_TB) (N := 5) hx hb hts x_inB hown hK hP 1 (x_lk_B G _) rfl 0 (by decide) (hts _ t_40) (fun _ h9 => h9) rfl d_X_refuseUnlessByte_9 ?_
    refine lv_icmp_ge (tgt := 25) hx hb d_X_refuseUnlessByte_12 (by decide) (fun hc2 => ?_) (fun hc2 => ?_)
    · have hf := x_br_t hf hc2
      exact absurd hf x_no_r
    · have hf := x_br_f hf hc2
      refine lv_iload_n hx hb d_X_refuseUnlessByte_15 rfl (lv_at hl 2 rfl) ?_
      refine lv_if_lt (tgt := 25) hx hb d_X_refuseUnlessByte_16 (by decide) (fun hc3 => ?_) (fun hc3 => ?_)
      · have hf := x_br_t hf hc3
        exact absurd hf x_no_r
      · have hf := x_br_f hf hc3
        refine lv_iload_n hx hb d_X_refuseUnlessByte_19 rfl (lv_at hl 2 rfl) ?_
        refine lv_bipush (v := (64 : Int32)) hx hb d_X_refuseUnlessByte_20 (by decide) ?_
        refine lv_icmp_lt (tgt := 36) hx hb d_X_refuseUnlessByte_22 (by decide) (fun hc4 => ?_) (fun hc4 => ?_)
        · have hf := x_br_t hf hc4
          obtain ⟨rfl, rfl⟩ := x_retr hf
          exact W.vret hx hb hr (fun t ht hW => ⟨⟨_, rfl, ⟨rfl, rfl⟩, x_pw hP hD hK hG hS hz ht hW⟩, hS.F ht⟩) hS.2.2 d_X_refuseUnlessByte_36
        · have hf := x_br_f hf hc4
          exact absurd hf x_no_r
set_option maxHeartbeats 4000000 in
set_option maxRecDepth 100000 in
theorem c_X_refuseUnlessByte_x (l : Launch) (G : x_G) (hl9 : l.stackTraces = false) (p1 : Int32) (p2 : Int32) (z0 : x_St) (E : String) (zo : x_St) (hf : f_X_refuseUnlessByte (x_n G) p1 p2 z0 = some (Sum.inl E, zo)) : e_Met l G (⟨"ContentLibrary", "refuseUnlessByte", "(II)V"⟩ : MethodName) (x_ws (⟨"ContentLibrary", "refuseUnlessByte", "(II)V"⟩ : MethodName) prog_1_method_19_code 3 none) rx_X_refuseUnlessByte (va_Pc [.ref (x_ad G 0), .int p1, .int p2] (x_PW G z0)) E zo 1 6 := by
  refine e_ofW (cc := prog_1_method_19_code) (maxL := 3) (ret := none) (by decide) rfl ?_
  intro p e s m args below meth c s₁ B hml hEx hv
  obtain ⟨rfl, hz, hP, hD, hK, hG⟩ := hv
  have C0 : x_Ctx G p s m _ meth c prog_1_method_19_code "ContentLibrary" 3 none := ⟨B.exec, B.bytes, B.returns, hml, findClass_of_methodNamed B.named, fun w h => atoms_spec (ws := (x_ws (⟨"ContentLibrary", "refuseUnlessByte", "(II)V"⟩ : MethodName) prog_1_method_19_code 3 none)) B.pre w (List.mem_cons_of_mem _ h), B.notSynchronized, hz, hK, hG⟩
  obtain ⟨hx, hb, hr, hml, hown, hts, hlocks, hz, hK, hG⟩ := id C0
  have hS : va_S (x_A G) s.heap s.heap [] := va_S.rf
  have hl := lv_entry ([.ref (x_ad G 0), .int p1, .int p2]) (n := 3) (Nat.le_of_ble_eq_true rfl)
  rw [lg_entry_eq]
  generalize (lg_sl ([.ref (x_ad G 0), .int p1, .int p2]) ++ List.replicate (3 - (lg_sl ([.ref (x_ad G 0), .int p1, .int p2])).length) Slot.unset).toArray = ls at hl ⊢
  have hl : lv_has ls 3 [(0, .ref (x_ad G 0)), (1, .int p1), (2, .int p2)] := hl
  rw [f_X_refuseUnlessByte] at hf
  refine lv_iload_n hx hb d_X_refuseUnlessByte_0 rfl (lv_at hl 1 rfl) ?_
  refine lv_if_lt (tgt := 25) hx hb d_X_refuseUnlessByte_1 (by decide) (fun hc1 => ?_) (fun hc1 => ?_)
  · have hf := x_br_t hf hc1
    obtain ⟨rfl, rfl⟩ := x_retx hf
    exact e_throwW (text := "no such byte of a block") (is := 256) hx hb hl9 hown (by decide +kernel) (by decide) (by decide +kernel) hts t_457 t_14 at_149_IndexOutOfBoundsException hG hS (hl.1.trans hml.symm) d_X_refuseUnlessByte_25 d_X_refuseUnlessByte_28 d_X_refuseUnlessByte_29 d_X_refuseUnlessByte_32 d_X_refuseUnlessByte_35 hEx (Nat.le_of_ble_eq_true rfl) (Nat.le_of_ble_eq_true rfl) (Nat.le_of_ble_eq_true rfl) (Nat.le_of_ble_eq_true rfl) hlocks (fun t hW hsz hk => x_pwk hP hD hK hG hS hz hsz hk hW) (Nat.le_of_ble_eq_true rfl) (Nat.le_of_ble_eq_true rfl)
  · have hf := x_br_f hf hc1
    refine lv_iload_n hx hb d_X_refuseUnlessByte_4 rfl (lv_at hl 1 rfl) ?_
    refine lv_aload_n hx hb d_X_refuseUnlessByte_5 rfl (lv_at hl 0 rfl) ?_
    refine va_get (D := x_D G) (ci := 0) (v := .ref (x_ad G 1)) (C := "ContentLibrary") (T := x_TX) (N := 9) hx hb hts x_inX hown hK hP 0 (x_lk_X G _) rfl 0 (by decide) (hts _ t_130) (fun _ h9 => h9) rfl d_X_refuseUnlessByte_6 ?_
    refine va_get (D := x_D G) (ci := 1) (v := .int (z0.1 1 0)) (C := "ContentLibrary$Blocks") (T := x_TB) (N := 5) hx hb hts x_inB hown hK hP 1 (x_lk_B G _) rfl 0 (by decide) (hts _ t_40) (fun _ h9 => h9) rfl d_X_refuseUnlessByte_9 ?_
    refine lv_icmp_ge (tgt := 25) hx hb d_X_refuseUnlessByte_12 (by decide) (fun hc2 => ?_) (fun hc2 => ?_)
    · have hf := x_br_t hf hc2
      obtain ⟨rfl, rfl⟩ := x_retx hf
      exact e_throwW (text := "no such byte of a block") (is := 256) hx hb hl9 hown (by decide +kernel) (by decide) (by decide +kernel) hts t_457 t_14 at_149_IndexOutOfBoundsException hG hS (hl.1.trans hml.symm) d_X_refuseUnlessByte_25 d_X_refuseUnlessByte_28 d_X_refuseUnlessByte_29 d_X_refuseUnlessByte_32 d_X_refuseUnlessByte_35 hEx (Nat.le_of_ble_eq_true rfl) (Nat.le_of_ble_eq_true rfl) (Nat.le_of_ble_eq_true rfl) (Nat.le_of_ble_eq_true rfl) hlocks (fun t hW hsz hk => x_pwk hP hD hK hG hS hz hsz hk hW) (Nat.le_of_ble_eq_true rfl) (Nat.le_of_ble_eq_true rfl)
    · have hf := x_br_f hf hc2
      refine lv_iload_n hx hb d_X_refuseUnlessByte_15 rfl (lv_at hl 2 rfl) ?_
      refine lv_if_lt (tgt := 25) hx hb d_X_refuseUnlessByte_16 (by decide) (fun hc3 => ?_) (fun hc3 => ?_)
      · have hf := x_br_t hf hc3
        obtain ⟨rfl, rfl⟩ := x_retx hf
        exact e_throwW (text := "no such byte of a block") (is := 256) hx hb hl9 hown (by decide +kernel) (by decide) (by decide +kernel) hts t_457 t_14 at_149_IndexOutOfBoundsException hG hS (hl.1.trans hml.symm) d_X_refuseUnlessByte_25 d_X_refuseUnlessByte_28 d_X_refuseUnlessByte_29 d_X_refuseUnlessByte_32 d_X_refuseUnlessByte_35 hEx (Nat.le_of_ble_eq_true rfl) (Nat.le_of_ble_eq_true rfl) (Nat.le_of_ble_eq_true rfl) (Nat.le_of_ble_eq_true rfl) hlocks (fun t hW hsz hk => x_pwk hP hD hK hG hS hz hsz hk hW) (Nat.le_of_ble_eq_true rfl) (Nat.le_of_ble_eq_true rfl)
      · have hf := x_br_f hf hc3
        refine lv_iload_n hx hb d_X_refuseUnlessByte_19 rfl (lv_at hl 2 rfl) ?_
        refine lv_bipush (v := (64 : Int32)) hx hb d_X_refuseUnlessByte_20 (by decide) ?_
        refine lv_icmp_lt (tgt := 36) hx hb d_X_refuseUnlessByte_22 (by decide) (fun hc4 => ?_) (fun hc4 => ?_)
        · have hf := x_br_t hf hc4
          exact absurd hf x_no_x
        · have hf := x_br_f hf hc4
          obtain ⟨rfl, rfl⟩ := x_retx hf
          exact e_throwW (text := "no such byte of a block") (is := 256) hx hb hl9 hown (by decide +kernel) (by decide) (by decide +kernel) hts t_457 t_14 at_149_IndexOutOfBoundsException hG hS (hl.1.trans hml.symm) d_X_refuseUnlessByte_25 d_X_refuseUnlessByte_28 d_X_refuseUnlessByte_29 d_X_refuseUnlessByte_32 d_X_refuseUnlessByte_35 hEx (Nat.le_of_ble_eq_true rfl) (Nat.le_of_ble_eq_true rfl) (Nat.le_of_ble_eq_true rfl) (Nat.le_of_ble_eq_true rfl) hlocks (fun t hW hsz hk => x_pwk hP hD hK hG hS hz hsz hk hW) (Nat.le_of_ble_eq_true rfl) (Nat.le_of_ble_eq_true rfl)
abbrev rm_X_refuseUnlessWhole : Room := { frames := 6, cells := 0, slots := 0, locals := 82 }
abbrev rx_X_refuseUnlessWhole : Room := { frames := 6, cells := 1, slots := 6, locals := 82 }
set_option maxHeartbeats 4000000 in
set_option maxRecDepth 100000 in
theorem c_X_refuseUnlessWhole (l : Launch) (G : x_G) (k1 : Nat) (hk1 : x_isP k1 = true) (z0 : x_St) (r : Unit) (zo : x_St) (hf : f_X_refuseUnlessWhole (x_n G) k1 z0 = some (Sum.inr r, zo)) : Met l (⟨"ContentLibrary", "refuseUnlessWhole", "(LContentLibrary$Picture;)V"⟩ : MethodName) (x_ws (⟨"ContentLibrary", "refuseUnlessWhole", "(LContentLibrary$Picture;)V"⟩ : MethodName) prog_1_method_20_code 1 none) rm_X_refuseUnlessWhole (va_Pc [.ref (x_ad G k1)] (x_PW G z0)) (va_Qv (fun u => r = () ∧ zo = u) (x_PW G) (x_A G)) 0 0 (x_A G) := by
  refine Met.ofW (cc := prog_1_method_20_code) (maxL := 1) (ret := none) (by decide) rfl ?_
  intro p e s m args below meth c s₁ B hml hv
  obtain ⟨rfl, hz, hP, hD, hK, hG⟩ := hv
  have C0 : x_Ctx G p s m _ meth c prog_1_method_20_code "ContentLibrary" 1 none := ⟨B.exec, B.bytes, B.returns, hml, findClass_of_methodNamed B.named, fun w h => atoms_spec (ws := (x_ws (⟨"ContentLibrary", "refuseUnlessWhole", "(LContentLibrary$Picture;)V"⟩ : MethodName) prog_1_method_20_code 1 none)) B.pre w (List.mem_cons_of_mem _ h), B.notSynchronized, hz, hK, hG⟩
  obtain ⟨hx, hb, hr, hml, hown, hts, hlocks, hz, hK, hG⟩ := id C0
  have hS : va_S (x_A G) s.heap s.heap [] := va_S.rf
  have hl := lv_entry ([.ref (x_ad G k1)]) (n := 1) (Nat.le_of_ble_eq_true rfl)
  rw [lg_entry_eq]
  generalize (lg_sl ([.ref (x_ad G k1)]) ++ List.replicate (1 - (lg_sl ([.ref (x_ad G k1)])).length) Slot.unset).toArray = ls at hl ⊢
  have hl : lv_has ls 1 [(0, .ref (x_ad G k1))] := hl
  rw [f_X_refuseUnlessWhole] at hf
  refine lv_aload_n hx hb d_X_refuseUnlessWhole_0 rfl (lv_at hl 0 rfl) ?_
  obtain ⟨r1, z1, hq2, hf⟩ := x_cl_some hf
  refine va_calli (va_runV (As := []) (rest := []) ⟨hx, hb, hml, hown, hts⟩ (c_P_isWhole l G k1 hk1 z0 r1 z1 hq2) (cwV 0 hts (x_gV t_489 t_231 t_232 t_4 t_233) rfl rfl rfl (by decide +kernel) ⟨Nat.le_of_ble_eq_true rfl, Nat.le_of_ble_eq_true rfl⟩) ⟨x_blind _ _ _, va_recv hK hP (ci := 2) (q0 := k1) rfl (x_lk_P G _ hk1), fun U hU hW => ⟨rfl, x_pw hP hD hK hG hS hz hU hW⟩⟩ rfl rfl hl.1 rfl (lv_room (Nat.le_of_ble_eq_true rfl)) d_X_refuseUnlessWhole_1 ⟨Nat.le_of_ble_eq_true rfl, Nat.le_of_ble_eq_true rfl⟩) hS (fun q _ h => h) (fun q h => h) (fun ra u t H locs ht hvm hw hB _ _ hS => ?_)
  obtain ⟨rfl, rfl⟩ := hw
  obtain ⟨hP, hD⟩ := x_back hB ht
  refine lv_if_ne (tgt := 18) hx hb d_X_refuseUnlessWhole_4 (by decide) (fun hc3 => ?_) (fun hc3 => ?_)
  · have hf := x_br_f hf hc3
    obtain ⟨rfl, rfl⟩ := x_retr hf
    exact W.vret hx hb hr (fun t ht hW => ⟨⟨_, rfl, ⟨rfl, rfl⟩, x_pw hP hD hK hG hS hz ht hW⟩, hS.F ht⟩) hS.2.2 d_X_refuseUnlessWhole_18
  · have hf := x_br_t hf hc3
    exact absurd hf x_no_r
set_option maxHeartbeats 4000000 in
set_option maxRecDepth 100000 in
theorem c_X_refuseUnlessWhole_x (l : Launch) (G : x_G) (hl9 : l.stackTraces = false) (k1 : Nat) (hk1 : x_isP k1 = true) (z0 : x_St) (E : String) (zo : x_St) (hf : f_X_refuseUnlessWhole (x_n G) k1 z0 = some (Sum.inl E, zo)) : e_Met l G (⟨"ContentLibrary", "refuseUnlessWhole", "(LContentLibrary$Picture;)V"⟩ : MethodName) (x_ws (⟨"ContentLibrary", "refuseUnlessWhole", "(LContentLibrary$Picture;)V"⟩ : MethodName) prog_1_method_20_code 1 none) rx_X_refuseUnlessWhole (va_Pc [.ref (x_ad G k1)] (x_PW G z0)) E zo 1 6 := by
  refine e_ofW (cc := prog_1_method_20_code) (maxL := 1) (ret := none) (by decide) rfl ?_
  intro p e s m args below meth c s₁ B hml hEx hv
  obtain ⟨rfl, hz, hP, hD, hK, hG⟩ := hv
  have C0 : x_Ctx G p s m _ meth c prog_1_method_20_code "ContentLibrary" 1 none := ⟨B.exec, B.bytes, B.returns, hml, findClass_of_methodNamed B.named, fun w h => atoms_spec (ws := (x_ws (⟨"ContentLibrary", "refuseUnlessWhole", "(LContentLibrary$Picture;)V"⟩ : MethodName) prog_1_method_20_code 1 none)) B.pre w (List.mem_cons_of_mem _ h), B.notSynchronized, hz, hK, hG⟩
  obtain ⟨hx, hb, hr, hml, hown, hts, hlocks, hz, hK, hG⟩ := id C0
  have hS : va_S (x_A G) s.heap s.heap [] := va_S.rf
  have hl := lv_entry ([.ref (x_ad G k1)]) (n := 1) (Nat.le_of_ble_eq_true rfl)
  rw [lg_entry_eq]
  generalize (lg_sl ([.ref (x_ad G k1)]) ++ List.replicate (1 - (lg_sl ([.ref (x_ad G k1)])).length) Slot.unset).toArray = ls at hl ⊢
  have hl : lv_has ls 1 [(0, .ref (x_ad G k1))] := hl
  rw [f_X_refuseUnlessWhole] at hf
  refine lv_aload_n hx hb d_X_refuseUnlessWhole_0 rfl (lv_at hl 0 rfl) ?_
  obtain ⟨r1, z1, hq2, hf⟩ := x_cl_some hf
  refine va_calli (va_runV (As := []) (rest := []) ⟨hx, hb, hml, hown, hts⟩ (c_P_isWhole l G k1 hk1 z0 r1 z1 hq2) (cwV 0 hts (x_gV t_489 t_231 t_232 t_4 t_233) rfl rfl rfl (by decide +kernel) ⟨Nat.le_of_ble_eq_true rfl, Nat.le_of_ble_eq_true rfl⟩) ⟨x_blind _ _ _, va_recv hK hP (ci := 2) (q0 := k1) rfl (x_lk_P G _ hk1), fun U hU hW => ⟨rfl, x_pw hP hD hK hG hS hz hU hW⟩⟩ rfl rfl hl.1 rfl (lv_room (Nat.le_of_ble_eq_true rfl)) d_X_refuseUnlessWhole_1 ⟨Nat.le_of_ble_eq_true rfl, Nat.le_of_ble_eq_true rfl⟩) hS (fun q _ h => h) (fun q h => h) (fun ra u t H locs ht hvm hw hB _ _ hS => ?_)
  obtain ⟨rfl, rfl⟩ := hw
  obtain ⟨hP, hD⟩ := x_back hB ht
  refine lv_if_ne (tgt := 18) hx hb d_X_refuseUnlessWhole_4 (by decide) (fun hc3 => ?_) (fun hc3 => ?_)
  · have hf := x_br_f hf hc3
    exact absurd hf x_no_x
  · have hf := x_br_t hf hc3
    obtain ⟨rfl, rfl⟩ := x_retx hf
    exact e_throwW (text := "the picture is not whole") (is := 262) hx hb hl9 hown (by decide +kernel) (by decide) (by decide +kernel) hts t_409 t_12 at_77_IllegalArgumentException hG hS (hl.1.trans hml.symm) d_X_refuseUnlessWhole_7 d_X_refuseUnlessWhole_10 d_X_refuseUnlessWhole_11 d_X_refuseUnlessWhole_14 d_X_refuseUnlessWhole_17 hEx (Nat.le_of_ble_eq_true rfl) (Nat.le_of_ble_eq_true rfl) (Nat.le_of_ble_eq_true rfl) (Nat.le_of_ble_eq_true rfl) hlocks (fun t hW hsz hk => x_pwk hP hD hK hG hS hz hsz hk hW) (Nat.le_of_ble_eq_true rfl) (Nat.le_of_ble_eq_true rfl)
abbrev rm_X_pictureBeingMade : Room := { frames := 6, cells := 0, slots := 0, locals := 82 }
abbrev rx_X_pictureBeingMade : Room := { frames := 6, cells := 1, slots := 6, locals := 82 }
set_option maxHeartbeats 4000000 in
set_option maxRecDepth 100000 in
theorem c_X_pictureBeingMade (l : Launch) (G : x_G) (p1 : Int32) (z0 : x_St) (r : Nat) (zo : x_St) (hf : f_X_pictureBeingMade (x_n G) p1 z0 = some (Sum.inr r, zo)) : Met l (⟨"ContentLibrary", "pictureBeingMade", "(I)LContentLibrary$Picture;"⟩ : MethodName) (x_ws (⟨"ContentLibrary", "pictureBeingMade", "(I)LContentLibrary$Picture;"⟩ : MethodName) prog_1_method_21_code 2 (some (.object "ContentLibrary$Picture"))) rm_X_pictureBeingMade (va_Pc [.ref (x_ad G 0), .int p1] (x_PW G z0)) (va_Qr (fun u => zo = u) (fun u a t => ∃ k, r = k ∧ x_isP k = true ∧ a = x_ad G k ∧ x_PW G u t) (x_A G)) 0 0 (x_A G) := by
  refine Met.ofW (cc := prog_1_method_21_code) (maxL := 2) (ret := (some (.object "ContentLibrary$Picture"))) (by decide) rfl ?_
  intro p e s m args below meth c s₁ B hml hv
  obtain ⟨rfl, hz, hP, hD, hK, hG⟩ := hv
  have C0 : x_Ctx G p s m _ meth c prog_1_method_21_code "ContentLibrary" 2 (some (.object "ContentLibrary$Picture")) := ⟨B.exec, B.bytes, B.returns, hml, findClass_of_methodNamed B.named, fun w h => atoms_spec (ws := (x_ws (⟨"ContentLibrary", "pictureBeingMade", "(I)LContentLibrary$Picture;"⟩ : MethodName) prog_1_method_21_code 2 (some (.object "ContentLibrary$Picture")))) B.pre w (List.mem_cons_of_mem _ h), B.notSynchronized, hz, hK, hG⟩
  obtain ⟨hx, hb, hr, hml, hown, hts, hlocks, hz, hK, hG⟩ := id C0
  have hS : va_S (x_A G) s.heap s.heap [] := va_S.rf
  have hl := lv_entry ([.ref (x_ad G 0), .int p1]) (n := 2) (Nat.le_of_ble_eq_true rfl)
  rw [lg_entry_eq]
  generalize (lg_sl ([.ref (x_ad G 0), .int p1]) ++ List.replicate (2 - (lg_sl ([.ref (x_ad G 0), .int p1])).length) Slot.unset).toArray = ls at hl ⊢
  have hl : lv_has ls 2 [(0, .ref (x_ad G 0)), (1, .int p1)] := hl
  rw [f_X_pictureBeingMade] at hf
  refine lv_iload_n hx hb d_X_pictureBeingMade_0 rfl (lv_at hl 1 rfl) ?_
  refine lv_if_lt (tgt := 22) hx hb d_X_pictureBeingMade_1 (by decide) (fun hc1 => ?_) (fun hc1 => ?_)
  · have hf := x_br_t hf hc1
    exact absurd hf x_no_r
  · have hf := x_br_f hf hc1
    refine lv_iload_n hx hb d_X_pictureBeingMade_4 rfl (lv_at hl 1 rfl) ?_
    refine lv_bipush (v := (8 : Int32)) hx hb d_X_pictureBeingMade_5 (by decide) ?_
    refine lv_icmp_ge (tgt := 22) hx hb d_X_pictureBeingMade_7 (by decide) (fun hc2 => ?_) (fun hc2 => ?_)
    · have hf := x_br_t hf hc2
      exact absurd hf x_no_r
    · have hf := x_br_f hf hc2
      refine lv_aload_n hx hb d_X_pictureBeingMade_10 rfl (lv_at hl 0 rfl) ?_
      refine va_get (D := x_D G) (ci := 0) (v := .ref (x_ad G 5)) (C := "ContentLibrary") (T := x_TX) (N := 9) hx hb hts x_inX hown hK hP 0 (x_lk_X G _) rfl 2 (by decide) (hts _ t_132) (fun _ h9 => h9) rfl d_X_pictureBeingMade_11 ?_
      refine lv_iload_n hx hb d_X_pictureBeingMade_14 rfl (lv_at hl 1 rfl) ?_
      obtain ⟨hin3, hf⟩ := x_ck_some hf
      refine va_aldq hx hb hK hP 5 2 (x_lk_made G _) rfl hin3 d_X_pictureBeingMade_15 ?_
      refine W.eq (g2 := F0 m 16 ls [.ref (x_ad G (6 + 2 * (p1).toNatClampNeg))]) rfl ?_
      refine va_get (D := x_D G) (ci := 2) (v := .int (z0.1 (6 + 2 * (p1).toNatClampNeg) 0)) (C := "ContentLibrary$Picture") (T := x_TP) (N := 3) hx hb hts x_inP hown hK hP (6 + 2 * (p1).toNatClampNeg) (x_lk_P G _ (x_el_P hin3)) rfl 0 (by decide) (hts _ t_67) (fun _ h9 => h9) rfl d_X_pictureBeingMade_16 ?_
      refine lv_if_ne (tgt := 33) hx hb d_X_pictureBeingMade_19 (by decide) (fun hc4 => ?_) (fun hc4 => ?_)
      · have hf := x_br_f hf hc4
        refine lv_aload_n hx hb d_X_pictureBeingMade_33 rfl (lv_at hl 0 rfl) ?_
        refine va_get (D := x_D G) (ci := 0) (v := .ref (x_ad G 5)) (C := "ContentLibrary") (T := x_TX) (N := 9) hx hb hts x_inX hown hK hP 0 (x_lk_X G _) rfl 2 (by decide) (hts _ t_132) (fun _ h9 => h9) rfl d_X_pictureBeingMade_34 ?_
        refine lv_iload_n hx hb d_X_pictureBeingMade_37 rfl (lv_at hl 1 rfl) ?_
        obtain ⟨hin5, hf⟩ := x_ck_some hf
        refine va_aldq hx hb hK hP 5 2 (x_lk_made G _) rfl hin5 d_X_pictureBeingMade_38 ?_
        refine W.eq (g2 := F0 m 39 ls [.ref (x_ad G (6 + 2 * (p1).toNatClampNeg))]) rfl ?_
        obtain ⟨rfl, rfl⟩ := x_retr hf
        exact W.aret (v := .ref (x_ad G (6 + 2 * (p1).toNatClampNeg))) hx hb hr (Or.inl ⟨_, rfl⟩) (Or.inr ⟨_, rfl⟩) (fun t ht hW => ⟨⟨_, _, rfl, rfl, _, rfl, (x_el_P hin5), rfl, x_pw hP hD hK hG hS hz ht hW⟩, hS.F ht⟩) hS.2.2 d_X_pictureBeingMade_39
      · have hf := x_br_t hf hc4
        exact absurd hf x_no_r
set_option maxHeartbeats 4000000 in
set_option maxRecDepth 100000 in
theorem c_X_pictureBeingMade_x (l : Launch) (G : x_G) (hl9 : l.stackTraces = false) (p1 : Int32) (z0 : x_St) (E : String) (zo : x_St) (hf : f_X_pictureBeingMade (x_n G) p1 z0 = some (Sum.inl E, zo)) : e_Met l G (⟨"ContentLibrary", "pictureBeingMade", "(I)LContentLibrary$Picture;"⟩ : MethodName) (x_ws (⟨"ContentLibrary", "pictureBeingMade", "(I)LContentLibrary$Picture;"⟩ : MethodName) prog_1_method_21_code 2 (some (.object "ContentLibrary$Picture"))) rx_X_pictureBeingMade (va_Pc [.ref (x_ad G 0), .int p1] (x_PW G z0)) E zo 1 6 := by
  refine e_ofW (cc := prog_1_method_21_code) (maxL := 2) (ret := (some (.object "ContentLibrary$Picture"))) (by decide) rfl ?_
  intro p e s m args below meth c s₁ B hml hEx hv
  obtain ⟨rfl, hz, hP, hD, hK, hG⟩ := hv
  have C0 : x_Ctx G p s m _ meth c prog_1_method_21_code "ContentLibrary" 2 (some (.object "ContentLibrary$Picture")) := ⟨B.exec, B.bytes, B.returns, hml, findClass_of_methodNamed B.named, fun w h => atoms_spec (ws := (x_ws (⟨"ContentLibrary", "pictureBeingMade", "(I)LContentLibrary$Picture;"⟩ : MethodName) prog_1_method_21_code 2 (some (.object "ContentLibrary$Picture")))) B.pre w (List.mem_cons_of_mem _ h), B.notSynchronized, hz, hK, hG⟩
  obtain ⟨hx, hb, hr, hml, hown, hts, hlocks, hz, hK, hG⟩ := id C0
  have hS : va_S (x_A G) s.heap s.heap [] := va_S.rf
  have hl := lv_entry ([.ref (x_ad G 0), .int p1]) (n := 2) (Nat.le_of_ble_eq_true rfl)
  rw [lg_entry_eq]
  generalize (lg_sl ([.ref (x_ad G 0), .int p1]) ++ List.replicate (2 - (lg_sl ([.ref (x_ad G 0), .int p1])).length) Slot.unset).toArray = ls at hl ⊢
  have hl : lv_has ls 2 [(0, .ref (x_ad G 0)), (1, .int p1)] := hl
  rw [f_X_pictureBeingMade] at hf
  refine lv_iload_n hx hb d_X_pictureBeingMade_0 rfl (lv_at hl 1 rfl) ?_
  refine lv_if_lt (tgt := 22) hx hb d_X_pictureBeingMade_1 (by decide) (fun hc1 => ?_) (fun hc1 => ?_)
  · have hf := x_br_t hf hc1
    obtain ⟨rfl, rfl⟩ := x_retx hf
    exact e_throwW (text := "no such picture is being made") (is := 264) hx hb hl9 hown (by decide +kernel) (by decide) (by decide +kernel) hts t_457 t_14 at_149_IndexOutOfBoundsException hG hS (hl.1.trans hml.symm) d_X_pictureBeingMade_22 d_X_pictureBeingMade_25 d_X_pictureBeingMade_26 d_X_pictureBeingMade_29 d_X_pictureBeingMade_32 hEx (Nat.le_of_ble_eq_true rfl) (Nat.le_of_ble_eq_true rfl) (Nat.le_of_ble_eq_true rfl) (Nat.le_of_ble_eq_true rfl) hlocks (fun t hW hsz hk => x_pwk hP hD hK hG hS hz hsz hk hW) (Nat.le_of_ble_eq_true rfl) (Nat.le_of_ble_eq_true rfl)
  · have hf := x_br_f hf hc1
    refine lv_iload_n hx hb d_X_pictureBeingMade_4 rfl (lv_at hl 1 rfl) ?_
    refine lv_bipush (v := (8 : Int32)) hx hb d_X_pictureBeingMade_5 (by decide) ?_
    refine lv_icmp_ge (tgt := 22) hx hb d_X_pictureBeingMade_7 (by decide) (fun hc2 => ?_) (fun hc2 => ?_)
    · have hf := x_br_t hf hc2
      obtain ⟨rfl, rfl⟩ := x_retx hf
      exact e_throwW (text := "no such picture is being made") (is := 264) hx hb hl9 hown (by decide +kernel) (by decide) (by decide +kernel) hts t_457 t_14 at_149_IndexOutOfBoundsException hG hS (hl.1.trans hml.symm) d_X_pictureBeingMade_22 d_X_pictureBeingMade_25 d_X_pictureBeingMade_26 d_X_pictureBeingMade_29 d_X_pictureBeingMade_32 hEx (Nat.le_of_ble_eq_true rfl) (Nat.le_of_ble_eq_true rfl) (Nat.le_of_ble_eq_true rfl) (Nat.le_of_ble_eq_true rfl) hlocks (fun t hW hsz hk => x_pwk hP hD hK hG hS hz hsz hk hW) (Nat.le_of_ble_eq_true rfl) (Nat.le_of_ble_eq_true rfl)
    · have hf := x_br_f hf hc2
      refine lv_aload_n hx hb d_X_pictureBeingMade_10 rfl (lv_at hl 0 rfl) ?_
      refine va_get (D := x_D G) (ci := 0) (v := .ref (x_ad G 5)) (C := "ContentLibrary") (T := x_TX) (N := 9) hx hb hts x_inX hown hK hP 0 (x_lk_X G _) rfl 2 (by decide) (hts _ t_132) (fun _ h9 => h9) rfl d_X_pictureBeingMade_11 ?_
      refine lv_iload_n hx hb d_X_pictureBeingMade_14 rfl (lv_at hl 1 rfl) ?_
      obtain ⟨hin3, hf⟩ := x_ck_some hf
      refine va_aldq hx hb hK hP 5 2 (x_lk_made G _) rfl hin3 d_X_pictureBeingMade_15 ?_
      refine W.eq (g2 := F0 m 16 ls [.ref (x_ad G (6 + 2 * (p1).toNatClampNeg))]) rfl ?_
      refine va_get (D := x_D G) (ci := 2) (v := .int (z0.1 (6 + 2 * (p1).toNatClampNeg) 0)) (C := "ContentLibrary$Picture") (T := x_TP) (N := 3) hx hb hts x_inP hown hK hP (6 + 2 * (p1).toNatClampNeg) (x_lk_P G _ (x_el_P hin3)) rfl 0 (by decide) (hts _ t_67) (fun _ h9 => h9) rfl d_X_pictureBeingMade_16 ?_
      refine lv_if_ne (tgt := 33) hx hb d_X_pictureBeingMade_19 (by decide) (fun hc4 => ?_) (fun hc4 => ?_)
      · have hf := x_br_f hf hc4
        refine lv_aload_n hx hb d_X_pictureBeingMade_33 rfl (lv_at hl 0 rfl) ?_
        refine va_get (D := x_D G) (ci := 0) (v := .ref (x_ad G 5)) (C := "ContentLibrary") (T := x_TX) (N := 9) hx hb hts x_inX hown hK hP 0 (x_lk_X G _) rfl 2 (by decide) (hts _ t_132) (fun _ h9 => h9) rfl d_X_pictureBeingMade_34 ?_
        refine lv_iload_n hx hb d_X_pictureBeingMade_37 rfl (lv_at hl 1 rfl) ?_
        obtain ⟨hin5, hf⟩ := x_ck_some hf
        refine va_aldq hx hb hK hP 5 2 (x_lk_made G _) rfl hin5 d_X_pictureBeingMade_38 ?_
        refine W.eq (g2 := F0 m 39 ls [.ref (x_ad G (6 + 2 * (p1).toNatClampNeg))]) rfl ?_
        exact absurd hf x_no_x
      · have hf := x_br_t hf hc4
        obtain ⟨rfl, rfl⟩ := x_retx hf
        exact e_throwW (text := "no such picture is being made") (is := 264) hx hb hl9 hown (by decide +kernel) (by decide) (by decide +kernel) hts t_457 t_14 at_149_IndexOutOfBoundsException hG hS (hl.1.trans hml.symm) d_X_pictureBeingMade_22 d_X_pictureBeingMade_25 d_X_pictureBeingMade_26 d_X_pictureBeingMade_29 d_X_pictureBeingMade_32 hEx (Nat.le_of_ble_eq_true rfl) (Nat.le_of_ble_eq_true rfl) (Nat.le_of_ble_eq_true rfl) (Nat.le_of_ble_eq_true rfl) hlocks (fun t hW hsz hk => x_pwk hP hD hK hG hS hz hsz hk hW) (Nat.le_of_ble_eq_true rfl) (Nat.le_of_ble_eq_true rfl)
abbrev rm_X_keptAt : Room := { frames := 6, cells := 0, slots := 0, locals := 82 }
abbrev rx_X_keptAt : Room := { frames := 6, cells := 1, slots := 6, locals := 82 }
set_option maxHeartbeats 4000000 in
set_option maxRecDepth 100000 in
theorem c_X_keptAt (l : Launch) (G : x_G) (p1 : Int32) (z0 : x_St) (r : Nat) (zo : x_St) (hf : f_X_keptAt (x_n G) p1 z0 = some (Sum.inr r, zo)) : Met l (⟨"ContentLibrary", "keptAt", "(I)LContentLibrary$Kept;"⟩ : MethodName) (x_ws (⟨"ContentLibrary", "keptAt", "(I)LContentLibrary$Kept;"⟩ : MethodName) prog_1_method_22_code 2 (some (.object "ContentLibrary$Kept"))) rm_X_keptAt (va_Pc [.ref (x_ad G 0), .int p1] (x_PW G z0)) (va_Qr (fun u => zo = u) (fun u a t => ∃ k, r = k ∧ x_isK k = true ∧ a = x_ad G k ∧ x_PW G u t) (x_A G)) 0 0 (x_A G) := by
  refine Met.ofW (cc := prog_1_method_22_code) (maxL := 2) (ret := (some (.object "ContentLibrary$Kept"))) (by decide) rfl ?_
  intro p e s m args below meth c s₁ B hml hv
  obtain ⟨rfl, hz, hP, hD, hK, hG⟩ := hv
  have C0 : x_Ctx G p s m _ meth c prog_1_method_22_code "ContentLibrary" 2 (some (.object "ContentLibrary$Kept")) := ⟨B.exec, B.bytes, B.returns, hml, findClass_of_methodNamed B.named, fun w h => atoms_spec (ws := (x_ws (⟨"ContentLibrary", "keptAt", "(I)LContentLibrary$Kept;"⟩ : MethodName) prog_1_method_22_code 2 (some (.object "ContentLibrary$Kept")))) B.pre w (List.mem_cons_of_mem _ h), B.notSynchronized, hz, hK, hG⟩
  obtain ⟨hx, hb, hr, hml, hown, hts, hlocks, hz, hK, hG⟩ := id C0
  have hS : va_S (x_A G) s.heap s.heap [] := va_S.rf
  have hl := lv_entry ([.ref (x_ad G 0), .int p1]) (n := 2) (Nat.le_of_ble_eq_true rfl)
  rw [lg_entry_eq]
  generalize (lg_sl ([.ref (x_ad G 0), .int p1]) ++ List.replicate (2 - (lg_sl ([.ref (x_ad G 0), .int p1])).length) Slot.unset).toArray = ls at hl ⊢
  have hl : lv_has ls 2 [(0, .ref (x_ad G 0)), (1, .int p1)] := hl
  rw [f_X_keptAt] at hf
  refine lv_iload_n hx hb d_X_keptAt_0 rfl (lv_at hl 1 rfl) ?_
  refine lv_if_lt (tgt := 22) hx hb d_X_keptAt_1 (by decide) (fun hc1 => ?_) (fun hc1 => ?_)
  · have hf := x_br_t hf hc1
    exact absurd hf x_no_r
  · have hf := x_br_f hf hc1
    refine lv_iload_n hx hb d_X_keptAt_4 rfl (lv_at hl 1 rfl) ?_
    refine lv_bipush (v := (16 : Int32)) hx hb d_X_keptAt_5 (by decide) ?_
    refine lv_icmp_ge (tgt := 22) hx hb d_X_keptAt_7 (by decide) (fun hc2 => ?_) (fun hc2 => ?_)
    · have hf := x_br_t hf hc2
      exact absurd hf x_no_r
    · have hf := x_br_f hf hc2
      refine lv_aload_n hx hb d_X_keptAt_10 rfl (lv_at hl 0 rfl) ?_
      refine va_get (D := x_D G) (ci := 0) (v := .ref (x_ad G 22)) (C := "ContentLibrary") (T := x_TX) (N := 9) hx hb hts x_inX hown hK hP 0 (x_lk_X G _) rfl 3 (by decide) (hts _ t_133) (fun _ h9 => h9) rfl d_X_keptAt_11 ?_
      refine lv_iload_n hx hb d_X_keptAt_14 rfl (lv_at hl 1 rfl) ?_
      obtain ⟨hin3, hf⟩ := x_ck_some hf
      refine va_aldq hx hb hK hP 22 3 (x_lk_kept G _) rfl hin3 d_X_keptAt_15 ?_
      refine W.eq (g2 := F0 m 16 ls [.ref (x_ad G (23 + 5 * (p1).toNatClampNeg))]) rfl ?_
      refine va_get (D := x_D G) (ci := 3) (v := .int (z0.1 (23 + 5 * (p1).toNatClampNeg) 0)) (C := "ContentLibrary$Kept") (T := x_TK) (N := 6) hx hb hts x_inK hown hK hP (23 + 5 * (p1).toNatClampNeg) (x_lk_K G _ (x_el_K hin3)) rfl 0 (by decide) (hts _ t_90) (fun _ h9 => h9) rfl d_X_keptAt_16 ?_
      refine lv_if_ne (tgt := 33) hx hb d_X_keptAt_19 (by decide) (fun hc4 => ?_) (fun hc4 => ?_)
      · have hf := x_br_f hf hc4
        refine lv_aload_n hx hb d_X_keptAt_33 rfl (lv_at hl 0 rfl) ?_
        refine va_get (D := x_D G) (ci := 0) (v := .ref (x_ad G 22)) (C := "ContentLibrary") (T := x_TX) (N := 9) hx hb hts x_inX hown hK hP 0 (x_lk_X G _) rfl 3 (by decide) (hts _ t_133) (fun _ h9 => h9) rfl d_X_keptAt_34 ?_
        refine lv_iload_n hx hb d_X_keptAt_37 rfl (lv_at hl 1 rfl) ?_
        obtain ⟨hin5, hf⟩ := x_ck_some hf
        refine va_aldq hx hb hK hP 22 3 (x_lk_kept G _) rfl hin5 d_X_keptAt_38 ?_
        refine W.eq (g2 := F0 m 39 ls [.ref (x_ad G (23 + 5 * (p1).toNatClampNeg))]) rfl ?_
        obtain ⟨rfl, rfl⟩ := x_retr hf
        exact W.aret (v := .ref (x_ad G (23 + 5 * (p1).toNatClampNeg))) hx hb hr (Or.inl ⟨_, rfl⟩) (Or.inr ⟨_, rfl⟩) (fun t ht hW => ⟨⟨_, _, rfl, rfl, _, rfl, (x_el_K hin5), rfl, x_pw hP hD hK hG hS hz ht hW⟩, hS.F ht⟩) hS.2.2 d_X_keptAt_39
      · have hf := x_br_t hf hc4
        exact absurd hf x_no_r
set_option maxHeartbeats 4000000 in
set_option maxRecDepth 100000 in
theorem c_X_keptAt_x (l : Launch) (G : x_G) (hl9 : l.stackTraces = false) (p1 : Int32) (z0 : x_St) (E : String) (zo : x_St) (hf : f_X_keptAt (x_n G) p1 z0 = some (Sum.inl E, zo)) : e_Met l G (⟨"ContentLibrary", "keptAt", "(I)LContentLibrary$Kept;"⟩ : MethodName) (x_ws (⟨"ContentLibrary", "keptAt", "(I)LContentLibrary$Kept;"⟩ : MethodName) prog_1_method_22_code 2 (some (.object "ContentLibrary$Kept"))) rx_X_keptAt (va_Pc [.ref (x_ad G 0), .int p1] (x_PW G z0)) E zo 1 6 := by
  refine e_ofW (cc := prog_1_method_22_code) (maxL := 2) (ret := (some (.object "ContentLibrary$Kept"))) (by decide) rfl ?_
  intro p e s m args below meth c s₁ B hml hEx hv
  obtain ⟨rfl, hz, hP, hD, hK, hG⟩ := hv
  have C0 : x_Ctx G p s m _ meth c prog_1_method_22_code "ContentLibrary" 2 (some (.object "ContentLibrary$Kept")) := ⟨B.exec, B.bytes, B.returns, hml, findClass_of_methodNamed B.named, fun w h => atoms_spec (ws := (x_ws (⟨"ContentLibrary", "keptAt", "(I)LContentLibrary$Kept;"⟩ : MethodName) prog_1_method_22_code 2 (some (.object "ContentLibrary$Kept")))) B.pre w (List.mem_cons_of_mem _ h), B.notSynchronized, hz, hK, hG⟩
  obtain ⟨hx, hb, hr, hml, hown, hts, hlocks, hz, hK, hG⟩ := id C0
  have hS : va_S (x_A G) s.heap s.heap [] := va_S.rf
  have hl := lv_entry ([.ref (x_ad G 0), .int p1]) (n := 2) (Nat.le_of_ble_eq_true rfl)
  rw [lg_entry_eq]
  generalize (lg_sl ([.ref (x_ad G 0), .int p1]) ++ List.replicate (2 - (lg_sl ([.ref (x_ad G 0), .int p1])).length) Slot.unset).toArray = ls at hl ⊢
  have hl : lv_has ls 2 [(0, .ref (x_ad G 0)), (1, .int p1)] := hl
  rw [f_X_keptAt] at hf
  refine lv_iload_n hx hb d_X_keptAt_0 rfl (lv_at hl 1 rfl) ?_
  refine lv_if_lt (tgt := 22) hx hb d_X_keptAt_1 (by decide) (fun hc1 => ?_) (fun hc1 => ?_)
  · have hf := x_br_t hf hc1
    obtain ⟨rfl, rfl⟩ := x_retx hf
    exact e_throwW (text := "no such number is there") (is := 266) hx hb hl9 hown (by decide +kernel) (by decide) (by decide +kernel) hts t_457 t_14 at_149_IndexOutOfBoundsException hG hS (hl.1.trans hml.symm) d_X_keptAt_22 d_X_keptAt_25 d_X_keptAt_26 d_X_keptAt_29 d_X_keptAt_32 hEx (Nat.le_of_ble_eq_true rfl) (Nat.le_of_ble_eq_true rfl) (Nat.le_of_ble_eq_true rfl) (Nat.le_of_ble_eq_true rfl) hlocks (fun t hW hsz hk => x_pwk hP hD hK hG hS hz hsz hk hW) (Nat.le_of_ble_eq_true rfl) (Nat.le_of_ble_eq_true rfl)
  · have hf := x_br_f hf hc1
    refine lv_iload_n hx hb d_X_keptAt_4 rfl (lv_at hl 1 rfl) ?_
    refine lv_bipush (v := (16 : Int32)) hx hb d_X_keptAt_5 (by decide) ?_
    refine lv_icmp_ge (tgt := 22) hx hb d_X_keptAt_7 (by decide) (fun hc2 => ?_) (fun hc2 => ?_)
    · have hf := x_br_t hf hc2
      obtain ⟨rfl, rfl⟩ := x_retx hf
      exact e_throwW (text := "no such number is there") (is := 266) hx hb hl9 hown (by decide +kernel) (by decide) (by decide +kernel) hts t_457 t_14 at_149_IndexOutOfBoundsException hG hS (hl.1.trans hml.symm) d_X_keptAt_22 d_X_keptAt_25 d_X_keptAt_26 d_X_keptAt_29 d_X_keptAt_32 hEx (Nat.le_of_ble_eq_true rfl) (Nat.le_of_ble_eq_true rfl) (Nat.le_of_ble_eq_true rfl) (Nat.le_of_ble_eq_true rfl) hlocks (fun t hW hsz hk => x_pwk hP hD hK hG hS hz hsz hk hW) (Nat.le_of_ble_eq_true rfl) (Nat.le_of_ble_eq_true rfl)
    · have hf := x_br_f hf hc2
      refine lv_aload_n hx hb d_X_keptAt_10 rfl (lv_at hl 0 rfl) ?_
      refine va_get (D := x_D G) (ci := 0) (v := .ref (x_ad G 22)) (C := "ContentLibrary") (T := x_TX) (N := 9) hx hb hts x_inX hown hK hP 0 (x_lk_X G _) rfl 3 (by decide) (hts _ t_133) (fun _ h9 => h9) rfl d_X_keptAt_11 ?_
      refine lv_iload_n hx hb d_X_keptAt_14 rfl (lv_at hl 1 rfl) ?_
      obtain ⟨hin3, hf⟩ := x_ck_some hf
      refine va_aldq hx hb hK hP 22 3 (x_lk_kept G _) rfl hin3 d_X_keptAt_15 ?_
      refine W.eq (g2 := F0 m 16 ls [.ref (x_ad G (23 + 5 * (p1).toNatClampNeg))]) rfl ?_
      refine va_get (D := x_D G) (ci := 3) (v := .int (z0.1 (23 + 5 * (p1).toNatClampNeg) 0)) (C := "ContentLibrary$Kept") (T := x_TK) (N := 6) hx hb hts x_inK hown hK hP (23 + 5 * (p1).toNatClampNeg) (x_lk_K G _ (x_el_K hin3)) rfl 0 (by decide) (hts _ t_90) (fun _ h9 => h9) rfl d_X_keptAt_16 ?_
      refine lv_if_ne (tgt := 33) hx hb d_X_keptAt_19 (by decide) (fun hc4 => ?_) (fun hc4 => ?_)
      · have hf := x_br_f hf hc4
        refine lv_aload_n hx hb d_X_keptAt_33 rfl (lv_at hl 0 rfl) ?_
        refine va_get (D := x_D G) (ci := 0) (v := .ref (x_ad G 22)) (C := "ContentLibrary") (T := x_TX) (N := 9) hx hb hts x_inX hown hK hP 0 (x_lk_X G _) rfl 3 (by decide) (hts _ t_133) (fun _ h9 => h9) rfl d_X_keptAt_34 ?_
        refine lv_iload_n hx hb d_X_keptAt_37 rfl (lv_at hl 1 rfl) ?_
        obtain ⟨hin5, hf⟩ := x_ck_some hf
        refine va_aldq hx hb hK hP 22 3 (x_lk_kept G _) rfl hin5 d_X_keptAt_38 ?_
        refine W.eq (g2 := F0 m 39 ls [.ref (x_ad G (23 + 5 * (p1).toNatClampNeg))]) rfl ?_
        exact absurd hf x_no_x
      · have hf := x_br_t hf hc4
        obtain ⟨rfl, rfl⟩ := x_retx hf
        exact e_throwW (text := "no such number is there") (is := 266) hx hb hl9 hown (by decide +kernel) (by decide) (by decide +kernel) hts t_457 t_14 at_149_IndexOutOfBoundsException hG hS (hl.1.trans hml.symm) d_X_keptAt_22 d_X_keptAt_25 d_X_keptAt_26 d_X_keptAt_29 d_X_keptAt_32 hEx (Nat.le_of_ble_eq_true rfl) (Nat.le_of_ble_eq_true rfl) (Nat.le_of_ble_eq_true rfl) (Nat.le_of_ble_eq_true rfl) hlocks (fun t hW hsz hk => x_pwk hP hD hK hG hS hz hsz hk hW) (Nat.le_of_ble_eq_true rfl) (Nat.le_of_ble_eq_true rfl)
