theorem t_3 : Cond.initialized "ContentLibrary$Blocks" ∈ x_big := x_bt 3 (by decide +kernel) (by decide +kernel)
theorem t_41 : Cond.fieldLink "ContentLibrary$Blocks" 15 "ContentLibrary$Blocks" "fuse" "I" ∈ x_big := x_bt 41 (by decide +kernel) (by decide +kernel)
theorem t_43 : Cond.fieldLink "ContentLibrary$Blocks" 18 "ContentLibrary$Blocks" "cut" "Z" ∈ x_big := x_bt 43 (by decide +kernel) (by decide +kernel)
theorem t_45 : Cond.fieldLink "ContentLibrary$Blocks" 22 "ContentLibrary$Blocks" "bytes" "[I" ∈ x_big := x_bt 45 (by decide +kernel) (by decide +kernel)
theorem t_174 : Cond.methodLink "ContentLibrary$Blocks" 29 (⟨"ContentLibrary$Blocks", "get", "(II)I"⟩ : MethodName) ∈ x_big := x_bt 174 (by decide +kernel) (by decide +kernel)
theorem t_175 : Cond.instanceMethod (⟨"ContentLibrary$Blocks", "get", "(II)I"⟩ : MethodName) ∈ x_big := x_bt 175 (by decide +kernel) (by decide +kernel)
theorem t_176 : Cond.selects "ContentLibrary$Blocks" (⟨"ContentLibrary$Blocks", "get", "(II)I"⟩ : MethodName) (⟨"ContentLibrary$Blocks", "get", "(II)I"⟩ : MethodName) ∈ x_big := x_bt 176 (by decide +kernel) (by decide +kernel)
theorem t_177 : Cond.code (⟨"ContentLibrary$Blocks", "get", "(II)I"⟩ : MethodName) prog_2_method_3_code 3 (some .int) ∈ x_big := x_bt 177 (by decide +kernel) (by decide +kernel)
theorem t_517 : Cond.methodLink "ContentLibrary$Blocks" 90 (⟨"ContentLibrary$Blocks", "put", "(III)Z"⟩ : MethodName) ∈ x_big := x_bt 517 (by decide +kernel) (by decide +kernel)
theorem t_519 : Cond.instanceMethod (⟨"ContentLibrary$Blocks", "put", "(III)Z"⟩ : MethodName) ∈ x_big := x_bt 519 (by decide +kernel) (by decide +kernel)
theorem t_520 : Cond.code (⟨"ContentLibrary$Blocks", "put", "(III)Z"⟩ : MethodName) prog_2_method_18_code 4 (some .boolean) ∈ x_big := x_bt 520 (by decide +kernel) (by decide +kernel)
theorem sel_ContentLibrary_Blocks_put : Cond.selects "ContentLibrary$Blocks" (⟨"ContentLibrary$Blocks", "put", "(III)Z"⟩ : MethodName) (⟨"ContentLibrary$Blocks", "put", "(III)Z"⟩ : MethodName) ∈ x_big := x_bs 21 (by decide +kernel) (by decide +kernel)
theorem d_B_kindOf_0 : decode prog_2_method_2_code 0 = .ok (.iload_n 0, 1) := by decide +kernel
theorem d_B_kindOf_1 : decode prog_2_method_2_code 1 = .ok (.ifCond .ne 7, 3) := by decide +kernel
theorem d_B_kindOf_4 : decode prog_2_method_2_code 4 = .ok (.iconst 1, 1) := by decide +kernel
theorem d_B_kindOf_5 : decode prog_2_method_2_code 5 = .ok (.goto 4, 3) := by decide +kernel
theorem d_B_kindOf_9 : decode prog_2_method_2_code 9 = .ok (.ireturn, 1) := by decide +kernel
theorem d_B_kindOf_8 : decode prog_2_method_2_code 8 = .ok (.iconst 2, 1) := by decide +kernel
theorem d_B_get_0 : decode prog_2_method_3_code 0 = .ok (.aload_n 0, 1) := by decide +kernel
theorem d_B_get_1 : decode prog_2_method_3_code 1 = .ok (.getfield 22, 3) := by decide +kernel
theorem d_B_get_4 : decode prog_2_method_3_code 4 = .ok (.iload_n 1, 1) := by decide +kernel
theorem d_B_get_5 : decode prog_2_method_3_code 5 = .ok (.bipush 64, 2) := by decide +kernel
theorem d_B_get_7 : decode prog_2_method_3_code 7 = .ok (.imul, 1) := by decide +kernel
theorem d_B_get_8 : decode prog_2_method_3_code 8 = .ok (.iload_n 2, 1) := by decide +kernel
theorem d_B_get_9 : decode prog_2_method_3_code 9 = .ok (.iadd, 1) := by decide +kernel
theorem d_B_get_10 : decode prog_2_method_3_code 10 = .ok (.iaload, 1) := by decide +kernel
theorem d_B_get_11 : decode prog_2_method_3_code 11 = .ok (.ireturn, 1) := by decide +kernel
theorem d_B_isBlank_0 : decode prog_2_method_5_code 0 = .ok (.iconst 0, 1) := by decide +kernel
theorem d_B_isBlank_1 : decode prog_2_method_5_code 1 = .ok (.istore_n 2, 1) := by decide +kernel
theorem d_B_isBlank_2 : decode prog_2_method_5_code 2 = .ok (.iload_n 2, 1) := by decide +kernel
theorem d_B_isBlank_3 : decode prog_2_method_5_code 3 = .ok (.bipush 64, 2) := by decide +kernel
theorem d_B_isBlank_5 : decode prog_2_method_5_code 5 = .ok (.if_icmp .ge 20, 3) := by decide +kernel
theorem d_B_isBlank_8 : decode prog_2_method_5_code 8 = .ok (.aload_n 0, 1) := by decide +kernel
theorem d_B_isBlank_9 : decode prog_2_method_5_code 9 = .ok (.iload_n 1, 1) := by decide +kernel
theorem d_B_isBlank_10 : decode prog_2_method_5_code 10 = .ok (.iload_n 2, 1) := by decide +kernel
theorem d_B_isBlank_11 : decode prog_2_method_5_code 11 = .ok (.invokevirtual 29, 3) := by decide +kernel
theorem d_B_isBlank_14 : decode prog_2_method_5_code 14 = .ok (.ifCond .eq 5, 3) := by decide +kernel
theorem d_B_isBlank_17 : decode prog_2_method_5_code 17 = .ok (.iconst 0, 1) := by decide +kernel
theorem d_B_isBlank_18 : decode prog_2_method_5_code 18 = .ok (.ireturn, 1) := by decide +kernel
theorem d_B_isBlank_19 : decode prog_2_method_5_code 19 = .ok (.iinc 2 1, 3) := by decide +kernel
theorem d_B_isBlank_22 : decode prog_2_method_5_code 22 = .ok (.goto (-20), 3) := by decide +kernel
theorem d_B_isBlank_25 : decode prog_2_method_5_code 25 = .ok (.iconst 1, 1) := by decide +kernel
theorem d_B_isBlank_26 : decode prog_2_method_5_code 26 = .ok (.ireturn, 1) := by decide +kernel
theorem d_B_turn_0 : decode prog_2_method_4_code 0 = .ok (.aload_n 0, 1) := by decide +kernel
theorem d_B_turn_1 : decode prog_2_method_4_code 1 = .ok (.getfield 22, 3) := by decide +kernel
theorem d_B_turn_4 : decode prog_2_method_4_code 4 = .ok (.iload_n 1, 1) := by decide +kernel
theorem d_B_turn_5 : decode prog_2_method_4_code 5 = .ok (.bipush 64, 2) := by decide +kernel
theorem d_B_turn_7 : decode prog_2_method_4_code 7 = .ok (.imul, 1) := by decide +kernel
theorem d_B_turn_8 : decode prog_2_method_4_code 8 = .ok (.iload_n 2, 1) := by decide +kernel
theorem d_B_turn_9 : decode prog_2_method_4_code 9 = .ok (.iadd, 1) := by decide +kernel
theorem d_B_turn_10 : decode prog_2_method_4_code 10 = .ok (.dup2, 1) := by decide +kernel
theorem d_B_turn_11 : decode prog_2_method_4_code 11 = .ok (.iaload, 1) := by decide +kernel
theorem d_B_turn_12 : decode prog_2_method_4_code 12 = .ok (.iload_n 3, 1) := by decide +kernel
theorem d_B_turn_13 : decode prog_2_method_4_code 13 = .ok (.ixor, 1) := by decide +kernel
theorem d_B_turn_14 : decode prog_2_method_4_code 14 = .ok (.iastore, 1) := by decide +kernel
theorem d_B_turn_15 : decode prog_2_method_4_code 15 = .ok (.aload_n 0, 1) := by decide +kernel
theorem d_B_turn_16 : decode prog_2_method_4_code 16 = .ok (.iload_n 1, 1) := by decide +kernel
theorem d_B_turn_17 : decode prog_2_method_4_code 17 = .ok (.iload_n 2, 1) := by decide +kernel
theorem d_B_turn_18 : decode prog_2_method_4_code 18 = .ok (.invokevirtual 29, 3) := by decide +kernel
theorem d_B_turn_21 : decode prog_2_method_4_code 21 = .ok (.ireturn, 1) := by decide +kernel
theorem d_B_byteOfSum_0 : decode prog_2_method_9_code 0 = .ok (.iload_n 0, 1) := by decide +kernel
theorem d_B_byteOfSum_1 : decode prog_2_method_9_code 1 = .ok (.bipush 8, 2) := by decide +kernel
theorem d_B_byteOfSum_3 : decode prog_2_method_9_code 3 = .ok (.iload_n 1, 1) := by decide +kernel
theorem d_B_byteOfSum_4 : decode prog_2_method_9_code 4 = .ok (.imul, 1) := by decide +kernel
theorem d_B_byteOfSum_5 : decode prog_2_method_9_code 5 = .ok (.iushr, 1) := by decide +kernel
theorem d_B_byteOfSum_6 : decode prog_2_method_9_code 6 = .ok (.sipush 255, 3) := by decide +kernel
theorem d_B_byteOfSum_9 : decode prog_2_method_9_code 9 = .ok (.iand, 1) := by decide +kernel
theorem d_B_byteOfSum_10 : decode prog_2_method_9_code 10 = .ok (.ireturn, 1) := by decide +kernel
theorem d_B_put_0 : decode prog_2_method_18_code 0 = .ok (.aload_n 0, 1) := by decide +kernel
theorem d_B_put_1 : decode prog_2_method_18_code 1 = .ok (.getfield 15, 3) := by decide +kernel
theorem d_B_put_4 : decode prog_2_method_18_code 4 = .ok (.ifCond .ne 10, 3) := by decide +kernel
theorem d_B_put_7 : decode prog_2_method_18_code 7 = .ok (.aload_n 0, 1) := by decide +kernel
theorem d_B_put_8 : decode prog_2_method_18_code 8 = .ok (.iconst 1, 1) := by decide +kernel
theorem d_B_put_9 : decode prog_2_method_18_code 9 = .ok (.putfield 18, 3) := by decide +kernel
theorem d_B_put_12 : decode prog_2_method_18_code 12 = .ok (.iconst 0, 1) := by decide +kernel
theorem d_B_put_13 : decode prog_2_method_18_code 13 = .ok (.ireturn, 1) := by decide +kernel
theorem d_B_put_14 : decode prog_2_method_18_code 14 = .ok (.aload_n 0, 1) := by decide +kernel
theorem d_B_put_15 : decode prog_2_method_18_code 15 = .ok (.getfield 15, 3) := by decide +kernel
theorem d_B_put_18 : decode prog_2_method_18_code 18 = .ok (.iconst (-1), 1) := by decide +kernel
theorem d_B_put_19 : decode prog_2_method_18_code 19 = .ok (.if_icmp .eq 13, 3) := by decide +kernel
theorem d_B_put_22 : decode prog_2_method_18_code 22 = .ok (.aload_n 0, 1) := by decide +kernel
theorem d_B_put_23 : decode prog_2_method_18_code 23 = .ok (.dup, 1) := by decide +kernel
theorem d_B_put_24 : decode prog_2_method_18_code 24 = .ok (.getfield 15, 3) := by decide +kernel
theorem d_B_put_27 : decode prog_2_method_18_code 27 = .ok (.iconst 1, 1) := by decide +kernel
theorem d_B_put_28 : decode prog_2_method_18_code 28 = .ok (.isub, 1) := by decide +kernel
theorem d_B_put_29 : decode prog_2_method_18_code 29 = .ok (.putfield 15, 3) := by decide +kernel
theorem d_B_put_32 : decode prog_2_method_18_code 32 = .ok (.aload_n 0, 1) := by decide +kernel
theorem d_B_put_33 : decode prog_2_method_18_code 33 = .ok (.getfield 22, 3) := by decide +kernel
theorem d_B_put_36 : decode prog_2_method_18_code 36 = .ok (.iload_n 1, 1) := by decide +kernel
theorem d_B_put_37 : decode prog_2_method_18_code 37 = .ok (.bipush 64, 2) := by decide +kernel
theorem d_B_put_39 : decode prog_2_method_18_code 39 = .ok (.imul, 1) := by decide +kernel
theorem d_B_put_40 : decode prog_2_method_18_code 40 = .ok (.iload_n 2, 1) := by decide +kernel
theorem d_B_put_41 : decode prog_2_method_18_code 41 = .ok (.iadd, 1) := by decide +kernel
theorem d_B_put_42 : decode prog_2_method_18_code 42 = .ok (.iload_n 3, 1) := by decide +kernel
theorem d_B_put_43 : decode prog_2_method_18_code 43 = .ok (.iastore, 1) := by decide +kernel
theorem d_B_put_44 : decode prog_2_method_18_code 44 = .ok (.iconst 1, 1) := by decide +kernel
theorem d_B_put_45 : decode prog_2_method_18_code 45 = .ok (.ireturn, 1) := by decide +kernel
theorem d_B_wipe_0 : decode prog_2_method_17_code 0 = .ok (.aload_n 0, 1) := by decide +kernel
theorem d_B_wipe_1 : decode prog_2_method_17_code 1 = .ok (.iload_n 1, 1) := by decide +kernel
theorem d_B_wipe_2 : decode prog_2_method_17_code 2 = .ok (.iconst 4, 1) := by decide +kernel
theorem d_B_wipe_3 : decode prog_2_method_17_code 3 = .ok (.iconst 0, 1) := by decide +kernel
theorem d_B_wipe_4 : decode prog_2_method_17_code 4 = .ok (.invokevirtual 90, 3) := by decide +kernel
theorem d_B_wipe_7 : decode prog_2_method_17_code 7 = .ok (.istore_n 2, 1) := by decide +kernel
theorem d_B_wipe_8 : decode prog_2_method_17_code 8 = .ok (.iconst 0, 1) := by decide +kernel
theorem d_B_wipe_9 : decode prog_2_method_17_code 9 = .ok (.istore_n 3, 1) := by decide +kernel
theorem d_B_wipe_10 : decode prog_2_method_17_code 10 = .ok (.iload_n 3, 1) := by decide +kernel
theorem d_B_wipe_11 : decode prog_2_method_17_code 11 = .ok (.bipush 64, 2) := by decide +kernel
theorem d_B_wipe_13 : decode prog_2_method_17_code 13 = .ok (.if_icmp .ge 26, 3) := by decide +kernel
theorem d_B_wipe_16 : decode prog_2_method_17_code 16 = .ok (.iload_n 2, 1) := by decide +kernel
theorem d_B_wipe_17 : decode prog_2_method_17_code 17 = .ok (.ifCond .eq 22, 3) := by decide +kernel
theorem d_B_wipe_20 : decode prog_2_method_17_code 20 = .ok (.iload_n 3, 1) := by decide +kernel
theorem d_B_wipe_21 : decode prog_2_method_17_code 21 = .ok (.iconst 4, 1) := by decide +kernel
theorem d_B_wipe_22 : decode prog_2_method_17_code 22 = .ok (.if_icmp .eq 11, 3) := by decide +kernel
theorem d_B_wipe_25 : decode prog_2_method_17_code 25 = .ok (.aload_n 0, 1) := by decide +kernel
theorem d_B_wipe_26 : decode prog_2_method_17_code 26 = .ok (.iload_n 1, 1) := by decide +kernel
theorem d_B_wipe_27 : decode prog_2_method_17_code 27 = .ok (.iload_n 3, 1) := by decide +kernel
theorem d_B_wipe_28 : decode prog_2_method_17_code 28 = .ok (.iconst 0, 1) := by decide +kernel
theorem d_B_wipe_29 : decode prog_2_method_17_code 29 = .ok (.invokevirtual 90, 3) := by decide +kernel
theorem d_B_wipe_32 : decode prog_2_method_17_code 32 = .ok (.istore_n 2, 1) := by decide +kernel
theorem d_B_wipe_33 : decode prog_2_method_17_code 33 = .ok (.iinc 3 1, 3) := by decide +kernel
theorem d_B_wipe_36 : decode prog_2_method_17_code 36 = .ok (.goto (-26), 3) := by decide +kernel
theorem d_B_wipe_39 : decode prog_2_method_17_code 39 = .ok (.iload_n 2, 1) := by decide +kernel
theorem d_B_wipe_40 : decode prog_2_method_17_code 40 = .ok (.ireturn, 1) := by decide +kernel
def f_B_kindOf (xn : Nat) (p1 : Int32) (z0 : x_St) : Option (Int32 × x_St) :=
  (if p1 = 0 then
  (some ((1 : Int32), z0))
  else
  (some ((2 : Int32), z0)))
def f_B_get (xn : Nat) (p1 : Int32) (p2 : Int32) (z0 : x_St) : Option (Int32 × x_St) :=
  (x_ck ((p1 * (64 : Int32)) + p2) (x_ln xn 2)
  (some ((z0.1 2 (((p1 * (64 : Int32)) + p2)).toNatClampNeg), z0)))
def f_B_isBlank_2 (xn : Nat) : Nat → Int32 → Int32 → x_St → Option (Int32 × x_St)
  | 0, _, _, _ => none
  | fu + 1, a1, a2, z0 =>
    (if (64 : Int32) ≤ a2 then
    (some ((1 : Int32), z0))
    else
    (x_cl (f_B_get xn a1 a2 z0) (fun r2 z2 =>
    (if r2 = 0 then
    (f_B_isBlank_2 xn fu a1 (a2 + (1 : Int32)) z2)
    else
    (some ((0 : Int32), z2))))))
def f_B_isBlank (xn : Nat) (p1 : Int32) (z0 : x_St) : Option (Int32 × x_St) :=
  (f_B_isBlank_2 xn x_FU p1 (0 : Int32) z0)
def f_B_turn (xn : Nat) (p1 : Int32) (p2 : Int32) (p3 : Int32) (z0 : x_St) : Option (Int32 × x_St) :=
  (x_ck ((p1 * (64 : Int32)) + p2) (x_ln xn 2)
  (x_ck ((p1 * (64 : Int32)) + p2) (x_ln xn 2)
  (x_cl (f_B_get xn p1 p2 (x_put z0 2 (((p1 * (64 : Int32)) + p2)).toNatClampNeg ((z0.1 2 (((p1 * (64 : Int32)) + p2)).toNatClampNeg) ^^^ p3))) (fun r3 z3 =>
  (some (r3, z3))))))
def f_B_byteOfSum (xn : Nat) (p1 : Int32) (p2 : Int32) (z0 : x_St) : Option (Int32 × x_St) :=
  (some (((x_ushr p1 ((8 : Int32) * p2)) &&& (255 : Int32)), z0))
def f_B_put_32 (xn : Nat) (a1 : Int32) (a2 : Int32) (a3 : Int32) (z0 : x_St) : Option (Int32 × x_St) :=
  (x_ck ((a1 * (64 : Int32)) + a2) (x_ln xn 2)
  (some ((1 : Int32), (x_put z0 2 (((a1 * (64 : Int32)) + a2)).toNatClampNeg a3))))
def f_B_put (xn : Nat) (p1 : Int32) (p2 : Int32) (p3 : Int32) (z0 : x_St) : Option (Int32 × x_St) :=
  (if (z0.1 1 1) = 0 then
  (some ((0 : Int32), (x_put z0 1 2 (1 : Int32))))
  else
  (if (z0.1 1 1) = (-1 : Int32) then
  (f_B_put_32 xn p1 p2 p3 z0)
  else
  (f_B_put_32 xn p1 p2 p3 (x_put z0 1 1 ((z0.1 1 1) - (1 : Int32))))))
def f_B_wipe_39 (xn : Nat) (a2 : Int32) (z0 : x_St) : Option (Int32 × x_St) :=
  (x_ckb a2
  (some (a2, z0)))
def f_B_wipe_10 (xn : Nat) : Nat → Int32 → Int32 → Int32 → x_St → Option (Int32 × x_St)
  | 0, _, _, _, _ => none
  | fu + 1, a1, a2, a3, z0 =>
    (if (64 : Int32) ≤ a3 then
    (f_B_wipe_39 xn a2 z0)
    else
    (if a2 = 0 then
    (f_B_wipe_39 xn a2 z0)
    else
    (if a3 = (4 : Int32) then
    (f_B_wipe_10 xn fu a1 a2 (a3 + (1 : Int32)) z0)
    else
    (x_cl (f_B_put xn a1 a3 (0 : Int32) z0) (fun r4 z4 =>
    (f_B_wipe_10 xn fu a1 r4 (a3 + (1 : Int32)) z4))))))
def f_B_wipe (xn : Nat) (p1 : Int32) (z0 : x_St) : Option (Int32 × x_St) :=
  (x_cl (f_B_put xn p1 (4 : Int32) (0 : Int32) z0) (fun r6 z6 =>
  (f_B_wipe_10 xn x_FU p1 r6 (0 : Int32) z6)))
abbrev rm_B_kindOf : Room := { frames := 0, cells := 0, slots := 0, locals := 0 }
set_option maxHeartbeats 4000000 in
set_option maxRecDepth 100000 in
theorem c_B_kindOf (l : Launch) (G : x_G) (p1 : Int32) (z0 : x_St) (r : Int32) (z9 : x_St) (hf : f_B_kindOf (x_n G) p1 z0 = some (r, z9)) : Met l (⟨"ContentLibrary$Blocks", "kindOf", "(I)I"⟩ : MethodName) (x_ws (⟨"ContentLibrary$Blocks", "kindOf", "(I)I"⟩ : MethodName) prog_2_method_2_code 1 (some .int)) rm_B_kindOf (va_Pc [.int p1] (x_PW G z0)) (va_Qi (fun a u => r = a ∧ z9 = u) (x_PW G) (x_A G)) 0 0 (x_A G) := by
  refine Met.ofW (cc := prog_2_method_2_code) (maxL := 1) (ret := (some .int)) (by decide) rfl ?_
  intro p e s m args below meth c s₁ B hml hv
  obtain ⟨rfl, hz, hP, hD, hK, hG⟩ := hv
  have C0 : x_Ctx G p s m _ meth c prog_2_method_2_code "ContentLibrary$Blocks" 1 (some .int) := ⟨B.exec, B.bytes, B.returns, hml, findClass_of_methodNamed B.named, fun w h => atoms_spec (ws := (x_ws (⟨"ContentLibrary$Blocks", "kindOf", "(I)I"⟩ : MethodName) prog_2_method_2_code 1 (some .int))) B.pre w (List.mem_cons_of_mem _ h), B.notSynchronized, hz, hK, hG⟩
  obtain ⟨hx, hb, hr, hml, hown, hts, hlocks, hz, hK, hG⟩ := id C0
  have hS : va_S (x_A G) s.heap s.heap [] := va_S.rf
  have hl := lv_entry ([.int p1]) (n := 1) (Nat.le_of_ble_eq_true rfl)
  rw [lg_entry_eq]
  generalize (lg_sl ([.int p1]) ++ List.replicate (1 - (lg_sl ([.int p1])).length) Slot.unset).toArray = ls at hl ⊢
  have hl : lv_has ls 1 [(0, .int p1)] := hl
  rw [f_B_kindOf] at hf
  refine lv_iload_n hx hb d_B_kindOf_0 rfl (lv_at hl 0 rfl) ?_
  refine lv_if_ne (tgt := 8) hx hb d_B_kindOf_1 (by decide) (fun hc1 => ?_) (fun hc1 => ?_)
  · have hf := x_br_f hf hc1
    refine lv_iconst (v := (2 : Int32)) hx hb d_B_kindOf_8 (by decide) ?_
    obtain ⟨rfl, rfl⟩ := x_ret hf
    exact W.iret (v := (2 : Int32)) hx hb hr (fun t ht hW => ⟨⟨_, _, rfl, ⟨rfl, rfl⟩, x_pw hP hD hK hG hS hz ht hW.alike⟩, hS.F ht⟩) hS.2.2 d_B_kindOf_9
  · have hf := x_br_t hf hc1
    refine lv_iconst (v := (1 : Int32)) hx hb d_B_kindOf_4 (by decide) ?_
    refine lv_goto (tgt := 9) hx hb d_B_kindOf_5 (by decide) ?_
    obtain ⟨rfl, rfl⟩ := x_ret hf
    exact W.iret (v := (1 : Int32)) hx hb hr (fun t ht hW => ⟨⟨_, _, rfl, ⟨rfl, rfl⟩, x_pw hP hD hK hG hS hz ht hW.alike⟩, hS.F ht⟩) hS.2.2 d_B_kindOf_9
abbrev rm_B_get : Room := { frames := 0, cells := 0, slots := 0, locals := 0 }
set_option maxHeartbeats 4000000 in
set_option maxRecDepth 100000 in
theorem c_B_get (l : Launch) (G : x_G) (p1 : Int32) (p2 : Int32) (z0 : x_St) (r : Int32) (z9 : x_St) (hf : f_B_get (x_n G) p1 p2 z0 = some (r, z9)) : Met l (⟨"ContentLibrary$Blocks", "get", "(II)I"⟩ : MethodName) (x_ws (⟨"ContentLibrary$Blocks", "get", "(II)I"⟩ : MethodName) prog_2_method_3_code 3 (some .int)) rm_B_get (va_Pc [.ref (x_ad G 1), .int p1, .int p2] (x_PW G z0)) (va_Qi (fun a u => r = a ∧ z9 = u) (x_PW G) (x_A G)) 0 0 (x_A G) := by
  refine Met.ofW (cc := prog_2_method_3_code) (maxL := 3) (ret := (some .int)) (by decide) rfl ?_
  intro p e s m args below meth c s₁ B hml hv
  obtain ⟨rfl, hz, hP, hD, hK, hG⟩ := hv
  have C0 : x_Ctx G p s m _ meth c prog_2_method_3_code "ContentLibrary$Blocks" 3 (some .int) := ⟨B.exec, B.bytes, B.returns, hml, findClass_of_methodNamed B.named, fun w h => atoms_spec (ws := (x_ws (⟨"ContentLibrary$Blocks", "get", "(II)I"⟩ : MethodName) prog_2_method_3_code 3 (some .int))) B.pre w (List.mem_cons_of_mem _ h), B.notSynchronized, hz, hK, hG⟩
  obtain ⟨hx, hb, hr, hml, hown, hts, hlocks, hz, hK, hG⟩ := id C0
  have hS : va_S (x_A G) s.heap s.heap [] := va_S.rf
  have hl := lv_entry ([.ref (x_ad G 1), .int p1, .int p2]) (n := 3) (Nat.le_of_ble_eq_true rfl)
  rw [lg_entry_eq]
  generalize (lg_sl ([.ref (x_ad G 1), .int p1, .int p2]) ++ List.replicate (3 - (lg_sl ([.ref (x_ad G 1), .int p1, .int p2])).length) Slot.unset).toArray = ls at hl ⊢
  have hl : lv_has ls 3 [(0, .ref (x_ad G 1)), (1, .int p1), (2, .int p2)] := hl
  rw [f_B_get] at hf
  refine lv_aload_n hx hb d_B_get_0 rfl (lv_at hl 0 rfl) ?_
  refine va_get (D := x_D G) (ci := 1) (v := .ref (x_ad G 2)) (C := "ContentLibrary$Blocks") (T := x_TB) (N := 5) hx hb hts x_inB hown hK hP 1 (x_lk_B G _) rfl 3 (by decide) (hts _ t_45) (fun _ h9 => h9) rfl d_B_get_1 ?_
  refine lv_iload_n hx hb d_B_get_4 rfl (lv_at hl 1 rfl) ?_
  refine lv_bipush (v := (64 : Int32)) hx hb d_B_get_5 (by decide) ?_
  refine lv_imul hx hb d_B_get_7 ?_
  refine lv_iload_n hx hb d_B_get_8 rfl (lv_at hl 2 rfl) ?_
  refine lv_iadd hx hb d_B_get_9 ?_
  obtain ⟨hin1, hf⟩ := x_ck_some hf
  refine va_iald hx hb hK hP 2 0 (x_lk_A G _ rfl) rfl hin1 d_B_get_10 ?_
  obtain ⟨rfl, rfl⟩ := x_ret hf
  exact W.iret (v := (z0.1 2 (((p1 * (64 : Int32)) + p2)).toNatClampNeg)) hx hb hr (fun t ht hW => ⟨⟨_, _, rfl, ⟨rfl, rfl⟩, x_pw hP hD hK hG hS hz ht hW.alike⟩, hS.F ht⟩) hS.2.2 d_B_get_11
abbrev rm_B_isBlank : Room := { frames := 1, cells := 0, slots := 0, locals := 22 }
set_option maxHeartbeats 4000000 in
set_option maxRecDepth 100000 in
theorem w_B_isBlank_2 (l : Launch) (G : x_G) {p : Program} {e : Env} {s : State} {m : MethodId} {args : Array Value} {below : List Frame} {meth : Method} {c : Code} (C0 : x_Ctx G p s m args meth c prog_2_method_5_code "ContentLibrary$Blocks" 3 (some .boolean)) (r : Int32) (z9 : x_St) : ∀ (fu : Nat), ∀ (a1 : Int32) (a2 : Int32) (z0 : x_St), f_B_isBlank_2 (x_n G) fu a1 a2 z0 = some (r, z9) → ∀ (H : Heap) (locs : List Loc) (ls : Array Slot), va_P (x_D G) vwCl (x_Wd G z0) H → va_D (x_A G) (x_Wd G z0) → va_S (x_A G) s.heap H locs → lv_has ls 3 [(0, .ref (x_ad G 1)), (1, .int a1), (2, .int a2)] → W p l e rm_B_isBlank s m args below meth c H locs 0 0 (MQ below (va_Qi (fun a u => r = a ∧ z9 = u) (x_PW G) (x_A G)) args s 0 0 (x_A G)) (F0 m 2 ls []) := by
  obtain ⟨hx, hb, hr, hml, hown, hts, hlocks, hz, hK, hG⟩ := id C0
  intro fu
  induction fu with
  | zero =>
    intro a1 a2 z0 hf
    rw [f_B_isBlank_2] at hf
    cases hf
  | succ fu ih =>
    intro a1 a2 z0 hf H locs ls hP hD hS hl
    rw [f_B_isBlank_2] at hf
    refine lv_iload_n hx hb d_B_isBlank_2 rfl (lv_at hl 2 rfl) ?_
    refine lv_bipush (v := (64 : Int32)) hx hb d_B_isBlank_3 (by decide) ?_
    refine lv_icmp_ge (tgt := 25) hx hb d_B_isBlank_5 (by decide) (fun hc1 => ?_) (fun hc1 => ?_)
    · have hf := x_br_t hf hc1
      refine lv_iconst (v := (1 : Int32)) hx hb d_B_isBlank_25 (by decide) ?_
      obtain ⟨rfl, rfl⟩ := x_ret hf
      exact W.zret (v := (1 : Int32)) hx hb hr rfl (fun t ht hW => ⟨⟨_, _, rfl, ⟨rfl, rfl⟩, x_pw hP hD hK hG hS hz ht hW.alike⟩, hS.F ht⟩) hS.2.2 d_B_isBlank_26
    · have hf := x_br_f hf hc1
      refine lv_aload_n hx hb d_B_isBlank_8 rfl (lv_at hl 0 rfl) ?_
      refine lv_iload_n hx hb d_B_isBlank_9 rfl (lv_at hl 1 rfl) ?_
      refine lv_iload_n hx hb d_B_isBlank_10 rfl (lv_at hl 2 rfl) ?_
      obtain ⟨r2, z2, hk3, hf⟩ := x_cl_some hf
      refine va_calli (va_runV (As := [.int a1, .int a2]) (rest := []) ⟨hx, hb, hml, hown, hts⟩ (c_B_get l G a1 a2 z0 r2 z2 hk3) (cwV 2 hts (x_gV t_174 t_175 t_176 t_3 t_177) rfl rfl rfl (by decide +kernel) ⟨Nat.le_of_ble_eq_true rfl, Nat.le_of_ble_eq_true rfl⟩) ⟨x_blind _ _ _, va_recv hK hP (ci := 1) (q0 := 1) rfl (x_lk_B G _), fun U hU hW => ⟨rfl, x_pw hP hD hK hG hS hz hU hW.alike⟩⟩ rfl rfl hl.1 rfl (lv_room (Nat.le_of_ble_eq_true rfl)) d_B_isBlank_11 ⟨Nat.le_of_ble_eq_true rfl, Nat.le_of_ble_eq_true rfl⟩) hS (fun q _ h => h) (fun q h => h) (fun ra u t H locs ht hvm hw hB hz1 hk1 hS => ?_)
      obtain ⟨rfl, rfl⟩ := hw
      obtain ⟨hP, hD⟩ := x_back hB ht
      refine lv_if_eq (tgt := 19) hx hb d_B_isBlank_14 (by decide) (fun hc4 => ?_) (fun hc4 => ?_)
      · have hf := x_br_t hf hc4
        refine lv_iinc (v := (a2 + (1 : Int32))) (lv' := [(2, .int (a2 + (1 : Int32))), (0, .ref (x_ad G 1)), (1, .int a1)]) hx hb d_B_isBlank_19 hl (k := 2) rfl rfl (by decide) rfl (fun ls hl => ?_)
        refine lv_goto (tgt := 2) hx hb d_B_isBlank_22 (by decide) ?_
        exact ih a1 (a2 + (1 : Int32)) z2 hf _ _ _ hP hD hS (lv_sub hl [1, 2, 0] rfl)
      · have hf := x_br_f hf hc4
        refine lv_iconst (v := (0 : Int32)) hx hb d_B_isBlank_17 (by decide) ?_
        obtain ⟨rfl, rfl⟩ := x_ret hf
        exact W.zret (v := (0 : Int32)) hx hb hr rfl (fun t ht hW => ⟨⟨_, _, rfl, ⟨rfl, rfl⟩, x_pw hP hD hK hG hS hz ht hW.alike⟩, hS.F ht⟩) hS.2.2 d_B_isBlank_18
set_option maxHeartbeats 4000000 in
set_option maxRecDepth 100000 in
theorem c_B_isBlank (l : Launch) (G : x_G) (p1 : Int32) (z0 : x_St) (r : Int32) (z9 : x_St) (hf : f_B_isBlank (x_n G) p1 z0 = some (r, z9)) : Met l (⟨"ContentLibrary$Blocks", "isBlank", "(I)Z"⟩ : MethodName) (x_ws (⟨"ContentLibrary$Blocks", "isBlank", "(I)Z"⟩ : MethodName) prog_2_method_5_code 3 (some .boolean)) rm_B_isBlank (va_Pc [.ref (x_ad G 1), .int p1] (x_PW G z0)) (va_Qi (fun a u => r = a ∧ z9 = u) (x_PW G) (x_A G)) 0 0 (x_A G) := by
  refine Met.ofW (cc := prog_2_method_5_code) (maxL := 3) (ret := (some .boolean)) (by decide) rfl ?_
  intro p e s m args below meth c s₁ B hml hv
  obtain ⟨rfl, hz, hP, hD, hK, hG⟩ := hv
  have C0 : x_Ctx G p s m _ meth c prog_2_method_5_code "ContentLibrary$Blocks" 3 (some .boolean) := ⟨B.exec, B.bytes, B.returns, hml, findClass_of_methodNamed B.named, fun w h => atoms_spec (ws := (x_ws (⟨"ContentLibrary$Blocks", "isBlank", "(I)Z"⟩ : MethodName) prog_2_method_5_code 3 (some .boolean))) B.pre w (List.mem_cons_of_mem _ h), B.notSynchronized, hz, hK, hG⟩
  obtain ⟨hx, hb, hr, hml, hown, hts, hlocks, hz, hK, hG⟩ := id C0
  have hS : va_S (x_A G) s.heap s.heap [] := va_S.rf
  have hl := lv_entry ([.ref (x_ad G 1), .int p1]) (n := 3) (Nat.le_of_ble_eq_true rfl)
  rw [lg_entry_eq]
  generalize (lg_sl ([.ref (x_ad G 1), .int p1]) ++ List.replicate (3 - (lg_sl ([.ref (x_ad G 1), .int p1])).length) Slot.unset).toArray = ls at hl ⊢
  have hl : lv_has ls 3 [(0, .ref (x_ad G 1)), (1, .int p1)] := hl
  rw [f_B_isBlank] at hf
  refine lv_iconst (v := (0 : Int32)) hx hb d_B_isBlank_0 (by decide) ?_
  refine lv_istore_n (lv' := [(2, .int (0 : Int32)), (0, .ref (x_ad G 1)), (1, .int p1)]) hx hb d_B_isBlank_1 rfl hl (by decide) rfl (fun ls hl => ?_)
  exact w_B_isBlank_2 l G C0 r z9 x_FU p1 (0 : Int32) z0 hf _ _ _ hP hD hS (lv_sub hl [1, 2, 0] rfl)
abbrev rm_B_turn : Room := { frames := 1, cells := 0, slots := 0, locals := 22 }
set_option maxHeartbeats 4000000 in
set_option maxRecDepth 100000 in
theorem c_B_turn (l : Launch) (G : x_G) (p1 : Int32) (p2 : Int32) (p3 : Int32) (z0 : x_St) (r : Int32) (z9 : x_St) (hf : f_B_turn (x_n G) p1 p2 p3 z0 = some (r, z9)) : Met l (⟨"ContentLibrary$Blocks", "turn", "(III)I"⟩ : MethodName) (x_ws (⟨"ContentLibrary$Blocks", "turn", "(III)I"⟩ : MethodName) prog_2_method_4_code 4 (some .int)) rm_B_turn (va_Pc [.ref (x_ad G 1), .int p1, .int p2, .int p3] (x_PW G z0)) (va_Qi (fun a u => r = a ∧ z9 = u) (x_PW G) (x_A G)) 0 0 (x_A G) := by
  refine Met.ofW (cc := prog_2_method_4_code) (maxL := 4) (ret := (some .int)) (by decide) rfl ?_
  intro p e s m args below meth c s₁ B hml hv
  obtain ⟨rfl, hz, hP, hD, hK, hG⟩ := hv
  have C0 : x_Ctx G p s m _ meth c prog_2_method_4_code "ContentLibrary$Blocks" 4 (some .int) := ⟨B.exec, B.bytes, B.returns, hml, findClass_of_methodNamed B.named, fun w h => atoms_spec (ws := (x_ws (⟨"ContentLibrary$Blocks", "turn", "(III)I"⟩ : MethodName) prog_2_method_4_code 4 (some .int))) B.pre w (List.mem_cons_of_mem _ h), B.notSynchronized, hz, hK, hG⟩
  obtain ⟨hx, hb, hr, hml, hown, hts, hlocks, hz, hK, hG⟩ := id C0
  have hS : va_S (x_A G) s.heap s.heap [] := va_S.rf
  have hl := lv_entry ([.ref (x_ad G 1), .int p1, .int p2, .int p3]) (n := 4) (Nat.le_of_ble_eq_true rfl)
  rw [lg_entry_eq]
  generalize (lg_sl ([.ref (x_ad G 1), .int p1, .int p2, .int p3]) ++ List.replicate (4 - (lg_sl ([.ref (x_ad G 1), .int p1, .int p2, .int p3])).length) Slot.unset).toArray = ls at hl ⊢
  have hl : lv_has ls 4 [(0, .ref (x_ad G 1)), (1, .int p1), (2, .int p2), (3, .int p3)] := hl
  rw [f_B_turn] at hf
  refine lv_aload_n hx hb d_B_turn_0 rfl (lv_at hl 0 rfl) ?_
  refine va_get (D := x_D G) (ci := 1) (v := .ref (x_ad G 2)) (C := "ContentLibrary$Blocks") (T := x_TB) (N := 5) hx hb hts x_inB hown hK hP 1 (x_lk_B G _) rfl 3 (by decide) (hts _ t_45) (fun _ h9 => h9) rfl d_B_turn_1 ?_
  refine lv_iload_n hx hb d_B_turn_4 rfl (lv_at hl 1 rfl) ?_
  refine lv_bipush (v := (64 : Int32)) hx hb d_B_turn_5 (by decide) ?_
  refine lv_imul hx hb d_B_turn_7 ?_
  refine lv_iload_n hx hb d_B_turn_8 rfl (lv_at hl 2 rfl) ?_
  refine lv_iadd hx hb d_B_turn_9 ?_
  refine lv_dup2_11 hx hb d_B_turn_10 rfl rfl ?_
  obtain ⟨hin1, hf⟩ := x_ck_some hf
  refine va_iald hx hb hK hP 2 0 (x_lk_A G _ rfl) rfl hin1 d_B_turn_11 ?_
  refine lv_iload_n hx hb d_B_turn_12 rfl (lv_at hl 3 rfl) ?_
  refine lv_ixor hx hb d_B_turn_13 ?_
  obtain ⟨hin2, hf⟩ := x_ck_some hf
  refine va_iast hx hb hK hP hD hS 2 0 (x_lk_A G _ rfl) rfl hin2 d_B_turn_14 (fun H locs hP hD hS => ?_)
  rw [x_st_A G _ (k := 2) rfl] at hP hD
  refine lv_aload_n hx hb d_B_turn_15 rfl (lv_at hl 0 rfl) ?_
  refine lv_iload_n hx hb d_B_turn_16 rfl (lv_at hl 1 rfl) ?_
  refine lv_iload_n hx hb d_B_turn_17 rfl (lv_at hl 2 rfl) ?_
  obtain ⟨r3, z3, hk4, hf⟩ := x_cl_some hf
  refine va_calli (va_runV (As := [.int p1, .int p2]) (rest := []) ⟨hx, hb, hml, hown, hts⟩ (c_B_get l G p1 p2 (x_put z0 2 (((p1 * (64 : Int32)) + p2)).toNatClampNeg ((z0.1 2 (((p1 * (64 : Int32)) + p2)).toNatClampNeg) ^^^ p3)) r3 z3 hk4) (cwV 2 hts (x_gV t_174 t_175 t_176 t_3 t_177) rfl rfl rfl (by decide +kernel) ⟨Nat.le_of_ble_eq_true rfl, Nat.le_of_ble_eq_true rfl⟩) ⟨x_blind _ _ _, va_recv hK hP (ci := 1) (q0 := 1) rfl (x_lk_B G _), fun U hU hW => ⟨rfl, x_pw hP hD hK hG hS hz hU hW.alike⟩⟩ rfl rfl hl.1 rfl (lv_room (Nat.le_of_ble_eq_true rfl)) d_B_turn_18 ⟨Nat.le_of_ble_eq_true rfl, Nat.le_of_ble_eq_true rfl⟩) hS (fun q _ h => h) (fun q h => h) (fun ra u t H locs ht hvm hw hB hz1 hk1 hS => ?_)
  obtain ⟨rfl, rfl⟩ := hw
  obtain ⟨hP, hD⟩ := x_back hB ht
  obtain ⟨rfl, rfl⟩ := x_ret hf
  exact W.iret (v := r3) hx hb hr (fun t ht hW => ⟨⟨_, _, rfl, ⟨rfl, rfl⟩, x_pw hP hD hK hG hS hz ht hW.alike⟩, hS.F ht⟩) hS.2.2 d_B_turn_21
abbrev rm_B_byteOfSum : Room := { frames := 0, cells := 0, slots := 0, locals := 0 }
set_option maxHeartbeats 4000000 in
set_option maxRecDepth 100000 in
theorem c_B_byteOfSum (l : Launch) (G : x_G) (p1 : Int32) (p2 : Int32) (z0 : x_St) (r : Int32) (z9 : x_St) (hf : f_B_byteOfSum (x_n G) p1 p2 z0 = some (r, z9)) : Met l (⟨"ContentLibrary$Blocks", "byteOfSum", "(II)I"⟩ : MethodName) (x_ws (⟨"ContentLibrary$Blocks", "byteOfSum", "(II)I"⟩ : MethodName) prog_2_method_9_code 2 (some .int)) rm_B_byteOfSum (va_Pc [.int p1, .int p2] (x_PW G z0)) (va_Qi (fun a u => r = a ∧ z9 = u) (x_PW G) (x_A G)) 0 0 (x_A G) := by
  refine Met.ofW (cc := prog_2_method_9_code) (maxL := 2) (ret := (some .int)) (by decide) rfl ?_
  intro p e s m args below meth c s₁ B hml hv
  obtain ⟨rfl, hz, hP, hD, hK, hG⟩ := hv
  have C0 : x_Ctx G p s m _ meth c prog_2_method_9_code "ContentLibrary$Blocks" 2 (some .int) := ⟨B.exec, B.bytes, B.returns, hml, findClass_of_methodNamed B.named, fun w h => atoms_spec (ws := (x_ws (⟨"ContentLibrary$Blocks", "byteOfSum", "(II)I"⟩ : MethodName) prog_2_method_9_code 2 (some .int))) B.pre w (List.mem_cons_of_mem _ h), B.notSynchronized, hz, hK, hG⟩
  obtain ⟨hx, hb, hr, hml, hown, hts, hlocks, hz, hK, hG⟩ := id C0
  have hS : va_S (x_A G) s.heap s.heap [] := va_S.rf
  have hl := lv_entry ([.int p1, .int p2]) (n := 2) (Nat.le_of_ble_eq_true rfl)
  rw [lg_entry_eq]
  generalize (lg_sl ([.int p1, .int p2]) ++ List.replicate (2 - (lg_sl ([.int p1, .int p2])).length) Slot.unset).toArray = ls at hl ⊢
  have hl : lv_has ls 2 [(0, .int p1), (1, .int p2)] := hl
  rw [f_B_byteOfSum] at hf
  refine lv_iload_n hx hb d_B_byteOfSum_0 rfl (lv_at hl 0 rfl) ?_
  refine lv_bipush (v := (8 : Int32)) hx hb d_B_byteOfSum_1 (by decide) ?_
  refine lv_iload_n hx hb d_B_byteOfSum_3 rfl (lv_at hl 1 rfl) ?_
  refine lv_imul hx hb d_B_byteOfSum_4 ?_
  refine lv_iushr (v := (x_ushr p1 ((8 : Int32) * p2))) hx hb d_B_byteOfSum_5 rfl ?_
  refine lv_sipush (v := (255 : Int32)) hx hb d_B_byteOfSum_6 (by decide) ?_
  refine lv_iand hx hb d_B_byteOfSum_9 ?_
  obtain ⟨rfl, rfl⟩ := x_ret hf
  exact W.iret (v := ((x_ushr p1 ((8 : Int32) * p2)) &&& (255 : Int32))) hx hb hr (fun t ht hW => ⟨⟨_, _, rfl, ⟨rfl, rfl⟩, x_pw hP hD hK hG hS hz ht hW.alike⟩, hS.F ht⟩) hS.2.2 d_B_byteOfSum_10
abbrev rm_B_put : Room := { frames := 0, cells := 0, slots := 0, locals := 0 }
set_option maxHeartbeats 4000000 in
set_option maxRecDepth 100000 in
theorem w_B_put_32 (l : Launch) (G : x_G) {p : Program} {e : Env} {s : State} {m : MethodId} {args : Array Value} {below : List Frame} {meth : Method} {c : Code} (C0 : x_Ctx G p s m args meth c prog_2_method_18_code "ContentLibrary$Blocks" 4 (some .boolean)) (r : Int32) (z9 : x_St) : ∀ (a1 : Int32) (a2 : Int32) (a3 : Int32) (z0 : x_St), f_B_put_32 (x_n G) a1 a2 a3 z0 = some (r, z9) → ∀ (H : Heap) (locs : List Loc) (ls : Array Slot), va_P (x_D G) vwCl (x_Wd G z0) H → va_D (x_A G) (x_Wd G z0) → va_S (x_A G) s.heap H locs → lv_has ls 4 [(0, .ref (x_ad G 1)), (1, .int a1), (2, .int a2), (3, .int a3)] → W p l e rm_B_put s m args below meth c H locs 0 0 (MQ below (va_Qi (fun a u => r = a ∧ z9 = u) (x_PW G) (x_A G)) args s 0 0 (x_A G)) (F0 m 32 ls []) := by
  obtain ⟨hx, hb, hr, hml, hown, hts, hlocks, hz, hK, hG⟩ := id C0
  intro a1 a2 a3 z0 hf H locs ls hP hD hS hl
  rw [f_B_put_32] at hf
  refine lv_aload_n hx hb d_B_put_32 rfl (lv_at hl 0 rfl) ?_
  refine va_get (D := x_D G) (ci := 1) (v := .ref (x_ad G 2)) (C := "ContentLibrary$Blocks") (T := x_TB) (N := 5) hx hb hts x_inB hown hK hP 1 (x_lk_B G _) rfl 3 (by decide) (hts _ t_45) (fun _ h9 => h9) rfl d_B_put_33 ?_
  refine lv_iload_n hx hb d_B_put_36 rfl (lv_at hl 1 rfl) ?_
  refine lv_bipush (v := (64 : Int32)) hx hb d_B_put_37 (by decide) ?_
  refine lv_imul hx hb d_B_put_39 ?_
  refine lv_iload_n hx hb d_B_put_40 rfl (lv_at hl 2 rfl) ?_
  refine lv_iadd hx hb d_B_put_41 ?_
  refine lv_iload_n hx hb d_B_put_42 rfl (lv_at hl 3 rfl) ?_
  obtain ⟨hin1, hf⟩ := x_ck_some hf
  refine va_iast hx hb hK hP hD hS 2 0 (x_lk_A G _ rfl) rfl hin1 d_B_put_43 (fun H locs hP hD hS => ?_)
  rw [x_st_A G _ (k := 2) rfl] at hP hD
  refine lv_iconst (v := (1 : Int32)) hx hb d_B_put_44 (by decide) ?_
  obtain ⟨rfl, rfl⟩ := x_ret hf
  exact W.zret (v := (1 : Int32)) hx hb hr rfl (fun t ht hW => ⟨⟨_, _, rfl, ⟨rfl, rfl⟩, x_pw hP hD hK hG hS hz ht hW.alike⟩, hS.F ht⟩) hS.2.2 d_B_put_45
set_option maxHeartbeats 4000000 in
set_option maxRecDepth 100000 in
theorem c_B_put (l : Launch) (G : x_G) (p1 : Int32) (p2 : Int32) (p3 : Int32) (z0 : x_St) (r : Int32) (z9 : x_St) (hf : f_B_put (x_n G) p1 p2 p3 z0 = some (r, z9)) : Met l (⟨"ContentLibrary$Blocks", "put", "(III)Z"⟩ : MethodName) (x_ws (⟨"ContentLibrary$Blocks", "put", "(III)Z"⟩ : MethodName) prog_2_method_18_code 4 (some .boolean)) rm_B_put (va_Pc [.ref (x_ad G 1), .int p1, .int p2, .int p3] (x_PW G z0)) (va_Qi (fun a u => r = a ∧ z9 = u) (x_PW G) (x_A G)) 0 0 (x_A G) := by
  refine Met.ofW (cc := prog_2_method_18_code) (maxL := 4) (ret := (some .boolean)) (by decide) rfl ?_
  intro p e s m args below meth c s₁ B hml hv
  obtain ⟨rfl, hz, hP, hD, hK, hG⟩ := hv
  have C0 : x_Ctx G p s m _ meth c prog_2_method_18_code "ContentLibrary$Blocks" 4 (some .boolean) := ⟨B.exec, B.bytes, B.returns, hml, findClass_of_methodNamed B.named, fun w h => atoms_spec (ws := (x_ws (⟨"ContentLibrary$Blocks", "put", "(III)Z"⟩ : MethodName) prog_2_method_18_code 4 (some .boolean))) B.pre w (List.mem_cons_of_mem _ h), B.notSynchronized, hz, hK, hG⟩
  obtain ⟨hx, hb, hr, hml, hown, hts, hlocks, hz, hK, hG⟩ := id C0
  have hS : va_S (x_A G) s.heap s.heap [] := va_S.rf
  have hl := lv_entry ([.ref (x_ad G 1), .int p1, .int p2, .int p3]) (n := 4) (Nat.le_of_ble_eq_true rfl)
  rw [lg_entry_eq]
  generalize (lg_sl ([.ref (x_ad G 1), .int p1, .int p2, .int p3]) ++ List.replicate (4 - (lg_sl ([.ref (x_ad G 1), .int p1, .int p2, .int p3])).length) Slot.unset).toArray = ls at hl ⊢
  have hl : lv_has ls 4 [(0, .ref (x_ad G 1)), (1, .int p1), (2, .int p2), (3, .int p3)] := hl
  rw [f_B_put] at hf
  refine lv_aload_n hx hb d_B_put_0 rfl (lv_at hl 0 rfl) ?_
  refine va_get (D := x_D G) (ci := 1) (v := .int (z0.1 1 1)) (C := "ContentLibrary$Blocks") (T := x_TB) (N := 5) hx hb hts x_inB hown hK hP 1 (x_lk_B G _) rfl 1 (by decide) (hts _ t_41) (fun _ h9 => h9) rfl d_B_put_1 ?_
  refine lv_if_ne (tgt := 14) hx hb d_B_put_4 (by decide) (fun hc2 => ?_) (fun hc2 => ?_)
  · have hf := x_br_f hf hc2
    refine lv_aload_n hx hb d_B_put_14 rfl (lv_at hl 0 rfl) ?_
    refine va_get (D := x_D G) (ci := 1) (v := .int (z0.1 1 1)) (C := "ContentLibrary$Blocks") (T := x_TB) (N := 5) hx hb hts x_inB hown hK hP 1 (x_lk_B G _) rfl 1 (by decide) (hts _ t_41) (fun _ h9 => h9) rfl d_B_put_15 ?_
    refine lv_iconst (v := (-1 : Int32)) hx hb d_B_put_18 (by decide) ?_
    refine lv_icmp_eq (tgt := 32) hx hb d_B_put_19 (by decide) (fun hc3 => ?_) (fun hc3 => ?_)
    · have hf := x_br_t hf hc3
      exact w_B_put_32 l G C0 r z9 p1 p2 p3 z0 hf _ _ _ hP hD hS (lv_sub hl [0, 1, 2, 3] rfl)
    · have hf := x_br_f hf hc3
      refine lv_aload_n hx hb d_B_put_22 rfl (lv_at hl 0 rfl) ?_
      refine lv_dup hx hb d_B_put_23 rfl ?_
      refine va_get (D := x_D G) (ci := 1) (v := .int (z0.1 1 1)) (C := "ContentLibrary$Blocks") (T := x_TB) (N := 5) hx hb hts x_inB hown hK hP 1 (x_lk_B G _) rfl 1 (by decide) (hts _ t_41) (fun _ h9 => h9) rfl d_B_put_24 ?_
      refine lv_iconst (v := (1 : Int32)) hx hb d_B_put_27 (by decide) ?_
      refine lv_isub hx hb d_B_put_28 ?_
      refine va_put (D := x_D G) (ci := 1) (v := .int ((z0.1 1 1) - (1 : Int32))) (ty := .int) (C := "ContentLibrary$Blocks") (T := x_TB) (N := 5) hx hb hts x_inB x_tyB x_tyB_ok x_nmB hown hK hP hD hS 1 (x_lk_B G _) rfl 1 (by decide) (hts _ t_41) (fun _ h9 => h9) rfl (by decide +kernel) rfl rfl (Nat.le_of_ble_eq_true rfl) d_B_put_29 (fun H locs hP hD hS => ?_)
      rw [x_st_B1 G _] at hP hD
      exact w_B_put_32 l G C0 r z9 p1 p2 p3 (x_put z0 1 1 ((z0.1 1 1) - (1 : Int32))) hf _ _ _ hP hD hS (lv_sub hl [0, 1, 2, 3] rfl)
  · have hf := x_br_t hf hc2
    refine lv_aload_n hx hb d_B_put_7 rfl (lv_at hl 0 rfl) ?_
    refine lv_iconst (v := (1 : Int32)) hx hb d_B_put_8 (by decide) ?_
    refine va_put (D := x_D G) (ci := 1) (v := .int (1 : Int32)) (ty := .boolean) (C := "ContentLibrary$Blocks") (T := x_TB) (N := 5) hx hb hts x_inB x_tyB x_tyB_ok x_nmB hown hK hP hD hS 1 (x_lk_B G _) rfl 2 (by decide) (hts _ t_43) (fun _ h9 => h9) rfl (by decide +kernel) rfl rfl (Nat.le_of_ble_eq_true rfl) d_B_put_9 (fun H locs hP hD hS => ?_)
    rw [x_st_B2 G _] at hP hD
    refine lv_iconst (v := (0 : Int32)) hx hb d_B_put_12 (by decide) ?_
    obtain ⟨rfl, rfl⟩ := x_ret hf
    exact W.zret (v := (0 : Int32)) hx hb hr rfl (fun t ht hW => ⟨⟨_, _, rfl, ⟨rfl, rfl⟩, x_pw hP hD hK hG hS hz ht hW.alike⟩, hS.F ht⟩) hS.2.2 d_B_put_13
abbrev rm_B_wipe : Room := { frames := 1, cells := 0, slots := 0, locals := 23 }
set_option maxHeartbeats 4000000 in
set_option maxRecDepth 100000 in
theorem w_B_wipe_39 (l : Launch) (G : x_G) {p : Program} {e : Env} {s : State} {m : MethodId} {args : Array Value} {below : List Frame} {meth : Method} {c : Code} (C0 : x_Ctx G p s m args meth c prog_2_method_17_code "ContentLibrary$Blocks" 4 (some .boolean)) (r : Int32) (z9 : x_St) : ∀ (a2 : Int32) (z0 : x_St), f_B_wipe_39 (x_n G) a2 z0 = some (r, z9) → ∀ (H : Heap) (locs : List Loc) (ls : Array Slot), va_P (x_D G) vwCl (x_Wd G z0) H → va_D (x_A G) (x_Wd G z0) → va_S (x_A G) s.heap H locs → lv_has ls 4 [(2, .int a2)] → W p l e rm_B_wipe s m args below meth c H locs 0 0 (MQ below (va_Qi (fun a u => r = a ∧ z9 = u) (x_PW G) (x_A G)) args s 0 0 (x_A G)) (F0 m 39 ls []) := by
  obtain ⟨hx, hb, hr, hml, hown, hts, hlocks, hz, hK, hG⟩ := id C0
  intro a2 z0 hf H locs ls hP hD hS hl
  rw [f_B_wipe_39] at hf
  refine lv_iload_n hx hb d_B_wipe_39 rfl (lv_at hl 0 rfl) ?_
  obtain ⟨hbo, hf⟩ := x_ckb_some hf
  obtain ⟨rfl, rfl⟩ := x_ret hf
  exact W.zret (v := a2) hx hb hr (x_nb hbo) (fun t ht hW => ⟨⟨_, _, rfl, ⟨rfl, rfl⟩, x_pw hP hD hK hG hS hz ht hW.alike⟩, hS.F ht⟩) hS.2.2 d_B_wipe_40
set_option maxHeartbeats 4000000 in
set_option maxRecDepth 100000 in
theorem w_B_wipe_10 (l : Launch) (G : x_G) {p : Program} {e : Env} {s : State} {m : MethodId} {args : Array Value} {below : List Frame} {meth : Method} {c : Code} (C0 : x_Ctx G p s m args meth c prog_2_method_17_code "ContentLibrary$Blocks" 4 (some .boolean)) (r : Int32) (z9 : x_St) : ∀ (fu : Nat), ∀ (a1 : Int32) (a2 : Int32) (a3 : Int32) (z0 : x_St), f_B_wipe_10 (x_n G) fu a1 a2 a3 z0 = some (r, z9) → ∀ (H : Heap) (locs : List Loc) (ls : Array Slot), va_P (x_D G) vwCl (x_Wd G z0) H → va_D (x_A G) (x_Wd G z0) → va_S (x_A G) s.heap H locs → lv_has ls 4 [(0, .ref (x_ad G 1)), (1, .int a1), (2, .int a2), (3, .int a3)] → W p l e rm_B_wipe s m args below meth c H locs 0 0 (MQ below (va_Qi (fun a u => r = a ∧ z9 = u) (x_PW G) (x_A G)) args s 0 0 (x_A G)) (F0 m 10 ls []) := by
  obtain ⟨hx, hb, hr, hml, hown, hts, hlocks, hz, hK, hG⟩ := id C0
  intro fu
  induction fu with
  | zero =>
    intro a1 a2 a3 z0 hf
    rw [f_B_wipe_10] at hf
    cases hf
  | succ fu ih =>
    intro a1 a2 a3 z0 hf H locs ls hP hD hS hl
    rw [f_B_wipe_10] at hf
    refine lv_iload_n hx hb d_B_wipe_10 rfl (lv_at hl 3 rfl) ?_
    refine lv_bipush (v := (64 : Int32)) hx hb d_B_wipe_11 (by decide) ?_
    refine lv_icmp_ge (tgt := 39) hx hb d_B_wipe_13 (by decide) (fun hc1 => ?_) (fun hc1 => ?_)
    · have hf := x_br_t hf hc1
      exact w_B_wipe_39 l G C0 r z9 a2 z0 hf _ _ _ hP hD hS (lv_sub hl [2] rfl)
    · have hf := x_br_f hf hc1
      refine lv_iload_n hx hb d_B_wipe_16 rfl (lv_at hl 2 rfl) ?_
      refine lv_if_eq (tgt := 39) hx hb d_B_wipe_17 (by decide) (fun hc2 => ?_) (fun hc2 => ?_)
      · have hf := x_br_t hf hc2
        exact w_B_wipe_39 l G C0 r z9 a2 z0 hf _ _ _ hP hD hS (lv_sub hl [2] rfl)
      · have hf := x_br_f hf hc2
        refine lv_iload_n hx hb d_B_wipe_20 rfl (lv_at hl 3 rfl) ?_
        refine lv_iconst (v := (4 : Int32)) hx hb d_B_wipe_21 (by decide) ?_
        refine lv_icmp_eq (tgt := 33) hx hb d_B_wipe_22 (by decide) (fun hc3 => ?_) (fun hc3 => ?_)
        · have hf := x_br_t hf hc3
          refine lv_iinc (v := (a3 + (1 : Int32))) (lv' := [(3, .int (a3 + (1 : Int32))), (0, .ref (x_ad G 1)), (1, .int a1), (2, .int a2)]) hx hb d_B_wipe_33 hl (k := 3) rfl rfl (by decide) rfl (fun ls hl => ?_)
          refine lv_goto (tgt := 10) hx hb d_B_wipe_36 (by decide) ?_
          exact ih a1 a2 (a3 + (1 : Int32)) z0 hf _ _ _ hP hD hS (lv_sub hl [1, 2, 3, 0] rfl)
        · have hf := x_br_f hf hc3
          refine lv_aload_n hx hb d_B_wipe_25 rfl (lv_at hl 0 rfl) ?_
          refine lv_iload_n hx hb d_B_wipe_26 rfl (lv_at hl 1 rfl) ?_
          refine lv_iload_n hx hb d_B_wipe_27 rfl (lv_at hl 3 rfl) ?_
          refine lv_iconst (v := (0 : Int32)) hx hb d_B_wipe_28 (by decide) ?_
          obtain ⟨r4, z4, hk5, hf⟩ := x_cl_some hf
          refine va_calli (va_runV (As := [.int a1, .int a3, .int (0 : Int32)]) (rest := []) ⟨hx, hb, hml, hown, hts⟩ (c_B_put l G a1 a3 (0 : Int32) z0 r4 z4 hk5) (cwV 3 hts (x_gV t_517 t_519 sel_ContentLibrary_Blocks_put t_3 t_520) rfl rfl rfl (by decide +kernel) ⟨Nat.le_of_ble_eq_true rfl, Nat.le_of_ble_eq_true rfl⟩) ⟨x_blind _ _ _, va_recv hK hP (ci := 1) (q0 := 1) rfl (x_lk_B G _), fun U hU hW => ⟨rfl, x_pw hP hD hK hG hS hz hU hW.alike⟩⟩ rfl rfl hl.1 rfl (lv_room (Nat.le_of_ble_eq_true rfl)) d_B_wipe_29 ⟨Nat.le_of_ble_eq_true rfl, Nat.le_of_ble_eq_true rfl⟩) hS (fun q _ h => h) (fun q h => h) (fun ra u t H locs ht hvm hw hB hz1 hk1 hS => ?_)
          obtain ⟨rfl, rfl⟩ := hw
          obtain ⟨hP, hD⟩ := x_back hB ht
          refine lv_istore_n (lv' := [(2, .int r4), (0, .ref (x_ad G 1)), (1, .int a1), (3, .int a3)]) hx hb d_B_wipe_32 rfl hl (by decide) rfl (fun ls hl => ?_)
          refine lv_iinc (v := (a3 + (1 : Int32))) (lv' := [(3, .int (a3 + (1 : Int32))), (2, .int r4), (0, .ref (x_ad G 1)), (1, .int a1)]) hx hb d_B_wipe_33 hl (k := 3) rfl rfl (by decide) rfl (fun ls hl => ?_)
          refine lv_goto (tgt := 10) hx hb d_B_wipe_36 (by decide) ?_
          exact ih a1 r4 (a3 + (1 : Int32)) z4 hf _ _ _ hP hD hS (lv_sub hl [2, 3, 1, 0] rfl)
set_option maxHeartbeats 4000000 in
set_option maxRecDepth 100000 in
theorem c_B_wipe (l : Launch) (G : x_G) (p1 : Int32) (z0 : x_St) (r : Int32) (z9 : x_St) (hf : f_B_wipe (x_n G) p1 z0 = some (r, z9)) : Met l (⟨"ContentLibrary$Blocks", "wipe", "(I)Z"⟩ : MethodName) (x_ws (⟨"ContentLibrary$Blocks", "wipe", "(I)Z"⟩ : MethodName) prog_2_method_17_code 4 (some .boolean)) rm_B_wipe (va_Pc [.ref (x_ad G 1), .int p1] (x_PW G z0)) (va_Qi (fun a u => r = a ∧ z9 = u) (x_PW G) (x_A G)) 0 0 (x_A G) := by
  refine Met.ofW (cc := prog_2_method_17_code) (maxL := 4) (ret := (some .boolean)) (by decide) rfl ?_
  intro p e s m args below meth c s₁ B hml hv
  obtain ⟨rfl, hz, hP, hD, hK, hG⟩ := hv
  have C0 : x_Ctx G p s m _ meth c prog_2_method_17_code "ContentLibrary$Blocks" 4 (some .boolean) := ⟨B.exec, B.bytes, B.returns, hml, findClass_of_methodNamed B.named, fun w h => atoms_spec (ws := (x_ws (⟨"ContentLibrary$Blocks", "wipe", "(I)Z"⟩ : MethodName) prog_2_method_17_code 4 (some .boolean))) B.pre w (List.mem_cons_of_mem _ h), B.notSynchronized, hz, hK, hG⟩
  obtain ⟨hx, hb, hr, hml, hown, hts, hlocks, hz, hK, hG⟩ := id C0
  have hS : va_S (x_A G) s.heap s.heap [] := va_S.rf
  have hl := lv_entry ([.ref (x_ad G 1), .int p1]) (n := 4) (Nat.le_of_ble_eq_true rfl)
  rw [lg_entry_eq]
  generalize (lg_sl ([.ref (x_ad G 1), .int p1]) ++ List.replicate (4 - (lg_sl ([.ref (x_ad G 1), .int p1])).length) Slot.unset).toArray = ls at hl ⊢
  have hl : lv_has ls 4 [(0, .ref (x_ad G 1)), (1, .int p1)] := hl
  rw [f_B_wipe] at hf
  refine lv_aload_n hx hb d_B_wipe_0 rfl (lv_at hl 0 rfl) ?_
  refine lv_iload_n hx hb d_B_wipe_1 rfl (lv_at hl 1 rfl) ?_
  refine lv_iconst (v := (4 : Int32)) hx hb d_B_wipe_2 (by decide) ?_
  refine lv_iconst (v := (0 : Int32)) hx hb d_B_wipe_3 (by decide) ?_
  obtain ⟨r6, z6, hk7, hf⟩ := x_cl_some hf
  refine va_calli (va_runV (As := [.int p1, .int (4 : Int32), .int (0 : Int32)]) (rest := []) ⟨hx, hb, hml, hown, hts⟩ (c_B_put l G p1 (4 : Int32) (0 : Int32) z0 r6 z6 hk7) (cwV 3 hts (x_gV t_517 t_519 sel_ContentLibrary_Blocks_put t_3 t_520) rfl rfl rfl (by decide +kernel) ⟨Nat.le_of_ble_eq_true rfl, Nat.le_of_ble_eq_true rfl⟩) ⟨x_blind _ _ _, va_recv hK hP (ci := 1) (q0 := 1) rfl (x_lk_B G _), fun U hU hW => ⟨rfl, x_pw hP hD hK hG hS hz hU hW.alike⟩⟩ rfl rfl hl.1 rfl (lv_room (Nat.le_of_ble_eq_true rfl)) d_B_wipe_4 ⟨Nat.le_of_ble_eq_true rfl, Nat.le_of_ble_eq_true rfl⟩) hS (fun q _ h => h) (fun q h => h) (fun ra u t H locs ht hvm hw hB hz1 hk1 hS => ?_)
  obtain ⟨rfl, rfl⟩ := hw
  obtain ⟨hP, hD⟩ := x_back hB ht
  refine lv_istore_n (lv' := [(2, .int r6), (0, .ref (x_ad G 1)), (1, .int p1)]) hx hb d_B_wipe_7 rfl hl (by decide) rfl (fun ls hl => ?_)
  refine lv_iconst (v := (0 : Int32)) hx hb d_B_wipe_8 (by decide) ?_
  refine lv_istore_n (lv' := [(3, .int (0 : Int32)), (2, .int r6), (0, .ref (x_ad G 1)), (1, .int p1)]) hx hb d_B_wipe_9 rfl hl (by decide) rfl (fun ls hl => ?_)
  exact w_B_wipe_10 l G C0 r z9 x_FU p1 r6 (0 : Int32) z6 hf _ _ _ hP hD hS (lv_sub hl [2, 3, 1, 0] rfl)
