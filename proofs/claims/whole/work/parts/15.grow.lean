theorem t_25 : Cond.instanceMethod (⟨"java/lang/Object", "<init>", "()V"⟩ : MethodName) ∈ x_big := x_bt 25 (by decide +kernel) (by decide +kernel)
theorem t_26 : Cond.code (⟨"java/lang/Object", "<init>", "()V"⟩ : MethodName) object_method_1_code 1 none ∈ x_big := x_bt 26 (by decide +kernel) (by decide +kernel)
theorem t_58 : Cond.arrayClass .int ∈ x_big := x_bt 58 (by decide +kernel) (by decide +kernel)
theorem t_65 : Cond.methodLink "ContentLibrary$Picture" 5 (⟨"java/lang/Object", "<init>", "()V"⟩ : MethodName) ∈ x_big := x_bt 65 (by decide +kernel) (by decide +kernel)
theorem d_P_init_0 : decode prog_5_method_1_code 0 = .ok (.aload_n 0, 1) := by decide +kernel
theorem d_P_init_1 : decode prog_5_method_1_code 1 = .ok (.invokespecial 5, 3) := by decide +kernel
theorem d_P_init_4 : decode prog_5_method_1_code 4 = .ok (.aload_n 0, 1) := by decide +kernel
theorem d_P_init_5 : decode prog_5_method_1_code 5 = .ok (.iconst 0, 1) := by decide +kernel
theorem d_P_init_6 : decode prog_5_method_1_code 6 = .ok (.putfield 11, 3) := by decide +kernel
theorem d_P_init_9 : decode prog_5_method_1_code 9 = .ok (.aload_n 0, 1) := by decide +kernel
theorem d_P_init_10 : decode prog_5_method_1_code 10 = .ok (.bipush 66, 2) := by decide +kernel
theorem d_P_init_12 : decode prog_5_method_1_code 12 = .ok (.newarray .int, 2) := by decide +kernel
theorem d_P_init_14 : decode prog_5_method_1_code 14 = .ok (.putfield 15, 3) := by decide +kernel
theorem d_P_init_17 : decode prog_5_method_1_code 17 = .ok (.aload_n 0, 1) := by decide +kernel
theorem d_P_init_18 : decode prog_5_method_1_code 18 = .ok (.iconst 0, 1) := by decide +kernel
theorem d_P_init_19 : decode prog_5_method_1_code 19 = .ok (.putfield 19, 3) := by decide +kernel
theorem d_P_init_22 : decode prog_5_method_1_code 22 = .ok (.return_, 1) := by decide +kernel
/-! WORLDS THAT GROW: the cells 0 .. t - 1, by functions: where each lies, what it is -/
def y_W (ad : Nat → Nat) (c : Nat → va_E) (t : Nat) : va_W := (List.range t).map (fun k => (ad k, c k))
theorem y_get {ad : Nat → Nat} {c : Nat → va_E} {t k : Nat} (hk : k < t) : (y_W ad c t)[k]? = some (ad k, c k) := by
  unfold y_W
  rw [List.getElem?_map, List.getElem?_range hk]
  rfl
theorem y_at {ad : Nat → Nat} {c : Nat → va_E} {t k a : Nat} {e : va_E} (hk : k < t) (ha : ad k = a) (hc : c k = e) : (y_W ad c t)[k]? = some (a, e) := by
  rw [y_get hk, ha, hc]
theorem y_out {ad : Nat → Nat} {c : Nat → va_E} {t k : Nat} (hk : ¬ k < t) : (y_W ad c t)[k]? = none := by
  unfold y_W
  rw [List.getElem?_map, List.getElem?_eq_none (by simpa using Nat.not_lt.mp hk)]
  rfl
theorem y_set {ad : Nat → Nat} {c : Nat → va_E} {t k a : Nat} {e : va_E} (hk : k < t) (ha : ad k = a) : (y_W ad c t).set k (a, e) = y_W ad (va_up c k e) t := by
  apply List.ext_getElem?
  intro j
  by_cases hj : j = k
  · subst hj
    rw [List.getElem?_set_self (by unfold y_W; simpa using hk), y_get hk, ha, va_up_self]
  · rw [List.getElem?_set_ne (Ne.symm hj)]
    by_cases hb : j < t
    · rw [y_get hb, y_get hb, va_up_ne _ _ hj]
    · rw [y_out hb, y_out hb]
theorem y_push {ad : Nat → Nat} {c : Nat → va_E} {t q : Nat} {e : va_E} : y_W ad c t ++ [(q, e)] = y_W (va_up ad t q) (va_up c t e) (t + 1) := by
  unfold y_W
  rw [List.range_succ, List.map_append, List.map_cons, List.map_nil, va_up_self, va_up_self]
  congr 1
  apply List.map_congr_left
  intro k hk
  have hk := List.mem_range.mp hk
  rw [va_up_ne _ _ (by omega), va_up_ne _ _ (by omega)]
def y_PW (G : x_G) (ad : Nat → Nat) (c : Nat → va_E) (t : Nat) (U : State) : Prop := x_s0 G ≤ U.heap.size ∧ va_P (x_D G) vwCl (y_W ad c t) U.heap ∧ va_D (x_A G) (y_W ad c t) ∧ va_K (x_D G) vwCl (x_ty G) U ∧ x_GV G U U.heap
theorem y_pw {G : x_G} {ad : Nat → Nat} {c : Nat → va_E} {n : Nat} {s t : State} {H : Heap} {locs : List Loc} (hP : va_P (x_D G) vwCl (y_W ad c n) H) (hD : va_D (x_A G) (y_W ad c n)) (hK : va_K (x_D G) vwCl (x_ty G) s) (hG : x_GV G s s.heap) (hS : va_S (x_A G) s.heap H locs) (hz : x_s0 G ≤ s.heap.size) (ht : t.heap = H) (hW : s.WarmedH t.vm) : y_PW G ad c n t := by
  subst ht
  exact ⟨Nat.le_trans hz hS.1, hP, hD, va_K.moved hW.alike hK, x_GV.warm hW (x_GV.kept hG hS.2.1)⟩
theorem y_back {G : x_G} {ad : Nat → Nat} {c : Nat → va_E} {n : Nat} {t : State} {H : Heap} (h : y_PW G ad c n t) (ht : t.heap = H) : va_P (x_D G) vwCl (y_W ad c n) H ∧ va_D (x_A G) (y_W ad c n) := by
  subst ht
  exact ⟨h.2.1, h.2.2.1⟩
theorem y_blind (G : x_G) (ad : Nat → Nat) (c : Nat → va_E) (n : Nat) (as : List Value) : FrameBlind (va_Pc as (y_PW G ad c n)) := by
  intro a U g mk q
  obtain ⟨q0, q1, q2, q3, q4, q5⟩ := q
  exact ⟨q0, q1, q2, q3, va_K.moved (u := U) (U := U.calling g mk a) (Vm.Alike.refl U.vm) q4, x_GV.warm (u := U) (U := U.calling g mk a) (State.WarmedH.refl U) q5⟩
/-- a new array's class is the one that is known -/
theorem y_caI {G : x_G} {s : State} {cA : ClassId} (h : va_K (x_D G) vwCl (x_ty G ++ [(cA, .int)]) s) : cA = x_ca G 0 := by
  have h1 : s.vm.findClass ("[" ++ FieldType.int.toString) = some cA := (h.2 5 _ rfl).2
  have h2 : s.vm.findClass ("[" ++ FieldType.int.toString) = some (x_ca G 0) := (h.2 0 _ rfl).2
  exact Option.some.inj (h1.symm.trans h2)
theorem y_caZ {G : x_G} {s : State} {cA : ClassId} (h : va_K (x_D G) vwCl (x_ty G ++ [(cA, .boolean)]) s) : cA = x_ca G 1 := by
  have h1 : s.vm.findClass ("[" ++ FieldType.boolean.toString) = some cA := (h.2 5 _ rfl).2
  have h2 : s.vm.findClass ("[" ++ FieldType.boolean.toString) = some (x_ca G 1) := (h.2 1 _ rfl).2
  exact Option.some.inj (h1.symm.trans h2)
theorem y_caJ {G : x_G} {s : State} {cA : ClassId} (h : va_K (x_D G) vwCl (x_ty G ++ [(cA, .long)]) s) : cA = x_ca G 4 := by
  have h1 : s.vm.findClass ("[" ++ FieldType.long.toString) = some cA := (h.2 5 _ rfl).2
  have h2 : s.vm.findClass ("[" ++ FieldType.long.toString) = some (x_ca G 4) := (h.2 4 _ rfl).2
  exact Option.some.inj (h1.symm.trans h2)
theorem y_caO {G : x_G} {s : State} {cA : ClassId} {C : String} (i : Nat) (hi : (x_ty G ++ [(cA, .object C)])[i]? = some (x_ca G i, .object C)) (h : va_K (x_D G) vwCl (x_ty G ++ [(cA, .object C)]) s) : cA = x_ca G i := by
  obtain ⟨-, -, -, -, -, h1⟩ := (h.2 5 _ rfl).2
  obtain ⟨-, -, -, -, -, h2⟩ := (h.2 i _ hi).2
  exact Option.some.inj (h1.symm.trans h2)
theorem y_K {G : x_G} {s : State} {cA : ClassId} {ty : FieldType} (h : va_K (x_D G) vwCl (x_ty G ++ [(cA, ty)]) s) : va_K (x_D G) vwCl (x_ty G) s := ⟨h.1, fun k q hq => h.2 k q (by
  have hk : k < (x_ty G).length := (List.getElem?_eq_some_iff.mp hq).1
  rw [List.getElem?_append_left hk]; exact hq)⟩
/-- a constructor's cells: q new, this made whole, all others as they were -/
def y_Pic (G : x_G) (ad : Nat → Nat) (c : Nat → va_E) (t k : Nat) (q : Nat) (U : State) : Prop := ∃ c1 : Nat → va_E, y_PW G (va_up ad t q) c1 (t + 1) U ∧ c1 k = .inr (2, [.int 0, .ref q, .int 0]) ∧ c1 t = .inl (x_ca G 0, 66, .inl (fun _ => 0)) ∧ ∀ j, j < t → j ≠ k → c1 j = c j
set_option maxHeartbeats 4000000 in
set_option maxRecDepth 100000 in
theorem c_P_init (l : Launch) (G : x_G) (ad : Nat → Nat) (c : Nat → va_E) (t k : Nat) (hk : k < t) (hck : c k = .inr (2, [.int 0, .null, .int 0])) : Met l (⟨"ContentLibrary$Picture", "<init>", "()V"⟩ : MethodName) (x_ws (⟨"ContentLibrary$Picture", "<init>", "()V"⟩ : MethodName) prog_5_method_1_code 1 none) ({ frames := 1, cells := 1, slots := 66, locals := 12 } : Room) (va_Pc [.ref (ad k)] (y_PW G ad c t)) (va_Qv (fun _ : Nat => True) (y_Pic G ad c t k) (x_A G)) 1 66 (x_A G) := by
  refine Met.ofW (cc := prog_5_method_1_code) (maxL := 1) (ret := none) (by decide) rfl ?_
  intro p e s m args below meth cd s₁ B hml hv
  obtain ⟨rfl, hz, hP, hD, hK, hG⟩ := hv
  obtain ⟨hx, hb, hr, hml, hown, hts, hlocks, hz, hK, hG⟩ : x_Ctx G p s m _ meth cd prog_5_method_1_code "ContentLibrary$Picture" 1 none := ⟨B.exec, B.bytes, B.returns, hml, findClass_of_methodNamed B.named, fun w h => atoms_spec (ws := (x_ws (⟨"ContentLibrary$Picture", "<init>", "()V"⟩ : MethodName) prog_5_method_1_code 1 none)) B.pre w (List.mem_cons_of_mem _ h), B.notSynchronized, hz, hK, hG⟩
  have hin : meth.name = "<init>" := (name_of_methodNamed B.named B.method).1
  have hA : ∀ q : Nat, s.heap.size ≤ q → x_A G q := fun q h => Nat.le_trans hz h
  have hS : va_S (x_A G) s.heap s.heap [] := va_S.rf
  have hl := lv_entry ([.ref (ad k)]) (n := 1) (Nat.le_of_ble_eq_true rfl)
  rw [lg_entry_eq]
  generalize (lg_sl ([.ref (ad k)]) ++ List.replicate (1 - (lg_sl ([.ref (ad k)])).length) Slot.unset).toArray = ls at hl ⊢
  have hl : lv_has ls 1 [(0, .ref (ad k))] := hl
  refine lv_aload_n hx hb d_P_init_0 rfl (lv_at hl 0 rfl) ?_
  refine W.objInit hx hb hown (hts _ t_65) (hts _ t_25) (hts _ t_26) rfl (by rw [hml]; exact hl.1) rfl d_P_init_1 (Nat.le_of_ble_eq_true rfl) (Nat.le_of_ble_eq_true rfl) ?_
  refine W.eq (g2 := F0 m 4 ls []) rfl ?_
  refine lv_aload_n hx hb d_P_init_4 rfl (lv_at hl 0 rfl) ?_
  refine lv_iconst (v := (0 : Int32)) hx hb d_P_init_5 (by decide) ?_
  refine va_put (D := x_D G) (ci := 2) (v := .int (0 : Int32)) (ty := .boolean) (C := "ContentLibrary$Picture") (T := x_TP) (N := 3) hx hb hts x_inP x_tyP x_tyP_ok x_nmP hown hK hP hD hS k (y_at hk rfl hck) rfl 0 (by decide) (hts _ t_66) (fun _ h9 => h9) rfl (by decide +kernel) rfl rfl (Nat.le_of_ble_eq_true rfl) d_P_init_6 (fun H locs hP hD hS => ?_)
  rw [y_set hk rfl] at hP hD
  obtain ⟨c1, ec1⟩ : ∃ c1, c1 = va_up c k (.inr (2, ([.int 0, .null, .int 0] : List Value).set 0 (.int 0))) := ⟨_, rfl⟩
  rw [← ec1] at hP hD
  have f1k : c1 k = .inr (2, [.int 0, .null, .int 0]) := by rw [ec1]; exact va_up_self _ _ _
  have f1 : ∀ j, j < t → j ≠ k → c1 j = c j := fun j h1 h2 => by rw [ec1, va_up_ne _ _ h2]
  refine lv_aload_n hx hb d_P_init_9 rfl (lv_at hl 0 rfl) ?_
  refine lv_bipush (v := (66 : Int32)) hx hb d_P_init_10 (by decide) ?_
  refine va_newa (atype := .int) hx hb (hts _ t_58) (ty := .int) rfl hK hP hD hS hA (N' := 66) (a0 := (66, .inl (fun _ => 0))) (fun _ => rfl) (by decide) (by decide) (by decide) (Nat.le_of_ble_eq_true rfl) (Nat.le_of_ble_eq_true rfl) d_P_init_12 (fun q cA H hK2 hP hD hS => ?_)
  obtain rfl := y_caI hK2
  rw [y_push] at hP hD
  obtain ⟨c2, ec2⟩ : ∃ c2, c2 = va_up c1 t (.inl (x_ca G 0, 66, .inl (fun _ => (0 : Int32)))) := ⟨_, rfl⟩
  rw [← ec2] at hP hD
  have a2k : va_up ad t q k = ad k := va_up_ne _ _ (by omega)
  have f2k : c2 k = .inr (2, [.int 0, .null, .int 0]) := by rw [ec2, va_up_ne _ _ (by omega)]; exact f1k
  have f2t : c2 t = .inl (x_ca G 0, 66, .inl (fun _ => 0)) := by rw [ec2]; exact va_up_self _ _ _
  have f2 : ∀ j, j < t → j ≠ k → c2 j = c j := fun j h1 h2 => by rw [ec2, va_up_ne _ _ (by omega)]; exact f1 j h1 h2
  refine W.widen (k := 1) (n := 66) (Nat.le_of_ble_eq_true rfl) (Nat.le_of_ble_eq_true rfl) ?_
  refine va_putF (D := x_D G) (ci := 2) (v := .ref q) (ty := .array .int) (C := "ContentLibrary$Picture") (T := x_TP) (N := 3) hx hb hts x_inP x_tyP x_tyP_ok x_nmP hown hK hP hD hS k (y_at (by omega) a2k f2k) rfl 1 (by decide) (hts _ t_68) (fun _ h9 => h9) rfl hin rfl (by decide +kernel) rfl rfl (Nat.le_of_ble_eq_true rfl) d_P_init_14 (fun H locs hP hD hS => ?_)
  rw [y_set (by omega) a2k] at hP hD
  obtain ⟨c3, ec3⟩ : ∃ c3, c3 = va_up c2 k (.inr (2, ([.int 0, .null, .int 0] : List Value).set 1 (.ref q))) := ⟨_, rfl⟩
  rw [← ec3] at hP hD
  have f3k : c3 k = .inr (2, [.int 0, .ref q, .int 0]) := by rw [ec3]; exact va_up_self _ _ _
  have f3t : c3 t = .inl (x_ca G 0, 66, .inl (fun _ => 0)) := by rw [ec3, va_up_ne _ _ (by omega)]; exact f2t
  have f3 : ∀ j, j < t → j ≠ k → c3 j = c j := fun j h1 h2 => by rw [ec3, va_up_ne _ _ h2]; exact f2 j h1 h2
  refine lv_aload_n hx hb d_P_init_17 rfl (lv_at hl 0 rfl) ?_
  refine lv_iconst (v := (0 : Int32)) hx hb d_P_init_18 (by decide) ?_
  refine va_put (D := x_D G) (ci := 2) (v := .int (0 : Int32)) (ty := .int) (C := "ContentLibrary$Picture") (T := x_TP) (N := 3) hx hb hts x_inP x_tyP x_tyP_ok x_nmP hown hK hP hD hS k (y_at (by omega) a2k f3k) rfl 2 (by decide) (hts _ t_71) (fun _ h9 => h9) rfl (by decide +kernel) rfl rfl (Nat.le_of_ble_eq_true rfl) d_P_init_19 (fun H locs hP hD hS => ?_)
  rw [y_set (by omega) a2k] at hP hD
  refine W.vret hx hb hr (fun T ht hW => ⟨⟨q, rfl, trivial, ⟨_, y_pw hP hD hK hG hS hz ht hW, va_up_self _ _ _, by rw [va_up_ne _ _ (by omega)]; exact f3t, fun j h1 h2 => by rw [va_up_ne _ _ h2]; exact f3 j h1 h2⟩⟩, hS.F ht⟩) hS.2.2 d_P_init_22
