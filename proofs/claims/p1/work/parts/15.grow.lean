/-! WORLDS THAT GROW: the cells 0 .. t - 1, by functions: where each lies, what it is -/
def y_W (ad : Nat → Nat) (c : Nat → va_E) (t : Nat) : va_W := (List.range t).map (fun k => (ad k, c k))
theorem y_get {ad : Nat → Nat} {c : Nat → va_E} {t k : Nat} (hk : k < t) : (y_W ad c t)[k]? = some (ad k, c k) := by
  unfold y_W
  rw [List.getElem?_map, List.getElem?_range hk]
  rfl
theorem y_at {ad : Nat → Nat} {c : Nat → va_E} {t k a : Nat} {e : va_E} (hk : k < t) (ha : ad k = a) (hc : c k = e) : (y_W ad c t)[k]? = some (a, e) := by
  rw [y_get hk, ha, hc]
theorem y_out {ad : Nat → Nat} {c : Nat → va_E} {t k : Nat} (hk : ¬ k < t) : (y_W ad c t)[k]? = none := by
  unfold y_W
  rw [List.getElem?_map, List.getElem?_eq_none (by simpa using Nat.not_lt.mp hk)]
  rfl
theorem y_set {ad : Nat → Nat} {c : Nat → va_E} {t k a : Nat} {e : va_E} (hk : k < t) (ha : ad k = a) : (y_W ad c t).set k (a, e) = y_W ad (va_up c k e) t := by
  apply List.ext_getElem?
  intro j
  by_cases hj : j = k
  · subst hj
    rw [List.getElem?_set_self (by unfold y_W; simpa using hk), y_get hk, ha, va_up_self]
  · rw [List.getElem?_set_ne (Ne.symm hj)]
    by_cases hb : j < t
    · rw [y_get hb, y_get hb, va_up_ne _ _ hj]
    · rw [y_out hb, y_out hb]
theorem y_push {ad : Nat → Nat} {c : Nat → va_E} {t q : Nat} {e : va_E} : y_W ad c t ++ [(q, e)] = y_W (va_up ad t q) (va_up c t e) (t + 1) := by
  unfold y_W
  rw [List.range_succ, List.map_append, List.map_cons, List.map_nil, va_up_self, va_up_self]
  congr 1
  apply List.map_congr_left
  intro k hk
  have hk := List.mem_range.mp hk
  rw [va_up_ne _ _ (by omega), va_up_ne _ _ (by omega)]
def y_PW (G : x_G) (ad : Nat → Nat) (c : Nat → va_E) (t : Nat) (U : State) : Prop := x_s0 G ≤ U.heap.size ∧ va_P (x_D G) vwCl (y_W ad c t) U.heap ∧ va_D (x_A G) (y_W ad c t) ∧ va_K (x_D G) vwCl (x_ty G) U ∧ x_GV G U U.heap
theorem y_pw {G : x_G} {ad : Nat → Nat} {c : Nat → va_E} {n : Nat} {s t : State} {H : Heap} {locs : List Loc} (hP : va_P (x_D G) vwCl (y_W ad c n) H) (hD : va_D (x_A G) (y_W ad c n)) (hK : va_K (x_D G) vwCl (x_ty G) s) (hG : x_GV G s s.heap) (hS : va_S (x_A G) s.heap H locs) (hz : x_s0 G ≤ s.heap.size) (ht : t.heap = H) (hW : s.WarmedH t.vm) : y_PW G ad c n t := by
  subst ht
  exact ⟨Nat.le_trans hz hS.1, hP, hD, va_K.moved hW.alike hK, x_GV.warm hW (x_GV.kept hG hS.2.1)⟩
theorem y_back {G : x_G} {ad : Nat → Nat} {c : Nat → va_E} {n : Nat} {t : State} {H : Heap} (h : y_PW G ad c n t) (ht : t.heap = H) : va_P (x_D G) vwCl (y_W ad c n) H ∧ va_D (x_A G) (y_W ad c n) := by
  subst ht
  exact ⟨h.2.1, h.2.2.1⟩
theorem y_blind (G : x_G) (ad : Nat → Nat) (c : Nat → va_E) (n : Nat) (as : List Value) : FrameBlind (va_Pc as (y_PW G ad c n)) := by
  intro a U g mk q
  obtain ⟨q0, q1, q2, q3, q4, q5⟩ := q
  exact ⟨q0, q1, q2, q3, va_K.moved (u := U) (U := U.calling g mk a) (Vm.Alike.refl U.vm) q4, x_GV.warm (u := U) (U := U.calling g mk a) (State.WarmedH.refl U) q5⟩
/-- a new array's class is the one that is known -/
theorem y_caI {G : x_G} {s : State} {cA : ClassId} (h : va_K (x_D G) vwCl (x_ty G ++ [(cA, .int)]) s) : cA = x_ca G 0 := by
  have h1 : s.vm.findClass ("[" ++ FieldType.int.toString) = some cA := (h.2 5 _ rfl).2
  have h2 : s.vm.findClass ("[" ++ FieldType.int.toString) = some (x_ca G 0) := (h.2 0 _ rfl).2
  exact Option.some.inj (h1.symm.trans h2)
theorem y_caZ {G : x_G} {s : State} {cA : ClassId} (h : va_K (x_D G) vwCl (x_ty G ++ [(cA, .boolean)]) s) : cA = x_ca G 1 := by
  have h1 : s.vm.findClass ("[" ++ FieldType.boolean.toString) = some cA := (h.2 5 _ rfl).2
  have h2 : s.vm.findClass ("[" ++ FieldType.boolean.toString) = some (x_ca G 1) := (h.2 1 _ rfl).2
  exact Option.some.inj (h1.symm.trans h2)
theorem y_caJ {G : x_G} {s : State} {cA : ClassId} (h : va_K (x_D G) vwCl (x_ty G ++ [(cA, .long)]) s) : cA = x_ca G 4 := by
  have h1 : s.vm.findClass ("[" ++ FieldType.long.toString) = some cA := (h.2 5 _ rfl).2
  have h2 : s.vm.findClass ("[" ++ FieldType.long.toString) = some (x_ca G 4) := (h.2 4 _ rfl).2
  exact Option.some.inj (h1.symm.trans h2)
theorem y_caO {G : x_G} {s : State} {cA : ClassId} {C : String} (i : Nat) (hi : (x_ty G ++ [(cA, .object C)])[i]? = some (x_ca G i, .object C)) (h : va_K (x_D G) vwCl (x_ty G ++ [(cA, .object C)]) s) : cA = x_ca G i := by
  obtain ⟨-, -, -, -, -, h1⟩ := (h.2 5 _ rfl).2
  obtain ⟨-, -, -, -, -, h2⟩ := (h.2 i _ hi).2
  exact Option.some.inj (h1.symm.trans h2)
theorem y_K {G : x_G} {s : State} {cA : ClassId} {ty : FieldType} (h : va_K (x_D G) vwCl (x_ty G ++ [(cA, ty)]) s) : va_K (x_D G) vwCl (x_ty G) s := ⟨h.1, fun k q hq => h.2 k q (by
  have hk : k < (x_ty G).length := (List.getElem?_eq_some_iff.mp hq).1
  rw [List.getElem?_append_left hk]; exact hq)⟩
