/-! THE COMPONENT'S CELLS, by number, in the order in which they are made: 0 the library, 1 its blocks, 2 bytes, 3 image, 4 used, 5 made, 6 + 2 i a picture being made, 7 + 2 i its message, 22 kept, 23 + 5 i what is kept, then its picture, message, digest, places; 103 the digester, 104 padded, 105 schedule, 106 state, 107 the fresh digest, 108 and 109 what was found; 110 the law's own row of one long -/
def x_isP (k : Nat) : Bool := (decide (6 ≤ k) && decide (k < 22) && decide (k % 2 = 0)) || (decide (23 ≤ k) && decide (k < 103) && decide (k % 5 = 4))
def x_isK (k : Nat) : Bool := decide (23 ≤ k) && decide (k < 103) && decide (k % 5 = 3)
def x_isA (k : Nat) : Bool := decide (k < 110) && !(decide (k = 0) || decide (k = 1) || decide (k = 4) || decide (k = 5) || decide (k = 22) || decide (k = 103) || x_isP k || x_isK k)
def x_ln (n k : Nat) : Nat := if k = 2 then n * 64 else if k = 3 then 64 else if k < 22 then 66 else if k < 103 then (if k % 5 = 0 then 66 else if k % 5 = 1 then 8 else 3) else if k = 104 then 128 else if k = 105 then 64 else if k = 106 then 8 else if k = 107 then 8 else 16
theorem x_isP_iff {k : Nat} : x_isP k = true ↔ (6 ≤ k ∧ k < 22 ∧ k % 2 = 0) ∨ (23 ≤ k ∧ k < 103 ∧ k % 5 = 4) := by
  simp [x_isP, and_assoc]
theorem x_isK_iff {k : Nat} : x_isK k = true ↔ 23 ≤ k ∧ k < 103 ∧ k % 5 = 3 := by
  simp [x_isK, and_assoc]
theorem x_isA_iff {k : Nat} : x_isA k = true ↔ k < 110 ∧ k ≠ 0 ∧ k ≠ 1 ∧ k ≠ 4 ∧ k ≠ 5 ∧ k ≠ 22 ∧ k ≠ 103 ∧ x_isP k = false ∧ x_isK k = false := by
  simp [x_isA, and_assoc]
theorem x_isP_f {k : Nat} : x_isP k = false ↔ ¬ ((6 ≤ k ∧ k < 22 ∧ k % 2 = 0) ∨ (23 ≤ k ∧ k < 103 ∧ k % 5 = 4)) := by
  rw [← x_isP_iff]; cases x_isP k <;> simp
theorem x_isK_f {k : Nat} : x_isK k = false ↔ ¬ (23 ≤ k ∧ k < 103 ∧ k % 5 = 3) := by
  rw [← x_isK_iff]; cases x_isK k <;> simp
theorem x_P_A {k : Nat} (h : x_isP k = true) : x_isA (k + 1) = true := by
  rw [x_isP_iff] at h
  rw [x_isA_iff, x_isP_f, x_isK_f]; omega
theorem x_K_P {k : Nat} (h : x_isK k = true) : x_isP (k + 1) = true := by
  rw [x_isK_iff] at h
  rw [x_isP_iff]; omega
theorem x_K_A3 {k : Nat} (h : x_isK k = true) : x_isA (k + 3) = true := by
  rw [x_isK_iff] at h
  rw [x_isA_iff, x_isP_f, x_isK_f]; omega
theorem x_K_A4 {k : Nat} (h : x_isK k = true) : x_isA (k + 4) = true := by
  rw [x_isK_iff] at h
  rw [x_isA_iff, x_isP_f, x_isK_f]; omega
theorem x_in_lt {i : Int32} {n : Nat} (h : vp_in i n) : i.toNatClampNeg < n := Nat.not_le.mp fun q => h (Or.inr q)
theorem x_el_P {i : Int32} (h : vp_in i 8) : x_isP (6 + 2 * i.toNatClampNeg) = true := by
  have := x_in_lt h
  rw [x_isP_iff]; omega
theorem x_el_K {i : Int32} (h : vp_in i 16) : x_isK (23 + 5 * i.toNatClampNeg) = true := by
  have := x_in_lt h
  rw [x_isK_iff]; omega
def x_cell (G : x_G) (k : Nat) (f : Nat → Int32) (g : Nat → Int64) : va_E :=
  if k = 0 then .inr (0, [.ref (x_ad G 1), .ref (x_ad G 4), .ref (x_ad G 5), .ref (x_ad G 22), .ref (x_ad G 103), .ref (x_ad G 107), .ref (x_ad G 108), .ref (x_ad G 109), .int (f 8)])
  else if k = 1 then .inr (1, [.int (f 0), .int (f 1), .int (f 2), .ref (x_ad G 2), .ref (x_ad G 3)])
  else if k = 4 then .inl (x_ca G 1, x_n G, .inl f)
  else if k = 5 then .inl (x_ca G 2, 8, .inr (.inr (.inr (.inr (fun j => some (x_ad G (6 + 2 * j)))))))
  else if k = 22 then .inl (x_ca G 3, 16, .inr (.inr (.inr (.inr (fun j => some (x_ad G (23 + 5 * j)))))))
  else if k = 103 then .inr (4, [.ref (x_ad G 104), .ref (x_ad G 105), .ref (x_ad G 106)])
  else if k = 110 then .inl (x_ca G 4, 1, .inr (.inl g))
  else if x_isP k = true then .inr (2, [.int (f 0), .ref (x_ad G (k + 1)), .int (f 2)])
  else if x_isK k = true then .inr (3, [.int (f 0), .ref (x_ad G (k + 1)), .ref (x_ad G (k + 3)), .long (g 3), .int (f 4), .ref (x_ad G (k + 4))])
  else .inl (x_ca G 0, x_ln (x_n G) k, .inl f)
def x_Wd (G : x_G) (z : x_St) : va_W := w_Wd (x_cell G) 111 (x_ad G) (x_rs G) z
theorem x_cell_P (G : x_G) {k : Nat} (h : x_isP k = true) (f : Nat → Int32) (g : Nat → Int64) : x_cell G k f g = .inr (2, [.int (f 0), .ref (x_ad G (k + 1)), .int (f 2)]) := by
  have h2 := x_isP_iff.mp h
  unfold x_cell
  rw [if_neg (by omega), if_neg (by omega), if_neg (by omega), if_neg (by omega), if_neg (by omega), if_neg (by omega), if_neg (by omega), if_pos h]
theorem x_cell_K (G : x_G) {k : Nat} (h : x_isK k = true) (f : Nat → Int32) (g : Nat → Int64) : x_cell G k f g = .inr (3, [.int (f 0), .ref (x_ad G (k + 1)), .ref (x_ad G (k + 3)), .long (g 3), .int (f 4), .ref (x_ad G (k + 4))]) := by
  have h2 := x_isK_iff.mp h
  have h3 : ¬ x_isP k = true := by rw [x_isP_iff]; omega
  unfold x_cell
  rw [if_neg (by omega), if_neg (by omega), if_neg (by omega), if_neg (by omega), if_neg (by omega), if_neg (by omega), if_neg (by omega), if_neg h3, if_pos h]
theorem x_cell_A (G : x_G) {k : Nat} (h : x_isA k = true) (f : Nat → Int32) (g : Nat → Int64) : x_cell G k f g = .inl (x_ca G 0, x_ln (x_n G) k, .inl f) := by
  obtain ⟨h0, h1, h2, h3, h4, h5, h6, h7, h8⟩ := x_isA_iff.mp h
  unfold x_cell
  rw [if_neg h1, if_neg h2, if_neg h3, if_neg h4, if_neg h5, if_neg h6, if_neg (by omega), if_neg (by rw [h7]; decide), if_neg (by rw [h8]; decide)]
theorem x_lt_P {k : Nat} (h : x_isP k = true) : k < 111 := by have := x_isP_iff.mp h; omega
theorem x_lt_K {k : Nat} (h : x_isK k = true) : k < 111 := by have := x_isK_iff.mp h; omega
theorem x_lt_A {k : Nat} (h : x_isA k = true) : k < 111 := by have := (x_isA_iff.mp h).1; omega
theorem x_lk_X (G : x_G) (z : x_St) : (x_Wd G z)[0]? = some (x_ad G 0, .inr (0, [.ref (x_ad G 1), .ref (x_ad G 4), .ref (x_ad G 5), .ref (x_ad G 22), .ref (x_ad G 103), .ref (x_ad G 107), .ref (x_ad G 108), .ref (x_ad G 109), .int (z.1 0 8)])) := w_get (by decide)
theorem x_lk_B (G : x_G) (z : x_St) : (x_Wd G z)[1]? = some (x_ad G 1, .inr (1, [.int (z.1 1 0), .int (z.1 1 1), .int (z.1 1 2), .ref (x_ad G 2), .ref (x_ad G 3)])) := w_get (by decide)
theorem x_lk_D (G : x_G) (z : x_St) : (x_Wd G z)[103]? = some (x_ad G 103, .inr (4, [.ref (x_ad G 104), .ref (x_ad G 105), .ref (x_ad G 106)])) := w_get (by decide)
theorem x_lk_Z (G : x_G) (z : x_St) : (x_Wd G z)[4]? = some (x_ad G 4, .inl (x_ca G 1, x_n G, .inl (z.1 4))) := w_get (by decide)
theorem x_lk_O (G : x_G) (z : x_St) : (x_Wd G z)[110]? = some (x_ad G 110, .inl (x_ca G 4, 1, .inr (.inl (z.2 110)))) := w_get (by decide)
theorem x_lk_made (G : x_G) (z : x_St) : (x_Wd G z)[5]? = some (x_ad G 5, .inl (x_ca G 2, 8, .inr (.inr (.inr (.inr (fun j => some (x_ad G (6 + 2 * j)))))))) := w_get (by decide)
theorem x_lk_kept (G : x_G) (z : x_St) : (x_Wd G z)[22]? = some (x_ad G 22, .inl (x_ca G 3, 16, .inr (.inr (.inr (.inr (fun j => some (x_ad G (23 + 5 * j)))))))) := w_get (by decide)
theorem x_lk_P (G : x_G) (z : x_St) {k : Nat} (h : x_isP k = true) : (x_Wd G z)[k]? = some (x_ad G k, .inr (2, [.int (z.1 k 0), .ref (x_ad G (k + 1)), .int (z.1 k 2)])) := by
  rw [← x_cell_P G h (z.1 k) (z.2 k)]; exact w_get (x_lt_P h)
theorem x_lk_K (G : x_G) (z : x_St) {k : Nat} (h : x_isK k = true) : (x_Wd G z)[k]? = some (x_ad G k, .inr (3, [.int (z.1 k 0), .ref (x_ad G (k + 1)), .ref (x_ad G (k + 3)), .long (z.2 k 3), .int (z.1 k 4), .ref (x_ad G (k + 4))])) := by
  rw [← x_cell_K G h (z.1 k) (z.2 k)]; exact w_get (x_lt_K h)
theorem x_lk_A (G : x_G) (z : x_St) {k : Nat} (h : x_isA k = true) : (x_Wd G z)[k]? = some (x_ad G k, .inl (x_ca G 0, x_ln (x_n G) k, .inl (z.1 k))) := by
  rw [← x_cell_A G h (z.1 k) (z.2 k)]; exact w_get (x_lt_A h)
theorem x_st (G : x_G) (z : x_St) {k j : Nat} {v : Int32} {e : va_E} (hk : k < 111) (he : e = x_cell G k (upd (z.1 k) j v) (z.2 k)) : (x_Wd G z).set k (x_ad G k, e) = x_Wd G (x_put z k j v) :=
  w_set z (x_put z k j v) hk (by rw [x_put_self]; exact he) (fun i hi => x_put_ne z j v hi) (fun _ _ => rfl)
theorem x_stL (G : x_G) (z : x_St) {k j : Nat} {v : Int64} {e : va_E} (hk : k < 111) (he : e = x_cell G k (z.1 k) (vp_updL (z.2 k) j v)) : (x_Wd G z).set k (x_ad G k, e) = x_Wd G (x_putL z k j v) :=
  w_set z (x_putL z k j v) hk (by rw [x_putL_self]; exact he) (fun _ _ => rfl) (fun i hi => x_putL_ne z j v hi)
theorem x_st_X8 (G : x_G) (z : x_St) {v : Int32} : (x_Wd G z).set 0 (x_ad G 0, .inr (0, ([.ref (x_ad G 1), .ref (x_ad G 4), .ref (x_ad G 5), .ref (x_ad G 22), .ref (x_ad G 103), .ref (x_ad G 107), .ref (x_ad G 108), .ref (x_ad G 109), .int (z.1 0 8)] : List Value).set 8 (.int v))) = x_Wd G (x_put z 0 8 v) := x_st G z (by decide) rfl
theorem x_st_B1 (G : x_G) (z : x_St) {v : Int32} : (x_Wd G z).set 1 (x_ad G 1, .inr (1, ([.int (z.1 1 0), .int (z.1 1 1), .int (z.1 1 2), .ref (x_ad G 2), .ref (x_ad G 3)] : List Value).set 1 (.int v))) = x_Wd G (x_put z 1 1 v) := x_st G z (by decide) rfl
theorem x_st_B2 (G : x_G) (z : x_St) {v : Int32} : (x_Wd G z).set 1 (x_ad G 1, .inr (1, ([.int (z.1 1 0), .int (z.1 1 1), .int (z.1 1 2), .ref (x_ad G 2), .ref (x_ad G 3)] : List Value).set 2 (.int v))) = x_Wd G (x_put z 1 2 v) := x_st G z (by decide) rfl
theorem x_st_P0 (G : x_G) (z : x_St) {k : Nat} (h : x_isP k = true) {v : Int32} : (x_Wd G z).set k (x_ad G k, .inr (2, ([.int (z.1 k 0), .ref (x_ad G (k + 1)), .int (z.1 k 2)] : List Value).set 0 (.int v))) = x_Wd G (x_put z k 0 v) := x_st G z (x_lt_P h) (by rw [x_cell_P G h]; rfl)
theorem x_st_P2 (G : x_G) (z : x_St) {k : Nat} (h : x_isP k = true) {v : Int32} : (x_Wd G z).set k (x_ad G k, .inr (2, ([.int (z.1 k 0), .ref (x_ad G (k + 1)), .int (z.1 k 2)] : List Value).set 2 (.int v))) = x_Wd G (x_put z k 2 v) := x_st G z (x_lt_P h) (by rw [x_cell_P G h]; rfl)
theorem x_st_K0 (G : x_G) (z : x_St) {k : Nat} (h : x_isK k = true) {v : Int32} : (x_Wd G z).set k (x_ad G k, .inr (3, ([.int (z.1 k 0), .ref (x_ad G (k + 1)), .ref (x_ad G (k + 3)), .long (z.2 k 3), .int (z.1 k 4), .ref (x_ad G (k + 4))] : List Value).set 0 (.int v))) = x_Wd G (x_put z k 0 v) := x_st G z (x_lt_K h) (by rw [x_cell_K G h]; rfl)
theorem x_st_K4 (G : x_G) (z : x_St) {k : Nat} (h : x_isK k = true) {v : Int32} : (x_Wd G z).set k (x_ad G k, .inr (3, ([.int (z.1 k 0), .ref (x_ad G (k + 1)), .ref (x_ad G (k + 3)), .long (z.2 k 3), .int (z.1 k 4), .ref (x_ad G (k + 4))] : List Value).set 4 (.int v))) = x_Wd G (x_put z k 4 v) := x_st G z (x_lt_K h) (by rw [x_cell_K G h]; rfl)
theorem x_st_K3 (G : x_G) (z : x_St) {k : Nat} (h : x_isK k = true) {v : Int64} : (x_Wd G z).set k (x_ad G k, .inr (3, ([.int (z.1 k 0), .ref (x_ad G (k + 1)), .ref (x_ad G (k + 3)), .long (z.2 k 3), .int (z.1 k 4), .ref (x_ad G (k + 4))] : List Value).set 3 (.long v))) = x_Wd G (x_putL z k 3 v) := x_stL G z (x_lt_K h) (by rw [x_cell_K G h]; rfl)
theorem x_st_Z (G : x_G) (z : x_St) {i : Nat} {v : Int32} : (x_Wd G z).set 4 (x_ad G 4, .inl (x_ca G 1, x_n G, .inl (upd (z.1 4) i v))) = x_Wd G (x_put z 4 i v) := x_st G z (by decide) rfl
theorem x_st_A (G : x_G) (z : x_St) {k : Nat} (h : x_isA k = true) {i : Nat} {v : Int32} : (x_Wd G z).set k (x_ad G k, .inl (x_ca G 0, x_ln (x_n G) k, .inl (upd (z.1 k) i v))) = x_Wd G (x_put z k i v) := x_st G z (x_lt_A h) (by rw [x_cell_A G h])
theorem x_cpT_A (G : x_G) (z : x_St) (f : Nat → Int32) (sp dp w : Nat) {k2 : Nat} (h : x_isA k2 = true) : (x_Wd G z).set k2 (x_ad G k2, .inl (x_ca G 0, x_ln (x_n G) k2, .inl (va_cpy f (z.1 k2) sp dp w))) = x_Wd G (x_cpyT z f sp k2 dp w) :=
  w_set z (x_cpyT z f sp k2 dp w) (x_lt_A h) (by rw [show (x_cpyT z f sp k2 dp w).1 k2 = va_cpy f (z.1 k2) sp dp w from va_up_self _ _ _]; exact (x_cell_A G h _ _).symm) (fun i hi => va_up_ne _ _ hi) (fun _ _ => rfl)
theorem x_cp_A (G : x_G) (z : x_St) (k1 sp dp w : Nat) {k2 : Nat} (h : x_isA k2 = true) : (x_Wd G z).set k2 (x_ad G k2, .inl (x_ca G 0, x_ln (x_n G) k2, .inl (va_cpy (z.1 k1) (z.1 k2) sp dp w))) = x_Wd G (x_cpy z k1 sp k2 dp w) := x_cpT_A G z (z.1 k1) sp dp w h
theorem x_st_O (G : x_G) (z : x_St) {i : Nat} {v : Int64} : (x_Wd G z).set 110 (x_ad G 110, .inl (x_ca G 4, 1, .inr (.inl (vp_updL (z.2 110) i v)))) = x_Wd G (x_putL z 110 i v) := x_stL G z (by decide) rfl
def x_ty (G : x_G) : List (ClassId × FieldType) := [(x_ca G 0, .int), (x_ca G 1, .boolean), (x_ca G 2, .object "ContentLibrary$Picture"), (x_ca G 3, .object "ContentLibrary$Kept"), (x_ca G 4, .long)]
/-- the digester's tables, as the start gives them -/
def x_START (j : Nat) : Int32 := ([1779033703, (-1150833019), 1013904242, (-1521486534), 1359893119, (-1694144372), 528734635, 1541459225] : List Int32).getD j 0
def x_ROUND (j : Nat) : Int32 := ([1116352408, 1899447441, (-1245643825), (-373957723), 961987163, 1508970993, (-1841331548), (-1424204075), (-670586216), 310598401, 607225278, 1426881987, 1925078388, (-2132889090), (-1680079193), (-1046744716), (-459576895), (-272742522), 264347078, 604807628, 770255983, 1249150122, 1555081692, 1996064986, (-1740746414), (-1473132947), (-1341970488), (-1084653625), (-958395405), (-710438585), 113926993, 338241895, 666307205, 773529912, 1294757372, 1396182291, 1695183700, 1986661051, (-2117940946), (-1838011259), (-1564481375), (-1474664885), (-1035236496), (-949202525), (-778901479), (-694614492), (-200395387), 275423344, 430227734, 506948616, 659060556, 883997877, 958139571, 1322822218, 1537002063, 1747873779, 1955562222, 2024104815, (-2067236844), (-1933114872), (-1866530822), (-1538233109), (-1090935817), (-965641998)] : List Int32).getD j 0
/-- where a static field lies, its class's statics cell in H -/
def e_L (C n d : String) (A : Nat → Prop) (U : State) (H : Heap) : Prop := ∃ (c : ClassId) (k : Class) (i : Nat) (f : Field) (a : Nat) (cell : Cell), (U.vm.findClass C = some c ∧ U.fieldFound? C n d = some (c, k, i, f) ∧ f.isStatic = true ∧ k.statics = some a ∧ k.staticTypes[f.slot]? = some f.type) ∧ H[a]? = some cell ∧ (cell.vm.isStatics = true ∧ cell.cls = c ∧ f.slot < cell.slots.size) ∧ ¬ A a
theorem e_L.moved {C n d : String} {A : Nat → Prop} {u U : State} {H : Heap} (hvm : u.vm.Alike U.vm) (h : e_L C n d A u H) : e_L C n d A U H := by
  obtain ⟨c, k, i, f, a, cell, ⟨h1, h2, h3, h4, h5⟩, h6, h7, h8⟩ := h
  obtain ⟨k', hi, hk⟩ := State.fieldFound?_setVm hvm h2
  exact ⟨c, k', i, f, a, cell, ⟨by rw [hvm.findClass]; exact h1, hi, h3, by rw [hk]; exact h4, by rw [hk]; exact h5⟩, h6, h7, h8⟩
theorem e_L.kept {C n d : String} {A : Nat → Prop} {U : State} {H H1 : Heap} (h : e_L C n d A U H) (hq : ∀ a : Nat, a < H.size → ¬ A a → H1[a]? = H[a]?) : e_L C n d A U H1 := by
  obtain ⟨c, k, i, f, a, cell, h1, h6, h7, h8⟩ := h
  exact ⟨c, k, i, f, a, cell, h1, (hq a (Array.getElem?_eq_some_iff.mp h6).1 h8).trans h6, h7, h8⟩
theorem e_L.word {C n d : String} {A : Nat → Prop} {s : State} {args : Array Value} (h : e_L C n d A s s.heap) : (Cond.laysStatic C n d).before args s = true := by
  obtain ⟨c, k, i, f, a, cell, ⟨h1, h2, h3, h4, h5⟩, h6, ⟨h7, h8, h9⟩, -⟩ := h
  exact Cond.laysStatic_of h1 h2 h3 h4 h6 h7 h8 h9 h5
theorem e_L.of {args : Array Value} {s : State} {C n d : String} {A : Nat → Prop} (hl : (Cond.laysStatic C n d).before args s = true) (hA : ∀ a : Nat, a < s.heap.size → ¬ A a) : e_L C n d A s s.heap := by
  obtain ⟨c, k, i, f, a, cell, h1, h2, h3, h4, h5, h6, h7, h8, h9⟩ := Cond.laysStatic_spec hl
  exact ⟨c, k, i, f, a, cell, ⟨h1, h2, h3, h4, h9⟩, h5, ⟨h6, h7, h8⟩, hA a (Array.getElem?_eq_some_iff.mp h5).1⟩
theorem e_ref {C n d : String} {A : Nat → Prop} {s : State} {args : Array Value} (h : va_Zq C n d A s s.heap) : (Cond.isRef (.static C n d)).before args s = true := by
  obtain ⟨v, hv, cf, kf, fi, f, a, cell, h1, h2, h3, h4, h5, h6, h7, -⟩ : ∃ v : Value, v.isRef = true ∧ va_Z C n d v A s s.heap := by
    rcases h with h | ⟨t, h⟩
    · exact ⟨_, rfl, h⟩
    · exact ⟨_, rfl, h⟩
  have he : (Term.static C n d).eval args s none [] s = some v := by
    simp [Term.eval, State.fieldNamed?, h1, h2, h4, h5, h6, h7]
  simp only [Cond.before, Cond.holds, Cond.value, he]
  cases v <;> simp_all [Value.isRef]
def x_excs : List String := ["java/lang/IllegalStateException", "java/lang/IllegalArgumentException", "java/lang/IndexOutOfBoundsException", "java/lang/UnsupportedOperationException"]
def x_decls : List MethodName := [⟨"java/lang/RuntimeException", "<init>", "(Ljava/lang/String;)V"⟩, ⟨"java/lang/Exception", "<init>", "(Ljava/lang/String;)V"⟩, ⟨"java/lang/Throwable", "<init>", "(Ljava/lang/String;)V"⟩]
def x_strs : List (Nat × String) := [(253, "the library is cut"), (75, "a width and a height are 1 .. 8"), (90, "eight pictures are being made"), (264, "no such picture is being made"), (97, "samples come by one or more"), (262, "the picture is not whole"), (132, "there is no number or no room in the blocks"), (266, "no such number is there"), (147, "a digest has the words 0 .. 7"), (167, "no such sample"), (172, "a bound is 0 .. 64"), (188, "nothing was found at that place"), (190, "of what was found, 0 and 1 are told"), (208, "a fuse is of 0 bytes or more, or NONE"), (256, "no such byte of a block"), (228, "a mask is 0 .. 255")]
abbrev x_thN : String := "java/lang/Throwable"
/-- what throwing needs of the start -/
def x_GX (G : x_G) (U : State) (H : Heap) : Prop := ((∀ E ∈ x_excs, va_Nw (.castable E E) U) ∧ ∀ E ∈ x_excs, ∀ F ∈ x_excs, E ≠ F → va_Nc E F U) ∧ (∀ y ∈ x_decls, va_Nw (.declares y) U) ∧ (∀ q ∈ x_strs, ∃ a, vk_R "ContentLibrary" q.1 q.2 a U) ∧ (va_Zq x_thN "UNASSIGNED_STACK" "[Ljava/lang/StackTraceElement;" (x_A G) U H ∧ e_L x_thN "UNASSIGNED_STACK" "[Ljava/lang/StackTraceElement;" (x_A G) U H) ∧ (va_Zq x_thN "SUPPRESSED_SENTINEL" "Ljava/util/List;" (x_A G) U H ∧ e_L x_thN "SUPPRESSED_SENTINEL" "Ljava/util/List;" (x_A G) U H)
theorem x_GX.warm {G : x_G} {u U : State} {H : Heap} (hW : u.WarmedH U.vm) (h : x_GX G u H) : x_GX G U H := by
  obtain ⟨h1, h2, h3, h4, h5⟩ := h
  exact ⟨⟨fun E hE => va_Nw.warmC hW (h1.1 E hE), fun E hE F hF n => va_Nc.moved hW.alike (h1.2 E hE F hF n)⟩, fun y hy => va_Nw.warmD hW (h2 y hy), fun q hq => (h3 q hq).elim fun a ha => ⟨a, vk_R.warm hW ha⟩, ⟨va_Zq.moved hW.alike h4.1, e_L.moved hW.alike h4.2⟩, ⟨va_Zq.moved hW.alike h5.1, e_L.moved hW.alike h5.2⟩⟩
theorem x_GX.kept {G : x_G} {U : State} {H H1 : Heap} (h : x_GX G U H) (hq : ∀ a : Nat, a < H.size → ¬ x_A G a → H1[a]? = H[a]?) : x_GX G U H1 :=
  ⟨h.1, h.2.1, h.2.2.1, ⟨va_Zq.kept h.2.2.2.1.1 hq, e_L.kept h.2.2.2.1.2 hq⟩, ⟨va_Zq.kept h.2.2.2.2.1 hq, e_L.kept h.2.2.2.2.2 hq⟩⟩
/-- what the start gives, and nobody writes -/
def x_GV (G : x_G) (U : State) (H : Heap) : Prop := ((∃ tS tR : Nat, va_Z "ContentLibrary$Digester" "START" "[I" (.ref tS) (x_A G) U H ∧ va_T .int tS 8 (fun j => .int (x_START j)) (x_A G) U H ∧ va_Z "ContentLibrary$Digester" "ROUND" "[I" (.ref tR) (x_A G) U H ∧ va_T .int tR 64 (fun j => .int (x_ROUND j)) (x_A G) U H) ∧ va_AO "ContentLibrary$Picture" U ∧ va_AO "ContentLibrary$Kept" U) ∧ x_GX G U H
theorem x_GV.warm {G : x_G} {u U : State} {H : Heap} (hW : u.WarmedH U.vm) (h : x_GV G u H) : x_GV G U H := by
  obtain ⟨⟨⟨tS, tR, h1, h2, h3, h4⟩, h6, h7⟩, h5⟩ := h
  exact ⟨⟨⟨tS, tR, va_Z.moved hW.alike h1, va_T.moved hW.alike h2, va_Z.moved hW.alike h3, va_T.moved hW.alike h4⟩, va_AO.moved hW.alike h6, va_AO.moved hW.alike h7⟩, h5.warm hW⟩
theorem x_GV.kept {G : x_G} {U : State} {H H1 : Heap} (h : x_GV G U H) (hq : ∀ a : Nat, a < H.size → ¬ x_A G a → H1[a]? = H[a]?) : x_GV G U H1 := by
  obtain ⟨⟨⟨tS, tR, h1, h2, h3, h4⟩, h67⟩, h5⟩ := h
  exact ⟨⟨⟨tS, tR, va_Z.kept h1 hq, va_T.kept h2 hq, va_Z.kept h3 hq, va_T.kept h4 hq⟩, h67⟩, h5.kept hq⟩
/-- the world: the cells as z says -/
def x_PW (G : x_G) (z : x_St) (U : State) : Prop := x_s0 G ≤ U.heap.size ∧ va_P (x_D G) vwCl (x_Wd G z) U.heap ∧ va_D (x_A G) (x_Wd G z) ∧ va_K (x_D G) vwCl (x_ty G) U ∧ x_GV G U U.heap
theorem x_pw {G : x_G} {z : x_St} {s t : State} {H : Heap} {locs : List Loc} (hP : va_P (x_D G) vwCl (x_Wd G z) H) (hD : va_D (x_A G) (x_Wd G z)) (hK : va_K (x_D G) vwCl (x_ty G) s) (hG : x_GV G s s.heap) (hS : va_S (x_A G) s.heap H locs) (hz : x_s0 G ≤ s.heap.size) (ht : t.heap = H) (hW : s.WarmedH t.vm) : x_PW G z t := by
  subst ht
  exact ⟨Nat.le_trans hz hS.1, hP, hD, va_K.moved hW.alike hK, x_GV.warm hW (x_GV.kept hG hS.2.1)⟩
theorem x_pwk {G : x_G} {z : x_St} {s t : State} {H : Heap} {locs : List Loc} (hP : va_P (x_D G) vwCl (x_Wd G z) H) (hD : va_D (x_A G) (x_Wd G z)) (hK : va_K (x_D G) vwCl (x_ty G) s) (hG : x_GV G s s.heap) (hS : va_S (x_A G) s.heap H locs) (hz : x_s0 G ≤ s.heap.size) (h1 : H.size ≤ t.heap.size) (h2 : ∀ q : Nat, q < H.size → t.heap[q]? = H[q]?) (hW : s.WarmedH t.vm) : x_PW G z t :=
  ⟨Nat.le_trans hz (Nat.le_trans hS.1 h1), hP.kept (fun k q hq => h2 q.1 (hP k q hq).lt), hD, va_K.moved hW.alike hK, x_GV.warm hW (x_GV.kept hG (fun a ha hn => (h2 a (Nat.lt_of_lt_of_le ha hS.1)).trans (hS.2.1 a ha hn)))⟩
theorem x_back {G : x_G} {z : x_St} {t : State} {H : Heap} (h : x_PW G z t) (ht : t.heap = H) : va_P (x_D G) vwCl (x_Wd G z) H ∧ va_D (x_A G) (x_Wd G z) := by
  subst ht
  exact ⟨h.2.1, h.2.2.1⟩
theorem x_blind (G : x_G) (z : x_St) (as : List Value) : FrameBlind (va_Pc as (x_PW G z)) := by
  intro a U g mk q
  obtain ⟨q0, q1, q2, q3, q4, q5⟩ := q
  exact ⟨q0, q1, q2, q3, va_K.moved (u := U) (U := U.calling g mk a) (Vm.Alike.refl U.vm) q4, x_GV.warm (u := U) (U := U.calling g mk a) (State.WarmedH.refl U) q5⟩
def x_Ctx (G : x_G) (p : Program) (s : State) (m : MethodId) (args : Array Value) (meth : Method) (c : Code) (cc : ByteArray) (own : String) (nL : Nat) (ret : Option FieldType) : Prop :=
  p.tables.exec = Jvm.exec ∧ c.code = cc ∧ meth.sig.returnType = ret ∧ c.maxLocals = nL ∧ s.vm.findClass own = some m.cls ∧ (∀ w ∈ x_big, w.before args s = true) ∧ meth.locks = false ∧ x_s0 G ≤ s.heap.size ∧ va_K (x_D G) vwCl (x_ty G) s ∧ x_GV G s s.heap
theorem x_pr {α β : Type} {a c : α} {b d : β} (h : (a, b) = (c, d)) : a = c ∧ b = d := by cases h; exact ⟨rfl, rfl⟩
