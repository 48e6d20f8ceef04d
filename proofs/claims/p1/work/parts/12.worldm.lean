/-! THE REFERENCE'S CELLS: 0 the object, then its rows in the order in which they are made: 1 bytes, 2 made, 3 widths, 4 heights, 5 many, 6 samples, 7 there, 8 wide, 9 high, 10 kept, 11 markAt, 12 records, 13 recordAt, 14 prints, 15 owner, 16 foundNumber, 17 foundBits, 18 rounds, 19 roots, 20 words, 21 state, 22 message, 23 first, 24 chosen, 25 chosenDigest -/
def m_isA (k : Nat) : Bool := decide (k < 26) && !(decide (k = 0) || decide (k = 2) || decide (k = 7) || decide (k = 14))
def m_isZ (k : Nat) : Bool := decide (k = 2) || decide (k = 7)
def m_lens : List Nat := [0, 2560, 8, 8, 8, 8, 512, 16, 16, 16, 1024, 16, 16, 32, 16, 40, 16, 16, 64, 8, 64, 8, 128, 8, 3, 8]
def m_ln (n k : Nat) : Nat := m_lens.getD k 0
theorem m_isA_iff {k : Nat} : m_isA k = true ↔ k < 26 ∧ k ≠ 0 ∧ k ≠ 2 ∧ k ≠ 7 ∧ k ≠ 14 := by
  simp [m_isA, and_assoc]
theorem m_isZ_iff {k : Nat} : m_isZ k = true ↔ k = 2 ∨ k = 7 := by
  simp [m_isZ]
def m_cell (G : x_G) (k : Nat) (f : Nat → Int32) (g : Nat → Int64) : va_E :=
  if k = 0 then .inr (5, [.int (f 0), .int (f 1), .ref (x_ad G 1), .int (f 3), .int (f 4), .ref (x_ad G 2), .ref (x_ad G 3), .ref (x_ad G 4), .ref (x_ad G 5), .ref (x_ad G 6), .ref (x_ad G 7), .ref (x_ad G 8), .ref (x_ad G 9), .ref (x_ad G 10), .ref (x_ad G 11), .ref (x_ad G 12), .ref (x_ad G 13), .ref (x_ad G 14), .ref (x_ad G 15), .int (f 19), .ref (x_ad G 16), .ref (x_ad G 17), .ref (x_ad G 18), .ref (x_ad G 19), .ref (x_ad G 20), .ref (x_ad G 21), .ref (x_ad G 22), .int (f 27), .ref (x_ad G 23), .ref (x_ad G 24), .ref (x_ad G 25)])
  else if m_isZ k = true then .inl (x_ca G 1, m_ln (x_n G) k, .inl f)
  else if k = 14 then .inl (x_ca G 4, 16, .inr (.inl g))
  else .inl (x_ca G 0, m_ln (x_n G) k, .inl f)
def m_Wd (G : x_G) (z : x_St) : va_W := w_Wd (m_cell G) 26 (x_ad G) (x_rs G) z
theorem m_cell_A (G : x_G) {k : Nat} (h : m_isA k = true) (f : Nat → Int32) (g : Nat → Int64) : m_cell G k f g = .inl (x_ca G 0, m_ln (x_n G) k, .inl f) := by
  obtain ⟨h0, h1, h2, h3, h4⟩ := m_isA_iff.mp h
  unfold m_cell
  rw [if_neg h1, if_neg (by rw [m_isZ_iff]; omega), if_neg h4]
theorem m_cell_Z (G : x_G) {k : Nat} (h : m_isZ k = true) (f : Nat → Int32) (g : Nat → Int64) : m_cell G k f g = .inl (x_ca G 1, m_ln (x_n G) k, .inl f) := by
  have h0 := m_isZ_iff.mp h
  unfold m_cell
  rw [if_neg (by omega), if_pos h]
theorem m_lt_A {k : Nat} (h : m_isA k = true) : k < 26 := (m_isA_iff.mp h).1
theorem m_lt_Z {k : Nat} (h : m_isZ k = true) : k < 26 := by have := m_isZ_iff.mp h; omega
theorem m_lk_M (G : x_G) (z : x_St) : (m_Wd G z)[0]? = some (x_ad G 0, .inr (5, [.int (z.1 0 0), .int (z.1 0 1), .ref (x_ad G 1), .int (z.1 0 3), .int (z.1 0 4), .ref (x_ad G 2), .ref (x_ad G 3), .ref (x_ad G 4), .ref (x_ad G 5), .ref (x_ad G 6), .ref (x_ad G 7), .ref (x_ad G 8), .ref (x_ad G 9), .ref (x_ad G 10), .ref (x_ad G 11), .ref (x_ad G 12), .ref (x_ad G 13), .ref (x_ad G 14), .ref (x_ad G 15), .int (z.1 0 19), .ref (x_ad G 16), .ref (x_ad G 17), .ref (x_ad G 18), .ref (x_ad G 19), .ref (x_ad G 20), .ref (x_ad G 21), .ref (x_ad G 22), .int (z.1 0 27), .ref (x_ad G 23), .ref (x_ad G 24), .ref (x_ad G 25)])) := w_get (by decide)
theorem m_lk_A (G : x_G) (z : x_St) {k : Nat} (h : m_isA k = true) : (m_Wd G z)[k]? = some (x_ad G k, .inl (x_ca G 0, m_ln (x_n G) k, .inl (z.1 k))) := by
  rw [← m_cell_A G h (z.1 k) (z.2 k)]; exact w_get (m_lt_A h)
theorem m_lk_Z (G : x_G) (z : x_St) {k : Nat} (h : m_isZ k = true) : (m_Wd G z)[k]? = some (x_ad G k, .inl (x_ca G 1, m_ln (x_n G) k, .inl (z.1 k))) := by
  rw [← m_cell_Z G h (z.1 k) (z.2 k)]; exact w_get (m_lt_Z h)
theorem m_lk_J (G : x_G) (z : x_St) : (m_Wd G z)[14]? = some (x_ad G 14, .inl (x_ca G 4, 16, .inr (.inl (z.2 14)))) := w_get (by decide)
theorem m_st (G : x_G) (z : x_St) {k j : Nat} {v : Int32} {e : va_E} (hk : k < 26) (he : e = m_cell G k (upd (z.1 k) j v) (z.2 k)) : (m_Wd G z).set k (x_ad G k, e) = m_Wd G (x_put z k j v) :=
  w_set z (x_put z k j v) hk (by rw [x_put_self]; exact he) (fun i hi => x_put_ne z j v hi) (fun _ _ => rfl)
theorem m_st_A (G : x_G) (z : x_St) {k : Nat} (h : m_isA k = true) {i : Nat} {v : Int32} : (m_Wd G z).set k (x_ad G k, .inl (x_ca G 0, m_ln (x_n G) k, .inl (upd (z.1 k) i v))) = m_Wd G (x_put z k i v) := m_st G z (m_lt_A h) (by rw [m_cell_A G h])
theorem m_st_Z (G : x_G) (z : x_St) {k : Nat} (h : m_isZ k = true) {i : Nat} {v : Int32} : (m_Wd G z).set k (x_ad G k, .inl (x_ca G 1, m_ln (x_n G) k, .inl (upd (z.1 k) i v))) = m_Wd G (x_put z k i v) := m_st G z (m_lt_Z h) (by rw [m_cell_Z G h])
theorem m_st_J (G : x_G) (z : x_St) {i : Nat} {v : Int64} : (m_Wd G z).set 14 (x_ad G 14, .inl (x_ca G 4, 16, .inr (.inl (vp_updL (z.2 14) i v)))) = m_Wd G (x_putL z 14 i v) :=
  w_set z (x_putL z 14 i v) (by decide) (by rw [x_putL_self]; rfl) (fun _ _ => rfl) (fun j hj => x_putL_ne z i v hj)
theorem m_st_M0 (G : x_G) (z : x_St) {v : Int32} : (m_Wd G z).set 0 (x_ad G 0, .inr (5, ([.int (z.1 0 0), .int (z.1 0 1), .ref (x_ad G 1), .int (z.1 0 3), .int (z.1 0 4), .ref (x_ad G 2), .ref (x_ad G 3), .ref (x_ad G 4), .ref (x_ad G 5), .ref (x_ad G 6), .ref (x_ad G 7), .ref (x_ad G 8), .ref (x_ad G 9), .ref (x_ad G 10), .ref (x_ad G 11), .ref (x_ad G 12), .ref (x_ad G 13), .ref (x_ad G 14), .ref (x_ad G 15), .int (z.1 0 19), .ref (x_ad G 16), .ref (x_ad G 17), .ref (x_ad G 18), .ref (x_ad G 19), .ref (x_ad G 20), .ref (x_ad G 21), .ref (x_ad G 22), .int (z.1 0 27), .ref (x_ad G 23), .ref (x_ad G 24), .ref (x_ad G 25)] : List Value).set 0 (.int v))) = m_Wd G (x_put z 0 0 v) := m_st G z (by decide) rfl
theorem m_st_M1 (G : x_G) (z : x_St) {v : Int32} : (m_Wd G z).set 0 (x_ad G 0, .inr (5, ([.int (z.1 0 0), .int (z.1 0 1), .ref (x_ad G 1), .int (z.1 0 3), .int (z.1 0 4), .ref (x_ad G 2), .ref (x_ad G 3), .ref (x_ad G 4), .ref (x_ad G 5), .ref (x_ad G 6), .ref (x_ad G 7), .ref (x_ad G 8), .ref (x_ad G 9), .ref (x_ad G 10), .ref (x_ad G 11), .ref (x_ad G 12), .ref (x_ad G 13), .ref (x_ad G 14), .ref (x_ad G 15), .int (z.1 0 19), .ref (x_ad G 16), .ref (x_ad G 17), .ref (x_ad G 18), .ref (x_ad G 19), .ref (x_ad G 20), .ref (x_ad G 21), .ref (x_ad G 22), .int (z.1 0 27), .ref (x_ad G 23), .ref (x_ad G 24), .ref (x_ad G 25)] : List Value).set 1 (.int v))) = m_Wd G (x_put z 0 1 v) := m_st G z (by decide) rfl
theorem m_st_M3 (G : x_G) (z : x_St) {v : Int32} : (m_Wd G z).set 0 (x_ad G 0, .inr (5, ([.int (z.1 0 0), .int (z.1 0 1), .ref (x_ad G 1), .int (z.1 0 3), .int (z.1 0 4), .ref (x_ad G 2), .ref (x_ad G 3), .ref (x_ad G 4), .ref (x_ad G 5), .ref (x_ad G 6), .ref (x_ad G 7), .ref (x_ad G 8), .ref (x_ad G 9), .ref (x_ad G 10), .ref (x_ad G 11), .ref (x_ad G 12), .ref (x_ad G 13), .ref (x_ad G 14), .ref (x_ad G 15), .int (z.1 0 19), .ref (x_ad G 16), .ref (x_ad G 17), .ref (x_ad G 18), .ref (x_ad G 19), .ref (x_ad G 20), .ref (x_ad G 21), .ref (x_ad G 22), .int (z.1 0 27), .ref (x_ad G 23), .ref (x_ad G 24), .ref (x_ad G 25)] : List Value).set 3 (.int v))) = m_Wd G (x_put z 0 3 v) := m_st G z (by decide) rfl
theorem m_st_M4 (G : x_G) (z : x_St) {v : Int32} : (m_Wd G z).set 0 (x_ad G 0, .inr (5, ([.int (z.1 0 0), .int (z.1 0 1), .ref (x_ad G 1), .int (z.1 0 3), .int (z.1 0 4), .ref (x_ad G 2), .ref (x_ad G 3), .ref (x_ad G 4), .ref (x_ad G 5), .ref (x_ad G 6), .ref (x_ad G 7), .ref (x_ad G 8), .ref (x_ad G 9), .ref (x_ad G 10), .ref (x_ad G 11), .ref (x_ad G 12), .ref (x_ad G 13), .ref (x_ad G 14), .ref (x_ad G 15), .int (z.1 0 19), .ref (x_ad G 16), .ref (x_ad G 17), .ref (x_ad G 18), .ref (x_ad G 19), .ref (x_ad G 20), .ref (x_ad G 21), .ref (x_ad G 22), .int (z.1 0 27), .ref (x_ad G 23), .ref (x_ad G 24), .ref (x_ad G 25)] : List Value).set 4 (.int v))) = m_Wd G (x_put z 0 4 v) := m_st G z (by decide) rfl
theorem m_st_M19 (G : x_G) (z : x_St) {v : Int32} : (m_Wd G z).set 0 (x_ad G 0, .inr (5, ([.int (z.1 0 0), .int (z.1 0 1), .ref (x_ad G 1), .int (z.1 0 3), .int (z.1 0 4), .ref (x_ad G 2), .ref (x_ad G 3), .ref (x_ad G 4), .ref (x_ad G 5), .ref (x_ad G 6), .ref (x_ad G 7), .ref (x_ad G 8), .ref (x_ad G 9), .ref (x_ad G 10), .ref (x_ad G 11), .ref (x_ad G 12), .ref (x_ad G 13), .ref (x_ad G 14), .ref (x_ad G 15), .int (z.1 0 19), .ref (x_ad G 16), .ref (x_ad G 17), .ref (x_ad G 18), .ref (x_ad G 19), .ref (x_ad G 20), .ref (x_ad G 21), .ref (x_ad G 22), .int (z.1 0 27), .ref (x_ad G 23), .ref (x_ad G 24), .ref (x_ad G 25)] : List Value).set 19 (.int v))) = m_Wd G (x_put z 0 19 v) := m_st G z (by decide) rfl
theorem m_st_M27 (G : x_G) (z : x_St) {v : Int32} : (m_Wd G z).set 0 (x_ad G 0, .inr (5, ([.int (z.1 0 0), .int (z.1 0 1), .ref (x_ad G 1), .int (z.1 0 3), .int (z.1 0 4), .ref (x_ad G 2), .ref (x_ad G 3), .ref (x_ad G 4), .ref (x_ad G 5), .ref (x_ad G 6), .ref (x_ad G 7), .ref (x_ad G 8), .ref (x_ad G 9), .ref (x_ad G 10), .ref (x_ad G 11), .ref (x_ad G 12), .ref (x_ad G 13), .ref (x_ad G 14), .ref (x_ad G 15), .int (z.1 0 19), .ref (x_ad G 16), .ref (x_ad G 17), .ref (x_ad G 18), .ref (x_ad G 19), .ref (x_ad G 20), .ref (x_ad G 21), .ref (x_ad G 22), .int (z.1 0 27), .ref (x_ad G 23), .ref (x_ad G 24), .ref (x_ad G 25)] : List Value).set 27 (.int v))) = m_Wd G (x_put z 0 27 v) := m_st G z (by decide) rfl
/-- nothing that the start gives is wanted here -/
def m_GV (G : x_G) (U : State) (H : Heap) : Prop := True
def m_PW (G : x_G) (z : x_St) (U : State) : Prop := x_s0 G ≤ U.heap.size ∧ va_P (x_D G) vwCl (m_Wd G z) U.heap ∧ va_D (x_A G) (m_Wd G z) ∧ va_K (x_D G) vwCl (x_ty G) U ∧ m_GV G U U.heap
theorem m_pw {G : x_G} {z : x_St} {s t : State} {H : Heap} {locs : List Loc} (hP : va_P (x_D G) vwCl (m_Wd G z) H) (hD : va_D (x_A G) (m_Wd G z)) (hK : va_K (x_D G) vwCl (x_ty G) s) (hG : m_GV G s s.heap) (hS : va_S (x_A G) s.heap H locs) (hz : x_s0 G ≤ s.heap.size) (ht : t.heap = H) (hW : s.WarmedH t.vm) : m_PW G z t := by
  subst ht
  exact ⟨Nat.le_trans hz hS.1, hP, hD, va_K.moved hW.alike hK, trivial⟩
theorem m_back {G : x_G} {z : x_St} {t : State} {H : Heap} (h : m_PW G z t) (ht : t.heap = H) : va_P (x_D G) vwCl (m_Wd G z) H ∧ va_D (x_A G) (m_Wd G z) := by
  subst ht
  exact ⟨h.2.1, h.2.2.1⟩
theorem m_blind (G : x_G) (z : x_St) (as : List Value) : FrameBlind (va_Pc as (m_PW G z)) := by
  intro a U g mk q
  obtain ⟨q0, q1, q2, q3, q4, q5⟩ := q
  exact ⟨q0, q1, q2, q3, va_K.moved (u := U) (U := U.calling g mk a) (Vm.Alike.refl U.vm) q4, trivial⟩
def m_Ctx (G : x_G) (p : Program) (s : State) (m : MethodId) (args : Array Value) (meth : Method) (c : Code) (cc : ByteArray) (own : String) (nL : Nat) (ret : Option FieldType) : Prop :=
  p.tables.exec = Jvm.exec ∧ c.code = cc ∧ meth.sig.returnType = ret ∧ c.maxLocals = nL ∧ s.vm.findClass own = some m.cls ∧ (∀ w ∈ x_big, w.before args s = true) ∧ meth.locks = false ∧ x_s0 G ≤ s.heap.size ∧ va_K (x_D G) vwCl (x_ty G) s ∧ m_GV G s s.heap
