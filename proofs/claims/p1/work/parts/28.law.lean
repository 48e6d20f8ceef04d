/-! THE CLAIM OUT OF ONE WALK OF THE LAW'S BODY. Your part is whole_start (and what it stands on); all else here is the same for every law, but numbers. -/
def R_law : String := "ContentLibraryLaw"
def lw_P (b : Addr) (xs : List Int32) (args : Array Value) (s : State) : Prop := args = #[.ref b] ∧ s.IntsAt b xs ∧ xs.length ≤ 6 ∧ (Jvm.Cond.and given_1 narrow_1).before args s = true
def lw_Q (_ : Array Value) (s : State) (o : Outcome) (t : State) : Prop := o = .returned (some (.int 1)) ∧ Framed s o t [] 600002 7302197
def lw_Z (below : List Frame) (a : Array Value) (s : State) : State → Prop := fun t => ∃ o, t.status = .running ∧ Ended t below o ∧ lw_Q a s o t
/-- the law's own end, with 1 on the stack, nothing written that was there before, its room as the claim has it -/
theorem lw_ret {p : Program} {l : Launch} {e : Env} {s : State} {m : MethodId} {below : List Frame} {meth : Method} {c : Code} {b : Nat} (hx : p.tables.exec = Jvm.exec) (hb : c.code = code) (hr : meth.sig.returnType = ret) (hlocks : meth.locks = false) {pc : Nat} {H : Heap} {ls : Array Slot} (hdg : decode code pc = .ok (.ireturn, 1)) : W p l e room_1 s m #[Value.ref b] below meth c H [] 600002 7302197 (lw_Z below #[Value.ref b] s) (F0 m pc ls [.int 1]) := by
  intro T hT X
  obtain ⟨fs, hret, hrun, hended, hW, hframe⟩ := X.leave (v := some (.int 1)) (hlocks := hlocks) (fun h => by rw [hr] at h; cases h)
  have hmeth' : T.vm.method? m = some meth := X.method'
  refine ⟨T.setFrames fs, ?_, .returned (some (.int 1)), hrun, hended, rfl, ⟨_, rfl⟩, hW, hframe⟩
  jvm_step X.here [X.here.top, hx, hb, hdg, hmeth', hr, ret, narrow_b1]
  (try refine ⟨rfl, ?_⟩); (try refine ⟨rfl, ?_⟩)
  first | (intro acts; rw [hret _ acts rfl rfl rfl]) | rw [hret _ _ rfl rfl rfl]
  exact Steps.refl _
/-- what holds at the law's entry: the machine, the code, the tables' words (any of lw_tbl by 'hts w (by decide +kernel)'), the script of L ints xs at the cell b, what the Statement gives of the start (any of its parts by flat_of_before) -/
def lw_At (p : Program) (s : State) (m : MethodId) (meth : Method) (c : Code) (b L : Nat) (xs : Nat → Int32) : Prop :=
  p.tables.exec = Jvm.exec ∧ c.code = code ∧ meth.sig.returnType = ret ∧ c.maxLocals = 8 ∧ s.vm.findClass R_law = some m.cls ∧ (∀ w ∈ lw_tbl, w.before #[Value.ref b] s = true) ∧ va_X b L xs s s.heap ∧ b < s.heap.size ∧ meth.locks = false ∧ (Jvm.Cond.and given_1 narrow_1).before #[Value.ref b] s = true
theorem d_L_law_1044 : decode code 1044 = .ok (.iconst 1, 1) := by decide +kernel
theorem d_L_law_1045 : decode code 1045 = .ok (.ireturn, 1) := by decide +kernel
theorem d_L_law_1038 : decode code 1038 = .ok (.iinc 4 5, 3) := by decide +kernel
theorem d_L_law_1041 : decode code 1041 = .ok (.goto (-1008), 3) := by decide +kernel
theorem d_L_law_33 : decode code 33 = .ok (.iload 4, 2) := by decide +kernel
theorem d_L_law_35 : decode code 35 = .ok (.aload_n 0, 1) := by decide +kernel
theorem d_L_law_36 : decode code 36 = .ok (.arraylength, 1) := by decide +kernel
theorem d_L_law_37 : decode code 37 = .ok (.iconst 5, 1) := by decide +kernel
theorem d_L_law_38 : decode code 38 = .ok (.isub, 1) := by decide +kernel
theorem d_L_law_39 : decode code 39 = .ok (.if_icmp .gt 1005, 3) := by decide +kernel
theorem l_cmp {a b : Int64} (h : a = b) : lg_cmp a b = 0 := by
  subst h
  unfold lg_cmp
  rw [if_neg (Int64.lt_irrefl), if_pos rfl]
theorem l_clamp (v : Int32) : ∃ n : Nat, n ≤ 40 ∧ (if (1 : Int32) < (if (40 : Int32) < v then (40 : Int32) else v) then (if (40 : Int32) < v then (40 : Int32) else v) else (1 : Int32)) = nI n ∧ (v < 1 → (1 : Int32) = nI n) ∧ (¬ v < 1 → (40 : Int32) < v → (40 : Int32) = nI n) ∧ (¬ v < 1 → ¬ (40 : Int32) < v → v = nI n) := by
  have e1 : (1 : Int32).toInt = 1 := by decide
  have e40 : (40 : Int32).toInt = 40 := by decide
  have e0 : (0 : Int32).toInt = 0 := by decide
  by_cases h2 : (40 : Int32) < v
  · refine ⟨40, by decide, ?_, fun h => ?_, fun _ _ => rfl, fun _ h => absurd h2 h⟩
    · rw [if_pos h2, if_pos (by decide)]; rfl
    · rw [Int32.lt_iff_toInt_lt] at h h2
      omega
  · by_cases h1 : v < 1
    · refine ⟨1, by decide, ?_, fun _ => rfl, fun h => absurd h1 h, fun h => absurd h1 h⟩
      rw [if_neg h2, if_neg (fun h => by rw [Int32.lt_iff_toInt_lt] at h h1; omega)]; rfl
    · obtain ⟨j, hj, ej⟩ := nI_of2 (x := v) (M := 40) (n := 40) (by decide) (fun h => h1 (by rw [Int32.lt_iff_toInt_lt] at h ⊢; omega)) (Int32.not_lt.mp h2)
      refine ⟨j, hj, ?_, fun h => absurd h h1, fun _ h => absurd h h2, fun _ _ => ej⟩
      rw [if_neg h2]
      by_cases h3 : (1 : Int32) < v
      · rw [if_pos h3]; exact ej
      · rw [if_neg h3]
        have e : v = 1 := Int32.toInt_inj.mp (by
          rw [Int32.lt_iff_toInt_lt] at h1 h3
          omega)
        rw [← ej, e]
theorem d_cell_0 : decode method_2_code 0 = .ok (.iload_n 1, 1) := by decide +kernel
theorem d_cell_1 : decode method_2_code 1 = .ok (.aload_n 0, 1) := by decide +kernel
theorem d_cell_2 : decode method_2_code 2 = .ok (.arraylength, 1) := by decide +kernel
theorem d_cell_3 : decode method_2_code 3 = .ok (.if_icmp .ge 9, 3) := by decide +kernel
theorem d_cell_6 : decode method_2_code 6 = .ok (.aload_n 0, 1) := by decide +kernel
theorem d_cell_7 : decode method_2_code 7 = .ok (.iload_n 1, 1) := by decide +kernel
theorem d_cell_8 : decode method_2_code 8 = .ok (.iaload, 1) := by decide +kernel
theorem d_cell_9 : decode method_2_code 9 = .ok (.goto 4, 3) := by decide +kernel
theorem d_cell_12 : decode method_2_code 12 = .ok (.iconst 0, 1) := by decide +kernel
theorem d_cell_13 : decode method_2_code 13 = .ok (.ireturn, 1) := by decide +kernel
set_option maxHeartbeats 4000000 in
set_option maxRecDepth 100000 in
theorem c_L_cell (l : Launch) (b L : Nat) (xs : Nat → Int32) (hL : L ≤ 2561) : Met l (⟨"ContentLibraryLaw", "cell", "([II)I"⟩ : MethodName) (x_ws (⟨"ContentLibraryLaw", "cell", "([II)I"⟩ : MethodName) method_2_code 2 (some .int)) { frames := 0, cells := 0, slots := 0, locals := 0 } (va_Pc [.ref b, .int 0] (fun U => b < U.heap.size ∧ va_X b L xs U U.heap)) (va_Qi (fun a (_ : Unit) => a = if 0 < L then xs 0 else 0) (fun _ _ => True) (fun _ => False)) 0 0 (fun _ => False) := by
  refine Met.ofW (cc := method_2_code) (maxL := 2) (ret := (some .int)) (by decide) rfl ?_
  intro p e s m args below meth c s₁ B hml hv
  obtain ⟨rfl, hbl, hX⟩ := hv
  have hx := B.exec
  have hb := B.bytes
  have hr := B.returns
  have hbA : ¬ (fun _ : Nat => False) b := fun h => h
  have hS : va_S (fun _ : Nat => False) s.heap s.heap [] := va_S.rf
  have hl := lv_entry ([.ref b, .int 0]) (n := 2) (Nat.le_of_ble_eq_true rfl)
  rw [lg_entry_eq]
  generalize (lg_sl ([.ref b, .int 0]) ++ List.replicate (2 - (lg_sl ([.ref b, .int 0])).length) Slot.unset).toArray = ls at hl ⊢
  have hl : lv_has ls 2 [(0, .ref b), (1, .int 0)] := hl
  refine lv_iload_n hx hb d_cell_0 rfl (lv_at hl 1 rfl) ?_
  refine lv_aload_n hx hb d_cell_1 rfl (lv_at hl 0 rfl) ?_
  refine va_slen hx hb hX hbl hbA hS d_cell_2 ?_
  refine lv_icmp_ge (tgt := 12) hx hb d_cell_3 (by decide) (fun hc => ?_) (fun hc => ?_)
  · refine lv_iconst (v := 0) hx hb d_cell_12 (by decide) ?_
    have h0 : ¬ 0 < L := fun h => absurd hc (show ¬ nI L ≤ nI 0 from nI_ge h (by omega))
    exact W.iret (v := 0) hx hb hr (fun t ht hW => ⟨⟨_, (), rfl, (if_neg h0).symm, trivial⟩, hS.F ht⟩) hS.2.2 d_cell_13
  · have h0 : 0 < L := by
      rcases Nat.lt_or_ge 0 L with q | q
      · exact q
      · exact absurd (show nI L ≤ nI 0 from nI_le q (by decide)) hc
    refine lv_aload_n hx hb d_cell_6 rfl (lv_at hl 0 rfl) ?_
    refine lv_iload_n hx hb d_cell_7 rfl (lv_at hl 1 rfl) ?_
    refine va_sld hx hb hX hbl hbA hS (i := 0) (show vp_in (nI 0) L from vp_in_nI h0 (by omega)) d_cell_8 ?_
    refine lv_goto (tgt := 13) hx hb d_cell_9 (by decide) ?_
    exact W.iret (v := xs ((0 : Int32)).toNatClampNeg) hx hb hr (fun t ht hW => ⟨⟨_, (), rfl, (if_pos h0).symm, trivial⟩, hS.F ht⟩) hS.2.2 d_cell_13
set_option maxHeartbeats 4000000 in
set_option maxRecDepth 100000 in
theorem l_end {p : Program} {e : Env} {s : State} {m : MethodId} {below : List Frame} {meth : Method} {c : Code} (l : Launch) {b L : Nat} {xs : Nat → Int32} (C0 : lw_At p s m meth c b L xs) (G : x_G) (hs0 : x_s0 G = s.heap.size) {cells slots : Nat} (hc : cells ≤ 600002) (hsl : slots ≤ 7302197) (H : Heap) (locs : List Loc) (ls : Array Slot) (hS : va_S (x_A G) s.heap H locs) : W p l e room_1 s m #[Value.ref b] below meth c H locs cells slots (lw_Z below #[Value.ref b] s) (F0 m 1044 ls []) := by
  obtain ⟨hx, hb, hr, hml, hown, hts9, hX, hbl, hlocks, hgv⟩ := id C0
  refine lv_iconst (v := 1) hx hb d_L_law_1044 (by decide) ?_
  refine va_forget (fun q hq => by rw [← hs0]; exact hS.2.2 q hq) ?_
  refine W.widen (k := 600002) (n := 7302197) hc hsl ?_
  exact lw_ret hx hb hr hlocks d_L_law_1045
set_option maxHeartbeats 4000000 in
set_option maxRecDepth 100000 in
theorem l_tail {p : Program} {e : Env} {s : State} {m : MethodId} {below : List Frame} {meth : Method} {c : Code} (l : Launch) {b L : Nat} {xs : Nat → Int32} (hL6 : L = 6) (C0 : lw_At p s m meth c b L xs) (G : x_G) (hs0 : x_s0 G = s.heap.size) (H : Heap) (locs : List Loc) (ls : Array Slot) (hS : va_S (x_A G) s.heap H locs) (hl : lv_has ls 8 [(0, .ref b), (4, .int (1 : Int32))]) : W p l e room_1 s m #[Value.ref b] below meth c H locs 600 20000 (lw_Z below #[Value.ref b] s) (F0 m 1038 ls []) := by
  obtain ⟨hx, hb, hr, hml, hown, hts9, hX, hbl, hlocks, hgv⟩ := id C0
  have hbA : ¬ x_A G b := fun h => absurd (show x_s0 G ≤ b from h) (by omega)
  refine lv_iinc (v := 6) (lv' := [(4, .int 6), (0, .ref b)]) hx hb d_L_law_1038 hl (k := 1) rfl (by decide) (by decide) rfl (fun ls hl => ?_)
  refine lv_goto (tgt := 33) hx hb d_L_law_1041 (by decide) ?_
  refine lv_iload hx hb d_L_law_33 (lv_at hl 0 rfl) ?_
  refine lv_aload_n hx hb d_L_law_35 rfl (lv_at hl 1 rfl) ?_
  refine va_slen hx hb hX hbl hbA hS d_L_law_36 ?_
  refine lv_iconst (v := 5) hx hb d_L_law_37 (by decide) ?_
  refine lv_isub hx hb d_L_law_38 ?_
  refine lv_icmp_gt (tgt := 1044) hx hb d_L_law_39 (by decide) (fun _ => ?_) (fun hc => absurd (by rw [hL6]; decide) hc)
  exact l_end l C0 G hs0 (Nat.le_of_ble_eq_true rfl) (Nat.le_of_ble_eq_true rfl) H locs ls hS
