/-! CATCHING: a method's own table, and calls of methods that have one -/
section EXD
variable {p : Program} {l : Launch} {e : Env} {R : Room} {s : State} {m : MethodId} {args : Array Value} {below : List Frame} {meth : Method} {c : Code} {H : Heap} {locs : List Loc} {cells slots : Nat} {Q : State → Prop}
def e_tab (hh : List (Nat × Nat × Nat × Nat)) : List ExceptionTableEntry := hh.map fun q => ⟨q.1, q.2.1, q.2.2.1, q.2.2.2⟩
abbrev x_wsW (y : MethodName) (c : ByteArray) (n : Nat) (r : Option FieldType) (hh : List (Nat × Nat × Nat × Nat)) : List Cond := Cond.codeWith y c n r hh :: x_big
theorem e_tab_map : ∀ L : List ExceptionTableEntry, L = e_tab (L.map (fun h => (h.startPc, h.endPc, h.handlerPc, h.catchType)))
  | [] => rfl
  | x :: L => by
    show x :: L = x :: e_tab _
    rw [← e_tab_map L]
theorem e_table {y : MethodName} {S : Spec} {cc bytes : ByteArray} {maxL maxL' : Nat} {ret ret' : Option FieldType} {s₁ : State} {hh : List (Nat × Nat × Nat × Nat)}
    (B : BodyLoose p l y S cc maxL ret e s m args below meth c s₁) (h : (Cond.codeWith y bytes maxL' ret' hh).before args s = true) : c.exceptionTable.toList = e_tab hh := by
  obtain ⟨m2, meth2, c2, hn, h1, h2, -, -, h6, -⟩ := Cond.codeWith_spec h
  have k1 : m2 = m := Option.some.inj (hn.symm.trans B.named)
  subst k1
  have k2 : meth2 = meth := Option.some.inj (h1.symm.trans B.method)
  subst k2
  have k3 : c2 = c := Option.some.inj (h2.symm.trans (Stand.of_body B).code)
  subst k3
  rw [← h6]
  exact e_tab_map _
/-- caught by the row x of the table; the rows ahead of it pass it by -/
theorem e_catch {own name E : String} {ce : Cell} {q : Addr} {pc : Nat} {ls : Array Slot} {rest : List Value} (hown : s.vm.findClass own = some m.cls) (pre : List ExceptionTableEntry) (x : ExceptionTableEntry) (suf : List ExceptionTableEntry) (hsplit : c.exceptionTable.toList = pre ++ x :: suf)
    (hpass : ∀ w ∈ pre, w.catchType ≠ 0 ∧ ∃ nm : String, (Cond.classLink own w.catchType nm).before args s = true ∧ va_Nc E nm s) (hx : covers x pc = true) (h0 : x.catchType ≠ 0)
    (hlink : (Cond.classLink own x.catchType name).before args s = true) (hcast : (Cond.castable E name).before args s = true) (hce : H[q]? = some ce) (hcv : ce.vm = .none) (hcl : s.vm.findClass E = some ce.cls)
    (kk : W p l e R s m args below meth c H locs cells slots Q (F0 m x.handlerPc ls [.ref q])) : e_W p l e R s m args below meth c H locs cells slots Q (F0 m pc ls rest) q := by
  intro T hT X
  have hpl : e.platform.magicAccessors = ({} : Platform).magicAccessors := by rw [X.admits.platform]
  obtain ⟨cE, cN, hcE, hcN, hasg⟩ := Cond.castable_spec hcast
  cases Option.some.inj (hcE.symm.trans hcl)
  obtain ⟨cL, hcL, hlk⟩ := Cond.classLink_spec hown hlink e.platform hpl
  cases Option.some.inj (hcN.symm.trans hcL)
  obtain ⟨kE, hkE, -⟩ := Vm.findClass_spec hcl
  obtain ⟨vm', X', st⟩ := X.thenCaughtThrough q (g := F0 m pc ls rest) rfl (Steps.refl _) (by rw [hT]; exact hce) (by rw [hcv]; rfl) ⟨kE, hkE⟩ pre x suf hsplit
    (fun w hw => by
      obtain ⟨hw0, nm, hl1, c1, c2, n1, n2, n3⟩ := hpass w hw
      obtain ⟨c6, hc6, hcl6⟩ := Cond.classLink_spec hown hl1 e.platform hpl
      cases Option.some.inj (n1.symm.trans hcl)
      cases Option.some.inj (n2.symm.trans hc6)
      exact Or.inr ⟨hw0, _, hcl6, n3⟩) hx (Or.inr ⟨h0, _, hlk, hasg⟩)
  obtain ⟨t, a1, b1⟩ := kk (T.setVm vm') hT X'
  exact ⟨t, st.trans a1, b1⟩
/-- a call of a static method that has a table, which returns -/
theorem e_runSW {y : MethodName} {bytes cc : ByteArray} {maxL nL mc ms n index : Nat} {ret : Option FieldType} {rm : Room} {Pc : Array Value → State → Prop} {Qc : Array Value → State → Outcome → State → Prop} {free : Addr → Prop} {Ts : List Cond} {own : String} {As rest : List Value} {g : JFrame} {hh : List (Nat × Nat × Nat × Nat)} (S : CallFix p m c cc nL s args Ts own) (hsub : ∀ w ∈ x_big, w ∈ Ts) (hM : Met l y (x_wsW y bytes maxL ret hh) rm Pc Qc mc ms free)
    (hlink : Cond.methodLink own index y ∈ x_big) (hstat : Cond.static y ∈ x_big) (hini : Cond.initialized y.cls ∈ x_big) (hcode : Cond.codeWith y bytes maxL ret hh ∈ x_big) (hrc : rm.cells = mc) (hrs : rm.slots = ms)
    (hd : y.cls ≠ "java/lang/invoke/MethodHandle" ∧ y.cls ≠ "java/lang/invoke/VarHandle" ∧ (parseMethodDescriptor y.desc).map (fun d => d.parameters.length) = some n) (hR : rm.frames + 1 ≤ R.frames ∧ 8 + (maxL + 11) + rm.locals ≤ R.locals) (hp : PreS s H Pc As)
    (hg : g.method = m) (hn : As.length = n) (hsize : g.locals.size = nL) (hstack : g.stack = As.reverse ++ rest) (hW : 2 * g.monitorRoom + (rest.map fun v => v.category).sum ≤ 8) (hdg : decode cc g.pc = .ok (.invokestatic index, 3)) (hf : cells + mc ≤ R.cells ∧ slots + ms ≤ R.slots) :
    va_Run p l e R s m args below meth c H locs cells slots mc ms g rest (Qc As.toArray) (free) := by
  obtain ⟨hx, hb, hml, ho, hts⟩ := S
  have hbig : ∀ w ∈ x_big, w.before args s = true := fun w h => hts w (hsub w h)
  have hwarm : ∀ w ∈ x_big, ∀ (a' : Array Value) (U : State), s.WarmedH U.vm → w.before a' U = true := fun w h a' U hU => word_at hU (good_of_word (x_bg h).2) (hbig w h)
  have hK : Back l R p e below s args y 3 8 (PreOf R mc ms Pc) (PostOf Qc mc ms free) :=
    va_backW (hh := hh) (bytes := bytes) (maxL := maxL) (ret := ret) hM hp.1 hrc hrs hR.1 hR.2 (fun w h => (List.mem_cons.mp h).elim (fun e9 => by rw [e9]; exact hwarm _ hcode) (hwarm w)) List.mem_cons_self (hwarm _ hini)
  intro T hT X
  obtain ⟨mk, methM, cM, hnamed, hmethM, -, -, -, -, -, -, hsigM⟩ := Cond.codeWith_spec (hbig _ hcode)
  obtain ⟨kP, hkP, -⟩ := className_of_methodNamed hnamed
  have hlen : As.length = methM.sig.parameters.length := by
    have h2 := hd.2.2
    rw [hsigM] at h2
    exact hn.trans (Option.some.inj h2).symm
  obtain ⟨vm₁, X₁, hstep₁⟩ := X.invokestatic hx ho (hbig _ hlink) hnamed hmethM (Cond.static_spec hnamed hmethM (hbig _ hstat)) hkP (Cond.initialized_spec (findClass_of_methodNamed hnamed) hkP (hbig _ hini)) ⟨hd.1, hd.2.1⟩ (g := g) hg (argsL := As) (rest := rest) hlen hstack (by rw [hb]; exact hdg)
  obtain ⟨v, ⟨U', l2, c2, s2⟩, X', ⟨g', mk', t, L, e1, e2, hq, h1, hL, h2, h3⟩, st⟩ := hK m meth c ⟨T.setVm vm₁, locs, cells, slots⟩ { g with stack := rest } (.invokestatic index) mk As.toArray X₁ hg (hsize.trans hml.symm) (by rw [hb]; exact hdg) hW (X₁.named hnamed) ⟨hf.1, hf.2, hp.2 (T.setVm vm₁) hT X₁.warmed⟩
  dsimp only [Pt.U, Pt.locs, Pt.cells, Pt.slots] at X' e1 e2 h1 h2 h3 st
  subst h1; subst h2; subst h3
  exact ⟨v, (T.setVm vm₁).calling g' mk' As.toArray, t, U', L, hT, X', hL, e1, e2, hq, fun target h => hstep₁ _ fun acts => by rw [doInvoke_state]; exact st.trans h⟩
end EXD
