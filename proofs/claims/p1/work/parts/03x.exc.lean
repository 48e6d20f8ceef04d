/-! EXCEPTIONS: a method that, from here, throws E and leaves the cells as z says -/
section EXC
variable {p : Program} {l : Launch} {e : Env} {R : Room} {s : State} {m : MethodId} {args : Array Value} {below : List Frame} {meth : Method} {c : Code}
/-- where q was thrown: its cell, what was written and made, the world -/
def e_T (G : x_G) (E : String) (z : x_St) (st : State) (q : Addr) (t : State) (mc ms : Nat) : Prop :=
  ∃ (ce : Cell) (L : List Loc), t.heap[q]? = some ce ∧ ce.vm = .none ∧ st.vm.findClass E = some ce.cls ∧ st.WarmedH t.vm ∧ st.sameButNew ({ t with vm := st.vm } : State) L mc ms ∧ (∀ w ∈ L, x_A G w.base) ∧ x_PW G z t ∧ va_F (x_A G) st t
def e_Met (l : Launch) (G : x_G) (y : MethodName) (ws : List Cond) (rm : Room) (Pc : Array Value → State → Prop) (E : String) (z : x_St) (mc ms : Nat) : Prop :=
  MetFree l y (headSpec ws rm) Pc (fun _ _ _ _ _ => True) (fun _ st o t => ∃ q, o = .threw q ∧ e_T G E z st q t mc ms)
def e_MQ (below : List Frame) (G : x_G) (E : String) (z : x_St) (s : State) (mc ms : Nat) : State → Prop := fun t =>
  ∃ q, t.status = .running ∧ Ended t below (.threw q) ∧ e_T G E z s q t mc ms
theorem e_ofW {G : x_G} {y : MethodName} {ws ws' : List Cond} {rm : Room} {Pc : Array Value → State → Prop} {E : String} {z : x_St} {mc ms : Nat} {cc : ByteArray} {maxL : Nat} {ret : Option FieldType}
    (hy : plainName y.cls = true) (hw : ws = Cond.code y cc maxL ret :: ws')
    (body : ∀ p e s m args below meth c s₁, BodyLoose p l y (headSpec ws rm) cc maxL ret e s m args below meth c s₁ → c.maxLocals = maxL → (∀ x ∈ c.exceptionTable.toList, False) → Pc args s →
      W p l e (headSpec ws rm).room s m args below meth c s.heap [] 0 0 (e_MQ below G E z s mc ms) (entryFrame m args maxL)) : e_Met l G y ws rm Pc E z mc ms := by
  refine MetFree.of_bodyS (code := cc) (maxLocals := maxL) (ret := ret) hy ?_ ?_
  · intro args s m h hn
    obtain ⟨meth, c, h1, h2, h3, h4, h5, h6, -, -⟩ := Cond.code_spec hn (atoms_spec (ws := ws) h _ (by rw [hw]; exact List.mem_cons_self))
    exact ⟨meth, c, h1, h2, h3, h4, h5, h6⟩
  · intro p e s m args below meth c s₁ B hml hP _
    have hno : ∀ x ∈ c.exceptionTable.toList, False := by
      intro x hx
      obtain ⟨meth2, c2, k1, k2, -, -, -, -, k7, -⟩ := Cond.code_spec B.named (atoms_spec (ws := ws) B.pre _ (by rw [hw]; exact List.mem_cons_self))
      have k3 : meth2 = meth := Option.some.inj (k1.symm.trans B.method)
      subst k3
      have k4 : c2 = c := Option.some.inj (k2.symm.trans (Stand.of_body B).code)
      subst k4
      rw [Array.isEmpty_iff.mp k7] at hx
      cases hx
    obtain ⟨t, a1, q, b1, b2, b3⟩ := body p e s m args below meth c s₁ B hml hno hP s₁ (by rw [B.state]; rfl) (Stand.of_body B)
    exact ⟨t, .threw q, a1, b1, b2, q, rfl, b3⟩
/-- what a call of such a method comes to: the caller's frame g with q thrown over it -/
def e_Back (l : Launch) (R : Room) (p : Program) (e : Env) (below : List Frame) (s : State) (sargs : Array Value) (y : MethodName) (Pc : Array Value → State → Prop) (G : x_G) (E : String) (z : x_St) (mc ms : Nat) : Prop :=
  ∀ (m : MethodId) (meth : Method) (c : Code) (U : State) (Ls : List Loc) (c0 s0 : Nat) (g : JFrame) (ig : Instr) (mk : MethodId) (a : Array Value),
    Stand p l e R s m sargs below meth c U Ls c0 s0 → g.method = m → g.locals.size = c.maxLocals → decode c.code g.pc = .ok (ig, 3) →
    2 * g.monitorRoom + (g.stack.map fun v => v.category).sum ≤ 8 → U.methodNamed? y = some mk → c0 + mc ≤ R.cells → s0 + ms ≤ R.slots → Pc a U →
    ∃ (q : Addr) (U' : State) (L : List Loc) (ce : Cell), Stand p l e R s m sargs below meth c U' (Ls ++ L) (c0 + mc) (s0 + ms) ∧ U'.heap[q]? = some ce ∧ ce.vm = .none ∧ U.vm.findClass E = some ce.cls ∧ (∀ w ∈ L, x_A G w.base) ∧ x_PW G z U' ∧ va_F (x_A G) U U' ∧
      Steps p.tables e below (doInvoke e (U.setTop g) [] mk a).1 ((U'.setTop g).pushFrame (.throwing q))
theorem e_back {G : x_G} {y : MethodName} {ws : List Cond} {rm : Room} {Pc : Array Value → State → Prop} {E : String} {z : x_St} {mc ms : Nat} {bytes : ByteArray} {maxL : Nat} {ret : Option FieldType} {sargs : Array Value}
    (hM : e_Met l G y ws rm Pc E z mc ms) (hblind : FrameBlind Pc) (hrc : rm.cells = mc) (hrs : rm.slots = ms)
    (hframes : rm.frames + 1 ≤ R.frames) (hlocals : 8 + (maxL + 11) + rm.locals ≤ R.locals)
    (hws : ∀ w ∈ ws, ∀ a' U, s.WarmedH U.vm → w.before a' U = true) (hcode : Cond.code y bytes maxL ret ∈ ws) (hinit : ∀ a' U, s.WarmedH U.vm → (Cond.initialized y.cls).before a' U = true) :
    e_Back l R p e below s sargs y Pc G E z mc ms := by
  intro m meth c U Ls c0 s0 g ig mk a X hg hsize hdg hW hn hroom1 hroom2 hPc
  obtain ⟨mY, cY, hmY, hcY, -, hlY, -, -, -, -⟩ := Cond.code_spec hn (hws _ hcode a U X.warmed)
  obtain ⟨kY, hkY, -⟩ := className_of_methodNamed hn
  have hat : At U g.method c below := by rw [hg]; exact X.here
  have happ : (headSpec ws rm).appliesLoose y e.platform (U.calling g mk a) = true :=
    Spec.appliesLoose_calling (g := g) hat hdg hn hkY (Cond.initialized_spec (findClass_of_methodNamed hn) hkY (hinit a U X.warmed))
      (X.room_calling (g := g) (R' := (headSpec ws rm).room) hsize hmY hcY hframes (by rw [hlY]; have h9 : 8 + (maxL + 11) + (headSpec ws rm).room.locals ≤ R.locals := hlocals; omega)
        (by rw [show (headSpec ws rm).room.cells = mc from hrc]; exact hroom1) (by rw [show (headSpec ws rm).room.slots = ms from hrs]; exact hroom2))
      (atoms_intro fun w hw => hws w hw _ _ X.warmed)
  obtain ⟨mid, hmid⟩ := hat.above
  obtain ⟨o, V, hsteps, -, hend, hq⟩ := Steps.callFree hM p X.admits X.cas X.clock (acts := []) (show (U.setTop g).frames = (.java g :: mid) ++ below by rw [State.frames_setTop' g hat.top, hmid]; rfl) happ (hblind _ _ _ _ hPc) trivial
  have hq9 : ∃ q, o = .threw q ∧ e_T G E z (U.calling g mk a) q V mc ms := hq
  obtain ⟨q, rfl, ce, L, hce, hcv, hcl, hWV, hsm, hL, hPW, hF⟩ := hq9
  rw [State.frames_setTop' g hat.top] at hend
  have hfV : V.frames = .throwing q :: .java g :: U.frames.tail := hend
  obtain ⟨g₀, hg0⟩ := Option.isSome_iff_exists.mp hat.top
  obtain ⟨r, hr⟩ := State.topJava?_eq_some.mp hg0
  obtain ⟨N, hN⟩ : ∃ N : State, N = ({ U with heap := V.heap, slotsUsed := V.slotsUsed } : State).setVm V.vm := ⟨_, rfl⟩
  have hNf : N.frames = .java g₀ :: r := by rw [hN]; exact hr
  obtain ⟨e2, q2, q3, q4, q5, q6⟩ := id hsm
  have eV : V = (N.setTop g).pushFrame (.throwing q) := by
    have e3 : V = ({ (U.calling g mk a).setFrames V.frames with heap := V.heap, slotsUsed := V.slotsUsed } : State).setVm V.vm := by
      have e4 : V = ({ V with vm := (U.calling g mk a).vm } : State).setVm V.vm := rfl
      rw [e2] at e4
      exact e4
    refine e3.trans ?_
    rw [hfV, State.calling_eq hat.top, State.setFrames_setFrames, State.pushFrame, State.frames_setTop _ hNf, State.setTop_of_frames _ hNf, State.setFrames_setFrames, hN, hr]
    rfl
  have hsame : U.sameButNew ({ U with heap := V.heap, slotsUsed := V.slotsUsed } : State) L mc ms := by
    refine ⟨?_, q2, q3, q4, q5, q6⟩
    obtain ⟨t, ht, -⟩ := State.frames_cons hr
    show ({ U with heap := V.heap, slotsUsed := V.slotsUsed } : State) = { U.setFrames U.frames with heap := V.heap, slotsUsed := V.slotsUsed }
    rw [State.setFrames_self ht]
  have hWU : U.WarmedH V.vm := hWV
  subst hg
  have X' : Stand p l e R s g.method sargs below meth c N (Ls ++ L) (c0 + mc) (s0 + ms) := by
    rw [hN]
    exact ⟨X.admits, X.cas, X.clock, X.frames, X.room, X.hears, X.method, X.code, (X.here.setHeapUsed V.heap V.slotsUsed).setVm hWU.alike, X.tail, State.WarmedH.trans X.warmed hWU, X.limits, X.bytes, X.same.trans (hsame.setVm s.vm)⟩
  have hh : N.heap = V.heap := by rw [hN]; rfl
  have hv : N.vm = V.vm := by rw [hN]; rfl
  refine ⟨q, N, L, ce, X', by rw [hh]; exact hce, hcv, hcl, hL, ?_, ?_, by rw [← eV]; exact hsteps⟩
  · obtain ⟨a1, a2, a3, a4, a5⟩ := hPW
    refine ⟨by rw [hh]; exact a1, by rw [hh]; exact a2, a3, va_K.moved (u := V) (by rw [hv]; exact Vm.Alike.refl V.vm) a4, ?_⟩
    rw [hh]
    exact x_GV.warm (u := V) (by rw [hv]; exact State.WarmedH.refl V) a5
  · exact ⟨by rw [hh]; exact hF.1, fun k h1 h2 => by rw [hh]; exact hF.2 k h1 h2⟩
/-- the method's frame g, with q thrown over it -/
def e_W (p : Program) (l : Launch) (e : Env) (R : Room) (s : State) (m : MethodId) (args : Array Value) (below : List Frame) (meth : Method) (c : Code) (H : Heap) (locs : List Loc) (cells slots : Nat) (Q : State → Prop) (g : JFrame) (q : Addr) : Prop :=
  ∀ T : State, T.heap = H → Stand p l e R s m args below meth c T locs cells slots → ∃ t, Steps p.tables e below ((T.setTop g).pushFrame (.throwing q)) t ∧ Q t
variable {H : Heap} {locs : List Loc} {cells slots : Nat} {Q : State → Prop} {y : MethodName} {bytes cc : ByteArray} {maxL nL mc ms n index : Nat} {ret : Option FieldType} {ws : List Cond} {rm : Room} {Pc : Array Value → State → Prop} {Ts : List Cond} {own C E : String} {b : Addr} {As rest st0 : List Value} {G : x_G} {z : x_St} {pc : Nat} {ls : Array Slot}
theorem e_go {T N : State} {ce : Cell} {q : Addr} {L : List Loc} {vm₁ : Vm} (hT : T.heap = H) (hz : x_s0 G ≤ s.heap.size) (hS : va_S (x_A G) s.heap H locs) (X' : Stand p l e R s m args below meth c N (locs ++ L) (cells + mc) (slots + ms)) (hW1 : s.WarmedH vm₁) (hce : N.heap[q]? = some ce) (hcv : ce.vm = .none) (hcl : (T.setVm vm₁).vm.findClass E = some ce.cls) (hL : ∀ w ∈ L, x_A G w.base) (hPW : x_PW G z N) (hF : va_F (x_A G) (T.setVm vm₁) N)
    (hst : Steps p.tables e below (T.setTop (F0 m pc ls st0)) ((N.setTop { F0 m pc ls st0 with stack := rest }).pushFrame (.throwing q)))
    (kx : ∀ (q : Addr) (ce : Cell) (H1 : Heap) (locs1 : List Loc), va_P (x_D G) vwCl (x_Wd G z) H1 → va_D (x_A G) (x_Wd G z) → va_S (x_A G) s.heap H1 locs1 → H1[q]? = some ce → ce.vm = .none → s.vm.findClass E = some ce.cls → e_W p l e R s m args below meth c H1 locs1 (cells + mc) (slots + ms) Q (F0 m pc ls rest) q) :
    ∃ t, Steps p.tables e below (T.setTop (F0 m pc ls st0)) t ∧ Q t := by
  have h1 : vm₁.findClass E = some ce.cls := hcl
  rw [hW1.alike.findClass] at h1
  have k1 : T.heap.size ≤ N.heap.size := hF.1
  have k2 : ∀ k : Nat, k < T.heap.size → ¬ x_A G k → N.heap[k]? = T.heap[k]? := fun k a1 a2 => hF.2 k a1 a2
  rw [hT] at k1 k2
  have hS1 : va_S (x_A G) s.heap N.heap (locs ++ L) := ⟨Nat.le_trans hS.1 k1, fun k a1 a2 => (k2 k (Nat.lt_of_lt_of_le a1 hS.1) a2).trans (hS.2.1 k a1 a2), fun w hw => (List.mem_append.mp hw).elim (hS.2.2 w) (hL w)⟩
  obtain ⟨t, a1, b1⟩ := kx q ce N.heap (locs ++ L) hPW.2.1 hPW.2.2.1 hS1 hce hcv h1 N rfl X'
  exact ⟨t, hst.trans a1, b1⟩
theorem e_callV (S : CallFix p m c cc nL s args Ts own) (hM : e_Met l G y ws rm Pc E z mc ms) (cw : CallW R s args own C index y bytes maxL ret ws rm mc ms n) (hp : PreV s H C b Pc As)
    (hn : As.length = n) (hsize : ls.size = nL) (hstack : st0 = As.reverse ++ .ref b :: rest) (hW : 2 * (F0 m pc ls rest).monitorRoom + (rest.map fun v => v.category).sum ≤ 8) (hdg : decode cc pc = .ok (.invokevirtual index, 3)) (hf : cells + mc ≤ R.cells ∧ slots + ms ≤ R.slots)
    (hz : x_s0 G ≤ s.heap.size) (hS : va_S (x_A G) s.heap H locs)
    (kx : ∀ (q : Addr) (ce : Cell) (H1 : Heap) (locs1 : List Loc), va_P (x_D G) vwCl (x_Wd G z) H1 → va_D (x_A G) (x_Wd G z) → va_S (x_A G) s.heap H1 locs1 → H1[q]? = some ce → ce.vm = .none → s.vm.findClass E = some ce.cls → e_W p l e R s m args below meth c H1 locs1 (cells + mc) (slots + ms) Q (F0 m pc ls rest) q) :
    W p l e R s m args below meth c H locs cells slots Q (F0 m pc ls st0) := by
  obtain ⟨⟨hrc, hrs, hfr, hlo, hws, hcw, hcode, hini, hy, hlen, hl⟩, hinst, hsel⟩ := cw
  obtain ⟨hx, hb, hml, ho, -⟩ := S
  obtain ⟨hbl, ⟨cellB, hcB, hoB, hclB⟩, hPc⟩ := hp
  have hK : e_Back l R p e below s args y Pc G E z mc ms := e_back (bytes := bytes) (maxL := maxL) (ret := ret) hM hbl hrc hrs hfr hlo hws hcw (fun a' U hW => word_at hW (Or.inl (by first | rfl | simp [Cond.onTables, Cond.keeps, Cond.steady])) hini)
  intro T hT X
  obtain ⟨mk, methM, hnamed, hmethM, hstM, habM⟩ := Cond.instanceMethod_spec hinst
  obtain ⟨methM', cM, hmethM', -, -, -, -, -, -, hsigM⟩ := Cond.code_spec hnamed hcode
  cases hmethM.symm.trans hmethM'
  obtain ⟨c2, r2, m2, q1, q2, q3, q4, kP, hkP, hkPi⟩ := Cond.selects_spec hsel
  cases hclB.symm.trans q1
  cases (State.methodFound?_of_named hnamed hy).symm.trans q2
  cases hnamed.symm.trans q3
  have hselP : selectMethod e.platform s.vm cellB.cls mk = .method mk := by rw [Launch.admits_selectMethod X.admits]; exact q4
  obtain ⟨vm₁, X₁, hstep₁⟩ := X.invokevirtual hx ho hl hnamed hmethM hstM hkP hkPi hy (a := b) (cell := cellB) (by rw [hT]; exact hcB)
    (fun k h => by rw [h] at hoB; cases hoB) hselP hmethM habM hkP hkPi (g := F0 m pc ls st0) rfl (argsL := As) (rest := rest) (hn.trans (hlen _ hsigM)) hstack (by rw [hb]; exact hdg)
  obtain ⟨q, N, L, ce, X', hce, hcv, hcl, hL, hPW, hF, hst⟩ := hK m meth c (T.setVm vm₁) locs cells slots { F0 m pc ls st0 with stack := rest } (.invokevirtual index) mk (Value.ref b :: As).toArray X₁ rfl (hsize.trans hml.symm) (by rw [hb]; exact hdg) hW (X₁.named hnamed) hf.1 hf.2 (hPc (T.setVm vm₁) hT X₁.warmed)
  exact e_go hT hz hS X' X₁.warmed hce hcv hcl hL hPW hF (hstep₁ _ fun acts => by rw [doInvoke_state]; exact hst) kx
theorem e_callS (S : CallFix p m c cc nL s args Ts own) (hM : e_Met l G y ws rm Pc E z mc ms) (cw : CallB R s args own index y bytes maxL ret ws rm mc ms n ∧ (Cond.static y).before args s = true) (hp : PreS s H Pc As)
    (hn : As.length = n) (hsize : ls.size = nL) (hstack : st0 = As.reverse ++ rest) (hW : 2 * (F0 m pc ls rest).monitorRoom + (rest.map fun v => v.category).sum ≤ 8) (hdg : decode cc pc = .ok (.invokestatic index, 3)) (hf : cells + mc ≤ R.cells ∧ slots + ms ≤ R.slots)
    (hz : x_s0 G ≤ s.heap.size) (hS : va_S (x_A G) s.heap H locs)
    (kx : ∀ (q : Addr) (ce : Cell) (H1 : Heap) (locs1 : List Loc), va_P (x_D G) vwCl (x_Wd G z) H1 → va_D (x_A G) (x_Wd G z) → va_S (x_A G) s.heap H1 locs1 → H1[q]? = some ce → ce.vm = .none → s.vm.findClass E = some ce.cls → e_W p l e R s m args below meth c H1 locs1 (cells + mc) (slots + ms) Q (F0 m pc ls rest) q) :
    W p l e R s m args below meth c H locs cells slots Q (F0 m pc ls st0) := by
  obtain ⟨⟨hrc, hrs, hfr, hlo, hws, hcw, hcode, hini, hy, hlen, hl⟩, hstat⟩ := cw
  obtain ⟨hx, hb, hml, ho, -⟩ := S
  have hK : e_Back l R p e below s args y Pc G E z mc ms := e_back (bytes := bytes) (maxL := maxL) (ret := ret) hM hp.1 hrc hrs hfr hlo hws hcw (fun a' U hW => word_at hW (Or.inl (by first | rfl | simp [Cond.onTables, Cond.keeps, Cond.steady])) hini)
  intro T hT X
  obtain ⟨mk, hnamed⟩ := Cond.code_named hcode
  obtain ⟨methM, cM, hmethM, -, -, -, -, -, -, hsigM⟩ := Cond.code_spec hnamed hcode
  obtain ⟨kP, hkP, -⟩ := className_of_methodNamed hnamed
  obtain ⟨vm₁, X₁, hstep₁⟩ := X.invokestatic hx ho hl hnamed hmethM (Cond.static_spec hnamed hmethM hstat) hkP (Cond.initialized_spec (findClass_of_methodNamed hnamed) hkP hini) hy (g := F0 m pc ls st0) rfl (argsL := As) (rest := rest) (hn.trans (hlen _ hsigM)) hstack (by rw [hb]; exact hdg)
  obtain ⟨q, N, L, ce, X', hce, hcv, hcl, hL, hPW, hF, hst⟩ := hK m meth c (T.setVm vm₁) locs cells slots { F0 m pc ls st0 with stack := rest } (.invokestatic index) mk As.toArray X₁ rfl (hsize.trans hml.symm) (by rw [hb]; exact hdg) hW (X₁.named hnamed) hf.1 hf.2 (hp.2 (T.setVm vm₁) hT X₁.warmed)
  exact e_go hT hz hS X' X₁.warmed hce hcv hcl hL hPW hF (hstep₁ _ fun acts => by rw [doInvoke_state]; exact hst) kx
/-- not caught here: it goes on to the caller -/
theorem e_out {ce : Cell} {q : Addr} {k9 n9 : Nat} (hno : ∀ x ∈ c.exceptionTable.toList, covers x pc = false) (hlocks : meth.locks = false) (hce : H[q]? = some ce) (hcv : ce.vm = .none) (hcl : s.vm.findClass E = some ce.cls)
    (hS : va_S (x_A G) s.heap H locs) (hpw : ∀ t : State, t.heap = H → s.WarmedH t.vm → x_PW G z t) (hc : cells ≤ k9) (hs : slots ≤ n9) :
    e_W p l e R s m args below meth c H locs cells slots (e_MQ below G E z s k9 n9) (F0 m pc ls rest) q := by
  intro T hT X
  obtain ⟨st1, hrun, hend, hW, hsm⟩ := X.leaveThrown q (g := F0 m pc ls rest) rfl rfl rfl hno hlocks
  have hh : (T.setFrames (.throwing q :: below)).heap = H := hT
  exact ⟨_, st1, q, hrun, hend, ce, locs, by rw [hh]; exact hce, hcv, hcl, hW, hsm.mono hc hs, hS.2.2, hpw _ hh hW, hS.F hh⟩
/-- the frame as it stands, seen as the start of a call in this heap: nothing written, nothing made yet -/
theorem e_rebase {T : State} (X : Stand p l e R s m args below meth c T locs cells slots) {R' : Room} (hf : R'.frames ≤ R.frames) (hl : R'.locals ≤ R.locals) (hc : cells + R'.cells ≤ R.cells) (hs : slots + R'.slots ≤ R.slots) :
    Stand p l e R' ((T.setVm s.vm).setFrames (.invoking m args :: below)) m args below meth c T [] 0 0 := by
  obtain ⟨V, hV⟩ : ∃ V : State, V = T.setVm s.vm := ⟨_, rfl⟩
  have htop : V.topJava?.isSome := by rw [hV]; exact X.here.top
  have hF : (V.setFrames (.invoking m args :: below)).frames = .invoking m args :: below := State.frames_setFrames _ (State.cur_lt_of_top htop)
  obtain ⟨g₀, hg0⟩ := Option.isSome_iff_exists.mp htop
  obtain ⟨r, hr⟩ := State.topJava?_eq_some.mp hg0
  have hlim : e.platform.stackLimits V.me = e.platform.stackLimits s.me := by rw [hV]; exact X.limits
  have hbyt : V.me.stackBytes = s.me.stackBytes := by rw [hV]; exact X.bytes
  have hmeth : (V.setFrames (.invoking m args :: below)).vm.method? m = some meth := by rw [hV]; exact X.method
  have hVh : V.heap = T.heap := by rw [hV]; rfl
  have hVu : V.slotsUsed = T.slotsUsed := by rw [hV]; rfl
  rw [← hV]
  refine ⟨X.admits, X.cas, X.clock, hF, ?_, by rw [hV]; exact X.hears, hmeth, X.code, X.here, X.tail, by rw [hV]; exact X.warmed, ?_, ?_, ?_⟩
  · have hroom := X.room
    have hU : (V.setFrames (.invoking m args :: below)).localsInUse = s.localsInUse := by
      rw [State.localsInUse_invoking hF (meth := meth) (c := c) hmeth X.code, State.localsInUse_invoking X.frames X.method X.code]
    simp only [State.hasRoom, Bool.and_eq_true, decide_eq_true_eq] at hroom ⊢
    obtain ⟨⟨⟨⟨h1, h2, h3, h4, h5, h6⟩, h7⟩, h8⟩, h9⟩ := hroom
    rw [X.frames, List.length_cons] at h2 h3
    have q1 := X.heapSize
    have q2 := X.used
    simp only [hF, hU, List.length_cons, State.stackLimits_setFrames, State.stackBytes_setFrames, hlim, hbyt]
    refine ⟨⟨⟨⟨by omega, by omega, by omega, by omega, by omega, h6⟩, ?_⟩, ?_⟩, by rw [hV]; exact X.book⟩
    · show V.heap.size + R'.cells ≤ e.platform.maxCells
      rw [hVh]; omega
    · show V.slotsUsed + R'.slots ≤ e.platform.maxSlots
      rw [hVu]; omega
  · rw [State.stackLimits_setFrames, hV]; rfl
  · rw [State.stackBytes_setFrames, hV]; rfl
  · have hdrop : ((T.heap.toList.drop T.heap.size).map (·.slots.size)).sum = 0 := by
      rw [List.drop_eq_nil_of_le (Nat.le_of_eq Array.length_toList)]; rfl
    subst hV
    refine ⟨?_, Nat.le_refl _, Nat.le_refl _, ?_, ?_, fun a c9 h9 => ⟨c9, h9, rfl, rfl, fun _ _ => rfl⟩⟩
    · obtain ⟨t, ht, -⟩ := State.frames_cons hr
      show T.setVm s.vm = { ((T.setVm s.vm).setFrames (.invoking m args :: below)).setFrames (T.setVm s.vm).frames with heap := T.heap, slotsUsed := T.slotsUsed }
      rw [State.setFrames_setFrames, State.setFrames_self ht]
      rfl
    · show T.slotsUsed = T.slotsUsed + ((T.heap.toList.drop T.heap.size).map (·.slots.size)).sum
      rw [hdrop]; rfl
    · show ((T.heap.toList.drop T.heap.size).map (·.slots.size)).sum ≤ 0
      rw [hdrop]; exact Nat.le_refl 0
theorem e_same {S U : State} {k n : Nat} (h : S.sameButNew ({ U with vm := S.vm } : State) [] k n) : S.heap.size ≤ U.heap.size ∧ ∀ q : Nat, q < S.heap.size → U.heap[q]? = S.heap[q]? := by
  obtain ⟨-, h2, -, -, -, h6⟩ := h
  refine ⟨h2, fun q hq => ?_⟩
  obtain ⟨c9, e1, e2, -, e4⟩ := h6 q _ (Array.getElem?_eq_getElem hq)
  have e5 : U.heap[q]? = some c9 := e1
  have e6 : c9.slots = (S.heap[q]).slots := Array.ext_getElem? fun i => e4 i (fun hm => nomatch hm)
  rw [e6] at e2
  rw [e5, Array.getElem?_eq_getElem hq]
  exact congrArg some e2
/-- the words of a throw that are none of x_big: what x_GX tells -/
def e_rest (cls : String) : List Cond := [.castable cls cls, .declares ⟨"java/lang/RuntimeException", "<init>", "(Ljava/lang/String;)V"⟩, .declares ⟨"java/lang/Exception", "<init>", "(Ljava/lang/String;)V"⟩, .declares ⟨"java/lang/Throwable", "<init>", "(Ljava/lang/String;)V"⟩, .isRef (.static x_thN "UNASSIGNED_STACK" "[Ljava/lang/StackTraceElement;"), .isRef (.static x_thN "SUPPRESSED_SENTINEL" "Ljava/util/List;"), .laysStatic x_thN "UNASSIGNED_STACK" "[Ljava/lang/StackTraceElement;", .laysStatic x_thN "SUPPRESSED_SENTINEL" "Ljava/util/List;"]
theorem e_words {cls : String} {S : State} {A : Array Value} (hcls : cls ∈ x_excs) (hG : x_GX G S S.heap) : ∀ w ∈ e_rest cls, w.before A S = true := by
  obtain ⟨h1, h2, -, h4, h5⟩ := hG
  intro w hw
  simp only [e_rest, List.mem_cons, List.not_mem_nil, or_false] at hw
  rcases hw with rfl | rfl | rfl | rfl | rfl | rfl | rfl | rfl
  · exact va_Nw.use rfl (h1.1 cls hcls)
  · exact va_Nw.use rfl (h2 _ (by simp [x_decls]))
  · exact va_Nw.use rfl (h2 _ (by simp [x_decls]))
  · exact va_Nw.use rfl (h2 _ (by simp [x_decls]))
  · exact e_ref h4.1
  · exact e_ref h5.1
  · exact h4.2.word
  · exact h5.2.word
/-- 'throw new E("text")' in a method of the library: new; dup; ldc; invokespecial; athrow -/
theorem e_throw {cls text : String} {ik is ic k9 n9 : Nat} (hexec : p.tables.exec = Jvm.exec) (hb : c.code = cc) (hl9 : l.stackTraces = false) (hown : s.vm.findClass "ContentLibrary" = some m.cls) (hcls : Jvm.Bundle.fit cls = true) (hex : cls ∈ x_excs) (htx : (is, text) ∈ x_strs)
    (hts : ∀ w ∈ x_big, w.before args s = true) (hk : Cond.classLink "ContentLibrary" ik cls ∈ x_big) (hini : Cond.initialized cls ∈ x_big)
    (hat : ∀ w ∈ Jvm.Bundle.ownAtoms "ContentLibrary" ic cls ["java/lang/RuntimeException", "java/lang/Exception"], w ∈ x_big ∨ w ∈ e_rest cls)
    (hG : x_GV G s s.heap) (hS : va_S (x_A G) s.heap H locs) (hsize : ls.size = c.maxLocals)
    (d0 : decode cc pc = .ok (.new ik, 3)) (d3 : decode cc (pc + 3) = .ok (.dup, 1)) (d4 : decode cc (pc + 4) = .ok (.ldc is, 2)) (d6 : decode cc (pc + 6) = .ok (.invokespecial ic, 3)) (d9 : decode cc (pc + 9) = .ok (.athrow, 1))
    (hno : ∀ x ∈ c.exceptionTable.toList, False) (hRf : 5 < R.frames) (hRl : (rest.map fun v => v.category).sum + 82 ≤ R.locals) (hRc : cells + 1 ≤ R.cells) (hRs : slots + 6 ≤ R.slots) (hlocks : meth.locks = false)
    (hpw : ∀ t : State, s.WarmedH t.vm → H.size ≤ t.heap.size → (∀ q : Nat, q < H.size → t.heap[q]? = H[q]?) → x_PW G z t) (hc : cells + 1 ≤ k9) (hs : slots + 6 ≤ n9) :
    W p l e R s m args below meth c H locs cells slots (e_MQ below G cls z s k9 n9) (F0 m pc ls rest) := by
  intro T hT X
  have htr : e.platform.stackTraces = false := (show e.platform.stackTraces = l.stackTraces by rw [X.admits.platform]).trans hl9
  have Y := e_rebase X (R' := { frames := R.frames, locals := R.locals, cells := 1, slots := 6 }) (Nat.le_refl _) (Nat.le_refl _) hRc hRs
  obtain ⟨S, hA⟩ : ∃ S : State, S = (T.setVm s.vm).setFrames (.invoking m args :: below) := ⟨_, rfl⟩
  rw [← hA] at Y
  have hvm : S.vm = s.vm := by rw [hA]; rfl
  have hhp : S.heap = H := by rw [hA]; exact hT
  have hW0 : s.WarmedH S.vm := by rw [hvm]; exact State.WarmedH.refl s
  have hbig : ∀ w ∈ x_big, w.before args S = true := fun w hw => word_at hW0 (good_of_word (x_bg hw).2) (hts w hw)
  have hGS : x_GX G S S.heap := by rw [hhp]; exact (hG.2.kept hS.2.1).warm hW0
  have hall : ∀ w ∈ Jvm.Bundle.ownAtoms "ContentLibrary" ic cls ["java/lang/RuntimeException", "java/lang/Exception"], w.before args S = true := fun w hw => (hat w hw).elim (hbig w) (e_words hex hGS w)
  have hownS : S.vm.findClass "ContentLibrary" = some m.cls := by rw [hvm]; exact hown
  obtain ⟨sa, hstr⟩ := hGS.2.2.1 _ htx
  obtain ⟨vm₁, cX, kX, hfX, hkX, -, -, X₁, st1⟩ := Y.newCold hexec (own := "ContentLibrary") (C := cls) (index := ik) (n := 6) hownS (hbig _ hk) (hall _ (by simp [Jvm.Bundle.ownAtoms])) (hbig _ hini)
    (g := F0 m pc ls rest) rfl (by rw [hb]; exact d0) (Nat.le_refl _) (Nat.le_refl _)
  obtain ⟨N, hN⟩ : ∃ N : State, N = (T.setVm vm₁).pushCell { cls := cX, slots := kX.instanceTypes.map defaultValue, vm := .none } := ⟨_, rfl⟩
  rw [← hN] at X₁ st1
  have hcellA : N.heap[T.heap.size]? = some (freshCell cX kX) := by rw [hN]; exact State.heap_pushCell_size _ _
  have d3' : decode c.code (pc + 3) = .ok (.dup, 1) := by rw [hb]; exact d3
  have hcat : (Value.ref T.heap.size).category = 1 := rfl
  obtain ⟨U, hsteps, hrun, hend, hW, hsame, ce, hce, hO⟩ := X₁.ctorThrowS hexec htr (own := "ContentLibrary") (cls := cls) (names := ["java/lang/RuntimeException", "java/lang/Exception"]) (ic := ic) hownS hcls (by decide +kernel) hall (fun x hx => nomatch hx) hfX hkX hcellA (by rw [hhp, hT]; exact Nat.le_refl _) (msg := .ref sa) rfl
    (g := { method := m, pc := pc + 6, locals := ls, stack := .ref sa :: .ref T.heap.size :: .ref T.heap.size :: rest, locked := none }) rfl hsize rfl rfl (rest := rest) rfl
    (by rw [hb]; exact d6) (by rw [hb]; exact d9) (fun x hx => (hno x hx).elim) hRf (by simp only [List.map_cons, List.sum_cons, hcat, List.length_cons, List.length_nil]; show 2 * 0 + _ + _ ≤ _; omega) hlocks
  obtain ⟨f1, f2⟩ := e_same hsame
  rw [hhp] at f1 f2
  have hWs : s.WarmedH U.vm := State.WarmedH.trans hW0 hW
  have hcl : s.vm.findClass cls = some ce.cls := by
    have h9 := hO.cls
    rw [hvm] at h9
    exact h9
  have hnew : s.sameButNew ({ U with vm := s.vm } : State) locs k9 n9 := by
    subst hA
    obtain ⟨e1, e2⟩ := hsame
    rw [State.setFrames_setFrames] at e1
    have h2 : (T.setVm s.vm).sameButNew ({ U with vm := s.vm } : State) [] (0 + 1) (0 + 6) := ⟨e1, e2⟩
    have h3 := X.same.trans h2
    rw [List.append_nil] at h3
    exact h3.mono hc hs
  refine ⟨U, ?_, T.heap.size, hrun, hend, ce, locs, hce, hO.vm, hcl, hWs, hnew, hS.2.2, hpw U hWs f1 f2, Nat.le_trans hS.1 f1, fun q h1 h2 => (f2 q (Nat.lt_of_lt_of_le h1 hS.1)).trans (hS.2.1 q h1 h2)⟩
  refine st1 _ ?_
  show Steps p.tables e below (N.setTop { method := m, pc := pc + 3, locals := ls, stack := .ref T.heap.size :: rest, locked := none }) _
  jvm_step X₁.here [X₁.here.top, hexec, d3', Value.category]
  exact X₁.ldcString hexec (own := "ContentLibrary") (text := text) (index := is) (a := sa) hownS hstr.1 hstr.2
    (g := { method := m, pc := pc + 4, locals := ls, stack := .ref T.heap.size :: .ref T.heap.size :: rest, locked := none }) rfl (by rw [hb]; exact d4) _ hsteps
/-- 'throw new E("text")' in a method of the library: new; dup; ldc_w; invokespecial; athrow -/
theorem e_throwW {cls text : String} {ik is ic k9 n9 : Nat} (hexec : p.tables.exec = Jvm.exec) (hb : c.code = cc) (hl9 : l.stackTraces = false) (hown : s.vm.findClass "ContentLibrary" = some m.cls) (hcls : Jvm.Bundle.fit cls = true) (hex : cls ∈ x_excs) (htx : (is, text) ∈ x_strs)
    (hts : ∀ w ∈ x_big, w.before args s = true) (hk : Cond.classLink "ContentLibrary" ik cls ∈ x_big) (hini : Cond.initialized cls ∈ x_big)
    (hat : ∀ w ∈ Jvm.Bundle.ownAtoms "ContentLibrary" ic cls ["java/lang/RuntimeException", "java/lang/Exception"], w ∈ x_big ∨ w ∈ e_rest cls)
    (hG : x_GV G s s.heap) (hS : va_S (x_A G) s.heap H locs) (hsize : ls.size = c.maxLocals)
    (d0 : decode cc pc = .ok (.new ik, 3)) (d3 : decode cc (pc + 3) = .ok (.dup, 1)) (d4 : decode cc (pc + 4) = .ok (.ldc_w is, 3)) (d6 : decode cc (pc + 7) = .ok (.invokespecial ic, 3)) (d9 : decode cc (pc + 10) = .ok (.athrow, 1))
    (hno : ∀ x ∈ c.exceptionTable.toList, False) (hRf : 5 < R.frames) (hRl : (rest.map fun v => v.category).sum + 82 ≤ R.locals) (hRc : cells + 1 ≤ R.cells) (hRs : slots + 6 ≤ R.slots) (hlocks : meth.locks = false)
    (hpw : ∀ t : State, s.WarmedH t.vm → H.size ≤ t.heap.size → (∀ q : Nat, q < H.size → t.heap[q]? = H[q]?) → x_PW G z t) (hc : cells + 1 ≤ k9) (hs : slots + 6 ≤ n9) :
    W p l e R s m args below meth c H locs cells slots (e_MQ below G cls z s k9 n9) (F0 m pc ls rest) := by
  intro T hT X
  have htr : e.platform.stackTraces = false := (show e.platform.stackTraces = l.stackTraces by rw [X.admits.platform]).trans hl9
  have Y := e_rebase X (R' := { frames := R.frames, locals := R.locals, cells := 1, slots := 6 }) (Nat.le_refl _) (Nat.le_refl _) hRc hRs
  obtain ⟨S, hA⟩ : ∃ S : State, S = (T.setVm s.vm).setFrames (.invoking m args :: below) := ⟨_, rfl⟩
  rw [← hA] at Y
  have hvm : S.vm = s.vm := by rw [hA]; rfl
  have hhp : S.heap = H := by rw [hA]; exact hT
  have hW0 : s.WarmedH S.vm := by rw [hvm]; exact State.WarmedH.refl s
  have hbig : ∀ w ∈ x_big, w.before args S = true := fun w hw => word_at hW0 (good_of_word (x_bg hw).2) (hts w hw)
  have hGS : x_GX G S S.heap := by rw [hhp]; exact (hG.2.kept hS.2.1).warm hW0
  have hall : ∀ w ∈ Jvm.Bundle.ownAtoms "ContentLibrary" ic cls ["java/lang/RuntimeException", "java/lang/Exception"], w.before args S = true := fun w hw => (hat w hw).elim (hbig w) (e_words hex hGS w)
  have hownS : S.vm.findClass "ContentLibrary" = some m.cls := by rw [hvm]; exact hown
  obtain ⟨sa, hstr⟩ := hGS.2.2.1 _ htx
  obtain ⟨vm₁, cX, kX, hfX, hkX, -, -, X₁, st1⟩ := Y.newCold hexec (own := "ContentLibrary") (C := cls) (index := ik) (n := 6) hownS (hbig _ hk) (hall _ (by simp [Jvm.Bundle.ownAtoms])) (hbig _ hini)
    (g := F0 m pc ls rest) rfl (by rw [hb]; exact d0) (Nat.le_refl _) (Nat.le_refl _)
  obtain ⟨N, hN⟩ : ∃ N : State, N = (T.setVm vm₁).pushCell { cls := cX, slots := kX.instanceTypes.map defaultValue, vm := .none } := ⟨_, rfl⟩
  rw [← hN] at X₁ st1
  have hcellA : N.heap[T.heap.size]? = some (freshCell cX kX) := by rw [hN]; exact State.heap_pushCell_size _ _
  have d3' : decode c.code (pc + 3) = .ok (.dup, 1) := by rw [hb]; exact d3
  have hcat : (Value.ref T.heap.size).category = 1 := rfl
  obtain ⟨U, hsteps, hrun, hend, hW, hsame, ce, hce, hO⟩ := X₁.ctorThrowS hexec htr (own := "ContentLibrary") (cls := cls) (names := ["java/lang/RuntimeException", "java/lang/Exception"]) (ic := ic) hownS hcls (by decide +kernel) hall (fun x hx => nomatch hx) hfX hkX hcellA (by rw [hhp, hT]; exact Nat.le_refl _) (msg := .ref sa) rfl
    (g := { method := m, pc := pc + 7, locals := ls, stack := .ref sa :: .ref T.heap.size :: .ref T.heap.size :: rest, locked := none }) rfl hsize rfl rfl (rest := rest) rfl
    (by rw [hb]; exact d6) (by rw [hb]; exact d9) (fun x hx => (hno x hx).elim) hRf (by simp only [List.map_cons, List.sum_cons, hcat, List.length_cons, List.length_nil]; show 2 * 0 + _ + _ ≤ _; omega) hlocks
  obtain ⟨f1, f2⟩ := e_same hsame
  rw [hhp] at f1 f2
  have hWs : s.WarmedH U.vm := State.WarmedH.trans hW0 hW
  have hcl : s.vm.findClass cls = some ce.cls := by
    have h9 := hO.cls
    rw [hvm] at h9
    exact h9
  have hnew : s.sameButNew ({ U with vm := s.vm } : State) locs k9 n9 := by
    subst hA
    obtain ⟨e1, e2⟩ := hsame
    rw [State.setFrames_setFrames] at e1
    have h2 : (T.setVm s.vm).sameButNew ({ U with vm := s.vm } : State) [] (0 + 1) (0 + 6) := ⟨e1, e2⟩
    have h3 := X.same.trans h2
    rw [List.append_nil] at h3
    exact h3.mono hc hs
  refine ⟨U, ?_, T.heap.size, hrun, hend, ce, locs, hce, hO.vm, hcl, hWs, hnew, hS.2.2, hpw U hWs f1 f2, Nat.le_trans hS.1 f1, fun q h1 h2 => (f2 q (Nat.lt_of_lt_of_le h1 hS.1)).trans (hS.2.1 q h1 h2)⟩
  refine st1 _ ?_
  show Steps p.tables e below (N.setTop { method := m, pc := pc + 3, locals := ls, stack := .ref T.heap.size :: rest, locked := none }) _
  jvm_step X₁.here [X₁.here.top, hexec, d3', Value.category]
  exact X₁.ldcStringW hexec (own := "ContentLibrary") (text := text) (index := is) (a := sa) hownS hstr.1 hstr.2
    (g := { method := m, pc := pc + 4, locals := ls, stack := .ref T.heap.size :: .ref T.heap.size :: rest, locked := none }) rfl (by rw [hb]; exact d4) _ hsteps
end EXC
