/-! Exceptions in this system: a method that throws has written nothing, and one new cell is the exception. tx_Thr is the contract of a method that throws. -/
section TXA
variable {l : Launch}
def tx_Q (E : String) (mc ms : Nat) (st : State) (o : Outcome) (t : State) : Prop :=
  ∃ (q : Addr) (ce : Cell), o = .threw q ∧ t.heap[q]? = some ce ∧ ce.vm = .none ∧ st.vm.findClass E = some ce.cls ∧ st.WarmedH t.vm ∧ st.sameButNew ({ t with vm := st.vm } : State) [] mc ms
def tx_Thr (l : Launch) (y : MethodName) (ws : List Cond) (rm : Room) (Pc : Array Value → State → Prop) (E : String) (mc ms : Nat) : Prop :=
  MetFree l y (headSpec ws rm) Pc (fun _ _ _ _ _ => True) (fun _ st o t => tx_Q E mc ms st o t)
def tx_End (below : List Frame) (E : String) (mc ms : Nat) (s : State) : State → Prop := fun t => ∃ o, t.status = .running ∧ Ended t below o ∧ tx_Q E mc ms s o t
theorem tx_of {y : MethodName} {ws ws' : List Cond} {rm : Room} {Pc : Array Value → State → Prop} {E : String} {mc ms : Nat} {cc : ByteArray} {maxL : Nat} {ret : Option FieldType}
    (hy : plainName y.cls = true) (hw : ws = Cond.code y cc maxL ret :: ws')
    (body : ∀ p e s m args below meth c s₁, BodyLoose p l y (headSpec ws rm) cc maxL ret e s m args below meth c s₁ → c.maxLocals = maxL → c.exceptionTable.toList = [] → Pc args s →
      W p l e (headSpec ws rm).room s m args below meth c s.heap [] 0 0 (tx_End below E mc ms s) (entryFrame m args maxL)) : tx_Thr l y ws rm Pc E mc ms := by
  refine MetFree.of_bodyS (code := cc) (maxLocals := maxL) (ret := ret) hy ?_ ?_
  · intro args s m h hn
    obtain ⟨meth, c, h1, h2, h3, h4, h5, h6, -, -⟩ := Cond.code_spec hn (atoms_spec (ws := ws) h _ (by rw [hw]; exact List.mem_cons_self))
    exact ⟨meth, c, h1, h2, h3, h4, h5, h6⟩
  · intro p e s m args below meth c s₁ B hml hP _
    have hh0 : s₁.heap = s.heap := by rw [B.state]; rfl
    have hne : c.exceptionTable.toList = [] := by
      have h1 := B.noHandlers (atoms_spec (ws := ws) B.pre _ (by rw [hw]; exact List.mem_cons_self))
      simpa using h1
    obtain ⟨t, a1, o, b1, b2, b3⟩ := body p e s m args below meth c s₁ B hml hne hP s₁ hh0 (Stand.of_body B)
    exact ⟨t, o, a1, b1, b2, b3⟩
end TXA
section TXB
variable {p : Program} {l : Launch} {e : Env} {R : Room} {s : State} {m : MethodId} {args : Array Value} {below : List Frame} {meth : Method} {c : Code} {H : Heap} {locs : List Loc} {cells slots : Nat} {Q : State → Prop}
variable {cc : ByteArray} {pc : Nat} {ls : Array Slot} {rest : List Value}
set_option maxHeartbeats 1000000 in
/-- throw new E("text"), before anything has been written -/
theorem tx_throw (hexec : p.tables.exec = Jvm.exec) (hb : c.code = cc) (hl : l.stackTraces = false) {own cls text : String} {names : List String} {ik is ic sa : Nat}
    (hown : s.vm.findClass own = some m.cls) (hcls : Bundle.fit cls = true) (hnames : ∀ n ∈ names, Bundle.fit n = true)
    (hk : (Cond.classLink own ik cls).before args s = true) (hini : (Cond.initialized cls).before args s = true) (hstr : vk_R own is text sa s) (hat : ∀ w ∈ Bundle.ownAtoms own ic cls names, w.before args s = true)
    (hsize : ls.size = c.maxLocals)
    (d0 : decode cc pc = .ok (.new ik, 3)) (d3 : decode cc (pc + 3) = .ok (.dup, 1)) (d4 : decode cc (pc + 4) = .ok (.ldc is, 2)) (d6 : decode cc (pc + 6) = .ok (.invokespecial ic, 3)) (d9 : decode cc (pc + 9) = .ok (.athrow, 1))
    (hne : c.exceptionTable.toList = []) (hRframes : names.length + 3 < R.frames) (hRlocals : (rest.map fun v => v.category).sum + (13 * (names.length + 1) + 43) ≤ R.locals) (hRcells : 1 ≤ R.cells) (hRslots : 6 ≤ R.slots) (hlocks : meth.locks = false) :
    W p l e R s m args below meth c s.heap [] 0 0 (tx_End below cls 1 6 s) (F0 m pc ls rest) := by
  have hins : (Cond.instantiable cls 6).before args s = true := hat _ (by simp [Bundle.ownAtoms])
  refine W.newc hexec hb hown hk hins hini rfl d0 (by omega) (by omega) fun cC kC h1 h2 h3 h4 => ?_
  refine lv_dup hexec hb d3 rfl ?_
  refine va_ldcS hexec hb hown hstr d4 ?_
  intro T hT X
  have htr : e.platform.stackTraces = false := (show e.platform.stackTraces = l.stackTraces by rw [X.admits.platform]).trans hl
  obtain ⟨U, hsteps, hrun, hend, hW, hsame, ce, hce, hO⟩ := X.ctorThrowS hexec htr (own := own) (cls := cls) (names := names) (ic := ic) hown hcls hnames hat (fun x hx => nomatch hx) h1 h2
    (a := s.heap.size) (by rw [hT]; simp) (Nat.le_refl _) (msg := .ref sa) rfl (g := F0 m (pc + 3 + 1 + 2) ls (.ref sa :: .ref s.heap.size :: .ref s.heap.size :: rest)) rfl hsize rfl rfl (rest := rest) rfl
    (by rw [hb]; exact d6) (by rw [hb]; exact d9) (by rw [hne]; exact fun x hx => nomatch hx) hRframes (by
      show 2 * 0 + _ + _ ≤ _
      have hc1 : (Value.ref s.heap.size).category = 1 := rfl
      simp only [List.map_cons, List.sum_cons, hc1]
      omega) hlocks
  exact ⟨U, hsteps, .threw s.heap.size, hrun, hend, s.heap.size, ce, rfl, hce, hO.vm, hO.cls, hW, hsame⟩
/-- q is thrown over the method's frame g -/
def tx_W (p : Program) (l : Launch) (e : Env) (R : Room) (s : State) (m : MethodId) (args : Array Value) (below : List Frame) (meth : Method) (c : Code) (H : Heap) (locs : List Loc) (cells slots : Nat) (Q : State → Prop) (g : JFrame) (q : Addr) : Prop :=
  ∀ T : State, T.heap = H → Stand p l e R s m args below meth c T locs cells slots → ∃ t, Steps p.tables e below ((T.setTop g).pushFrame (.throwing q)) t ∧ Q t
/-- the thrown leaves a method that has written nothing -/
theorem tx_leave {E : String} {mc ms : Nat} {ce : Cell} {q : Addr} {g : JFrame} (hg : g.method = m) (hlk : g.locked = none) (hen : g.entered = []) (hne : c.exceptionTable.toList = []) (hlocks : meth.locks = false)
    (hce : H[q]? = some ce) (hcv : ce.vm = .none) (hcl : s.vm.findClass E = some ce.cls) (hc : cells ≤ mc) (hs : slots ≤ ms) : tx_W p l e R s m args below meth c H [] cells slots (tx_End below E mc ms s) g q := by
  intro T hT X
  obtain ⟨st, hrun, hend, hW, hsame⟩ := X.leaveThrown q (g := g) hg hlk hen (by rw [hne]; exact fun x hx => nomatch hx) hlocks
  exact ⟨_, st, .threw q, hrun, hend, q, ce, rfl, by show T.heap[q]? = _; rw [hT]; exact hce, hcv, hcl, hW, hsame.mono hc hs⟩
end TXB
section TXC
variable {l : Launch} {R : Room} {p : Program} {e : Env} {below : List Frame} {s : State} {sargs : Array Value} {y : MethodName} {len W9 : Nat}
/-- what a call of a throwing method comes to -/
theorem tx_back {ws : List Cond} {rm : Room} {Pc : Array Value → State → Prop} {E : String} {mc ms : Nat} {bytes : ByteArray} {maxL : Nat} {ret : Option FieldType}
    (hM : tx_Thr l y ws rm Pc E mc ms) (hblind : FrameBlind Pc) (hrc : rm.cells = mc) (hrs : rm.slots = ms) (hframes : rm.frames + 1 ≤ R.frames) (hlocals : W9 + (maxL + 11) + rm.locals ≤ R.locals)
    (hws : ∀ w ∈ ws, ∀ a' U, s.WarmedH U.vm → w.before a' U = true) (hcode : Cond.code y bytes maxL ret ∈ ws) (hinit : ∀ a' U, s.WarmedH U.vm → (Cond.initialized y.cls).before a' U = true)
    {m : MethodId} {meth : Method} {c : Code} {U : State} {locs : List Loc} {cells slots : Nat} {g : JFrame} {ig : Instr} {mk : MethodId} {a : Array Value}
    (X : Stand p l e R s m sargs below meth c U locs cells slots) (hg : g.method = m) (hsize : g.locals.size = c.maxLocals) (hdg : decode c.code g.pc = .ok (ig, len)) (hW9 : 2 * g.monitorRoom + (g.stack.map fun v => v.category).sum ≤ W9)
    (hn : U.methodNamed? y = some mk) (hp : Pc a U) (hcc : cells + mc ≤ R.cells) (hss : slots + ms ≤ R.slots) :
    ∃ (q : Addr) (ce : Cell) (V : State), Stand p l e R s m sargs below meth c V locs (cells + mc) (slots + ms) ∧ V.heap[q]? = some ce ∧ ce.vm = .none ∧ s.vm.findClass E = some ce.cls ∧
      U.heap.size ≤ V.heap.size ∧ (∀ x : Nat, x < U.heap.size → V.heap[x]? = U.heap[x]?) ∧ Steps p.tables e below (doInvoke e (U.setTop g) [] mk a).1 ((V.setTop g).pushFrame (.throwing q)) := by
  have hPc : Pc a (U.calling g mk a) := hblind _ _ _ _ hp
  have h1 : (headSpec ws rm).pre.before a U = true := atoms_intro fun w hw => hws w hw _ _ X.warmed
  obtain ⟨methY, cY, hmY, hcY, -, hlY, -, -, -, -⟩ := Cond.code_spec hn (hws _ hcode a U X.warmed)
  obtain ⟨kY, hkY, -⟩ := className_of_methodNamed hn
  have hinitY : kY.init = .initialized := Cond.initialized_spec (findClass_of_methodNamed hn) hkY (hinit a U X.warmed)
  have h : At U g.method c below := by rw [hg]; exact X.here
  have happ : (headSpec ws rm).appliesLoose y e.platform (U.calling g mk a) = true :=
    Spec.appliesLoose_calling (g := g) h hdg hn hkY hinitY
      (X.room_calling (g := g) (R' := (headSpec ws rm).room) hsize hmY hcY hframes (by
        rw [hlY]
        have h9 : W9 + (maxL + 11) + (headSpec ws rm).room.locals ≤ R.locals := hlocals
        omega) (by rw [show (headSpec ws rm).room.cells = mc from hrc]; exact hcc) (by rw [show (headSpec ws rm).room.slots = ms from hrs]; exact hss)) h1
  obtain ⟨mid, hmid⟩ := h.above
  have hfr : (U.setTop g).frames = (.java g :: mid) ++ below := by rw [State.frames_setTop' g h.top, hmid]; rfl
  obtain ⟨o, t, hsteps, -, hend, q, ce, rfl, hce, hcv, hcl, hWt, hsame⟩ := Steps.callFree hM p X.admits X.cas X.clock (acts := []) hfr happ hPc trivial
  rw [State.frames_setTop' g h.top] at hend
  obtain ⟨g₀, hg0⟩ := Option.isSome_iff_exists.mp h.top
  obtain ⟨r, hr⟩ := State.topJava?_eq_some.mp hg0
  have hWU : U.WarmedH t.vm := hWt
  have hft : t.frames = .throwing q :: .java g :: U.frames.tail := hend
  obtain ⟨V, hV⟩ : ∃ V : State, V = ({ U with heap := t.heap, slotsUsed := t.slotsUsed } : State).setVm t.vm := ⟨_, rfl⟩
  have hrV : V.frames = .java g₀ :: r := by rw [hV]; exact hr
  obtain ⟨e1, e2, e3, e4, e5, e6⟩ := hsame
  have ht : t = (V.setTop g).pushFrame (.throwing q) := by
    have e7 : t = ({ t with vm := ((U.setTop g).pushFrame (Frame.invoking mk a)).vm } : State).setVm t.vm := rfl
    rw [e1] at e7
    have hrhs : (V.setTop g).pushFrame (.throwing q) = V.setFrames (.throwing q :: .java g :: r) := by rw [State.pushFrame, State.frames_setTop _ hrV, State.setTop_of_frames _ hrV, State.setFrames_setFrames]
    rw [hrhs, hV]
    refine e7.trans ?_
    show (({ (U.calling g mk a).setFrames t.frames with heap := t.heap, slotsUsed := t.slotsUsed } : State).setVm t.vm) = _
    rw [hft, State.calling_eq h.top, State.setFrames_setFrames, hr]
    rfl
  have hsU : U.sameButNew ({ U with heap := t.heap, slotsUsed := t.slotsUsed } : State) [] mc ms := by
    refine ⟨?_, e2, e3, e4, e5, e6⟩
    obtain ⟨x, hx, -⟩ := State.frames_cons hr
    show ({ U with heap := t.heap, slotsUsed := t.slotsUsed } : State) = { U.setFrames U.frames with heap := t.heap, slotsUsed := t.slotsUsed }
    rw [State.setFrames_self hx]
  have XV : Stand p l e R s m sargs below meth c V locs (cells + mc) (slots + ms) := by
    have h9 := X.same.trans (hsU.setVm s.vm)
    rw [List.append_nil] at h9
    rw [hV]
    exact ⟨X.admits, X.cas, X.clock, X.frames, X.room, X.hears, X.method, X.code, (X.here.setHeapUsed t.heap t.slotsUsed).setVm hWU.alike, X.tail, State.WarmedH.trans X.warmed hWU, X.limits, X.bytes, h9⟩
  refine ⟨q, ce, V, XV, by rw [hV]; exact hce, hcv, ?_, by rw [hV]; exact e2, fun x hx => ?_, by rw [← ht]; exact hsteps⟩
  · have h9 : U.vm.findClass E = some ce.cls := hcl
    rw [X.warmed.alike.findClass] at h9
    exact h9
  · rw [hV]
    show t.heap[x]? = U.heap[x]?
    obtain ⟨cell, hcell⟩ : ∃ cell, U.heap[x]? = some cell := ⟨U.heap[x], Array.getElem?_eq_getElem hx⟩
    obtain ⟨cell', h7, h8, h9, h10⟩ := e6 x cell hcell
    have hsl : cell'.slots = cell.slots := Array.ext_getElem? (fun i => h10 i List.not_mem_nil)
    have h11 : cell' = cell := by rw [h8, hsl]
    rw [hcell, ← h11]
    exact h7
end TXC
section TXD
variable {p : Program} {l : Launch} {e : Env} {R : Room} {s : State} {m : MethodId} {args : Array Value} {below : List Frame} {meth : Method} {c : Code} {H : Heap} {locs : List Loc} {cells slots : Nat} {Q : State → Prop}
variable {y : MethodName} {bytes cc : ByteArray} {maxL nL mc ms n index : Nat} {ret : Option FieldType} {ws : List Cond} {rm : Room} {Pc : Array Value → State → Prop} {E : String} {Ts : List Cond} {own C : String} {b : Addr} {As rest st0 : List Value} {pc : Nat} {ls : Array Slot}
theorem tx_callS (S : CallFix p m c cc nL s args Ts own) (hM : tx_Thr l y ws rm Pc E mc ms) (cw : CallB R s args own index y bytes maxL ret ws rm mc ms n ∧ (Cond.static y).before args s = true) (hp : PreS s H Pc As)
    (hn : As.length = n) (hsize : ls.size = nL) (hstack : st0 = As.reverse ++ rest) (hW : (rest.map fun v => v.category).sum ≤ 8) (hdg : decode cc pc = .ok (.invokestatic index, 3)) (hf : cells + mc ≤ R.cells ∧ slots + ms ≤ R.slots)
    (kx : ∀ (q : Addr) (ce : Cell) (H1 : Heap), H.size ≤ H1.size → (∀ x : Nat, x < H.size → H1[x]? = H[x]?) → H1[q]? = some ce → ce.vm = .none → s.vm.findClass E = some ce.cls → tx_W p l e R s m args below meth c H1 locs (cells + mc) (slots + ms) Q (F0 m pc ls rest) q) :
    W p l e R s m args below meth c H locs cells slots Q (F0 m pc ls st0) := by
  obtain ⟨⟨hrc, hrs, hfr, hlo, hws, hcw, hcode, hini, hy, hlen, hl⟩, hstt⟩ := cw
  obtain ⟨hx, hb, hml, ho, -⟩ := S
  obtain ⟨hbl, hPc⟩ := hp
  subst hstack
  intro T hT X
  obtain ⟨mk, hnamed⟩ := Cond.code_named hcode
  obtain ⟨methM, cM, hmethM, -, -, -, -, -, -, hsigM⟩ := Cond.code_spec hnamed hcode
  obtain ⟨kP, hkP, -⟩ := className_of_methodNamed hnamed
  obtain ⟨vm₁, X₁, hstep₁⟩ := X.invokestatic hx ho hl hnamed hmethM (Cond.static_spec hnamed hmethM hstt) hkP (Cond.initialized_spec (findClass_of_methodNamed hnamed) hkP hini) hy (g := F0 m pc ls (As.reverse ++ rest)) rfl (argsL := As) (rest := rest) (hn.trans (hlen _ hsigM)) rfl (by rw [hb]; exact hdg)
  obtain ⟨q, ce, V, XV, h1, h2, h3, h4, h5, st⟩ := tx_back (W9 := 8) (len := 3) (ig := .invokestatic index) (mk := mk) hM hbl hrc hrs hfr hlo hws hcw (fun a' U hW => word_at hW (Or.inl (by first | rfl | simp [Cond.onTables, Cond.keeps, Cond.steady])) hini) X₁ (g := F0 m pc ls rest) rfl (hsize.trans hml.symm) (by rw [hb]; exact hdg) (lv_room (m := m) (pc := pc) (ls := ls) (rest := rest) hW) (X₁.named hnamed) (hPc (T.setVm vm₁) hT X₁.warmed) hf.1 hf.2
  rw [State.heap_setVm, hT] at h4 h5
  obtain ⟨t2, a1, b1⟩ := kx q ce V.heap h4 h5 h1 h2 h3 V rfl XV
  exact ⟨t2, hstep₁ _ fun acts => by rw [doInvoke_state]; exact st.trans a1, b1⟩
theorem tx_callV (S : CallFix p m c cc nL s args Ts own) (hM : tx_Thr l y ws rm Pc E mc ms) (cw : CallW R s args own C index y bytes maxL ret ws rm mc ms n) (hp : PreV s H C b Pc As)
    (hn : As.length = n) (hsize : ls.size = nL) (hstack : st0 = As.reverse ++ .ref b :: rest) (hW : (rest.map fun v => v.category).sum ≤ 8) (hdg : decode cc pc = .ok (.invokevirtual index, 3)) (hf : cells + mc ≤ R.cells ∧ slots + ms ≤ R.slots)
    (kx : ∀ (q : Addr) (ce : Cell) (H1 : Heap), H.size ≤ H1.size → (∀ x : Nat, x < H.size → H1[x]? = H[x]?) → H1[q]? = some ce → ce.vm = .none → s.vm.findClass E = some ce.cls → tx_W p l e R s m args below meth c H1 locs (cells + mc) (slots + ms) Q (F0 m pc ls rest) q) :
    W p l e R s m args below meth c H locs cells slots Q (F0 m pc ls st0) := by
  obtain ⟨⟨hrc, hrs, hfr, hlo, hws, hcw, hcode, hini, hy, hlen, hl⟩, hinst, hsel⟩ := cw
  obtain ⟨hx, hb, hml, ho, -⟩ := S
  obtain ⟨hbl, ⟨cellB, hcB, hoB, hclB⟩, hPc⟩ := hp
  subst hstack
  intro T hT X
  obtain ⟨mk, methM, hnamed, hmethM, hstM, habM⟩ := Cond.instanceMethod_spec hinst
  obtain ⟨methM', cM, hmethM', -, -, -, -, -, -, hsigM⟩ := Cond.code_spec hnamed hcode
  cases hmethM.symm.trans hmethM'
  obtain ⟨c2, r2, m2, q1, q2, q3, q4, kP, hkP, hkPi⟩ := Cond.selects_spec hsel
  cases hclB.symm.trans q1
  cases (State.methodFound?_of_named hnamed hy).symm.trans q2
  cases hnamed.symm.trans q3
  obtain ⟨vm₁, X₁, hstep₁⟩ := X.invokevirtual hx ho hl hnamed hmethM hstM hkP hkPi hy (a := b) (cell := cellB) (by rw [hT]; exact hcB)
    (fun z h => by rw [h] at hoB; cases hoB) (by rw [Launch.admits_selectMethod X.admits]; exact q4) hmethM habM hkP hkPi (g := F0 m pc ls (As.reverse ++ .ref b :: rest)) rfl (argsL := As) (rest := rest) (hn.trans (hlen _ hsigM)) rfl (by rw [hb]; exact hdg)
  obtain ⟨q, ce, V, XV, h1, h2, h3, h4, h5, st⟩ := tx_back (W9 := 8) (len := 3) (ig := .invokevirtual index) (mk := mk) hM hbl hrc hrs hfr hlo hws hcw (fun a' U hW => word_at hW (Or.inl (by first | rfl | simp [Cond.onTables, Cond.keeps, Cond.steady])) hini) X₁ (g := F0 m pc ls rest) rfl (hsize.trans hml.symm) (by rw [hb]; exact hdg) (lv_room (m := m) (pc := pc) (ls := ls) (rest := rest) hW) (X₁.named hnamed) (hPc (T.setVm vm₁) hT X₁.warmed) hf.1 hf.2
  rw [State.heap_setVm, hT] at h4 h5
  obtain ⟨t2, a1, b1⟩ := kx q ce V.heap h4 h5 h1 h2 h3 V rfl XV
  exact ⟨t2, hstep₁ _ fun acts => by rw [doInvoke_state]; exact st.trans a1, b1⟩
end TXD
section TXE
variable {e : Env} {f : JFrame} {q : Addr}
/-- one row of a table that covers the place, its type linked now or before: it takes what can be assigned to it -/
theorem tx_row {z : ExceptionTableEntry} {t : List ExceptionTableEntry} {cz : ClassId} {cell : Cell} {S : State} {P : Handler → Pre} {E : CtlPost} {d : Bool} {acts : List Action} (hz : covers z f.pc = true) (h0 : z.catchType ≠ 0)
    (hl : S.vm.ClassLinks e.platform f.method.cls z.catchType cz) (hcell : S.heap[q]? = some cell) (hobj : ∀ k, cell.vm ≠ .statics k) (hk : ∃ k, S.vm.classes[cell.cls]? = some k) (hc : ∃ k, S.vm.classes[cz]? = some k) {b : Bool} (hb : S.vm.assignable cell.cls cz = b) :
    wp (findHandler.go f q (z :: t)) P E e d acts S ↔ if b = true then P (.found z.handlerPc) d acts (S.setVm (S.vm.noted f.method.cls z.catchType (.cls cz))) else wp (findHandler.go f q t) P E e d acts (S.setVm (S.vm.noted f.method.cls z.catchType (.cls cz))) := by
  simp only [covers] at hz
  obtain ⟨ha, ht⟩ := (resolveClass_links e.toSetting hl).op (op := VmOp.resolveClass f.method.cls z.catchType) rfl
  have hal : S.vm.Alike (S.vm.noted f.method.cls z.catchType (.cls cz)) := (Vm.Alike.refl S.vm).noted _ _ _
  obtain ⟨k1, hk1⟩ := hk
  obtain ⟨k2, hk2⟩ := hc
  obtain ⟨k1', hk1', -⟩ := hal.2.2 _ _ hk1
  obtain ⟨k2', hk2', -⟩ := hal.2.2 _ _ hk2
  have hb' : (S.vm.noted f.method.cls z.catchType (.cls cz)).assignable cell.cls cz = b := by rw [hal.assignable]; exact hb
  cases b <;> simp [findHandler.go, hz, h0, ha, ht, hcell, hobj, hk1', hk2', hb', VmOp.dirties, VmOp.acts]
/-- the search over rows that don't take it, then one that does -/
theorem tx_rows {s0 : State} {cell : Cell} (hobj : ∀ k, cell.vm ≠ .statics k) (hk0 : ∃ k, s0.vm.classes[cell.cls]? = some k) {x : ExceptionTableEntry} {suf : List ExceptionTableEntry} (hx : covers x f.pc = true) (h0 : x.catchType ≠ 0)
    {cx : ClassId} (hlx : s0.vm.ClassLinks e.platform f.method.cls x.catchType cx) (hax : s0.vm.assignable cell.cls cx = true) : ∀ (pre : List ExceptionTableEntry) (S : State), s0.WarmedH S.vm → S.heap[q]? = some cell →
      (∀ z ∈ pre, covers z f.pc = true ∧ z.catchType ≠ 0 ∧ ∃ cz, s0.vm.ClassLinks e.platform f.method.cls z.catchType cz ∧ s0.vm.assignable cell.cls cz = false) →
      ∃ vm', s0.WarmedH vm' ∧ ∀ (P : Handler → Pre) (E : CtlPost) (d : Bool) (acts : List Action), wp (findHandler.go f q (pre ++ x :: suf)) P E e d acts S ↔ P (.found x.handlerPc) d acts (S.setVm vm')
  | [], S, hW, hcell, _ => by
    obtain ⟨k0, hk0⟩ := hk0
    obtain ⟨k0', hk0', -⟩ := hW.alike.2.2 _ _ hk0
    obtain ⟨dk, _, _, kt, hd, _, _, _, _, hkt, _, hopen⟩ := hlx.here
    obtain ⟨kt', hkt', -⟩ := hW.alike.2.2 _ _ hkt
    refine ⟨_, hW.noted hd hopen (State.rightAt_cls hlx), fun P E d acts => ?_⟩
    have h9 := tx_row (t := suf) (P := P) (E := E) (d := d) (acts := acts) hx h0 (hW.classLinks hlx) hcell hobj ⟨k0', hk0'⟩ ⟨kt', hkt'⟩ (b := true) (by rw [hW.alike.assignable]; exact hax)
    rw [if_pos rfl] at h9
    exact h9
  | z :: pre, S, hW, hcell, hp => by
    obtain ⟨hz, hz0, cz, hlz, haz⟩ := hp z List.mem_cons_self
    obtain ⟨k0, hk1⟩ := id hk0
    obtain ⟨k0', hk0', -⟩ := hW.alike.2.2 _ _ hk1
    obtain ⟨dk, _, _, kt, hd, _, _, _, _, hkt, _, hopen⟩ := hlz.here
    obtain ⟨kt', hkt', -⟩ := hW.alike.2.2 _ _ hkt
    obtain ⟨vm', hW', hq⟩ := tx_rows hobj hk0 hx h0 hlx hax pre (S.setVm (S.vm.noted f.method.cls z.catchType (.cls cz))) (hW.noted hd hopen (State.rightAt_cls hlz)) hcell (fun w hw => hp w (List.mem_cons_of_mem _ hw))
    refine ⟨vm', hW', fun P E d acts => ?_⟩
    have h9 := tx_row (t := pre ++ x :: suf) (P := P) (E := E) (d := d) (acts := acts) hz hz0 (hW.classLinks hlz) hcell hobj ⟨k0', hk0'⟩ ⟨kt', hkt'⟩ (b := false) (by rw [hW.alike.assignable]; exact haz)
    rw [if_neg (by decide)] at h9
    rw [List.cons_append, h9]
    exact hq P E d acts
/-- the machine goes on at the handler -/
theorem tx_caught {tb : Tables} {U target : State} {g : JFrame} {c : Code} {below : List Frame} (h : At U g.method c below) {pc' : Nat} {vm' : Vm}
    (hfind : ∀ (P : Handler → Pre) (E : CtlPost) (d : Bool) (acts : List Action), wp (findHandler g q) P E e d acts ((U.setTop g).pushFrame (.throwing q)) ↔ P (.found pc') d acts (((U.setTop g).pushFrame (.throwing q)).setVm vm'))
    (hrest : Steps tb e below ((U.setVm vm').setTop { g with pc := pc', stack := [.ref q] }) target) : Steps tb e below ((U.setTop g).pushFrame (.throwing q)) target := by
  obtain ⟨hgo, hw⟩ := h.throwing q
  refine Steps.head hgo hw ?_
  rw [stepThread_throwing (frames_entered h.top _)]
  have hstep : (stepThrowing e ((U.setTop g).pushFrame (.throwing q)) q (.java g :: U.frames.tail)).1 = (((U.setTop g).pushFrame (.throwing q)).setVm vm').setFrames (.java { g with pc := pc', stack := [.ref q] } :: U.frames.tail) := by
    simp only [stepThrowing, searchFrame, vmDo]
    generalize hr : Sem.go _ e false [] _ = res
    obtain ⟨as, rfl, ha⟩ := Sem.eq_ok_of hr (a := Handler.found pc') (s' := ((U.setTop g).pushFrame (.throwing q)).setVm vm') (acts' := []) (by simp [hfind _ _ _ _])
    rfl
  rw [hstep]
  obtain ⟨g₀, hg⟩ := Option.isSome_iff_exists.mp h.top
  obtain ⟨r, hr⟩ := State.topJava?_eq_some.mp hg
  have hr' : (U.setVm vm').frames = .java g₀ :: r := hr
  rw [State.setTop_of_frames _ hr'] at hrest
  have e1 : ((U.setTop g).pushFrame (.throwing q)).setVm vm' = (U.setVm vm').setFrames (.throwing q :: .java g :: r) := by
    rw [State.pushFrame, State.frames_setTop _ hr, State.setTop_of_frames _ hr, State.setFrames_setFrames]
    rfl
  rw [e1, State.setFrames_setFrames, hr]
  exact hrest
end TXE
section TXF
variable {p : Program} {l : Launch} {e : Env} {R : Room} {s : State} {m : MethodId} {args : Array Value} {below : List Frame} {meth : Method} {c : Code} {H : Heap} {locs : List Loc} {cells slots : Nat} {Q : State → Prop} {pc : Nat} {ls : Array Slot} {rest : List Value}
/-- caught by the row x; the rows ahead name classes that the thrown isn't of -/
theorem tx_catch {own name E : String} {ce : Cell} {q : Addr} (hown : s.vm.findClass own = some m.cls) (pre : List ExceptionTableEntry) (x : ExceptionTableEntry) (suf : List ExceptionTableEntry) (hsplit : c.exceptionTable.toList = pre ++ x :: suf)
    (hpass : ∀ z ∈ pre, covers z pc = true ∧ z.catchType ≠ 0 ∧ ∃ nm : String, (Cond.classLink own z.catchType nm).before args s = true ∧ va_Nc E nm s) (hx : covers x pc = true) (h0 : x.catchType ≠ 0)
    (hlink : (Cond.classLink own x.catchType name).before args s = true) (hcast : (Cond.castable E name).before args s = true) (hcell : H[q]? = some ce) (hv : ce.vm = .none) (hcl : s.vm.findClass E = some ce.cls)
    (kk : W p l e R s m args below meth c H locs cells slots Q (F0 m x.handlerPc ls [.ref q])) : tx_W p l e R s m args below meth c H locs cells slots Q (F0 m pc ls rest) q := by
  intro T hT X
  have hpl : e.platform.magicAccessors = ({} : Platform).magicAccessors := by rw [X.admits.platform]
  obtain ⟨c3, c4, hc3, hc4, hasg⟩ := Cond.castable_spec hcast
  cases Option.some.inj (hc3.symm.trans hcl)
  obtain ⟨c5, hc5, hl5⟩ := Cond.classLink_spec hown hlink e.platform hpl
  cases Option.some.inj (hc4.symm.trans hc5)
  obtain ⟨vm', hW', hq⟩ := tx_rows (e := e) (f := F0 m pc ls rest) (q := q) (s0 := s) (cell := ce) (fun k h => by rw [hv] at h; cases h) (Vm.classAt_of_findClass hcl) (x := x) (suf := suf) hx h0 hl5 hasg pre ((T.setTop (F0 m pc ls rest)).pushFrame (.throwing q)) X.warmed (by show T.heap[q]? = _; rw [hT]; exact hcell)
    (fun z hz => by
      obtain ⟨g1, g2, nm, g3, a8, b8, g4, g5, g6⟩ := hpass z hz
      obtain ⟨c6, hc6, hl6⟩ := Cond.classLink_spec hown g3 e.platform hpl
      cases Option.some.inj (g4.symm.trans hcl)
      cases Option.some.inj (g5.symm.trans hc6)
      exact ⟨g1, g2, _, hl6, g6⟩)
  obtain ⟨t, a1, b1⟩ := kk (T.setVm vm') hT (X.noted hW')
  refine ⟨t, tx_caught X.here (pc' := x.handlerPc) (vm' := vm') (fun P E d acts => ?_) a1, b1⟩
  rw [Jvm.W.findHandler_eq (s := (T.setTop (F0 m pc ls rest)).pushFrame (.throwing q)) (f := F0 m pc ls rest) X.method' X.code, hsplit]
  exact hq P E d acts
end TXF
