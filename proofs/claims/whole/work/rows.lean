section
-- ===== PART A: goes FIRST, ahead of the names: the tables' words, and 'selects' of the private methods out of them =====
/-- a private method of a class that the tables say can be made, by its rows of tables_1 -/
def lw_okq (q : MethodName × Nat) : Prop := (q.1.cls ≠ "java/lang/invoke/MethodHandle" ∧ q.1.cls ≠ "java/lang/invoke/VarHandle") ∧ Cond.instantiable q.1.cls q.2 ∈ tables_1 ∧ Cond.privateMethod q.1 ∈ tables_1 ∧ Cond.instanceMethod q.1 ∈ tables_1
theorem lw_p0 : lw_okq (⟨"GrantMath", "accessCause", "(IIII)I"⟩, 6) := ⟨⟨by decide +kernel, by decide +kernel⟩, List.mem_of_getElem? (i := 9) (by decide +kernel), List.mem_of_getElem? (i := 42) (by decide +kernel), List.mem_of_getElem? (i := 43) (by decide +kernel)⟩
theorem lw_p1 : lw_okq (⟨"GrantMath", "isSealed", "(I)Z"⟩, 6) := ⟨⟨by decide +kernel, by decide +kernel⟩, List.mem_of_getElem? (i := 9) (by decide +kernel), List.mem_of_getElem? (i := 46) (by decide +kernel), List.mem_of_getElem? (i := 47) (by decide +kernel)⟩
theorem lw_p2 : lw_okq (⟨"GrantMath", "hasPermissions", "(II)Z"⟩, 6) := ⟨⟨by decide +kernel, by decide +kernel⟩, List.mem_of_getElem? (i := 9) (by decide +kernel), List.mem_of_getElem? (i := 50) (by decide +kernel), List.mem_of_getElem? (i := 51) (by decide +kernel)⟩
theorem lw_p3 : lw_okq (⟨"GrantMath", "isInBounds", "(IIJ)Z"⟩, 6) := ⟨⟨by decide +kernel, by decide +kernel⟩, List.mem_of_getElem? (i := 9) (by decide +kernel), List.mem_of_getElem? (i := 54) (by decide +kernel), List.mem_of_getElem? (i := 55) (by decide +kernel)⟩
theorem lw_p4 : lw_okq (⟨"java/lang/Throwable", "fillInStackTrace", "(I)Ljava/lang/Throwable;"⟩, 6) := ⟨⟨by decide +kernel, by decide +kernel⟩, List.mem_of_getElem? (i := 108) (by decide +kernel), List.mem_of_getElem? (i := 106) (by decide +kernel), List.mem_of_getElem? (i := 107) (by decide +kernel)⟩
theorem lw_p5 : lw_okq (⟨"GrantMath", "copy", "(II)V"⟩, 6) := ⟨⟨by decide +kernel, by decide +kernel⟩, List.mem_of_getElem? (i := 9) (by decide +kernel), List.mem_of_getElem? (i := 172) (by decide +kernel), List.mem_of_getElem? (i := 173) (by decide +kernel)⟩
theorem lw_p6 : lw_okq (⟨"GrantMath", "sealingCause", "(II)I"⟩, 6) := ⟨⟨by decide +kernel, by decide +kernel⟩, List.mem_of_getElem? (i := 9) (by decide +kernel), List.mem_of_getElem? (i := 197) (by decide +kernel), List.mem_of_getElem? (i := 198) (by decide +kernel)⟩
theorem lw_p7 : lw_okq (⟨"GrantMath", "unsealingCause", "(II)I"⟩, 6) := ⟨⟨by decide +kernel, by decide +kernel⟩, List.mem_of_getElem? (i := 9) (by decide +kernel), List.mem_of_getElem? (i := 209) (by decide +kernel), List.mem_of_getElem? (i := 210) (by decide +kernel)⟩
theorem lw_p8 : lw_okq (⟨"GrantMathModel", "fails", "(ZI)Z"⟩, 7) := ⟨⟨by decide +kernel, by decide +kernel⟩, List.mem_of_getElem? (i := 237) (by decide +kernel), List.mem_of_getElem? (i := 282) (by decide +kernel), List.mem_of_getElem? (i := 283) (by decide +kernel)⟩
theorem lw_p9 : lw_okq (⟨"GrantMathModel", "give", "(IJJJIIZ)V"⟩, 7) := ⟨⟨by decide +kernel, by decide +kernel⟩, List.mem_of_getElem? (i := 237) (by decide +kernel), List.mem_of_getElem? (i := 290) (by decide +kernel), List.mem_of_getElem? (i := 291) (by decide +kernel)⟩
theorem lw_p10 : lw_okq (⟨"GrantMathModel", "isSealed", "(I)Z"⟩, 7) := ⟨⟨by decide +kernel, by decide +kernel⟩, List.mem_of_getElem? (i := 237) (by decide +kernel), List.mem_of_getElem? (i := 302) (by decide +kernel), List.mem_of_getElem? (i := 303) (by decide +kernel)⟩
theorem lw_p11 : lw_okq (⟨"GrantMathModel", "may", "(II)Z"⟩, 7) := ⟨⟨by decide +kernel, by decide +kernel⟩, List.mem_of_getElem? (i := 237) (by decide +kernel), List.mem_of_getElem? (i := 318) (by decide +kernel), List.mem_of_getElem? (i := 319) (by decide +kernel)⟩
theorem lw_p12 : lw_okq (⟨"GrantMathModel", "holds", "(IJJ)Z"⟩, 7) := ⟨⟨by decide +kernel, by decide +kernel⟩, List.mem_of_getElem? (i := 237) (by decide +kernel), List.mem_of_getElem? (i := 322) (by decide +kernel), List.mem_of_getElem? (i := 323) (by decide +kernel)⟩
def lw_privs_1 : List (MethodName × Nat) := [(⟨"GrantMath", "accessCause", "(IIII)I"⟩, 6), (⟨"GrantMath", "isSealed", "(I)Z"⟩, 6), (⟨"GrantMath", "hasPermissions", "(II)Z"⟩, 6), (⟨"GrantMath", "isInBounds", "(IIJ)Z"⟩, 6), (⟨"java/lang/Throwable", "fillInStackTrace", "(I)Ljava/lang/Throwable;"⟩, 6), (⟨"GrantMath", "copy", "(II)V"⟩, 6), (⟨"GrantMath", "sealingCause", "(II)I"⟩, 6), (⟨"GrantMath", "unsealingCause", "(II)I"⟩, 6), (⟨"GrantMathModel", "fails", "(ZI)Z"⟩, 7), (⟨"GrantMathModel", "give", "(IJJJIIZ)V"⟩, 7), (⟨"GrantMathModel", "isSealed", "(I)Z"⟩, 7), (⟨"GrantMathModel", "may", "(II)Z"⟩, 7), (⟨"GrantMathModel", "holds", "(IJJ)Z"⟩, 7)]
theorem lw_r1 : ∀ q ∈ lw_privs_1, lw_okq q := List.forall_mem_cons.mpr ⟨lw_p0, List.forall_mem_cons.mpr ⟨lw_p1, List.forall_mem_cons.mpr ⟨lw_p2, List.forall_mem_cons.mpr ⟨lw_p3, List.forall_mem_cons.mpr ⟨lw_p4, List.forall_mem_cons.mpr ⟨lw_p5, List.forall_mem_cons.mpr ⟨lw_p6, List.forall_mem_cons.mpr ⟨lw_p7, List.forall_mem_cons.mpr ⟨lw_p8, List.forall_mem_cons.mpr ⟨lw_p9, List.forall_mem_cons.mpr ⟨lw_p10, List.forall_mem_cons.mpr ⟨lw_p11, List.forall_mem_cons.mpr ⟨lw_p12, fun _ h => absurd h List.not_mem_nil⟩⟩⟩⟩⟩⟩⟩⟩⟩⟩⟩⟩⟩
def lw_privs : List (MethodName × Nat) := lw_privs_1
def lw_tbl : List Cond := k2_sels lw_privs ++ tables_1
theorem lw_privs_ok : ∀ q ∈ lw_privs, lw_okq q := lw_r1
end
section
/-! Exceptions in this system: a method that throws has written nothing, and one new cell is the exception. tx_Thr is the contract of a method that throws. -/
section TXA
variable {l : Launch}
def tx_Q (E : String) (mc ms : Nat) (st : State) (o : Outcome) (t : State) : Prop :=
  ∃ (q : Addr) (ce : Cell), o = .threw q ∧ t.heap[q]? = some ce ∧ ce.vm = .none ∧ st.vm.findClass E = some ce.cls ∧ st.WarmedH t.vm ∧ st.sameButNew ({ t with vm := st.vm } : State) [] mc ms
def tx_Thr (l : Launch) (y : MethodName) (ws : List Cond) (rm : Room) (Pc : Array Value → State → Prop) (E : String) (mc ms : Nat) : Prop :=
  MetFree l y (headSpec ws rm) Pc (fun _ _ _ _ _ => True) (fun _ st o t => tx_Q E mc ms st o t)
def tx_End (below : List Frame) (E : String) (mc ms : Nat) (s : State) : State → Prop := fun t => ∃ o, t.status = .running ∧ Ended t below o ∧ tx_Q E mc ms s o t
theorem tx_of {y : MethodName} {ws ws' : List Cond} {rm : Room} {Pc : Array Value → State → Prop} {E : String} {mc ms : Nat} {cc : ByteArray} {maxL : Nat} {ret : Option FieldType}
    (hy : plainName y.cls = true) (hw : ws = Cond.code y cc maxL ret :: ws')
    (body : ∀ p e s m args below meth c s₁, BodyLoose p l y (headSpec ws rm) cc maxL ret e s m args below meth c s₁ → c.maxLocals = maxL → c.exceptionTable.toList = [] → Pc args s →
      W p l e (headSpec ws rm).room s m args below meth c s.heap [] 0 0 (tx_End below E mc ms s) (entryFrame m args maxL)) : tx_Thr l y ws rm Pc E mc ms := by
  refine MetFree.of_bodyS (code := cc) (maxLocals := maxL) (ret := ret) hy ?_ ?_
  · intro args s m h hn
    obtain ⟨meth, c, h1, h2, h3, h4, h5, h6, -, -⟩ := Cond.code_spec hn (atoms_spec (ws := ws) h _ (by rw [hw]; exact List.mem_cons_self))
    exact ⟨meth, c, h1, h2, h3, h4, h5, h6⟩
  · intro p e s m args below meth c s₁ B hml hP _
    have hh0 : s₁.heap = s.heap := by rw [B.state]; rfl
    have hne : c.exceptionTable.toList = [] := by
      have h1 := B.noHandlers (atoms_spec (ws := ws) B.pre _ (by rw [hw]; exact List.mem_cons_self))
      simpa using h1
    obtain ⟨t, a1, o, b1, b2, b3⟩ := body p e s m args below meth c s₁ B hml hne hP s₁ hh0 (Stand.of_body B)
    exact ⟨t, o, a1, b1, b2, b3⟩
end TXA
section TXB
variable {p : Program} {l : Launch} {e : Env} {R : Room} {s : State} {m : MethodId} {args : Array Value} {below : List Frame} {meth : Method} {c : Code} {H : Heap} {locs : List Loc} {cells slots : Nat} {Q : State → Prop}
variable {cc : ByteArray} {pc : Nat} {ls : Array Slot} {rest : List Value}
set_option maxHeartbeats 1000000 in
/-- throw new E("text"), before anything has been written -/
theorem tx_throw (hexec : p.tables.exec = Jvm.exec) (hb : c.code = cc) (hl : l.stackTraces = false) {own cls text : String} {names : List String} {ik is ic sa : Nat}
    (hown : s.vm.findClass own = some m.cls) (hcls : Bundle.fit cls = true) (hnames : ∀ n ∈ names, Bundle.fit n = true)
    (hk : (Cond.classLink own ik cls).before args s = true) (hini : (Cond.initialized cls).before args s = true) (hstr : vk_R own is text sa s) (hat : ∀ w ∈ Bundle.ownAtoms own ic cls names, w.before args s = true)
    (hsize : ls.size = c.maxLocals)
    (d0 : decode cc pc = .ok (.new ik, 3)) (d3 : decode cc (pc + 3) = .ok (.dup, 1)) (d4 : decode cc (pc + 4) = .ok (.ldc is, 2)) (d6 : decode cc (pc + 6) = .ok (.invokespecial ic, 3)) (d9 : decode cc (pc + 9) = .ok (.athrow, 1))
    (hne : c.exceptionTable.toList = []) (hRframes : names.length + 3 < R.frames) (hRlocals : (rest.map fun v => v.category).sum + (13 * (names.length + 1) + 43) ≤ R.locals) (hRcells : 1 ≤ R.cells) (hRslots : 6 ≤ R.slots) (hlocks : meth.locks = false) :
    W p l e R s m args below meth c s.heap [] 0 0 (tx_End below cls 1 6 s) (F0 m pc ls rest) := by
  have hins : (Cond.instantiable cls 6).before args s = true := hat _ (by simp [Bundle.ownAtoms])
  refine W.newc hexec hb hown hk hins hini rfl d0 (by omega) (by omega) fun cC kC h1 h2 h3 h4 => ?_
  refine lv_dup hexec hb d3 rfl ?_
  refine va_ldcS hexec hb hown hstr d4 ?_
  intro T hT X
  have htr : e.platform.stackTraces = false := (show e.platform.stackTraces = l.stackTraces by rw [X.admits.platform]).trans hl
  obtain ⟨U, hsteps, hrun, hend, hW, hsame, ce, hce, hO⟩ := X.ctorThrowS hexec htr (own := own) (cls := cls) (names := names) (ic := ic) hown hcls hnames hat (fun x hx => nomatch hx) h1 h2
    (a := s.heap.size) (by rw [hT]; simp) (Nat.le_refl _) (msg := .ref sa) rfl (g := F0 m (pc + 3 + 1 + 2) ls (.ref sa :: .ref s.heap.size :: .ref s.heap.size :: rest)) rfl hsize rfl rfl (rest := rest) rfl
    (by rw [hb]; exact d6) (by rw [hb]; exact d9) (by rw [hne]; exact fun x hx => nomatch hx) hRframes (by
      show 2 * 0 + _ + _ ≤ _
      have hc1 : (Value.ref s.heap.size).category = 1 := rfl
      simp only [List.map_cons, List.sum_cons, hc1]
      omega) hlocks
  exact ⟨U, hsteps, .threw s.heap.size, hrun, hend, s.heap.size, ce, rfl, hce, hO.vm, hO.cls, hW, hsame⟩
/-- q is thrown over the method's frame g -/
def tx_W (p : Program) (l : Launch) (e : Env) (R : Room) (s : State) (m : MethodId) (args : Array Value) (below : List Frame) (meth : Method) (c : Code) (H : Heap) (locs : List Loc) (cells slots : Nat) (Q : State → Prop) (g : JFrame) (q : Addr) : Prop :=
  ∀ T : State, T.heap = H → Stand p l e R s m args below meth c T locs cells slots → ∃ t, Steps p.tables e below ((T.setTop g).pushFrame (.throwing q)) t ∧ Q t
/-- the thrown leaves a method that has written nothing -/
theorem tx_leave {E : String} {mc ms : Nat} {ce : Cell} {q : Addr} {g : JFrame} (hg : g.method = m) (hlk : g.locked = none) (hen : g.entered = []) (hne : c.exceptionTable.toList = []) (hlocks : meth.locks = false)
    (hce : H[q]? = some ce) (hcv : ce.vm = .none) (hcl : s.vm.findClass E = some ce.cls) (hc : cells ≤ mc) (hs : slots ≤ ms) : tx_W p l e R s m args below meth c H [] cells slots (tx_End below E mc ms s) g q := by
  intro T hT X
  obtain ⟨st, hrun, hend, hW, hsame⟩ := X.leaveThrown q (g := g) hg hlk hen (by rw [hne]; exact fun x hx => nomatch hx) hlocks
  exact ⟨_, st, .threw q, hrun, hend, q, ce, rfl, by show T.heap[q]? = _; rw [hT]; exact hce, hcv, hcl, hW, hsame.mono hc hs⟩
end TXB
section TXC
variable {l : Launch} {R : Room} {p : Program} {e : Env} {below : List Frame} {s : State} {sargs : Array Value} {y : MethodName} {len W9 : Nat}
/-- what a call of a throwing method comes to -/
theorem tx_back {ws : List Cond} {rm : Room} {Pc : Array Value → State → Prop} {E : String} {mc ms : Nat} {bytes : ByteArray} {maxL : Nat} {ret : Option FieldType}
    (hM : tx_Thr l y ws rm Pc E mc ms) (hblind : FrameBlind Pc) (hrc : rm.cells = mc) (hrs : rm.slots = ms) (hframes : rm.frames + 1 ≤ R.frames) (hlocals : W9 + (maxL + 11) + rm.locals ≤ R.locals)
    (hws : ∀ w ∈ ws, ∀ a' U, s.WarmedH U.vm → w.before a' U = true) (hcode : Cond.code y bytes maxL ret ∈ ws) (hinit : ∀ a' U, s.WarmedH U.vm → (Cond.initialized y.cls).before a' U = true)
    {m : MethodId} {meth : Method} {c : Code} {U : State} {locs : List Loc} {cells slots : Nat} {g : JFrame} {ig : Instr} {mk : MethodId} {a : Array Value}
    (X : Stand p l e R s m sargs below meth c U locs cells slots) (hg : g.method = m) (hsize : g.locals.size = c.maxLocals) (hdg : decode c.code g.pc = .ok (ig, len)) (hW9 : 2 * g.monitorRoom + (g.stack.map fun v => v.category).sum ≤ W9)
    (hn : U.methodNamed? y = some mk) (hp : Pc a U) (hcc : cells + mc ≤ R.cells) (hss : slots + ms ≤ R.slots) :
    ∃ (q : Addr) (ce : Cell) (V : State), Stand p l e R s m sargs below meth c V locs (cells + mc) (slots + ms) ∧ V.heap[q]? = some ce ∧ ce.vm = .none ∧ s.vm.findClass E = some ce.cls ∧
      U.heap.size ≤ V.heap.size ∧ (∀ x : Nat, x < U.heap.size → V.heap[x]? = U.heap[x]?) ∧ Steps p.tables e below (doInvoke e (U.setTop g) [] mk a).1 ((V.setTop g).pushFrame (.throwing q)) := by
  have hPc : Pc a (U.calling g mk a) := hblind _ _ _ _ hp
  have h1 : (headSpec ws rm).pre.before a U = true := atoms_intro fun w hw => hws w hw _ _ X.warmed
  obtain ⟨methY, cY, hmY, hcY, -, hlY, -, -, -, -⟩ := Cond.code_spec hn (hws _ hcode a U X.warmed)
  obtain ⟨kY, hkY, -⟩ := className_of_methodNamed hn
  have hinitY : kY.init = .initialized := Cond.initialized_spec (findClass_of_methodNamed hn) hkY (hinit a U X.warmed)
  have h : At U g.method c below := by rw [hg]; exact X.here
  have happ : (headSpec ws rm).appliesLoose y e.platform (U.calling g mk a) = true :=
    Spec.appliesLoose_calling (g := g) h hdg hn hkY hinitY
      (X.room_calling (g := g) (R' := (headSpec ws rm).room) hsize hmY hcY hframes (by
        rw [hlY]
        have h9 : W9 + (maxL + 11) + (headSpec ws rm).room.locals ≤ R.locals := hlocals
        omega) (by rw [show (headSpec ws rm).room.cells = mc from hrc]; exact hcc) (by rw [show (headSpec ws rm).room.slots = ms from hrs]; exact hss)) h1
  obtain ⟨mid, hmid⟩ := h.above
  have hfr : (U.setTop g).frames = (.java g :: mid) ++ below := by rw [State.frames_setTop' g h.top, hmid]; rfl
  obtain ⟨o, t, hsteps, -, hend, q, ce, rfl, hce, hcv, hcl, hWt, hsame⟩ := Steps.callFree hM p X.admits X.cas X.clock (acts := []) hfr happ hPc trivial
  rw [State.frames_setTop' g h.top] at hend
  obtain ⟨g₀, hg0⟩ := Option.isSome_iff_exists.mp h.top
  obtain ⟨r, hr⟩ := State.topJava?_eq_some.mp hg0
  have hWU : U.WarmedH t.vm := hWt
  have hft : t.frames = .throwing q :: .java g :: U.frames.tail := hend
  obtain ⟨V, hV⟩ : ∃ V : State, V = ({ U with heap := t.heap, slotsUsed := t.slotsUsed } : State).setVm t.vm := ⟨_, rfl⟩
  have hrV : V.frames = .java g₀ :: r := by rw [hV]; exact hr
  obtain ⟨e1, e2, e3, e4, e5, e6⟩ := hsame
  have ht : t = (V.setTop g).pushFrame (.throwing q) := by
    have e7 : t = ({ t with vm := ((U.setTop g).pushFrame (Frame.invoking mk a)).vm } : State).setVm t.vm := rfl
    rw [e1] at e7
    have hrhs : (V.setTop g).pushFrame (.throwing q) = V.setFrames (.throwing q :: .java g :: r) := by rw [State.pushFrame, State.frames_setTop _ hrV, State.setTop_of_frames _ hrV, State.setFrames_setFrames]
    rw [hrhs, hV]
    refine e7.trans ?_
    show (({ (U.calling g mk a).setFrames t.frames with heap := t.heap, slotsUsed := t.slotsUsed } : State).setVm t.vm) = _
    rw [hft, State.calling_eq h.top, State.setFrames_setFrames, hr]
    rfl
  have hsU : U.sameButNew ({ U with heap := t.heap, slotsUsed := t.slotsUsed } : State) [] mc ms := by
    refine ⟨?_, e2, e3, e4, e5, e6⟩
    obtain ⟨x, hx, -⟩ := State.frames_cons hr
    show ({ U with heap := t.heap, slotsUsed := t.slotsUsed } : State) = { U.setFrames U.frames with heap := t.heap, slotsUsed := t.slotsUsed }
    rw [State.setFrames_self hx]
  have XV : Stand p l e R s m sargs below meth c V locs (cells + mc) (slots + ms) := by
    have h9 := X.same.trans (hsU.setVm s.vm)
    rw [List.append_nil] at h9
    rw [hV]
    exact ⟨X.admits, X.cas, X.clock, X.frames, X.room, X.hears, X.method, X.code, (X.here.setHeapUsed t.heap t.slotsUsed).setVm hWU.alike, X.tail, State.WarmedH.trans X.warmed hWU, X.limits, X.bytes, h9⟩
  refine ⟨q, ce, V, XV, by rw [hV]; exact hce, hcv, ?_, by rw [hV]; exact e2, fun x hx => ?_, by rw [← ht]; exact hsteps⟩
  · have h9 : U.vm.findClass E = some ce.cls := hcl
    rw [X.warmed.alike.findClass] at h9
    exact h9
  · rw [hV]
    show t.heap[x]? = U.heap[x]?
    obtain ⟨cell, hcell⟩ : ∃ cell, U.heap[x]? = some cell := ⟨U.heap[x], Array.getElem?_eq_getElem hx⟩
    obtain ⟨cell', h7, h8, h9, h10⟩ := e6 x cell hcell
    have hsl : cell'.slots = cell.slots := Array.ext_getElem? (fun i => h10 i List.not_mem_nil)
    have h11 : cell' = cell := by rw [h8, hsl]
    rw [hcell, ← h11]
    exact h7
end TXC
section TXD
variable {p : Program} {l : Launch} {e : Env} {R : Room} {s : State} {m : MethodId} {args : Array Value} {below : List Frame} {meth : Method} {c : Code} {H : Heap} {locs : List Loc} {cells slots : Nat} {Q : State → Prop}
variable {y : MethodName} {bytes cc : ByteArray} {maxL nL mc ms n index : Nat} {ret : Option FieldType} {ws : List Cond} {rm : Room} {Pc : Array Value → State → Prop} {E : String} {Ts : List Cond} {own C : String} {b : Addr} {As rest st0 : List Value} {pc : Nat} {ls : Array Slot}
theorem tx_callS (S : CallFix p m c cc nL s args Ts own) (hM : tx_Thr l y ws rm Pc E mc ms) (cw : CallB R s args own index y bytes maxL ret ws rm mc ms n ∧ (Cond.static y).before args s = true) (hp : PreS s H Pc As)
    (hn : As.length = n) (hsize : ls.size = nL) (hstack : st0 = As.reverse ++ rest) (hW : (rest.map fun v => v.category).sum ≤ 8) (hdg : decode cc pc = .ok (.invokestatic index, 3)) (hf : cells + mc ≤ R.cells ∧ slots + ms ≤ R.slots)
    (kx : ∀ (q : Addr) (ce : Cell) (H1 : Heap), H.size ≤ H1.size → (∀ x : Nat, x < H.size → H1[x]? = H[x]?) → H1[q]? = some ce → ce.vm = .none → s.vm.findClass E = some ce.cls → tx_W p l e R s m args below meth c H1 locs (cells + mc) (slots + ms) Q (F0 m pc ls rest) q) :
    W p l e R s m args below meth c H locs cells slots Q (F0 m pc ls st0) := by
  obtain ⟨⟨hrc, hrs, hfr, hlo, hws, hcw, hcode, hini, hy, hlen, hl⟩, hstt⟩ := cw
  obtain ⟨hx, hb, hml, ho, -⟩ := S
  obtain ⟨hbl, hPc⟩ := hp
  subst hstack
  intro T hT X
  obtain ⟨mk, hnamed⟩ := Cond.code_named hcode
  obtain ⟨methM, cM, hmethM, -, -, -, -, -, -, hsigM⟩ := Cond.code_spec hnamed hcode
  obtain ⟨kP, hkP, -⟩ := className_of_methodNamed hnamed
  obtain ⟨vm₁, X₁, hstep₁⟩ := X.invokestatic hx ho hl hnamed hmethM (Cond.static_spec hnamed hmethM hstt) hkP (Cond.initialized_spec (findClass_of_methodNamed hnamed) hkP hini) hy (g := F0 m pc ls (As.reverse ++ rest)) rfl (argsL := As) (rest := rest) (hn.trans (hlen _ hsigM)) rfl (by rw [hb]; exact hdg)
  obtain ⟨q, ce, V, XV, h1, h2, h3, h4, h5, st⟩ := tx_back (W9 := 8) (len := 3) (ig := .invokestatic index) (mk := mk) hM hbl hrc hrs hfr hlo hws hcw (fun a' U hW => word_at hW (Or.inl (by first | rfl | simp [Cond.onTables, Cond.keeps, Cond.steady])) hini) X₁ (g := F0 m pc ls rest) rfl (hsize.trans hml.symm) (by rw [hb]; exact hdg) (lv_room (m := m) (pc := pc) (ls := ls) (rest := rest) hW) (X₁.named hnamed) (hPc (T.setVm vm₁) hT X₁.warmed) hf.1 hf.2
  rw [State.heap_setVm, hT] at h4 h5
  obtain ⟨t2, a1, b1⟩ := kx q ce V.heap h4 h5 h1 h2 h3 V rfl XV
  exact ⟨t2, hstep₁ _ fun acts => by rw [doInvoke_state]; exact st.trans a1, b1⟩
theorem tx_callV (S : CallFix p m c cc nL s args Ts own) (hM : tx_Thr l y ws rm Pc E mc ms) (cw : CallW R s args own C index y bytes maxL ret ws rm mc ms n) (hp : PreV s H C b Pc As)
    (hn : As.length = n) (hsize : ls.size = nL) (hstack : st0 = As.reverse ++ .ref b :: rest) (hW : (rest.map fun v => v.category).sum ≤ 8) (hdg : decode cc pc = .ok (.invokevirtual index, 3)) (hf : cells + mc ≤ R.cells ∧ slots + ms ≤ R.slots)
    (kx : ∀ (q : Addr) (ce : Cell) (H1 : Heap), H.size ≤ H1.size → (∀ x : Nat, x < H.size → H1[x]? = H[x]?) → H1[q]? = some ce → ce.vm = .none → s.vm.findClass E = some ce.cls → tx_W p l e R s m args below meth c H1 locs (cells + mc) (slots + ms) Q (F0 m pc ls rest) q) :
    W p l e R s m args below meth c H locs cells slots Q (F0 m pc ls st0) := by
  obtain ⟨⟨hrc, hrs, hfr, hlo, hws, hcw, hcode, hini, hy, hlen, hl⟩, hinst, hsel⟩ := cw
  obtain ⟨hx, hb, hml, ho, -⟩ := S
  obtain ⟨hbl, ⟨cellB, hcB, hoB, hclB⟩, hPc⟩ := hp
  subst hstack
  intro T hT X
  obtain ⟨mk, methM, hnamed, hmethM, hstM, habM⟩ := Cond.instanceMethod_spec hinst
  obtain ⟨methM', cM, hmethM', -, -, -, -, -, -, hsigM⟩ := Cond.code_spec hnamed hcode
  cases hmethM.symm.trans hmethM'
  obtain ⟨c2, r2, m2, q1, q2, q3, q4, kP, hkP, hkPi⟩ := Cond.selects_spec hsel
  cases hclB.symm.trans q1
  cases (State.methodFound?_of_named hnamed hy).symm.trans q2
  cases hnamed.symm.trans q3
  obtain ⟨vm₁, X₁, hstep₁⟩ := X.invokevirtual hx ho hl hnamed hmethM hstM hkP hkPi hy (a := b) (cell := cellB) (by rw [hT]; exact hcB)
    (fun z h => by rw [h] at hoB; cases hoB) (by rw [Launch.admits_selectMethod X.admits]; exact q4) hmethM habM hkP hkPi (g := F0 m pc ls (As.reverse ++ .ref b :: rest)) rfl (argsL := As) (rest := rest) (hn.trans (hlen _ hsigM)) rfl (by rw [hb]; exact hdg)
  obtain ⟨q, ce, V, XV, h1, h2, h3, h4, h5, st⟩ := tx_back (W9 := 8) (len := 3) (ig := .invokevirtual index) (mk := mk) hM hbl hrc hrs hfr hlo hws hcw (fun a' U hW => word_at hW (Or.inl (by first | rfl | simp [Cond.onTables, Cond.keeps, Cond.steady])) hini) X₁ (g := F0 m pc ls rest) rfl (hsize.trans hml.symm) (by rw [hb]; exact hdg) (lv_room (m := m) (pc := pc) (ls := ls) (rest := rest) hW) (X₁.named hnamed) (hPc (T.setVm vm₁) hT X₁.warmed) hf.1 hf.2
  rw [State.heap_setVm, hT] at h4 h5
  obtain ⟨t2, a1, b1⟩ := kx q ce V.heap h4 h5 h1 h2 h3 V rfl XV
  exact ⟨t2, hstep₁ _ fun acts => by rw [doInvoke_state]; exact st.trans a1, b1⟩
end TXD
section TXE
variable {e : Env} {f : JFrame} {q : Addr}
/-- one row of a table that covers the place, its class linked now or before: it takes what can be assigned to it -/
theorem tx_row {z : ExceptionTableEntry} {t : List ExceptionTableEntry} {cz : ClassId} {cell : Cell} {S : State} {P : Handler → Pre} {E : CtlPost} {d : Bool} {acts : List Action} (hz : covers z f.pc = true) (h0 : z.catchType ≠ 0)
    (hl : S.vm.ClassLinks e.platform f.method.cls z.catchType cz) (hcell : S.heap[q]? = some cell) (hobj : ∀ k, cell.vm ≠ .statics k) (hk : ∃ k, S.vm.classes[cell.cls]? = some k) (hc : ∃ k, S.vm.classes[cz]? = some k) {b : Bool} (hb : S.vm.assignable cell.cls cz = b) :
    wp (findHandler.go f q (z :: t)) P E e d acts S ↔ if b = true then P (.found z.handlerPc) d acts (S.setVm (S.vm.noted f.method.cls z.catchType (.cls cz))) else wp (findHandler.go f q t) P E e d acts (S.setVm (S.vm.noted f.method.cls z.catchType (.cls cz))) := by
  simp only [covers] at hz
  obtain ⟨ha, ht⟩ := (resolveClass_links e.toSetting hl).op (op := VmOp.resolveClass f.method.cls z.catchType) rfl
  have hal : S.vm.Alike (S.vm.noted f.method.cls z.catchType (.cls cz)) := (Vm.Alike.refl S.vm).noted _ _ _
  obtain ⟨k1, hk1⟩ := hk
  obtain ⟨k2, hk2⟩ := hc
  obtain ⟨k1', hk1', -⟩ := hal.2.2 _ _ hk1
  obtain ⟨k2', hk2', -⟩ := hal.2.2 _ _ hk2
  have hb' : (S.vm.noted f.method.cls z.catchType (.cls cz)).assignable cell.cls cz = b := by rw [hal.assignable]; exact hb
  cases b <;> simp [findHandler.go, hz, h0, ha, ht, hcell, hobj, hk1', hk2', hb', VmOp.dirties, VmOp.acts]
/-- the search over rows that don't take it, then one that does -/
theorem tx_rows {s0 : State} {cell : Cell} (hobj : ∀ k, cell.vm ≠ .statics k) (hk0 : ∃ k, s0.vm.classes[cell.cls]? = some k) {x : ExceptionTableEntry} {suf : List ExceptionTableEntry} (hx : covers x f.pc = true) (h0 : x.catchType ≠ 0)
    {cx : ClassId} (hlx : s0.vm.ClassLinks e.platform f.method.cls x.catchType cx) (hax : s0.vm.assignable cell.cls cx = true) : ∀ (pre : List ExceptionTableEntry) (S : State), s0.WarmedH S.vm → S.heap[q]? = some cell →
      (∀ z ∈ pre, covers z f.pc = true ∧ z.catchType ≠ 0 ∧ ∃ cz, s0.vm.ClassLinks e.platform f.method.cls z.catchType cz ∧ s0.vm.assignable cell.cls cz = false) →
      ∃ vm', s0.WarmedH vm' ∧ ∀ (P : Handler → Pre) (E : CtlPost) (d : Bool) (acts : List Action), wp (findHandler.go f q (pre ++ x :: suf)) P E e d acts S ↔ P (.found x.handlerPc) d acts (S.setVm vm')
  | [], S, hW, hcell, _ => by
    obtain ⟨k0, hk0⟩ := hk0
    obtain ⟨k0', hk0', -⟩ := hW.alike.2.2 _ _ hk0
    obtain ⟨dk, _, _, kt, hd, _, _, _, _, hkt, _, hopen⟩ := hlx.here
    obtain ⟨kt', hkt', -⟩ := hW.alike.2.2 _ _ hkt
    refine ⟨_, hW.noted hd hopen (State.rightAt_cls hlx), fun P E d acts => ?_⟩
    have h9 := tx_row (t := suf) (P := P) (E := E) (d := d) (acts := acts) hx h0 (hW.classLinks hlx) hcell hobj ⟨k0', hk0'⟩ ⟨kt', hkt'⟩ (b := true) (by rw [hW.alike.assignable]; exact hax)
    rw [if_pos rfl] at h9
    exact h9
  | z :: pre, S, hW, hcell, hp => by
    obtain ⟨hz, hz0, cz, hlz, haz⟩ := hp z List.mem_cons_self
    obtain ⟨k0, hk1⟩ := id hk0
    obtain ⟨k0', hk0', -⟩ := hW.alike.2.2 _ _ hk1
    obtain ⟨dk, _, _, kt, hd, _, _, _, _, hkt, _, hopen⟩ := hlz.here
    obtain ⟨kt', hkt', -⟩ := hW.alike.2.2 _ _ hkt
    obtain ⟨vm', hW', hq⟩ := tx_rows hobj hk0 hx h0 hlx hax pre (S.setVm (S.vm.noted f.method.cls z.catchType (.cls cz))) (hW.noted hd hopen (State.rightAt_cls hlz)) hcell (fun w hw => hp w (List.mem_cons_of_mem _ hw))
    refine ⟨vm', hW', fun P E d acts => ?_⟩
    have h9 := tx_row (t := pre ++ x :: suf) (P := P) (E := E) (d := d) (acts := acts) hz hz0 (hW.classLinks hlz) hcell hobj ⟨k0', hk0'⟩ ⟨kt', hkt'⟩ (b := false) (by rw [hW.alike.assignable]; exact haz)
    rw [if_neg (by decide)] at h9
    rw [List.cons_append, h9]
    exact hq P E d acts
/-- the machine goes on at the handler -/
theorem tx_caught {tb : Tables} {U target : State} {g : JFrame} {c : Code} {below : List Frame} (h : At U g.method c below) {pc' : Nat} {vm' : Vm}
    (hfind : ∀ (P : Handler → Pre) (E : CtlPost) (d : Bool) (acts : List Action), wp (findHandler g q) P E e d acts ((U.setTop g).pushFrame (.throwing q)) ↔ P (.found pc') d acts (((U.setTop g).pushFrame (.throwing q)).setVm vm'))
    (hrest : Steps tb e below ((U.setVm vm').setTop { g with pc := pc', stack := [.ref q] }) target) : Steps tb e below ((U.setTop g).pushFrame (.throwing q)) target := by
  obtain ⟨hgo, hw⟩ := h.throwing q
  refine Steps.head hgo hw ?_
  rw [stepThread_throwing (frames_entered h.top _)]
  have hstep : (stepThrowing e ((U.setTop g).pushFrame (.throwing q)) q (.java g :: U.frames.tail)).1 = (((U.setTop g).pushFrame (.throwing q)).setVm vm').setFrames (.java { g with pc := pc', stack := [.ref q] } :: U.frames.tail) := by
    simp only [stepThrowing, searchFrame, vmDo]
    generalize hr : Sem.go _ e false [] _ = res
    obtain ⟨as, rfl, ha⟩ := Sem.eq_ok_of hr (a := Handler.found pc') (s' := ((U.setTop g).pushFrame (.throwing q)).setVm vm') (acts' := []) (by simp [hfind _ _ _ _])
    rfl
  rw [hstep]
  obtain ⟨g₀, hg⟩ := Option.isSome_iff_exists.mp h.top
  obtain ⟨r, hr⟩ := State.topJava?_eq_some.mp hg
  have hr' : (U.setVm vm').frames = .java g₀ :: r := hr
  rw [State.setTop_of_frames _ hr'] at hrest
  have e1 : ((U.setTop g).pushFrame (.throwing q)).setVm vm' = (U.setVm vm').setFrames (.throwing q :: .java g :: r) := by
    rw [State.pushFrame, State.frames_setTop _ hr, State.setTop_of_frames _ hr, State.setFrames_setFrames]
    rfl
  rw [e1, State.setFrames_setFrames, hr]
  exact hrest
end TXE
section TXF
variable {p : Program} {l : Launch} {e : Env} {R : Room} {s : State} {m : MethodId} {args : Array Value} {below : List Frame} {meth : Method} {c : Code} {H : Heap} {locs : List Loc} {cells slots : Nat} {Q : State → Prop} {pc : Nat} {ls : Array Slot} {rest : List Value}
/-- caught by the row x; the rows ahead name classes that the thrown isn't of -/
theorem tx_catch {own name E : String} {ce : Cell} {q : Addr} (hown : s.vm.findClass own = some m.cls) (pre : List ExceptionTableEntry) (x : ExceptionTableEntry) (suf : List ExceptionTableEntry) (hsplit : c.exceptionTable.toList = pre ++ x :: suf)
    (hpass : ∀ z ∈ pre, covers z pc = true ∧ z.catchType ≠ 0 ∧ ∃ nm : String, (Cond.classLink own z.catchType nm).before args s = true ∧ va_Nc E nm s) (hx : covers x pc = true) (h0 : x.catchType ≠ 0)
    (hlink : (Cond.classLink own x.catchType name).before args s = true) (hcast : (Cond.castable E name).before args s = true) (hcell : H[q]? = some ce) (hv : ce.vm = .none) (hcl : s.vm.findClass E = some ce.cls)
    (kk : W p l e R s m args below meth c H locs cells slots Q (F0 m x.handlerPc ls [.ref q])) : tx_W p l e R s m args below meth c H locs cells slots Q (F0 m pc ls rest) q := by
  intro T hT X
  have hpl : e.platform.magicAccessors = ({} : Platform).magicAccessors := by rw [X.admits.platform]
  obtain ⟨c3, c4, hc3, hc4, hasg⟩ := Cond.castable_spec hcast
  cases Option.some.inj (hc3.symm.trans hcl)
  obtain ⟨c5, hc5, hl5⟩ := Cond.classLink_spec hown hlink e.platform hpl
  cases Option.some.inj (hc4.symm.trans hc5)
  obtain ⟨vm', hW', hq⟩ := tx_rows (e := e) (f := F0 m pc ls rest) (q := q) (s0 := s) (cell := ce) (fun k h => by rw [hv] at h; cases h) (Vm.classAt_of_findClass hcl) (x := x) (suf := suf) hx h0 hl5 hasg pre ((T.setTop (F0 m pc ls rest)).pushFrame (.throwing q)) X.warmed (by show T.heap[q]? = _; rw [hT]; exact hcell)
    (fun z hz => by
      obtain ⟨g1, g2, nm, g3, a8, b8, g4, g5, g6⟩ := hpass z hz
      obtain ⟨c6, hc6, hl6⟩ := Cond.classLink_spec hown g3 e.platform hpl
      cases Option.some.inj (g4.symm.trans hcl)
      cases Option.some.inj (g5.symm.trans hc6)
      exact ⟨g1, g2, _, hl6, g6⟩)
  obtain ⟨t, a1, b1⟩ := kk (T.setVm vm') hT (X.noted hW')
  refine ⟨t, tx_caught X.here (pc' := x.handlerPc) (vm' := vm') (fun P E d acts => ?_) a1, b1⟩
  rw [Jvm.W.findHandler_eq (s := (T.setTop (F0 m pc ls rest)).pushFrame (.throwing q)) (f := F0 m pc ls rest) X.method' X.code, hsplit]
  exact hq P E d acts
end TXF
end
section
/-! Numbers, booleans and bits, and what a call on the grants answers (ga_): class and reference are both tied to these. The rows bt, b_ .. are those of kit/laws/BITS.to-paste. -/
def bt (x : Int32) (i : Nat) : Bool := x.toBitVec.getLsbD i
theorem b_ext {x y : Int32} (h : ∀ i, i < 32 → bt x i = bt y i) : x = y := Int32.toBitVec_inj.mp (BitVec.eq_of_getLsbD_eq (fun i hi => h i hi))
theorem b_and (x y : Int32) (i : Nat) : bt (x &&& y) i = (bt x i && bt y i) := by unfold bt; rw [Int32.toBitVec_and, BitVec.getLsbD_and]
theorem b_xor (x y : Int32) (i : Nat) : bt (x ^^^ y) i = (bt x i ^^ bt y i) := by unfold bt; rw [Int32.toBitVec_xor, BitVec.getLsbD_xor]
theorem b_big {x : Int32} {i : Nat} (h : 32 ≤ i) : bt x i = false := BitVec.getLsbD_of_ge _ _ h
theorem b_m1 : ∀ i, i < 32 → bt (-1) i = true := by decide +kernel
theorem b_0 (i : Nat) : bt 0 i = false := BitVec.getLsbD_zero
theorem b_1 : ∀ i, i < 32 → bt 1 i = decide (i = 0) := by decide +kernel
theorem s_l : ∀ n, n < 32 → ((nI n &&& 31).toBitVec.smod 32).toNat = n := by decide +kernel
theorem b_sshr (n : Nat) (hn : n < 32) (x : Int32) {i : Nat} (hi : i < 32) : bt (x >>> (nI n &&& 31)) i = if n + i < 32 then bt x (n + i) else bt x 31 := by
  unfold bt
  rw [Int32.toBitVec_shiftRight]
  show (x.toBitVec.sshiftRight ((nI n &&& 31).toBitVec.smod 32).toNat).getLsbD i = _
  rw [s_l n hn, BitVec.getLsbD_sshiftRight, BitVec.msb_eq_getLsbD_last]
  simp [hi]
/-- bit k of x, as the reference asks for it -/
theorem bq_bit (x : Int32) {k : Nat} (hk : k < 32) : (x >>> (nI k &&& 31)) &&& 1 = if bt x k = true then 1 else 0 := by
  apply b_ext
  intro i hi
  rw [b_and, b_1 i hi]
  by_cases h0 : i = 0
  · subst h0
    rw [b_sshr k hk x hi, if_pos (by omega), Nat.add_zero]
    cases bt x k <;> rfl
  · have h1 : decide (i = 0) = false := decide_eq_false h0
    rw [h1, Bool.and_false]
    cases bt x k
    · exact (b_0 i).symm
    · show false = bt 1 i
      rw [b_1 i hi, h1]
theorem bq_1 (x : Int32) {k : Nat} (hk : k < 32) : (x >>> (nI k &&& 31)) &&& 1 = 1 ↔ bt x k = true := by
  rw [bq_bit x hk]
  cases bt x k <;> decide
theorem bq_0 (x : Int32) {k : Nat} (hk : k < 32) : (x >>> (nI k &&& 31)) &&& 1 = 0 ↔ bt x k = false := by
  rw [bq_bit x hk]
  cases bt x k <;> decide
def bi (b : Bool) : Int32 := if b = true then 1 else 0
theorem bi_0 {b : Bool} (h : bi b = 0) : b = false := by
  cases b
  · rfl
  · exact absurd h (by decide)
theorem bi_n {b : Bool} (h : ¬ bi b = 0) : b = true := by
  cases b
  · exact absurd (by decide) h
  · rfl
theorem bi_nar (b : Bool) : narrow .boolean (.int (bi b)) = .int (bi b) := by cases b <;> rfl
theorem bi_vp (b : Bool) : vp_nar .boolean (bi b) = bi b := by cases b <;> rfl
def ub (g : Nat → Bool) (k : Nat) (b : Bool) : Nat → Bool := fun j => if j = k then b else g j
theorem ub_upd (g : Nat → Bool) (k : Nat) (b : Bool) : upd (fun j => bi (g j)) k (vp_nar .boolean (bi b)) = fun j => bi (ub g k b j) := by
  rw [bi_vp]
  funext j
  unfold upd ub
  by_cases h : j = k <;> simp [h]
def un (x : Int32) : Nat := x.toBitVec.toNat
def uw (x : Int32) : Int64 := lN (un x)
theorem un_lt (x : Int32) : un x < 4294967296 := x.toBitVec.isLt
theorem nI_un (x : Int32) : nI (un x) = x := by
  apply Int32.toBitVec_inj.1
  show BitVec.ofNat 32 x.toBitVec.toNat = x.toBitVec
  simp
theorem un_inj {x y : Int32} (h : un x = un y) : x = y := by rw [← nI_un x, ← nI_un y, h]
theorem un_add (x y : Int32) : un (x + y) = (un x + un y) % 4294967296 := by
  unfold un
  rw [Int32.toBitVec_add, BitVec.toNat_add]
theorem un_int (x : Int32) : x.toInt = if un x < 2147483648 then (un x : Int) else (un x : Int) - 4294967296 := by
  have h : x.toInt = x.toBitVec.toInt := rfl
  rw [h, BitVec.toInt_eq_toNat_cond]
  unfold un
  by_cases h2 : 2 * x.toBitVec.toNat < 2 ^ 32
  · rw [if_pos h2, if_pos (by omega)]
  · rw [if_neg h2, if_neg (by omega)]
    rfl
theorem uw_upd (f : Nat → Int32) (k : Nat) (x : Int32) : vp_updL (fun j => uw (f j)) k (uw x) = fun j => uw (upd f k x j) := by
  funext j
  unfold vp_updL upd
  by_cases h : j = k <;> simp [h]
theorem uw_and (x : Int32) : x.toInt64 &&& 4294967295 = uw x := by
  apply Int64.toBitVec_inj.1
  rw [Int64.toBitVec_and]
  show x.toBitVec.signExtend 64 &&& 4294967295#64 = BitVec.ofNat 64 x.toBitVec.toNat
  apply BitVec.eq_of_getLsbD_eq
  intro i hi
  have hm : (4294967295#64).getLsbD i = decide (i < 32) := (by decide +kernel : ∀ i, i < 64 → (4294967295#64).getLsbD i = decide (i < 32)) i hi
  rw [BitVec.getLsbD_and, hm, BitVec.getLsbD_signExtend, BitVec.getLsbD_ofNat, BitVec.testBit_toNat]
  by_cases h : i < 32
  · simp [h, hi]
  · simp [h, hi]
    exact BitVec.getLsbD_of_ge _ _ (by omega)
theorem uw_i (x : Int32) : (uw x).toInt32 = x := by
  unfold uw
  rw [lN_i, nI_un]
theorem uw_le (x y : Int32) : uw x ≤ uw y ↔ un x ≤ un y := pk_lLE (Nat.lt_trans (un_lt x) (by decide)) (Nat.lt_trans (un_lt y) (by decide))
theorem uw_lt (x y : Int32) : uw x < uw y ↔ un x < un y := pk_lLT (Nat.lt_trans (un_lt x) (by decide)) (Nat.lt_trans (un_lt y) (by decide))
/-- a sum of two, wrapped -/
theorem uw_sum (x y : Int32) : (uw x + uw y) - (uw x + uw y) / 4294967296 * 4294967296 = uw (x + y) := by
  have h1 := un_lt x
  have h2 := un_lt y
  unfold uw
  rw [lN_add, un_add]
  exact pk_lRem (b := 4294967296) (by omega) (by decide) (by decide)
theorem wd_0 (x : Int32) : x.toInt64 / 4294967296 = 0 := by
  apply Int64.toInt_inj.1
  have h1 : x.toInt64.toInt = x.toInt := by simp
  have h2 : (4294967296 : Int64).toInt = 4294967296 := by decide
  have h3 : x.toInt.tdiv 4294967296 = 0 := by
    have hu := un_int x
    have hl := un_lt x
    rcases Int.le_total 0 x.toInt with h | h
    · exact Int.tdiv_eq_zero_of_lt h (by split at hu <;> omega)
    · rw [show x.toInt = -(-x.toInt) by omega, Int.neg_tdiv, Int.tdiv_eq_zero_of_lt (by omega) (by split at hu <;> omega)]
      rfl
  rw [Int64.toInt_div, h1, h2, h3]
  decide
theorem wd_p (x : Int32) : x.toInt64 + 4294967296 = lN (if un x < 2147483648 then un x + 4294967296 else un x) := by
  apply Int64.toInt_inj.1
  have hu := un_int x
  have hl := un_lt x
  have h1 : x.toInt64.toInt = x.toInt := by simp
  have h2 : (4294967296 : Int64).toInt = 4294967296 := by decide
  rw [pk_lT (by split <;> omega), Int64.toInt_add, h1, h2, hu]
  split
  · rw [Int.bmod_def]
    split <;> omega
  · rw [Int.bmod_def]
    split <;> omega
/-- 'wide' of the reference -/
theorem uw_wide (x : Int32) : (x.toInt64 - x.toInt64 / 4294967296 * 4294967296 + 4294967296) - (x.toInt64 - x.toInt64 / 4294967296 * 4294967296 + 4294967296) / 4294967296 * 4294967296 = uw x := by
  have hl := un_lt x
  rw [wd_0, Int64.zero_mul, Int64.sub_zero, wd_p]
  have h := pk_lRem (a := if un x < 2147483648 then un x + 4294967296 else un x) (b := 4294967296) (by split <;> omega) (by decide) (by decide)
  refine h.trans ?_
  unfold uw
  congr 1
  split <;> omega
/-! what a call answers, of the grants' parts A B T P Y G -/
def ga_in (b t a : Int32) (n : Nat) : Bool := decide (un b ≤ un a) && decide (un a + n ≤ un t)
def ga_pm (w p : Int32) : Bool := decide (w &&& (p ^^^ (-1)) = 0)
def ga_acc (B T P Y : Nat → Int32) (G : Nat → Bool) (i : Nat) (a : Int32) (n : Nat) (w : Int32) : Int32 :=
  if G i = false then 1 else if ¬ Y i = 0 then 2 else if ga_pm w (P i) = false then 3 else if ga_in (B i) (T i) a n = true then 0 else 4
def ga_seal (A B T P Y : Nat → Int32) (G : Nat → Bool) (s t : Nat) : Int32 :=
  if G s = false ∨ G t = false then 1 else if ¬ Y s = 0 then 2 else if ¬ ga_acc B T P Y G t (A t) 1 32 = 0 then ga_acc B T P Y G t (A t) 1 32 else if 1 ≤ A t ∧ A t ≤ 65535 then 0 else 4
def ga_open (A B T P Y : Nat → Int32) (G : Nat → Bool) (s t : Nat) : Int32 :=
  if G s = false ∨ G t = false then 1 else if Y s = 0 then 2 else if ¬ ga_acc B T P Y G t (A t) 1 64 = 0 then ga_acc B T P Y G t (A t) 1 64 else if A t = Y s then 0 else 4
def ga_with (B T P : Nat → Int32) (G : Nat → Bool) (r s : Nat) : Bool := G r && (G s && (decide (un (B s) ≤ un (B r)) && (decide (un (T r) ≤ un (T s)) && ga_pm (P r) (P s))))
def ga_part (A B T P Y : Nat → Int32) (G : Nat → Bool) (r : Nat) (w : Int32) : Int32 :=
  if w = 0 then A r else if w = 1 then B r else if w = 2 then T r else if w = 3 then P r else if w = 4 then Y r else bi (G r)
def ga_cnt (B T P Y : Nat → Int32) (G : Nat → Bool) (a w : Int32) : Nat → Int32
  | 0 => 0
  | k + 1 => if ga_acc B T P Y G k a 1 w = 0 then ga_cnt B T P Y G a w k + 1 else ga_cnt B T P Y G a w k
end
section
/-! The rows by which methods here call each other. gw: the words of the tables that hold at every time; every method's words are its own code and gw. -/
def gw : List Cond := lw_tbl.filter goodWord
theorem gw_in {w : Cond} (h : w ∈ lw_tbl) (hg : goodWord w = true) : w ∈ gw := List.mem_filter.mpr ⟨h, hg⟩
theorem gw_tbl {w : Cond} (h : w ∈ gw) : w ∈ lw_tbl := (List.mem_filter.mp h).1
theorem gw_ok {w : Cond} (h : w ∈ gw) : w ∈ gw ∧ ((w.onTables && w.keeps) = true ∨ ∃ ty, w = .arrayClass ty) := ⟨h, good_of_word (List.mem_filter.mp h).2⟩
theorem gw_V {own C : String} {idx maxL : Nat} {y : MethodName} {b : ByteArray} {ret : Option FieldType} (h1 : Cond.methodLink own idx y ∈ gw) (h2 : Cond.instanceMethod y ∈ gw) (h3 : Cond.selects C y y ∈ gw) (h4 : Cond.initialized C ∈ gw) (h5 : Cond.code y b maxL ret ∈ gw) : GoodIn gw (wsV own idx C y (Cond.code y b maxL ret :: gw)) := by
  intro w hw
  simp only [wsV, List.cons_append, List.nil_append, List.mem_cons] at hw
  rcases hw with rfl | rfl | rfl | rfl | rfl | hw
  · exact gw_ok h1
  · exact gw_ok h2
  · exact gw_ok h3
  · exact gw_ok h4
  · exact gw_ok h5
  · exact gw_ok hw
theorem gw_S {own : String} {idx maxL : Nat} {y : MethodName} {b : ByteArray} {ret : Option FieldType} (h1 : Cond.methodLink own idx y ∈ gw) (h2 : Cond.static y ∈ gw) (h4 : Cond.initialized own ∈ gw) (h5 : Cond.code y b maxL ret ∈ gw) : GoodIn gw (wsS own idx y (Cond.code y b maxL ret :: gw)) := by
  intro w hw
  simp only [wsS, List.cons_append, List.nil_append, List.mem_cons] at hw
  rcases hw with rfl | rfl | rfl | rfl | hw
  · exact gw_ok h1
  · exact gw_ok h2
  · exact gw_ok h4
  · exact gw_ok h5
  · exact gw_ok hw
def Stb (B : State → Prop) : Prop := ∀ U V : State, V.heap = U.heap → U.vm.Alike V.vm → B U → B V
theorem kb_blind {av : List Value} {B : State → Prop} (h : Stb B) : FrameBlind (va_Pc av B) := fun a U g mk q => ⟨q.1, h U _ rfl (Vm.Alike.refl U.vm) q.2⟩
theorem kb_pre {av : List Value} {B : State → Prop} {H : Heap} {s : State} (h : Stb B) (hB : B ({ s with heap := H } : State)) : ∀ U : State, U.heap = H → s.WarmedH U.vm → va_Pc av B av.toArray U := fun U hU hW => ⟨rfl, h ({ s with heap := H } : State) U hU (show s.vm.Alike U.vm from hW.alike) hB⟩
/-- a world, read -/
def rB (D : va_G) (cl : List vw_C) (ws : va_W) (tys : List (ClassId × FieldType)) (U : State) : Prop := va_P D cl ws U.heap ∧ va_K D cl tys U
/-- a world, to be written -/
def kB (D : va_G) (cl : List vw_C) (ws : va_W) (tys : List (ClassId × FieldType)) (sz : Nat) (U : State) : Prop := U.heap.size = sz ∧ va_P D cl ws U.heap ∧ va_K D cl tys U ∧ va_D (fun _ => True) ws
theorem rB_stb {D : va_G} {cl : List vw_C} {ws : va_W} {tys : List (ClassId × FieldType)} : Stb (rB D cl ws tys) := fun U V h1 h2 q => ⟨by rw [h1]; exact q.1, va_K.moved h2 q.2⟩
theorem kB_stb {D : va_G} {cl : List vw_C} {ws : va_W} {tys : List (ClassId × FieldType)} {sz : Nat} : Stb (kB D cl ws tys sz) := fun U V h1 h2 q => ⟨by rw [h1]; exact q.1, by rw [h1]; exact q.2.1, va_K.moved h2 q.2.2.1, q.2.2.2⟩
theorem tt_stb : Stb (fun _ => True) := fun _ _ _ _ _ => trivial
/-- the end of a method that wrote: its answer, its world -/
def kQ (r : Option Value) (D : va_G) (cl : List vw_C) (ws : va_W) (A : Nat → Prop) : Array Value → State → Outcome → State → Prop := fun _ st oc t => oc = .returned r ∧ va_P D cl ws t.heap ∧ va_D A ws ∧ va_F A st t
theorem kw_fm {α : Type} {ws wc : List α} {is : List Nat} (h : is.map (fun i => ws[i]?) = wc.map some) : is.filterMap (fun i => ws[i]?) = wc := by
  have h1 : is.filterMap (fun i => ws[i]?) = (is.map (fun i => ws[i]?)).filterMap id := by rw [List.filterMap_map]; rfl
  rw [h1, h, List.filterMap_map]
  show wc.filterMap some = wc
  simp
theorem kt_rows : ∀ (l : List ExceptionTableEntry) (hs : List (Nat × Nat × Nat × Nat)), l.map (fun h => (h.startPc, h.endPc, h.handlerPc, h.catchType)) = hs → l = hs.map (fun q => ⟨q.1, q.2.1, q.2.2.1, q.2.2.2⟩)
  | [], hs, h => by cases h; rfl
  | x :: l, hs, h => by
    cases h
    rw [List.map_cons, List.map_cons, ← kt_rows l _ rfl]
section KC
variable {p : Program} {l : Launch} {e : Env} {R : Room} {s : State} {m : MethodId} {args : Array Value} {below : List Frame} {meth : Method} {c : Code} {H : Heap} {locs : List Loc} {cells slots : Nat} {Q : State → Prop}
variable {y : MethodName} {bytes cc : ByteArray} {maxL nL mc ms index : Nat} {ret : Option FieldType} {rm : Room} {own C : String} {b : Addr} {As rest st0 : List Value} {pc : Nat} {ls : Array Slot} {B : State → Prop} {r : Value} {r9 : Option Value}
variable {D : va_G} {cl : List vw_C} {A0 : Nat → Prop} {ws wc wr w1 : va_W} {tys tyc : List (ClassId × FieldType)}
/-- a method of this or another object that only reads -/
theorem kr_V (n : Nat) (hx : p.tables.exec = Jvm.exec) (hb : c.code = cc) (hml : c.maxLocals = nL) (hown : s.vm.findClass own = some m.cls) (hts : ∀ w ∈ gw, w.before args s = true) (hl : ls.size = nL)
    (hM : Met l y (Cond.code y bytes maxL ret :: gw) rm (va_Pc (.ref b :: As) B) (k2_QcV r) 0 0 (fun _ => False)) (hst : Stb B) (hB : B ({ s with heap := H } : State)) (hG : GoodIn gw (wsV own index C y (Cond.code y bytes maxL ret :: gw)))
    (hd : y.cls = C ∧ y.cls ≠ "java/lang/invoke/MethodHandle" ∧ y.cls ≠ "java/lang/invoke/VarHandle" ∧ (parseMethodDescriptor y.desc).map (fun d => d.parameters.length) = some n) (hrm : rm.cells = 0 ∧ rm.slots = 0) (hR : rm.frames + 1 ≤ R.frames ∧ 8 + (maxL + 11) + rm.locals ≤ R.locals)
    (hrecv : ∃ cellB : Cell, H[b]? = some cellB ∧ cellB.vm.isStatics = false ∧ s.vm.findClass C = some cellB.cls) (hn : As.length = n) (hstack : st0 = As.reverse ++ .ref b :: rest) (hroom : (rest.map fun v => v.category).sum ≤ 8) (hdg : decode cc pc = .ok (.invokevirtual index, 3)) (hc : cells ≤ R.cells ∧ slots ≤ R.slots)
    (kk : W p l e R s m args below meth c H locs cells slots Q (F0 m (pc + 3) ls (r :: rest))) : W p l e R s m args below meth c H locs cells slots Q (F0 m pc ls st0) :=
  W.callV (W.runV ⟨hx, hb, hml, hown, hts⟩ hM (cwV n hts hG rfl hrm.1 hrm.2 hd hR) ⟨kb_blind hst, hrecv, kb_pre hst hB⟩ rfl hn hl hstack (lv_room hroom) hdg hc) kk
/-- a static method that only reads -/
theorem kr_S (n : Nat) (hx : p.tables.exec = Jvm.exec) (hb : c.code = cc) (hml : c.maxLocals = nL) (hown : s.vm.findClass own = some m.cls) (hts : ∀ w ∈ gw, w.before args s = true) (hl : ls.size = nL)
    (hM : Met l y (Cond.code y bytes maxL ret :: gw) rm (va_Pc As B) (k2_QcV r) 0 0 (fun _ => False)) (hst : Stb B) (hB : B ({ s with heap := H } : State)) (hG : GoodIn gw (wsS own index y (Cond.code y bytes maxL ret :: gw)))
    (hd : y.cls = own ∧ y.cls ≠ "java/lang/invoke/MethodHandle" ∧ y.cls ≠ "java/lang/invoke/VarHandle" ∧ (parseMethodDescriptor y.desc).map (fun d => d.parameters.length) = some n) (hrm : rm.cells = 0 ∧ rm.slots = 0) (hR : rm.frames + 1 ≤ R.frames ∧ 8 + (maxL + 11) + rm.locals ≤ R.locals)
    (hn : As.length = n) (hstack : st0 = As.reverse ++ rest) (hroom : (rest.map fun v => v.category).sum ≤ 8) (hdg : decode cc pc = .ok (.invokestatic index, 3)) (hc : cells ≤ R.cells ∧ slots ≤ R.slots)
    (kk : W p l e R s m args below meth c H locs cells slots Q (F0 m (pc + 3) ls (r :: rest))) : W p l e R s m args below meth c H locs cells slots Q (F0 m pc ls st0) :=
  W.callV (W.runS ⟨hx, hb, hml, hown, hts⟩ hM (cwS n hts hG rfl hrm.1 hrm.2 hd hR) ⟨kb_blind hst, kb_pre hst hB⟩ rfl hn hl hstack (lv_room hroom) hdg hc) kk
theorem kw_go {a : Array Value} (hr : va_Run p l e R s m args below meth c H locs cells slots mc ms (F0 m pc ls st0) rest (kQ r9 D cl w1 (va_A wc H.size) a) (va_A wc H.size))
    (hP : va_P D cl ws H) (hD : va_D A0 ws) (hS : va_S A0 s.heap H locs) (hA : ∀ q, s.heap.size ≤ q → A0 q) (isC isR : List Nat) (hC : isC.map (fun i => ws[i]?) = wc.map some) (hR : isR.map (fun i => ws[i]?) = wr.map some) (hn : va_nd isR = true) (hdis : ∀ i ∈ isR, i ∉ isC)
    (kk : ∀ (H1 : Heap) (locs1 : List Loc), va_P D cl (wr ++ w1) H1 → va_D A0 (wr ++ w1) → va_S A0 s.heap H1 locs1 → W p l e R s m args below meth c H1 locs1 (cells + mc) (slots + ms) Q (F0 m (pc + 3) ls (r9.toList ++ rest))) : W p l e R s m args below meth c H locs cells slots Q (F0 m pc ls st0) := by
  have hF := va_free (wc := wc) hD hS hA isC hC
  intro T hT X
  obtain ⟨v, st₀, t, T', L, h0, X', hL, e1, e2, ⟨hv, hb1, hb2, hz, hk⟩, st⟩ := hr T hT X
  cases hv
  rw [h0] at hz hk
  have hj := va_join (wr := wr) (w1 := w1) (H1 := T'.heap) hP hD isC isR hC hR hn hdis (fun q h1 h2 => by rw [e1]; exact hk q h1 h2) hF (by rw [e1]; exact hb1) hb2
  obtain ⟨t2, a1, b1⟩ := kk T'.heap (locs ++ L) hj.1 hj.2 ⟨Nat.le_trans hS.1 (by rw [e1]; exact hz), fun q h1 h2 => by
      rw [e1, hk q (Nat.lt_of_lt_of_le h1 hS.1) (fun z => h2 (hF q z))]
      exact hS.2.1 q h1 h2, fun q hq => by
      rcases List.mem_append.mp hq with h | h
      · exact hS.2.2 q h
      · exact hF _ (hL q h)⟩ T' rfl X'
  exact ⟨t2, st t2 a1, b1⟩
/-- a method that writes in the cells wc of the world ws; w1 stands there behind it -/
theorem kw_V (n : Nat) (isC isR : List Nat) (hx : p.tables.exec = Jvm.exec) (hb : c.code = cc) (hml : c.maxLocals = nL) (hown : s.vm.findClass own = some m.cls) (hts : ∀ w ∈ gw, w.before args s = true) (hl : ls.size = nL)
    (hP : va_P D cl ws H) (hD : va_D A0 ws) (hS : va_S A0 s.heap H locs) (hA : ∀ q, s.heap.size ≤ q → A0 q) (hK : va_K D cl tyc s)
    (hM : Met l y (Cond.code y bytes maxL ret :: gw) rm (va_Pc (.ref b :: As) (kB D cl wc tyc H.size)) (kQ r9 D cl w1 (va_A wc H.size)) mc ms (va_A wc H.size)) (hG : GoodIn gw (wsV own index C y (Cond.code y bytes maxL ret :: gw)))
    (hd : y.cls = C ∧ y.cls ≠ "java/lang/invoke/MethodHandle" ∧ y.cls ≠ "java/lang/invoke/VarHandle" ∧ (parseMethodDescriptor y.desc).map (fun d => d.parameters.length) = some n) (hrm : rm.cells = mc ∧ rm.slots = ms) (hR : rm.frames + 1 ≤ R.frames ∧ 8 + (maxL + 11) + rm.locals ≤ R.locals)
    (hrecv : ∃ cellB : Cell, H[b]? = some cellB ∧ cellB.vm.isStatics = false ∧ s.vm.findClass C = some cellB.cls) (hn : As.length = n) (hstack : st0 = As.reverse ++ .ref b :: rest) (hroom : (rest.map fun v => v.category).sum ≤ 8) (hdg : decode cc pc = .ok (.invokevirtual index, 3)) (hc : cells + mc ≤ R.cells ∧ slots + ms ≤ R.slots)
    (hC : isC.map (fun i => ws[i]?) = wc.map some) (hR2 : isR.map (fun i => ws[i]?) = wr.map some) (hnd : va_nd isC = true ∧ va_nd isR = true) (hdis : ∀ i ∈ isR, i ∉ isC)
    (kk : ∀ (H1 : Heap) (locs1 : List Loc), va_P D cl (wr ++ w1) H1 → va_D A0 (wr ++ w1) → va_S A0 s.heap H1 locs1 → W p l e R s m args below meth c H1 locs1 (cells + mc) (slots + ms) Q (F0 m (pc + 3) ls (r9.toList ++ rest))) : W p l e R s m args below meth c H locs cells slots Q (F0 m pc ls st0) :=
  kw_go (va_runV ⟨hx, hb, hml, hown, hts⟩ hM (cwV n hts hG rfl hrm.1 hrm.2 hd hR) ⟨kb_blind kB_stb, hrecv, kb_pre kB_stb ⟨rfl, hP.sub isC (kw_fm hC), va_K.moved (Vm.Alike.refl _) hK, (hD.sub isC hnd.1 hC).weaken (fun _ _ _ _ => trivial)⟩⟩ rfl hn hl hstack (lv_room hroom) hdg hc) hP hD hS hA isC isR hC hR2 hnd.2 hdis kk
theorem kw_S (n : Nat) (isC isR : List Nat) (hx : p.tables.exec = Jvm.exec) (hb : c.code = cc) (hml : c.maxLocals = nL) (hown : s.vm.findClass own = some m.cls) (hts : ∀ w ∈ gw, w.before args s = true) (hl : ls.size = nL)
    (hP : va_P D cl ws H) (hD : va_D A0 ws) (hS : va_S A0 s.heap H locs) (hA : ∀ q, s.heap.size ≤ q → A0 q) (hK : va_K D cl tyc s)
    (hM : Met l y (Cond.code y bytes maxL ret :: gw) rm (va_Pc As (kB D cl wc tyc H.size)) (kQ r9 D cl w1 (va_A wc H.size)) mc ms (va_A wc H.size)) (hG : GoodIn gw (wsS own index y (Cond.code y bytes maxL ret :: gw)))
    (hd : y.cls = own ∧ y.cls ≠ "java/lang/invoke/MethodHandle" ∧ y.cls ≠ "java/lang/invoke/VarHandle" ∧ (parseMethodDescriptor y.desc).map (fun d => d.parameters.length) = some n) (hrm : rm.cells = mc ∧ rm.slots = ms) (hR : rm.frames + 1 ≤ R.frames ∧ 8 + (maxL + 11) + rm.locals ≤ R.locals)
    (hn : As.length = n) (hstack : st0 = As.reverse ++ rest) (hroom : (rest.map fun v => v.category).sum ≤ 8) (hdg : decode cc pc = .ok (.invokestatic index, 3)) (hc : cells + mc ≤ R.cells ∧ slots + ms ≤ R.slots)
    (hC : isC.map (fun i => ws[i]?) = wc.map some) (hR2 : isR.map (fun i => ws[i]?) = wr.map some) (hnd : va_nd isC = true ∧ va_nd isR = true) (hdis : ∀ i ∈ isR, i ∉ isC)
    (kk : ∀ (H1 : Heap) (locs1 : List Loc), va_P D cl (wr ++ w1) H1 → va_D A0 (wr ++ w1) → va_S A0 s.heap H1 locs1 → W p l e R s m args below meth c H1 locs1 (cells + mc) (slots + ms) Q (F0 m (pc + 3) ls (r9.toList ++ rest))) : W p l e R s m args below meth c H locs cells slots Q (F0 m pc ls st0) :=
  kw_go (va_runS ⟨hx, hb, hml, hown, hts⟩ hM (cwS n hts hG rfl hrm.1 hrm.2 hd hR) ⟨kb_blind kB_stb, kb_pre kB_stb ⟨rfl, hP.sub isC (kw_fm hC), va_K.moved (Vm.Alike.refl _) hK, (hD.sub isC hnd.1 hC).weaken (fun _ _ _ _ => trivial)⟩⟩ rfl hn hl hstack (lv_room hroom) hdg hc) hP hD hS hA isC isR hC hR2 hnd.2 hdis kk
/-- a static method with a table of handlers -/
theorem kw_SW {hh : List (Nat × Nat × Nat × Nat)} (n : Nat) (isC isR : List Nat) (hx : p.tables.exec = Jvm.exec) (hb : c.code = cc) (hml : c.maxLocals = nL) (hown : s.vm.findClass own = some m.cls) (hts : ∀ w ∈ gw, w.before args s = true) (hl : ls.size = nL)
    (hP : va_P D cl ws H) (hD : va_D A0 ws) (hS : va_S A0 s.heap H locs) (hA : ∀ q, s.heap.size ≤ q → A0 q) (hK : va_K D cl tyc s)
    (hM : Met l y (Cond.codeWith y bytes maxL ret hh :: gw) rm (va_Pc As (kB D cl wc tyc H.size)) (kQ r9 D cl w1 (va_A wc H.size)) mc ms (va_A wc H.size)) (hl1 : Cond.methodLink own index y ∈ gw) (hl2 : Cond.static y ∈ gw) (hl3 : Cond.initialized y.cls ∈ gw) (hl4 : Cond.codeWith y bytes maxL ret hh ∈ gw)
    (hd : (y.cls ≠ "java/lang/invoke/MethodHandle" ∧ y.cls ≠ "java/lang/invoke/VarHandle") ∧ (parseMethodDescriptor y.desc).map (fun d => d.parameters.length) = some n) (hrm : rm.cells = mc ∧ rm.slots = ms) (hR : rm.frames + 1 ≤ R.frames ∧ 8 + (maxL + 11) + rm.locals ≤ R.locals)
    (hn : As.length = n) (hstack : st0 = As.reverse ++ rest) (hroom : (rest.map fun v => v.category).sum ≤ 8) (hdg : decode cc pc = .ok (.invokestatic index, 3)) (hc : cells + mc ≤ R.cells ∧ slots + ms ≤ R.slots)
    (hC : isC.map (fun i => ws[i]?) = wc.map some) (hR2 : isR.map (fun i => ws[i]?) = wr.map some) (hnd : va_nd isC = true ∧ va_nd isR = true) (hdis : ∀ i ∈ isR, i ∉ isC)
    (kk : ∀ (H1 : Heap) (locs1 : List Loc), va_P D cl (wr ++ w1) H1 → va_D A0 (wr ++ w1) → va_S A0 s.heap H1 locs1 → W p l e R s m args below meth c H1 locs1 (cells + mc) (slots + ms) Q (F0 m (pc + 3) ls (r9.toList ++ rest))) : W p l e R s m args below meth c H locs cells slots Q (F0 m pc ls st0) := by
  refine kw_go (a := As.toArray) ?_ hP hD hS hA isC isR hC hR2 hnd.2 hdis kk
  intro T hT X
  have hpre : ∀ U : State, U.heap = H → s.WarmedH U.vm → va_Pc As (kB D cl wc tyc H.size) As.toArray U := kb_pre kB_stb ⟨rfl, hP.sub isC (kw_fm hC), va_K.moved (Vm.Alike.refl _) hK, (hD.sub isC hnd.1 hC).weaken (fun _ _ _ _ => trivial)⟩
  have hGG : GoodIn gw (Cond.codeWith y bytes maxL ret hh :: gw) := fun w hw => by
    rcases List.mem_cons.mp hw with rfl | hw
    · exact gw_ok hl4
    · exact gw_ok hw
  have hK9 : Back l R p e below s args y 3 8 (PreOf R mc ms (va_Pc As (kB D cl wc tyc H.size))) (PostOf (kQ r9 D cl w1 (va_A wc H.size)) mc ms (va_A wc H.size)) :=
    va_backW (hh := hh) (bytes := bytes) (maxL := maxL) (ret := ret) hM (kb_blind kB_stb) hrm.1 hrm.2 hR.1 hR.2 (pay_in hts hGG) List.mem_cons_self (fun a' U hW => word_at hW (Or.inl (by first | rfl | simp [Cond.onTables, Cond.keeps, Cond.steady])) (hts _ hl3))
  obtain ⟨mk, methM, cM, hnamed, hmethM, -, -, -, -, -, -, hsigM⟩ := Cond.codeWith_spec (hts _ hl4)
  obtain ⟨kP, hkP, -⟩ := className_of_methodNamed hnamed
  have hlen : As.length = methM.sig.parameters.length := by
    have h2 := hd.2
    rw [hsigM] at h2
    rw [hn]
    exact (Option.some.inj h2).symm
  obtain ⟨vm₁, X₁, hstep₁⟩ := X.invokestatic hx hown (hts _ hl1) hnamed hmethM (Cond.static_spec hnamed hmethM (hts _ hl2)) hkP (Cond.initialized_spec (findClass_of_methodNamed hnamed) hkP (hts _ hl3)) hd.1 (g := F0 m pc ls st0) rfl (argsL := As) (rest := rest) hlen hstack (by rw [hb]; exact hdg)
  obtain ⟨v, ⟨U', l2, c2, s2⟩, X', ⟨g', mk', t, L, e1, e2, hq, h1, hL, h2, h3⟩, hsteps⟩ := hK9 m meth c ⟨T.setVm vm₁, locs, cells, slots⟩ (F0 m pc ls rest) (.invokestatic index) mk As.toArray X₁ rfl (hl.trans hml.symm) (by rw [hb]; exact hdg) (lv_room hroom) (X₁.named hnamed) ⟨hc.1, hc.2, hpre (T.setVm vm₁) hT X₁.warmed⟩
  dsimp only [Pt.U, Pt.locs, Pt.cells, Pt.slots] at X' e1 e2 h1 h2 h3 hsteps
  subst h1; subst h2; subst h3
  exact ⟨v, (T.setVm vm₁).calling g' mk' As.toArray, t, U', L, hT, X', hL, e1, e2, hq, fun target h => hstep₁ _ fun acts => by rw [doInvoke_state]; exact hsteps.trans h⟩
end KC
end
