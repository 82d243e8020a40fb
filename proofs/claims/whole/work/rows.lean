section
-- ===== PART A: goes FIRST, ahead of the names: the tables' words, and 'selects' of the private methods out of them =====
/-- a private method of a class that the tables say can be made, by its rows of tables_1 -/
def lw_okq (q : MethodName × Nat) : Prop := (q.1.cls ≠ "java/lang/invoke/MethodHandle" ∧ q.1.cls ≠ "java/lang/invoke/VarHandle") ∧ Cond.instantiable q.1.cls q.2 ∈ tables_1 ∧ Cond.privateMethod q.1 ∈ tables_1 ∧ Cond.instanceMethod q.1 ∈ tables_1
theorem lw_p0 : lw_okq (⟨"GrantMath", "accessCause", "(IIII)I"⟩, 6) := ⟨⟨by decide +kernel, by decide +kernel⟩, List.mem_of_getElem? (i := 9) (by decide +kernel), List.mem_of_getElem? (i := 42) (by decide +kernel), List.mem_of_getElem? (i := 43) (by decide +kernel)⟩
theorem lw_p1 : lw_okq (⟨"GrantMath", "isSealed", "(I)Z"⟩, 6) := ⟨⟨by decide +kernel, by decide +kernel⟩, List.mem_of_getElem? (i := 9) (by decide +kernel), List.mem_of_getElem? (i := 46) (by decide +kernel), List.mem_of_getElem? (i := 47) (by decide +kernel)⟩
theorem lw_p2 : lw_okq (⟨"GrantMath", "hasPermissions", "(II)Z"⟩, 6) := ⟨⟨by decide +kernel, by decide +kernel⟩, List.mem_of_getElem? (i := 9) (by decide +kernel), List.mem_of_getElem? (i := 50) (by decide +kernel), List.mem_of_getElem? (i := 51) (by decide +kernel)⟩
theorem lw_p3 : lw_okq (⟨"GrantMath", "isInBounds", "(IIJ)Z"⟩, 6) := ⟨⟨by decide +kernel, by decide +kernel⟩, List.mem_of_getElem? (i := 9) (by decide +kernel), List.mem_of_getElem? (i := 54) (by decide +kernel), List.mem_of_getElem? (i := 55) (by decide +kernel)⟩
theorem lw_p4 : lw_okq (⟨"java/lang/Throwable", "fillInStackTrace", "(I)Ljava/lang/Throwable;"⟩, 6) := ⟨⟨by decide +kernel, by decide +kernel⟩, List.mem_of_getElem? (i := 108) (by decide +kernel), List.mem_of_getElem? (i := 106) (by decide +kernel), List.mem_of_getElem? (i := 107) (by decide +kernel)⟩
theorem lw_p5 : lw_okq (⟨"GrantMath", "copy", "(II)V"⟩, 6) := ⟨⟨by decide +kernel, by decide +kernel⟩, List.mem_of_getElem? (i := 9) (by decide +kernel), List.mem_of_getElem? (i := 172) (by decide +kernel), List.mem_of_getElem? (i := 173) (by decide +kernel)⟩
theorem lw_p6 : lw_okq (⟨"GrantMath", "sealingCause", "(II)I"⟩, 6) := ⟨⟨by decide +kernel, by decide +kernel⟩, List.mem_of_getElem? (i := 9) (by decide +kernel), List.mem_of_getElem? (i := 197) (by decide +kernel), List.mem_of_getElem? (i := 198) (by decide +kernel)⟩
theorem lw_p7 : lw_okq (⟨"GrantMath", "unsealingCause", "(II)I"⟩, 6) := ⟨⟨by decide +kernel, by decide +kernel⟩, List.mem_of_getElem? (i := 9) (by decide +kernel), List.mem_of_getElem? (i := 209) (by decide +kernel), List.mem_of_getElem? (i := 210) (by decide +kernel)⟩
theorem lw_p8 : lw_okq (⟨"GrantMathModel", "fails", "(ZI)Z"⟩, 7) := ⟨⟨by decide +kernel, by decide +kernel⟩, List.mem_of_getElem? (i := 237) (by decide +kernel), List.mem_of_getElem? (i := 282) (by decide +kernel), List.mem_of_getElem? (i := 283) (by decide +kernel)⟩
theorem lw_p9 : lw_okq (⟨"GrantMathModel", "give", "(IJJJIIZ)V"⟩, 7) := ⟨⟨by decide +kernel, by decide +kernel⟩, List.mem_of_getElem? (i := 237) (by decide +kernel), List.mem_of_getElem? (i := 290) (by decide +kernel), List.mem_of_getElem? (i := 291) (by decide +kernel)⟩
theorem lw_p10 : lw_okq (⟨"GrantMathModel", "isSealed", "(I)Z"⟩, 7) := ⟨⟨by decide +kernel, by decide +kernel⟩, List.mem_of_getElem? (i := 237) (by decide +kernel), List.mem_of_getElem? (i := 302) (by decide +kernel), List.mem_of_getElem? (i := 303) (by decide +kernel)⟩
theorem lw_p11 : lw_okq (⟨"GrantMathModel", "may", "(II)Z"⟩, 7) := ⟨⟨by decide +kernel, by decide +kernel⟩, List.mem_of_getElem? (i := 237) (by decide +kernel), List.mem_of_getElem? (i := 318) (by decide +kernel), List.mem_of_getElem? (i := 319) (by decide +kernel)⟩
theorem lw_p12 : lw_okq (⟨"GrantMathModel", "holds", "(IJJ)Z"⟩, 7) := ⟨⟨by decide +kernel, by decide +kernel⟩, List.mem_of_getElem? (i := 237) (by decide +kernel), List.mem_of_getElem? (i := 322) (by decide +kernel), List.mem_of_getElem? (i := 323) (by decide +kernel)⟩
def lw_privs_1 : List (MethodName × Nat) := [(⟨"GrantMath", "accessCause", "(IIII)I"⟩, 6), (⟨"GrantMath", "isSealed", "(I)Z"⟩, 6), (⟨"GrantMath", "hasPermissions", "(II)Z"⟩, 6), (⟨"GrantMath", "isInBounds", "(IIJ)Z"⟩, 6), (⟨"java/lang/Throwable", "fillInStackTrace", "(I)Ljava/lang/Throwable;"⟩, 6), (⟨"GrantMath", "copy", "(II)V"⟩, 6), (⟨"GrantMath", "sealingCause", "(II)I"⟩, 6), (⟨"GrantMath", "unsealingCause", "(II)I"⟩, 6), (⟨"GrantMathModel", "fails", "(ZI)Z"⟩, 7), (⟨"GrantMathModel", "give", "(IJJJIIZ)V"⟩, 7), (⟨"GrantMathModel", "isSealed", "(I)Z"⟩, 7), (⟨"GrantMathModel", "may", "(II)Z"⟩, 7), (⟨"GrantMathModel", "holds", "(IJJ)Z"⟩, 7)]
theorem lw_r1 : ∀ q ∈ lw_privs_1, lw_okq q := List.forall_mem_cons.mpr ⟨lw_p0, List.forall_mem_cons.mpr ⟨lw_p1, List.forall_mem_cons.mpr ⟨lw_p2, List.forall_mem_cons.mpr ⟨lw_p3, List.forall_mem_cons.mpr ⟨lw_p4, List.forall_mem_cons.mpr ⟨lw_p5, List.forall_mem_cons.mpr ⟨lw_p6, List.forall_mem_cons.mpr ⟨lw_p7, List.forall_mem_cons.mpr ⟨lw_p8, List.forall_mem_cons.mpr ⟨lw_p9, List.forall_mem_cons.mpr ⟨lw_p10, List.forall_mem_cons.mpr ⟨lw_p11, List.forall_mem_cons.mpr ⟨lw_p12, fun _ h => absurd h List.not_mem_nil⟩⟩⟩⟩⟩⟩⟩⟩⟩⟩⟩⟩⟩
def lw_privs : List (MethodName × Nat) := lw_privs_1
def lw_tbl : List Cond := k2_sels lw_privs ++ tables_1
theorem lw_privs_ok : ∀ q ∈ lw_privs, lw_okq q := lw_r1
end
section
/-! Exceptions in this system: a method that throws has written nothing, and one new cell is the exception. tx_Thr is the contract of a method that throws. -/
section TXA
variable {l : Launch}
def tx_Q (E : String) (mc ms : Nat) (st : State) (o : Outcome) (t : State) : Prop :=
  ∃ (q : Addr) (ce : Cell), o = .threw q ∧ t.heap[q]? = some ce ∧ ce.vm = .none ∧ st.vm.findClass E = some ce.cls ∧ st.WarmedH t.vm ∧ st.sameButNew ({ t with vm := st.vm } : State) [] mc ms
def tx_Thr (l : Launch) (y : MethodName) (ws : List Cond) (rm : Room) (Pc : Array Value → State → Prop) (E : String) (mc ms : Nat) : Prop :=
  MetFree l y (headSpec ws rm) Pc (fun _ _ _ _ _ => True) (fun _ st o t => tx_Q E mc ms st o t)
def tx_End (below : List Frame) (E : String) (mc ms : Nat) (s : State) : State → Prop := fun t => ∃ o, t.status = .running ∧ Ended t below o ∧ tx_Q E mc ms s o t
theorem tx_of {y : MethodName} {ws ws' : List Cond} {rm : Room} {Pc : Array Value → State → Prop} {E : String} {mc ms : Nat} {cc : ByteArray} {maxL : Nat} {ret : Option FieldType}
    (hy : plainName y.cls = true) (hw : ws = Cond.code y cc maxL ret :: ws')
    (body : ∀ p e s m args below meth c s₁, BodyLoose p l y (headSpec ws rm) cc maxL ret e s m args below meth c s₁ → c.maxLocals = maxL → c.exceptionTable.toList = [] → Pc args s →
      W p l e (headSpec ws rm).room s m args below meth c s.heap [] 0 0 (tx_End below E mc ms s) (entryFrame m args maxL)) : tx_Thr l y ws rm Pc E mc ms := by
  refine MetFree.of_bodyS (code := cc) (maxLocals := maxL) (ret := ret) hy ?_ ?_
  · intro args s m h hn
    obtain ⟨meth, c, h1, h2, h3, h4, h5, h6, -, -⟩ := Cond.code_spec hn (atoms_spec (ws := ws) h _ (by rw [hw]; exact List.mem_cons_self))
    exact ⟨meth, c, h1, h2, h3, h4, h5, h6⟩
  · intro p e s m args below meth c s₁ B hml hP _
    have hh0 : s₁.heap = s.heap := by rw [B.state]; rfl
    have hne : c.exceptionTable.toList = [] := by
      have h1 := B.noHandlers (atoms_spec (ws := ws) B.pre _ (by rw [hw]; exact List.mem_cons_self))
      simpa using h1
    obtain ⟨t, a1, o, b1, b2, b3⟩ := body p e s m args below meth c s₁ B hml hne hP s₁ hh0 (Stand.of_body B)
    exact ⟨t, o, a1, b1, b2, b3⟩
end TXA
section TXB
variable {p : Program} {l : Launch} {e : Env} {R : Room} {s : State} {m : MethodId} {args : Array Value} {below : List Frame} {meth : Method} {c : Code} {H : Heap} {locs : List Loc} {cells slots : Nat} {Q : State → Prop}
variable {cc : ByteArray} {pc : Nat} {ls : Array Slot} {rest : List Value}
set_option maxHeartbeats 1000000 in
/-- throw new E("text"), before anything has been written -/
theorem tx_throw (hexec : p.tables.exec = Jvm.exec) (hb : c.code = cc) (hl : l.stackTraces = false) {own cls text : String} {names : List String} {ik is ic sa : Nat}
    (hown : s.vm.findClass own = some m.cls) (hcls : Bundle.fit cls = true) (hnames : ∀ n ∈ names, Bundle.fit n = true)
    (hk : (Cond.classLink own ik cls).before args s = true) (hini : (Cond.initialized cls).before args s = true) (hstr : vk_R own is text sa s) (hat : ∀ w ∈ Bundle.ownAtoms own ic cls names, w.before args s = true)
    (hsize : ls.size = c.maxLocals)
    (d0 : decode cc pc = .ok (.new ik, 3)) (d3 : decode cc (pc + 3) = .ok (.dup, 1)) (d4 : decode cc (pc + 4) = .ok (.ldc is, 2)) (d6 : decode cc (pc + 6) = .ok (.invokespecial ic, 3)) (d9 : decode cc (pc + 9) = .ok (.athrow, 1))
    (hne : c.exceptionTable.toList = []) (hRframes : names.length + 3 < R.frames) (hRlocals : (rest.map fun v => v.category).sum + (13 * (names.length + 1) + 43) ≤ R.locals) (hRcells : 1 ≤ R.cells) (hRslots : 6 ≤ R.slots) (hlocks : meth.locks = false) :
    W p l e R s m args below meth c s.heap [] 0 0 (tx_End below cls 1 6 s) (F0 m pc ls rest) := by
  have hins : (Cond.instantiable cls 6).before args s = true := hat _ (by simp [Bundle.ownAtoms])
  refine W.newc hexec hb hown hk hins hini rfl d0 (by omega) (by omega) fun cC kC h1 h2 h3 h4 => ?_
  refine lv_dup hexec hb d3 rfl ?_
  refine va_ldcS hexec hb hown hstr d4 ?_
  intro T hT X
  have htr : e.platform.stackTraces = false := (show e.platform.stackTraces = l.stackTraces by rw [X.admits.platform]).trans hl
  obtain ⟨U, hsteps, hrun, hend, hW, hsame, ce, hce, hO⟩ := X.ctorThrowS hexec htr (own := own) (cls := cls) (names := names) (ic := ic) hown hcls hnames hat (fun x hx => nomatch hx) h1 h2
    (a := s.heap.size) (by rw [hT]; simp) (Nat.le_refl _) (msg := .ref sa) rfl (g := F0 m (pc + 3 + 1 + 2) ls (.ref sa :: .ref s.heap.size :: .ref s.heap.size :: rest)) rfl hsize rfl rfl (rest := rest) rfl
    (by rw [hb]; exact d6) (by rw [hb]; exact d9) (by rw [hne]; exact fun x hx => nomatch hx) hRframes (by
      show 2 * 0 + _ + _ ≤ _
      have hc1 : (Value.ref s.heap.size).category = 1 := rfl
      simp only [List.map_cons, List.sum_cons, hc1]
      omega) hlocks
  exact ⟨U, hsteps, .threw s.heap.size, hrun, hend, s.heap.size, ce, rfl, hce, hO.vm, hO.cls, hW, hsame⟩
/-- q is thrown over the method's frame g -/
def tx_W (p : Program) (l : Launch) (e : Env) (R : Room) (s : State) (m : MethodId) (args : Array Value) (below : List Frame) (meth : Method) (c : Code) (H : Heap) (locs : List Loc) (cells slots : Nat) (Q : State → Prop) (g : JFrame) (q : Addr) : Prop :=
  ∀ T : State, T.heap = H → Stand p l e R s m args below meth c T locs cells slots → ∃ t, Steps p.tables e below ((T.setTop g).pushFrame (.throwing q)) t ∧ Q t
/-- the thrown leaves a method that has written nothing -/
theorem tx_leave {E : String} {mc ms : Nat} {ce : Cell} {q : Addr} {g : JFrame} (hg : g.method = m) (hlk : g.locked = none) (hen : g.entered = []) (hne : c.exceptionTable.toList = []) (hlocks : meth.locks = false)
    (hce : H[q]? = some ce) (hcv : ce.vm = .none) (hcl : s.vm.findClass E = some ce.cls) (hc : cells ≤ mc) (hs : slots ≤ ms) : tx_W p l e R s m args below meth c H [] cells slots (tx_End below E mc ms s) g q := by
  intro T hT X
  obtain ⟨st, hrun, hend, hW, hsame⟩ := X.leaveThrown q (g := g) hg hlk hen (by rw [hne]; exact fun x hx => nomatch hx) hlocks
  exact ⟨_, st, .threw q, hrun, hend, q, ce, rfl, by show T.heap[q]? = _; rw [hT]; exact hce, hcv, hcl, hW, hsame.mono hc hs⟩
end TXB
section TXC
variable {l : Launch} {R : Room} {p : Program} {e : Env} {below : List Frame} {s : State} {sargs : Array Value} {y : MethodName} {len W9 : Nat}
/-- what a call of a throwing method comes to -/
theorem tx_back {ws : List Cond} {rm : Room} {Pc : Array Value → State → Prop} {E : String} {mc ms : Nat} {bytes : ByteArray} {maxL : Nat} {ret : Option FieldType}
    (hM : tx_Thr l y ws rm Pc E mc ms) (hblind : FrameBlind Pc) (hrc : rm.cells = mc) (hrs : rm.slots = ms) (hframes : rm.frames + 1 ≤ R.frames) (hlocals : W9 + (maxL + 11) + rm.locals ≤ R.locals)
    (hws : ∀ w ∈ ws, ∀ a' U, s.WarmedH U.vm → w.before a' U = true) (hcode : Cond.code y bytes maxL ret ∈ ws) (hinit : ∀ a' U, s.WarmedH U.vm → (Cond.initialized y.cls).before a' U = true)
    {m : MethodId} {meth : Method} {c : Code} {U : State} {locs : List Loc} {cells slots : Nat} {g : JFrame} {ig : Instr} {mk : MethodId} {a : Array Value}
    (X : Stand p l e R s m sargs below meth c U locs cells slots) (hg : g.method = m) (hsize : g.locals.size = c.maxLocals) (hdg : decode c.code g.pc = .ok (ig, len)) (hW9 : 2 * g.monitorRoom + (g.stack.map fun v => v.category).sum ≤ W9)
    (hn : U.methodNamed? y = some mk) (hp : Pc a U) (hcc : cells + mc ≤ R.cells) (hss : slots + ms ≤ R.slots) :
    ∃ (q : Addr) (ce : Cell) (V : State), Stand p l e R s m sargs below meth c V locs (cells + mc) (slots + ms) ∧ V.heap[q]? = some ce ∧ ce.vm = .none ∧ s.vm.findClass E = some ce.cls ∧
      U.heap.size ≤ V.heap.size ∧ (∀ x : Nat, x < U.heap.size → V.heap[x]? = U.heap[x]?) ∧ Steps p.tables e below (doInvoke e (U.setTop g) [] mk a).1 ((V.setTop g).pushFrame (.throwing q)) := by
  have hPc : Pc a (U.calling g mk a) := hblind _ _ _ _ hp
  have h1 : (headSpec ws rm).pre.before a U = true := atoms_intro fun w hw => hws w hw _ _ X.warmed
  obtain ⟨methY, cY, hmY, hcY, -, hlY, -, -, -, -⟩ := Cond.code_spec hn (hws _ hcode a U X.warmed)
  obtain ⟨kY, hkY, -⟩ := className_of_methodNamed hn
  have hinitY : kY.init = .initialized := Cond.initialized_spec (findClass_of_methodNamed hn) hkY (hinit a U X.warmed)
  have h : At U g.method c below := by rw [hg]; exact X.here
  have happ : (headSpec ws rm).appliesLoose y e.platform (U.calling g mk a) = true :=
    Spec.appliesLoose_calling (g := g) h hdg hn hkY hinitY
      (X.room_calling (g := g) (R' := (headSpec ws rm).room) hsize hmY hcY hframes (by
        rw [hlY]
        have h9 : W9 + (maxL + 11) + (headSpec ws rm).room.locals ≤ R.locals := hlocals
        omega) (by rw [show (headSpec ws rm).room.cells = mc from hrc]; exact hcc) (by rw [show (headSpec ws rm).room.slots = ms from hrs]; exact hss)) h1
  obtain ⟨mid, hmid⟩ := h.above
  have hfr : (U.setTop g).frames = (.java g :: mid) ++ below := by rw [State.frames_setTop' g h.top, hmid]; rfl
  obtain ⟨o, t, hsteps, -, hend, q, ce, rfl, hce, hcv, hcl, hWt, hsame⟩ := Steps.callFree hM p X.admits X.cas X.clock (acts := []) hfr happ hPc trivial
  rw [State.frames_setTop' g h.top] at hend
  obtain ⟨g₀, hg0⟩ := Option.isSome_iff_exists.mp h.top
  obtain ⟨r, hr⟩ := State.topJava?_eq_some.mp hg0
  have hWU : U.WarmedH t.vm := hWt
  have hft : t.frames = .throwing q :: .java g :: U.frames.tail := hend
  obtain ⟨V, hV⟩ : ∃ V : State, V = ({ U with heap := t.heap, slotsUsed := t.slotsUsed } : State).setVm t.vm := ⟨_, rfl⟩
  have hrV : V.frames = .java g₀ :: r := by rw [hV]; exact hr
  obtain ⟨e1, e2, e3, e4, e5, e6⟩ := hsame
  have ht : t = (V.setTop g).pushFrame (.throwing q) := by
    have e7 : t = ({ t with vm := ((U.setTop g).pushFrame (Frame.invoking mk a)).vm } : State).setVm t.vm := rfl
    rw [e1] at e7
    have hrhs : (V.setTop g).pushFrame (.throwing q) = V.setFrames (.throwing q :: .java g :: r) := by rw [State.pushFrame, State.frames_setTop _ hrV, State.setTop_of_frames _ hrV, State.setFrames_setFrames]
    rw [hrhs, hV]
    refine e7.trans ?_
    show (({ (U.calling g mk a).setFrames t.frames with heap := t.heap, slotsUsed := t.slotsUsed } : State).setVm t.vm) = _
    rw [hft, State.calling_eq h.top, State.setFrames_setFrames, hr]
    rfl
  have hsU : U.sameButNew ({ U with heap := t.heap, slotsUsed := t.slotsUsed } : State) [] mc ms := by
    refine ⟨?_, e2, e3, e4, e5, e6⟩
    obtain ⟨x, hx, -⟩ := State.frames_cons hr
    show ({ U with heap := t.heap, slotsUsed := t.slotsUsed } : State) = { U.setFrames U.frames with heap := t.heap, slotsUsed := t.slotsUsed }
    rw [State.setFrames_self hx]
  have XV : Stand p l e R s m sargs below meth c V locs (cells + mc) (slots + ms) := by
    have h9 := X.same.trans (hsU.setVm s.vm)
    rw [List.append_nil] at h9
    rw [hV]
    exact ⟨X.admits, X.cas, X.clock, X.frames, X.room, X.hears, X.method, X.code, (X.here.setHeapUsed t.heap t.slotsUsed).setVm hWU.alike, X.tail, State.WarmedH.trans X.warmed hWU, X.limits, X.bytes, h9⟩
  refine ⟨q, ce, V, XV, by rw [hV]; exact hce, hcv, ?_, by rw [hV]; exact e2, fun x hx => ?_, by rw [← ht]; exact hsteps⟩
  · have h9 : U.vm.findClass E = some ce.cls := hcl
    rw [X.warmed.alike.findClass] at h9
    exact h9
  · rw [hV]
    show t.heap[x]? = U.heap[x]?
    obtain ⟨cell, hcell⟩ : ∃ cell, U.heap[x]? = some cell := ⟨U.heap[x], Array.getElem?_eq_getElem hx⟩
    obtain ⟨cell', h7, h8, h9, h10⟩ := e6 x cell hcell
    have hsl : cell'.slots = cell.slots := Array.ext_getElem? (fun i => h10 i List.not_mem_nil)
    have h11 : cell' = cell := by rw [h8, hsl]
    rw [hcell, ← h11]
    exact h7
end TXC
section TXD
variable {p : Program} {l : Launch} {e : Env} {R : Room} {s : State} {m : MethodId} {args : Array Value} {below : List Frame} {meth : Method} {c : Code} {H : Heap} {locs : List Loc} {cells slots : Nat} {Q : State → Prop}
variable {y : MethodName} {bytes cc : ByteArray} {maxL nL mc ms n index : Nat} {ret : Option FieldType} {ws : List Cond} {rm : Room} {Pc : Array Value → State → Prop} {E : String} {Ts : List Cond} {own C : String} {b : Addr} {As rest st0 : List Value} {pc : Nat} {ls : Array Slot}
theorem tx_callS (S : CallFix p m c cc nL s args Ts own) (hM : tx_Thr l y ws rm Pc E mc ms) (cw : CallB R s args own index y bytes maxL ret ws rm mc ms n ∧ (Cond.static y).before args s = true) (hp : PreS s H Pc As)
    (hn : As.length = n) (hsize : ls.size = nL) (hstack : st0 = As.reverse ++ rest) (hW : (rest.map fun v => v.category).sum ≤ 8) (hdg : decode cc pc = .ok (.invokestatic index, 3)) (hf : cells + mc ≤ R.cells ∧ slots + ms ≤ R.slots)
    (kx : ∀ (q : Addr) (ce : Cell) (H1 : Heap), H.size ≤ H1.size → (∀ x : Nat, x < H.size → H1[x]? = H[x]?) → H1[q]? = some ce → ce.vm = .none → s.vm.findClass E = some ce.cls → tx_W p l e R s m args below meth c H1 locs (cells + mc) (slots + ms) Q (F0 m pc ls rest) q) :
    W p l e R s m args below meth c H locs cells slots Q (F0 m pc ls st0) := by
  obtain ⟨⟨hrc, hrs, hfr, hlo, hws, hcw, hcode, hini, hy, hlen, hl⟩, hstt⟩ := cw
  obtain ⟨hx, hb, hml, ho, -⟩ := S
  obtain ⟨hbl, hPc⟩ := hp
  subst hstack
  intro T hT X
  obtain ⟨mk, hnamed⟩ := Cond.code_named hcode
  obtain ⟨methM, cM, hmethM, -, -, -, -, -, -, hsigM⟩ := Cond.code_spec hnamed hcode
  obtain ⟨kP, hkP, -⟩ := className_of_methodNamed hnamed
  obtain ⟨vm₁, X₁, hstep₁⟩ := X.invokestatic hx ho hl hnamed hmethM (Cond.static_spec hnamed hmethM hstt) hkP (Cond.initialized_spec (findClass_of_methodNamed hnamed) hkP hini) hy (g := F0 m pc ls (As.reverse ++ rest)) rfl (argsL := As) (rest := rest) (hn.trans (hlen _ hsigM)) rfl (by rw [hb]; exact hdg)
  obtain ⟨q, ce, V, XV, h1, h2, h3, h4, h5, st⟩ := tx_back (W9 := 8) (len := 3) (ig := .invokestatic index) (mk := mk) hM hbl hrc hrs hfr hlo hws hcw (fun a' U hW => word_at hW (Or.inl (by first | rfl | simp [Cond.onTables, Cond.keeps, Cond.steady])) hini) X₁ (g := F0 m pc ls rest) rfl (hsize.trans hml.symm) (by rw [hb]; exact hdg) (lv_room (m := m) (pc := pc) (ls := ls) (rest := rest) hW) (X₁.named hnamed) (hPc (T.setVm vm₁) hT X₁.warmed) hf.1 hf.2
  rw [State.heap_setVm, hT] at h4 h5
  obtain ⟨t2, a1, b1⟩ := kx q ce V.heap h4 h5 h1 h2 h3 V rfl XV
  exact ⟨t2, hstep₁ _ fun acts => by rw [doInvoke_state]; exact st.trans a1, b1⟩
theorem tx_callV (S : CallFix p m c cc nL s args Ts own) (hM : tx_Thr l y ws rm Pc E mc ms) (cw : CallW R s args own C index y bytes maxL ret ws rm mc ms n) (hp : PreV s H C b Pc As)
    (hn : As.length = n) (hsize : ls.size = nL) (hstack : st0 = As.reverse ++ .ref b :: rest) (hW : (rest.map fun v => v.category).sum ≤ 8) (hdg : decode cc pc = .ok (.invokevirtual index, 3)) (hf : cells + mc ≤ R.cells ∧ slots + ms ≤ R.slots)
    (kx : ∀ (q : Addr) (ce : Cell) (H1 : Heap), H.size ≤ H1.size → (∀ x : Nat, x < H.size → H1[x]? = H[x]?) → H1[q]? = some ce → ce.vm = .none → s.vm.findClass E = some ce.cls → tx_W p l e R s m args below meth c H1 locs (cells + mc) (slots + ms) Q (F0 m pc ls rest) q) :
    W p l e R s m args below meth c H locs cells slots Q (F0 m pc ls st0) := by
  obtain ⟨⟨hrc, hrs, hfr, hlo, hws, hcw, hcode, hini, hy, hlen, hl⟩, hinst, hsel⟩ := cw
  obtain ⟨hx, hb, hml, ho, -⟩ := S
  obtain ⟨hbl, ⟨cellB, hcB, hoB, hclB⟩, hPc⟩ := hp
  subst hstack
  intro T hT X
  obtain ⟨mk, methM, hnamed, hmethM, hstM, habM⟩ := Cond.instanceMethod_spec hinst
  obtain ⟨methM', cM, hmethM', -, -, -, -, -, -, hsigM⟩ := Cond.code_spec hnamed hcode
  cases hmethM.symm.trans hmethM'
  obtain ⟨c2, r2, m2, q1, q2, q3, q4, kP, hkP, hkPi⟩ := Cond.selects_spec hsel
  cases hclB.symm.trans q1
  cases (State.methodFound?_of_named hnamed hy).symm.trans q2
  cases hnamed.symm.trans q3
  obtain ⟨vm₁, X₁, hstep₁⟩ := X.invokevirtual hx ho hl hnamed hmethM hstM hkP hkPi hy (a := b) (cell := cellB) (by rw [hT]; exact hcB)
    (fun z h => by rw [h] at hoB; cases hoB) (by rw [Launch.admits_selectMethod X.admits]; exact q4) hmethM habM hkP hkPi (g := F0 m pc ls (As.reverse ++ .ref b :: rest)) rfl (argsL := As) (rest := rest) (hn.trans (hlen _ hsigM)) rfl (by rw [hb]; exact hdg)
  obtain ⟨q, ce, V, XV, h1, h2, h3, h4, h5, st⟩ := tx_back (W9 := 8) (len := 3) (ig := .invokevirtual index) (mk := mk) hM hbl hrc hrs hfr hlo hws hcw (fun a' U hW => word_at hW (Or.inl (by first | rfl | simp [Cond.onTables, Cond.keeps, Cond.steady])) hini) X₁ (g := F0 m pc ls rest) rfl (hsize.trans hml.symm) (by rw [hb]; exact hdg) (lv_room (m := m) (pc := pc) (ls := ls) (rest := rest) hW) (X₁.named hnamed) (hPc (T.setVm vm₁) hT X₁.warmed) hf.1 hf.2
  rw [State.heap_setVm, hT] at h4 h5
  obtain ⟨t2, a1, b1⟩ := kx q ce V.heap h4 h5 h1 h2 h3 V rfl XV
  exact ⟨t2, hstep₁ _ fun acts => by rw [doInvoke_state]; exact st.trans a1, b1⟩
end TXD
section TXE
variable {e : Env} {f : JFrame} {q : Addr}
/-- one row of a table that covers the place, its class linked now or before: it takes what can be assigned to it -/
theorem tx_row {z : ExceptionTableEntry} {t : List ExceptionTableEntry} {cz : ClassId} {cell : Cell} {S : State} {P : Handler → Pre} {E : CtlPost} {d : Bool} {acts : List Action} (hz : covers z f.pc = true) (h0 : z.catchType ≠ 0)
    (hl : S.vm.ClassLinks e.platform f.method.cls z.catchType cz) (hcell : S.heap[q]? = some cell) (hobj : ∀ k, cell.vm ≠ .statics k) (hk : ∃ k, S.vm.classes[cell.cls]? = some k) (hc : ∃ k, S.vm.classes[cz]? = some k) {b : Bool} (hb : S.vm.assignable cell.cls cz = b) :
    wp (findHandler.go f q (z :: t)) P E e d acts S ↔ if b = true then P (.found z.handlerPc) d acts (S.setVm (S.vm.noted f.method.cls z.catchType (.cls cz))) else wp (findHandler.go f q t) P E e d acts (S.setVm (S.vm.noted f.method.cls z.catchType (.cls cz))) := by
  simp only [covers] at hz
  obtain ⟨ha, ht⟩ := (resolveClass_links e.toSetting hl).op (op := VmOp.resolveClass f.method.cls z.catchType) rfl
  have hal : S.vm.Alike (S.vm.noted f.method.cls z.catchType (.cls cz)) := (Vm.Alike.refl S.vm).noted _ _ _
  obtain ⟨k1, hk1⟩ := hk
  obtain ⟨k2, hk2⟩ := hc
  obtain ⟨k1', hk1', -⟩ := hal.2.2 _ _ hk1
  obtain ⟨k2', hk2', -⟩ := hal.2.2 _ _ hk2
  have hb' : (S.vm.noted f.method.cls z.catchType (.cls cz)).assignable cell.cls cz = b := by rw [hal.assignable]; exact hb
  cases b <;> simp [findHandler.go, hz, h0, ha, ht, hcell, hobj, hk1', hk2', hb', VmOp.dirties, VmOp.acts]
/-- the search over rows that don't take it, then one that does -/
theorem tx_rows {s0 : State} {cell : Cell} (hobj : ∀ k, cell.vm ≠ .statics k) (hk0 : ∃ k, s0.vm.classes[cell.cls]? = some k) {x : ExceptionTableEntry} {suf : List ExceptionTableEntry} (hx : covers x f.pc = true) (h0 : x.catchType ≠ 0)
    {cx : ClassId} (hlx : s0.vm.ClassLinks e.platform f.method.cls x.catchType cx) (hax : s0.vm.assignable cell.cls cx = true) : ∀ (pre : List ExceptionTableEntry) (S : State), s0.WarmedH S.vm → S.heap[q]? = some cell →
      (∀ z ∈ pre, covers z f.pc = true ∧ z.catchType ≠ 0 ∧ ∃ cz, s0.vm.ClassLinks e.platform f.method.cls z.catchType cz ∧ s0.vm.assignable cell.cls cz = false) →
      ∃ vm', s0.WarmedH vm' ∧ ∀ (P : Handler → Pre) (E : CtlPost) (d : Bool) (acts : List Action), wp (findHandler.go f q (pre ++ x :: suf)) P E e d acts S ↔ P (.found x.handlerPc) d acts (S.setVm vm')
  | [], S, hW, hcell, _ => by
    obtain ⟨k0, hk0⟩ := hk0
    obtain ⟨k0', hk0', -⟩ := hW.alike.2.2 _ _ hk0
    obtain ⟨dk, _, _, kt, hd, _, _, _, _, hkt, _, hopen⟩ := hlx.here
    obtain ⟨kt', hkt', -⟩ := hW.alike.2.2 _ _ hkt
    refine ⟨_, hW.noted hd hopen (State.rightAt_cls hlx), fun P E d acts => ?_⟩
    have h9 := tx_row (t := suf) (P := P) (E := E) (d := d) (acts := acts) hx h0 (hW.classLinks hlx) hcell hobj ⟨k0', hk0'⟩ ⟨kt', hkt'⟩ (b := true) (by rw [hW.alike.assignable]; exact hax)
    rw [if_pos rfl] at h9
    exact h9
  | z :: pre, S, hW, hcell, hp => by
    obtain ⟨hz, hz0, cz, hlz, haz⟩ := hp z List.mem_cons_self
    obtain ⟨k0, hk1⟩ := id hk0
    obtain ⟨k0', hk0', -⟩ := hW.alike.2.2 _ _ hk1
    obtain ⟨dk, _, _, kt, hd, _, _, _, _, hkt, _, hopen⟩ := hlz.here
    obtain ⟨kt', hkt', -⟩ := hW.alike.2.2 _ _ hkt
    obtain ⟨vm', hW', hq⟩ := tx_rows hobj hk0 hx h0 hlx hax pre (S.setVm (S.vm.noted f.method.cls z.catchType (.cls cz))) (hW.noted hd hopen (State.rightAt_cls hlz)) hcell (fun w hw => hp w (List.mem_cons_of_mem _ hw))
    refine ⟨vm', hW', fun P E d acts => ?_⟩
    have h9 := tx_row (t := pre ++ x :: suf) (P := P) (E := E) (d := d) (acts := acts) hz hz0 (hW.classLinks hlz) hcell hobj ⟨k0', hk0'⟩ ⟨kt', hkt'⟩ (b := false) (by rw [hW.alike.assignable]; exact haz)
    rw [if_neg (by decide)] at h9
    rw [List.cons_append, h9]
    exact hq P E d acts
/-- the machine goes on at the handler -/
theorem tx_caught {tb : Tables} {U target : State} {g : JFrame} {c : Code} {below : List Frame} (h : At U g.method c below) {pc' : Nat} {vm' : Vm}
    (hfind : ∀ (P : Handler → Pre) (E : CtlPost) (d : Bool) (acts : List Action), wp (findHandler g q) P E e d acts ((U.setTop g).pushFrame (.throwing q)) ↔ P (.found pc') d acts (((U.setTop g).pushFrame (.throwing q)).setVm vm'))
    (hrest : Steps tb e below ((U.setVm vm').setTop { g with pc := pc', stack := [.ref q] }) target) : Steps tb e below ((U.setTop g).pushFrame (.throwing q)) target := by
  obtain ⟨hgo, hw⟩ := h.throwing q
  refine Steps.head hgo hw ?_
  rw [stepThread_throwing (frames_entered h.top _)]
  have hstep : (stepThrowing e ((U.setTop g).pushFrame (.throwing q)) q (.java g :: U.frames.tail)).1 = (((U.setTop g).pushFrame (.throwing q)).setVm vm').setFrames (.java { g with pc := pc', stack := [.ref q] } :: U.frames.tail) := by
    simp only [stepThrowing, searchFrame, vmDo]
    generalize hr : Sem.go _ e false [] _ = res
    obtain ⟨as, rfl, ha⟩ := Sem.eq_ok_of hr (a := Handler.found pc') (s' := ((U.setTop g).pushFrame (.throwing q)).setVm vm') (acts' := []) (by simp [hfind _ _ _ _])
    rfl
  rw [hstep]
  obtain ⟨g₀, hg⟩ := Option.isSome_iff_exists.mp h.top
  obtain ⟨r, hr⟩ := State.topJava?_eq_some.mp hg
  have hr' : (U.setVm vm').frames = .java g₀ :: r := hr
  rw [State.setTop_of_frames _ hr'] at hrest
  have e1 : ((U.setTop g).pushFrame (.throwing q)).setVm vm' = (U.setVm vm').setFrames (.throwing q :: .java g :: r) := by
    rw [State.pushFrame, State.frames_setTop _ hr, State.setTop_of_frames _ hr, State.setFrames_setFrames]
    rfl
  rw [e1, State.setFrames_setFrames, hr]
  exact hrest
end TXE
section TXF
variable {p : Program} {l : Launch} {e : Env} {R : Room} {s : State} {m : MethodId} {args : Array Value} {below : List Frame} {meth : Method} {c : Code} {H : Heap} {locs : List Loc} {cells slots : Nat} {Q : State → Prop} {pc : Nat} {ls : Array Slot} {rest : List Value}
/-- caught by the row x; the rows ahead name classes that the thrown isn't of -/
theorem tx_catch {own name E : String} {ce : Cell} {q : Addr} (hown : s.vm.findClass own = some m.cls) (pre : List ExceptionTableEntry) (x : ExceptionTableEntry) (suf : List ExceptionTableEntry) (hsplit : c.exceptionTable.toList = pre ++ x :: suf)
    (hpass : ∀ z ∈ pre, covers z pc = true ∧ z.catchType ≠ 0 ∧ ∃ nm : String, (Cond.classLink own z.catchType nm).before args s = true ∧ va_Nc E nm s) (hx : covers x pc = true) (h0 : x.catchType ≠ 0)
    (hlink : (Cond.classLink own x.catchType name).before args s = true) (hcast : (Cond.castable E name).before args s = true) (hcell : H[q]? = some ce) (hv : ce.vm = .none) (hcl : s.vm.findClass E = some ce.cls)
    (kk : W p l e R s m args below meth c H locs cells slots Q (F0 m x.handlerPc ls [.ref q])) : tx_W p l e R s m args below meth c H locs cells slots Q (F0 m pc ls rest) q := by
  intro T hT X
  have hpl : e.platform.magicAccessors = ({} : Platform).magicAccessors := by rw [X.admits.platform]
  obtain ⟨c3, c4, hc3, hc4, hasg⟩ := Cond.castable_spec hcast
  cases Option.some.inj (hc3.symm.trans hcl)
  obtain ⟨c5, hc5, hl5⟩ := Cond.classLink_spec hown hlink e.platform hpl
  cases Option.some.inj (hc4.symm.trans hc5)
  obtain ⟨vm', hW', hq⟩ := tx_rows (e := e) (f := F0 m pc ls rest) (q := q) (s0 := s) (cell := ce) (fun k h => by rw [hv] at h; cases h) (Vm.classAt_of_findClass hcl) (x := x) (suf := suf) hx h0 hl5 hasg pre ((T.setTop (F0 m pc ls rest)).pushFrame (.throwing q)) X.warmed (by show T.heap[q]? = _; rw [hT]; exact hcell)
    (fun z hz => by
      obtain ⟨g1, g2, nm, g3, a8, b8, g4, g5, g6⟩ := hpass z hz
      obtain ⟨c6, hc6, hl6⟩ := Cond.classLink_spec hown g3 e.platform hpl
      cases Option.some.inj (g4.symm.trans hcl)
      cases Option.some.inj (g5.symm.trans hc6)
      exact ⟨g1, g2, _, hl6, g6⟩)
  obtain ⟨t, a1, b1⟩ := kk (T.setVm vm') hT (X.noted hW')
  refine ⟨t, tx_caught X.here (pc' := x.handlerPc) (vm' := vm') (fun P E d acts => ?_) a1, b1⟩
  rw [Jvm.W.findHandler_eq (s := (T.setTop (F0 m pc ls rest)).pushFrame (.throwing q)) (f := F0 m pc ls rest) X.method' X.code, hsplit]
  exact hq P E d acts
end TXF
end
section
/-! Numbers, booleans and bits, and what a call on the grants answers (ga_): class and reference are both tied to these. The rows bt, b_ .. are those of kit/laws/BITS.to-paste. -/
def bt (x : Int32) (i : Nat) : Bool := x.toBitVec.getLsbD i
theorem b_ext {x y : Int32} (h : ∀ i, i < 32 → bt x i = bt y i) : x = y := Int32.toBitVec_inj.mp (BitVec.eq_of_getLsbD_eq (fun i hi => h i hi))
theorem b_and (x y : Int32) (i : Nat) : bt (x &&& y) i = (bt x i && bt y i) := by unfold bt; rw [Int32.toBitVec_and, BitVec.getLsbD_and]
theorem b_xor (x y : Int32) (i : Nat) : bt (x ^^^ y) i = (bt x i ^^ bt y i) := by unfold bt; rw [Int32.toBitVec_xor, BitVec.getLsbD_xor]
theorem b_big {x : Int32} {i : Nat} (h : 32 ≤ i) : bt x i = false := BitVec.getLsbD_of_ge _ _ h
theorem b_m1 : ∀ i, i < 32 → bt (-1) i = true := by decide +kernel
theorem b_0 (i : Nat) : bt 0 i = false := BitVec.getLsbD_zero
theorem b_1 : ∀ i, i < 32 → bt 1 i = decide (i = 0) := by decide +kernel
theorem s_l : ∀ n, n < 32 → ((nI n &&& 31).toBitVec.smod 32).toNat = n := by decide +kernel
theorem b_sshr (n : Nat) (hn : n < 32) (x : Int32) {i : Nat} (hi : i < 32) : bt (x >>> (nI n &&& 31)) i = if n + i < 32 then bt x (n + i) else bt x 31 := by
  unfold bt
  rw [Int32.toBitVec_shiftRight]
  show (x.toBitVec.sshiftRight ((nI n &&& 31).toBitVec.smod 32).toNat).getLsbD i = _
  rw [s_l n hn, BitVec.getLsbD_sshiftRight, BitVec.msb_eq_getLsbD_last]
  simp [hi]
/-- bit k of x, as the reference asks for it -/
theorem bq_bit (x : Int32) {k : Nat} (hk : k < 32) : (x >>> (nI k &&& 31)) &&& 1 = if bt x k = true then 1 else 0 := by
  apply b_ext
  intro i hi
  rw [b_and, b_1 i hi]
  by_cases h0 : i = 0
  · subst h0
    rw [b_sshr k hk x hi, if_pos (by omega), Nat.add_zero]
    cases bt x k <;> rfl
  · have h1 : decide (i = 0) = false := decide_eq_false h0
    rw [h1, Bool.and_false]
    cases bt x k
    · exact (b_0 i).symm
    · show false = bt 1 i
      rw [b_1 i hi, h1]
theorem bq_1 (x : Int32) {k : Nat} (hk : k < 32) : (x >>> (nI k &&& 31)) &&& 1 = 1 ↔ bt x k = true := by
  rw [bq_bit x hk]
  cases bt x k <;> decide
theorem bq_0 (x : Int32) {k : Nat} (hk : k < 32) : (x >>> (nI k &&& 31)) &&& 1 = 0 ↔ bt x k = false := by
  rw [bq_bit x hk]
  cases bt x k <;> decide
def bi (b : Bool) : Int32 := if b = true then 1 else 0
theorem bi_0 {b : Bool} (h : bi b = 0) : b = false := by
  cases b
  · rfl
  · exact absurd h (by decide)
theorem bi_n {b : Bool} (h : ¬ bi b = 0) : b = true := by
  cases b
  · exact absurd (by decide) h
  · rfl
theorem bi_nar (b : Bool) : narrow .boolean (.int (bi b)) = .int (bi b) := by cases b <;> rfl
theorem bi_vp (b : Bool) : vp_nar .boolean (bi b) = bi b := by cases b <;> rfl
def ub (g : Nat → Bool) (k : Nat) (b : Bool) : Nat → Bool := fun j => if j = k then b else g j
theorem ub_upd (g : Nat → Bool) (k : Nat) (b : Bool) : upd (fun j => bi (g j)) k (vp_nar .boolean (bi b)) = fun j => bi (ub g k b j) := by
  rw [bi_vp]
  funext j
  unfold upd ub
  by_cases h : j = k <;> simp [h]
def un (x : Int32) : Nat := x.toBitVec.toNat
def uw (x : Int32) : Int64 := lN (un x)
theorem un_lt (x : Int32) : un x < 4294967296 := x.toBitVec.isLt
theorem nI_un (x : Int32) : nI (un x) = x := by
  apply Int32.toBitVec_inj.1
  show BitVec.ofNat 32 x.toBitVec.toNat = x.toBitVec
  simp
theorem un_inj {x y : Int32} (h : un x = un y) : x = y := by rw [← nI_un x, ← nI_un y, h]
theorem un_add (x y : Int32) : un (x + y) = (un x + un y) % 4294967296 := by
  unfold un
  rw [Int32.toBitVec_add, BitVec.toNat_add]
theorem un_int (x : Int32) : x.toInt = if un x < 2147483648 then (un x : Int) else (un x : Int) - 4294967296 := by
  have h : x.toInt = x.toBitVec.toInt := rfl
  rw [h, BitVec.toInt_eq_toNat_cond]
  unfold un
  by_cases h2 : 2 * x.toBitVec.toNat < 2 ^ 32
  · rw [if_pos h2, if_pos (by omega)]
  · rw [if_neg h2, if_neg (by omega)]
    rfl
theorem uw_upd (f : Nat → Int32) (k : Nat) (x : Int32) : vp_updL (fun j => uw (f j)) k (uw x) = fun j => uw (upd f k x j) := by
  funext j
  unfold vp_updL upd
  by_cases h : j = k <;> simp [h]
theorem uw_and (x : Int32) : x.toInt64 &&& 4294967295 = uw x := by
  apply Int64.toBitVec_inj.1
  rw [Int64.toBitVec_and]
  show x.toBitVec.signExtend 64 &&& 4294967295#64 = BitVec.ofNat 64 x.toBitVec.toNat
  apply BitVec.eq_of_getLsbD_eq
  intro i hi
  have hm : (4294967295#64).getLsbD i = decide (i < 32) := (by decide +kernel : ∀ i, i < 64 → (4294967295#64).getLsbD i = decide (i < 32)) i hi
  rw [BitVec.getLsbD_and, hm, BitVec.getLsbD_signExtend, BitVec.getLsbD_ofNat, BitVec.testBit_toNat]
  by_cases h : i < 32
  · simp [h, hi]
  · simp [h, hi]
    exact BitVec.getLsbD_of_ge _ _ (by omega)
theorem uw_i (x : Int32) : (uw x).toInt32 = x := by
  unfold uw
  rw [lN_i, nI_un]
theorem uw_le (x y : Int32) : uw x ≤ uw y ↔ un x ≤ un y := pk_lLE (Nat.lt_trans (un_lt x) (by decide)) (Nat.lt_trans (un_lt y) (by decide))
theorem uw_lt (x y : Int32) : uw x < uw y ↔ un x < un y := pk_lLT (Nat.lt_trans (un_lt x) (by decide)) (Nat.lt_trans (un_lt y) (by decide))
/-- a sum of two, wrapped -/
theorem uw_sum (x y : Int32) : (uw x + uw y) - (uw x + uw y) / 4294967296 * 4294967296 = uw (x + y) := by
  have h1 := un_lt x
  have h2 := un_lt y
  unfold uw
  rw [lN_add, un_add]
  exact pk_lRem (b := 4294967296) (by omega) (by decide) (by decide)
theorem wd_0 (x : Int32) : x.toInt64 / 4294967296 = 0 := by
  apply Int64.toInt_inj.1
  have h1 : x.toInt64.toInt = x.toInt := by simp
  have h2 : (4294967296 : Int64).toInt = 4294967296 := by decide
  have h3 : x.toInt.tdiv 4294967296 = 0 := by
    have hu := un_int x
    have hl := un_lt x
    rcases Int.le_total 0 x.toInt with h | h
    · exact Int.tdiv_eq_zero_of_lt h (by split at hu <;> omega)
    · rw [show x.toInt = -(-x.toInt) by omega, Int.neg_tdiv, Int.tdiv_eq_zero_of_lt (by omega) (by split at hu <;> omega)]
      rfl
  rw [Int64.toInt_div, h1, h2, h3]
  decide
theorem wd_p (x : Int32) : x.toInt64 + 4294967296 = lN (if un x < 2147483648 then un x + 4294967296 else un x) := by
  apply Int64.toInt_inj.1
  have hu := un_int x
  have hl := un_lt x
  have h1 : x.toInt64.toInt = x.toInt := by simp
  have h2 : (4294967296 : Int64).toInt = 4294967296 := by decide
  rw [pk_lT (by split <;> omega), Int64.toInt_add, h1, h2, hu]
  split
  · rw [Int.bmod_def]
    split <;> omega
  · rw [Int.bmod_def]
    split <;> omega
/-- 'wide' of the reference -/
theorem uw_wide (x : Int32) : (x.toInt64 - x.toInt64 / 4294967296 * 4294967296 + 4294967296) - (x.toInt64 - x.toInt64 / 4294967296 * 4294967296 + 4294967296) / 4294967296 * 4294967296 = uw x := by
  have hl := un_lt x
  rw [wd_0, Int64.zero_mul, Int64.sub_zero, wd_p]
  have h := pk_lRem (a := if un x < 2147483648 then un x + 4294967296 else un x) (b := 4294967296) (by split <;> omega) (by decide) (by decide)
  refine h.trans ?_
  unfold uw
  congr 1
  split <;> omega
/-! what a call answers, of the grants' parts A B T P Y G -/
def ga_in (b t a : Int32) (n : Nat) : Bool := decide (un b ≤ un a) && decide (un a + n ≤ un t)
def ga_pm (w p : Int32) : Bool := decide (w &&& (p ^^^ (-1)) = 0)
def ga_acc (B T P Y : Nat → Int32) (G : Nat → Bool) (i : Nat) (a : Int32) (n : Nat) (w : Int32) : Int32 :=
  if G i = false then 1 else if ¬ Y i = 0 then 2 else if ga_pm w (P i) = false then 3 else if ga_in (B i) (T i) a n = true then 0 else 4
def ga_seal (A B T P Y : Nat → Int32) (G : Nat → Bool) (s t : Nat) : Int32 :=
  if G s = false ∨ G t = false then 1 else if ¬ Y s = 0 then 2 else if ¬ ga_acc B T P Y G t (A t) 1 32 = 0 then ga_acc B T P Y G t (A t) 1 32 else if 1 ≤ A t ∧ A t ≤ 65535 then 0 else 4
def ga_open (A B T P Y : Nat → Int32) (G : Nat → Bool) (s t : Nat) : Int32 :=
  if G s = false ∨ G t = false then 1 else if Y s = 0 then 2 else if ¬ ga_acc B T P Y G t (A t) 1 64 = 0 then ga_acc B T P Y G t (A t) 1 64 else if A t = Y s then 0 else 4
def ga_with (B T P : Nat → Int32) (G : Nat → Bool) (r s : Nat) : Bool := G r && (G s && (decide (un (B s) ≤ un (B r)) && (decide (un (T r) ≤ un (T s)) && ga_pm (P r) (P s))))
def ga_part (A B T P Y : Nat → Int32) (G : Nat → Bool) (r : Nat) (w : Int32) : Int32 :=
  if w = 0 then A r else if w = 1 then B r else if w = 2 then T r else if w = 3 then P r else if w = 4 then Y r else bi (G r)
def ga_cnt (B T P Y : Nat → Int32) (G : Nat → Bool) (a w : Int32) : Nat → Int32
  | 0 => 0
  | k + 1 => if ga_acc B T P Y G k a 1 w = 0 then ga_cnt B T P Y G a w k + 1 else ga_cnt B T P Y G a w k
end
section
/-! The rows by which methods here call each other. gw: the words of the tables that hold at every time; every method's words are its own code and gw. -/
def gw : List Cond := lw_tbl.filter goodWord
theorem gw_in {w : Cond} (h : w ∈ lw_tbl) (hg : goodWord w = true) : w ∈ gw := List.mem_filter.mpr ⟨h, hg⟩
theorem gw_tbl {w : Cond} (h : w ∈ gw) : w ∈ lw_tbl := (List.mem_filter.mp h).1
theorem gw_ok {w : Cond} (h : w ∈ gw) : w ∈ gw ∧ ((w.onTables && w.keeps) = true ∨ ∃ ty, w = .arrayClass ty) := ⟨h, good_of_word (List.mem_filter.mp h).2⟩
theorem gw_V {own C : String} {idx maxL : Nat} {y : MethodName} {b : ByteArray} {ret : Option FieldType} (h1 : Cond.methodLink own idx y ∈ gw) (h2 : Cond.instanceMethod y ∈ gw) (h3 : Cond.selects C y y ∈ gw) (h4 : Cond.initialized C ∈ gw) (h5 : Cond.code y b maxL ret ∈ gw) : GoodIn gw (wsV own idx C y (Cond.code y b maxL ret :: gw)) := by
  intro w hw
  simp only [wsV, List.cons_append, List.nil_append, List.mem_cons] at hw
  rcases hw with rfl | rfl | rfl | rfl | rfl | hw
  · exact gw_ok h1
  · exact gw_ok h2
  · exact gw_ok h3
  · exact gw_ok h4
  · exact gw_ok h5
  · exact gw_ok hw
theorem gw_S {own : String} {idx maxL : Nat} {y : MethodName} {b : ByteArray} {ret : Option FieldType} (h1 : Cond.methodLink own idx y ∈ gw) (h2 : Cond.static y ∈ gw) (h4 : Cond.initialized own ∈ gw) (h5 : Cond.code y b maxL ret ∈ gw) : GoodIn gw (wsS own idx y (Cond.code y b maxL ret :: gw)) := by
  intro w hw
  simp only [wsS, List.cons_append, List.nil_append, List.mem_cons] at hw
  rcases hw with rfl | rfl | rfl | rfl | hw
  · exact gw_ok h1
  · exact gw_ok h2
  · exact gw_ok h4
  · exact gw_ok h5
  · exact gw_ok hw
def Stb (B : State → Prop) : Prop := ∀ U V : State, V.heap = U.heap → U.vm.Alike V.vm → B U → B V
theorem kb_blind {av : List Value} {B : State → Prop} (h : Stb B) : FrameBlind (va_Pc av B) := fun a U g mk q => ⟨q.1, h U _ rfl (Vm.Alike.refl U.vm) q.2⟩
theorem kb_pre {av : List Value} {B : State → Prop} {H : Heap} {s : State} (h : Stb B) (hB : B ({ s with heap := H } : State)) : ∀ U : State, U.heap = H → s.WarmedH U.vm → va_Pc av B av.toArray U := fun U hU hW => ⟨rfl, h ({ s with heap := H } : State) U hU (show s.vm.Alike U.vm from hW.alike) hB⟩
/-- a world, read -/
def rB (D : va_G) (cl : List vw_C) (ws : va_W) (tys : List (ClassId × FieldType)) (U : State) : Prop := va_P D cl ws U.heap ∧ va_K D cl tys U
/-- a world, to be written -/
def kB (D : va_G) (cl : List vw_C) (ws : va_W) (tys : List (ClassId × FieldType)) (sz : Nat) (U : State) : Prop := U.heap.size = sz ∧ va_P D cl ws U.heap ∧ va_K D cl tys U ∧ va_D (fun _ => True) ws
theorem rB_stb {D : va_G} {cl : List vw_C} {ws : va_W} {tys : List (ClassId × FieldType)} : Stb (rB D cl ws tys) := fun U V h1 h2 q => ⟨by rw [h1]; exact q.1, va_K.moved h2 q.2⟩
theorem kB_stb {D : va_G} {cl : List vw_C} {ws : va_W} {tys : List (ClassId × FieldType)} {sz : Nat} : Stb (kB D cl ws tys sz) := fun U V h1 h2 q => ⟨by rw [h1]; exact q.1, by rw [h1]; exact q.2.1, va_K.moved h2 q.2.2.1, q.2.2.2⟩
theorem tt_stb : Stb (fun _ => True) := fun _ _ _ _ _ => trivial
/-- the end of a method that wrote: its answer, its world -/
def kQ (r : Option Value) (D : va_G) (cl : List vw_C) (ws : va_W) (A : Nat → Prop) : Array Value → State → Outcome → State → Prop := fun _ st oc t => oc = .returned r ∧ va_P D cl ws t.heap ∧ va_D A ws ∧ va_F A st t
theorem kw_fm {α : Type} {ws wc : List α} {is : List Nat} (h : is.map (fun i => ws[i]?) = wc.map some) : is.filterMap (fun i => ws[i]?) = wc := by
  have h1 : is.filterMap (fun i => ws[i]?) = (is.map (fun i => ws[i]?)).filterMap id := by rw [List.filterMap_map]; rfl
  rw [h1, h, List.filterMap_map]
  show wc.filterMap some = wc
  simp
theorem kt_rows : ∀ (l : List ExceptionTableEntry) (hs : List (Nat × Nat × Nat × Nat)), l.map (fun h => (h.startPc, h.endPc, h.handlerPc, h.catchType)) = hs → l = hs.map (fun q => ⟨q.1, q.2.1, q.2.2.1, q.2.2.2⟩)
  | [], hs, h => by cases h; rfl
  | x :: l, hs, h => by
    cases h
    rw [List.map_cons, List.map_cons, ← kt_rows l _ rfl]
section KC
variable {p : Program} {l : Launch} {e : Env} {R : Room} {s : State} {m : MethodId} {args : Array Value} {below : List Frame} {meth : Method} {c : Code} {H : Heap} {locs : List Loc} {cells slots : Nat} {Q : State → Prop}
variable {y : MethodName} {bytes cc : ByteArray} {maxL nL mc ms index : Nat} {ret : Option FieldType} {rm : Room} {own C : String} {b : Addr} {As rest st0 : List Value} {pc : Nat} {ls : Array Slot} {B : State → Prop} {r : Value} {r9 : Option Value}
variable {D : va_G} {cl : List vw_C} {A0 : Nat → Prop} {ws wc wr w1 : va_W} {tys tyc : List (ClassId × FieldType)}
/-- a method of this or another object that only reads -/
theorem kr_V (n : Nat) (hx : p.tables.exec = Jvm.exec) (hb : c.code = cc) (hml : c.maxLocals = nL) (hown : s.vm.findClass own = some m.cls) (hts : ∀ w ∈ gw, w.before args s = true) (hl : ls.size = nL)
    (hM : Met l y (Cond.code y bytes maxL ret :: gw) rm (va_Pc (.ref b :: As) B) (k2_QcV r) 0 0 (fun _ => False)) (hst : Stb B) (hB : B ({ s with heap := H } : State)) (hG : GoodIn gw (wsV own index C y (Cond.code y bytes maxL ret :: gw)))
    (hd : y.cls = C ∧ y.cls ≠ "java/lang/invoke/MethodHandle" ∧ y.cls ≠ "java/lang/invoke/VarHandle" ∧ (parseMethodDescriptor y.desc).map (fun d => d.parameters.length) = some n) (hrm : rm.cells = 0 ∧ rm.slots = 0) (hR : rm.frames + 1 ≤ R.frames ∧ 8 + (maxL + 11) + rm.locals ≤ R.locals)
    (hrecv : ∃ cellB : Cell, H[b]? = some cellB ∧ cellB.vm.isStatics = false ∧ s.vm.findClass C = some cellB.cls) (hn : As.length = n) (hstack : st0 = As.reverse ++ .ref b :: rest) (hroom : (rest.map fun v => v.category).sum ≤ 8) (hdg : decode cc pc = .ok (.invokevirtual index, 3)) (hc : cells ≤ R.cells ∧ slots ≤ R.slots)
    (kk : W p l e R s m args below meth c H locs cells slots Q (F0 m (pc + 3) ls (r :: rest))) : W p l e R s m args below meth c H locs cells slots Q (F0 m pc ls st0) :=
  W.callV (W.runV ⟨hx, hb, hml, hown, hts⟩ hM (cwV n hts hG rfl hrm.1 hrm.2 hd hR) ⟨kb_blind hst, hrecv, kb_pre hst hB⟩ rfl hn hl hstack (lv_room hroom) hdg hc) kk
/-- a static method that only reads -/
theorem kr_S (n : Nat) (hx : p.tables.exec = Jvm.exec) (hb : c.code = cc) (hml : c.maxLocals = nL) (hown : s.vm.findClass own = some m.cls) (hts : ∀ w ∈ gw, w.before args s = true) (hl : ls.size = nL)
    (hM : Met l y (Cond.code y bytes maxL ret :: gw) rm (va_Pc As B) (k2_QcV r) 0 0 (fun _ => False)) (hst : Stb B) (hB : B ({ s with heap := H } : State)) (hG : GoodIn gw (wsS own index y (Cond.code y bytes maxL ret :: gw)))
    (hd : y.cls = own ∧ y.cls ≠ "java/lang/invoke/MethodHandle" ∧ y.cls ≠ "java/lang/invoke/VarHandle" ∧ (parseMethodDescriptor y.desc).map (fun d => d.parameters.length) = some n) (hrm : rm.cells = 0 ∧ rm.slots = 0) (hR : rm.frames + 1 ≤ R.frames ∧ 8 + (maxL + 11) + rm.locals ≤ R.locals)
    (hn : As.length = n) (hstack : st0 = As.reverse ++ rest) (hroom : (rest.map fun v => v.category).sum ≤ 8) (hdg : decode cc pc = .ok (.invokestatic index, 3)) (hc : cells ≤ R.cells ∧ slots ≤ R.slots)
    (kk : W p l e R s m args below meth c H locs cells slots Q (F0 m (pc + 3) ls (r :: rest))) : W p l e R s m args below meth c H locs cells slots Q (F0 m pc ls st0) :=
  W.callV (W.runS ⟨hx, hb, hml, hown, hts⟩ hM (cwS n hts hG rfl hrm.1 hrm.2 hd hR) ⟨kb_blind hst, kb_pre hst hB⟩ rfl hn hl hstack (lv_room hroom) hdg hc) kk
theorem kw_go {a : Array Value} (hr : va_Run p l e R s m args below meth c H locs cells slots mc ms (F0 m pc ls st0) rest (kQ r9 D cl w1 (va_A wc H.size) a) (va_A wc H.size))
    (hP : va_P D cl ws H) (hD : va_D A0 ws) (hS : va_S A0 s.heap H locs) (hA : ∀ q, s.heap.size ≤ q → A0 q) (isC isR : List Nat) (hC : isC.map (fun i => ws[i]?) = wc.map some) (hR : isR.map (fun i => ws[i]?) = wr.map some) (hn : va_nd isR = true) (hdis : ∀ i ∈ isR, i ∉ isC)
    (kk : ∀ (H1 : Heap) (locs1 : List Loc), va_P D cl (wr ++ w1) H1 → va_D A0 (wr ++ w1) → va_S A0 s.heap H1 locs1 → W p l e R s m args below meth c H1 locs1 (cells + mc) (slots + ms) Q (F0 m (pc + 3) ls (r9.toList ++ rest))) : W p l e R s m args below meth c H locs cells slots Q (F0 m pc ls st0) := by
  have hF := va_free (wc := wc) hD hS hA isC hC
  intro T hT X
  obtain ⟨v, st₀, t, T', L, h0, X', hL, e1, e2, ⟨hv, hb1, hb2, hz, hk⟩, st⟩ := hr T hT X
  cases hv
  rw [h0] at hz hk
  have hj := va_join (wr := wr) (w1 := w1) (H1 := T'.heap) hP hD isC isR hC hR hn hdis (fun q h1 h2 => by rw [e1]; exact hk q h1 h2) hF (by rw [e1]; exact hb1) hb2
  obtain ⟨t2, a1, b1⟩ := kk T'.heap (locs ++ L) hj.1 hj.2 ⟨Nat.le_trans hS.1 (by rw [e1]; exact hz), fun q h1 h2 => by
      rw [e1, hk q (Nat.lt_of_lt_of_le h1 hS.1) (fun z => h2 (hF q z))]
      exact hS.2.1 q h1 h2, fun q hq => by
      rcases List.mem_append.mp hq with h | h
      · exact hS.2.2 q h
      · exact hF _ (hL q h)⟩ T' rfl X'
  exact ⟨t2, st t2 a1, b1⟩
/-- a method that writes in the cells wc of the world ws; w1 stands there behind it -/
theorem kw_V (n : Nat) (isC isR : List Nat) (hx : p.tables.exec = Jvm.exec) (hb : c.code = cc) (hml : c.maxLocals = nL) (hown : s.vm.findClass own = some m.cls) (hts : ∀ w ∈ gw, w.before args s = true) (hl : ls.size = nL)
    (hP : va_P D cl ws H) (hD : va_D A0 ws) (hS : va_S A0 s.heap H locs) (hA : ∀ q, s.heap.size ≤ q → A0 q) (hK : va_K D cl tyc s)
    (hM : Met l y (Cond.code y bytes maxL ret :: gw) rm (va_Pc (.ref b :: As) (kB D cl wc tyc H.size)) (kQ r9 D cl w1 (va_A wc H.size)) mc ms (va_A wc H.size)) (hG : GoodIn gw (wsV own index C y (Cond.code y bytes maxL ret :: gw)))
    (hd : y.cls = C ∧ y.cls ≠ "java/lang/invoke/MethodHandle" ∧ y.cls ≠ "java/lang/invoke/VarHandle" ∧ (parseMethodDescriptor y.desc).map (fun d => d.parameters.length) = some n) (hrm : rm.cells = mc ∧ rm.slots = ms) (hR : rm.frames + 1 ≤ R.frames ∧ 8 + (maxL + 11) + rm.locals ≤ R.locals)
    (hrecv : ∃ cellB : Cell, H[b]? = some cellB ∧ cellB.vm.isStatics = false ∧ s.vm.findClass C = some cellB.cls) (hn : As.length = n) (hstack : st0 = As.reverse ++ .ref b :: rest) (hroom : (rest.map fun v => v.category).sum ≤ 8) (hdg : decode cc pc = .ok (.invokevirtual index, 3)) (hc : cells + mc ≤ R.cells ∧ slots + ms ≤ R.slots)
    (hC : isC.map (fun i => ws[i]?) = wc.map some) (hR2 : isR.map (fun i => ws[i]?) = wr.map some) (hnd : va_nd isC = true ∧ va_nd isR = true) (hdis : ∀ i ∈ isR, i ∉ isC)
    (kk : ∀ (H1 : Heap) (locs1 : List Loc), va_P D cl (wr ++ w1) H1 → va_D A0 (wr ++ w1) → va_S A0 s.heap H1 locs1 → W p l e R s m args below meth c H1 locs1 (cells + mc) (slots + ms) Q (F0 m (pc + 3) ls (r9.toList ++ rest))) : W p l e R s m args below meth c H locs cells slots Q (F0 m pc ls st0) :=
  kw_go (va_runV ⟨hx, hb, hml, hown, hts⟩ hM (cwV n hts hG rfl hrm.1 hrm.2 hd hR) ⟨kb_blind kB_stb, hrecv, kb_pre kB_stb ⟨rfl, hP.sub isC (kw_fm hC), va_K.moved (Vm.Alike.refl _) hK, (hD.sub isC hnd.1 hC).weaken (fun _ _ _ _ => trivial)⟩⟩ rfl hn hl hstack (lv_room hroom) hdg hc) hP hD hS hA isC isR hC hR2 hnd.2 hdis kk
theorem kw_S (n : Nat) (isC isR : List Nat) (hx : p.tables.exec = Jvm.exec) (hb : c.code = cc) (hml : c.maxLocals = nL) (hown : s.vm.findClass own = some m.cls) (hts : ∀ w ∈ gw, w.before args s = true) (hl : ls.size = nL)
    (hP : va_P D cl ws H) (hD : va_D A0 ws) (hS : va_S A0 s.heap H locs) (hA : ∀ q, s.heap.size ≤ q → A0 q) (hK : va_K D cl tyc s)
    (hM : Met l y (Cond.code y bytes maxL ret :: gw) rm (va_Pc As (kB D cl wc tyc H.size)) (kQ r9 D cl w1 (va_A wc H.size)) mc ms (va_A wc H.size)) (hG : GoodIn gw (wsS own index y (Cond.code y bytes maxL ret :: gw)))
    (hd : y.cls = own ∧ y.cls ≠ "java/lang/invoke/MethodHandle" ∧ y.cls ≠ "java/lang/invoke/VarHandle" ∧ (parseMethodDescriptor y.desc).map (fun d => d.parameters.length) = some n) (hrm : rm.cells = mc ∧ rm.slots = ms) (hR : rm.frames + 1 ≤ R.frames ∧ 8 + (maxL + 11) + rm.locals ≤ R.locals)
    (hn : As.length = n) (hstack : st0 = As.reverse ++ rest) (hroom : (rest.map fun v => v.category).sum ≤ 8) (hdg : decode cc pc = .ok (.invokestatic index, 3)) (hc : cells + mc ≤ R.cells ∧ slots + ms ≤ R.slots)
    (hC : isC.map (fun i => ws[i]?) = wc.map some) (hR2 : isR.map (fun i => ws[i]?) = wr.map some) (hnd : va_nd isC = true ∧ va_nd isR = true) (hdis : ∀ i ∈ isR, i ∉ isC)
    (kk : ∀ (H1 : Heap) (locs1 : List Loc), va_P D cl (wr ++ w1) H1 → va_D A0 (wr ++ w1) → va_S A0 s.heap H1 locs1 → W p l e R s m args below meth c H1 locs1 (cells + mc) (slots + ms) Q (F0 m (pc + 3) ls (r9.toList ++ rest))) : W p l e R s m args below meth c H locs cells slots Q (F0 m pc ls st0) :=
  kw_go (va_runS ⟨hx, hb, hml, hown, hts⟩ hM (cwS n hts hG rfl hrm.1 hrm.2 hd hR) ⟨kb_blind kB_stb, kb_pre kB_stb ⟨rfl, hP.sub isC (kw_fm hC), va_K.moved (Vm.Alike.refl _) hK, (hD.sub isC hnd.1 hC).weaken (fun _ _ _ _ => trivial)⟩⟩ rfl hn hl hstack (lv_room hroom) hdg hc) hP hD hS hA isC isR hC hR2 hnd.2 hdis kk
/-- a static method with a table of handlers -/
theorem kw_SW {hh : List (Nat × Nat × Nat × Nat)} (n : Nat) (isC isR : List Nat) (hx : p.tables.exec = Jvm.exec) (hb : c.code = cc) (hml : c.maxLocals = nL) (hown : s.vm.findClass own = some m.cls) (hts : ∀ w ∈ gw, w.before args s = true) (hl : ls.size = nL)
    (hP : va_P D cl ws H) (hD : va_D A0 ws) (hS : va_S A0 s.heap H locs) (hA : ∀ q, s.heap.size ≤ q → A0 q) (hK : va_K D cl tyc s)
    (hM : Met l y (Cond.codeWith y bytes maxL ret hh :: gw) rm (va_Pc As (kB D cl wc tyc H.size)) (kQ r9 D cl w1 (va_A wc H.size)) mc ms (va_A wc H.size)) (hl1 : Cond.methodLink own index y ∈ gw) (hl2 : Cond.static y ∈ gw) (hl3 : Cond.initialized y.cls ∈ gw) (hl4 : Cond.codeWith y bytes maxL ret hh ∈ gw)
    (hd : (y.cls ≠ "java/lang/invoke/MethodHandle" ∧ y.cls ≠ "java/lang/invoke/VarHandle") ∧ (parseMethodDescriptor y.desc).map (fun d => d.parameters.length) = some n) (hrm : rm.cells = mc ∧ rm.slots = ms) (hR : rm.frames + 1 ≤ R.frames ∧ 8 + (maxL + 11) + rm.locals ≤ R.locals)
    (hn : As.length = n) (hstack : st0 = As.reverse ++ rest) (hroom : (rest.map fun v => v.category).sum ≤ 8) (hdg : decode cc pc = .ok (.invokestatic index, 3)) (hc : cells + mc ≤ R.cells ∧ slots + ms ≤ R.slots)
    (hC : isC.map (fun i => ws[i]?) = wc.map some) (hR2 : isR.map (fun i => ws[i]?) = wr.map some) (hnd : va_nd isC = true ∧ va_nd isR = true) (hdis : ∀ i ∈ isR, i ∉ isC)
    (kk : ∀ (H1 : Heap) (locs1 : List Loc), va_P D cl (wr ++ w1) H1 → va_D A0 (wr ++ w1) → va_S A0 s.heap H1 locs1 → W p l e R s m args below meth c H1 locs1 (cells + mc) (slots + ms) Q (F0 m (pc + 3) ls (r9.toList ++ rest))) : W p l e R s m args below meth c H locs cells slots Q (F0 m pc ls st0) := by
  refine kw_go (a := As.toArray) ?_ hP hD hS hA isC isR hC hR2 hnd.2 hdis kk
  intro T hT X
  have hpre : ∀ U : State, U.heap = H → s.WarmedH U.vm → va_Pc As (kB D cl wc tyc H.size) As.toArray U := kb_pre kB_stb ⟨rfl, hP.sub isC (kw_fm hC), va_K.moved (Vm.Alike.refl _) hK, (hD.sub isC hnd.1 hC).weaken (fun _ _ _ _ => trivial)⟩
  have hGG : GoodIn gw (Cond.codeWith y bytes maxL ret hh :: gw) := fun w hw => by
    rcases List.mem_cons.mp hw with rfl | hw
    · exact gw_ok hl4
    · exact gw_ok hw
  have hK9 : Back l R p e below s args y 3 8 (PreOf R mc ms (va_Pc As (kB D cl wc tyc H.size))) (PostOf (kQ r9 D cl w1 (va_A wc H.size)) mc ms (va_A wc H.size)) :=
    va_backW (hh := hh) (bytes := bytes) (maxL := maxL) (ret := ret) hM (kb_blind kB_stb) hrm.1 hrm.2 hR.1 hR.2 (pay_in hts hGG) List.mem_cons_self (fun a' U hW => word_at hW (Or.inl (by first | rfl | simp [Cond.onTables, Cond.keeps, Cond.steady])) (hts _ hl3))
  obtain ⟨mk, methM, cM, hnamed, hmethM, -, -, -, -, -, -, hsigM⟩ := Cond.codeWith_spec (hts _ hl4)
  obtain ⟨kP, hkP, -⟩ := className_of_methodNamed hnamed
  have hlen : As.length = methM.sig.parameters.length := by
    have h2 := hd.2
    rw [hsigM] at h2
    rw [hn]
    exact (Option.some.inj h2).symm
  obtain ⟨vm₁, X₁, hstep₁⟩ := X.invokestatic hx hown (hts _ hl1) hnamed hmethM (Cond.static_spec hnamed hmethM (hts _ hl2)) hkP (Cond.initialized_spec (findClass_of_methodNamed hnamed) hkP (hts _ hl3)) hd.1 (g := F0 m pc ls st0) rfl (argsL := As) (rest := rest) hlen hstack (by rw [hb]; exact hdg)
  obtain ⟨v, ⟨U', l2, c2, s2⟩, X', ⟨g', mk', t, L, e1, e2, hq, h1, hL, h2, h3⟩, hsteps⟩ := hK9 m meth c ⟨T.setVm vm₁, locs, cells, slots⟩ (F0 m pc ls rest) (.invokestatic index) mk As.toArray X₁ rfl (hl.trans hml.symm) (by rw [hb]; exact hdg) (lv_room hroom) (X₁.named hnamed) ⟨hc.1, hc.2, hpre (T.setVm vm₁) hT X₁.warmed⟩
  dsimp only [Pt.U, Pt.locs, Pt.cells, Pt.slots] at X' e1 e2 h1 h2 h3 hsteps
  subst h1; subst h2; subst h3
  exact ⟨v, (T.setVm vm₁).calling g' mk' As.toArray, t, U', L, hT, X', hL, e1, e2, hq, fun target h => hstep₁ _ fun acts => by rw [doInvoke_state]; exact hsteps.trans h⟩
end KC
end
section
/-! Names, field tables, the words of the tables by their places, rows that decode each instruction. Laid by program (wip/whole/gen_names.py). -/
abbrev RX : String := "GrantMath"
abbrev RM : String := "GrantMathModel"
abbrev RL : String := "GrantMathLaw"
def TX : u_T := fun k => match k with
  | 0 => (RX, "addresses", "[I", true)
  | 1 => (RX, "bases", "[I", true)
  | 2 => (RX, "tops", "[I", true)
  | 3 => (RX, "permissionSets", "[I", true)
  | 4 => (RX, "types", "[I", true)
  | _ => (RX, "tags", "[Z", true)
def tyX : Nat → FieldType := fun k => match k with
  | 0 => .array .int
  | 1 => .array .int
  | 2 => .array .int
  | 3 => .array .int
  | 4 => .array .int
  | _ => .array .boolean
theorem nmX : ∀ a, a < 6 → ∀ b, b < 6 → a ≠ b → (TX a).2.1 ≠ (TX b).2.1 := by decide +kernel
theorem tyX_ok : ∀ k, k < 6 → parseFieldDescriptor (TX k).2.2.1 = some (tyX k) := by decide +kernel
def TM : u_T := fun k => match k with
  | 0 => (RM, "err", "I", false)
  | 1 => (RM, "address", "[J", true)
  | 2 => (RM, "base", "[J", true)
  | 3 => (RM, "top", "[J", true)
  | 4 => (RM, "permissions", "[I", true)
  | 5 => (RM, "type", "[I", true)
  | _ => (RM, "tag", "[Z", true)
def tyM : Nat → FieldType := fun k => match k with
  | 0 => .int
  | 1 => .array .long
  | 2 => .array .long
  | 3 => .array .long
  | 4 => .array .int
  | 5 => .array .int
  | _ => .array .boolean
theorem nmM : ∀ a, a < 7 → ∀ b, b < 7 → a ≠ b → (TM a).2.1 ≠ (TM b).2.1 := by decide +kernel
theorem tyM_ok : ∀ k, k < 7 → parseFieldDescriptor (TM k).2.2.1 = some (tyM k) := by decide +kernel
abbrev vwCl : List vw_C := [(RX, TX, 6), (RM, TM, 7)]
abbrev yX_init : MethodName := ⟨RX, "<init>", "()V"⟩
abbrev cX_init : ByteArray := prog_1_method_1_code
abbrev yX_root : MethodName := ⟨RX, "root", "(IIII)V"⟩
abbrev cX_root : ByteArray := prog_1_method_2_code
abbrev yX_number : MethodName := ⟨RX, "number", "(II)V"⟩
abbrev cX_number : ByteArray := prog_1_method_3_code
abbrev yX_move : MethodName := ⟨RX, "move", "(III)V"⟩
abbrev cX_move : ByteArray := prog_1_method_4_code
abbrev yX_narrow : MethodName := ⟨RX, "narrow", "(III)Z"⟩
abbrev cX_narrow : ByteArray := prog_1_method_5_code
abbrev yX_restrict : MethodName := ⟨RX, "restrict", "(III)Z"⟩
abbrev cX_restrict : ByteArray := prog_1_method_6_code
abbrev yX_seal : MethodName := ⟨RX, "seal", "(III)I"⟩
abbrev cX_seal : ByteArray := prog_1_method_7_code
abbrev yX_unseal : MethodName := ⟨RX, "unseal", "(III)I"⟩
abbrev cX_unseal : ByteArray := prog_1_method_8_code
abbrev yX_allows : MethodName := ⟨RX, "allows", "(IIII)I"⟩
abbrev cX_allows : ByteArray := prog_1_method_9_code
abbrev yX_within : MethodName := ⟨RX, "within", "(II)Z"⟩
abbrev cX_within : ByteArray := prog_1_method_10_code
abbrev yX_part : MethodName := ⟨RX, "part", "(II)I"⟩
abbrev cX_part : ByteArray := prog_1_method_11_code
abbrev yX_count : MethodName := ⟨RX, "count", "(II)I"⟩
abbrev cX_count : ByteArray := prog_1_method_12_code
abbrev yX_requireGrant : MethodName := ⟨RX, "requireGrant", "(I)V"⟩
abbrev cX_requireGrant : ByteArray := prog_1_method_13_code
abbrev yX_unsigned : MethodName := ⟨RX, "unsigned", "(I)J"⟩
abbrev cX_unsigned : ByteArray := prog_1_method_14_code
abbrev yX_copy : MethodName := ⟨RX, "copy", "(II)V"⟩
abbrev cX_copy : ByteArray := prog_1_method_15_code
abbrev yX_isSealed : MethodName := ⟨RX, "isSealed", "(I)Z"⟩
abbrev cX_isSealed : ByteArray := prog_1_method_16_code
abbrev yX_hasPermissions : MethodName := ⟨RX, "hasPermissions", "(II)Z"⟩
abbrev cX_hasPermissions : ByteArray := prog_1_method_17_code
abbrev yX_isInBounds : MethodName := ⟨RX, "isInBounds", "(IIJ)Z"⟩
abbrev cX_isInBounds : ByteArray := prog_1_method_18_code
abbrev yX_accessCause : MethodName := ⟨RX, "accessCause", "(IIII)I"⟩
abbrev cX_accessCause : ByteArray := prog_1_method_19_code
abbrev yX_sealingCause : MethodName := ⟨RX, "sealingCause", "(II)I"⟩
abbrev cX_sealingCause : ByteArray := prog_1_method_20_code
abbrev yX_unsealingCause : MethodName := ⟨RX, "unsealingCause", "(II)I"⟩
abbrev cX_unsealingCause : ByteArray := prog_1_method_21_code
abbrev yM_init : MethodName := ⟨RM, "<init>", "()V"⟩
abbrev cM_init : ByteArray := prog_3_method_1_code
abbrev yM_thrown : MethodName := ⟨RM, "thrown", "()I"⟩
abbrev cM_thrown : ByteArray := prog_3_method_2_code
abbrev yM_in : MethodName := ⟨RM, "in", "(JJJ)Z"⟩
abbrev cM_in : ByteArray := prog_3_method_3_code
abbrev yM_fails : MethodName := ⟨RM, "fails", "(ZI)Z"⟩
abbrev cM_fails : ByteArray := prog_3_method_4_code
abbrev yM_is : MethodName := ⟨RM, "is", "(I)Z"⟩
abbrev cM_is : ByteArray := prog_3_method_5_code
abbrev yM_wide : MethodName := ⟨RM, "wide", "(I)J"⟩
abbrev cM_wide : ByteArray := prog_3_method_6_code
abbrev yM_give : MethodName := ⟨RM, "give", "(IJJJIIZ)V"⟩
abbrev cM_give : ByteArray := prog_3_method_7_code
abbrev yM_root : MethodName := ⟨RM, "root", "(IIII)V"⟩
abbrev cM_root : ByteArray := prog_3_method_8_code
abbrev yM_number : MethodName := ⟨RM, "number", "(II)V"⟩
abbrev cM_number : ByteArray := prog_3_method_9_code
abbrev yM_isSealed : MethodName := ⟨RM, "isSealed", "(I)Z"⟩
abbrev cM_isSealed : ByteArray := prog_3_method_10_code
abbrev yM_move : MethodName := ⟨RM, "move", "(III)V"⟩
abbrev cM_move : ByteArray := prog_3_method_11_code
abbrev yM_narrow : MethodName := ⟨RM, "narrow", "(III)Z"⟩
abbrev cM_narrow : ByteArray := prog_3_method_12_code
abbrev yM_restrict : MethodName := ⟨RM, "restrict", "(III)Z"⟩
abbrev cM_restrict : ByteArray := prog_3_method_13_code
abbrev yM_may : MethodName := ⟨RM, "may", "(II)Z"⟩
abbrev cM_may : ByteArray := prog_3_method_14_code
abbrev yM_holds : MethodName := ⟨RM, "holds", "(IJJ)Z"⟩
abbrev cM_holds : ByteArray := prog_3_method_15_code
abbrev yM_seal : MethodName := ⟨RM, "seal", "(III)I"⟩
abbrev cM_seal : ByteArray := prog_3_method_16_code
abbrev yM_unseal : MethodName := ⟨RM, "unseal", "(III)I"⟩
abbrev cM_unseal : ByteArray := prog_3_method_17_code
abbrev yM_allows : MethodName := ⟨RM, "allows", "(IIII)I"⟩
abbrev cM_allows : ByteArray := prog_3_method_18_code
abbrev yM_within : MethodName := ⟨RM, "within", "(II)Z"⟩
abbrev cM_within : ByteArray := prog_3_method_19_code
abbrev yM_part : MethodName := ⟨RM, "part", "(II)I"⟩
abbrev cM_part : ByteArray := prog_3_method_20_code
abbrev yM_count : MethodName := ⟨RM, "count", "(II)I"⟩
abbrev cM_count : ByteArray := prog_3_method_21_code
abbrev yL_root : MethodName := ⟨RL, "root", "(LGrantMath;IIII)I"⟩
abbrev cL_root : ByteArray := method_3_code
abbrev yL_number : MethodName := ⟨RL, "number", "(LGrantMath;II)I"⟩
abbrev cL_number : ByteArray := method_4_code
abbrev yL_move : MethodName := ⟨RL, "move", "(LGrantMath;III)I"⟩
abbrev cL_move : ByteArray := method_5_code
abbrev yL_narrow : MethodName := ⟨RL, "narrow", "(LGrantMath;III[J)I"⟩
abbrev cL_narrow : ByteArray := method_6_code
abbrev yL_restrict : MethodName := ⟨RL, "restrict", "(LGrantMath;III[J)I"⟩
abbrev cL_restrict : ByteArray := method_7_code
abbrev yL_seal : MethodName := ⟨RL, "seal", "(LGrantMath;III[J)I"⟩
abbrev cL_seal : ByteArray := method_8_code
abbrev yL_unseal : MethodName := ⟨RL, "unseal", "(LGrantMath;III[J)I"⟩
abbrev cL_unseal : ByteArray := method_9_code
abbrev yL_allows : MethodName := ⟨RL, "allows", "(LGrantMath;IIII[J)I"⟩
abbrev cL_allows : ByteArray := method_10_code
abbrev yL_within : MethodName := ⟨RL, "within", "(LGrantMath;II[J)I"⟩
abbrev cL_within : ByteArray := method_11_code
abbrev yL_part : MethodName := ⟨RL, "part", "(LGrantMath;II[J)I"⟩
abbrev cL_part : ByteArray := method_12_code
abbrev yL_law : MethodName := ⟨RL, "law", "([I)Z"⟩
abbrev cL_law : ByteArray := code
theorem w_0 : (Jvm.Cond.selects "GrantMath" ({ cls := "GrantMath", name := "accessCause", desc := "(IIII)I" } : Jvm.MethodName) ({ cls := "GrantMath", name := "accessCause", desc := "(IIII)I" } : Jvm.MethodName)) ∈ gw := gw_in (List.mem_of_getElem? (i := 0) (by decide +kernel)) (by decide +kernel)
theorem w_1 : (Jvm.Cond.selects "GrantMath" ({ cls := "GrantMath", name := "isSealed", desc := "(I)Z" } : Jvm.MethodName) ({ cls := "GrantMath", name := "isSealed", desc := "(I)Z" } : Jvm.MethodName)) ∈ gw := gw_in (List.mem_of_getElem? (i := 1) (by decide +kernel)) (by decide +kernel)
theorem w_2 : (Jvm.Cond.selects "GrantMath" ({ cls := "GrantMath", name := "hasPermissions", desc := "(II)Z" } : Jvm.MethodName) ({ cls := "GrantMath", name := "hasPermissions", desc := "(II)Z" } : Jvm.MethodName)) ∈ gw := gw_in (List.mem_of_getElem? (i := 2) (by decide +kernel)) (by decide +kernel)
theorem w_3 : (Jvm.Cond.selects "GrantMath" ({ cls := "GrantMath", name := "isInBounds", desc := "(IIJ)Z" } : Jvm.MethodName) ({ cls := "GrantMath", name := "isInBounds", desc := "(IIJ)Z" } : Jvm.MethodName)) ∈ gw := gw_in (List.mem_of_getElem? (i := 3) (by decide +kernel)) (by decide +kernel)
theorem w_4 : (Jvm.Cond.selects "java/lang/Throwable" ({ cls := "java/lang/Throwable", name := "fillInStackTrace", desc := "(I)Ljava/lang/Throwable;" } : Jvm.MethodName) ({ cls := "java/lang/Throwable", name := "fillInStackTrace", desc := "(I)Ljava/lang/Throwable;" } : Jvm.MethodName)) ∈ gw := gw_in (List.mem_of_getElem? (i := 4) (by decide +kernel)) (by decide +kernel)
theorem w_5 : (Jvm.Cond.selects "GrantMath" ({ cls := "GrantMath", name := "copy", desc := "(II)V" } : Jvm.MethodName) ({ cls := "GrantMath", name := "copy", desc := "(II)V" } : Jvm.MethodName)) ∈ gw := gw_in (List.mem_of_getElem? (i := 5) (by decide +kernel)) (by decide +kernel)
theorem w_6 : (Jvm.Cond.selects "GrantMath" ({ cls := "GrantMath", name := "sealingCause", desc := "(II)I" } : Jvm.MethodName) ({ cls := "GrantMath", name := "sealingCause", desc := "(II)I" } : Jvm.MethodName)) ∈ gw := gw_in (List.mem_of_getElem? (i := 6) (by decide +kernel)) (by decide +kernel)
theorem w_7 : (Jvm.Cond.selects "GrantMath" ({ cls := "GrantMath", name := "unsealingCause", desc := "(II)I" } : Jvm.MethodName) ({ cls := "GrantMath", name := "unsealingCause", desc := "(II)I" } : Jvm.MethodName)) ∈ gw := gw_in (List.mem_of_getElem? (i := 7) (by decide +kernel)) (by decide +kernel)
theorem w_8 : (Jvm.Cond.selects "GrantMathModel" ({ cls := "GrantMathModel", name := "fails", desc := "(ZI)Z" } : Jvm.MethodName) ({ cls := "GrantMathModel", name := "fails", desc := "(ZI)Z" } : Jvm.MethodName)) ∈ gw := gw_in (List.mem_of_getElem? (i := 8) (by decide +kernel)) (by decide +kernel)
theorem w_9 : (Jvm.Cond.selects "GrantMathModel" ({ cls := "GrantMathModel", name := "give", desc := "(IJJJIIZ)V" } : Jvm.MethodName) ({ cls := "GrantMathModel", name := "give", desc := "(IJJJIIZ)V" } : Jvm.MethodName)) ∈ gw := gw_in (List.mem_of_getElem? (i := 9) (by decide +kernel)) (by decide +kernel)
theorem w_10 : (Jvm.Cond.selects "GrantMathModel" ({ cls := "GrantMathModel", name := "isSealed", desc := "(I)Z" } : Jvm.MethodName) ({ cls := "GrantMathModel", name := "isSealed", desc := "(I)Z" } : Jvm.MethodName)) ∈ gw := gw_in (List.mem_of_getElem? (i := 10) (by decide +kernel)) (by decide +kernel)
theorem w_11 : (Jvm.Cond.selects "GrantMathModel" ({ cls := "GrantMathModel", name := "may", desc := "(II)Z" } : Jvm.MethodName) ({ cls := "GrantMathModel", name := "may", desc := "(II)Z" } : Jvm.MethodName)) ∈ gw := gw_in (List.mem_of_getElem? (i := 11) (by decide +kernel)) (by decide +kernel)
theorem w_12 : (Jvm.Cond.selects "GrantMathModel" ({ cls := "GrantMathModel", name := "holds", desc := "(IJJ)Z" } : Jvm.MethodName) ({ cls := "GrantMathModel", name := "holds", desc := "(IJJ)Z" } : Jvm.MethodName)) ∈ gw := gw_in (List.mem_of_getElem? (i := 12) (by decide +kernel)) (by decide +kernel)
theorem w_13 : (Jvm.Cond.initialized "GrantMathLaw") ∈ gw := gw_in (List.mem_of_getElem? (i := 13) (by decide +kernel)) (by decide +kernel)
theorem w_14 : (Jvm.Cond.initialized "GrantMath") ∈ gw := gw_in (List.mem_of_getElem? (i := 14) (by decide +kernel)) (by decide +kernel)
theorem w_15 : (Jvm.Cond.initialized "GrantMathModel") ∈ gw := gw_in (List.mem_of_getElem? (i := 15) (by decide +kernel)) (by decide +kernel)
theorem w_16 : (Jvm.Cond.initialized "java/lang/Throwable") ∈ gw := gw_in (List.mem_of_getElem? (i := 16) (by decide +kernel)) (by decide +kernel)
theorem w_17 : (Jvm.Cond.initialized "java/lang/Exception") ∈ gw := gw_in (List.mem_of_getElem? (i := 17) (by decide +kernel)) (by decide +kernel)
theorem w_18 : (Jvm.Cond.initialized "java/lang/RuntimeException") ∈ gw := gw_in (List.mem_of_getElem? (i := 18) (by decide +kernel)) (by decide +kernel)
theorem w_19 : (Jvm.Cond.initialized "java/lang/IllegalArgumentException") ∈ gw := gw_in (List.mem_of_getElem? (i := 19) (by decide +kernel)) (by decide +kernel)
theorem w_20 : (Jvm.Cond.initialized "java/lang/IndexOutOfBoundsException") ∈ gw := gw_in (List.mem_of_getElem? (i := 20) (by decide +kernel)) (by decide +kernel)
theorem w_21 : (Jvm.Cond.classLink "GrantMathLaw" (8 : Nat) "GrantMath") ∈ gw := gw_in (List.mem_of_getElem? (i := 21) (by decide +kernel)) (by decide +kernel)
theorem w_22 : (Jvm.Cond.instantiable "GrantMath" (6 : Nat)) ∈ gw := gw_in (List.mem_of_getElem? (i := 22) (by decide +kernel)) (by decide +kernel)
theorem w_23 : (Jvm.Cond.methodLink "GrantMathLaw" (51 : Nat) ({ cls := "GrantMath", name := "<init>", desc := "()V" } : Jvm.MethodName)) ∈ gw := gw_in (List.mem_of_getElem? (i := 23) (by decide +kernel)) (by decide +kernel)
theorem w_24 : (Jvm.Cond.instanceMethod ({ cls := "GrantMath", name := "<init>", desc := "()V" } : Jvm.MethodName)) ∈ gw := gw_in (List.mem_of_getElem? (i := 24) (by decide +kernel)) (by decide +kernel)
theorem w_25 : (Jvm.Cond.code ({ cls := "GrantMath", name := "<init>", desc := "()V" } : Jvm.MethodName) prog_1_method_1_code (1 : Nat) (Option.none : Option Jvm.ClassFile.FieldType)) ∈ gw := gw_in (List.mem_of_getElem? (i := 25) (by decide +kernel)) (by decide +kernel)
theorem w_26 : (Jvm.Cond.methodLink "GrantMath" (1 : Nat) ({ cls := "java/lang/Object", name := "<init>", desc := "()V" } : Jvm.MethodName)) ∈ gw := gw_in (List.mem_of_getElem? (i := 26) (by decide +kernel)) (by decide +kernel)
theorem w_27 : (Jvm.Cond.instanceMethod ({ cls := "java/lang/Object", name := "<init>", desc := "()V" } : Jvm.MethodName)) ∈ gw := gw_in (List.mem_of_getElem? (i := 27) (by decide +kernel)) (by decide +kernel)
theorem w_28 : (Jvm.Cond.code ({ cls := "java/lang/Object", name := "<init>", desc := "()V" } : Jvm.MethodName) object_method_1_code (1 : Nat) (Option.none : Option Jvm.ClassFile.FieldType)) ∈ gw := gw_in (List.mem_of_getElem? (i := 28) (by decide +kernel)) (by decide +kernel)
theorem w_29 : (Jvm.Cond.fieldLink "GrantMath" (9 : Nat) "GrantMath" "addresses" "[I") ∈ gw := gw_in (List.mem_of_getElem? (i := 29) (by decide +kernel)) (by decide +kernel)
theorem w_30 : (Jvm.Cond.fieldLink "GrantMath" (13 : Nat) "GrantMath" "bases" "[I") ∈ gw := gw_in (List.mem_of_getElem? (i := 30) (by decide +kernel)) (by decide +kernel)
theorem w_31 : (Jvm.Cond.fieldLink "GrantMath" (16 : Nat) "GrantMath" "tops" "[I") ∈ gw := gw_in (List.mem_of_getElem? (i := 31) (by decide +kernel)) (by decide +kernel)
theorem w_32 : (Jvm.Cond.fieldLink "GrantMath" (19 : Nat) "GrantMath" "permissionSets" "[I") ∈ gw := gw_in (List.mem_of_getElem? (i := 32) (by decide +kernel)) (by decide +kernel)
theorem w_33 : (Jvm.Cond.fieldLink "GrantMath" (22 : Nat) "GrantMath" "types" "[I") ∈ gw := gw_in (List.mem_of_getElem? (i := 33) (by decide +kernel)) (by decide +kernel)
theorem w_34 : (Jvm.Cond.fieldLink "GrantMath" (25 : Nat) "GrantMath" "tags" "[Z") ∈ gw := gw_in (List.mem_of_getElem? (i := 34) (by decide +kernel)) (by decide +kernel)
theorem w_35 : (Jvm.Cond.laysFinal "GrantMath" "GrantMath" "addresses" "[I") ∈ gw := gw_in (List.mem_of_getElem? (i := 35) (by decide +kernel)) (by decide +kernel)
theorem w_36 : (Jvm.Cond.soleField "GrantMath" "addresses") ∈ gw := gw_in (List.mem_of_getElem? (i := 36) (by decide +kernel)) (by decide +kernel)
theorem w_37 : (Jvm.Cond.laysFinal "GrantMath" "GrantMath" "bases" "[I") ∈ gw := gw_in (List.mem_of_getElem? (i := 37) (by decide +kernel)) (by decide +kernel)
theorem w_38 : (Jvm.Cond.soleField "GrantMath" "bases") ∈ gw := gw_in (List.mem_of_getElem? (i := 38) (by decide +kernel)) (by decide +kernel)
theorem w_39 : (Jvm.Cond.laysFinal "GrantMath" "GrantMath" "tops" "[I") ∈ gw := gw_in (List.mem_of_getElem? (i := 39) (by decide +kernel)) (by decide +kernel)
theorem w_40 : (Jvm.Cond.soleField "GrantMath" "tops") ∈ gw := gw_in (List.mem_of_getElem? (i := 40) (by decide +kernel)) (by decide +kernel)
theorem w_41 : (Jvm.Cond.laysFinal "GrantMath" "GrantMath" "permissionSets" "[I") ∈ gw := gw_in (List.mem_of_getElem? (i := 41) (by decide +kernel)) (by decide +kernel)
theorem w_42 : (Jvm.Cond.soleField "GrantMath" "permissionSets") ∈ gw := gw_in (List.mem_of_getElem? (i := 42) (by decide +kernel)) (by decide +kernel)
theorem w_43 : (Jvm.Cond.laysFinal "GrantMath" "GrantMath" "types" "[I") ∈ gw := gw_in (List.mem_of_getElem? (i := 43) (by decide +kernel)) (by decide +kernel)
theorem w_44 : (Jvm.Cond.soleField "GrantMath" "types") ∈ gw := gw_in (List.mem_of_getElem? (i := 44) (by decide +kernel)) (by decide +kernel)
theorem w_45 : (Jvm.Cond.laysFinal "GrantMath" "GrantMath" "tags" "[Z") ∈ gw := gw_in (List.mem_of_getElem? (i := 45) (by decide +kernel)) (by decide +kernel)
theorem w_46 : (Jvm.Cond.soleField "GrantMath" "tags") ∈ gw := gw_in (List.mem_of_getElem? (i := 46) (by decide +kernel)) (by decide +kernel)
theorem w_47 : (Jvm.Cond.superclass "GrantMath" "java/lang/Object") ∈ gw := gw_in (List.mem_of_getElem? (i := 47) (by decide +kernel)) (by decide +kernel)
theorem w_48 : (Jvm.Cond.arrayClass Jvm.ClassFile.FieldType.int) ∈ gw := gw_in (List.mem_of_getElem? (i := 48) (by decide +kernel)) (by decide +kernel)
theorem w_49 : (Jvm.Cond.arrayClass Jvm.ClassFile.FieldType.boolean) ∈ gw := gw_in (List.mem_of_getElem? (i := 49) (by decide +kernel)) (by decide +kernel)
theorem w_50 : (Jvm.Cond.methodLink "GrantMathLaw" (97 : Nat) ({ cls := "GrantMath", name := "count", desc := "(II)I" } : Jvm.MethodName)) ∈ gw := gw_in (List.mem_of_getElem? (i := 50) (by decide +kernel)) (by decide +kernel)
theorem w_51 : (Jvm.Cond.instanceMethod ({ cls := "GrantMath", name := "count", desc := "(II)I" } : Jvm.MethodName)) ∈ gw := gw_in (List.mem_of_getElem? (i := 51) (by decide +kernel)) (by decide +kernel)
theorem w_52 : (Jvm.Cond.selects "GrantMath" ({ cls := "GrantMath", name := "count", desc := "(II)I" } : Jvm.MethodName) ({ cls := "GrantMath", name := "count", desc := "(II)I" } : Jvm.MethodName)) ∈ gw := gw_in (List.mem_of_getElem? (i := 52) (by decide +kernel)) (by decide +kernel)
theorem w_53 : (Jvm.Cond.code ({ cls := "GrantMath", name := "count", desc := "(II)I" } : Jvm.MethodName) prog_1_method_12_code (5 : Nat) (Option.some Jvm.ClassFile.FieldType.int)) ∈ gw := gw_in (List.mem_of_getElem? (i := 53) (by decide +kernel)) (by decide +kernel)
theorem w_54 : (Jvm.Cond.methodLink "GrantMath" (68 : Nat) ({ cls := "GrantMath", name := "accessCause", desc := "(IIII)I" } : Jvm.MethodName)) ∈ gw := gw_in (List.mem_of_getElem? (i := 54) (by decide +kernel)) (by decide +kernel)
theorem w_56 : (Jvm.Cond.instanceMethod ({ cls := "GrantMath", name := "accessCause", desc := "(IIII)I" } : Jvm.MethodName)) ∈ gw := gw_in (List.mem_of_getElem? (i := 56) (by decide +kernel)) (by decide +kernel)
theorem w_57 : (Jvm.Cond.code ({ cls := "GrantMath", name := "accessCause", desc := "(IIII)I" } : Jvm.MethodName) prog_1_method_19_code (5 : Nat) (Option.some Jvm.ClassFile.FieldType.int)) ∈ gw := gw_in (List.mem_of_getElem? (i := 57) (by decide +kernel)) (by decide +kernel)
theorem w_58 : (Jvm.Cond.methodLink "GrantMath" (46 : Nat) ({ cls := "GrantMath", name := "isSealed", desc := "(I)Z" } : Jvm.MethodName)) ∈ gw := gw_in (List.mem_of_getElem? (i := 58) (by decide +kernel)) (by decide +kernel)
theorem w_60 : (Jvm.Cond.instanceMethod ({ cls := "GrantMath", name := "isSealed", desc := "(I)Z" } : Jvm.MethodName)) ∈ gw := gw_in (List.mem_of_getElem? (i := 60) (by decide +kernel)) (by decide +kernel)
theorem w_61 : (Jvm.Cond.code ({ cls := "GrantMath", name := "isSealed", desc := "(I)Z" } : Jvm.MethodName) prog_1_method_16_code (2 : Nat) (Option.some Jvm.ClassFile.FieldType.boolean)) ∈ gw := gw_in (List.mem_of_getElem? (i := 61) (by decide +kernel)) (by decide +kernel)
theorem w_62 : (Jvm.Cond.methodLink "GrantMath" (72 : Nat) ({ cls := "GrantMath", name := "hasPermissions", desc := "(II)Z" } : Jvm.MethodName)) ∈ gw := gw_in (List.mem_of_getElem? (i := 62) (by decide +kernel)) (by decide +kernel)
theorem w_64 : (Jvm.Cond.instanceMethod ({ cls := "GrantMath", name := "hasPermissions", desc := "(II)Z" } : Jvm.MethodName)) ∈ gw := gw_in (List.mem_of_getElem? (i := 64) (by decide +kernel)) (by decide +kernel)
theorem w_65 : (Jvm.Cond.code ({ cls := "GrantMath", name := "hasPermissions", desc := "(II)Z" } : Jvm.MethodName) prog_1_method_17_code (3 : Nat) (Option.some Jvm.ClassFile.FieldType.boolean)) ∈ gw := gw_in (List.mem_of_getElem? (i := 65) (by decide +kernel)) (by decide +kernel)
theorem w_66 : (Jvm.Cond.methodLink "GrantMath" (54 : Nat) ({ cls := "GrantMath", name := "isInBounds", desc := "(IIJ)Z" } : Jvm.MethodName)) ∈ gw := gw_in (List.mem_of_getElem? (i := 66) (by decide +kernel)) (by decide +kernel)
theorem w_68 : (Jvm.Cond.instanceMethod ({ cls := "GrantMath", name := "isInBounds", desc := "(IIJ)Z" } : Jvm.MethodName)) ∈ gw := gw_in (List.mem_of_getElem? (i := 68) (by decide +kernel)) (by decide +kernel)
theorem w_69 : (Jvm.Cond.code ({ cls := "GrantMath", name := "isInBounds", desc := "(IIJ)Z" } : Jvm.MethodName) prog_1_method_18_code (7 : Nat) (Option.some Jvm.ClassFile.FieldType.boolean)) ∈ gw := gw_in (List.mem_of_getElem? (i := 69) (by decide +kernel)) (by decide +kernel)
theorem w_70 : (Jvm.Cond.methodLink "GrantMath" (29 : Nat) ({ cls := "GrantMath", name := "unsigned", desc := "(I)J" } : Jvm.MethodName)) ∈ gw := gw_in (List.mem_of_getElem? (i := 70) (by decide +kernel)) (by decide +kernel)
theorem w_71 : (Jvm.Cond.static ({ cls := "GrantMath", name := "unsigned", desc := "(I)J" } : Jvm.MethodName)) ∈ gw := gw_in (List.mem_of_getElem? (i := 71) (by decide +kernel)) (by decide +kernel)
theorem w_72 : (Jvm.Cond.code ({ cls := "GrantMath", name := "unsigned", desc := "(I)J" } : Jvm.MethodName) prog_1_method_14_code (1 : Nat) (Option.some Jvm.ClassFile.FieldType.long)) ∈ gw := gw_in (List.mem_of_getElem? (i := 72) (by decide +kernel)) (by decide +kernel)
theorem w_73 : (Jvm.Cond.constantLong "GrantMath" (83 : Nat) (4294967295 : Int64)) ∈ gw := gw_in (List.mem_of_getElem? (i := 73) (by decide +kernel)) (by decide +kernel)
theorem w_74 : (Jvm.Cond.methodLink "GrantMathLaw" (55 : Nat) ({ cls := "GrantMathLaw", name := "root", desc := "(LGrantMath;IIII)I" } : Jvm.MethodName)) ∈ gw := gw_in (List.mem_of_getElem? (i := 74) (by decide +kernel)) (by decide +kernel)
theorem w_75 : (Jvm.Cond.static ({ cls := "GrantMathLaw", name := "root", desc := "(LGrantMath;IIII)I" } : Jvm.MethodName)) ∈ gw := gw_in (List.mem_of_getElem? (i := 75) (by decide +kernel)) (by decide +kernel)
theorem w_76 : (Jvm.Cond.codeWith ({ cls := "GrantMathLaw", name := "root", desc := "(LGrantMath;IIII)I" } : Jvm.MethodName) method_3_code (6 : Nat) (Option.some Jvm.ClassFile.FieldType.int) [((0 : Nat), (9 : Nat), (12 : Nat), (13 : Nat)), ((0 : Nat), (9 : Nat), (16 : Nat), (15 : Nat))]) ∈ gw := gw_in (List.mem_of_getElem? (i := 76) (by decide +kernel)) (by decide +kernel)
theorem w_77 : (Jvm.Cond.classLink "GrantMathLaw" (13 : Nat) "java/lang/IllegalArgumentException") ∈ gw := gw_in (List.mem_of_getElem? (i := 77) (by decide +kernel)) (by decide +kernel)
theorem w_78 : (Jvm.Cond.classLink "GrantMathLaw" (15 : Nat) "java/lang/IndexOutOfBoundsException") ∈ gw := gw_in (List.mem_of_getElem? (i := 78) (by decide +kernel)) (by decide +kernel)
theorem w_79 : (Jvm.Cond.methodLink "GrantMathLaw" (7 : Nat) ({ cls := "GrantMath", name := "root", desc := "(IIII)V" } : Jvm.MethodName)) ∈ gw := gw_in (List.mem_of_getElem? (i := 79) (by decide +kernel)) (by decide +kernel)
theorem w_80 : (Jvm.Cond.instanceMethod ({ cls := "GrantMath", name := "root", desc := "(IIII)V" } : Jvm.MethodName)) ∈ gw := gw_in (List.mem_of_getElem? (i := 80) (by decide +kernel)) (by decide +kernel)
theorem w_81 : (Jvm.Cond.selects "GrantMath" ({ cls := "GrantMath", name := "root", desc := "(IIII)V" } : Jvm.MethodName) ({ cls := "GrantMath", name := "root", desc := "(IIII)V" } : Jvm.MethodName)) ∈ gw := gw_in (List.mem_of_getElem? (i := 81) (by decide +kernel)) (by decide +kernel)
theorem w_82 : (Jvm.Cond.code ({ cls := "GrantMath", name := "root", desc := "(IIII)V" } : Jvm.MethodName) prog_1_method_2_code (5 : Nat) (Option.none : Option Jvm.ClassFile.FieldType)) ∈ gw := gw_in (List.mem_of_getElem? (i := 82) (by decide +kernel)) (by decide +kernel)
theorem w_83 : (Jvm.Cond.classLink "GrantMath" (33 : Nat) "java/lang/IllegalArgumentException") ∈ gw := gw_in (List.mem_of_getElem? (i := 83) (by decide +kernel)) (by decide +kernel)
theorem w_84 : (Jvm.Cond.instantiable "java/lang/IllegalArgumentException" (6 : Nat)) ∈ gw := gw_in (List.mem_of_getElem? (i := 84) (by decide +kernel)) (by decide +kernel)
theorem w_92 : (Jvm.Cond.selects "java/lang/IllegalArgumentException" ({ cls := "java/lang/Throwable", name := "fillInStackTrace", desc := "(I)Ljava/lang/Throwable;" } : Jvm.MethodName) ({ cls := "java/lang/Throwable", name := "fillInStackTrace", desc := "(I)Ljava/lang/Throwable;" } : Jvm.MethodName)) ∈ gw := gw_in (List.mem_of_getElem? (i := 92) (by decide +kernel)) (by decide +kernel)
theorem w_93 : (Jvm.Cond.selects "java/lang/IllegalArgumentException" ({ cls := "java/lang/Throwable", name := "fillInStackTrace", desc := "()Ljava/lang/Throwable;" } : Jvm.MethodName) ({ cls := "java/lang/Throwable", name := "fillInStackTrace", desc := "()Ljava/lang/Throwable;" } : Jvm.MethodName)) ∈ gw := gw_in (List.mem_of_getElem? (i := 93) (by decide +kernel)) (by decide +kernel)
theorem w_94 : (Jvm.Cond.lays "java/lang/IllegalArgumentException" "java/lang/Throwable" "cause" "Ljava/lang/Throwable;") ∈ gw := gw_in (List.mem_of_getElem? (i := 94) (by decide +kernel)) (by decide +kernel)
theorem w_95 : (Jvm.Cond.lays "java/lang/Throwable" "java/lang/Throwable" "cause" "Ljava/lang/Throwable;") ∈ gw := gw_in (List.mem_of_getElem? (i := 95) (by decide +kernel)) (by decide +kernel)
theorem w_96 : (Jvm.Cond.lays "java/lang/IllegalArgumentException" "java/lang/Throwable" "stackTrace" "[Ljava/lang/StackTraceElement;") ∈ gw := gw_in (List.mem_of_getElem? (i := 96) (by decide +kernel)) (by decide +kernel)
theorem w_97 : (Jvm.Cond.lays "java/lang/Throwable" "java/lang/Throwable" "stackTrace" "[Ljava/lang/StackTraceElement;") ∈ gw := gw_in (List.mem_of_getElem? (i := 97) (by decide +kernel)) (by decide +kernel)
theorem w_98 : (Jvm.Cond.lays "java/lang/IllegalArgumentException" "java/lang/Throwable" "suppressedExceptions" "Ljava/util/List;") ∈ gw := gw_in (List.mem_of_getElem? (i := 98) (by decide +kernel)) (by decide +kernel)
theorem w_99 : (Jvm.Cond.lays "java/lang/Throwable" "java/lang/Throwable" "suppressedExceptions" "Ljava/util/List;") ∈ gw := gw_in (List.mem_of_getElem? (i := 99) (by decide +kernel)) (by decide +kernel)
theorem w_100 : (Jvm.Cond.lays "java/lang/IllegalArgumentException" "java/lang/Throwable" "detailMessage" "Ljava/lang/String;") ∈ gw := gw_in (List.mem_of_getElem? (i := 100) (by decide +kernel)) (by decide +kernel)
theorem w_101 : (Jvm.Cond.lays "java/lang/Throwable" "java/lang/Throwable" "detailMessage" "Ljava/lang/String;") ∈ gw := gw_in (List.mem_of_getElem? (i := 101) (by decide +kernel)) (by decide +kernel)
theorem w_102 : (Jvm.Cond.lays "java/lang/IllegalArgumentException" "java/lang/Throwable" "backtrace" "Ljava/lang/Object;") ∈ gw := gw_in (List.mem_of_getElem? (i := 102) (by decide +kernel)) (by decide +kernel)
theorem w_103 : (Jvm.Cond.lays "java/lang/Throwable" "java/lang/Throwable" "backtrace" "Ljava/lang/Object;") ∈ gw := gw_in (List.mem_of_getElem? (i := 103) (by decide +kernel)) (by decide +kernel)
theorem w_104 : (Jvm.Cond.fieldLink "java/lang/Throwable" (198 : Nat) "java/lang/Throwable" "backtrace" "Ljava/lang/Object;") ∈ gw := gw_in (List.mem_of_getElem? (i := 104) (by decide +kernel)) (by decide +kernel)
theorem w_105 : (Jvm.Cond.superclass "java/lang/Throwable" "java/lang/Object") ∈ gw := gw_in (List.mem_of_getElem? (i := 105) (by decide +kernel)) (by decide +kernel)
theorem w_106 : (Jvm.Cond.instanceMethod ({ cls := "java/lang/Throwable", name := "<init>", desc := "()V" } : Jvm.MethodName)) ∈ gw := gw_in (List.mem_of_getElem? (i := 106) (by decide +kernel)) (by decide +kernel)
theorem w_107 : (Jvm.Cond.code ({ cls := "java/lang/Throwable", name := "<init>", desc := "()V" } : Jvm.MethodName) prog_9_method_1_code (1 : Nat) (Option.none : Option Jvm.ClassFile.FieldType)) ∈ gw := gw_in (List.mem_of_getElem? (i := 107) (by decide +kernel)) (by decide +kernel)
theorem w_108 : (Jvm.Cond.methodLink "java/lang/Throwable" (1 : Nat) ({ cls := "java/lang/Object", name := "<init>", desc := "()V" } : Jvm.MethodName)) ∈ gw := gw_in (List.mem_of_getElem? (i := 108) (by decide +kernel)) (by decide +kernel)
theorem w_109 : (Jvm.Cond.fieldLink "java/lang/Throwable" (13 : Nat) "java/lang/Throwable" "UNASSIGNED_STACK" "[Ljava/lang/StackTraceElement;") ∈ gw := gw_in (List.mem_of_getElem? (i := 109) (by decide +kernel)) (by decide +kernel)
theorem w_111 : (Jvm.Cond.fieldLink "java/lang/Throwable" (20 : Nat) "java/lang/Throwable" "SUPPRESSED_SENTINEL" "Ljava/util/List;") ∈ gw := gw_in (List.mem_of_getElem? (i := 111) (by decide +kernel)) (by decide +kernel)
theorem w_113 : (Jvm.Cond.methodLink "java/lang/Throwable" (27 : Nat) ({ cls := "java/lang/Throwable", name := "fillInStackTrace", desc := "()Ljava/lang/Throwable;" } : Jvm.MethodName)) ∈ gw := gw_in (List.mem_of_getElem? (i := 113) (by decide +kernel)) (by decide +kernel)
theorem w_114 : (Jvm.Cond.instanceMethod ({ cls := "java/lang/Throwable", name := "fillInStackTrace", desc := "()Ljava/lang/Throwable;" } : Jvm.MethodName)) ∈ gw := gw_in (List.mem_of_getElem? (i := 114) (by decide +kernel)) (by decide +kernel)
theorem w_115 : (Jvm.Cond.sameMethod "java/lang/Throwable" "java/lang/Throwable" "fillInStackTrace" "()Ljava/lang/Throwable;") ∈ gw := gw_in (List.mem_of_getElem? (i := 115) (by decide +kernel)) (by decide +kernel)
theorem w_116 : (Jvm.Cond.selects "java/lang/IndexOutOfBoundsException" ({ cls := "java/lang/Throwable", name := "fillInStackTrace", desc := "()Ljava/lang/Throwable;" } : Jvm.MethodName) ({ cls := "java/lang/Throwable", name := "fillInStackTrace", desc := "()Ljava/lang/Throwable;" } : Jvm.MethodName)) ∈ gw := gw_in (List.mem_of_getElem? (i := 116) (by decide +kernel)) (by decide +kernel)
theorem w_117 : (Jvm.Cond.codeSync ({ cls := "java/lang/Throwable", name := "fillInStackTrace", desc := "()Ljava/lang/Throwable;" } : Jvm.MethodName) prog_9_method_18_code (1 : Nat) (Option.some (Jvm.ClassFile.FieldType.object "java/lang/Throwable"))) ∈ gw := gw_in (List.mem_of_getElem? (i := 117) (by decide +kernel)) (by decide +kernel)
theorem w_118 : (Jvm.Cond.methodLink "java/lang/Throwable" (202 : Nat) ({ cls := "java/lang/Throwable", name := "fillInStackTrace", desc := "(I)Ljava/lang/Throwable;" } : Jvm.MethodName)) ∈ gw := gw_in (List.mem_of_getElem? (i := 118) (by decide +kernel)) (by decide +kernel)
theorem w_120 : (Jvm.Cond.instanceMethod ({ cls := "java/lang/Throwable", name := "fillInStackTrace", desc := "(I)Ljava/lang/Throwable;" } : Jvm.MethodName)) ∈ gw := gw_in (List.mem_of_getElem? (i := 120) (by decide +kernel)) (by decide +kernel)
theorem w_121 : (Jvm.Cond.instantiable "java/lang/Throwable" (6 : Nat)) ∈ gw := gw_in (List.mem_of_getElem? (i := 121) (by decide +kernel)) (by decide +kernel)
theorem w_122 : (Jvm.Cond.native ({ cls := "java/lang/Throwable", name := "fillInStackTrace", desc := "(I)Ljava/lang/Throwable;" } : Jvm.MethodName)) ∈ gw := gw_in (List.mem_of_getElem? (i := 122) (by decide +kernel)) (by decide +kernel)
theorem w_124 : (Jvm.Cond.methodLink "GrantMath" (37 : Nat) ({ cls := "java/lang/IllegalArgumentException", name := "<init>", desc := "(Ljava/lang/String;)V" } : Jvm.MethodName)) ∈ gw := gw_in (List.mem_of_getElem? (i := 124) (by decide +kernel)) (by decide +kernel)
theorem w_125 : (Jvm.Cond.instanceMethod ({ cls := "java/lang/IllegalArgumentException", name := "<init>", desc := "(Ljava/lang/String;)V" } : Jvm.MethodName)) ∈ gw := gw_in (List.mem_of_getElem? (i := 125) (by decide +kernel)) (by decide +kernel)
theorem w_126 : (Jvm.Cond.code ({ cls := "java/lang/IllegalArgumentException", name := "<init>", desc := "(Ljava/lang/String;)V" } : Jvm.MethodName) prog_5_method_2_code (2 : Nat) (Option.none : Option Jvm.ClassFile.FieldType)) ∈ gw := gw_in (List.mem_of_getElem? (i := 126) (by decide +kernel)) (by decide +kernel)
theorem w_127 : (Jvm.Cond.methodLink "java/lang/IllegalArgumentException" (7 : Nat) ({ cls := "java/lang/RuntimeException", name := "<init>", desc := "(Ljava/lang/String;)V" } : Jvm.MethodName)) ∈ gw := gw_in (List.mem_of_getElem? (i := 127) (by decide +kernel)) (by decide +kernel)
theorem w_128 : (Jvm.Cond.instanceMethod ({ cls := "java/lang/RuntimeException", name := "<init>", desc := "(Ljava/lang/String;)V" } : Jvm.MethodName)) ∈ gw := gw_in (List.mem_of_getElem? (i := 128) (by decide +kernel)) (by decide +kernel)
theorem w_129 : (Jvm.Cond.code ({ cls := "java/lang/RuntimeException", name := "<init>", desc := "(Ljava/lang/String;)V" } : Jvm.MethodName) prog_7_method_2_code (2 : Nat) (Option.none : Option Jvm.ClassFile.FieldType)) ∈ gw := gw_in (List.mem_of_getElem? (i := 129) (by decide +kernel)) (by decide +kernel)
theorem w_130 : (Jvm.Cond.methodLink "java/lang/RuntimeException" (7 : Nat) ({ cls := "java/lang/Exception", name := "<init>", desc := "(Ljava/lang/String;)V" } : Jvm.MethodName)) ∈ gw := gw_in (List.mem_of_getElem? (i := 130) (by decide +kernel)) (by decide +kernel)
theorem w_131 : (Jvm.Cond.instanceMethod ({ cls := "java/lang/Exception", name := "<init>", desc := "(Ljava/lang/String;)V" } : Jvm.MethodName)) ∈ gw := gw_in (List.mem_of_getElem? (i := 131) (by decide +kernel)) (by decide +kernel)
theorem w_132 : (Jvm.Cond.code ({ cls := "java/lang/Exception", name := "<init>", desc := "(Ljava/lang/String;)V" } : Jvm.MethodName) prog_4_method_2_code (2 : Nat) (Option.none : Option Jvm.ClassFile.FieldType)) ∈ gw := gw_in (List.mem_of_getElem? (i := 132) (by decide +kernel)) (by decide +kernel)
theorem w_133 : (Jvm.Cond.methodLink "java/lang/Exception" (7 : Nat) ({ cls := "java/lang/Throwable", name := "<init>", desc := "(Ljava/lang/String;)V" } : Jvm.MethodName)) ∈ gw := gw_in (List.mem_of_getElem? (i := 133) (by decide +kernel)) (by decide +kernel)
theorem w_134 : (Jvm.Cond.instanceMethod ({ cls := "java/lang/Throwable", name := "<init>", desc := "(Ljava/lang/String;)V" } : Jvm.MethodName)) ∈ gw := gw_in (List.mem_of_getElem? (i := 134) (by decide +kernel)) (by decide +kernel)
theorem w_135 : (Jvm.Cond.code ({ cls := "java/lang/Throwable", name := "<init>", desc := "(Ljava/lang/String;)V" } : Jvm.MethodName) prog_9_method_2_code (2 : Nat) (Option.none : Option Jvm.ClassFile.FieldType)) ∈ gw := gw_in (List.mem_of_getElem? (i := 135) (by decide +kernel)) (by decide +kernel)
theorem w_136 : (Jvm.Cond.fieldLink "java/lang/Throwable" (198 : Nat) "java/lang/Throwable" "backtrace" "Ljava/lang/Object;") ∈ gw := gw_in (List.mem_of_getElem? (i := 136) (by decide +kernel)) (by decide +kernel)
theorem w_137 : (Jvm.Cond.fieldLink "java/lang/Throwable" (31 : Nat) "java/lang/Throwable" "detailMessage" "Ljava/lang/String;") ∈ gw := gw_in (List.mem_of_getElem? (i := 137) (by decide +kernel)) (by decide +kernel)
theorem w_138 : (Jvm.Cond.fieldLink "java/lang/Throwable" (7 : Nat) "java/lang/Throwable" "cause" "Ljava/lang/Throwable;") ∈ gw := gw_in (List.mem_of_getElem? (i := 138) (by decide +kernel)) (by decide +kernel)
theorem w_139 : (Jvm.Cond.fieldLink "java/lang/Throwable" (17 : Nat) "java/lang/Throwable" "stackTrace" "[Ljava/lang/StackTraceElement;") ∈ gw := gw_in (List.mem_of_getElem? (i := 139) (by decide +kernel)) (by decide +kernel)
theorem w_140 : (Jvm.Cond.fieldLink "java/lang/Throwable" (24 : Nat) "java/lang/Throwable" "suppressedExceptions" "Ljava/util/List;") ∈ gw := gw_in (List.mem_of_getElem? (i := 140) (by decide +kernel)) (by decide +kernel)
theorem w_141 : (Jvm.Cond.soleField "java/lang/Throwable" "backtrace") ∈ gw := gw_in (List.mem_of_getElem? (i := 141) (by decide +kernel)) (by decide +kernel)
theorem w_142 : (Jvm.Cond.soleField "java/lang/Throwable" "detailMessage") ∈ gw := gw_in (List.mem_of_getElem? (i := 142) (by decide +kernel)) (by decide +kernel)
theorem w_143 : (Jvm.Cond.soleField "java/lang/Throwable" "cause") ∈ gw := gw_in (List.mem_of_getElem? (i := 143) (by decide +kernel)) (by decide +kernel)
theorem w_144 : (Jvm.Cond.soleField "java/lang/Throwable" "stackTrace") ∈ gw := gw_in (List.mem_of_getElem? (i := 144) (by decide +kernel)) (by decide +kernel)
theorem w_145 : (Jvm.Cond.lays "java/lang/IllegalArgumentException" "java/lang/Throwable" "depth" "I") ∈ gw := gw_in (List.mem_of_getElem? (i := 145) (by decide +kernel)) (by decide +kernel)
theorem w_146 : (Jvm.Cond.soleField "java/lang/Throwable" "depth") ∈ gw := gw_in (List.mem_of_getElem? (i := 146) (by decide +kernel)) (by decide +kernel)
theorem w_147 : (Jvm.Cond.soleField "java/lang/Throwable" "suppressedExceptions") ∈ gw := gw_in (List.mem_of_getElem? (i := 147) (by decide +kernel)) (by decide +kernel)
theorem w_148 : (Jvm.Cond.superclass "java/lang/IllegalArgumentException" "java/lang/RuntimeException") ∈ gw := gw_in (List.mem_of_getElem? (i := 148) (by decide +kernel)) (by decide +kernel)
theorem w_149 : (Jvm.Cond.arrayClass Jvm.ClassFile.FieldType.byte) ∈ gw := gw_in (List.mem_of_getElem? (i := 149) (by decide +kernel)) (by decide +kernel)
theorem w_151 : (Jvm.Cond.methodLink "GrantMath" (42 : Nat) ({ cls := "GrantMath", name := "requireGrant", desc := "(I)V" } : Jvm.MethodName)) ∈ gw := gw_in (List.mem_of_getElem? (i := 151) (by decide +kernel)) (by decide +kernel)
theorem w_152 : (Jvm.Cond.static ({ cls := "GrantMath", name := "requireGrant", desc := "(I)V" } : Jvm.MethodName)) ∈ gw := gw_in (List.mem_of_getElem? (i := 152) (by decide +kernel)) (by decide +kernel)
theorem w_153 : (Jvm.Cond.code ({ cls := "GrantMath", name := "requireGrant", desc := "(I)V" } : Jvm.MethodName) prog_1_method_13_code (1 : Nat) (Option.none : Option Jvm.ClassFile.FieldType)) ∈ gw := gw_in (List.mem_of_getElem? (i := 153) (by decide +kernel)) (by decide +kernel)
theorem w_154 : (Jvm.Cond.classLink "GrantMath" (78 : Nat) "java/lang/IndexOutOfBoundsException") ∈ gw := gw_in (List.mem_of_getElem? (i := 154) (by decide +kernel)) (by decide +kernel)
theorem w_155 : (Jvm.Cond.instantiable "java/lang/IndexOutOfBoundsException" (6 : Nat)) ∈ gw := gw_in (List.mem_of_getElem? (i := 155) (by decide +kernel)) (by decide +kernel)
theorem w_157 : (Jvm.Cond.selects "java/lang/IndexOutOfBoundsException" ({ cls := "java/lang/Throwable", name := "fillInStackTrace", desc := "(I)Ljava/lang/Throwable;" } : Jvm.MethodName) ({ cls := "java/lang/Throwable", name := "fillInStackTrace", desc := "(I)Ljava/lang/Throwable;" } : Jvm.MethodName)) ∈ gw := gw_in (List.mem_of_getElem? (i := 157) (by decide +kernel)) (by decide +kernel)
theorem w_158 : (Jvm.Cond.lays "java/lang/IndexOutOfBoundsException" "java/lang/Throwable" "cause" "Ljava/lang/Throwable;") ∈ gw := gw_in (List.mem_of_getElem? (i := 158) (by decide +kernel)) (by decide +kernel)
theorem w_159 : (Jvm.Cond.lays "java/lang/IndexOutOfBoundsException" "java/lang/Throwable" "stackTrace" "[Ljava/lang/StackTraceElement;") ∈ gw := gw_in (List.mem_of_getElem? (i := 159) (by decide +kernel)) (by decide +kernel)
theorem w_160 : (Jvm.Cond.lays "java/lang/IndexOutOfBoundsException" "java/lang/Throwable" "suppressedExceptions" "Ljava/util/List;") ∈ gw := gw_in (List.mem_of_getElem? (i := 160) (by decide +kernel)) (by decide +kernel)
theorem w_161 : (Jvm.Cond.lays "java/lang/IndexOutOfBoundsException" "java/lang/Throwable" "detailMessage" "Ljava/lang/String;") ∈ gw := gw_in (List.mem_of_getElem? (i := 161) (by decide +kernel)) (by decide +kernel)
theorem w_162 : (Jvm.Cond.lays "java/lang/IndexOutOfBoundsException" "java/lang/Throwable" "backtrace" "Ljava/lang/Object;") ∈ gw := gw_in (List.mem_of_getElem? (i := 162) (by decide +kernel)) (by decide +kernel)
theorem w_164 : (Jvm.Cond.methodLink "GrantMath" (82 : Nat) ({ cls := "java/lang/IndexOutOfBoundsException", name := "<init>", desc := "(Ljava/lang/String;)V" } : Jvm.MethodName)) ∈ gw := gw_in (List.mem_of_getElem? (i := 164) (by decide +kernel)) (by decide +kernel)
theorem w_165 : (Jvm.Cond.instanceMethod ({ cls := "java/lang/IndexOutOfBoundsException", name := "<init>", desc := "(Ljava/lang/String;)V" } : Jvm.MethodName)) ∈ gw := gw_in (List.mem_of_getElem? (i := 165) (by decide +kernel)) (by decide +kernel)
theorem w_166 : (Jvm.Cond.code ({ cls := "java/lang/IndexOutOfBoundsException", name := "<init>", desc := "(Ljava/lang/String;)V" } : Jvm.MethodName) prog_6_method_2_code (2 : Nat) (Option.none : Option Jvm.ClassFile.FieldType)) ∈ gw := gw_in (List.mem_of_getElem? (i := 166) (by decide +kernel)) (by decide +kernel)
theorem w_167 : (Jvm.Cond.methodLink "java/lang/IndexOutOfBoundsException" (7 : Nat) ({ cls := "java/lang/RuntimeException", name := "<init>", desc := "(Ljava/lang/String;)V" } : Jvm.MethodName)) ∈ gw := gw_in (List.mem_of_getElem? (i := 167) (by decide +kernel)) (by decide +kernel)
theorem w_168 : (Jvm.Cond.lays "java/lang/IndexOutOfBoundsException" "java/lang/Throwable" "depth" "I") ∈ gw := gw_in (List.mem_of_getElem? (i := 168) (by decide +kernel)) (by decide +kernel)
theorem w_169 : (Jvm.Cond.superclass "java/lang/IndexOutOfBoundsException" "java/lang/RuntimeException") ∈ gw := gw_in (List.mem_of_getElem? (i := 169) (by decide +kernel)) (by decide +kernel)
theorem w_170 : (Jvm.Cond.methodLink "GrantMathLaw" (65 : Nat) ({ cls := "GrantMathLaw", name := "number", desc := "(LGrantMath;II)I" } : Jvm.MethodName)) ∈ gw := gw_in (List.mem_of_getElem? (i := 170) (by decide +kernel)) (by decide +kernel)
theorem w_171 : (Jvm.Cond.static ({ cls := "GrantMathLaw", name := "number", desc := "(LGrantMath;II)I" } : Jvm.MethodName)) ∈ gw := gw_in (List.mem_of_getElem? (i := 171) (by decide +kernel)) (by decide +kernel)
theorem w_172 : (Jvm.Cond.codeWith ({ cls := "GrantMathLaw", name := "number", desc := "(LGrantMath;II)I" } : Jvm.MethodName) method_4_code (4 : Nat) (Option.some Jvm.ClassFile.FieldType.int) [((0 : Nat), (6 : Nat), (9 : Nat), (15 : Nat))]) ∈ gw := gw_in (List.mem_of_getElem? (i := 172) (by decide +kernel)) (by decide +kernel)
theorem w_173 : (Jvm.Cond.methodLink "GrantMathLaw" (17 : Nat) ({ cls := "GrantMath", name := "number", desc := "(II)V" } : Jvm.MethodName)) ∈ gw := gw_in (List.mem_of_getElem? (i := 173) (by decide +kernel)) (by decide +kernel)
theorem w_174 : (Jvm.Cond.instanceMethod ({ cls := "GrantMath", name := "number", desc := "(II)V" } : Jvm.MethodName)) ∈ gw := gw_in (List.mem_of_getElem? (i := 174) (by decide +kernel)) (by decide +kernel)
theorem w_175 : (Jvm.Cond.selects "GrantMath" ({ cls := "GrantMath", name := "number", desc := "(II)V" } : Jvm.MethodName) ({ cls := "GrantMath", name := "number", desc := "(II)V" } : Jvm.MethodName)) ∈ gw := gw_in (List.mem_of_getElem? (i := 175) (by decide +kernel)) (by decide +kernel)
theorem w_176 : (Jvm.Cond.code ({ cls := "GrantMath", name := "number", desc := "(II)V" } : Jvm.MethodName) prog_1_method_3_code (3 : Nat) (Option.none : Option Jvm.ClassFile.FieldType)) ∈ gw := gw_in (List.mem_of_getElem? (i := 176) (by decide +kernel)) (by decide +kernel)
theorem w_177 : (Jvm.Cond.methodLink "GrantMathLaw" (69 : Nat) ({ cls := "GrantMathLaw", name := "move", desc := "(LGrantMath;III)I" } : Jvm.MethodName)) ∈ gw := gw_in (List.mem_of_getElem? (i := 177) (by decide +kernel)) (by decide +kernel)
theorem w_178 : (Jvm.Cond.static ({ cls := "GrantMathLaw", name := "move", desc := "(LGrantMath;III)I" } : Jvm.MethodName)) ∈ gw := gw_in (List.mem_of_getElem? (i := 178) (by decide +kernel)) (by decide +kernel)
theorem w_179 : (Jvm.Cond.codeWith ({ cls := "GrantMathLaw", name := "move", desc := "(LGrantMath;III)I" } : Jvm.MethodName) method_5_code (5 : Nat) (Option.some Jvm.ClassFile.FieldType.int) [((0 : Nat), (7 : Nat), (10 : Nat), (15 : Nat))]) ∈ gw := gw_in (List.mem_of_getElem? (i := 179) (by decide +kernel)) (by decide +kernel)
theorem w_180 : (Jvm.Cond.methodLink "GrantMathLaw" (21 : Nat) ({ cls := "GrantMath", name := "move", desc := "(III)V" } : Jvm.MethodName)) ∈ gw := gw_in (List.mem_of_getElem? (i := 180) (by decide +kernel)) (by decide +kernel)
theorem w_181 : (Jvm.Cond.instanceMethod ({ cls := "GrantMath", name := "move", desc := "(III)V" } : Jvm.MethodName)) ∈ gw := gw_in (List.mem_of_getElem? (i := 181) (by decide +kernel)) (by decide +kernel)
theorem w_182 : (Jvm.Cond.selects "GrantMath" ({ cls := "GrantMath", name := "move", desc := "(III)V" } : Jvm.MethodName) ({ cls := "GrantMath", name := "move", desc := "(III)V" } : Jvm.MethodName)) ∈ gw := gw_in (List.mem_of_getElem? (i := 182) (by decide +kernel)) (by decide +kernel)
theorem w_183 : (Jvm.Cond.code ({ cls := "GrantMath", name := "move", desc := "(III)V" } : Jvm.MethodName) prog_1_method_4_code (5 : Nat) (Option.none : Option Jvm.ClassFile.FieldType)) ∈ gw := gw_in (List.mem_of_getElem? (i := 183) (by decide +kernel)) (by decide +kernel)
theorem w_184 : (Jvm.Cond.methodLink "GrantMath" (50 : Nat) ({ cls := "GrantMath", name := "copy", desc := "(II)V" } : Jvm.MethodName)) ∈ gw := gw_in (List.mem_of_getElem? (i := 184) (by decide +kernel)) (by decide +kernel)
theorem w_186 : (Jvm.Cond.instanceMethod ({ cls := "GrantMath", name := "copy", desc := "(II)V" } : Jvm.MethodName)) ∈ gw := gw_in (List.mem_of_getElem? (i := 186) (by decide +kernel)) (by decide +kernel)
theorem w_187 : (Jvm.Cond.code ({ cls := "GrantMath", name := "copy", desc := "(II)V" } : Jvm.MethodName) prog_1_method_15_code (3 : Nat) (Option.none : Option Jvm.ClassFile.FieldType)) ∈ gw := gw_in (List.mem_of_getElem? (i := 187) (by decide +kernel)) (by decide +kernel)
theorem w_188 : (Jvm.Cond.methodLink "GrantMathLaw" (73 : Nat) ({ cls := "GrantMathLaw", name := "narrow", desc := "(LGrantMath;III[J)I" } : Jvm.MethodName)) ∈ gw := gw_in (List.mem_of_getElem? (i := 188) (by decide +kernel)) (by decide +kernel)
theorem w_189 : (Jvm.Cond.static ({ cls := "GrantMathLaw", name := "narrow", desc := "(LGrantMath;III[J)I" } : Jvm.MethodName)) ∈ gw := gw_in (List.mem_of_getElem? (i := 189) (by decide +kernel)) (by decide +kernel)
theorem w_190 : (Jvm.Cond.codeWith ({ cls := "GrantMathLaw", name := "narrow", desc := "(LGrantMath;III[J)I" } : Jvm.MethodName) method_6_code (6 : Nat) (Option.some Jvm.ClassFile.FieldType.int) [((0 : Nat), (19 : Nat), (22 : Nat), (15 : Nat))]) ∈ gw := gw_in (List.mem_of_getElem? (i := 190) (by decide +kernel)) (by decide +kernel)
theorem w_191 : (Jvm.Cond.methodLink "GrantMathLaw" (25 : Nat) ({ cls := "GrantMath", name := "narrow", desc := "(III)Z" } : Jvm.MethodName)) ∈ gw := gw_in (List.mem_of_getElem? (i := 191) (by decide +kernel)) (by decide +kernel)
theorem w_192 : (Jvm.Cond.instanceMethod ({ cls := "GrantMath", name := "narrow", desc := "(III)Z" } : Jvm.MethodName)) ∈ gw := gw_in (List.mem_of_getElem? (i := 192) (by decide +kernel)) (by decide +kernel)
theorem w_193 : (Jvm.Cond.selects "GrantMath" ({ cls := "GrantMath", name := "narrow", desc := "(III)Z" } : Jvm.MethodName) ({ cls := "GrantMath", name := "narrow", desc := "(III)Z" } : Jvm.MethodName)) ∈ gw := gw_in (List.mem_of_getElem? (i := 193) (by decide +kernel)) (by decide +kernel)
theorem w_194 : (Jvm.Cond.code ({ cls := "GrantMath", name := "narrow", desc := "(III)Z" } : Jvm.MethodName) prog_1_method_5_code (5 : Nat) (Option.some Jvm.ClassFile.FieldType.boolean)) ∈ gw := gw_in (List.mem_of_getElem? (i := 194) (by decide +kernel)) (by decide +kernel)
theorem w_195 : (Jvm.Cond.methodLink "GrantMathLaw" (77 : Nat) ({ cls := "GrantMathLaw", name := "restrict", desc := "(LGrantMath;III[J)I" } : Jvm.MethodName)) ∈ gw := gw_in (List.mem_of_getElem? (i := 195) (by decide +kernel)) (by decide +kernel)
theorem w_196 : (Jvm.Cond.static ({ cls := "GrantMathLaw", name := "restrict", desc := "(LGrantMath;III[J)I" } : Jvm.MethodName)) ∈ gw := gw_in (List.mem_of_getElem? (i := 196) (by decide +kernel)) (by decide +kernel)
theorem w_197 : (Jvm.Cond.codeWith ({ cls := "GrantMathLaw", name := "restrict", desc := "(LGrantMath;III[J)I" } : Jvm.MethodName) method_7_code (6 : Nat) (Option.some Jvm.ClassFile.FieldType.int) [((0 : Nat), (19 : Nat), (22 : Nat), (15 : Nat))]) ∈ gw := gw_in (List.mem_of_getElem? (i := 197) (by decide +kernel)) (by decide +kernel)
theorem w_198 : (Jvm.Cond.methodLink "GrantMathLaw" (29 : Nat) ({ cls := "GrantMath", name := "restrict", desc := "(III)Z" } : Jvm.MethodName)) ∈ gw := gw_in (List.mem_of_getElem? (i := 198) (by decide +kernel)) (by decide +kernel)
theorem w_199 : (Jvm.Cond.instanceMethod ({ cls := "GrantMath", name := "restrict", desc := "(III)Z" } : Jvm.MethodName)) ∈ gw := gw_in (List.mem_of_getElem? (i := 199) (by decide +kernel)) (by decide +kernel)
theorem w_200 : (Jvm.Cond.selects "GrantMath" ({ cls := "GrantMath", name := "restrict", desc := "(III)Z" } : Jvm.MethodName) ({ cls := "GrantMath", name := "restrict", desc := "(III)Z" } : Jvm.MethodName)) ∈ gw := gw_in (List.mem_of_getElem? (i := 200) (by decide +kernel)) (by decide +kernel)
theorem w_201 : (Jvm.Cond.code ({ cls := "GrantMath", name := "restrict", desc := "(III)Z" } : Jvm.MethodName) prog_1_method_6_code (6 : Nat) (Option.some Jvm.ClassFile.FieldType.boolean)) ∈ gw := gw_in (List.mem_of_getElem? (i := 201) (by decide +kernel)) (by decide +kernel)
theorem w_202 : (Jvm.Cond.methodLink "GrantMathLaw" (80 : Nat) ({ cls := "GrantMathLaw", name := "seal", desc := "(LGrantMath;III[J)I" } : Jvm.MethodName)) ∈ gw := gw_in (List.mem_of_getElem? (i := 202) (by decide +kernel)) (by decide +kernel)
theorem w_203 : (Jvm.Cond.static ({ cls := "GrantMathLaw", name := "seal", desc := "(LGrantMath;III[J)I" } : Jvm.MethodName)) ∈ gw := gw_in (List.mem_of_getElem? (i := 203) (by decide +kernel)) (by decide +kernel)
theorem w_204 : (Jvm.Cond.codeWith ({ cls := "GrantMathLaw", name := "seal", desc := "(LGrantMath;III[J)I" } : Jvm.MethodName) method_8_code (6 : Nat) (Option.some Jvm.ClassFile.FieldType.int) [((0 : Nat), (12 : Nat), (15 : Nat), (15 : Nat))]) ∈ gw := gw_in (List.mem_of_getElem? (i := 204) (by decide +kernel)) (by decide +kernel)
theorem w_205 : (Jvm.Cond.methodLink "GrantMathLaw" (32 : Nat) ({ cls := "GrantMath", name := "seal", desc := "(III)I" } : Jvm.MethodName)) ∈ gw := gw_in (List.mem_of_getElem? (i := 205) (by decide +kernel)) (by decide +kernel)
theorem w_206 : (Jvm.Cond.instanceMethod ({ cls := "GrantMath", name := "seal", desc := "(III)I" } : Jvm.MethodName)) ∈ gw := gw_in (List.mem_of_getElem? (i := 206) (by decide +kernel)) (by decide +kernel)
theorem w_207 : (Jvm.Cond.selects "GrantMath" ({ cls := "GrantMath", name := "seal", desc := "(III)I" } : Jvm.MethodName) ({ cls := "GrantMath", name := "seal", desc := "(III)I" } : Jvm.MethodName)) ∈ gw := gw_in (List.mem_of_getElem? (i := 207) (by decide +kernel)) (by decide +kernel)
theorem w_208 : (Jvm.Cond.code ({ cls := "GrantMath", name := "seal", desc := "(III)I" } : Jvm.MethodName) prog_1_method_7_code (6 : Nat) (Option.some Jvm.ClassFile.FieldType.int)) ∈ gw := gw_in (List.mem_of_getElem? (i := 208) (by decide +kernel)) (by decide +kernel)
theorem w_209 : (Jvm.Cond.methodLink "GrantMath" (58 : Nat) ({ cls := "GrantMath", name := "sealingCause", desc := "(II)I" } : Jvm.MethodName)) ∈ gw := gw_in (List.mem_of_getElem? (i := 209) (by decide +kernel)) (by decide +kernel)
theorem w_211 : (Jvm.Cond.instanceMethod ({ cls := "GrantMath", name := "sealingCause", desc := "(II)I" } : Jvm.MethodName)) ∈ gw := gw_in (List.mem_of_getElem? (i := 211) (by decide +kernel)) (by decide +kernel)
theorem w_212 : (Jvm.Cond.code ({ cls := "GrantMath", name := "sealingCause", desc := "(II)I" } : Jvm.MethodName) prog_1_method_20_code (5 : Nat) (Option.some Jvm.ClassFile.FieldType.int)) ∈ gw := gw_in (List.mem_of_getElem? (i := 212) (by decide +kernel)) (by decide +kernel)
theorem w_213 : (Jvm.Cond.constant "GrantMath" (85 : Nat) (65535 : Int32)) ∈ gw := gw_in (List.mem_of_getElem? (i := 213) (by decide +kernel)) (by decide +kernel)
theorem w_214 : (Jvm.Cond.methodLink "GrantMathLaw" (83 : Nat) ({ cls := "GrantMathLaw", name := "unseal", desc := "(LGrantMath;III[J)I" } : Jvm.MethodName)) ∈ gw := gw_in (List.mem_of_getElem? (i := 214) (by decide +kernel)) (by decide +kernel)
theorem w_215 : (Jvm.Cond.static ({ cls := "GrantMathLaw", name := "unseal", desc := "(LGrantMath;III[J)I" } : Jvm.MethodName)) ∈ gw := gw_in (List.mem_of_getElem? (i := 215) (by decide +kernel)) (by decide +kernel)
theorem w_216 : (Jvm.Cond.codeWith ({ cls := "GrantMathLaw", name := "unseal", desc := "(LGrantMath;III[J)I" } : Jvm.MethodName) method_9_code (6 : Nat) (Option.some Jvm.ClassFile.FieldType.int) [((0 : Nat), (12 : Nat), (15 : Nat), (15 : Nat))]) ∈ gw := gw_in (List.mem_of_getElem? (i := 216) (by decide +kernel)) (by decide +kernel)
theorem w_217 : (Jvm.Cond.methodLink "GrantMathLaw" (36 : Nat) ({ cls := "GrantMath", name := "unseal", desc := "(III)I" } : Jvm.MethodName)) ∈ gw := gw_in (List.mem_of_getElem? (i := 217) (by decide +kernel)) (by decide +kernel)
theorem w_218 : (Jvm.Cond.instanceMethod ({ cls := "GrantMath", name := "unseal", desc := "(III)I" } : Jvm.MethodName)) ∈ gw := gw_in (List.mem_of_getElem? (i := 218) (by decide +kernel)) (by decide +kernel)
theorem w_219 : (Jvm.Cond.selects "GrantMath" ({ cls := "GrantMath", name := "unseal", desc := "(III)I" } : Jvm.MethodName) ({ cls := "GrantMath", name := "unseal", desc := "(III)I" } : Jvm.MethodName)) ∈ gw := gw_in (List.mem_of_getElem? (i := 219) (by decide +kernel)) (by decide +kernel)
theorem w_220 : (Jvm.Cond.code ({ cls := "GrantMath", name := "unseal", desc := "(III)I" } : Jvm.MethodName) prog_1_method_8_code (5 : Nat) (Option.some Jvm.ClassFile.FieldType.int)) ∈ gw := gw_in (List.mem_of_getElem? (i := 220) (by decide +kernel)) (by decide +kernel)
theorem w_221 : (Jvm.Cond.methodLink "GrantMath" (62 : Nat) ({ cls := "GrantMath", name := "unsealingCause", desc := "(II)I" } : Jvm.MethodName)) ∈ gw := gw_in (List.mem_of_getElem? (i := 221) (by decide +kernel)) (by decide +kernel)
theorem w_223 : (Jvm.Cond.instanceMethod ({ cls := "GrantMath", name := "unsealingCause", desc := "(II)I" } : Jvm.MethodName)) ∈ gw := gw_in (List.mem_of_getElem? (i := 223) (by decide +kernel)) (by decide +kernel)
theorem w_224 : (Jvm.Cond.code ({ cls := "GrantMath", name := "unsealingCause", desc := "(II)I" } : Jvm.MethodName) prog_1_method_21_code (4 : Nat) (Option.some Jvm.ClassFile.FieldType.int)) ∈ gw := gw_in (List.mem_of_getElem? (i := 224) (by decide +kernel)) (by decide +kernel)
theorem w_225 : (Jvm.Cond.methodLink "GrantMathLaw" (86 : Nat) ({ cls := "GrantMathLaw", name := "allows", desc := "(LGrantMath;IIII[J)I" } : Jvm.MethodName)) ∈ gw := gw_in (List.mem_of_getElem? (i := 225) (by decide +kernel)) (by decide +kernel)
theorem w_226 : (Jvm.Cond.static ({ cls := "GrantMathLaw", name := "allows", desc := "(LGrantMath;IIII[J)I" } : Jvm.MethodName)) ∈ gw := gw_in (List.mem_of_getElem? (i := 226) (by decide +kernel)) (by decide +kernel)
theorem w_227 : (Jvm.Cond.codeWith ({ cls := "GrantMathLaw", name := "allows", desc := "(LGrantMath;IIII[J)I" } : Jvm.MethodName) method_10_code (7 : Nat) (Option.some Jvm.ClassFile.FieldType.int) [((0 : Nat), (14 : Nat), (17 : Nat), (13 : Nat)), ((0 : Nat), (14 : Nat), (21 : Nat), (15 : Nat))]) ∈ gw := gw_in (List.mem_of_getElem? (i := 227) (by decide +kernel)) (by decide +kernel)
theorem w_228 : (Jvm.Cond.methodLink "GrantMathLaw" (39 : Nat) ({ cls := "GrantMath", name := "allows", desc := "(IIII)I" } : Jvm.MethodName)) ∈ gw := gw_in (List.mem_of_getElem? (i := 228) (by decide +kernel)) (by decide +kernel)
theorem w_229 : (Jvm.Cond.instanceMethod ({ cls := "GrantMath", name := "allows", desc := "(IIII)I" } : Jvm.MethodName)) ∈ gw := gw_in (List.mem_of_getElem? (i := 229) (by decide +kernel)) (by decide +kernel)
theorem w_230 : (Jvm.Cond.selects "GrantMath" ({ cls := "GrantMath", name := "allows", desc := "(IIII)I" } : Jvm.MethodName) ({ cls := "GrantMath", name := "allows", desc := "(IIII)I" } : Jvm.MethodName)) ∈ gw := gw_in (List.mem_of_getElem? (i := 230) (by decide +kernel)) (by decide +kernel)
theorem w_231 : (Jvm.Cond.code ({ cls := "GrantMath", name := "allows", desc := "(IIII)I" } : Jvm.MethodName) prog_1_method_9_code (5 : Nat) (Option.some Jvm.ClassFile.FieldType.int)) ∈ gw := gw_in (List.mem_of_getElem? (i := 231) (by decide +kernel)) (by decide +kernel)
theorem w_232 : (Jvm.Cond.constant "GrantMath" (65 : Nat) (65536 : Int32)) ∈ gw := gw_in (List.mem_of_getElem? (i := 232) (by decide +kernel)) (by decide +kernel)
theorem w_234 : (Jvm.Cond.methodLink "GrantMathLaw" (90 : Nat) ({ cls := "GrantMathLaw", name := "within", desc := "(LGrantMath;II[J)I" } : Jvm.MethodName)) ∈ gw := gw_in (List.mem_of_getElem? (i := 234) (by decide +kernel)) (by decide +kernel)
theorem w_235 : (Jvm.Cond.static ({ cls := "GrantMathLaw", name := "within", desc := "(LGrantMath;II[J)I" } : Jvm.MethodName)) ∈ gw := gw_in (List.mem_of_getElem? (i := 235) (by decide +kernel)) (by decide +kernel)
theorem w_236 : (Jvm.Cond.codeWith ({ cls := "GrantMathLaw", name := "within", desc := "(LGrantMath;II[J)I" } : Jvm.MethodName) method_11_code (5 : Nat) (Option.some Jvm.ClassFile.FieldType.int) [((0 : Nat), (17 : Nat), (20 : Nat), (15 : Nat))]) ∈ gw := gw_in (List.mem_of_getElem? (i := 236) (by decide +kernel)) (by decide +kernel)
theorem w_237 : (Jvm.Cond.methodLink "GrantMathLaw" (43 : Nat) ({ cls := "GrantMath", name := "within", desc := "(II)Z" } : Jvm.MethodName)) ∈ gw := gw_in (List.mem_of_getElem? (i := 237) (by decide +kernel)) (by decide +kernel)
theorem w_238 : (Jvm.Cond.instanceMethod ({ cls := "GrantMath", name := "within", desc := "(II)Z" } : Jvm.MethodName)) ∈ gw := gw_in (List.mem_of_getElem? (i := 238) (by decide +kernel)) (by decide +kernel)
theorem w_239 : (Jvm.Cond.selects "GrantMath" ({ cls := "GrantMath", name := "within", desc := "(II)Z" } : Jvm.MethodName) ({ cls := "GrantMath", name := "within", desc := "(II)Z" } : Jvm.MethodName)) ∈ gw := gw_in (List.mem_of_getElem? (i := 239) (by decide +kernel)) (by decide +kernel)
theorem w_240 : (Jvm.Cond.code ({ cls := "GrantMath", name := "within", desc := "(II)Z" } : Jvm.MethodName) prog_1_method_10_code (3 : Nat) (Option.some Jvm.ClassFile.FieldType.boolean)) ∈ gw := gw_in (List.mem_of_getElem? (i := 240) (by decide +kernel)) (by decide +kernel)
theorem w_241 : (Jvm.Cond.methodLink "GrantMathLaw" (94 : Nat) ({ cls := "GrantMathLaw", name := "part", desc := "(LGrantMath;II[J)I" } : Jvm.MethodName)) ∈ gw := gw_in (List.mem_of_getElem? (i := 241) (by decide +kernel)) (by decide +kernel)
theorem w_242 : (Jvm.Cond.static ({ cls := "GrantMathLaw", name := "part", desc := "(LGrantMath;II[J)I" } : Jvm.MethodName)) ∈ gw := gw_in (List.mem_of_getElem? (i := 242) (by decide +kernel)) (by decide +kernel)
theorem w_243 : (Jvm.Cond.codeWith ({ cls := "GrantMathLaw", name := "part", desc := "(LGrantMath;II[J)I" } : Jvm.MethodName) method_12_code (5 : Nat) (Option.some Jvm.ClassFile.FieldType.int) [((0 : Nat), (10 : Nat), (13 : Nat), (13 : Nat)), ((0 : Nat), (10 : Nat), (17 : Nat), (15 : Nat))]) ∈ gw := gw_in (List.mem_of_getElem? (i := 243) (by decide +kernel)) (by decide +kernel)
theorem w_244 : (Jvm.Cond.methodLink "GrantMathLaw" (47 : Nat) ({ cls := "GrantMath", name := "part", desc := "(II)I" } : Jvm.MethodName)) ∈ gw := gw_in (List.mem_of_getElem? (i := 244) (by decide +kernel)) (by decide +kernel)
theorem w_245 : (Jvm.Cond.instanceMethod ({ cls := "GrantMath", name := "part", desc := "(II)I" } : Jvm.MethodName)) ∈ gw := gw_in (List.mem_of_getElem? (i := 245) (by decide +kernel)) (by decide +kernel)
theorem w_246 : (Jvm.Cond.selects "GrantMath" ({ cls := "GrantMath", name := "part", desc := "(II)I" } : Jvm.MethodName) ({ cls := "GrantMath", name := "part", desc := "(II)I" } : Jvm.MethodName)) ∈ gw := gw_in (List.mem_of_getElem? (i := 246) (by decide +kernel)) (by decide +kernel)
theorem w_247 : (Jvm.Cond.code ({ cls := "GrantMath", name := "part", desc := "(II)I" } : Jvm.MethodName) prog_1_method_11_code (3 : Nat) (Option.some Jvm.ClassFile.FieldType.int)) ∈ gw := gw_in (List.mem_of_getElem? (i := 247) (by decide +kernel)) (by decide +kernel)
theorem w_249 : (Jvm.Cond.classLink "GrantMathLaw" (52 : Nat) "GrantMathModel") ∈ gw := gw_in (List.mem_of_getElem? (i := 249) (by decide +kernel)) (by decide +kernel)
theorem w_250 : (Jvm.Cond.instantiable "GrantMathModel" (7 : Nat)) ∈ gw := gw_in (List.mem_of_getElem? (i := 250) (by decide +kernel)) (by decide +kernel)
theorem w_251 : (Jvm.Cond.methodLink "GrantMathLaw" (54 : Nat) ({ cls := "GrantMathModel", name := "<init>", desc := "()V" } : Jvm.MethodName)) ∈ gw := gw_in (List.mem_of_getElem? (i := 251) (by decide +kernel)) (by decide +kernel)
theorem w_252 : (Jvm.Cond.instanceMethod ({ cls := "GrantMathModel", name := "<init>", desc := "()V" } : Jvm.MethodName)) ∈ gw := gw_in (List.mem_of_getElem? (i := 252) (by decide +kernel)) (by decide +kernel)
theorem w_253 : (Jvm.Cond.code ({ cls := "GrantMathModel", name := "<init>", desc := "()V" } : Jvm.MethodName) prog_3_method_1_code (1 : Nat) (Option.none : Option Jvm.ClassFile.FieldType)) ∈ gw := gw_in (List.mem_of_getElem? (i := 253) (by decide +kernel)) (by decide +kernel)
theorem w_254 : (Jvm.Cond.methodLink "GrantMathModel" (1 : Nat) ({ cls := "java/lang/Object", name := "<init>", desc := "()V" } : Jvm.MethodName)) ∈ gw := gw_in (List.mem_of_getElem? (i := 254) (by decide +kernel)) (by decide +kernel)
theorem w_255 : (Jvm.Cond.fieldLink "GrantMathModel" (30 : Nat) "GrantMathModel" "err" "I") ∈ gw := gw_in (List.mem_of_getElem? (i := 255) (by decide +kernel)) (by decide +kernel)
theorem w_256 : (Jvm.Cond.fieldLink "GrantMathModel" (9 : Nat) "GrantMathModel" "address" "[J") ∈ gw := gw_in (List.mem_of_getElem? (i := 256) (by decide +kernel)) (by decide +kernel)
theorem w_257 : (Jvm.Cond.fieldLink "GrantMathModel" (13 : Nat) "GrantMathModel" "base" "[J") ∈ gw := gw_in (List.mem_of_getElem? (i := 257) (by decide +kernel)) (by decide +kernel)
theorem w_258 : (Jvm.Cond.fieldLink "GrantMathModel" (16 : Nat) "GrantMathModel" "top" "[J") ∈ gw := gw_in (List.mem_of_getElem? (i := 258) (by decide +kernel)) (by decide +kernel)
theorem w_259 : (Jvm.Cond.fieldLink "GrantMathModel" (19 : Nat) "GrantMathModel" "permissions" "[I") ∈ gw := gw_in (List.mem_of_getElem? (i := 259) (by decide +kernel)) (by decide +kernel)
theorem w_260 : (Jvm.Cond.fieldLink "GrantMathModel" (23 : Nat) "GrantMathModel" "type" "[I") ∈ gw := gw_in (List.mem_of_getElem? (i := 260) (by decide +kernel)) (by decide +kernel)
theorem w_261 : (Jvm.Cond.fieldLink "GrantMathModel" (26 : Nat) "GrantMathModel" "tag" "[Z") ∈ gw := gw_in (List.mem_of_getElem? (i := 261) (by decide +kernel)) (by decide +kernel)
theorem w_262 : (Jvm.Cond.lays "GrantMathModel" "GrantMathModel" "err" "I") ∈ gw := gw_in (List.mem_of_getElem? (i := 262) (by decide +kernel)) (by decide +kernel)
theorem w_263 : (Jvm.Cond.soleField "GrantMathModel" "err") ∈ gw := gw_in (List.mem_of_getElem? (i := 263) (by decide +kernel)) (by decide +kernel)
theorem w_264 : (Jvm.Cond.laysFinal "GrantMathModel" "GrantMathModel" "address" "[J") ∈ gw := gw_in (List.mem_of_getElem? (i := 264) (by decide +kernel)) (by decide +kernel)
theorem w_265 : (Jvm.Cond.soleField "GrantMathModel" "address") ∈ gw := gw_in (List.mem_of_getElem? (i := 265) (by decide +kernel)) (by decide +kernel)
theorem w_266 : (Jvm.Cond.laysFinal "GrantMathModel" "GrantMathModel" "base" "[J") ∈ gw := gw_in (List.mem_of_getElem? (i := 266) (by decide +kernel)) (by decide +kernel)
theorem w_267 : (Jvm.Cond.soleField "GrantMathModel" "base") ∈ gw := gw_in (List.mem_of_getElem? (i := 267) (by decide +kernel)) (by decide +kernel)
theorem w_268 : (Jvm.Cond.laysFinal "GrantMathModel" "GrantMathModel" "top" "[J") ∈ gw := gw_in (List.mem_of_getElem? (i := 268) (by decide +kernel)) (by decide +kernel)
theorem w_269 : (Jvm.Cond.soleField "GrantMathModel" "top") ∈ gw := gw_in (List.mem_of_getElem? (i := 269) (by decide +kernel)) (by decide +kernel)
theorem w_270 : (Jvm.Cond.laysFinal "GrantMathModel" "GrantMathModel" "permissions" "[I") ∈ gw := gw_in (List.mem_of_getElem? (i := 270) (by decide +kernel)) (by decide +kernel)
theorem w_271 : (Jvm.Cond.soleField "GrantMathModel" "permissions") ∈ gw := gw_in (List.mem_of_getElem? (i := 271) (by decide +kernel)) (by decide +kernel)
theorem w_272 : (Jvm.Cond.laysFinal "GrantMathModel" "GrantMathModel" "type" "[I") ∈ gw := gw_in (List.mem_of_getElem? (i := 272) (by decide +kernel)) (by decide +kernel)
theorem w_273 : (Jvm.Cond.soleField "GrantMathModel" "type") ∈ gw := gw_in (List.mem_of_getElem? (i := 273) (by decide +kernel)) (by decide +kernel)
theorem w_274 : (Jvm.Cond.laysFinal "GrantMathModel" "GrantMathModel" "tag" "[Z") ∈ gw := gw_in (List.mem_of_getElem? (i := 274) (by decide +kernel)) (by decide +kernel)
theorem w_275 : (Jvm.Cond.soleField "GrantMathModel" "tag") ∈ gw := gw_in (List.mem_of_getElem? (i := 275) (by decide +kernel)) (by decide +kernel)
theorem w_276 : (Jvm.Cond.superclass "GrantMathModel" "java/lang/Object") ∈ gw := gw_in (List.mem_of_getElem? (i := 276) (by decide +kernel)) (by decide +kernel)
theorem w_277 : (Jvm.Cond.arrayClass Jvm.ClassFile.FieldType.long) ∈ gw := gw_in (List.mem_of_getElem? (i := 277) (by decide +kernel)) (by decide +kernel)
theorem w_278 : (Jvm.Cond.methodLink "GrantMathLaw" (61 : Nat) ({ cls := "GrantMathModel", name := "thrown", desc := "()I" } : Jvm.MethodName)) ∈ gw := gw_in (List.mem_of_getElem? (i := 278) (by decide +kernel)) (by decide +kernel)
theorem w_279 : (Jvm.Cond.instanceMethod ({ cls := "GrantMathModel", name := "thrown", desc := "()I" } : Jvm.MethodName)) ∈ gw := gw_in (List.mem_of_getElem? (i := 279) (by decide +kernel)) (by decide +kernel)
theorem w_280 : (Jvm.Cond.selects "GrantMathModel" ({ cls := "GrantMathModel", name := "thrown", desc := "()I" } : Jvm.MethodName) ({ cls := "GrantMathModel", name := "thrown", desc := "()I" } : Jvm.MethodName)) ∈ gw := gw_in (List.mem_of_getElem? (i := 280) (by decide +kernel)) (by decide +kernel)
theorem w_281 : (Jvm.Cond.code ({ cls := "GrantMathModel", name := "thrown", desc := "()I" } : Jvm.MethodName) prog_3_method_2_code (1 : Nat) (Option.some Jvm.ClassFile.FieldType.int)) ∈ gw := gw_in (List.mem_of_getElem? (i := 281) (by decide +kernel)) (by decide +kernel)
theorem w_282 : (Jvm.Cond.methodLink "GrantMathLaw" (60 : Nat) ({ cls := "GrantMathModel", name := "root", desc := "(IIII)V" } : Jvm.MethodName)) ∈ gw := gw_in (List.mem_of_getElem? (i := 282) (by decide +kernel)) (by decide +kernel)
theorem w_283 : (Jvm.Cond.instanceMethod ({ cls := "GrantMathModel", name := "root", desc := "(IIII)V" } : Jvm.MethodName)) ∈ gw := gw_in (List.mem_of_getElem? (i := 283) (by decide +kernel)) (by decide +kernel)
theorem w_284 : (Jvm.Cond.selects "GrantMathModel" ({ cls := "GrantMathModel", name := "root", desc := "(IIII)V" } : Jvm.MethodName) ({ cls := "GrantMathModel", name := "root", desc := "(IIII)V" } : Jvm.MethodName)) ∈ gw := gw_in (List.mem_of_getElem? (i := 284) (by decide +kernel)) (by decide +kernel)
theorem w_285 : (Jvm.Cond.code ({ cls := "GrantMathModel", name := "root", desc := "(IIII)V" } : Jvm.MethodName) prog_3_method_8_code (5 : Nat) (Option.none : Option Jvm.ClassFile.FieldType)) ∈ gw := gw_in (List.mem_of_getElem? (i := 285) (by decide +kernel)) (by decide +kernel)
theorem w_286 : (Jvm.Cond.methodLink "GrantMathModel" (42 : Nat) ({ cls := "GrantMathModel", name := "wide", desc := "(I)J" } : Jvm.MethodName)) ∈ gw := gw_in (List.mem_of_getElem? (i := 286) (by decide +kernel)) (by decide +kernel)
theorem w_287 : (Jvm.Cond.static ({ cls := "GrantMathModel", name := "wide", desc := "(I)J" } : Jvm.MethodName)) ∈ gw := gw_in (List.mem_of_getElem? (i := 287) (by decide +kernel)) (by decide +kernel)
theorem w_288 : (Jvm.Cond.code ({ cls := "GrantMathModel", name := "wide", desc := "(I)J" } : Jvm.MethodName) prog_3_method_6_code (1 : Nat) (Option.some Jvm.ClassFile.FieldType.long)) ∈ gw := gw_in (List.mem_of_getElem? (i := 288) (by decide +kernel)) (by decide +kernel)
theorem w_289 : (Jvm.Cond.constantLong "GrantMathModel" (40 : Nat) (4294967296 : Int64)) ∈ gw := gw_in (List.mem_of_getElem? (i := 289) (by decide +kernel)) (by decide +kernel)
theorem w_290 : (Jvm.Cond.constantLong "GrantMathModel" (46 : Nat) (255 : Int64)) ∈ gw := gw_in (List.mem_of_getElem? (i := 290) (by decide +kernel)) (by decide +kernel)
theorem w_291 : (Jvm.Cond.methodLink "GrantMathModel" (36 : Nat) ({ cls := "GrantMathModel", name := "in", desc := "(JJJ)Z" } : Jvm.MethodName)) ∈ gw := gw_in (List.mem_of_getElem? (i := 291) (by decide +kernel)) (by decide +kernel)
theorem w_292 : (Jvm.Cond.static ({ cls := "GrantMathModel", name := "in", desc := "(JJJ)Z" } : Jvm.MethodName)) ∈ gw := gw_in (List.mem_of_getElem? (i := 292) (by decide +kernel)) (by decide +kernel)
theorem w_293 : (Jvm.Cond.code ({ cls := "GrantMathModel", name := "in", desc := "(JJJ)Z" } : Jvm.MethodName) prog_3_method_3_code (6 : Nat) (Option.some Jvm.ClassFile.FieldType.boolean)) ∈ gw := gw_in (List.mem_of_getElem? (i := 293) (by decide +kernel)) (by decide +kernel)
theorem w_294 : (Jvm.Cond.methodLink "GrantMathModel" (48 : Nat) ({ cls := "GrantMathModel", name := "fails", desc := "(ZI)Z" } : Jvm.MethodName)) ∈ gw := gw_in (List.mem_of_getElem? (i := 294) (by decide +kernel)) (by decide +kernel)
theorem w_296 : (Jvm.Cond.instanceMethod ({ cls := "GrantMathModel", name := "fails", desc := "(ZI)Z" } : Jvm.MethodName)) ∈ gw := gw_in (List.mem_of_getElem? (i := 296) (by decide +kernel)) (by decide +kernel)
theorem w_297 : (Jvm.Cond.code ({ cls := "GrantMathModel", name := "fails", desc := "(ZI)Z" } : Jvm.MethodName) prog_3_method_4_code (3 : Nat) (Option.some Jvm.ClassFile.FieldType.boolean)) ∈ gw := gw_in (List.mem_of_getElem? (i := 297) (by decide +kernel)) (by decide +kernel)
theorem w_298 : (Jvm.Cond.methodLink "GrantMathModel" (52 : Nat) ({ cls := "GrantMathModel", name := "is", desc := "(I)Z" } : Jvm.MethodName)) ∈ gw := gw_in (List.mem_of_getElem? (i := 298) (by decide +kernel)) (by decide +kernel)
theorem w_299 : (Jvm.Cond.static ({ cls := "GrantMathModel", name := "is", desc := "(I)Z" } : Jvm.MethodName)) ∈ gw := gw_in (List.mem_of_getElem? (i := 299) (by decide +kernel)) (by decide +kernel)
theorem w_300 : (Jvm.Cond.code ({ cls := "GrantMathModel", name := "is", desc := "(I)Z" } : Jvm.MethodName) prog_3_method_5_code (1 : Nat) (Option.some Jvm.ClassFile.FieldType.boolean)) ∈ gw := gw_in (List.mem_of_getElem? (i := 300) (by decide +kernel)) (by decide +kernel)
theorem w_301 : (Jvm.Cond.constantLong "GrantMathModel" (34 : Nat) (15 : Int64)) ∈ gw := gw_in (List.mem_of_getElem? (i := 301) (by decide +kernel)) (by decide +kernel)
theorem w_302 : (Jvm.Cond.methodLink "GrantMathModel" (56 : Nat) ({ cls := "GrantMathModel", name := "give", desc := "(IJJJIIZ)V" } : Jvm.MethodName)) ∈ gw := gw_in (List.mem_of_getElem? (i := 302) (by decide +kernel)) (by decide +kernel)
theorem w_304 : (Jvm.Cond.instanceMethod ({ cls := "GrantMathModel", name := "give", desc := "(IJJJIIZ)V" } : Jvm.MethodName)) ∈ gw := gw_in (List.mem_of_getElem? (i := 304) (by decide +kernel)) (by decide +kernel)
theorem w_305 : (Jvm.Cond.code ({ cls := "GrantMathModel", name := "give", desc := "(IJJJIIZ)V" } : Jvm.MethodName) prog_3_method_7_code (11 : Nat) (Option.none : Option Jvm.ClassFile.FieldType)) ∈ gw := gw_in (List.mem_of_getElem? (i := 305) (by decide +kernel)) (by decide +kernel)
theorem w_306 : (Jvm.Cond.methodLink "GrantMathLaw" (68 : Nat) ({ cls := "GrantMathModel", name := "number", desc := "(II)V" } : Jvm.MethodName)) ∈ gw := gw_in (List.mem_of_getElem? (i := 306) (by decide +kernel)) (by decide +kernel)
theorem w_307 : (Jvm.Cond.instanceMethod ({ cls := "GrantMathModel", name := "number", desc := "(II)V" } : Jvm.MethodName)) ∈ gw := gw_in (List.mem_of_getElem? (i := 307) (by decide +kernel)) (by decide +kernel)
theorem w_308 : (Jvm.Cond.selects "GrantMathModel" ({ cls := "GrantMathModel", name := "number", desc := "(II)V" } : Jvm.MethodName) ({ cls := "GrantMathModel", name := "number", desc := "(II)V" } : Jvm.MethodName)) ∈ gw := gw_in (List.mem_of_getElem? (i := 308) (by decide +kernel)) (by decide +kernel)
theorem w_309 : (Jvm.Cond.code ({ cls := "GrantMathModel", name := "number", desc := "(II)V" } : Jvm.MethodName) prog_3_method_9_code (3 : Nat) (Option.none : Option Jvm.ClassFile.FieldType)) ∈ gw := gw_in (List.mem_of_getElem? (i := 309) (by decide +kernel)) (by decide +kernel)
theorem w_310 : (Jvm.Cond.methodLink "GrantMathLaw" (72 : Nat) ({ cls := "GrantMathModel", name := "move", desc := "(III)V" } : Jvm.MethodName)) ∈ gw := gw_in (List.mem_of_getElem? (i := 310) (by decide +kernel)) (by decide +kernel)
theorem w_311 : (Jvm.Cond.instanceMethod ({ cls := "GrantMathModel", name := "move", desc := "(III)V" } : Jvm.MethodName)) ∈ gw := gw_in (List.mem_of_getElem? (i := 311) (by decide +kernel)) (by decide +kernel)
theorem w_312 : (Jvm.Cond.selects "GrantMathModel" ({ cls := "GrantMathModel", name := "move", desc := "(III)V" } : Jvm.MethodName) ({ cls := "GrantMathModel", name := "move", desc := "(III)V" } : Jvm.MethodName)) ∈ gw := gw_in (List.mem_of_getElem? (i := 312) (by decide +kernel)) (by decide +kernel)
theorem w_313 : (Jvm.Cond.code ({ cls := "GrantMathModel", name := "move", desc := "(III)V" } : Jvm.MethodName) prog_3_method_11_code (4 : Nat) (Option.none : Option Jvm.ClassFile.FieldType)) ∈ gw := gw_in (List.mem_of_getElem? (i := 313) (by decide +kernel)) (by decide +kernel)
theorem w_314 : (Jvm.Cond.methodLink "GrantMathModel" (60 : Nat) ({ cls := "GrantMathModel", name := "isSealed", desc := "(I)Z" } : Jvm.MethodName)) ∈ gw := gw_in (List.mem_of_getElem? (i := 314) (by decide +kernel)) (by decide +kernel)
theorem w_316 : (Jvm.Cond.instanceMethod ({ cls := "GrantMathModel", name := "isSealed", desc := "(I)Z" } : Jvm.MethodName)) ∈ gw := gw_in (List.mem_of_getElem? (i := 316) (by decide +kernel)) (by decide +kernel)
theorem w_317 : (Jvm.Cond.code ({ cls := "GrantMathModel", name := "isSealed", desc := "(I)Z" } : Jvm.MethodName) prog_3_method_10_code (2 : Nat) (Option.some Jvm.ClassFile.FieldType.boolean)) ∈ gw := gw_in (List.mem_of_getElem? (i := 317) (by decide +kernel)) (by decide +kernel)
theorem w_318 : (Jvm.Cond.methodLink "GrantMathLaw" (76 : Nat) ({ cls := "GrantMathModel", name := "narrow", desc := "(III)Z" } : Jvm.MethodName)) ∈ gw := gw_in (List.mem_of_getElem? (i := 318) (by decide +kernel)) (by decide +kernel)
theorem w_319 : (Jvm.Cond.instanceMethod ({ cls := "GrantMathModel", name := "narrow", desc := "(III)Z" } : Jvm.MethodName)) ∈ gw := gw_in (List.mem_of_getElem? (i := 319) (by decide +kernel)) (by decide +kernel)
theorem w_320 : (Jvm.Cond.selects "GrantMathModel" ({ cls := "GrantMathModel", name := "narrow", desc := "(III)Z" } : Jvm.MethodName) ({ cls := "GrantMathModel", name := "narrow", desc := "(III)Z" } : Jvm.MethodName)) ∈ gw := gw_in (List.mem_of_getElem? (i := 320) (by decide +kernel)) (by decide +kernel)
theorem w_321 : (Jvm.Cond.code ({ cls := "GrantMathModel", name := "narrow", desc := "(III)Z" } : Jvm.MethodName) prog_3_method_12_code (8 : Nat) (Option.some Jvm.ClassFile.FieldType.boolean)) ∈ gw := gw_in (List.mem_of_getElem? (i := 321) (by decide +kernel)) (by decide +kernel)
theorem w_322 : (Jvm.Cond.methodLink "GrantMathLaw" (79 : Nat) ({ cls := "GrantMathModel", name := "restrict", desc := "(III)Z" } : Jvm.MethodName)) ∈ gw := gw_in (List.mem_of_getElem? (i := 322) (by decide +kernel)) (by decide +kernel)
theorem w_323 : (Jvm.Cond.instanceMethod ({ cls := "GrantMathModel", name := "restrict", desc := "(III)Z" } : Jvm.MethodName)) ∈ gw := gw_in (List.mem_of_getElem? (i := 323) (by decide +kernel)) (by decide +kernel)
theorem w_324 : (Jvm.Cond.selects "GrantMathModel" ({ cls := "GrantMathModel", name := "restrict", desc := "(III)Z" } : Jvm.MethodName) ({ cls := "GrantMathModel", name := "restrict", desc := "(III)Z" } : Jvm.MethodName)) ∈ gw := gw_in (List.mem_of_getElem? (i := 324) (by decide +kernel)) (by decide +kernel)
theorem w_325 : (Jvm.Cond.code ({ cls := "GrantMathModel", name := "restrict", desc := "(III)Z" } : Jvm.MethodName) prog_3_method_13_code (6 : Nat) (Option.some Jvm.ClassFile.FieldType.boolean)) ∈ gw := gw_in (List.mem_of_getElem? (i := 325) (by decide +kernel)) (by decide +kernel)
theorem w_326 : (Jvm.Cond.methodLink "GrantMathLaw" (82 : Nat) ({ cls := "GrantMathModel", name := "seal", desc := "(III)I" } : Jvm.MethodName)) ∈ gw := gw_in (List.mem_of_getElem? (i := 326) (by decide +kernel)) (by decide +kernel)
theorem w_327 : (Jvm.Cond.instanceMethod ({ cls := "GrantMathModel", name := "seal", desc := "(III)I" } : Jvm.MethodName)) ∈ gw := gw_in (List.mem_of_getElem? (i := 327) (by decide +kernel)) (by decide +kernel)
theorem w_328 : (Jvm.Cond.selects "GrantMathModel" ({ cls := "GrantMathModel", name := "seal", desc := "(III)I" } : Jvm.MethodName) ({ cls := "GrantMathModel", name := "seal", desc := "(III)I" } : Jvm.MethodName)) ∈ gw := gw_in (List.mem_of_getElem? (i := 328) (by decide +kernel)) (by decide +kernel)
theorem w_329 : (Jvm.Cond.code ({ cls := "GrantMathModel", name := "seal", desc := "(III)I" } : Jvm.MethodName) prog_3_method_16_code (4 : Nat) (Option.some Jvm.ClassFile.FieldType.int)) ∈ gw := gw_in (List.mem_of_getElem? (i := 329) (by decide +kernel)) (by decide +kernel)
theorem w_330 : (Jvm.Cond.methodLink "GrantMathModel" (63 : Nat) ({ cls := "GrantMathModel", name := "may", desc := "(II)Z" } : Jvm.MethodName)) ∈ gw := gw_in (List.mem_of_getElem? (i := 330) (by decide +kernel)) (by decide +kernel)
theorem w_332 : (Jvm.Cond.instanceMethod ({ cls := "GrantMathModel", name := "may", desc := "(II)Z" } : Jvm.MethodName)) ∈ gw := gw_in (List.mem_of_getElem? (i := 332) (by decide +kernel)) (by decide +kernel)
theorem w_333 : (Jvm.Cond.code ({ cls := "GrantMathModel", name := "may", desc := "(II)Z" } : Jvm.MethodName) prog_3_method_14_code (4 : Nat) (Option.some Jvm.ClassFile.FieldType.boolean)) ∈ gw := gw_in (List.mem_of_getElem? (i := 333) (by decide +kernel)) (by decide +kernel)
theorem w_334 : (Jvm.Cond.methodLink "GrantMathModel" (67 : Nat) ({ cls := "GrantMathModel", name := "holds", desc := "(IJJ)Z" } : Jvm.MethodName)) ∈ gw := gw_in (List.mem_of_getElem? (i := 334) (by decide +kernel)) (by decide +kernel)
theorem w_336 : (Jvm.Cond.instanceMethod ({ cls := "GrantMathModel", name := "holds", desc := "(IJJ)Z" } : Jvm.MethodName)) ∈ gw := gw_in (List.mem_of_getElem? (i := 336) (by decide +kernel)) (by decide +kernel)
theorem w_337 : (Jvm.Cond.code ({ cls := "GrantMathModel", name := "holds", desc := "(IJJ)Z" } : Jvm.MethodName) prog_3_method_15_code (9 : Nat) (Option.some Jvm.ClassFile.FieldType.boolean)) ∈ gw := gw_in (List.mem_of_getElem? (i := 337) (by decide +kernel)) (by decide +kernel)
theorem w_338 : (Jvm.Cond.constantLong "GrantMathModel" (71 : Nat) (65535 : Int64)) ∈ gw := gw_in (List.mem_of_getElem? (i := 338) (by decide +kernel)) (by decide +kernel)
theorem w_339 : (Jvm.Cond.methodLink "GrantMathLaw" (85 : Nat) ({ cls := "GrantMathModel", name := "unseal", desc := "(III)I" } : Jvm.MethodName)) ∈ gw := gw_in (List.mem_of_getElem? (i := 339) (by decide +kernel)) (by decide +kernel)
theorem w_340 : (Jvm.Cond.instanceMethod ({ cls := "GrantMathModel", name := "unseal", desc := "(III)I" } : Jvm.MethodName)) ∈ gw := gw_in (List.mem_of_getElem? (i := 340) (by decide +kernel)) (by decide +kernel)
theorem w_341 : (Jvm.Cond.selects "GrantMathModel" ({ cls := "GrantMathModel", name := "unseal", desc := "(III)I" } : Jvm.MethodName) ({ cls := "GrantMathModel", name := "unseal", desc := "(III)I" } : Jvm.MethodName)) ∈ gw := gw_in (List.mem_of_getElem? (i := 341) (by decide +kernel)) (by decide +kernel)
theorem w_342 : (Jvm.Cond.code ({ cls := "GrantMathModel", name := "unseal", desc := "(III)I" } : Jvm.MethodName) prog_3_method_17_code (4 : Nat) (Option.some Jvm.ClassFile.FieldType.int)) ∈ gw := gw_in (List.mem_of_getElem? (i := 342) (by decide +kernel)) (by decide +kernel)
theorem w_343 : (Jvm.Cond.methodLink "GrantMathLaw" (89 : Nat) ({ cls := "GrantMathModel", name := "allows", desc := "(IIII)I" } : Jvm.MethodName)) ∈ gw := gw_in (List.mem_of_getElem? (i := 343) (by decide +kernel)) (by decide +kernel)
theorem w_344 : (Jvm.Cond.instanceMethod ({ cls := "GrantMathModel", name := "allows", desc := "(IIII)I" } : Jvm.MethodName)) ∈ gw := gw_in (List.mem_of_getElem? (i := 344) (by decide +kernel)) (by decide +kernel)
theorem w_345 : (Jvm.Cond.selects "GrantMathModel" ({ cls := "GrantMathModel", name := "allows", desc := "(IIII)I" } : Jvm.MethodName) ({ cls := "GrantMathModel", name := "allows", desc := "(IIII)I" } : Jvm.MethodName)) ∈ gw := gw_in (List.mem_of_getElem? (i := 345) (by decide +kernel)) (by decide +kernel)
theorem w_346 : (Jvm.Cond.code ({ cls := "GrantMathModel", name := "allows", desc := "(IIII)I" } : Jvm.MethodName) prog_3_method_18_code (5 : Nat) (Option.some Jvm.ClassFile.FieldType.int)) ∈ gw := gw_in (List.mem_of_getElem? (i := 346) (by decide +kernel)) (by decide +kernel)
theorem w_347 : (Jvm.Cond.constantLong "GrantMathModel" (73 : Nat) (65536 : Int64)) ∈ gw := gw_in (List.mem_of_getElem? (i := 347) (by decide +kernel)) (by decide +kernel)
theorem w_348 : (Jvm.Cond.methodLink "GrantMathLaw" (93 : Nat) ({ cls := "GrantMathModel", name := "within", desc := "(II)Z" } : Jvm.MethodName)) ∈ gw := gw_in (List.mem_of_getElem? (i := 348) (by decide +kernel)) (by decide +kernel)
theorem w_349 : (Jvm.Cond.instanceMethod ({ cls := "GrantMathModel", name := "within", desc := "(II)Z" } : Jvm.MethodName)) ∈ gw := gw_in (List.mem_of_getElem? (i := 349) (by decide +kernel)) (by decide +kernel)
theorem w_350 : (Jvm.Cond.selects "GrantMathModel" ({ cls := "GrantMathModel", name := "within", desc := "(II)Z" } : Jvm.MethodName) ({ cls := "GrantMathModel", name := "within", desc := "(II)Z" } : Jvm.MethodName)) ∈ gw := gw_in (List.mem_of_getElem? (i := 350) (by decide +kernel)) (by decide +kernel)
theorem w_351 : (Jvm.Cond.code ({ cls := "GrantMathModel", name := "within", desc := "(II)Z" } : Jvm.MethodName) prog_3_method_19_code (3 : Nat) (Option.some Jvm.ClassFile.FieldType.boolean)) ∈ gw := gw_in (List.mem_of_getElem? (i := 351) (by decide +kernel)) (by decide +kernel)
theorem w_352 : (Jvm.Cond.methodLink "GrantMathLaw" (96 : Nat) ({ cls := "GrantMathModel", name := "part", desc := "(II)I" } : Jvm.MethodName)) ∈ gw := gw_in (List.mem_of_getElem? (i := 352) (by decide +kernel)) (by decide +kernel)
theorem w_353 : (Jvm.Cond.instanceMethod ({ cls := "GrantMathModel", name := "part", desc := "(II)I" } : Jvm.MethodName)) ∈ gw := gw_in (List.mem_of_getElem? (i := 353) (by decide +kernel)) (by decide +kernel)
theorem w_354 : (Jvm.Cond.selects "GrantMathModel" ({ cls := "GrantMathModel", name := "part", desc := "(II)I" } : Jvm.MethodName) ({ cls := "GrantMathModel", name := "part", desc := "(II)I" } : Jvm.MethodName)) ∈ gw := gw_in (List.mem_of_getElem? (i := 354) (by decide +kernel)) (by decide +kernel)
theorem w_355 : (Jvm.Cond.code ({ cls := "GrantMathModel", name := "part", desc := "(II)I" } : Jvm.MethodName) prog_3_method_20_code (3 : Nat) (Option.some Jvm.ClassFile.FieldType.int)) ∈ gw := gw_in (List.mem_of_getElem? (i := 355) (by decide +kernel)) (by decide +kernel)
theorem w_356 : (Jvm.Cond.constantLong "GrantMathModel" (75 : Nat) (5 : Int64)) ∈ gw := gw_in (List.mem_of_getElem? (i := 356) (by decide +kernel)) (by decide +kernel)
theorem w_357 : (Jvm.Cond.methodLink "GrantMathLaw" (100 : Nat) ({ cls := "GrantMathModel", name := "count", desc := "(II)I" } : Jvm.MethodName)) ∈ gw := gw_in (List.mem_of_getElem? (i := 357) (by decide +kernel)) (by decide +kernel)
theorem w_358 : (Jvm.Cond.instanceMethod ({ cls := "GrantMathModel", name := "count", desc := "(II)I" } : Jvm.MethodName)) ∈ gw := gw_in (List.mem_of_getElem? (i := 358) (by decide +kernel)) (by decide +kernel)
theorem w_359 : (Jvm.Cond.selects "GrantMathModel" ({ cls := "GrantMathModel", name := "count", desc := "(II)I" } : Jvm.MethodName) ({ cls := "GrantMathModel", name := "count", desc := "(II)I" } : Jvm.MethodName)) ∈ gw := gw_in (List.mem_of_getElem? (i := 359) (by decide +kernel)) (by decide +kernel)
theorem w_360 : (Jvm.Cond.code ({ cls := "GrantMathModel", name := "count", desc := "(II)I" } : Jvm.MethodName) prog_3_method_21_code (5 : Nat) (Option.some Jvm.ClassFile.FieldType.int)) ∈ gw := gw_in (List.mem_of_getElem? (i := 360) (by decide +kernel)) (by decide +kernel)
theorem w_361 : (Jvm.Cond.sameMethod "java/lang/Throwable" "java/lang/Throwable" "fillInStackTrace" "(I)Ljava/lang/Throwable;") ∈ gw := gw_in (List.mem_of_getElem? (i := 361) (by decide +kernel)) (by decide +kernel)
theorem inX : ∀ w ∈ u_ws RX TX 6, w ∈ gw := by decide +kernel
theorem inM : ∀ w ∈ u_ws RM TM 7, w ∈ gw := by decide +kernel
end
section
/-! Rows that decode each instruction. Laid by program. -/
theorem dX_init_0 : decode cX_init 0 = .ok (.aload_n 0, 1) := by decide +kernel
theorem dX_init_1 : decode cX_init 1 = .ok (.invokespecial 1, 3) := by decide +kernel
theorem dX_init_4 : decode cX_init 4 = .ok (.aload_n 0, 1) := by decide +kernel
theorem dX_init_5 : decode cX_init 5 = .ok (.bipush 16, 2) := by decide +kernel
theorem dX_init_7 : decode cX_init 7 = .ok (.newarray .int, 2) := by decide +kernel
theorem dX_init_9 : decode cX_init 9 = .ok (.putfield 9, 3) := by decide +kernel
theorem dX_init_12 : decode cX_init 12 = .ok (.aload_n 0, 1) := by decide +kernel
theorem dX_init_13 : decode cX_init 13 = .ok (.bipush 16, 2) := by decide +kernel
theorem dX_init_15 : decode cX_init 15 = .ok (.newarray .int, 2) := by decide +kernel
theorem dX_init_17 : decode cX_init 17 = .ok (.putfield 13, 3) := by decide +kernel
theorem dX_init_20 : decode cX_init 20 = .ok (.aload_n 0, 1) := by decide +kernel
theorem dX_init_21 : decode cX_init 21 = .ok (.bipush 16, 2) := by decide +kernel
theorem dX_init_23 : decode cX_init 23 = .ok (.newarray .int, 2) := by decide +kernel
theorem dX_init_25 : decode cX_init 25 = .ok (.putfield 16, 3) := by decide +kernel
theorem dX_init_28 : decode cX_init 28 = .ok (.aload_n 0, 1) := by decide +kernel
theorem dX_init_29 : decode cX_init 29 = .ok (.bipush 16, 2) := by decide +kernel
theorem dX_init_31 : decode cX_init 31 = .ok (.newarray .int, 2) := by decide +kernel
theorem dX_init_33 : decode cX_init 33 = .ok (.putfield 19, 3) := by decide +kernel
theorem dX_init_36 : decode cX_init 36 = .ok (.aload_n 0, 1) := by decide +kernel
theorem dX_init_37 : decode cX_init 37 = .ok (.bipush 16, 2) := by decide +kernel
theorem dX_init_39 : decode cX_init 39 = .ok (.newarray .int, 2) := by decide +kernel
theorem dX_init_41 : decode cX_init 41 = .ok (.putfield 22, 3) := by decide +kernel
theorem dX_init_44 : decode cX_init 44 = .ok (.aload_n 0, 1) := by decide +kernel
theorem dX_init_45 : decode cX_init 45 = .ok (.bipush 16, 2) := by decide +kernel
theorem dX_init_47 : decode cX_init 47 = .ok (.newarray .boolean, 2) := by decide +kernel
theorem dX_init_49 : decode cX_init 49 = .ok (.putfield 25, 3) := by decide +kernel
theorem dX_init_52 : decode cX_init 52 = .ok (.return_, 1) := by decide +kernel
theorem dX_root_0 : decode cX_root 0 = .ok (.iload_n 2, 1) := by decide +kernel
theorem dX_root_1 : decode cX_root 1 = .ok (.invokestatic 29, 3) := by decide +kernel
theorem dX_root_4 : decode cX_root 4 = .ok (.iload_n 3, 1) := by decide +kernel
theorem dX_root_5 : decode cX_root 5 = .ok (.invokestatic 29, 3) := by decide +kernel
theorem dX_root_8 : decode cX_root 8 = .ok (.lcmp, 1) := by decide +kernel
theorem dX_root_9 : decode cX_root 9 = .ok (.ifCond .le 13, 3) := by decide +kernel
theorem dX_root_12 : decode cX_root 12 = .ok (.new 33, 3) := by decide +kernel
theorem dX_root_15 : decode cX_root 15 = .ok (.dup, 1) := by decide +kernel
theorem dX_root_16 : decode cX_root 16 = .ok (.ldc 35, 2) := by decide +kernel
theorem dX_root_18 : decode cX_root 18 = .ok (.invokespecial 37, 3) := by decide +kernel
theorem dX_root_21 : decode cX_root 21 = .ok (.athrow, 1) := by decide +kernel
theorem dX_root_22 : decode cX_root 22 = .ok (.iload 4, 2) := by decide +kernel
theorem dX_root_24 : decode cX_root 24 = .ok (.ifCond .lt 11, 3) := by decide +kernel
theorem dX_root_27 : decode cX_root 27 = .ok (.iload 4, 2) := by decide +kernel
theorem dX_root_29 : decode cX_root 29 = .ok (.sipush 255, 3) := by decide +kernel
theorem dX_root_32 : decode cX_root 32 = .ok (.if_icmp .le 13, 3) := by decide +kernel
theorem dX_root_35 : decode cX_root 35 = .ok (.new 33, 3) := by decide +kernel
theorem dX_root_38 : decode cX_root 38 = .ok (.dup, 1) := by decide +kernel
theorem dX_root_39 : decode cX_root 39 = .ok (.ldc 40, 2) := by decide +kernel
theorem dX_root_41 : decode cX_root 41 = .ok (.invokespecial 37, 3) := by decide +kernel
theorem dX_root_44 : decode cX_root 44 = .ok (.athrow, 1) := by decide +kernel
theorem dX_root_45 : decode cX_root 45 = .ok (.iload_n 1, 1) := by decide +kernel
theorem dX_root_46 : decode cX_root 46 = .ok (.invokestatic 42, 3) := by decide +kernel
theorem dX_root_49 : decode cX_root 49 = .ok (.aload_n 0, 1) := by decide +kernel
theorem dX_root_50 : decode cX_root 50 = .ok (.getfield 9, 3) := by decide +kernel
theorem dX_root_53 : decode cX_root 53 = .ok (.iload_n 1, 1) := by decide +kernel
theorem dX_root_54 : decode cX_root 54 = .ok (.iload_n 2, 1) := by decide +kernel
theorem dX_root_55 : decode cX_root 55 = .ok (.iastore, 1) := by decide +kernel
theorem dX_root_56 : decode cX_root 56 = .ok (.aload_n 0, 1) := by decide +kernel
theorem dX_root_57 : decode cX_root 57 = .ok (.getfield 13, 3) := by decide +kernel
theorem dX_root_60 : decode cX_root 60 = .ok (.iload_n 1, 1) := by decide +kernel
theorem dX_root_61 : decode cX_root 61 = .ok (.iload_n 2, 1) := by decide +kernel
theorem dX_root_62 : decode cX_root 62 = .ok (.iastore, 1) := by decide +kernel
theorem dX_root_63 : decode cX_root 63 = .ok (.aload_n 0, 1) := by decide +kernel
theorem dX_root_64 : decode cX_root 64 = .ok (.getfield 16, 3) := by decide +kernel
theorem dX_root_67 : decode cX_root 67 = .ok (.iload_n 1, 1) := by decide +kernel
theorem dX_root_68 : decode cX_root 68 = .ok (.iload_n 3, 1) := by decide +kernel
theorem dX_root_69 : decode cX_root 69 = .ok (.iastore, 1) := by decide +kernel
theorem dX_root_70 : decode cX_root 70 = .ok (.aload_n 0, 1) := by decide +kernel
theorem dX_root_71 : decode cX_root 71 = .ok (.getfield 19, 3) := by decide +kernel
theorem dX_root_74 : decode cX_root 74 = .ok (.iload_n 1, 1) := by decide +kernel
theorem dX_root_75 : decode cX_root 75 = .ok (.iload 4, 2) := by decide +kernel
theorem dX_root_77 : decode cX_root 77 = .ok (.iastore, 1) := by decide +kernel
theorem dX_root_78 : decode cX_root 78 = .ok (.aload_n 0, 1) := by decide +kernel
theorem dX_root_79 : decode cX_root 79 = .ok (.getfield 22, 3) := by decide +kernel
theorem dX_root_82 : decode cX_root 82 = .ok (.iload_n 1, 1) := by decide +kernel
theorem dX_root_83 : decode cX_root 83 = .ok (.iconst 0, 1) := by decide +kernel
theorem dX_root_84 : decode cX_root 84 = .ok (.iastore, 1) := by decide +kernel
theorem dX_root_85 : decode cX_root 85 = .ok (.aload_n 0, 1) := by decide +kernel
theorem dX_root_86 : decode cX_root 86 = .ok (.getfield 25, 3) := by decide +kernel
theorem dX_root_89 : decode cX_root 89 = .ok (.iload_n 1, 1) := by decide +kernel
theorem dX_root_90 : decode cX_root 90 = .ok (.iconst 1, 1) := by decide +kernel
theorem dX_root_91 : decode cX_root 91 = .ok (.bastore, 1) := by decide +kernel
theorem dX_root_92 : decode cX_root 92 = .ok (.return_, 1) := by decide +kernel
theorem dX_number_0 : decode cX_number 0 = .ok (.iload_n 1, 1) := by decide +kernel
theorem dX_number_1 : decode cX_number 1 = .ok (.invokestatic 42, 3) := by decide +kernel
theorem dX_number_4 : decode cX_number 4 = .ok (.aload_n 0, 1) := by decide +kernel
theorem dX_number_5 : decode cX_number 5 = .ok (.getfield 9, 3) := by decide +kernel
theorem dX_number_8 : decode cX_number 8 = .ok (.iload_n 1, 1) := by decide +kernel
theorem dX_number_9 : decode cX_number 9 = .ok (.iload_n 2, 1) := by decide +kernel
theorem dX_number_10 : decode cX_number 10 = .ok (.iastore, 1) := by decide +kernel
theorem dX_number_11 : decode cX_number 11 = .ok (.aload_n 0, 1) := by decide +kernel
theorem dX_number_12 : decode cX_number 12 = .ok (.getfield 13, 3) := by decide +kernel
theorem dX_number_15 : decode cX_number 15 = .ok (.iload_n 1, 1) := by decide +kernel
theorem dX_number_16 : decode cX_number 16 = .ok (.iconst 0, 1) := by decide +kernel
theorem dX_number_17 : decode cX_number 17 = .ok (.iastore, 1) := by decide +kernel
theorem dX_number_18 : decode cX_number 18 = .ok (.aload_n 0, 1) := by decide +kernel
theorem dX_number_19 : decode cX_number 19 = .ok (.getfield 16, 3) := by decide +kernel
theorem dX_number_22 : decode cX_number 22 = .ok (.iload_n 1, 1) := by decide +kernel
theorem dX_number_23 : decode cX_number 23 = .ok (.iconst 0, 1) := by decide +kernel
theorem dX_number_24 : decode cX_number 24 = .ok (.iastore, 1) := by decide +kernel
theorem dX_number_25 : decode cX_number 25 = .ok (.aload_n 0, 1) := by decide +kernel
theorem dX_number_26 : decode cX_number 26 = .ok (.getfield 19, 3) := by decide +kernel
theorem dX_number_29 : decode cX_number 29 = .ok (.iload_n 1, 1) := by decide +kernel
theorem dX_number_30 : decode cX_number 30 = .ok (.iconst 0, 1) := by decide +kernel
theorem dX_number_31 : decode cX_number 31 = .ok (.iastore, 1) := by decide +kernel
theorem dX_number_32 : decode cX_number 32 = .ok (.aload_n 0, 1) := by decide +kernel
theorem dX_number_33 : decode cX_number 33 = .ok (.getfield 22, 3) := by decide +kernel
theorem dX_number_36 : decode cX_number 36 = .ok (.iload_n 1, 1) := by decide +kernel
theorem dX_number_37 : decode cX_number 37 = .ok (.iconst 0, 1) := by decide +kernel
theorem dX_number_38 : decode cX_number 38 = .ok (.iastore, 1) := by decide +kernel
theorem dX_number_39 : decode cX_number 39 = .ok (.aload_n 0, 1) := by decide +kernel
theorem dX_number_40 : decode cX_number 40 = .ok (.getfield 25, 3) := by decide +kernel
theorem dX_number_43 : decode cX_number 43 = .ok (.iload_n 1, 1) := by decide +kernel
theorem dX_number_44 : decode cX_number 44 = .ok (.iconst 0, 1) := by decide +kernel
theorem dX_number_45 : decode cX_number 45 = .ok (.bastore, 1) := by decide +kernel
theorem dX_number_46 : decode cX_number 46 = .ok (.return_, 1) := by decide +kernel
theorem dX_move_0 : decode cX_move 0 = .ok (.iload_n 1, 1) := by decide +kernel
theorem dX_move_1 : decode cX_move 1 = .ok (.invokestatic 42, 3) := by decide +kernel
theorem dX_move_4 : decode cX_move 4 = .ok (.iload_n 2, 1) := by decide +kernel
theorem dX_move_5 : decode cX_move 5 = .ok (.invokestatic 42, 3) := by decide +kernel
theorem dX_move_8 : decode cX_move 8 = .ok (.aload_n 0, 1) := by decide +kernel
theorem dX_move_9 : decode cX_move 9 = .ok (.iload_n 2, 1) := by decide +kernel
theorem dX_move_10 : decode cX_move 10 = .ok (.invokevirtual 46, 3) := by decide +kernel
theorem dX_move_13 : decode cX_move 13 = .ok (.ifCond .eq 7, 3) := by decide +kernel
theorem dX_move_16 : decode cX_move 16 = .ok (.iload_n 3, 1) := by decide +kernel
theorem dX_move_17 : decode cX_move 17 = .ok (.ifCond .ne 7, 3) := by decide +kernel
theorem dX_move_20 : decode cX_move 20 = .ok (.iconst 1, 1) := by decide +kernel
theorem dX_move_21 : decode cX_move 21 = .ok (.goto 4, 3) := by decide +kernel
theorem dX_move_24 : decode cX_move 24 = .ok (.iconst 0, 1) := by decide +kernel
theorem dX_move_25 : decode cX_move 25 = .ok (.istore 4, 2) := by decide +kernel
theorem dX_move_27 : decode cX_move 27 = .ok (.aload_n 0, 1) := by decide +kernel
theorem dX_move_28 : decode cX_move 28 = .ok (.iload_n 1, 1) := by decide +kernel
theorem dX_move_29 : decode cX_move 29 = .ok (.iload_n 2, 1) := by decide +kernel
theorem dX_move_30 : decode cX_move 30 = .ok (.invokevirtual 50, 3) := by decide +kernel
theorem dX_move_33 : decode cX_move 33 = .ok (.aload_n 0, 1) := by decide +kernel
theorem dX_move_34 : decode cX_move 34 = .ok (.getfield 9, 3) := by decide +kernel
theorem dX_move_37 : decode cX_move 37 = .ok (.iload_n 1, 1) := by decide +kernel
theorem dX_move_38 : decode cX_move 38 = .ok (.dup2, 1) := by decide +kernel
theorem dX_move_39 : decode cX_move 39 = .ok (.iaload, 1) := by decide +kernel
theorem dX_move_40 : decode cX_move 40 = .ok (.iload_n 3, 1) := by decide +kernel
theorem dX_move_41 : decode cX_move 41 = .ok (.iadd, 1) := by decide +kernel
theorem dX_move_42 : decode cX_move 42 = .ok (.iastore, 1) := by decide +kernel
theorem dX_move_43 : decode cX_move 43 = .ok (.aload_n 0, 1) := by decide +kernel
theorem dX_move_44 : decode cX_move 44 = .ok (.getfield 25, 3) := by decide +kernel
theorem dX_move_47 : decode cX_move 47 = .ok (.iload_n 1, 1) := by decide +kernel
theorem dX_move_48 : decode cX_move 48 = .ok (.aload_n 0, 1) := by decide +kernel
theorem dX_move_49 : decode cX_move 49 = .ok (.getfield 25, 3) := by decide +kernel
theorem dX_move_52 : decode cX_move 52 = .ok (.iload_n 1, 1) := by decide +kernel
theorem dX_move_53 : decode cX_move 53 = .ok (.baload, 1) := by decide +kernel
theorem dX_move_54 : decode cX_move 54 = .ok (.ifCond .eq 12, 3) := by decide +kernel
theorem dX_move_57 : decode cX_move 57 = .ok (.iload 4, 2) := by decide +kernel
theorem dX_move_59 : decode cX_move 59 = .ok (.ifCond .eq 7, 3) := by decide +kernel
theorem dX_move_62 : decode cX_move 62 = .ok (.iconst 1, 1) := by decide +kernel
theorem dX_move_63 : decode cX_move 63 = .ok (.goto 4, 3) := by decide +kernel
theorem dX_move_66 : decode cX_move 66 = .ok (.iconst 0, 1) := by decide +kernel
theorem dX_move_67 : decode cX_move 67 = .ok (.bastore, 1) := by decide +kernel
theorem dX_move_68 : decode cX_move 68 = .ok (.return_, 1) := by decide +kernel
theorem dX_narrow_0 : decode cX_narrow 0 = .ok (.iload_n 1, 1) := by decide +kernel
theorem dX_narrow_1 : decode cX_narrow 1 = .ok (.invokestatic 42, 3) := by decide +kernel
theorem dX_narrow_4 : decode cX_narrow 4 = .ok (.iload_n 2, 1) := by decide +kernel
theorem dX_narrow_5 : decode cX_narrow 5 = .ok (.invokestatic 42, 3) := by decide +kernel
theorem dX_narrow_8 : decode cX_narrow 8 = .ok (.aload_n 0, 1) := by decide +kernel
theorem dX_narrow_9 : decode cX_narrow 9 = .ok (.iload_n 2, 1) := by decide +kernel
theorem dX_narrow_10 : decode cX_narrow 10 = .ok (.invokevirtual 46, 3) := by decide +kernel
theorem dX_narrow_13 : decode cX_narrow 13 = .ok (.ifCond .ne 25, 3) := by decide +kernel
theorem dX_narrow_16 : decode cX_narrow 16 = .ok (.aload_n 0, 1) := by decide +kernel
theorem dX_narrow_17 : decode cX_narrow 17 = .ok (.iload_n 2, 1) := by decide +kernel
theorem dX_narrow_18 : decode cX_narrow 18 = .ok (.aload_n 0, 1) := by decide +kernel
theorem dX_narrow_19 : decode cX_narrow 19 = .ok (.getfield 9, 3) := by decide +kernel
theorem dX_narrow_22 : decode cX_narrow 22 = .ok (.iload_n 2, 1) := by decide +kernel
theorem dX_narrow_23 : decode cX_narrow 23 = .ok (.iaload, 1) := by decide +kernel
theorem dX_narrow_24 : decode cX_narrow 24 = .ok (.iload_n 3, 1) := by decide +kernel
theorem dX_narrow_25 : decode cX_narrow 25 = .ok (.invokestatic 29, 3) := by decide +kernel
theorem dX_narrow_28 : decode cX_narrow 28 = .ok (.invokevirtual 54, 3) := by decide +kernel
theorem dX_narrow_31 : decode cX_narrow 31 = .ok (.ifCond .eq 7, 3) := by decide +kernel
theorem dX_narrow_34 : decode cX_narrow 34 = .ok (.iconst 1, 1) := by decide +kernel
theorem dX_narrow_35 : decode cX_narrow 35 = .ok (.goto 4, 3) := by decide +kernel
theorem dX_narrow_38 : decode cX_narrow 38 = .ok (.iconst 0, 1) := by decide +kernel
theorem dX_narrow_39 : decode cX_narrow 39 = .ok (.istore 4, 2) := by decide +kernel
theorem dX_narrow_41 : decode cX_narrow 41 = .ok (.aload_n 0, 1) := by decide +kernel
theorem dX_narrow_42 : decode cX_narrow 42 = .ok (.iload_n 1, 1) := by decide +kernel
theorem dX_narrow_43 : decode cX_narrow 43 = .ok (.iload_n 2, 1) := by decide +kernel
theorem dX_narrow_44 : decode cX_narrow 44 = .ok (.invokevirtual 50, 3) := by decide +kernel
theorem dX_narrow_47 : decode cX_narrow 47 = .ok (.aload_n 0, 1) := by decide +kernel
theorem dX_narrow_48 : decode cX_narrow 48 = .ok (.getfield 13, 3) := by decide +kernel
theorem dX_narrow_51 : decode cX_narrow 51 = .ok (.iload_n 1, 1) := by decide +kernel
theorem dX_narrow_52 : decode cX_narrow 52 = .ok (.aload_n 0, 1) := by decide +kernel
theorem dX_narrow_53 : decode cX_narrow 53 = .ok (.getfield 9, 3) := by decide +kernel
theorem dX_narrow_56 : decode cX_narrow 56 = .ok (.iload_n 1, 1) := by decide +kernel
theorem dX_narrow_57 : decode cX_narrow 57 = .ok (.iaload, 1) := by decide +kernel
theorem dX_narrow_58 : decode cX_narrow 58 = .ok (.iastore, 1) := by decide +kernel
theorem dX_narrow_59 : decode cX_narrow 59 = .ok (.aload_n 0, 1) := by decide +kernel
theorem dX_narrow_60 : decode cX_narrow 60 = .ok (.getfield 16, 3) := by decide +kernel
theorem dX_narrow_63 : decode cX_narrow 63 = .ok (.iload_n 1, 1) := by decide +kernel
theorem dX_narrow_64 : decode cX_narrow 64 = .ok (.aload_n 0, 1) := by decide +kernel
theorem dX_narrow_65 : decode cX_narrow 65 = .ok (.getfield 9, 3) := by decide +kernel
theorem dX_narrow_68 : decode cX_narrow 68 = .ok (.iload_n 1, 1) := by decide +kernel
theorem dX_narrow_69 : decode cX_narrow 69 = .ok (.iaload, 1) := by decide +kernel
theorem dX_narrow_70 : decode cX_narrow 70 = .ok (.iload_n 3, 1) := by decide +kernel
theorem dX_narrow_71 : decode cX_narrow 71 = .ok (.iadd, 1) := by decide +kernel
theorem dX_narrow_72 : decode cX_narrow 72 = .ok (.iastore, 1) := by decide +kernel
theorem dX_narrow_73 : decode cX_narrow 73 = .ok (.aload_n 0, 1) := by decide +kernel
theorem dX_narrow_74 : decode cX_narrow 74 = .ok (.getfield 25, 3) := by decide +kernel
theorem dX_narrow_77 : decode cX_narrow 77 = .ok (.iload_n 1, 1) := by decide +kernel
theorem dX_narrow_78 : decode cX_narrow 78 = .ok (.aload_n 0, 1) := by decide +kernel
theorem dX_narrow_79 : decode cX_narrow 79 = .ok (.getfield 25, 3) := by decide +kernel
theorem dX_narrow_82 : decode cX_narrow 82 = .ok (.iload_n 1, 1) := by decide +kernel
theorem dX_narrow_83 : decode cX_narrow 83 = .ok (.baload, 1) := by decide +kernel
theorem dX_narrow_84 : decode cX_narrow 84 = .ok (.ifCond .eq 12, 3) := by decide +kernel
theorem dX_narrow_87 : decode cX_narrow 87 = .ok (.iload 4, 2) := by decide +kernel
theorem dX_narrow_89 : decode cX_narrow 89 = .ok (.ifCond .eq 7, 3) := by decide +kernel
theorem dX_narrow_92 : decode cX_narrow 92 = .ok (.iconst 1, 1) := by decide +kernel
theorem dX_narrow_93 : decode cX_narrow 93 = .ok (.goto 4, 3) := by decide +kernel
theorem dX_narrow_96 : decode cX_narrow 96 = .ok (.iconst 0, 1) := by decide +kernel
theorem dX_narrow_97 : decode cX_narrow 97 = .ok (.bastore, 1) := by decide +kernel
theorem dX_narrow_98 : decode cX_narrow 98 = .ok (.aload_n 0, 1) := by decide +kernel
theorem dX_narrow_99 : decode cX_narrow 99 = .ok (.getfield 25, 3) := by decide +kernel
theorem dX_narrow_102 : decode cX_narrow 102 = .ok (.iload_n 1, 1) := by decide +kernel
theorem dX_narrow_103 : decode cX_narrow 103 = .ok (.baload, 1) := by decide +kernel
theorem dX_narrow_104 : decode cX_narrow 104 = .ok (.ireturn, 1) := by decide +kernel
theorem dX_restrict_0 : decode cX_restrict 0 = .ok (.iload_n 1, 1) := by decide +kernel
theorem dX_restrict_1 : decode cX_restrict 1 = .ok (.invokestatic 42, 3) := by decide +kernel
theorem dX_restrict_4 : decode cX_restrict 4 = .ok (.iload_n 2, 1) := by decide +kernel
theorem dX_restrict_5 : decode cX_restrict 5 = .ok (.invokestatic 42, 3) := by decide +kernel
theorem dX_restrict_8 : decode cX_restrict 8 = .ok (.aload_n 0, 1) := by decide +kernel
theorem dX_restrict_9 : decode cX_restrict 9 = .ok (.getfield 19, 3) := by decide +kernel
theorem dX_restrict_12 : decode cX_restrict 12 = .ok (.iload_n 2, 1) := by decide +kernel
theorem dX_restrict_13 : decode cX_restrict 13 = .ok (.iaload, 1) := by decide +kernel
theorem dX_restrict_14 : decode cX_restrict 14 = .ok (.iload_n 3, 1) := by decide +kernel
theorem dX_restrict_15 : decode cX_restrict 15 = .ok (.iand, 1) := by decide +kernel
theorem dX_restrict_16 : decode cX_restrict 16 = .ok (.istore 4, 2) := by decide +kernel
theorem dX_restrict_18 : decode cX_restrict 18 = .ok (.aload_n 0, 1) := by decide +kernel
theorem dX_restrict_19 : decode cX_restrict 19 = .ok (.iload_n 2, 1) := by decide +kernel
theorem dX_restrict_20 : decode cX_restrict 20 = .ok (.invokevirtual 46, 3) := by decide +kernel
theorem dX_restrict_23 : decode cX_restrict 23 = .ok (.ifCond .eq 14, 3) := by decide +kernel
theorem dX_restrict_26 : decode cX_restrict 26 = .ok (.iload 4, 2) := by decide +kernel
theorem dX_restrict_28 : decode cX_restrict 28 = .ok (.aload_n 0, 1) := by decide +kernel
theorem dX_restrict_29 : decode cX_restrict 29 = .ok (.getfield 19, 3) := by decide +kernel
theorem dX_restrict_32 : decode cX_restrict 32 = .ok (.iload_n 2, 1) := by decide +kernel
theorem dX_restrict_33 : decode cX_restrict 33 = .ok (.iaload, 1) := by decide +kernel
theorem dX_restrict_34 : decode cX_restrict 34 = .ok (.if_icmp .ne 7, 3) := by decide +kernel
theorem dX_restrict_37 : decode cX_restrict 37 = .ok (.iconst 1, 1) := by decide +kernel
theorem dX_restrict_38 : decode cX_restrict 38 = .ok (.goto 4, 3) := by decide +kernel
theorem dX_restrict_41 : decode cX_restrict 41 = .ok (.iconst 0, 1) := by decide +kernel
theorem dX_restrict_42 : decode cX_restrict 42 = .ok (.istore 5, 2) := by decide +kernel
theorem dX_restrict_44 : decode cX_restrict 44 = .ok (.aload_n 0, 1) := by decide +kernel
theorem dX_restrict_45 : decode cX_restrict 45 = .ok (.iload_n 1, 1) := by decide +kernel
theorem dX_restrict_46 : decode cX_restrict 46 = .ok (.iload_n 2, 1) := by decide +kernel
theorem dX_restrict_47 : decode cX_restrict 47 = .ok (.invokevirtual 50, 3) := by decide +kernel
theorem dX_restrict_50 : decode cX_restrict 50 = .ok (.aload_n 0, 1) := by decide +kernel
theorem dX_restrict_51 : decode cX_restrict 51 = .ok (.getfield 19, 3) := by decide +kernel
theorem dX_restrict_54 : decode cX_restrict 54 = .ok (.iload_n 1, 1) := by decide +kernel
theorem dX_restrict_55 : decode cX_restrict 55 = .ok (.iload 4, 2) := by decide +kernel
theorem dX_restrict_57 : decode cX_restrict 57 = .ok (.iastore, 1) := by decide +kernel
theorem dX_restrict_58 : decode cX_restrict 58 = .ok (.aload_n 0, 1) := by decide +kernel
theorem dX_restrict_59 : decode cX_restrict 59 = .ok (.getfield 25, 3) := by decide +kernel
theorem dX_restrict_62 : decode cX_restrict 62 = .ok (.iload_n 1, 1) := by decide +kernel
theorem dX_restrict_63 : decode cX_restrict 63 = .ok (.aload_n 0, 1) := by decide +kernel
theorem dX_restrict_64 : decode cX_restrict 64 = .ok (.getfield 25, 3) := by decide +kernel
theorem dX_restrict_67 : decode cX_restrict 67 = .ok (.iload_n 1, 1) := by decide +kernel
theorem dX_restrict_68 : decode cX_restrict 68 = .ok (.baload, 1) := by decide +kernel
theorem dX_restrict_69 : decode cX_restrict 69 = .ok (.ifCond .eq 12, 3) := by decide +kernel
theorem dX_restrict_72 : decode cX_restrict 72 = .ok (.iload 5, 2) := by decide +kernel
theorem dX_restrict_74 : decode cX_restrict 74 = .ok (.ifCond .eq 7, 3) := by decide +kernel
theorem dX_restrict_77 : decode cX_restrict 77 = .ok (.iconst 1, 1) := by decide +kernel
theorem dX_restrict_78 : decode cX_restrict 78 = .ok (.goto 4, 3) := by decide +kernel
theorem dX_restrict_81 : decode cX_restrict 81 = .ok (.iconst 0, 1) := by decide +kernel
theorem dX_restrict_82 : decode cX_restrict 82 = .ok (.bastore, 1) := by decide +kernel
theorem dX_restrict_83 : decode cX_restrict 83 = .ok (.aload_n 0, 1) := by decide +kernel
theorem dX_restrict_84 : decode cX_restrict 84 = .ok (.getfield 25, 3) := by decide +kernel
theorem dX_restrict_87 : decode cX_restrict 87 = .ok (.iload_n 1, 1) := by decide +kernel
theorem dX_restrict_88 : decode cX_restrict 88 = .ok (.baload, 1) := by decide +kernel
theorem dX_restrict_89 : decode cX_restrict 89 = .ok (.ireturn, 1) := by decide +kernel
theorem dX_seal_0 : decode cX_seal 0 = .ok (.iload_n 1, 1) := by decide +kernel
theorem dX_seal_1 : decode cX_seal 1 = .ok (.invokestatic 42, 3) := by decide +kernel
theorem dX_seal_4 : decode cX_seal 4 = .ok (.iload_n 2, 1) := by decide +kernel
theorem dX_seal_5 : decode cX_seal 5 = .ok (.invokestatic 42, 3) := by decide +kernel
theorem dX_seal_8 : decode cX_seal 8 = .ok (.iload_n 3, 1) := by decide +kernel
theorem dX_seal_9 : decode cX_seal 9 = .ok (.invokestatic 42, 3) := by decide +kernel
theorem dX_seal_12 : decode cX_seal 12 = .ok (.aload_n 0, 1) := by decide +kernel
theorem dX_seal_13 : decode cX_seal 13 = .ok (.iload_n 2, 1) := by decide +kernel
theorem dX_seal_14 : decode cX_seal 14 = .ok (.iload_n 3, 1) := by decide +kernel
theorem dX_seal_15 : decode cX_seal 15 = .ok (.invokevirtual 58, 3) := by decide +kernel
theorem dX_seal_18 : decode cX_seal 18 = .ok (.istore 4, 2) := by decide +kernel
theorem dX_seal_20 : decode cX_seal 20 = .ok (.iload 4, 2) := by decide +kernel
theorem dX_seal_22 : decode cX_seal 22 = .ok (.ifCond .ne 25, 3) := by decide +kernel
theorem dX_seal_25 : decode cX_seal 25 = .ok (.aload_n 0, 1) := by decide +kernel
theorem dX_seal_26 : decode cX_seal 26 = .ok (.getfield 9, 3) := by decide +kernel
theorem dX_seal_29 : decode cX_seal 29 = .ok (.iload_n 3, 1) := by decide +kernel
theorem dX_seal_30 : decode cX_seal 30 = .ok (.iaload, 1) := by decide +kernel
theorem dX_seal_31 : decode cX_seal 31 = .ok (.istore 5, 2) := by decide +kernel
theorem dX_seal_33 : decode cX_seal 33 = .ok (.aload_n 0, 1) := by decide +kernel
theorem dX_seal_34 : decode cX_seal 34 = .ok (.iload_n 1, 1) := by decide +kernel
theorem dX_seal_35 : decode cX_seal 35 = .ok (.iload_n 2, 1) := by decide +kernel
theorem dX_seal_36 : decode cX_seal 36 = .ok (.invokevirtual 50, 3) := by decide +kernel
theorem dX_seal_39 : decode cX_seal 39 = .ok (.aload_n 0, 1) := by decide +kernel
theorem dX_seal_40 : decode cX_seal 40 = .ok (.getfield 22, 3) := by decide +kernel
theorem dX_seal_43 : decode cX_seal 43 = .ok (.iload_n 1, 1) := by decide +kernel
theorem dX_seal_44 : decode cX_seal 44 = .ok (.iload 5, 2) := by decide +kernel
theorem dX_seal_46 : decode cX_seal 46 = .ok (.iastore, 1) := by decide +kernel
theorem dX_seal_47 : decode cX_seal 47 = .ok (.iload 4, 2) := by decide +kernel
theorem dX_seal_49 : decode cX_seal 49 = .ok (.ireturn, 1) := by decide +kernel
theorem dX_unseal_0 : decode cX_unseal 0 = .ok (.iload_n 1, 1) := by decide +kernel
theorem dX_unseal_1 : decode cX_unseal 1 = .ok (.invokestatic 42, 3) := by decide +kernel
theorem dX_unseal_4 : decode cX_unseal 4 = .ok (.iload_n 2, 1) := by decide +kernel
theorem dX_unseal_5 : decode cX_unseal 5 = .ok (.invokestatic 42, 3) := by decide +kernel
theorem dX_unseal_8 : decode cX_unseal 8 = .ok (.iload_n 3, 1) := by decide +kernel
theorem dX_unseal_9 : decode cX_unseal 9 = .ok (.invokestatic 42, 3) := by decide +kernel
theorem dX_unseal_12 : decode cX_unseal 12 = .ok (.aload_n 0, 1) := by decide +kernel
theorem dX_unseal_13 : decode cX_unseal 13 = .ok (.iload_n 2, 1) := by decide +kernel
theorem dX_unseal_14 : decode cX_unseal 14 = .ok (.iload_n 3, 1) := by decide +kernel
theorem dX_unseal_15 : decode cX_unseal 15 = .ok (.invokevirtual 62, 3) := by decide +kernel
theorem dX_unseal_18 : decode cX_unseal 18 = .ok (.istore 4, 2) := by decide +kernel
theorem dX_unseal_20 : decode cX_unseal 20 = .ok (.iload 4, 2) := by decide +kernel
theorem dX_unseal_22 : decode cX_unseal 22 = .ok (.ifCond .ne 16, 3) := by decide +kernel
theorem dX_unseal_25 : decode cX_unseal 25 = .ok (.aload_n 0, 1) := by decide +kernel
theorem dX_unseal_26 : decode cX_unseal 26 = .ok (.iload_n 1, 1) := by decide +kernel
theorem dX_unseal_27 : decode cX_unseal 27 = .ok (.iload_n 2, 1) := by decide +kernel
theorem dX_unseal_28 : decode cX_unseal 28 = .ok (.invokevirtual 50, 3) := by decide +kernel
theorem dX_unseal_31 : decode cX_unseal 31 = .ok (.aload_n 0, 1) := by decide +kernel
theorem dX_unseal_32 : decode cX_unseal 32 = .ok (.getfield 22, 3) := by decide +kernel
theorem dX_unseal_35 : decode cX_unseal 35 = .ok (.iload_n 1, 1) := by decide +kernel
theorem dX_unseal_36 : decode cX_unseal 36 = .ok (.iconst 0, 1) := by decide +kernel
theorem dX_unseal_37 : decode cX_unseal 37 = .ok (.iastore, 1) := by decide +kernel
theorem dX_unseal_38 : decode cX_unseal 38 = .ok (.iload 4, 2) := by decide +kernel
theorem dX_unseal_40 : decode cX_unseal 40 = .ok (.ireturn, 1) := by decide +kernel
theorem dX_allows_0 : decode cX_allows 0 = .ok (.iload_n 3, 1) := by decide +kernel
theorem dX_allows_1 : decode cX_allows 1 = .ok (.ifCond .lt 9, 3) := by decide +kernel
theorem dX_allows_4 : decode cX_allows 4 = .ok (.iload_n 3, 1) := by decide +kernel
theorem dX_allows_5 : decode cX_allows 5 = .ok (.ldc 65, 2) := by decide +kernel
theorem dX_allows_7 : decode cX_allows 7 = .ok (.if_icmp .le 13, 3) := by decide +kernel
theorem dX_allows_10 : decode cX_allows 10 = .ok (.new 33, 3) := by decide +kernel
theorem dX_allows_13 : decode cX_allows 13 = .ok (.dup, 1) := by decide +kernel
theorem dX_allows_14 : decode cX_allows 14 = .ok (.ldc 66, 2) := by decide +kernel
theorem dX_allows_16 : decode cX_allows 16 = .ok (.invokespecial 37, 3) := by decide +kernel
theorem dX_allows_19 : decode cX_allows 19 = .ok (.athrow, 1) := by decide +kernel
theorem dX_allows_20 : decode cX_allows 20 = .ok (.iload_n 1, 1) := by decide +kernel
theorem dX_allows_21 : decode cX_allows 21 = .ok (.invokestatic 42, 3) := by decide +kernel
theorem dX_allows_24 : decode cX_allows 24 = .ok (.aload_n 0, 1) := by decide +kernel
theorem dX_allows_25 : decode cX_allows 25 = .ok (.iload_n 1, 1) := by decide +kernel
theorem dX_allows_26 : decode cX_allows 26 = .ok (.aload_n 0, 1) := by decide +kernel
theorem dX_allows_27 : decode cX_allows 27 = .ok (.getfield 9, 3) := by decide +kernel
theorem dX_allows_30 : decode cX_allows 30 = .ok (.iload_n 1, 1) := by decide +kernel
theorem dX_allows_31 : decode cX_allows 31 = .ok (.iaload, 1) := by decide +kernel
theorem dX_allows_32 : decode cX_allows 32 = .ok (.iload_n 2, 1) := by decide +kernel
theorem dX_allows_33 : decode cX_allows 33 = .ok (.iadd, 1) := by decide +kernel
theorem dX_allows_34 : decode cX_allows 34 = .ok (.iload_n 3, 1) := by decide +kernel
theorem dX_allows_35 : decode cX_allows 35 = .ok (.iload 4, 2) := by decide +kernel
theorem dX_allows_37 : decode cX_allows 37 = .ok (.invokevirtual 68, 3) := by decide +kernel
theorem dX_allows_40 : decode cX_allows 40 = .ok (.ireturn, 1) := by decide +kernel
theorem dX_within_0 : decode cX_within 0 = .ok (.iload_n 1, 1) := by decide +kernel
theorem dX_within_1 : decode cX_within 1 = .ok (.invokestatic 42, 3) := by decide +kernel
theorem dX_within_4 : decode cX_within 4 = .ok (.iload_n 2, 1) := by decide +kernel
theorem dX_within_5 : decode cX_within 5 = .ok (.invokestatic 42, 3) := by decide +kernel
theorem dX_within_8 : decode cX_within 8 = .ok (.aload_n 0, 1) := by decide +kernel
theorem dX_within_9 : decode cX_within 9 = .ok (.getfield 25, 3) := by decide +kernel
theorem dX_within_12 : decode cX_within 12 = .ok (.iload_n 1, 1) := by decide +kernel
theorem dX_within_13 : decode cX_within 13 = .ok (.baload, 1) := by decide +kernel
theorem dX_within_14 : decode cX_within 14 = .ok (.ifCond .eq 74, 3) := by decide +kernel
theorem dX_within_17 : decode cX_within 17 = .ok (.aload_n 0, 1) := by decide +kernel
theorem dX_within_18 : decode cX_within 18 = .ok (.getfield 25, 3) := by decide +kernel
theorem dX_within_21 : decode cX_within 21 = .ok (.iload_n 2, 1) := by decide +kernel
theorem dX_within_22 : decode cX_within 22 = .ok (.baload, 1) := by decide +kernel
theorem dX_within_23 : decode cX_within 23 = .ok (.ifCond .eq 65, 3) := by decide +kernel
theorem dX_within_26 : decode cX_within 26 = .ok (.aload_n 0, 1) := by decide +kernel
theorem dX_within_27 : decode cX_within 27 = .ok (.getfield 13, 3) := by decide +kernel
theorem dX_within_30 : decode cX_within 30 = .ok (.iload_n 1, 1) := by decide +kernel
theorem dX_within_31 : decode cX_within 31 = .ok (.iaload, 1) := by decide +kernel
theorem dX_within_32 : decode cX_within 32 = .ok (.invokestatic 29, 3) := by decide +kernel
theorem dX_within_35 : decode cX_within 35 = .ok (.aload_n 0, 1) := by decide +kernel
theorem dX_within_36 : decode cX_within 36 = .ok (.getfield 13, 3) := by decide +kernel
theorem dX_within_39 : decode cX_within 39 = .ok (.iload_n 2, 1) := by decide +kernel
theorem dX_within_40 : decode cX_within 40 = .ok (.iaload, 1) := by decide +kernel
theorem dX_within_41 : decode cX_within 41 = .ok (.invokestatic 29, 3) := by decide +kernel
theorem dX_within_44 : decode cX_within 44 = .ok (.lcmp, 1) := by decide +kernel
theorem dX_within_45 : decode cX_within 45 = .ok (.ifCond .lt 43, 3) := by decide +kernel
theorem dX_within_48 : decode cX_within 48 = .ok (.aload_n 0, 1) := by decide +kernel
theorem dX_within_49 : decode cX_within 49 = .ok (.getfield 16, 3) := by decide +kernel
theorem dX_within_52 : decode cX_within 52 = .ok (.iload_n 1, 1) := by decide +kernel
theorem dX_within_53 : decode cX_within 53 = .ok (.iaload, 1) := by decide +kernel
theorem dX_within_54 : decode cX_within 54 = .ok (.invokestatic 29, 3) := by decide +kernel
theorem dX_within_57 : decode cX_within 57 = .ok (.aload_n 0, 1) := by decide +kernel
theorem dX_within_58 : decode cX_within 58 = .ok (.getfield 16, 3) := by decide +kernel
theorem dX_within_61 : decode cX_within 61 = .ok (.iload_n 2, 1) := by decide +kernel
theorem dX_within_62 : decode cX_within 62 = .ok (.iaload, 1) := by decide +kernel
theorem dX_within_63 : decode cX_within 63 = .ok (.invokestatic 29, 3) := by decide +kernel
theorem dX_within_66 : decode cX_within 66 = .ok (.lcmp, 1) := by decide +kernel
theorem dX_within_67 : decode cX_within 67 = .ok (.ifCond .gt 21, 3) := by decide +kernel
theorem dX_within_70 : decode cX_within 70 = .ok (.aload_n 0, 1) := by decide +kernel
theorem dX_within_71 : decode cX_within 71 = .ok (.iload_n 2, 1) := by decide +kernel
theorem dX_within_72 : decode cX_within 72 = .ok (.aload_n 0, 1) := by decide +kernel
theorem dX_within_73 : decode cX_within 73 = .ok (.getfield 19, 3) := by decide +kernel
theorem dX_within_76 : decode cX_within 76 = .ok (.iload_n 1, 1) := by decide +kernel
theorem dX_within_77 : decode cX_within 77 = .ok (.iaload, 1) := by decide +kernel
theorem dX_within_78 : decode cX_within 78 = .ok (.invokevirtual 72, 3) := by decide +kernel
theorem dX_within_81 : decode cX_within 81 = .ok (.ifCond .eq 7, 3) := by decide +kernel
theorem dX_within_84 : decode cX_within 84 = .ok (.iconst 1, 1) := by decide +kernel
theorem dX_within_85 : decode cX_within 85 = .ok (.goto 4, 3) := by decide +kernel
theorem dX_within_88 : decode cX_within 88 = .ok (.iconst 0, 1) := by decide +kernel
theorem dX_within_89 : decode cX_within 89 = .ok (.ireturn, 1) := by decide +kernel
theorem dX_part_0 : decode cX_part 0 = .ok (.iload_n 2, 1) := by decide +kernel
theorem dX_part_1 : decode cX_part 1 = .ok (.ifCond .lt 8, 3) := by decide +kernel
theorem dX_part_4 : decode cX_part 4 = .ok (.iload_n 2, 1) := by decide +kernel
theorem dX_part_5 : decode cX_part 5 = .ok (.iconst 5, 1) := by decide +kernel
theorem dX_part_6 : decode cX_part 6 = .ok (.if_icmp .le 13, 3) := by decide +kernel
theorem dX_part_9 : decode cX_part 9 = .ok (.new 33, 3) := by decide +kernel
theorem dX_part_12 : decode cX_part 12 = .ok (.dup, 1) := by decide +kernel
theorem dX_part_13 : decode cX_part 13 = .ok (.ldc 76, 2) := by decide +kernel
theorem dX_part_15 : decode cX_part 15 = .ok (.invokespecial 37, 3) := by decide +kernel
theorem dX_part_18 : decode cX_part 18 = .ok (.athrow, 1) := by decide +kernel
theorem dX_part_19 : decode cX_part 19 = .ok (.iload_n 1, 1) := by decide +kernel
theorem dX_part_20 : decode cX_part 20 = .ok (.invokestatic 42, 3) := by decide +kernel
theorem dX_part_23 : decode cX_part 23 = .ok (.iload_n 2, 1) := by decide +kernel
theorem dX_part_24 : decode cX_part 24 = .ok (.tableswitch 71 0 4 #[36, 43, 50, 57, 64], 36) := by decide +kernel
theorem dX_part_60 : decode cX_part 60 = .ok (.aload_n 0, 1) := by decide +kernel
theorem dX_part_61 : decode cX_part 61 = .ok (.getfield 9, 3) := by decide +kernel
theorem dX_part_64 : decode cX_part 64 = .ok (.iload_n 1, 1) := by decide +kernel
theorem dX_part_65 : decode cX_part 65 = .ok (.iaload, 1) := by decide +kernel
theorem dX_part_66 : decode cX_part 66 = .ok (.ireturn, 1) := by decide +kernel
theorem dX_part_67 : decode cX_part 67 = .ok (.aload_n 0, 1) := by decide +kernel
theorem dX_part_68 : decode cX_part 68 = .ok (.getfield 13, 3) := by decide +kernel
theorem dX_part_71 : decode cX_part 71 = .ok (.iload_n 1, 1) := by decide +kernel
theorem dX_part_72 : decode cX_part 72 = .ok (.iaload, 1) := by decide +kernel
theorem dX_part_73 : decode cX_part 73 = .ok (.ireturn, 1) := by decide +kernel
theorem dX_part_74 : decode cX_part 74 = .ok (.aload_n 0, 1) := by decide +kernel
theorem dX_part_75 : decode cX_part 75 = .ok (.getfield 16, 3) := by decide +kernel
theorem dX_part_78 : decode cX_part 78 = .ok (.iload_n 1, 1) := by decide +kernel
theorem dX_part_79 : decode cX_part 79 = .ok (.iaload, 1) := by decide +kernel
theorem dX_part_80 : decode cX_part 80 = .ok (.ireturn, 1) := by decide +kernel
theorem dX_part_81 : decode cX_part 81 = .ok (.aload_n 0, 1) := by decide +kernel
theorem dX_part_82 : decode cX_part 82 = .ok (.getfield 19, 3) := by decide +kernel
theorem dX_part_85 : decode cX_part 85 = .ok (.iload_n 1, 1) := by decide +kernel
theorem dX_part_86 : decode cX_part 86 = .ok (.iaload, 1) := by decide +kernel
theorem dX_part_87 : decode cX_part 87 = .ok (.ireturn, 1) := by decide +kernel
theorem dX_part_88 : decode cX_part 88 = .ok (.aload_n 0, 1) := by decide +kernel
theorem dX_part_89 : decode cX_part 89 = .ok (.getfield 22, 3) := by decide +kernel
theorem dX_part_92 : decode cX_part 92 = .ok (.iload_n 1, 1) := by decide +kernel
theorem dX_part_93 : decode cX_part 93 = .ok (.iaload, 1) := by decide +kernel
theorem dX_part_94 : decode cX_part 94 = .ok (.ireturn, 1) := by decide +kernel
theorem dX_part_95 : decode cX_part 95 = .ok (.aload_n 0, 1) := by decide +kernel
theorem dX_part_96 : decode cX_part 96 = .ok (.getfield 25, 3) := by decide +kernel
theorem dX_part_99 : decode cX_part 99 = .ok (.iload_n 1, 1) := by decide +kernel
theorem dX_part_100 : decode cX_part 100 = .ok (.baload, 1) := by decide +kernel
theorem dX_part_101 : decode cX_part 101 = .ok (.ifCond .eq 7, 3) := by decide +kernel
theorem dX_part_104 : decode cX_part 104 = .ok (.iconst 1, 1) := by decide +kernel
theorem dX_part_105 : decode cX_part 105 = .ok (.goto 4, 3) := by decide +kernel
theorem dX_part_108 : decode cX_part 108 = .ok (.iconst 0, 1) := by decide +kernel
theorem dX_part_109 : decode cX_part 109 = .ok (.ireturn, 1) := by decide +kernel
theorem dX_count_0 : decode cX_count 0 = .ok (.iconst 0, 1) := by decide +kernel
theorem dX_count_1 : decode cX_count 1 = .ok (.istore_n 3, 1) := by decide +kernel
theorem dX_count_2 : decode cX_count 2 = .ok (.iconst 0, 1) := by decide +kernel
theorem dX_count_3 : decode cX_count 3 = .ok (.istore 4, 2) := by decide +kernel
theorem dX_count_5 : decode cX_count 5 = .ok (.iload 4, 2) := by decide +kernel
theorem dX_count_7 : decode cX_count 7 = .ok (.bipush 16, 2) := by decide +kernel
theorem dX_count_9 : decode cX_count 9 = .ok (.if_icmp .ge 24, 3) := by decide +kernel
theorem dX_count_12 : decode cX_count 12 = .ok (.aload_n 0, 1) := by decide +kernel
theorem dX_count_13 : decode cX_count 13 = .ok (.iload 4, 2) := by decide +kernel
theorem dX_count_15 : decode cX_count 15 = .ok (.iload_n 1, 1) := by decide +kernel
theorem dX_count_16 : decode cX_count 16 = .ok (.iconst 1, 1) := by decide +kernel
theorem dX_count_17 : decode cX_count 17 = .ok (.iload_n 2, 1) := by decide +kernel
theorem dX_count_18 : decode cX_count 18 = .ok (.invokevirtual 68, 3) := by decide +kernel
theorem dX_count_21 : decode cX_count 21 = .ok (.ifCond .ne 6, 3) := by decide +kernel
theorem dX_count_24 : decode cX_count 24 = .ok (.iinc 3 1, 3) := by decide +kernel
theorem dX_count_27 : decode cX_count 27 = .ok (.iinc 4 1, 3) := by decide +kernel
theorem dX_count_30 : decode cX_count 30 = .ok (.goto (-25), 3) := by decide +kernel
theorem dX_count_33 : decode cX_count 33 = .ok (.iload_n 3, 1) := by decide +kernel
theorem dX_count_34 : decode cX_count 34 = .ok (.ireturn, 1) := by decide +kernel
theorem dX_requireGrant_0 : decode cX_requireGrant 0 = .ok (.iload_n 0, 1) := by decide +kernel
theorem dX_requireGrant_1 : decode cX_requireGrant 1 = .ok (.ifCond .lt 9, 3) := by decide +kernel
theorem dX_requireGrant_4 : decode cX_requireGrant 4 = .ok (.iload_n 0, 1) := by decide +kernel
theorem dX_requireGrant_5 : decode cX_requireGrant 5 = .ok (.bipush 16, 2) := by decide +kernel
theorem dX_requireGrant_7 : decode cX_requireGrant 7 = .ok (.if_icmp .lt 13, 3) := by decide +kernel
theorem dX_requireGrant_10 : decode cX_requireGrant 10 = .ok (.new 78, 3) := by decide +kernel
theorem dX_requireGrant_13 : decode cX_requireGrant 13 = .ok (.dup, 1) := by decide +kernel
theorem dX_requireGrant_14 : decode cX_requireGrant 14 = .ok (.ldc 80, 2) := by decide +kernel
theorem dX_requireGrant_16 : decode cX_requireGrant 16 = .ok (.invokespecial 82, 3) := by decide +kernel
theorem dX_requireGrant_19 : decode cX_requireGrant 19 = .ok (.athrow, 1) := by decide +kernel
theorem dX_requireGrant_20 : decode cX_requireGrant 20 = .ok (.return_, 1) := by decide +kernel
theorem dX_unsigned_0 : decode cX_unsigned 0 = .ok (.iload_n 0, 1) := by decide +kernel
theorem dX_unsigned_1 : decode cX_unsigned 1 = .ok (.i2l, 1) := by decide +kernel
theorem dX_unsigned_2 : decode cX_unsigned 2 = .ok (.ldc2_w 83, 3) := by decide +kernel
theorem dX_unsigned_5 : decode cX_unsigned 5 = .ok (.land, 1) := by decide +kernel
theorem dX_unsigned_6 : decode cX_unsigned 6 = .ok (.lreturn, 1) := by decide +kernel
theorem dX_copy_0 : decode cX_copy 0 = .ok (.aload_n 0, 1) := by decide +kernel
theorem dX_copy_1 : decode cX_copy 1 = .ok (.getfield 9, 3) := by decide +kernel
theorem dX_copy_4 : decode cX_copy 4 = .ok (.iload_n 1, 1) := by decide +kernel
theorem dX_copy_5 : decode cX_copy 5 = .ok (.aload_n 0, 1) := by decide +kernel
theorem dX_copy_6 : decode cX_copy 6 = .ok (.getfield 9, 3) := by decide +kernel
theorem dX_copy_9 : decode cX_copy 9 = .ok (.iload_n 2, 1) := by decide +kernel
theorem dX_copy_10 : decode cX_copy 10 = .ok (.iaload, 1) := by decide +kernel
theorem dX_copy_11 : decode cX_copy 11 = .ok (.iastore, 1) := by decide +kernel
theorem dX_copy_12 : decode cX_copy 12 = .ok (.aload_n 0, 1) := by decide +kernel
theorem dX_copy_13 : decode cX_copy 13 = .ok (.getfield 13, 3) := by decide +kernel
theorem dX_copy_16 : decode cX_copy 16 = .ok (.iload_n 1, 1) := by decide +kernel
theorem dX_copy_17 : decode cX_copy 17 = .ok (.aload_n 0, 1) := by decide +kernel
theorem dX_copy_18 : decode cX_copy 18 = .ok (.getfield 13, 3) := by decide +kernel
theorem dX_copy_21 : decode cX_copy 21 = .ok (.iload_n 2, 1) := by decide +kernel
theorem dX_copy_22 : decode cX_copy 22 = .ok (.iaload, 1) := by decide +kernel
theorem dX_copy_23 : decode cX_copy 23 = .ok (.iastore, 1) := by decide +kernel
theorem dX_copy_24 : decode cX_copy 24 = .ok (.aload_n 0, 1) := by decide +kernel
theorem dX_copy_25 : decode cX_copy 25 = .ok (.getfield 16, 3) := by decide +kernel
theorem dX_copy_28 : decode cX_copy 28 = .ok (.iload_n 1, 1) := by decide +kernel
theorem dX_copy_29 : decode cX_copy 29 = .ok (.aload_n 0, 1) := by decide +kernel
theorem dX_copy_30 : decode cX_copy 30 = .ok (.getfield 16, 3) := by decide +kernel
theorem dX_copy_33 : decode cX_copy 33 = .ok (.iload_n 2, 1) := by decide +kernel
theorem dX_copy_34 : decode cX_copy 34 = .ok (.iaload, 1) := by decide +kernel
theorem dX_copy_35 : decode cX_copy 35 = .ok (.iastore, 1) := by decide +kernel
theorem dX_copy_36 : decode cX_copy 36 = .ok (.aload_n 0, 1) := by decide +kernel
theorem dX_copy_37 : decode cX_copy 37 = .ok (.getfield 19, 3) := by decide +kernel
theorem dX_copy_40 : decode cX_copy 40 = .ok (.iload_n 1, 1) := by decide +kernel
theorem dX_copy_41 : decode cX_copy 41 = .ok (.aload_n 0, 1) := by decide +kernel
theorem dX_copy_42 : decode cX_copy 42 = .ok (.getfield 19, 3) := by decide +kernel
theorem dX_copy_45 : decode cX_copy 45 = .ok (.iload_n 2, 1) := by decide +kernel
theorem dX_copy_46 : decode cX_copy 46 = .ok (.iaload, 1) := by decide +kernel
theorem dX_copy_47 : decode cX_copy 47 = .ok (.iastore, 1) := by decide +kernel
theorem dX_copy_48 : decode cX_copy 48 = .ok (.aload_n 0, 1) := by decide +kernel
theorem dX_copy_49 : decode cX_copy 49 = .ok (.getfield 22, 3) := by decide +kernel
theorem dX_copy_52 : decode cX_copy 52 = .ok (.iload_n 1, 1) := by decide +kernel
theorem dX_copy_53 : decode cX_copy 53 = .ok (.aload_n 0, 1) := by decide +kernel
theorem dX_copy_54 : decode cX_copy 54 = .ok (.getfield 22, 3) := by decide +kernel
theorem dX_copy_57 : decode cX_copy 57 = .ok (.iload_n 2, 1) := by decide +kernel
theorem dX_copy_58 : decode cX_copy 58 = .ok (.iaload, 1) := by decide +kernel
theorem dX_copy_59 : decode cX_copy 59 = .ok (.iastore, 1) := by decide +kernel
theorem dX_copy_60 : decode cX_copy 60 = .ok (.aload_n 0, 1) := by decide +kernel
theorem dX_copy_61 : decode cX_copy 61 = .ok (.getfield 25, 3) := by decide +kernel
theorem dX_copy_64 : decode cX_copy 64 = .ok (.iload_n 1, 1) := by decide +kernel
theorem dX_copy_65 : decode cX_copy 65 = .ok (.aload_n 0, 1) := by decide +kernel
theorem dX_copy_66 : decode cX_copy 66 = .ok (.getfield 25, 3) := by decide +kernel
theorem dX_copy_69 : decode cX_copy 69 = .ok (.iload_n 2, 1) := by decide +kernel
theorem dX_copy_70 : decode cX_copy 70 = .ok (.baload, 1) := by decide +kernel
theorem dX_copy_71 : decode cX_copy 71 = .ok (.bastore, 1) := by decide +kernel
theorem dX_copy_72 : decode cX_copy 72 = .ok (.return_, 1) := by decide +kernel
theorem dX_isSealed_0 : decode cX_isSealed 0 = .ok (.aload_n 0, 1) := by decide +kernel
theorem dX_isSealed_1 : decode cX_isSealed 1 = .ok (.getfield 22, 3) := by decide +kernel
theorem dX_isSealed_4 : decode cX_isSealed 4 = .ok (.iload_n 1, 1) := by decide +kernel
theorem dX_isSealed_5 : decode cX_isSealed 5 = .ok (.iaload, 1) := by decide +kernel
theorem dX_isSealed_6 : decode cX_isSealed 6 = .ok (.ifCond .eq 7, 3) := by decide +kernel
theorem dX_isSealed_9 : decode cX_isSealed 9 = .ok (.iconst 1, 1) := by decide +kernel
theorem dX_isSealed_10 : decode cX_isSealed 10 = .ok (.goto 4, 3) := by decide +kernel
theorem dX_isSealed_13 : decode cX_isSealed 13 = .ok (.iconst 0, 1) := by decide +kernel
theorem dX_isSealed_14 : decode cX_isSealed 14 = .ok (.ireturn, 1) := by decide +kernel
theorem dX_hasPermissions_0 : decode cX_hasPermissions 0 = .ok (.iload_n 2, 1) := by decide +kernel
theorem dX_hasPermissions_1 : decode cX_hasPermissions 1 = .ok (.aload_n 0, 1) := by decide +kernel
theorem dX_hasPermissions_2 : decode cX_hasPermissions 2 = .ok (.getfield 19, 3) := by decide +kernel
theorem dX_hasPermissions_5 : decode cX_hasPermissions 5 = .ok (.iload_n 1, 1) := by decide +kernel
theorem dX_hasPermissions_6 : decode cX_hasPermissions 6 = .ok (.iaload, 1) := by decide +kernel
theorem dX_hasPermissions_7 : decode cX_hasPermissions 7 = .ok (.iconst (-1), 1) := by decide +kernel
theorem dX_hasPermissions_8 : decode cX_hasPermissions 8 = .ok (.ixor, 1) := by decide +kernel
theorem dX_hasPermissions_9 : decode cX_hasPermissions 9 = .ok (.iand, 1) := by decide +kernel
theorem dX_hasPermissions_10 : decode cX_hasPermissions 10 = .ok (.ifCond .ne 7, 3) := by decide +kernel
theorem dX_hasPermissions_13 : decode cX_hasPermissions 13 = .ok (.iconst 1, 1) := by decide +kernel
theorem dX_hasPermissions_14 : decode cX_hasPermissions 14 = .ok (.goto 4, 3) := by decide +kernel
theorem dX_hasPermissions_17 : decode cX_hasPermissions 17 = .ok (.iconst 0, 1) := by decide +kernel
theorem dX_hasPermissions_18 : decode cX_hasPermissions 18 = .ok (.ireturn, 1) := by decide +kernel
theorem dX_isInBounds_0 : decode cX_isInBounds 0 = .ok (.iload_n 2, 1) := by decide +kernel
theorem dX_isInBounds_1 : decode cX_isInBounds 1 = .ok (.invokestatic 29, 3) := by decide +kernel
theorem dX_isInBounds_4 : decode cX_isInBounds 4 = .ok (.lstore 5, 2) := by decide +kernel
theorem dX_isInBounds_6 : decode cX_isInBounds 6 = .ok (.lload 5, 2) := by decide +kernel
theorem dX_isInBounds_8 : decode cX_isInBounds 8 = .ok (.aload_n 0, 1) := by decide +kernel
theorem dX_isInBounds_9 : decode cX_isInBounds 9 = .ok (.getfield 13, 3) := by decide +kernel
theorem dX_isInBounds_12 : decode cX_isInBounds 12 = .ok (.iload_n 1, 1) := by decide +kernel
theorem dX_isInBounds_13 : decode cX_isInBounds 13 = .ok (.iaload, 1) := by decide +kernel
theorem dX_isInBounds_14 : decode cX_isInBounds 14 = .ok (.invokestatic 29, 3) := by decide +kernel
theorem dX_isInBounds_17 : decode cX_isInBounds 17 = .ok (.lcmp, 1) := by decide +kernel
theorem dX_isInBounds_18 : decode cX_isInBounds 18 = .ok (.ifCond .lt 24, 3) := by decide +kernel
theorem dX_isInBounds_21 : decode cX_isInBounds 21 = .ok (.lload 5, 2) := by decide +kernel
theorem dX_isInBounds_23 : decode cX_isInBounds 23 = .ok (.lload_n 3, 1) := by decide +kernel
theorem dX_isInBounds_24 : decode cX_isInBounds 24 = .ok (.ladd, 1) := by decide +kernel
theorem dX_isInBounds_25 : decode cX_isInBounds 25 = .ok (.aload_n 0, 1) := by decide +kernel
theorem dX_isInBounds_26 : decode cX_isInBounds 26 = .ok (.getfield 16, 3) := by decide +kernel
theorem dX_isInBounds_29 : decode cX_isInBounds 29 = .ok (.iload_n 1, 1) := by decide +kernel
theorem dX_isInBounds_30 : decode cX_isInBounds 30 = .ok (.iaload, 1) := by decide +kernel
theorem dX_isInBounds_31 : decode cX_isInBounds 31 = .ok (.invokestatic 29, 3) := by decide +kernel
theorem dX_isInBounds_34 : decode cX_isInBounds 34 = .ok (.lcmp, 1) := by decide +kernel
theorem dX_isInBounds_35 : decode cX_isInBounds 35 = .ok (.ifCond .gt 7, 3) := by decide +kernel
theorem dX_isInBounds_38 : decode cX_isInBounds 38 = .ok (.iconst 1, 1) := by decide +kernel
theorem dX_isInBounds_39 : decode cX_isInBounds 39 = .ok (.goto 4, 3) := by decide +kernel
theorem dX_isInBounds_42 : decode cX_isInBounds 42 = .ok (.iconst 0, 1) := by decide +kernel
theorem dX_isInBounds_43 : decode cX_isInBounds 43 = .ok (.ireturn, 1) := by decide +kernel
theorem dX_accessCause_0 : decode cX_accessCause 0 = .ok (.aload_n 0, 1) := by decide +kernel
theorem dX_accessCause_1 : decode cX_accessCause 1 = .ok (.getfield 25, 3) := by decide +kernel
theorem dX_accessCause_4 : decode cX_accessCause 4 = .ok (.iload_n 1, 1) := by decide +kernel
theorem dX_accessCause_5 : decode cX_accessCause 5 = .ok (.baload, 1) := by decide +kernel
theorem dX_accessCause_6 : decode cX_accessCause 6 = .ok (.ifCond .ne 5, 3) := by decide +kernel
theorem dX_accessCause_9 : decode cX_accessCause 9 = .ok (.iconst 1, 1) := by decide +kernel
theorem dX_accessCause_10 : decode cX_accessCause 10 = .ok (.ireturn, 1) := by decide +kernel
theorem dX_accessCause_11 : decode cX_accessCause 11 = .ok (.aload_n 0, 1) := by decide +kernel
theorem dX_accessCause_12 : decode cX_accessCause 12 = .ok (.iload_n 1, 1) := by decide +kernel
theorem dX_accessCause_13 : decode cX_accessCause 13 = .ok (.invokevirtual 46, 3) := by decide +kernel
theorem dX_accessCause_16 : decode cX_accessCause 16 = .ok (.ifCond .eq 5, 3) := by decide +kernel
theorem dX_accessCause_19 : decode cX_accessCause 19 = .ok (.iconst 2, 1) := by decide +kernel
theorem dX_accessCause_20 : decode cX_accessCause 20 = .ok (.ireturn, 1) := by decide +kernel
theorem dX_accessCause_21 : decode cX_accessCause 21 = .ok (.aload_n 0, 1) := by decide +kernel
theorem dX_accessCause_22 : decode cX_accessCause 22 = .ok (.iload_n 1, 1) := by decide +kernel
theorem dX_accessCause_23 : decode cX_accessCause 23 = .ok (.iload 4, 2) := by decide +kernel
theorem dX_accessCause_25 : decode cX_accessCause 25 = .ok (.invokevirtual 72, 3) := by decide +kernel
theorem dX_accessCause_28 : decode cX_accessCause 28 = .ok (.ifCond .ne 5, 3) := by decide +kernel
theorem dX_accessCause_31 : decode cX_accessCause 31 = .ok (.iconst 3, 1) := by decide +kernel
theorem dX_accessCause_32 : decode cX_accessCause 32 = .ok (.ireturn, 1) := by decide +kernel
theorem dX_accessCause_33 : decode cX_accessCause 33 = .ok (.aload_n 0, 1) := by decide +kernel
theorem dX_accessCause_34 : decode cX_accessCause 34 = .ok (.iload_n 1, 1) := by decide +kernel
theorem dX_accessCause_35 : decode cX_accessCause 35 = .ok (.iload_n 2, 1) := by decide +kernel
theorem dX_accessCause_36 : decode cX_accessCause 36 = .ok (.iload_n 3, 1) := by decide +kernel
theorem dX_accessCause_37 : decode cX_accessCause 37 = .ok (.i2l, 1) := by decide +kernel
theorem dX_accessCause_38 : decode cX_accessCause 38 = .ok (.invokevirtual 54, 3) := by decide +kernel
theorem dX_accessCause_41 : decode cX_accessCause 41 = .ok (.ifCond .eq 7, 3) := by decide +kernel
theorem dX_accessCause_44 : decode cX_accessCause 44 = .ok (.iconst 0, 1) := by decide +kernel
theorem dX_accessCause_45 : decode cX_accessCause 45 = .ok (.goto 4, 3) := by decide +kernel
theorem dX_accessCause_48 : decode cX_accessCause 48 = .ok (.iconst 4, 1) := by decide +kernel
theorem dX_accessCause_49 : decode cX_accessCause 49 = .ok (.ireturn, 1) := by decide +kernel
theorem dX_sealingCause_0 : decode cX_sealingCause 0 = .ok (.aload_n 0, 1) := by decide +kernel
theorem dX_sealingCause_1 : decode cX_sealingCause 1 = .ok (.getfield 25, 3) := by decide +kernel
theorem dX_sealingCause_4 : decode cX_sealingCause 4 = .ok (.iload_n 1, 1) := by decide +kernel
theorem dX_sealingCause_5 : decode cX_sealingCause 5 = .ok (.baload, 1) := by decide +kernel
theorem dX_sealingCause_6 : decode cX_sealingCause 6 = .ok (.ifCond .eq 12, 3) := by decide +kernel
theorem dX_sealingCause_9 : decode cX_sealingCause 9 = .ok (.aload_n 0, 1) := by decide +kernel
theorem dX_sealingCause_10 : decode cX_sealingCause 10 = .ok (.getfield 25, 3) := by decide +kernel
theorem dX_sealingCause_13 : decode cX_sealingCause 13 = .ok (.iload_n 2, 1) := by decide +kernel
theorem dX_sealingCause_14 : decode cX_sealingCause 14 = .ok (.baload, 1) := by decide +kernel
theorem dX_sealingCause_15 : decode cX_sealingCause 15 = .ok (.ifCond .ne 5, 3) := by decide +kernel
theorem dX_sealingCause_18 : decode cX_sealingCause 18 = .ok (.iconst 1, 1) := by decide +kernel
theorem dX_sealingCause_19 : decode cX_sealingCause 19 = .ok (.ireturn, 1) := by decide +kernel
theorem dX_sealingCause_20 : decode cX_sealingCause 20 = .ok (.aload_n 0, 1) := by decide +kernel
theorem dX_sealingCause_21 : decode cX_sealingCause 21 = .ok (.iload_n 1, 1) := by decide +kernel
theorem dX_sealingCause_22 : decode cX_sealingCause 22 = .ok (.invokevirtual 46, 3) := by decide +kernel
theorem dX_sealingCause_25 : decode cX_sealingCause 25 = .ok (.ifCond .eq 5, 3) := by decide +kernel
theorem dX_sealingCause_28 : decode cX_sealingCause 28 = .ok (.iconst 2, 1) := by decide +kernel
theorem dX_sealingCause_29 : decode cX_sealingCause 29 = .ok (.ireturn, 1) := by decide +kernel
theorem dX_sealingCause_30 : decode cX_sealingCause 30 = .ok (.aload_n 0, 1) := by decide +kernel
theorem dX_sealingCause_31 : decode cX_sealingCause 31 = .ok (.iload_n 2, 1) := by decide +kernel
theorem dX_sealingCause_32 : decode cX_sealingCause 32 = .ok (.aload_n 0, 1) := by decide +kernel
theorem dX_sealingCause_33 : decode cX_sealingCause 33 = .ok (.getfield 9, 3) := by decide +kernel
theorem dX_sealingCause_36 : decode cX_sealingCause 36 = .ok (.iload_n 2, 1) := by decide +kernel
theorem dX_sealingCause_37 : decode cX_sealingCause 37 = .ok (.iaload, 1) := by decide +kernel
theorem dX_sealingCause_38 : decode cX_sealingCause 38 = .ok (.iconst 1, 1) := by decide +kernel
theorem dX_sealingCause_39 : decode cX_sealingCause 39 = .ok (.bipush 32, 2) := by decide +kernel
theorem dX_sealingCause_41 : decode cX_sealingCause 41 = .ok (.invokevirtual 68, 3) := by decide +kernel
theorem dX_sealingCause_44 : decode cX_sealingCause 44 = .ok (.istore_n 3, 1) := by decide +kernel
theorem dX_sealingCause_45 : decode cX_sealingCause 45 = .ok (.iload_n 3, 1) := by decide +kernel
theorem dX_sealingCause_46 : decode cX_sealingCause 46 = .ok (.ifCond .eq 5, 3) := by decide +kernel
theorem dX_sealingCause_49 : decode cX_sealingCause 49 = .ok (.iload_n 3, 1) := by decide +kernel
theorem dX_sealingCause_50 : decode cX_sealingCause 50 = .ok (.ireturn, 1) := by decide +kernel
theorem dX_sealingCause_51 : decode cX_sealingCause 51 = .ok (.aload_n 0, 1) := by decide +kernel
theorem dX_sealingCause_52 : decode cX_sealingCause 52 = .ok (.getfield 9, 3) := by decide +kernel
theorem dX_sealingCause_55 : decode cX_sealingCause 55 = .ok (.iload_n 2, 1) := by decide +kernel
theorem dX_sealingCause_56 : decode cX_sealingCause 56 = .ok (.iaload, 1) := by decide +kernel
theorem dX_sealingCause_57 : decode cX_sealingCause 57 = .ok (.iconst 1, 1) := by decide +kernel
theorem dX_sealingCause_58 : decode cX_sealingCause 58 = .ok (.if_icmp .lt 18, 3) := by decide +kernel
theorem dX_sealingCause_61 : decode cX_sealingCause 61 = .ok (.aload_n 0, 1) := by decide +kernel
theorem dX_sealingCause_62 : decode cX_sealingCause 62 = .ok (.getfield 9, 3) := by decide +kernel
theorem dX_sealingCause_65 : decode cX_sealingCause 65 = .ok (.iload_n 2, 1) := by decide +kernel
theorem dX_sealingCause_66 : decode cX_sealingCause 66 = .ok (.iaload, 1) := by decide +kernel
theorem dX_sealingCause_67 : decode cX_sealingCause 67 = .ok (.ldc 85, 2) := by decide +kernel
theorem dX_sealingCause_69 : decode cX_sealingCause 69 = .ok (.if_icmp .gt 7, 3) := by decide +kernel
theorem dX_sealingCause_72 : decode cX_sealingCause 72 = .ok (.iconst 1, 1) := by decide +kernel
theorem dX_sealingCause_73 : decode cX_sealingCause 73 = .ok (.goto 4, 3) := by decide +kernel
theorem dX_sealingCause_76 : decode cX_sealingCause 76 = .ok (.iconst 0, 1) := by decide +kernel
theorem dX_sealingCause_77 : decode cX_sealingCause 77 = .ok (.istore 4, 2) := by decide +kernel
theorem dX_sealingCause_79 : decode cX_sealingCause 79 = .ok (.iload 4, 2) := by decide +kernel
theorem dX_sealingCause_81 : decode cX_sealingCause 81 = .ok (.ifCond .eq 7, 3) := by decide +kernel
theorem dX_sealingCause_84 : decode cX_sealingCause 84 = .ok (.iconst 0, 1) := by decide +kernel
theorem dX_sealingCause_85 : decode cX_sealingCause 85 = .ok (.goto 4, 3) := by decide +kernel
theorem dX_sealingCause_88 : decode cX_sealingCause 88 = .ok (.iconst 4, 1) := by decide +kernel
theorem dX_sealingCause_89 : decode cX_sealingCause 89 = .ok (.ireturn, 1) := by decide +kernel
theorem dX_unsealingCause_0 : decode cX_unsealingCause 0 = .ok (.aload_n 0, 1) := by decide +kernel
theorem dX_unsealingCause_1 : decode cX_unsealingCause 1 = .ok (.getfield 25, 3) := by decide +kernel
theorem dX_unsealingCause_4 : decode cX_unsealingCause 4 = .ok (.iload_n 1, 1) := by decide +kernel
theorem dX_unsealingCause_5 : decode cX_unsealingCause 5 = .ok (.baload, 1) := by decide +kernel
theorem dX_unsealingCause_6 : decode cX_unsealingCause 6 = .ok (.ifCond .eq 12, 3) := by decide +kernel
theorem dX_unsealingCause_9 : decode cX_unsealingCause 9 = .ok (.aload_n 0, 1) := by decide +kernel
theorem dX_unsealingCause_10 : decode cX_unsealingCause 10 = .ok (.getfield 25, 3) := by decide +kernel
theorem dX_unsealingCause_13 : decode cX_unsealingCause 13 = .ok (.iload_n 2, 1) := by decide +kernel
theorem dX_unsealingCause_14 : decode cX_unsealingCause 14 = .ok (.baload, 1) := by decide +kernel
theorem dX_unsealingCause_15 : decode cX_unsealingCause 15 = .ok (.ifCond .ne 5, 3) := by decide +kernel
theorem dX_unsealingCause_18 : decode cX_unsealingCause 18 = .ok (.iconst 1, 1) := by decide +kernel
theorem dX_unsealingCause_19 : decode cX_unsealingCause 19 = .ok (.ireturn, 1) := by decide +kernel
theorem dX_unsealingCause_20 : decode cX_unsealingCause 20 = .ok (.aload_n 0, 1) := by decide +kernel
theorem dX_unsealingCause_21 : decode cX_unsealingCause 21 = .ok (.iload_n 1, 1) := by decide +kernel
theorem dX_unsealingCause_22 : decode cX_unsealingCause 22 = .ok (.invokevirtual 46, 3) := by decide +kernel
theorem dX_unsealingCause_25 : decode cX_unsealingCause 25 = .ok (.ifCond .ne 5, 3) := by decide +kernel
theorem dX_unsealingCause_28 : decode cX_unsealingCause 28 = .ok (.iconst 2, 1) := by decide +kernel
theorem dX_unsealingCause_29 : decode cX_unsealingCause 29 = .ok (.ireturn, 1) := by decide +kernel
theorem dX_unsealingCause_30 : decode cX_unsealingCause 30 = .ok (.aload_n 0, 1) := by decide +kernel
theorem dX_unsealingCause_31 : decode cX_unsealingCause 31 = .ok (.iload_n 2, 1) := by decide +kernel
theorem dX_unsealingCause_32 : decode cX_unsealingCause 32 = .ok (.aload_n 0, 1) := by decide +kernel
theorem dX_unsealingCause_33 : decode cX_unsealingCause 33 = .ok (.getfield 9, 3) := by decide +kernel
theorem dX_unsealingCause_36 : decode cX_unsealingCause 36 = .ok (.iload_n 2, 1) := by decide +kernel
theorem dX_unsealingCause_37 : decode cX_unsealingCause 37 = .ok (.iaload, 1) := by decide +kernel
theorem dX_unsealingCause_38 : decode cX_unsealingCause 38 = .ok (.iconst 1, 1) := by decide +kernel
theorem dX_unsealingCause_39 : decode cX_unsealingCause 39 = .ok (.bipush 64, 2) := by decide +kernel
theorem dX_unsealingCause_41 : decode cX_unsealingCause 41 = .ok (.invokevirtual 68, 3) := by decide +kernel
theorem dX_unsealingCause_44 : decode cX_unsealingCause 44 = .ok (.istore_n 3, 1) := by decide +kernel
theorem dX_unsealingCause_45 : decode cX_unsealingCause 45 = .ok (.iload_n 3, 1) := by decide +kernel
theorem dX_unsealingCause_46 : decode cX_unsealingCause 46 = .ok (.ifCond .eq 5, 3) := by decide +kernel
theorem dX_unsealingCause_49 : decode cX_unsealingCause 49 = .ok (.iload_n 3, 1) := by decide +kernel
theorem dX_unsealingCause_50 : decode cX_unsealingCause 50 = .ok (.ireturn, 1) := by decide +kernel
theorem dX_unsealingCause_51 : decode cX_unsealingCause 51 = .ok (.aload_n 0, 1) := by decide +kernel
theorem dX_unsealingCause_52 : decode cX_unsealingCause 52 = .ok (.getfield 9, 3) := by decide +kernel
theorem dX_unsealingCause_55 : decode cX_unsealingCause 55 = .ok (.iload_n 2, 1) := by decide +kernel
theorem dX_unsealingCause_56 : decode cX_unsealingCause 56 = .ok (.iaload, 1) := by decide +kernel
theorem dX_unsealingCause_57 : decode cX_unsealingCause 57 = .ok (.aload_n 0, 1) := by decide +kernel
theorem dX_unsealingCause_58 : decode cX_unsealingCause 58 = .ok (.getfield 22, 3) := by decide +kernel
theorem dX_unsealingCause_61 : decode cX_unsealingCause 61 = .ok (.iload_n 1, 1) := by decide +kernel
theorem dX_unsealingCause_62 : decode cX_unsealingCause 62 = .ok (.iaload, 1) := by decide +kernel
theorem dX_unsealingCause_63 : decode cX_unsealingCause 63 = .ok (.if_icmp .ne 7, 3) := by decide +kernel
theorem dX_unsealingCause_66 : decode cX_unsealingCause 66 = .ok (.iconst 0, 1) := by decide +kernel
theorem dX_unsealingCause_67 : decode cX_unsealingCause 67 = .ok (.goto 4, 3) := by decide +kernel
theorem dX_unsealingCause_70 : decode cX_unsealingCause 70 = .ok (.iconst 4, 1) := by decide +kernel
theorem dX_unsealingCause_71 : decode cX_unsealingCause 71 = .ok (.ireturn, 1) := by decide +kernel
end
section
/-! Rows that decode each instruction. Laid by program. -/
theorem dM_init_0 : decode cM_init 0 = .ok (.aload_n 0, 1) := by decide +kernel
theorem dM_init_1 : decode cM_init 1 = .ok (.invokespecial 1, 3) := by decide +kernel
theorem dM_init_4 : decode cM_init 4 = .ok (.aload_n 0, 1) := by decide +kernel
theorem dM_init_5 : decode cM_init 5 = .ok (.bipush 16, 2) := by decide +kernel
theorem dM_init_7 : decode cM_init 7 = .ok (.newarray .long, 2) := by decide +kernel
theorem dM_init_9 : decode cM_init 9 = .ok (.putfield 9, 3) := by decide +kernel
theorem dM_init_12 : decode cM_init 12 = .ok (.aload_n 0, 1) := by decide +kernel
theorem dM_init_13 : decode cM_init 13 = .ok (.bipush 16, 2) := by decide +kernel
theorem dM_init_15 : decode cM_init 15 = .ok (.newarray .long, 2) := by decide +kernel
theorem dM_init_17 : decode cM_init 17 = .ok (.putfield 13, 3) := by decide +kernel
theorem dM_init_20 : decode cM_init 20 = .ok (.aload_n 0, 1) := by decide +kernel
theorem dM_init_21 : decode cM_init 21 = .ok (.bipush 16, 2) := by decide +kernel
theorem dM_init_23 : decode cM_init 23 = .ok (.newarray .long, 2) := by decide +kernel
theorem dM_init_25 : decode cM_init 25 = .ok (.putfield 16, 3) := by decide +kernel
theorem dM_init_28 : decode cM_init 28 = .ok (.aload_n 0, 1) := by decide +kernel
theorem dM_init_29 : decode cM_init 29 = .ok (.bipush 16, 2) := by decide +kernel
theorem dM_init_31 : decode cM_init 31 = .ok (.newarray .int, 2) := by decide +kernel
theorem dM_init_33 : decode cM_init 33 = .ok (.putfield 19, 3) := by decide +kernel
theorem dM_init_36 : decode cM_init 36 = .ok (.aload_n 0, 1) := by decide +kernel
theorem dM_init_37 : decode cM_init 37 = .ok (.bipush 16, 2) := by decide +kernel
theorem dM_init_39 : decode cM_init 39 = .ok (.newarray .int, 2) := by decide +kernel
theorem dM_init_41 : decode cM_init 41 = .ok (.putfield 23, 3) := by decide +kernel
theorem dM_init_44 : decode cM_init 44 = .ok (.aload_n 0, 1) := by decide +kernel
theorem dM_init_45 : decode cM_init 45 = .ok (.bipush 16, 2) := by decide +kernel
theorem dM_init_47 : decode cM_init 47 = .ok (.newarray .boolean, 2) := by decide +kernel
theorem dM_init_49 : decode cM_init 49 = .ok (.putfield 26, 3) := by decide +kernel
theorem dM_init_52 : decode cM_init 52 = .ok (.return_, 1) := by decide +kernel
theorem dM_thrown_0 : decode cM_thrown 0 = .ok (.aload_n 0, 1) := by decide +kernel
theorem dM_thrown_1 : decode cM_thrown 1 = .ok (.getfield 30, 3) := by decide +kernel
theorem dM_thrown_4 : decode cM_thrown 4 = .ok (.ireturn, 1) := by decide +kernel
theorem dM_in_0 : decode cM_in 0 = .ok (.lload_n 0, 1) := by decide +kernel
theorem dM_in_1 : decode cM_in 1 = .ok (.lload_n 2, 1) := by decide +kernel
theorem dM_in_2 : decode cM_in 2 = .ok (.lcmp, 1) := by decide +kernel
theorem dM_in_3 : decode cM_in 3 = .ok (.ifCond .lt 14, 3) := by decide +kernel
theorem dM_in_6 : decode cM_in 6 = .ok (.lload_n 0, 1) := by decide +kernel
theorem dM_in_7 : decode cM_in 7 = .ok (.lload 4, 2) := by decide +kernel
theorem dM_in_9 : decode cM_in 9 = .ok (.lcmp, 1) := by decide +kernel
theorem dM_in_10 : decode cM_in 10 = .ok (.ifCond .gt 7, 3) := by decide +kernel
theorem dM_in_13 : decode cM_in 13 = .ok (.iconst 1, 1) := by decide +kernel
theorem dM_in_14 : decode cM_in 14 = .ok (.goto 4, 3) := by decide +kernel
theorem dM_in_17 : decode cM_in 17 = .ok (.iconst 0, 1) := by decide +kernel
theorem dM_in_18 : decode cM_in 18 = .ok (.ireturn, 1) := by decide +kernel
theorem dM_fails_0 : decode cM_fails 0 = .ok (.iload_n 1, 1) := by decide +kernel
theorem dM_fails_1 : decode cM_fails 1 = .ok (.ifCond .eq 15, 3) := by decide +kernel
theorem dM_fails_4 : decode cM_fails 4 = .ok (.aload_n 0, 1) := by decide +kernel
theorem dM_fails_5 : decode cM_fails 5 = .ok (.getfield 30, 3) := by decide +kernel
theorem dM_fails_8 : decode cM_fails 8 = .ok (.ifCond .ne 8, 3) := by decide +kernel
theorem dM_fails_11 : decode cM_fails 11 = .ok (.aload_n 0, 1) := by decide +kernel
theorem dM_fails_12 : decode cM_fails 12 = .ok (.iload_n 2, 1) := by decide +kernel
theorem dM_fails_13 : decode cM_fails 13 = .ok (.putfield 30, 3) := by decide +kernel
theorem dM_fails_16 : decode cM_fails 16 = .ok (.aload_n 0, 1) := by decide +kernel
theorem dM_fails_17 : decode cM_fails 17 = .ok (.getfield 30, 3) := by decide +kernel
theorem dM_fails_20 : decode cM_fails 20 = .ok (.ifCond .eq 7, 3) := by decide +kernel
theorem dM_fails_23 : decode cM_fails 23 = .ok (.iconst 1, 1) := by decide +kernel
theorem dM_fails_24 : decode cM_fails 24 = .ok (.goto 4, 3) := by decide +kernel
theorem dM_fails_27 : decode cM_fails 27 = .ok (.iconst 0, 1) := by decide +kernel
theorem dM_fails_28 : decode cM_fails 28 = .ok (.ireturn, 1) := by decide +kernel
theorem dM_is_0 : decode cM_is 0 = .ok (.iload_n 0, 1) := by decide +kernel
theorem dM_is_1 : decode cM_is 1 = .ok (.i2l, 1) := by decide +kernel
theorem dM_is_2 : decode cM_is 2 = .ok (.lconst 0, 1) := by decide +kernel
theorem dM_is_3 : decode cM_is 3 = .ok (.ldc2_w 34, 3) := by decide +kernel
theorem dM_is_6 : decode cM_is 6 = .ok (.invokestatic 36, 3) := by decide +kernel
theorem dM_is_9 : decode cM_is 9 = .ok (.ireturn, 1) := by decide +kernel
theorem dM_wide_0 : decode cM_wide 0 = .ok (.iload_n 0, 1) := by decide +kernel
theorem dM_wide_1 : decode cM_wide 1 = .ok (.i2l, 1) := by decide +kernel
theorem dM_wide_2 : decode cM_wide 2 = .ok (.ldc2_w 40, 3) := by decide +kernel
theorem dM_wide_5 : decode cM_wide 5 = .ok (.lrem, 1) := by decide +kernel
theorem dM_wide_6 : decode cM_wide 6 = .ok (.ldc2_w 40, 3) := by decide +kernel
theorem dM_wide_9 : decode cM_wide 9 = .ok (.ladd, 1) := by decide +kernel
theorem dM_wide_10 : decode cM_wide 10 = .ok (.ldc2_w 40, 3) := by decide +kernel
theorem dM_wide_13 : decode cM_wide 13 = .ok (.lrem, 1) := by decide +kernel
theorem dM_wide_14 : decode cM_wide 14 = .ok (.lreturn, 1) := by decide +kernel
theorem dM_give_0 : decode cM_give 0 = .ok (.aload_n 0, 1) := by decide +kernel
theorem dM_give_1 : decode cM_give 1 = .ok (.getfield 9, 3) := by decide +kernel
theorem dM_give_4 : decode cM_give 4 = .ok (.iload_n 1, 1) := by decide +kernel
theorem dM_give_5 : decode cM_give 5 = .ok (.lload_n 2, 1) := by decide +kernel
theorem dM_give_6 : decode cM_give 6 = .ok (.lastore, 1) := by decide +kernel
theorem dM_give_7 : decode cM_give 7 = .ok (.aload_n 0, 1) := by decide +kernel
theorem dM_give_8 : decode cM_give 8 = .ok (.getfield 13, 3) := by decide +kernel
theorem dM_give_11 : decode cM_give 11 = .ok (.iload_n 1, 1) := by decide +kernel
theorem dM_give_12 : decode cM_give 12 = .ok (.lload 4, 2) := by decide +kernel
theorem dM_give_14 : decode cM_give 14 = .ok (.lastore, 1) := by decide +kernel
theorem dM_give_15 : decode cM_give 15 = .ok (.aload_n 0, 1) := by decide +kernel
theorem dM_give_16 : decode cM_give 16 = .ok (.getfield 16, 3) := by decide +kernel
theorem dM_give_19 : decode cM_give 19 = .ok (.iload_n 1, 1) := by decide +kernel
theorem dM_give_20 : decode cM_give 20 = .ok (.lload 6, 2) := by decide +kernel
theorem dM_give_22 : decode cM_give 22 = .ok (.lastore, 1) := by decide +kernel
theorem dM_give_23 : decode cM_give 23 = .ok (.aload_n 0, 1) := by decide +kernel
theorem dM_give_24 : decode cM_give 24 = .ok (.getfield 19, 3) := by decide +kernel
theorem dM_give_27 : decode cM_give 27 = .ok (.iload_n 1, 1) := by decide +kernel
theorem dM_give_28 : decode cM_give 28 = .ok (.iload 8, 2) := by decide +kernel
theorem dM_give_30 : decode cM_give 30 = .ok (.iastore, 1) := by decide +kernel
theorem dM_give_31 : decode cM_give 31 = .ok (.aload_n 0, 1) := by decide +kernel
theorem dM_give_32 : decode cM_give 32 = .ok (.getfield 23, 3) := by decide +kernel
theorem dM_give_35 : decode cM_give 35 = .ok (.iload_n 1, 1) := by decide +kernel
theorem dM_give_36 : decode cM_give 36 = .ok (.iload 9, 2) := by decide +kernel
theorem dM_give_38 : decode cM_give 38 = .ok (.iastore, 1) := by decide +kernel
theorem dM_give_39 : decode cM_give 39 = .ok (.aload_n 0, 1) := by decide +kernel
theorem dM_give_40 : decode cM_give 40 = .ok (.getfield 26, 3) := by decide +kernel
theorem dM_give_43 : decode cM_give 43 = .ok (.iload_n 1, 1) := by decide +kernel
theorem dM_give_44 : decode cM_give 44 = .ok (.iload 10, 2) := by decide +kernel
theorem dM_give_46 : decode cM_give 46 = .ok (.bastore, 1) := by decide +kernel
theorem dM_give_47 : decode cM_give 47 = .ok (.return_, 1) := by decide +kernel
theorem dM_root_0 : decode cM_root 0 = .ok (.aload_n 0, 1) := by decide +kernel
theorem dM_root_1 : decode cM_root 1 = .ok (.iconst 0, 1) := by decide +kernel
theorem dM_root_2 : decode cM_root 2 = .ok (.putfield 30, 3) := by decide +kernel
theorem dM_root_5 : decode cM_root 5 = .ok (.aload_n 0, 1) := by decide +kernel
theorem dM_root_6 : decode cM_root 6 = .ok (.iload_n 2, 1) := by decide +kernel
theorem dM_root_7 : decode cM_root 7 = .ok (.invokestatic 42, 3) := by decide +kernel
theorem dM_root_10 : decode cM_root 10 = .ok (.iload_n 3, 1) := by decide +kernel
theorem dM_root_11 : decode cM_root 11 = .ok (.invokestatic 42, 3) := by decide +kernel
theorem dM_root_14 : decode cM_root 14 = .ok (.lcmp, 1) := by decide +kernel
theorem dM_root_15 : decode cM_root 15 = .ok (.ifCond .gt 16, 3) := by decide +kernel
theorem dM_root_18 : decode cM_root 18 = .ok (.iload 4, 2) := by decide +kernel
theorem dM_root_20 : decode cM_root 20 = .ok (.i2l, 1) := by decide +kernel
theorem dM_root_21 : decode cM_root 21 = .ok (.lconst 0, 1) := by decide +kernel
theorem dM_root_22 : decode cM_root 22 = .ok (.ldc2_w 46, 3) := by decide +kernel
theorem dM_root_25 : decode cM_root 25 = .ok (.invokestatic 36, 3) := by decide +kernel
theorem dM_root_28 : decode cM_root 28 = .ok (.ifCond .ne 7, 3) := by decide +kernel
theorem dM_root_31 : decode cM_root 31 = .ok (.iconst 1, 1) := by decide +kernel
theorem dM_root_32 : decode cM_root 32 = .ok (.goto 4, 3) := by decide +kernel
theorem dM_root_35 : decode cM_root 35 = .ok (.iconst 0, 1) := by decide +kernel
theorem dM_root_36 : decode cM_root 36 = .ok (.iconst 1, 1) := by decide +kernel
theorem dM_root_37 : decode cM_root 37 = .ok (.invokevirtual 48, 3) := by decide +kernel
theorem dM_root_40 : decode cM_root 40 = .ok (.ifCond .ne 23, 3) := by decide +kernel
theorem dM_root_43 : decode cM_root 43 = .ok (.aload_n 0, 1) := by decide +kernel
theorem dM_root_44 : decode cM_root 44 = .ok (.iload_n 1, 1) := by decide +kernel
theorem dM_root_45 : decode cM_root 45 = .ok (.invokestatic 52, 3) := by decide +kernel
theorem dM_root_48 : decode cM_root 48 = .ok (.ifCond .ne 7, 3) := by decide +kernel
theorem dM_root_51 : decode cM_root 51 = .ok (.iconst 1, 1) := by decide +kernel
theorem dM_root_52 : decode cM_root 52 = .ok (.goto 4, 3) := by decide +kernel
theorem dM_root_55 : decode cM_root 55 = .ok (.iconst 0, 1) := by decide +kernel
theorem dM_root_56 : decode cM_root 56 = .ok (.iconst 2, 1) := by decide +kernel
theorem dM_root_57 : decode cM_root 57 = .ok (.invokevirtual 48, 3) := by decide +kernel
theorem dM_root_60 : decode cM_root 60 = .ok (.ifCond .eq 4, 3) := by decide +kernel
theorem dM_root_63 : decode cM_root 63 = .ok (.return_, 1) := by decide +kernel
theorem dM_root_64 : decode cM_root 64 = .ok (.aload_n 0, 1) := by decide +kernel
theorem dM_root_65 : decode cM_root 65 = .ok (.iload_n 1, 1) := by decide +kernel
theorem dM_root_66 : decode cM_root 66 = .ok (.iload_n 2, 1) := by decide +kernel
theorem dM_root_67 : decode cM_root 67 = .ok (.invokestatic 42, 3) := by decide +kernel
theorem dM_root_70 : decode cM_root 70 = .ok (.iload_n 2, 1) := by decide +kernel
theorem dM_root_71 : decode cM_root 71 = .ok (.invokestatic 42, 3) := by decide +kernel
theorem dM_root_74 : decode cM_root 74 = .ok (.iload_n 3, 1) := by decide +kernel
theorem dM_root_75 : decode cM_root 75 = .ok (.invokestatic 42, 3) := by decide +kernel
theorem dM_root_78 : decode cM_root 78 = .ok (.iload 4, 2) := by decide +kernel
theorem dM_root_80 : decode cM_root 80 = .ok (.iconst 0, 1) := by decide +kernel
theorem dM_root_81 : decode cM_root 81 = .ok (.iconst 1, 1) := by decide +kernel
theorem dM_root_82 : decode cM_root 82 = .ok (.invokevirtual 56, 3) := by decide +kernel
theorem dM_root_85 : decode cM_root 85 = .ok (.return_, 1) := by decide +kernel
theorem dM_number_0 : decode cM_number 0 = .ok (.aload_n 0, 1) := by decide +kernel
theorem dM_number_1 : decode cM_number 1 = .ok (.iconst 0, 1) := by decide +kernel
theorem dM_number_2 : decode cM_number 2 = .ok (.putfield 30, 3) := by decide +kernel
theorem dM_number_5 : decode cM_number 5 = .ok (.aload_n 0, 1) := by decide +kernel
theorem dM_number_6 : decode cM_number 6 = .ok (.iload_n 1, 1) := by decide +kernel
theorem dM_number_7 : decode cM_number 7 = .ok (.invokestatic 52, 3) := by decide +kernel
theorem dM_number_10 : decode cM_number 10 = .ok (.ifCond .ne 7, 3) := by decide +kernel
theorem dM_number_13 : decode cM_number 13 = .ok (.iconst 1, 1) := by decide +kernel
theorem dM_number_14 : decode cM_number 14 = .ok (.goto 4, 3) := by decide +kernel
theorem dM_number_17 : decode cM_number 17 = .ok (.iconst 0, 1) := by decide +kernel
theorem dM_number_18 : decode cM_number 18 = .ok (.iconst 1, 1) := by decide +kernel
theorem dM_number_19 : decode cM_number 19 = .ok (.invokevirtual 48, 3) := by decide +kernel
theorem dM_number_22 : decode cM_number 22 = .ok (.ifCond .eq 4, 3) := by decide +kernel
theorem dM_number_25 : decode cM_number 25 = .ok (.return_, 1) := by decide +kernel
theorem dM_number_26 : decode cM_number 26 = .ok (.aload_n 0, 1) := by decide +kernel
theorem dM_number_27 : decode cM_number 27 = .ok (.iload_n 1, 1) := by decide +kernel
theorem dM_number_28 : decode cM_number 28 = .ok (.iload_n 2, 1) := by decide +kernel
theorem dM_number_29 : decode cM_number 29 = .ok (.invokestatic 42, 3) := by decide +kernel
theorem dM_number_32 : decode cM_number 32 = .ok (.lconst 0, 1) := by decide +kernel
theorem dM_number_33 : decode cM_number 33 = .ok (.lconst 0, 1) := by decide +kernel
theorem dM_number_34 : decode cM_number 34 = .ok (.iconst 0, 1) := by decide +kernel
theorem dM_number_35 : decode cM_number 35 = .ok (.iconst 0, 1) := by decide +kernel
theorem dM_number_36 : decode cM_number 36 = .ok (.iconst 0, 1) := by decide +kernel
theorem dM_number_37 : decode cM_number 37 = .ok (.invokevirtual 56, 3) := by decide +kernel
theorem dM_number_40 : decode cM_number 40 = .ok (.return_, 1) := by decide +kernel
theorem dM_isSealed_0 : decode cM_isSealed 0 = .ok (.aload_n 0, 1) := by decide +kernel
theorem dM_isSealed_1 : decode cM_isSealed 1 = .ok (.getfield 23, 3) := by decide +kernel
theorem dM_isSealed_4 : decode cM_isSealed 4 = .ok (.iload_n 1, 1) := by decide +kernel
theorem dM_isSealed_5 : decode cM_isSealed 5 = .ok (.iaload, 1) := by decide +kernel
theorem dM_isSealed_6 : decode cM_isSealed 6 = .ok (.ifCond .eq 7, 3) := by decide +kernel
theorem dM_isSealed_9 : decode cM_isSealed 9 = .ok (.iconst 1, 1) := by decide +kernel
theorem dM_isSealed_10 : decode cM_isSealed 10 = .ok (.goto 4, 3) := by decide +kernel
theorem dM_isSealed_13 : decode cM_isSealed 13 = .ok (.iconst 0, 1) := by decide +kernel
theorem dM_isSealed_14 : decode cM_isSealed 14 = .ok (.ireturn, 1) := by decide +kernel
theorem dM_move_0 : decode cM_move 0 = .ok (.aload_n 0, 1) := by decide +kernel
theorem dM_move_1 : decode cM_move 1 = .ok (.iconst 0, 1) := by decide +kernel
theorem dM_move_2 : decode cM_move 2 = .ok (.putfield 30, 3) := by decide +kernel
theorem dM_move_5 : decode cM_move 5 = .ok (.aload_n 0, 1) := by decide +kernel
theorem dM_move_6 : decode cM_move 6 = .ok (.iload_n 1, 1) := by decide +kernel
theorem dM_move_7 : decode cM_move 7 = .ok (.invokestatic 52, 3) := by decide +kernel
theorem dM_move_10 : decode cM_move 10 = .ok (.ifCond .eq 10, 3) := by decide +kernel
theorem dM_move_13 : decode cM_move 13 = .ok (.iload_n 2, 1) := by decide +kernel
theorem dM_move_14 : decode cM_move 14 = .ok (.invokestatic 52, 3) := by decide +kernel
theorem dM_move_17 : decode cM_move 17 = .ok (.ifCond .ne 7, 3) := by decide +kernel
theorem dM_move_20 : decode cM_move 20 = .ok (.iconst 1, 1) := by decide +kernel
theorem dM_move_21 : decode cM_move 21 = .ok (.goto 4, 3) := by decide +kernel
theorem dM_move_24 : decode cM_move 24 = .ok (.iconst 0, 1) := by decide +kernel
theorem dM_move_25 : decode cM_move 25 = .ok (.iconst 1, 1) := by decide +kernel
theorem dM_move_26 : decode cM_move 26 = .ok (.invokevirtual 48, 3) := by decide +kernel
theorem dM_move_29 : decode cM_move 29 = .ok (.ifCond .eq 4, 3) := by decide +kernel
theorem dM_move_32 : decode cM_move 32 = .ok (.return_, 1) := by decide +kernel
theorem dM_move_33 : decode cM_move 33 = .ok (.aload_n 0, 1) := by decide +kernel
theorem dM_move_34 : decode cM_move 34 = .ok (.iload_n 1, 1) := by decide +kernel
theorem dM_move_35 : decode cM_move 35 = .ok (.aload_n 0, 1) := by decide +kernel
theorem dM_move_36 : decode cM_move 36 = .ok (.getfield 9, 3) := by decide +kernel
theorem dM_move_39 : decode cM_move 39 = .ok (.iload_n 2, 1) := by decide +kernel
theorem dM_move_40 : decode cM_move 40 = .ok (.laload, 1) := by decide +kernel
theorem dM_move_41 : decode cM_move 41 = .ok (.iload_n 3, 1) := by decide +kernel
theorem dM_move_42 : decode cM_move 42 = .ok (.invokestatic 42, 3) := by decide +kernel
theorem dM_move_45 : decode cM_move 45 = .ok (.ladd, 1) := by decide +kernel
theorem dM_move_46 : decode cM_move 46 = .ok (.ldc2_w 40, 3) := by decide +kernel
theorem dM_move_49 : decode cM_move 49 = .ok (.lrem, 1) := by decide +kernel
theorem dM_move_50 : decode cM_move 50 = .ok (.aload_n 0, 1) := by decide +kernel
theorem dM_move_51 : decode cM_move 51 = .ok (.getfield 13, 3) := by decide +kernel
theorem dM_move_54 : decode cM_move 54 = .ok (.iload_n 2, 1) := by decide +kernel
theorem dM_move_55 : decode cM_move 55 = .ok (.laload, 1) := by decide +kernel
theorem dM_move_56 : decode cM_move 56 = .ok (.aload_n 0, 1) := by decide +kernel
theorem dM_move_57 : decode cM_move 57 = .ok (.getfield 16, 3) := by decide +kernel
theorem dM_move_60 : decode cM_move 60 = .ok (.iload_n 2, 1) := by decide +kernel
theorem dM_move_61 : decode cM_move 61 = .ok (.laload, 1) := by decide +kernel
theorem dM_move_62 : decode cM_move 62 = .ok (.aload_n 0, 1) := by decide +kernel
theorem dM_move_63 : decode cM_move 63 = .ok (.getfield 19, 3) := by decide +kernel
theorem dM_move_66 : decode cM_move 66 = .ok (.iload_n 2, 1) := by decide +kernel
theorem dM_move_67 : decode cM_move 67 = .ok (.iaload, 1) := by decide +kernel
theorem dM_move_68 : decode cM_move 68 = .ok (.aload_n 0, 1) := by decide +kernel
theorem dM_move_69 : decode cM_move 69 = .ok (.getfield 23, 3) := by decide +kernel
theorem dM_move_72 : decode cM_move 72 = .ok (.iload_n 2, 1) := by decide +kernel
theorem dM_move_73 : decode cM_move 73 = .ok (.iaload, 1) := by decide +kernel
theorem dM_move_74 : decode cM_move 74 = .ok (.aload_n 0, 1) := by decide +kernel
theorem dM_move_75 : decode cM_move 75 = .ok (.getfield 26, 3) := by decide +kernel
theorem dM_move_78 : decode cM_move 78 = .ok (.iload_n 2, 1) := by decide +kernel
theorem dM_move_79 : decode cM_move 79 = .ok (.baload, 1) := by decide +kernel
theorem dM_move_80 : decode cM_move 80 = .ok (.ifCond .eq 19, 3) := by decide +kernel
theorem dM_move_83 : decode cM_move 83 = .ok (.aload_n 0, 1) := by decide +kernel
theorem dM_move_84 : decode cM_move 84 = .ok (.iload_n 2, 1) := by decide +kernel
theorem dM_move_85 : decode cM_move 85 = .ok (.invokevirtual 60, 3) := by decide +kernel
theorem dM_move_88 : decode cM_move 88 = .ok (.ifCond .eq 7, 3) := by decide +kernel
theorem dM_move_91 : decode cM_move 91 = .ok (.iload_n 3, 1) := by decide +kernel
theorem dM_move_92 : decode cM_move 92 = .ok (.ifCond .ne 7, 3) := by decide +kernel
theorem dM_move_95 : decode cM_move 95 = .ok (.iconst 1, 1) := by decide +kernel
theorem dM_move_96 : decode cM_move 96 = .ok (.goto 4, 3) := by decide +kernel
theorem dM_move_99 : decode cM_move 99 = .ok (.iconst 0, 1) := by decide +kernel
theorem dM_move_100 : decode cM_move 100 = .ok (.invokevirtual 56, 3) := by decide +kernel
theorem dM_move_103 : decode cM_move 103 = .ok (.return_, 1) := by decide +kernel
theorem dM_narrow_0 : decode cM_narrow 0 = .ok (.aload_n 0, 1) := by decide +kernel
theorem dM_narrow_1 : decode cM_narrow 1 = .ok (.iconst 0, 1) := by decide +kernel
theorem dM_narrow_2 : decode cM_narrow 2 = .ok (.putfield 30, 3) := by decide +kernel
theorem dM_narrow_5 : decode cM_narrow 5 = .ok (.aload_n 0, 1) := by decide +kernel
theorem dM_narrow_6 : decode cM_narrow 6 = .ok (.iload_n 1, 1) := by decide +kernel
theorem dM_narrow_7 : decode cM_narrow 7 = .ok (.invokestatic 52, 3) := by decide +kernel
theorem dM_narrow_10 : decode cM_narrow 10 = .ok (.ifCond .eq 10, 3) := by decide +kernel
theorem dM_narrow_13 : decode cM_narrow 13 = .ok (.iload_n 2, 1) := by decide +kernel
theorem dM_narrow_14 : decode cM_narrow 14 = .ok (.invokestatic 52, 3) := by decide +kernel
theorem dM_narrow_17 : decode cM_narrow 17 = .ok (.ifCond .ne 7, 3) := by decide +kernel
theorem dM_narrow_20 : decode cM_narrow 20 = .ok (.iconst 1, 1) := by decide +kernel
theorem dM_narrow_21 : decode cM_narrow 21 = .ok (.goto 4, 3) := by decide +kernel
theorem dM_narrow_24 : decode cM_narrow 24 = .ok (.iconst 0, 1) := by decide +kernel
theorem dM_narrow_25 : decode cM_narrow 25 = .ok (.iconst 1, 1) := by decide +kernel
theorem dM_narrow_26 : decode cM_narrow 26 = .ok (.invokevirtual 48, 3) := by decide +kernel
theorem dM_narrow_29 : decode cM_narrow 29 = .ok (.ifCond .eq 5, 3) := by decide +kernel
theorem dM_narrow_32 : decode cM_narrow 32 = .ok (.iconst 0, 1) := by decide +kernel
theorem dM_narrow_33 : decode cM_narrow 33 = .ok (.ireturn, 1) := by decide +kernel
theorem dM_narrow_34 : decode cM_narrow 34 = .ok (.aload_n 0, 1) := by decide +kernel
theorem dM_narrow_35 : decode cM_narrow 35 = .ok (.getfield 9, 3) := by decide +kernel
theorem dM_narrow_38 : decode cM_narrow 38 = .ok (.iload_n 2, 1) := by decide +kernel
theorem dM_narrow_39 : decode cM_narrow 39 = .ok (.laload, 1) := by decide +kernel
theorem dM_narrow_40 : decode cM_narrow 40 = .ok (.lstore 4, 2) := by decide +kernel
theorem dM_narrow_42 : decode cM_narrow 42 = .ok (.lload 4, 2) := by decide +kernel
theorem dM_narrow_44 : decode cM_narrow 44 = .ok (.iload_n 3, 1) := by decide +kernel
theorem dM_narrow_45 : decode cM_narrow 45 = .ok (.invokestatic 42, 3) := by decide +kernel
theorem dM_narrow_48 : decode cM_narrow 48 = .ok (.ladd, 1) := by decide +kernel
theorem dM_narrow_49 : decode cM_narrow 49 = .ok (.lstore 6, 2) := by decide +kernel
theorem dM_narrow_51 : decode cM_narrow 51 = .ok (.aload_n 0, 1) := by decide +kernel
theorem dM_narrow_52 : decode cM_narrow 52 = .ok (.iload_n 1, 1) := by decide +kernel
theorem dM_narrow_53 : decode cM_narrow 53 = .ok (.lload 4, 2) := by decide +kernel
theorem dM_narrow_55 : decode cM_narrow 55 = .ok (.lload 4, 2) := by decide +kernel
theorem dM_narrow_57 : decode cM_narrow 57 = .ok (.lload 6, 2) := by decide +kernel
theorem dM_narrow_59 : decode cM_narrow 59 = .ok (.ldc2_w 40, 3) := by decide +kernel
theorem dM_narrow_62 : decode cM_narrow 62 = .ok (.lrem, 1) := by decide +kernel
theorem dM_narrow_63 : decode cM_narrow 63 = .ok (.aload_n 0, 1) := by decide +kernel
theorem dM_narrow_64 : decode cM_narrow 64 = .ok (.getfield 19, 3) := by decide +kernel
theorem dM_narrow_67 : decode cM_narrow 67 = .ok (.iload_n 2, 1) := by decide +kernel
theorem dM_narrow_68 : decode cM_narrow 68 = .ok (.iaload, 1) := by decide +kernel
theorem dM_narrow_69 : decode cM_narrow 69 = .ok (.aload_n 0, 1) := by decide +kernel
theorem dM_narrow_70 : decode cM_narrow 70 = .ok (.getfield 23, 3) := by decide +kernel
theorem dM_narrow_73 : decode cM_narrow 73 = .ok (.iload_n 2, 1) := by decide +kernel
theorem dM_narrow_74 : decode cM_narrow 74 = .ok (.iaload, 1) := by decide +kernel
theorem dM_narrow_75 : decode cM_narrow 75 = .ok (.aload_n 0, 1) := by decide +kernel
theorem dM_narrow_76 : decode cM_narrow 76 = .ok (.getfield 26, 3) := by decide +kernel
theorem dM_narrow_79 : decode cM_narrow 79 = .ok (.iload_n 2, 1) := by decide +kernel
theorem dM_narrow_80 : decode cM_narrow 80 = .ok (.baload, 1) := by decide +kernel
theorem dM_narrow_81 : decode cM_narrow 81 = .ok (.ifCond .eq 51, 3) := by decide +kernel
theorem dM_narrow_84 : decode cM_narrow 84 = .ok (.aload_n 0, 1) := by decide +kernel
theorem dM_narrow_85 : decode cM_narrow 85 = .ok (.iload_n 2, 1) := by decide +kernel
theorem dM_narrow_86 : decode cM_narrow 86 = .ok (.invokevirtual 60, 3) := by decide +kernel
theorem dM_narrow_89 : decode cM_narrow 89 = .ok (.ifCond .ne 43, 3) := by decide +kernel
theorem dM_narrow_92 : decode cM_narrow 92 = .ok (.lload 4, 2) := by decide +kernel
theorem dM_narrow_94 : decode cM_narrow 94 = .ok (.aload_n 0, 1) := by decide +kernel
theorem dM_narrow_95 : decode cM_narrow 95 = .ok (.getfield 13, 3) := by decide +kernel
theorem dM_narrow_98 : decode cM_narrow 98 = .ok (.iload_n 2, 1) := by decide +kernel
theorem dM_narrow_99 : decode cM_narrow 99 = .ok (.laload, 1) := by decide +kernel
theorem dM_narrow_100 : decode cM_narrow 100 = .ok (.lcmp, 1) := by decide +kernel
theorem dM_narrow_101 : decode cM_narrow 101 = .ok (.ifCond .lt 31, 3) := by decide +kernel
theorem dM_narrow_104 : decode cM_narrow 104 = .ok (.lload 4, 2) := by decide +kernel
theorem dM_narrow_106 : decode cM_narrow 106 = .ok (.aload_n 0, 1) := by decide +kernel
theorem dM_narrow_107 : decode cM_narrow 107 = .ok (.getfield 16, 3) := by decide +kernel
theorem dM_narrow_110 : decode cM_narrow 110 = .ok (.iload_n 2, 1) := by decide +kernel
theorem dM_narrow_111 : decode cM_narrow 111 = .ok (.laload, 1) := by decide +kernel
theorem dM_narrow_112 : decode cM_narrow 112 = .ok (.lcmp, 1) := by decide +kernel
theorem dM_narrow_113 : decode cM_narrow 113 = .ok (.ifCond .gt 19, 3) := by decide +kernel
theorem dM_narrow_116 : decode cM_narrow 116 = .ok (.lload 6, 2) := by decide +kernel
theorem dM_narrow_118 : decode cM_narrow 118 = .ok (.aload_n 0, 1) := by decide +kernel
theorem dM_narrow_119 : decode cM_narrow 119 = .ok (.getfield 16, 3) := by decide +kernel
theorem dM_narrow_122 : decode cM_narrow 122 = .ok (.iload_n 2, 1) := by decide +kernel
theorem dM_narrow_123 : decode cM_narrow 123 = .ok (.laload, 1) := by decide +kernel
theorem dM_narrow_124 : decode cM_narrow 124 = .ok (.lcmp, 1) := by decide +kernel
theorem dM_narrow_125 : decode cM_narrow 125 = .ok (.ifCond .gt 7, 3) := by decide +kernel
theorem dM_narrow_128 : decode cM_narrow 128 = .ok (.iconst 1, 1) := by decide +kernel
theorem dM_narrow_129 : decode cM_narrow 129 = .ok (.goto 4, 3) := by decide +kernel
theorem dM_narrow_132 : decode cM_narrow 132 = .ok (.iconst 0, 1) := by decide +kernel
theorem dM_narrow_133 : decode cM_narrow 133 = .ok (.invokevirtual 56, 3) := by decide +kernel
theorem dM_narrow_136 : decode cM_narrow 136 = .ok (.aload_n 0, 1) := by decide +kernel
theorem dM_narrow_137 : decode cM_narrow 137 = .ok (.getfield 26, 3) := by decide +kernel
theorem dM_narrow_140 : decode cM_narrow 140 = .ok (.iload_n 1, 1) := by decide +kernel
theorem dM_narrow_141 : decode cM_narrow 141 = .ok (.baload, 1) := by decide +kernel
theorem dM_narrow_142 : decode cM_narrow 142 = .ok (.ireturn, 1) := by decide +kernel
theorem dM_restrict_0 : decode cM_restrict 0 = .ok (.aload_n 0, 1) := by decide +kernel
theorem dM_restrict_1 : decode cM_restrict 1 = .ok (.iconst 0, 1) := by decide +kernel
theorem dM_restrict_2 : decode cM_restrict 2 = .ok (.putfield 30, 3) := by decide +kernel
theorem dM_restrict_5 : decode cM_restrict 5 = .ok (.aload_n 0, 1) := by decide +kernel
theorem dM_restrict_6 : decode cM_restrict 6 = .ok (.iload_n 1, 1) := by decide +kernel
theorem dM_restrict_7 : decode cM_restrict 7 = .ok (.invokestatic 52, 3) := by decide +kernel
theorem dM_restrict_10 : decode cM_restrict 10 = .ok (.ifCond .eq 10, 3) := by decide +kernel
theorem dM_restrict_13 : decode cM_restrict 13 = .ok (.iload_n 2, 1) := by decide +kernel
theorem dM_restrict_14 : decode cM_restrict 14 = .ok (.invokestatic 52, 3) := by decide +kernel
theorem dM_restrict_17 : decode cM_restrict 17 = .ok (.ifCond .ne 7, 3) := by decide +kernel
theorem dM_restrict_20 : decode cM_restrict 20 = .ok (.iconst 1, 1) := by decide +kernel
theorem dM_restrict_21 : decode cM_restrict 21 = .ok (.goto 4, 3) := by decide +kernel
theorem dM_restrict_24 : decode cM_restrict 24 = .ok (.iconst 0, 1) := by decide +kernel
theorem dM_restrict_25 : decode cM_restrict 25 = .ok (.iconst 1, 1) := by decide +kernel
theorem dM_restrict_26 : decode cM_restrict 26 = .ok (.invokevirtual 48, 3) := by decide +kernel
theorem dM_restrict_29 : decode cM_restrict 29 = .ok (.ifCond .eq 5, 3) := by decide +kernel
theorem dM_restrict_32 : decode cM_restrict 32 = .ok (.iconst 0, 1) := by decide +kernel
theorem dM_restrict_33 : decode cM_restrict 33 = .ok (.ireturn, 1) := by decide +kernel
theorem dM_restrict_34 : decode cM_restrict 34 = .ok (.iconst 0, 1) := by decide +kernel
theorem dM_restrict_35 : decode cM_restrict 35 = .ok (.istore 4, 2) := by decide +kernel
theorem dM_restrict_37 : decode cM_restrict 37 = .ok (.iconst 0, 1) := by decide +kernel
theorem dM_restrict_38 : decode cM_restrict 38 = .ok (.istore 5, 2) := by decide +kernel
theorem dM_restrict_40 : decode cM_restrict 40 = .ok (.iload 5, 2) := by decide +kernel
theorem dM_restrict_42 : decode cM_restrict 42 = .ok (.bipush 8, 2) := by decide +kernel
theorem dM_restrict_44 : decode cM_restrict 44 = .ok (.if_icmp .ge 43, 3) := by decide +kernel
theorem dM_restrict_47 : decode cM_restrict 47 = .ok (.aload_n 0, 1) := by decide +kernel
theorem dM_restrict_48 : decode cM_restrict 48 = .ok (.getfield 19, 3) := by decide +kernel
theorem dM_restrict_51 : decode cM_restrict 51 = .ok (.iload_n 2, 1) := by decide +kernel
theorem dM_restrict_52 : decode cM_restrict 52 = .ok (.iaload, 1) := by decide +kernel
theorem dM_restrict_53 : decode cM_restrict 53 = .ok (.iload 5, 2) := by decide +kernel
theorem dM_restrict_55 : decode cM_restrict 55 = .ok (.ishr, 1) := by decide +kernel
theorem dM_restrict_56 : decode cM_restrict 56 = .ok (.iconst 1, 1) := by decide +kernel
theorem dM_restrict_57 : decode cM_restrict 57 = .ok (.iand, 1) := by decide +kernel
theorem dM_restrict_58 : decode cM_restrict 58 = .ok (.iconst 1, 1) := by decide +kernel
theorem dM_restrict_59 : decode cM_restrict 59 = .ok (.if_icmp .ne 22, 3) := by decide +kernel
theorem dM_restrict_62 : decode cM_restrict 62 = .ok (.iload_n 3, 1) := by decide +kernel
theorem dM_restrict_63 : decode cM_restrict 63 = .ok (.iload 5, 2) := by decide +kernel
theorem dM_restrict_65 : decode cM_restrict 65 = .ok (.ishr, 1) := by decide +kernel
theorem dM_restrict_66 : decode cM_restrict 66 = .ok (.iconst 1, 1) := by decide +kernel
theorem dM_restrict_67 : decode cM_restrict 67 = .ok (.iand, 1) := by decide +kernel
theorem dM_restrict_68 : decode cM_restrict 68 = .ok (.iconst 1, 1) := by decide +kernel
theorem dM_restrict_69 : decode cM_restrict 69 = .ok (.if_icmp .ne 12, 3) := by decide +kernel
theorem dM_restrict_72 : decode cM_restrict 72 = .ok (.iload 4, 2) := by decide +kernel
theorem dM_restrict_74 : decode cM_restrict 74 = .ok (.iconst 1, 1) := by decide +kernel
theorem dM_restrict_75 : decode cM_restrict 75 = .ok (.iload 5, 2) := by decide +kernel
theorem dM_restrict_77 : decode cM_restrict 77 = .ok (.ishl, 1) := by decide +kernel
theorem dM_restrict_78 : decode cM_restrict 78 = .ok (.iadd, 1) := by decide +kernel
theorem dM_restrict_79 : decode cM_restrict 79 = .ok (.istore 4, 2) := by decide +kernel
theorem dM_restrict_81 : decode cM_restrict 81 = .ok (.iinc 5 1, 3) := by decide +kernel
theorem dM_restrict_84 : decode cM_restrict 84 = .ok (.goto (-44), 3) := by decide +kernel
theorem dM_restrict_87 : decode cM_restrict 87 = .ok (.aload_n 0, 1) := by decide +kernel
theorem dM_restrict_88 : decode cM_restrict 88 = .ok (.iload_n 1, 1) := by decide +kernel
theorem dM_restrict_89 : decode cM_restrict 89 = .ok (.aload_n 0, 1) := by decide +kernel
theorem dM_restrict_90 : decode cM_restrict 90 = .ok (.getfield 9, 3) := by decide +kernel
theorem dM_restrict_93 : decode cM_restrict 93 = .ok (.iload_n 2, 1) := by decide +kernel
theorem dM_restrict_94 : decode cM_restrict 94 = .ok (.laload, 1) := by decide +kernel
theorem dM_restrict_95 : decode cM_restrict 95 = .ok (.aload_n 0, 1) := by decide +kernel
theorem dM_restrict_96 : decode cM_restrict 96 = .ok (.getfield 13, 3) := by decide +kernel
theorem dM_restrict_99 : decode cM_restrict 99 = .ok (.iload_n 2, 1) := by decide +kernel
theorem dM_restrict_100 : decode cM_restrict 100 = .ok (.laload, 1) := by decide +kernel
theorem dM_restrict_101 : decode cM_restrict 101 = .ok (.aload_n 0, 1) := by decide +kernel
theorem dM_restrict_102 : decode cM_restrict 102 = .ok (.getfield 16, 3) := by decide +kernel
theorem dM_restrict_105 : decode cM_restrict 105 = .ok (.iload_n 2, 1) := by decide +kernel
theorem dM_restrict_106 : decode cM_restrict 106 = .ok (.laload, 1) := by decide +kernel
theorem dM_restrict_107 : decode cM_restrict 107 = .ok (.iload 4, 2) := by decide +kernel
theorem dM_restrict_109 : decode cM_restrict 109 = .ok (.aload_n 0, 1) := by decide +kernel
theorem dM_restrict_110 : decode cM_restrict 110 = .ok (.getfield 23, 3) := by decide +kernel
theorem dM_restrict_113 : decode cM_restrict 113 = .ok (.iload_n 2, 1) := by decide +kernel
theorem dM_restrict_114 : decode cM_restrict 114 = .ok (.iaload, 1) := by decide +kernel
theorem dM_restrict_115 : decode cM_restrict 115 = .ok (.aload_n 0, 1) := by decide +kernel
theorem dM_restrict_116 : decode cM_restrict 116 = .ok (.getfield 26, 3) := by decide +kernel
theorem dM_restrict_119 : decode cM_restrict 119 = .ok (.iload_n 2, 1) := by decide +kernel
theorem dM_restrict_120 : decode cM_restrict 120 = .ok (.baload, 1) := by decide +kernel
theorem dM_restrict_121 : decode cM_restrict 121 = .ok (.ifCond .eq 26, 3) := by decide +kernel
theorem dM_restrict_124 : decode cM_restrict 124 = .ok (.aload_n 0, 1) := by decide +kernel
theorem dM_restrict_125 : decode cM_restrict 125 = .ok (.iload_n 2, 1) := by decide +kernel
theorem dM_restrict_126 : decode cM_restrict 126 = .ok (.invokevirtual 60, 3) := by decide +kernel
theorem dM_restrict_129 : decode cM_restrict 129 = .ok (.ifCond .eq 14, 3) := by decide +kernel
theorem dM_restrict_132 : decode cM_restrict 132 = .ok (.iload 4, 2) := by decide +kernel
theorem dM_restrict_134 : decode cM_restrict 134 = .ok (.aload_n 0, 1) := by decide +kernel
theorem dM_restrict_135 : decode cM_restrict 135 = .ok (.getfield 19, 3) := by decide +kernel
theorem dM_restrict_138 : decode cM_restrict 138 = .ok (.iload_n 2, 1) := by decide +kernel
theorem dM_restrict_139 : decode cM_restrict 139 = .ok (.iaload, 1) := by decide +kernel
theorem dM_restrict_140 : decode cM_restrict 140 = .ok (.if_icmp .ne 7, 3) := by decide +kernel
theorem dM_restrict_143 : decode cM_restrict 143 = .ok (.iconst 1, 1) := by decide +kernel
theorem dM_restrict_144 : decode cM_restrict 144 = .ok (.goto 4, 3) := by decide +kernel
theorem dM_restrict_147 : decode cM_restrict 147 = .ok (.iconst 0, 1) := by decide +kernel
theorem dM_restrict_148 : decode cM_restrict 148 = .ok (.invokevirtual 56, 3) := by decide +kernel
theorem dM_restrict_151 : decode cM_restrict 151 = .ok (.aload_n 0, 1) := by decide +kernel
theorem dM_restrict_152 : decode cM_restrict 152 = .ok (.getfield 26, 3) := by decide +kernel
theorem dM_restrict_155 : decode cM_restrict 155 = .ok (.iload_n 1, 1) := by decide +kernel
theorem dM_restrict_156 : decode cM_restrict 156 = .ok (.baload, 1) := by decide +kernel
theorem dM_restrict_157 : decode cM_restrict 157 = .ok (.ireturn, 1) := by decide +kernel
theorem dM_may_0 : decode cM_may 0 = .ok (.iconst 0, 1) := by decide +kernel
theorem dM_may_1 : decode cM_may 1 = .ok (.istore_n 3, 1) := by decide +kernel
theorem dM_may_2 : decode cM_may 2 = .ok (.iload_n 3, 1) := by decide +kernel
theorem dM_may_3 : decode cM_may 3 = .ok (.bipush 32, 2) := by decide +kernel
theorem dM_may_5 : decode cM_may 5 = .ok (.if_icmp .ge 33, 3) := by decide +kernel
theorem dM_may_8 : decode cM_may 8 = .ok (.iload_n 2, 1) := by decide +kernel
theorem dM_may_9 : decode cM_may 9 = .ok (.iload_n 3, 1) := by decide +kernel
theorem dM_may_10 : decode cM_may 10 = .ok (.ishr, 1) := by decide +kernel
theorem dM_may_11 : decode cM_may 11 = .ok (.iconst 1, 1) := by decide +kernel
theorem dM_may_12 : decode cM_may 12 = .ok (.iand, 1) := by decide +kernel
theorem dM_may_13 : decode cM_may 13 = .ok (.iconst 1, 1) := by decide +kernel
theorem dM_may_14 : decode cM_may 14 = .ok (.if_icmp .ne 18, 3) := by decide +kernel
theorem dM_may_17 : decode cM_may 17 = .ok (.aload_n 0, 1) := by decide +kernel
theorem dM_may_18 : decode cM_may 18 = .ok (.getfield 19, 3) := by decide +kernel
theorem dM_may_21 : decode cM_may 21 = .ok (.iload_n 1, 1) := by decide +kernel
theorem dM_may_22 : decode cM_may 22 = .ok (.iaload, 1) := by decide +kernel
theorem dM_may_23 : decode cM_may 23 = .ok (.iload_n 3, 1) := by decide +kernel
theorem dM_may_24 : decode cM_may 24 = .ok (.ishr, 1) := by decide +kernel
theorem dM_may_25 : decode cM_may 25 = .ok (.iconst 1, 1) := by decide +kernel
theorem dM_may_26 : decode cM_may 26 = .ok (.iand, 1) := by decide +kernel
theorem dM_may_27 : decode cM_may 27 = .ok (.ifCond .ne 5, 3) := by decide +kernel
theorem dM_may_30 : decode cM_may 30 = .ok (.iconst 0, 1) := by decide +kernel
theorem dM_may_31 : decode cM_may 31 = .ok (.ireturn, 1) := by decide +kernel
theorem dM_may_32 : decode cM_may 32 = .ok (.iinc 3 1, 3) := by decide +kernel
theorem dM_may_35 : decode cM_may 35 = .ok (.goto (-33), 3) := by decide +kernel
theorem dM_may_38 : decode cM_may 38 = .ok (.iconst 1, 1) := by decide +kernel
theorem dM_may_39 : decode cM_may 39 = .ok (.ireturn, 1) := by decide +kernel
theorem dM_holds_0 : decode cM_holds 0 = .ok (.lload 4, 2) := by decide +kernel
theorem dM_holds_2 : decode cM_holds 2 = .ok (.lconst 0, 1) := by decide +kernel
theorem dM_holds_3 : decode cM_holds 3 = .ok (.lcmp, 1) := by decide +kernel
theorem dM_holds_4 : decode cM_holds 4 = .ok (.ifCond .ne 31, 3) := by decide +kernel
theorem dM_holds_7 : decode cM_holds 7 = .ok (.lload_n 2, 1) := by decide +kernel
theorem dM_holds_8 : decode cM_holds 8 = .ok (.aload_n 0, 1) := by decide +kernel
theorem dM_holds_9 : decode cM_holds 9 = .ok (.getfield 13, 3) := by decide +kernel
theorem dM_holds_12 : decode cM_holds 12 = .ok (.iload_n 1, 1) := by decide +kernel
theorem dM_holds_13 : decode cM_holds 13 = .ok (.laload, 1) := by decide +kernel
theorem dM_holds_14 : decode cM_holds 14 = .ok (.lcmp, 1) := by decide +kernel
theorem dM_holds_15 : decode cM_holds 15 = .ok (.ifCond .lt 18, 3) := by decide +kernel
theorem dM_holds_18 : decode cM_holds 18 = .ok (.lload_n 2, 1) := by decide +kernel
theorem dM_holds_19 : decode cM_holds 19 = .ok (.aload_n 0, 1) := by decide +kernel
theorem dM_holds_20 : decode cM_holds 20 = .ok (.getfield 16, 3) := by decide +kernel
theorem dM_holds_23 : decode cM_holds 23 = .ok (.iload_n 1, 1) := by decide +kernel
theorem dM_holds_24 : decode cM_holds 24 = .ok (.laload, 1) := by decide +kernel
theorem dM_holds_25 : decode cM_holds 25 = .ok (.lcmp, 1) := by decide +kernel
theorem dM_holds_26 : decode cM_holds 26 = .ok (.ifCond .gt 7, 3) := by decide +kernel
theorem dM_holds_29 : decode cM_holds 29 = .ok (.iconst 1, 1) := by decide +kernel
theorem dM_holds_30 : decode cM_holds 30 = .ok (.goto 4, 3) := by decide +kernel
theorem dM_holds_33 : decode cM_holds 33 = .ok (.iconst 0, 1) := by decide +kernel
theorem dM_holds_34 : decode cM_holds 34 = .ok (.ireturn, 1) := by decide +kernel
theorem dM_holds_35 : decode cM_holds 35 = .ok (.iconst 0, 1) := by decide +kernel
theorem dM_holds_36 : decode cM_holds 36 = .ok (.istore 6, 2) := by decide +kernel
theorem dM_holds_38 : decode cM_holds 38 = .ok (.iload 6, 2) := by decide +kernel
theorem dM_holds_40 : decode cM_holds 40 = .ok (.iconst 2, 1) := by decide +kernel
theorem dM_holds_41 : decode cM_holds 41 = .ok (.if_icmp .ge 52, 3) := by decide +kernel
theorem dM_holds_44 : decode cM_holds 44 = .ok (.iload 6, 2) := by decide +kernel
theorem dM_holds_46 : decode cM_holds 46 = .ok (.ifCond .ne 7, 3) := by decide +kernel
theorem dM_holds_49 : decode cM_holds 49 = .ok (.lload_n 2, 1) := by decide +kernel
theorem dM_holds_50 : decode cM_holds 50 = .ok (.goto 9, 3) := by decide +kernel
theorem dM_holds_53 : decode cM_holds 53 = .ok (.lload_n 2, 1) := by decide +kernel
theorem dM_holds_54 : decode cM_holds 54 = .ok (.lload 4, 2) := by decide +kernel
theorem dM_holds_56 : decode cM_holds 56 = .ok (.ladd, 1) := by decide +kernel
theorem dM_holds_57 : decode cM_holds 57 = .ok (.lconst 1, 1) := by decide +kernel
theorem dM_holds_58 : decode cM_holds 58 = .ok (.lsub, 1) := by decide +kernel
theorem dM_holds_59 : decode cM_holds 59 = .ok (.lstore 7, 2) := by decide +kernel
theorem dM_holds_61 : decode cM_holds 61 = .ok (.lload 7, 2) := by decide +kernel
theorem dM_holds_63 : decode cM_holds 63 = .ok (.aload_n 0, 1) := by decide +kernel
theorem dM_holds_64 : decode cM_holds 64 = .ok (.getfield 13, 3) := by decide +kernel
theorem dM_holds_67 : decode cM_holds 67 = .ok (.iload_n 1, 1) := by decide +kernel
theorem dM_holds_68 : decode cM_holds 68 = .ok (.laload, 1) := by decide +kernel
theorem dM_holds_69 : decode cM_holds 69 = .ok (.lcmp, 1) := by decide +kernel
theorem dM_holds_70 : decode cM_holds 70 = .ok (.ifCond .lt 15, 3) := by decide +kernel
theorem dM_holds_73 : decode cM_holds 73 = .ok (.lload 7, 2) := by decide +kernel
theorem dM_holds_75 : decode cM_holds 75 = .ok (.aload_n 0, 1) := by decide +kernel
theorem dM_holds_76 : decode cM_holds 76 = .ok (.getfield 16, 3) := by decide +kernel
theorem dM_holds_79 : decode cM_holds 79 = .ok (.iload_n 1, 1) := by decide +kernel
theorem dM_holds_80 : decode cM_holds 80 = .ok (.laload, 1) := by decide +kernel
theorem dM_holds_81 : decode cM_holds 81 = .ok (.lcmp, 1) := by decide +kernel
theorem dM_holds_82 : decode cM_holds 82 = .ok (.ifCond .lt 5, 3) := by decide +kernel
theorem dM_holds_85 : decode cM_holds 85 = .ok (.iconst 0, 1) := by decide +kernel
theorem dM_holds_86 : decode cM_holds 86 = .ok (.ireturn, 1) := by decide +kernel
theorem dM_holds_87 : decode cM_holds 87 = .ok (.iinc 6 1, 3) := by decide +kernel
theorem dM_holds_90 : decode cM_holds 90 = .ok (.goto (-52), 3) := by decide +kernel
theorem dM_holds_93 : decode cM_holds 93 = .ok (.iconst 1, 1) := by decide +kernel
theorem dM_holds_94 : decode cM_holds 94 = .ok (.ireturn, 1) := by decide +kernel
theorem dM_seal_0 : decode cM_seal 0 = .ok (.aload_n 0, 1) := by decide +kernel
theorem dM_seal_1 : decode cM_seal 1 = .ok (.iconst 0, 1) := by decide +kernel
theorem dM_seal_2 : decode cM_seal 2 = .ok (.putfield 30, 3) := by decide +kernel
theorem dM_seal_5 : decode cM_seal 5 = .ok (.aload_n 0, 1) := by decide +kernel
theorem dM_seal_6 : decode cM_seal 6 = .ok (.iload_n 1, 1) := by decide +kernel
theorem dM_seal_7 : decode cM_seal 7 = .ok (.invokestatic 52, 3) := by decide +kernel
theorem dM_seal_10 : decode cM_seal 10 = .ok (.ifCond .eq 17, 3) := by decide +kernel
theorem dM_seal_13 : decode cM_seal 13 = .ok (.iload_n 2, 1) := by decide +kernel
theorem dM_seal_14 : decode cM_seal 14 = .ok (.invokestatic 52, 3) := by decide +kernel
theorem dM_seal_17 : decode cM_seal 17 = .ok (.ifCond .eq 10, 3) := by decide +kernel
theorem dM_seal_20 : decode cM_seal 20 = .ok (.iload_n 3, 1) := by decide +kernel
theorem dM_seal_21 : decode cM_seal 21 = .ok (.invokestatic 52, 3) := by decide +kernel
theorem dM_seal_24 : decode cM_seal 24 = .ok (.ifCond .ne 7, 3) := by decide +kernel
theorem dM_seal_27 : decode cM_seal 27 = .ok (.iconst 1, 1) := by decide +kernel
theorem dM_seal_28 : decode cM_seal 28 = .ok (.goto 4, 3) := by decide +kernel
theorem dM_seal_31 : decode cM_seal 31 = .ok (.iconst 0, 1) := by decide +kernel
theorem dM_seal_32 : decode cM_seal 32 = .ok (.iconst 1, 1) := by decide +kernel
theorem dM_seal_33 : decode cM_seal 33 = .ok (.invokevirtual 48, 3) := by decide +kernel
theorem dM_seal_36 : decode cM_seal 36 = .ok (.ifCond .eq 5, 3) := by decide +kernel
theorem dM_seal_39 : decode cM_seal 39 = .ok (.iconst 0, 1) := by decide +kernel
theorem dM_seal_40 : decode cM_seal 40 = .ok (.ireturn, 1) := by decide +kernel
theorem dM_seal_41 : decode cM_seal 41 = .ok (.aload_n 0, 1) := by decide +kernel
theorem dM_seal_42 : decode cM_seal 42 = .ok (.getfield 26, 3) := by decide +kernel
theorem dM_seal_45 : decode cM_seal 45 = .ok (.iload_n 2, 1) := by decide +kernel
theorem dM_seal_46 : decode cM_seal 46 = .ok (.baload, 1) := by decide +kernel
theorem dM_seal_47 : decode cM_seal 47 = .ok (.ifCond .eq 12, 3) := by decide +kernel
theorem dM_seal_50 : decode cM_seal 50 = .ok (.aload_n 0, 1) := by decide +kernel
theorem dM_seal_51 : decode cM_seal 51 = .ok (.getfield 26, 3) := by decide +kernel
theorem dM_seal_54 : decode cM_seal 54 = .ok (.iload_n 3, 1) := by decide +kernel
theorem dM_seal_55 : decode cM_seal 55 = .ok (.baload, 1) := by decide +kernel
theorem dM_seal_56 : decode cM_seal 56 = .ok (.ifCond .ne 5, 3) := by decide +kernel
theorem dM_seal_59 : decode cM_seal 59 = .ok (.iconst 1, 1) := by decide +kernel
theorem dM_seal_60 : decode cM_seal 60 = .ok (.ireturn, 1) := by decide +kernel
theorem dM_seal_61 : decode cM_seal 61 = .ok (.aload_n 0, 1) := by decide +kernel
theorem dM_seal_62 : decode cM_seal 62 = .ok (.iload_n 2, 1) := by decide +kernel
theorem dM_seal_63 : decode cM_seal 63 = .ok (.invokevirtual 60, 3) := by decide +kernel
theorem dM_seal_66 : decode cM_seal 66 = .ok (.ifCond .ne 11, 3) := by decide +kernel
theorem dM_seal_69 : decode cM_seal 69 = .ok (.aload_n 0, 1) := by decide +kernel
theorem dM_seal_70 : decode cM_seal 70 = .ok (.iload_n 3, 1) := by decide +kernel
theorem dM_seal_71 : decode cM_seal 71 = .ok (.invokevirtual 60, 3) := by decide +kernel
theorem dM_seal_74 : decode cM_seal 74 = .ok (.ifCond .eq 5, 3) := by decide +kernel
theorem dM_seal_77 : decode cM_seal 77 = .ok (.iconst 2, 1) := by decide +kernel
theorem dM_seal_78 : decode cM_seal 78 = .ok (.ireturn, 1) := by decide +kernel
theorem dM_seal_79 : decode cM_seal 79 = .ok (.aload_n 0, 1) := by decide +kernel
theorem dM_seal_80 : decode cM_seal 80 = .ok (.iload_n 3, 1) := by decide +kernel
theorem dM_seal_81 : decode cM_seal 81 = .ok (.bipush 32, 2) := by decide +kernel
theorem dM_seal_83 : decode cM_seal 83 = .ok (.invokevirtual 63, 3) := by decide +kernel
theorem dM_seal_86 : decode cM_seal 86 = .ok (.ifCond .ne 5, 3) := by decide +kernel
theorem dM_seal_89 : decode cM_seal 89 = .ok (.iconst 3, 1) := by decide +kernel
theorem dM_seal_90 : decode cM_seal 90 = .ok (.ireturn, 1) := by decide +kernel
theorem dM_seal_91 : decode cM_seal 91 = .ok (.aload_n 0, 1) := by decide +kernel
theorem dM_seal_92 : decode cM_seal 92 = .ok (.iload_n 3, 1) := by decide +kernel
theorem dM_seal_93 : decode cM_seal 93 = .ok (.aload_n 0, 1) := by decide +kernel
theorem dM_seal_94 : decode cM_seal 94 = .ok (.getfield 9, 3) := by decide +kernel
theorem dM_seal_97 : decode cM_seal 97 = .ok (.iload_n 3, 1) := by decide +kernel
theorem dM_seal_98 : decode cM_seal 98 = .ok (.laload, 1) := by decide +kernel
theorem dM_seal_99 : decode cM_seal 99 = .ok (.lconst 1, 1) := by decide +kernel
theorem dM_seal_100 : decode cM_seal 100 = .ok (.invokevirtual 67, 3) := by decide +kernel
theorem dM_seal_103 : decode cM_seal 103 = .ok (.ifCond .eq 19, 3) := by decide +kernel
theorem dM_seal_106 : decode cM_seal 106 = .ok (.aload_n 0, 1) := by decide +kernel
theorem dM_seal_107 : decode cM_seal 107 = .ok (.getfield 9, 3) := by decide +kernel
theorem dM_seal_110 : decode cM_seal 110 = .ok (.iload_n 3, 1) := by decide +kernel
theorem dM_seal_111 : decode cM_seal 111 = .ok (.laload, 1) := by decide +kernel
theorem dM_seal_112 : decode cM_seal 112 = .ok (.lconst 1, 1) := by decide +kernel
theorem dM_seal_113 : decode cM_seal 113 = .ok (.ldc2_w 71, 3) := by decide +kernel
theorem dM_seal_116 : decode cM_seal 116 = .ok (.invokestatic 36, 3) := by decide +kernel
theorem dM_seal_119 : decode cM_seal 119 = .ok (.ifCond .ne 5, 3) := by decide +kernel
theorem dM_seal_122 : decode cM_seal 122 = .ok (.iconst 4, 1) := by decide +kernel
theorem dM_seal_123 : decode cM_seal 123 = .ok (.ireturn, 1) := by decide +kernel
theorem dM_seal_124 : decode cM_seal 124 = .ok (.aload_n 0, 1) := by decide +kernel
theorem dM_seal_125 : decode cM_seal 125 = .ok (.iload_n 1, 1) := by decide +kernel
theorem dM_seal_126 : decode cM_seal 126 = .ok (.aload_n 0, 1) := by decide +kernel
theorem dM_seal_127 : decode cM_seal 127 = .ok (.getfield 9, 3) := by decide +kernel
theorem dM_seal_130 : decode cM_seal 130 = .ok (.iload_n 2, 1) := by decide +kernel
theorem dM_seal_131 : decode cM_seal 131 = .ok (.laload, 1) := by decide +kernel
theorem dM_seal_132 : decode cM_seal 132 = .ok (.aload_n 0, 1) := by decide +kernel
theorem dM_seal_133 : decode cM_seal 133 = .ok (.getfield 13, 3) := by decide +kernel
theorem dM_seal_136 : decode cM_seal 136 = .ok (.iload_n 2, 1) := by decide +kernel
theorem dM_seal_137 : decode cM_seal 137 = .ok (.laload, 1) := by decide +kernel
theorem dM_seal_138 : decode cM_seal 138 = .ok (.aload_n 0, 1) := by decide +kernel
theorem dM_seal_139 : decode cM_seal 139 = .ok (.getfield 16, 3) := by decide +kernel
theorem dM_seal_142 : decode cM_seal 142 = .ok (.iload_n 2, 1) := by decide +kernel
theorem dM_seal_143 : decode cM_seal 143 = .ok (.laload, 1) := by decide +kernel
theorem dM_seal_144 : decode cM_seal 144 = .ok (.aload_n 0, 1) := by decide +kernel
theorem dM_seal_145 : decode cM_seal 145 = .ok (.getfield 19, 3) := by decide +kernel
theorem dM_seal_148 : decode cM_seal 148 = .ok (.iload_n 2, 1) := by decide +kernel
theorem dM_seal_149 : decode cM_seal 149 = .ok (.iaload, 1) := by decide +kernel
theorem dM_seal_150 : decode cM_seal 150 = .ok (.aload_n 0, 1) := by decide +kernel
theorem dM_seal_151 : decode cM_seal 151 = .ok (.getfield 9, 3) := by decide +kernel
theorem dM_seal_154 : decode cM_seal 154 = .ok (.iload_n 3, 1) := by decide +kernel
theorem dM_seal_155 : decode cM_seal 155 = .ok (.laload, 1) := by decide +kernel
theorem dM_seal_156 : decode cM_seal 156 = .ok (.l2i, 1) := by decide +kernel
theorem dM_seal_157 : decode cM_seal 157 = .ok (.iconst 1, 1) := by decide +kernel
theorem dM_seal_158 : decode cM_seal 158 = .ok (.invokevirtual 56, 3) := by decide +kernel
theorem dM_seal_161 : decode cM_seal 161 = .ok (.iconst 0, 1) := by decide +kernel
theorem dM_seal_162 : decode cM_seal 162 = .ok (.ireturn, 1) := by decide +kernel
theorem dM_unseal_0 : decode cM_unseal 0 = .ok (.aload_n 0, 1) := by decide +kernel
theorem dM_unseal_1 : decode cM_unseal 1 = .ok (.iconst 0, 1) := by decide +kernel
theorem dM_unseal_2 : decode cM_unseal 2 = .ok (.putfield 30, 3) := by decide +kernel
theorem dM_unseal_5 : decode cM_unseal 5 = .ok (.aload_n 0, 1) := by decide +kernel
theorem dM_unseal_6 : decode cM_unseal 6 = .ok (.iload_n 1, 1) := by decide +kernel
theorem dM_unseal_7 : decode cM_unseal 7 = .ok (.invokestatic 52, 3) := by decide +kernel
theorem dM_unseal_10 : decode cM_unseal 10 = .ok (.ifCond .eq 17, 3) := by decide +kernel
theorem dM_unseal_13 : decode cM_unseal 13 = .ok (.iload_n 2, 1) := by decide +kernel
theorem dM_unseal_14 : decode cM_unseal 14 = .ok (.invokestatic 52, 3) := by decide +kernel
theorem dM_unseal_17 : decode cM_unseal 17 = .ok (.ifCond .eq 10, 3) := by decide +kernel
theorem dM_unseal_20 : decode cM_unseal 20 = .ok (.iload_n 3, 1) := by decide +kernel
theorem dM_unseal_21 : decode cM_unseal 21 = .ok (.invokestatic 52, 3) := by decide +kernel
theorem dM_unseal_24 : decode cM_unseal 24 = .ok (.ifCond .ne 7, 3) := by decide +kernel
theorem dM_unseal_27 : decode cM_unseal 27 = .ok (.iconst 1, 1) := by decide +kernel
theorem dM_unseal_28 : decode cM_unseal 28 = .ok (.goto 4, 3) := by decide +kernel
theorem dM_unseal_31 : decode cM_unseal 31 = .ok (.iconst 0, 1) := by decide +kernel
theorem dM_unseal_32 : decode cM_unseal 32 = .ok (.iconst 1, 1) := by decide +kernel
theorem dM_unseal_33 : decode cM_unseal 33 = .ok (.invokevirtual 48, 3) := by decide +kernel
theorem dM_unseal_36 : decode cM_unseal 36 = .ok (.ifCond .eq 5, 3) := by decide +kernel
theorem dM_unseal_39 : decode cM_unseal 39 = .ok (.iconst 0, 1) := by decide +kernel
theorem dM_unseal_40 : decode cM_unseal 40 = .ok (.ireturn, 1) := by decide +kernel
theorem dM_unseal_41 : decode cM_unseal 41 = .ok (.aload_n 0, 1) := by decide +kernel
theorem dM_unseal_42 : decode cM_unseal 42 = .ok (.getfield 26, 3) := by decide +kernel
theorem dM_unseal_45 : decode cM_unseal 45 = .ok (.iload_n 2, 1) := by decide +kernel
theorem dM_unseal_46 : decode cM_unseal 46 = .ok (.baload, 1) := by decide +kernel
theorem dM_unseal_47 : decode cM_unseal 47 = .ok (.ifCond .eq 12, 3) := by decide +kernel
theorem dM_unseal_50 : decode cM_unseal 50 = .ok (.aload_n 0, 1) := by decide +kernel
theorem dM_unseal_51 : decode cM_unseal 51 = .ok (.getfield 26, 3) := by decide +kernel
theorem dM_unseal_54 : decode cM_unseal 54 = .ok (.iload_n 3, 1) := by decide +kernel
theorem dM_unseal_55 : decode cM_unseal 55 = .ok (.baload, 1) := by decide +kernel
theorem dM_unseal_56 : decode cM_unseal 56 = .ok (.ifCond .ne 5, 3) := by decide +kernel
theorem dM_unseal_59 : decode cM_unseal 59 = .ok (.iconst 1, 1) := by decide +kernel
theorem dM_unseal_60 : decode cM_unseal 60 = .ok (.ireturn, 1) := by decide +kernel
theorem dM_unseal_61 : decode cM_unseal 61 = .ok (.aload_n 0, 1) := by decide +kernel
theorem dM_unseal_62 : decode cM_unseal 62 = .ok (.iload_n 2, 1) := by decide +kernel
theorem dM_unseal_63 : decode cM_unseal 63 = .ok (.invokevirtual 60, 3) := by decide +kernel
theorem dM_unseal_66 : decode cM_unseal 66 = .ok (.ifCond .eq 11, 3) := by decide +kernel
theorem dM_unseal_69 : decode cM_unseal 69 = .ok (.aload_n 0, 1) := by decide +kernel
theorem dM_unseal_70 : decode cM_unseal 70 = .ok (.iload_n 3, 1) := by decide +kernel
theorem dM_unseal_71 : decode cM_unseal 71 = .ok (.invokevirtual 60, 3) := by decide +kernel
theorem dM_unseal_74 : decode cM_unseal 74 = .ok (.ifCond .eq 5, 3) := by decide +kernel
theorem dM_unseal_77 : decode cM_unseal 77 = .ok (.iconst 2, 1) := by decide +kernel
theorem dM_unseal_78 : decode cM_unseal 78 = .ok (.ireturn, 1) := by decide +kernel
theorem dM_unseal_79 : decode cM_unseal 79 = .ok (.aload_n 0, 1) := by decide +kernel
theorem dM_unseal_80 : decode cM_unseal 80 = .ok (.iload_n 3, 1) := by decide +kernel
theorem dM_unseal_81 : decode cM_unseal 81 = .ok (.bipush 64, 2) := by decide +kernel
theorem dM_unseal_83 : decode cM_unseal 83 = .ok (.invokevirtual 63, 3) := by decide +kernel
theorem dM_unseal_86 : decode cM_unseal 86 = .ok (.ifCond .ne 5, 3) := by decide +kernel
theorem dM_unseal_89 : decode cM_unseal 89 = .ok (.iconst 3, 1) := by decide +kernel
theorem dM_unseal_90 : decode cM_unseal 90 = .ok (.ireturn, 1) := by decide +kernel
theorem dM_unseal_91 : decode cM_unseal 91 = .ok (.aload_n 0, 1) := by decide +kernel
theorem dM_unseal_92 : decode cM_unseal 92 = .ok (.iload_n 3, 1) := by decide +kernel
theorem dM_unseal_93 : decode cM_unseal 93 = .ok (.aload_n 0, 1) := by decide +kernel
theorem dM_unseal_94 : decode cM_unseal 94 = .ok (.getfield 9, 3) := by decide +kernel
theorem dM_unseal_97 : decode cM_unseal 97 = .ok (.iload_n 3, 1) := by decide +kernel
theorem dM_unseal_98 : decode cM_unseal 98 = .ok (.laload, 1) := by decide +kernel
theorem dM_unseal_99 : decode cM_unseal 99 = .ok (.lconst 1, 1) := by decide +kernel
theorem dM_unseal_100 : decode cM_unseal 100 = .ok (.invokevirtual 67, 3) := by decide +kernel
theorem dM_unseal_103 : decode cM_unseal 103 = .ok (.ifCond .eq 20, 3) := by decide +kernel
theorem dM_unseal_106 : decode cM_unseal 106 = .ok (.aload_n 0, 1) := by decide +kernel
theorem dM_unseal_107 : decode cM_unseal 107 = .ok (.getfield 9, 3) := by decide +kernel
theorem dM_unseal_110 : decode cM_unseal 110 = .ok (.iload_n 3, 1) := by decide +kernel
theorem dM_unseal_111 : decode cM_unseal 111 = .ok (.laload, 1) := by decide +kernel
theorem dM_unseal_112 : decode cM_unseal 112 = .ok (.aload_n 0, 1) := by decide +kernel
theorem dM_unseal_113 : decode cM_unseal 113 = .ok (.getfield 23, 3) := by decide +kernel
theorem dM_unseal_116 : decode cM_unseal 116 = .ok (.iload_n 2, 1) := by decide +kernel
theorem dM_unseal_117 : decode cM_unseal 117 = .ok (.iaload, 1) := by decide +kernel
theorem dM_unseal_118 : decode cM_unseal 118 = .ok (.i2l, 1) := by decide +kernel
theorem dM_unseal_119 : decode cM_unseal 119 = .ok (.lcmp, 1) := by decide +kernel
theorem dM_unseal_120 : decode cM_unseal 120 = .ok (.ifCond .eq 5, 3) := by decide +kernel
theorem dM_unseal_123 : decode cM_unseal 123 = .ok (.iconst 4, 1) := by decide +kernel
theorem dM_unseal_124 : decode cM_unseal 124 = .ok (.ireturn, 1) := by decide +kernel
theorem dM_unseal_125 : decode cM_unseal 125 = .ok (.aload_n 0, 1) := by decide +kernel
theorem dM_unseal_126 : decode cM_unseal 126 = .ok (.iload_n 1, 1) := by decide +kernel
theorem dM_unseal_127 : decode cM_unseal 127 = .ok (.aload_n 0, 1) := by decide +kernel
theorem dM_unseal_128 : decode cM_unseal 128 = .ok (.getfield 9, 3) := by decide +kernel
theorem dM_unseal_131 : decode cM_unseal 131 = .ok (.iload_n 2, 1) := by decide +kernel
theorem dM_unseal_132 : decode cM_unseal 132 = .ok (.laload, 1) := by decide +kernel
theorem dM_unseal_133 : decode cM_unseal 133 = .ok (.aload_n 0, 1) := by decide +kernel
theorem dM_unseal_134 : decode cM_unseal 134 = .ok (.getfield 13, 3) := by decide +kernel
theorem dM_unseal_137 : decode cM_unseal 137 = .ok (.iload_n 2, 1) := by decide +kernel
theorem dM_unseal_138 : decode cM_unseal 138 = .ok (.laload, 1) := by decide +kernel
theorem dM_unseal_139 : decode cM_unseal 139 = .ok (.aload_n 0, 1) := by decide +kernel
theorem dM_unseal_140 : decode cM_unseal 140 = .ok (.getfield 16, 3) := by decide +kernel
theorem dM_unseal_143 : decode cM_unseal 143 = .ok (.iload_n 2, 1) := by decide +kernel
theorem dM_unseal_144 : decode cM_unseal 144 = .ok (.laload, 1) := by decide +kernel
theorem dM_unseal_145 : decode cM_unseal 145 = .ok (.aload_n 0, 1) := by decide +kernel
theorem dM_unseal_146 : decode cM_unseal 146 = .ok (.getfield 19, 3) := by decide +kernel
theorem dM_unseal_149 : decode cM_unseal 149 = .ok (.iload_n 2, 1) := by decide +kernel
theorem dM_unseal_150 : decode cM_unseal 150 = .ok (.iaload, 1) := by decide +kernel
theorem dM_unseal_151 : decode cM_unseal 151 = .ok (.iconst 0, 1) := by decide +kernel
theorem dM_unseal_152 : decode cM_unseal 152 = .ok (.iconst 1, 1) := by decide +kernel
theorem dM_unseal_153 : decode cM_unseal 153 = .ok (.invokevirtual 56, 3) := by decide +kernel
theorem dM_unseal_156 : decode cM_unseal 156 = .ok (.iconst 0, 1) := by decide +kernel
theorem dM_unseal_157 : decode cM_unseal 157 = .ok (.ireturn, 1) := by decide +kernel
theorem dM_allows_0 : decode cM_allows 0 = .ok (.aload_n 0, 1) := by decide +kernel
theorem dM_allows_1 : decode cM_allows 1 = .ok (.iconst 0, 1) := by decide +kernel
theorem dM_allows_2 : decode cM_allows 2 = .ok (.putfield 30, 3) := by decide +kernel
theorem dM_allows_5 : decode cM_allows 5 = .ok (.aload_n 0, 1) := by decide +kernel
theorem dM_allows_6 : decode cM_allows 6 = .ok (.iload_n 3, 1) := by decide +kernel
theorem dM_allows_7 : decode cM_allows 7 = .ok (.i2l, 1) := by decide +kernel
theorem dM_allows_8 : decode cM_allows 8 = .ok (.lconst 0, 1) := by decide +kernel
theorem dM_allows_9 : decode cM_allows 9 = .ok (.ldc2_w 73, 3) := by decide +kernel
theorem dM_allows_12 : decode cM_allows 12 = .ok (.invokestatic 36, 3) := by decide +kernel
theorem dM_allows_15 : decode cM_allows 15 = .ok (.ifCond .ne 7, 3) := by decide +kernel
theorem dM_allows_18 : decode cM_allows 18 = .ok (.iconst 1, 1) := by decide +kernel
theorem dM_allows_19 : decode cM_allows 19 = .ok (.goto 4, 3) := by decide +kernel
theorem dM_allows_22 : decode cM_allows 22 = .ok (.iconst 0, 1) := by decide +kernel
theorem dM_allows_23 : decode cM_allows 23 = .ok (.iconst 1, 1) := by decide +kernel
theorem dM_allows_24 : decode cM_allows 24 = .ok (.invokevirtual 48, 3) := by decide +kernel
theorem dM_allows_27 : decode cM_allows 27 = .ok (.ifCond .ne 23, 3) := by decide +kernel
theorem dM_allows_30 : decode cM_allows 30 = .ok (.aload_n 0, 1) := by decide +kernel
theorem dM_allows_31 : decode cM_allows 31 = .ok (.iload_n 1, 1) := by decide +kernel
theorem dM_allows_32 : decode cM_allows 32 = .ok (.invokestatic 52, 3) := by decide +kernel
theorem dM_allows_35 : decode cM_allows 35 = .ok (.ifCond .ne 7, 3) := by decide +kernel
theorem dM_allows_38 : decode cM_allows 38 = .ok (.iconst 1, 1) := by decide +kernel
theorem dM_allows_39 : decode cM_allows 39 = .ok (.goto 4, 3) := by decide +kernel
theorem dM_allows_42 : decode cM_allows 42 = .ok (.iconst 0, 1) := by decide +kernel
theorem dM_allows_43 : decode cM_allows 43 = .ok (.iconst 2, 1) := by decide +kernel
theorem dM_allows_44 : decode cM_allows 44 = .ok (.invokevirtual 48, 3) := by decide +kernel
theorem dM_allows_47 : decode cM_allows 47 = .ok (.ifCond .eq 5, 3) := by decide +kernel
theorem dM_allows_50 : decode cM_allows 50 = .ok (.iconst 0, 1) := by decide +kernel
theorem dM_allows_51 : decode cM_allows 51 = .ok (.ireturn, 1) := by decide +kernel
theorem dM_allows_52 : decode cM_allows 52 = .ok (.aload_n 0, 1) := by decide +kernel
theorem dM_allows_53 : decode cM_allows 53 = .ok (.getfield 26, 3) := by decide +kernel
theorem dM_allows_56 : decode cM_allows 56 = .ok (.iload_n 1, 1) := by decide +kernel
theorem dM_allows_57 : decode cM_allows 57 = .ok (.baload, 1) := by decide +kernel
theorem dM_allows_58 : decode cM_allows 58 = .ok (.ifCond .ne 7, 3) := by decide +kernel
theorem dM_allows_61 : decode cM_allows 61 = .ok (.iconst 1, 1) := by decide +kernel
theorem dM_allows_62 : decode cM_allows 62 = .ok (.goto 59, 3) := by decide +kernel
theorem dM_allows_65 : decode cM_allows 65 = .ok (.aload_n 0, 1) := by decide +kernel
theorem dM_allows_66 : decode cM_allows 66 = .ok (.iload_n 1, 1) := by decide +kernel
theorem dM_allows_67 : decode cM_allows 67 = .ok (.invokevirtual 60, 3) := by decide +kernel
theorem dM_allows_70 : decode cM_allows 70 = .ok (.ifCond .eq 7, 3) := by decide +kernel
theorem dM_allows_73 : decode cM_allows 73 = .ok (.iconst 2, 1) := by decide +kernel
theorem dM_allows_74 : decode cM_allows 74 = .ok (.goto 47, 3) := by decide +kernel
theorem dM_allows_77 : decode cM_allows 77 = .ok (.aload_n 0, 1) := by decide +kernel
theorem dM_allows_78 : decode cM_allows 78 = .ok (.iload_n 1, 1) := by decide +kernel
theorem dM_allows_79 : decode cM_allows 79 = .ok (.iload 4, 2) := by decide +kernel
theorem dM_allows_81 : decode cM_allows 81 = .ok (.invokevirtual 63, 3) := by decide +kernel
theorem dM_allows_84 : decode cM_allows 84 = .ok (.ifCond .ne 7, 3) := by decide +kernel
theorem dM_allows_87 : decode cM_allows 87 = .ok (.iconst 3, 1) := by decide +kernel
theorem dM_allows_88 : decode cM_allows 88 = .ok (.goto 33, 3) := by decide +kernel
theorem dM_allows_91 : decode cM_allows 91 = .ok (.aload_n 0, 1) := by decide +kernel
theorem dM_allows_92 : decode cM_allows 92 = .ok (.iload_n 1, 1) := by decide +kernel
theorem dM_allows_93 : decode cM_allows 93 = .ok (.aload_n 0, 1) := by decide +kernel
theorem dM_allows_94 : decode cM_allows 94 = .ok (.getfield 9, 3) := by decide +kernel
theorem dM_allows_97 : decode cM_allows 97 = .ok (.iload_n 1, 1) := by decide +kernel
theorem dM_allows_98 : decode cM_allows 98 = .ok (.laload, 1) := by decide +kernel
theorem dM_allows_99 : decode cM_allows 99 = .ok (.iload_n 2, 1) := by decide +kernel
theorem dM_allows_100 : decode cM_allows 100 = .ok (.invokestatic 42, 3) := by decide +kernel
theorem dM_allows_103 : decode cM_allows 103 = .ok (.ladd, 1) := by decide +kernel
theorem dM_allows_104 : decode cM_allows 104 = .ok (.ldc2_w 40, 3) := by decide +kernel
theorem dM_allows_107 : decode cM_allows 107 = .ok (.lrem, 1) := by decide +kernel
theorem dM_allows_108 : decode cM_allows 108 = .ok (.iload_n 3, 1) := by decide +kernel
theorem dM_allows_109 : decode cM_allows 109 = .ok (.i2l, 1) := by decide +kernel
theorem dM_allows_110 : decode cM_allows 110 = .ok (.invokevirtual 67, 3) := by decide +kernel
theorem dM_allows_113 : decode cM_allows 113 = .ok (.ifCond .eq 7, 3) := by decide +kernel
theorem dM_allows_116 : decode cM_allows 116 = .ok (.iconst 0, 1) := by decide +kernel
theorem dM_allows_117 : decode cM_allows 117 = .ok (.goto 4, 3) := by decide +kernel
theorem dM_allows_120 : decode cM_allows 120 = .ok (.iconst 4, 1) := by decide +kernel
theorem dM_allows_121 : decode cM_allows 121 = .ok (.ireturn, 1) := by decide +kernel
theorem dM_within_0 : decode cM_within 0 = .ok (.aload_n 0, 1) := by decide +kernel
theorem dM_within_1 : decode cM_within 1 = .ok (.iconst 0, 1) := by decide +kernel
theorem dM_within_2 : decode cM_within 2 = .ok (.putfield 30, 3) := by decide +kernel
theorem dM_within_5 : decode cM_within 5 = .ok (.aload_n 0, 1) := by decide +kernel
theorem dM_within_6 : decode cM_within 6 = .ok (.iload_n 1, 1) := by decide +kernel
theorem dM_within_7 : decode cM_within 7 = .ok (.invokestatic 52, 3) := by decide +kernel
theorem dM_within_10 : decode cM_within 10 = .ok (.ifCond .eq 10, 3) := by decide +kernel
theorem dM_within_13 : decode cM_within 13 = .ok (.iload_n 2, 1) := by decide +kernel
theorem dM_within_14 : decode cM_within 14 = .ok (.invokestatic 52, 3) := by decide +kernel
theorem dM_within_17 : decode cM_within 17 = .ok (.ifCond .ne 7, 3) := by decide +kernel
theorem dM_within_20 : decode cM_within 20 = .ok (.iconst 1, 1) := by decide +kernel
theorem dM_within_21 : decode cM_within 21 = .ok (.goto 4, 3) := by decide +kernel
theorem dM_within_24 : decode cM_within 24 = .ok (.iconst 0, 1) := by decide +kernel
theorem dM_within_25 : decode cM_within 25 = .ok (.iconst 1, 1) := by decide +kernel
theorem dM_within_26 : decode cM_within 26 = .ok (.invokevirtual 48, 3) := by decide +kernel
theorem dM_within_29 : decode cM_within 29 = .ok (.ifCond .eq 5, 3) := by decide +kernel
theorem dM_within_32 : decode cM_within 32 = .ok (.iconst 0, 1) := by decide +kernel
theorem dM_within_33 : decode cM_within 33 = .ok (.ireturn, 1) := by decide +kernel
theorem dM_within_34 : decode cM_within 34 = .ok (.aload_n 0, 1) := by decide +kernel
theorem dM_within_35 : decode cM_within 35 = .ok (.getfield 26, 3) := by decide +kernel
theorem dM_within_38 : decode cM_within 38 = .ok (.iload_n 1, 1) := by decide +kernel
theorem dM_within_39 : decode cM_within 39 = .ok (.baload, 1) := by decide +kernel
theorem dM_within_40 : decode cM_within 40 = .ok (.ifCond .eq 62, 3) := by decide +kernel
theorem dM_within_43 : decode cM_within 43 = .ok (.aload_n 0, 1) := by decide +kernel
theorem dM_within_44 : decode cM_within 44 = .ok (.getfield 26, 3) := by decide +kernel
theorem dM_within_47 : decode cM_within 47 = .ok (.iload_n 2, 1) := by decide +kernel
theorem dM_within_48 : decode cM_within 48 = .ok (.baload, 1) := by decide +kernel
theorem dM_within_49 : decode cM_within 49 = .ok (.ifCond .eq 53, 3) := by decide +kernel
theorem dM_within_52 : decode cM_within 52 = .ok (.aload_n 0, 1) := by decide +kernel
theorem dM_within_53 : decode cM_within 53 = .ok (.getfield 13, 3) := by decide +kernel
theorem dM_within_56 : decode cM_within 56 = .ok (.iload_n 1, 1) := by decide +kernel
theorem dM_within_57 : decode cM_within 57 = .ok (.laload, 1) := by decide +kernel
theorem dM_within_58 : decode cM_within 58 = .ok (.aload_n 0, 1) := by decide +kernel
theorem dM_within_59 : decode cM_within 59 = .ok (.getfield 13, 3) := by decide +kernel
theorem dM_within_62 : decode cM_within 62 = .ok (.iload_n 2, 1) := by decide +kernel
theorem dM_within_63 : decode cM_within 63 = .ok (.laload, 1) := by decide +kernel
theorem dM_within_64 : decode cM_within 64 = .ok (.lcmp, 1) := by decide +kernel
theorem dM_within_65 : decode cM_within 65 = .ok (.ifCond .lt 37, 3) := by decide +kernel
theorem dM_within_68 : decode cM_within 68 = .ok (.aload_n 0, 1) := by decide +kernel
theorem dM_within_69 : decode cM_within 69 = .ok (.getfield 16, 3) := by decide +kernel
theorem dM_within_72 : decode cM_within 72 = .ok (.iload_n 1, 1) := by decide +kernel
theorem dM_within_73 : decode cM_within 73 = .ok (.laload, 1) := by decide +kernel
theorem dM_within_74 : decode cM_within 74 = .ok (.aload_n 0, 1) := by decide +kernel
theorem dM_within_75 : decode cM_within 75 = .ok (.getfield 16, 3) := by decide +kernel
theorem dM_within_78 : decode cM_within 78 = .ok (.iload_n 2, 1) := by decide +kernel
theorem dM_within_79 : decode cM_within 79 = .ok (.laload, 1) := by decide +kernel
theorem dM_within_80 : decode cM_within 80 = .ok (.lcmp, 1) := by decide +kernel
theorem dM_within_81 : decode cM_within 81 = .ok (.ifCond .gt 21, 3) := by decide +kernel
theorem dM_within_84 : decode cM_within 84 = .ok (.aload_n 0, 1) := by decide +kernel
theorem dM_within_85 : decode cM_within 85 = .ok (.iload_n 2, 1) := by decide +kernel
theorem dM_within_86 : decode cM_within 86 = .ok (.aload_n 0, 1) := by decide +kernel
theorem dM_within_87 : decode cM_within 87 = .ok (.getfield 19, 3) := by decide +kernel
theorem dM_within_90 : decode cM_within 90 = .ok (.iload_n 1, 1) := by decide +kernel
theorem dM_within_91 : decode cM_within 91 = .ok (.iaload, 1) := by decide +kernel
theorem dM_within_92 : decode cM_within 92 = .ok (.invokevirtual 63, 3) := by decide +kernel
theorem dM_within_95 : decode cM_within 95 = .ok (.ifCond .eq 7, 3) := by decide +kernel
theorem dM_within_98 : decode cM_within 98 = .ok (.iconst 1, 1) := by decide +kernel
theorem dM_within_99 : decode cM_within 99 = .ok (.goto 4, 3) := by decide +kernel
theorem dM_within_102 : decode cM_within 102 = .ok (.iconst 0, 1) := by decide +kernel
theorem dM_within_103 : decode cM_within 103 = .ok (.ireturn, 1) := by decide +kernel
theorem dM_part_0 : decode cM_part 0 = .ok (.aload_n 0, 1) := by decide +kernel
theorem dM_part_1 : decode cM_part 1 = .ok (.iconst 0, 1) := by decide +kernel
theorem dM_part_2 : decode cM_part 2 = .ok (.putfield 30, 3) := by decide +kernel
theorem dM_part_5 : decode cM_part 5 = .ok (.aload_n 0, 1) := by decide +kernel
theorem dM_part_6 : decode cM_part 6 = .ok (.iload_n 2, 1) := by decide +kernel
theorem dM_part_7 : decode cM_part 7 = .ok (.i2l, 1) := by decide +kernel
theorem dM_part_8 : decode cM_part 8 = .ok (.lconst 0, 1) := by decide +kernel
theorem dM_part_9 : decode cM_part 9 = .ok (.ldc2_w 75, 3) := by decide +kernel
theorem dM_part_12 : decode cM_part 12 = .ok (.invokestatic 36, 3) := by decide +kernel
theorem dM_part_15 : decode cM_part 15 = .ok (.ifCond .ne 7, 3) := by decide +kernel
theorem dM_part_18 : decode cM_part 18 = .ok (.iconst 1, 1) := by decide +kernel
theorem dM_part_19 : decode cM_part 19 = .ok (.goto 4, 3) := by decide +kernel
theorem dM_part_22 : decode cM_part 22 = .ok (.iconst 0, 1) := by decide +kernel
theorem dM_part_23 : decode cM_part 23 = .ok (.iconst 1, 1) := by decide +kernel
theorem dM_part_24 : decode cM_part 24 = .ok (.invokevirtual 48, 3) := by decide +kernel
theorem dM_part_27 : decode cM_part 27 = .ok (.ifCond .ne 23, 3) := by decide +kernel
theorem dM_part_30 : decode cM_part 30 = .ok (.aload_n 0, 1) := by decide +kernel
theorem dM_part_31 : decode cM_part 31 = .ok (.iload_n 1, 1) := by decide +kernel
theorem dM_part_32 : decode cM_part 32 = .ok (.invokestatic 52, 3) := by decide +kernel
theorem dM_part_35 : decode cM_part 35 = .ok (.ifCond .ne 7, 3) := by decide +kernel
theorem dM_part_38 : decode cM_part 38 = .ok (.iconst 1, 1) := by decide +kernel
theorem dM_part_39 : decode cM_part 39 = .ok (.goto 4, 3) := by decide +kernel
theorem dM_part_42 : decode cM_part 42 = .ok (.iconst 0, 1) := by decide +kernel
theorem dM_part_43 : decode cM_part 43 = .ok (.iconst 2, 1) := by decide +kernel
theorem dM_part_44 : decode cM_part 44 = .ok (.invokevirtual 48, 3) := by decide +kernel
theorem dM_part_47 : decode cM_part 47 = .ok (.ifCond .eq 5, 3) := by decide +kernel
theorem dM_part_50 : decode cM_part 50 = .ok (.iconst 0, 1) := by decide +kernel
theorem dM_part_51 : decode cM_part 51 = .ok (.ireturn, 1) := by decide +kernel
theorem dM_part_52 : decode cM_part 52 = .ok (.iload_n 2, 1) := by decide +kernel
theorem dM_part_53 : decode cM_part 53 = .ok (.ifCond .ne 13, 3) := by decide +kernel
theorem dM_part_56 : decode cM_part 56 = .ok (.aload_n 0, 1) := by decide +kernel
theorem dM_part_57 : decode cM_part 57 = .ok (.getfield 9, 3) := by decide +kernel
theorem dM_part_60 : decode cM_part 60 = .ok (.iload_n 1, 1) := by decide +kernel
theorem dM_part_61 : decode cM_part 61 = .ok (.laload, 1) := by decide +kernel
theorem dM_part_62 : decode cM_part 62 = .ok (.l2i, 1) := by decide +kernel
theorem dM_part_63 : decode cM_part 63 = .ok (.goto 75, 3) := by decide +kernel
theorem dM_part_66 : decode cM_part 66 = .ok (.iload_n 2, 1) := by decide +kernel
theorem dM_part_67 : decode cM_part 67 = .ok (.iconst 1, 1) := by decide +kernel
theorem dM_part_68 : decode cM_part 68 = .ok (.if_icmp .ne 13, 3) := by decide +kernel
theorem dM_part_71 : decode cM_part 71 = .ok (.aload_n 0, 1) := by decide +kernel
theorem dM_part_72 : decode cM_part 72 = .ok (.getfield 13, 3) := by decide +kernel
theorem dM_part_75 : decode cM_part 75 = .ok (.iload_n 1, 1) := by decide +kernel
theorem dM_part_76 : decode cM_part 76 = .ok (.laload, 1) := by decide +kernel
theorem dM_part_77 : decode cM_part 77 = .ok (.l2i, 1) := by decide +kernel
theorem dM_part_78 : decode cM_part 78 = .ok (.goto 60, 3) := by decide +kernel
theorem dM_part_81 : decode cM_part 81 = .ok (.iload_n 2, 1) := by decide +kernel
theorem dM_part_82 : decode cM_part 82 = .ok (.iconst 2, 1) := by decide +kernel
theorem dM_part_83 : decode cM_part 83 = .ok (.if_icmp .ne 13, 3) := by decide +kernel
theorem dM_part_86 : decode cM_part 86 = .ok (.aload_n 0, 1) := by decide +kernel
theorem dM_part_87 : decode cM_part 87 = .ok (.getfield 16, 3) := by decide +kernel
theorem dM_part_90 : decode cM_part 90 = .ok (.iload_n 1, 1) := by decide +kernel
theorem dM_part_91 : decode cM_part 91 = .ok (.laload, 1) := by decide +kernel
theorem dM_part_92 : decode cM_part 92 = .ok (.l2i, 1) := by decide +kernel
theorem dM_part_93 : decode cM_part 93 = .ok (.goto 45, 3) := by decide +kernel
theorem dM_part_96 : decode cM_part 96 = .ok (.iload_n 2, 1) := by decide +kernel
theorem dM_part_97 : decode cM_part 97 = .ok (.iconst 3, 1) := by decide +kernel
theorem dM_part_98 : decode cM_part 98 = .ok (.if_icmp .ne 12, 3) := by decide +kernel
theorem dM_part_101 : decode cM_part 101 = .ok (.aload_n 0, 1) := by decide +kernel
theorem dM_part_102 : decode cM_part 102 = .ok (.getfield 19, 3) := by decide +kernel
theorem dM_part_105 : decode cM_part 105 = .ok (.iload_n 1, 1) := by decide +kernel
theorem dM_part_106 : decode cM_part 106 = .ok (.iaload, 1) := by decide +kernel
theorem dM_part_107 : decode cM_part 107 = .ok (.goto 31, 3) := by decide +kernel
theorem dM_part_110 : decode cM_part 110 = .ok (.iload_n 2, 1) := by decide +kernel
theorem dM_part_111 : decode cM_part 111 = .ok (.iconst 4, 1) := by decide +kernel
theorem dM_part_112 : decode cM_part 112 = .ok (.if_icmp .ne 12, 3) := by decide +kernel
theorem dM_part_115 : decode cM_part 115 = .ok (.aload_n 0, 1) := by decide +kernel
theorem dM_part_116 : decode cM_part 116 = .ok (.getfield 23, 3) := by decide +kernel
theorem dM_part_119 : decode cM_part 119 = .ok (.iload_n 1, 1) := by decide +kernel
theorem dM_part_120 : decode cM_part 120 = .ok (.iaload, 1) := by decide +kernel
theorem dM_part_121 : decode cM_part 121 = .ok (.goto 17, 3) := by decide +kernel
theorem dM_part_124 : decode cM_part 124 = .ok (.aload_n 0, 1) := by decide +kernel
theorem dM_part_125 : decode cM_part 125 = .ok (.getfield 26, 3) := by decide +kernel
theorem dM_part_128 : decode cM_part 128 = .ok (.iload_n 1, 1) := by decide +kernel
theorem dM_part_129 : decode cM_part 129 = .ok (.baload, 1) := by decide +kernel
theorem dM_part_130 : decode cM_part 130 = .ok (.ifCond .eq 7, 3) := by decide +kernel
theorem dM_part_133 : decode cM_part 133 = .ok (.iconst 1, 1) := by decide +kernel
theorem dM_part_134 : decode cM_part 134 = .ok (.goto 4, 3) := by decide +kernel
theorem dM_part_137 : decode cM_part 137 = .ok (.iconst 0, 1) := by decide +kernel
theorem dM_part_138 : decode cM_part 138 = .ok (.ireturn, 1) := by decide +kernel
theorem dM_count_0 : decode cM_count 0 = .ok (.aload_n 0, 1) := by decide +kernel
theorem dM_count_1 : decode cM_count 1 = .ok (.iconst 0, 1) := by decide +kernel
theorem dM_count_2 : decode cM_count 2 = .ok (.putfield 30, 3) := by decide +kernel
theorem dM_count_5 : decode cM_count 5 = .ok (.iconst 0, 1) := by decide +kernel
theorem dM_count_6 : decode cM_count 6 = .ok (.istore_n 3, 1) := by decide +kernel
theorem dM_count_7 : decode cM_count 7 = .ok (.iconst 0, 1) := by decide +kernel
theorem dM_count_8 : decode cM_count 8 = .ok (.istore 4, 2) := by decide +kernel
theorem dM_count_10 : decode cM_count 10 = .ok (.iload 4, 2) := by decide +kernel
theorem dM_count_12 : decode cM_count 12 = .ok (.bipush 16, 2) := by decide +kernel
theorem dM_count_14 : decode cM_count 14 = .ok (.if_icmp .ge 55, 3) := by decide +kernel
theorem dM_count_17 : decode cM_count 17 = .ok (.aload_n 0, 1) := by decide +kernel
theorem dM_count_18 : decode cM_count 18 = .ok (.getfield 26, 3) := by decide +kernel
theorem dM_count_21 : decode cM_count 21 = .ok (.iload 4, 2) := by decide +kernel
theorem dM_count_23 : decode cM_count 23 = .ok (.baload, 1) := by decide +kernel
theorem dM_count_24 : decode cM_count 24 = .ok (.ifCond .eq 39, 3) := by decide +kernel
theorem dM_count_27 : decode cM_count 27 = .ok (.aload_n 0, 1) := by decide +kernel
theorem dM_count_28 : decode cM_count 28 = .ok (.iload 4, 2) := by decide +kernel
theorem dM_count_30 : decode cM_count 30 = .ok (.invokevirtual 60, 3) := by decide +kernel
theorem dM_count_33 : decode cM_count 33 = .ok (.ifCond .ne 30, 3) := by decide +kernel
theorem dM_count_36 : decode cM_count 36 = .ok (.aload_n 0, 1) := by decide +kernel
theorem dM_count_37 : decode cM_count 37 = .ok (.iload 4, 2) := by decide +kernel
theorem dM_count_39 : decode cM_count 39 = .ok (.iload_n 2, 1) := by decide +kernel
theorem dM_count_40 : decode cM_count 40 = .ok (.invokevirtual 63, 3) := by decide +kernel
theorem dM_count_43 : decode cM_count 43 = .ok (.ifCond .eq 20, 3) := by decide +kernel
theorem dM_count_46 : decode cM_count 46 = .ok (.aload_n 0, 1) := by decide +kernel
theorem dM_count_47 : decode cM_count 47 = .ok (.iload 4, 2) := by decide +kernel
theorem dM_count_49 : decode cM_count 49 = .ok (.iload_n 1, 1) := by decide +kernel
theorem dM_count_50 : decode cM_count 50 = .ok (.invokestatic 42, 3) := by decide +kernel
theorem dM_count_53 : decode cM_count 53 = .ok (.lconst 1, 1) := by decide +kernel
theorem dM_count_54 : decode cM_count 54 = .ok (.invokevirtual 67, 3) := by decide +kernel
theorem dM_count_57 : decode cM_count 57 = .ok (.ifCond .eq 6, 3) := by decide +kernel
theorem dM_count_60 : decode cM_count 60 = .ok (.iinc 3 1, 3) := by decide +kernel
theorem dM_count_63 : decode cM_count 63 = .ok (.iinc 4 1, 3) := by decide +kernel
theorem dM_count_66 : decode cM_count 66 = .ok (.goto (-56), 3) := by decide +kernel
theorem dM_count_69 : decode cM_count 69 = .ok (.iload_n 3, 1) := by decide +kernel
theorem dM_count_70 : decode cM_count 70 = .ok (.ireturn, 1) := by decide +kernel
end
section
/-! Rows that decode each instruction. Laid by program. -/
theorem dL_root_0 : decode cL_root 0 = .ok (.aload_n 0, 1) := by decide +kernel
theorem dL_root_1 : decode cL_root 1 = .ok (.iload_n 1, 1) := by decide +kernel
theorem dL_root_2 : decode cL_root 2 = .ok (.iload_n 2, 1) := by decide +kernel
theorem dL_root_3 : decode cL_root 3 = .ok (.iload_n 3, 1) := by decide +kernel
theorem dL_root_4 : decode cL_root 4 = .ok (.iload 4, 2) := by decide +kernel
theorem dL_root_6 : decode cL_root 6 = .ok (.invokevirtual 7, 3) := by decide +kernel
theorem dL_root_9 : decode cL_root 9 = .ok (.goto 11, 3) := by decide +kernel
theorem dL_root_12 : decode cL_root 12 = .ok (.astore 5, 2) := by decide +kernel
theorem dL_root_14 : decode cL_root 14 = .ok (.iconst 1, 1) := by decide +kernel
theorem dL_root_15 : decode cL_root 15 = .ok (.ireturn, 1) := by decide +kernel
theorem dL_root_16 : decode cL_root 16 = .ok (.astore 5, 2) := by decide +kernel
theorem dL_root_18 : decode cL_root 18 = .ok (.iconst 2, 1) := by decide +kernel
theorem dL_root_19 : decode cL_root 19 = .ok (.ireturn, 1) := by decide +kernel
theorem dL_root_20 : decode cL_root 20 = .ok (.iconst 0, 1) := by decide +kernel
theorem dL_root_21 : decode cL_root 21 = .ok (.ireturn, 1) := by decide +kernel
theorem dL_number_0 : decode cL_number 0 = .ok (.aload_n 0, 1) := by decide +kernel
theorem dL_number_1 : decode cL_number 1 = .ok (.iload_n 1, 1) := by decide +kernel
theorem dL_number_2 : decode cL_number 2 = .ok (.iload_n 2, 1) := by decide +kernel
theorem dL_number_3 : decode cL_number 3 = .ok (.invokevirtual 17, 3) := by decide +kernel
theorem dL_number_6 : decode cL_number 6 = .ok (.goto 6, 3) := by decide +kernel
theorem dL_number_9 : decode cL_number 9 = .ok (.astore_n 3, 1) := by decide +kernel
theorem dL_number_10 : decode cL_number 10 = .ok (.iconst 1, 1) := by decide +kernel
theorem dL_number_11 : decode cL_number 11 = .ok (.ireturn, 1) := by decide +kernel
theorem dL_number_12 : decode cL_number 12 = .ok (.iconst 0, 1) := by decide +kernel
theorem dL_number_13 : decode cL_number 13 = .ok (.ireturn, 1) := by decide +kernel
theorem dL_move_0 : decode cL_move 0 = .ok (.aload_n 0, 1) := by decide +kernel
theorem dL_move_1 : decode cL_move 1 = .ok (.iload_n 1, 1) := by decide +kernel
theorem dL_move_2 : decode cL_move 2 = .ok (.iload_n 2, 1) := by decide +kernel
theorem dL_move_3 : decode cL_move 3 = .ok (.iload_n 3, 1) := by decide +kernel
theorem dL_move_4 : decode cL_move 4 = .ok (.invokevirtual 21, 3) := by decide +kernel
theorem dL_move_7 : decode cL_move 7 = .ok (.goto 7, 3) := by decide +kernel
theorem dL_move_10 : decode cL_move 10 = .ok (.astore 4, 2) := by decide +kernel
theorem dL_move_12 : decode cL_move 12 = .ok (.iconst 1, 1) := by decide +kernel
theorem dL_move_13 : decode cL_move 13 = .ok (.ireturn, 1) := by decide +kernel
theorem dL_move_14 : decode cL_move 14 = .ok (.iconst 0, 1) := by decide +kernel
theorem dL_move_15 : decode cL_move 15 = .ok (.ireturn, 1) := by decide +kernel
theorem dL_narrow_0 : decode cL_narrow 0 = .ok (.aload 4, 2) := by decide +kernel
theorem dL_narrow_2 : decode cL_narrow 2 = .ok (.iconst 0, 1) := by decide +kernel
theorem dL_narrow_3 : decode cL_narrow 3 = .ok (.aload_n 0, 1) := by decide +kernel
theorem dL_narrow_4 : decode cL_narrow 4 = .ok (.iload_n 1, 1) := by decide +kernel
theorem dL_narrow_5 : decode cL_narrow 5 = .ok (.iload_n 2, 1) := by decide +kernel
theorem dL_narrow_6 : decode cL_narrow 6 = .ok (.iload_n 3, 1) := by decide +kernel
theorem dL_narrow_7 : decode cL_narrow 7 = .ok (.invokevirtual 25, 3) := by decide +kernel
theorem dL_narrow_10 : decode cL_narrow 10 = .ok (.ifCond .eq 7, 3) := by decide +kernel
theorem dL_narrow_13 : decode cL_narrow 13 = .ok (.lconst 1, 1) := by decide +kernel
theorem dL_narrow_14 : decode cL_narrow 14 = .ok (.goto 4, 3) := by decide +kernel
theorem dL_narrow_17 : decode cL_narrow 17 = .ok (.lconst 0, 1) := by decide +kernel
theorem dL_narrow_18 : decode cL_narrow 18 = .ok (.lastore, 1) := by decide +kernel
theorem dL_narrow_19 : decode cL_narrow 19 = .ok (.goto 7, 3) := by decide +kernel
theorem dL_narrow_22 : decode cL_narrow 22 = .ok (.astore 5, 2) := by decide +kernel
theorem dL_narrow_24 : decode cL_narrow 24 = .ok (.iconst 1, 1) := by decide +kernel
theorem dL_narrow_25 : decode cL_narrow 25 = .ok (.ireturn, 1) := by decide +kernel
theorem dL_narrow_26 : decode cL_narrow 26 = .ok (.iconst 0, 1) := by decide +kernel
theorem dL_narrow_27 : decode cL_narrow 27 = .ok (.ireturn, 1) := by decide +kernel
theorem dL_restrict_0 : decode cL_restrict 0 = .ok (.aload 4, 2) := by decide +kernel
theorem dL_restrict_2 : decode cL_restrict 2 = .ok (.iconst 0, 1) := by decide +kernel
theorem dL_restrict_3 : decode cL_restrict 3 = .ok (.aload_n 0, 1) := by decide +kernel
theorem dL_restrict_4 : decode cL_restrict 4 = .ok (.iload_n 1, 1) := by decide +kernel
theorem dL_restrict_5 : decode cL_restrict 5 = .ok (.iload_n 2, 1) := by decide +kernel
theorem dL_restrict_6 : decode cL_restrict 6 = .ok (.iload_n 3, 1) := by decide +kernel
theorem dL_restrict_7 : decode cL_restrict 7 = .ok (.invokevirtual 29, 3) := by decide +kernel
theorem dL_restrict_10 : decode cL_restrict 10 = .ok (.ifCond .eq 7, 3) := by decide +kernel
theorem dL_restrict_13 : decode cL_restrict 13 = .ok (.lconst 1, 1) := by decide +kernel
theorem dL_restrict_14 : decode cL_restrict 14 = .ok (.goto 4, 3) := by decide +kernel
theorem dL_restrict_17 : decode cL_restrict 17 = .ok (.lconst 0, 1) := by decide +kernel
theorem dL_restrict_18 : decode cL_restrict 18 = .ok (.lastore, 1) := by decide +kernel
theorem dL_restrict_19 : decode cL_restrict 19 = .ok (.goto 7, 3) := by decide +kernel
theorem dL_restrict_22 : decode cL_restrict 22 = .ok (.astore 5, 2) := by decide +kernel
theorem dL_restrict_24 : decode cL_restrict 24 = .ok (.iconst 1, 1) := by decide +kernel
theorem dL_restrict_25 : decode cL_restrict 25 = .ok (.ireturn, 1) := by decide +kernel
theorem dL_restrict_26 : decode cL_restrict 26 = .ok (.iconst 0, 1) := by decide +kernel
theorem dL_restrict_27 : decode cL_restrict 27 = .ok (.ireturn, 1) := by decide +kernel
theorem dL_seal_0 : decode cL_seal 0 = .ok (.aload 4, 2) := by decide +kernel
theorem dL_seal_2 : decode cL_seal 2 = .ok (.iconst 0, 1) := by decide +kernel
theorem dL_seal_3 : decode cL_seal 3 = .ok (.aload_n 0, 1) := by decide +kernel
theorem dL_seal_4 : decode cL_seal 4 = .ok (.iload_n 1, 1) := by decide +kernel
theorem dL_seal_5 : decode cL_seal 5 = .ok (.iload_n 2, 1) := by decide +kernel
theorem dL_seal_6 : decode cL_seal 6 = .ok (.iload_n 3, 1) := by decide +kernel
theorem dL_seal_7 : decode cL_seal 7 = .ok (.invokevirtual 32, 3) := by decide +kernel
theorem dL_seal_10 : decode cL_seal 10 = .ok (.i2l, 1) := by decide +kernel
theorem dL_seal_11 : decode cL_seal 11 = .ok (.lastore, 1) := by decide +kernel
theorem dL_seal_12 : decode cL_seal 12 = .ok (.goto 7, 3) := by decide +kernel
theorem dL_seal_15 : decode cL_seal 15 = .ok (.astore 5, 2) := by decide +kernel
theorem dL_seal_17 : decode cL_seal 17 = .ok (.iconst 1, 1) := by decide +kernel
theorem dL_seal_18 : decode cL_seal 18 = .ok (.ireturn, 1) := by decide +kernel
theorem dL_seal_19 : decode cL_seal 19 = .ok (.iconst 0, 1) := by decide +kernel
theorem dL_seal_20 : decode cL_seal 20 = .ok (.ireturn, 1) := by decide +kernel
theorem dL_unseal_0 : decode cL_unseal 0 = .ok (.aload 4, 2) := by decide +kernel
theorem dL_unseal_2 : decode cL_unseal 2 = .ok (.iconst 0, 1) := by decide +kernel
theorem dL_unseal_3 : decode cL_unseal 3 = .ok (.aload_n 0, 1) := by decide +kernel
theorem dL_unseal_4 : decode cL_unseal 4 = .ok (.iload_n 1, 1) := by decide +kernel
theorem dL_unseal_5 : decode cL_unseal 5 = .ok (.iload_n 2, 1) := by decide +kernel
theorem dL_unseal_6 : decode cL_unseal 6 = .ok (.iload_n 3, 1) := by decide +kernel
theorem dL_unseal_7 : decode cL_unseal 7 = .ok (.invokevirtual 36, 3) := by decide +kernel
theorem dL_unseal_10 : decode cL_unseal 10 = .ok (.i2l, 1) := by decide +kernel
theorem dL_unseal_11 : decode cL_unseal 11 = .ok (.lastore, 1) := by decide +kernel
theorem dL_unseal_12 : decode cL_unseal 12 = .ok (.goto 7, 3) := by decide +kernel
theorem dL_unseal_15 : decode cL_unseal 15 = .ok (.astore 5, 2) := by decide +kernel
theorem dL_unseal_17 : decode cL_unseal 17 = .ok (.iconst 1, 1) := by decide +kernel
theorem dL_unseal_18 : decode cL_unseal 18 = .ok (.ireturn, 1) := by decide +kernel
theorem dL_unseal_19 : decode cL_unseal 19 = .ok (.iconst 0, 1) := by decide +kernel
theorem dL_unseal_20 : decode cL_unseal 20 = .ok (.ireturn, 1) := by decide +kernel
theorem dL_allows_0 : decode cL_allows 0 = .ok (.aload 5, 2) := by decide +kernel
theorem dL_allows_2 : decode cL_allows 2 = .ok (.iconst 0, 1) := by decide +kernel
theorem dL_allows_3 : decode cL_allows 3 = .ok (.aload_n 0, 1) := by decide +kernel
theorem dL_allows_4 : decode cL_allows 4 = .ok (.iload_n 1, 1) := by decide +kernel
theorem dL_allows_5 : decode cL_allows 5 = .ok (.iload_n 2, 1) := by decide +kernel
theorem dL_allows_6 : decode cL_allows 6 = .ok (.iload_n 3, 1) := by decide +kernel
theorem dL_allows_7 : decode cL_allows 7 = .ok (.iload 4, 2) := by decide +kernel
theorem dL_allows_9 : decode cL_allows 9 = .ok (.invokevirtual 39, 3) := by decide +kernel
theorem dL_allows_12 : decode cL_allows 12 = .ok (.i2l, 1) := by decide +kernel
theorem dL_allows_13 : decode cL_allows 13 = .ok (.lastore, 1) := by decide +kernel
theorem dL_allows_14 : decode cL_allows 14 = .ok (.goto 11, 3) := by decide +kernel
theorem dL_allows_17 : decode cL_allows 17 = .ok (.astore 6, 2) := by decide +kernel
theorem dL_allows_19 : decode cL_allows 19 = .ok (.iconst 1, 1) := by decide +kernel
theorem dL_allows_20 : decode cL_allows 20 = .ok (.ireturn, 1) := by decide +kernel
theorem dL_allows_21 : decode cL_allows 21 = .ok (.astore 6, 2) := by decide +kernel
theorem dL_allows_23 : decode cL_allows 23 = .ok (.iconst 2, 1) := by decide +kernel
theorem dL_allows_24 : decode cL_allows 24 = .ok (.ireturn, 1) := by decide +kernel
theorem dL_allows_25 : decode cL_allows 25 = .ok (.iconst 0, 1) := by decide +kernel
theorem dL_allows_26 : decode cL_allows 26 = .ok (.ireturn, 1) := by decide +kernel
theorem dL_within_0 : decode cL_within 0 = .ok (.aload_n 3, 1) := by decide +kernel
theorem dL_within_1 : decode cL_within 1 = .ok (.iconst 0, 1) := by decide +kernel
theorem dL_within_2 : decode cL_within 2 = .ok (.aload_n 0, 1) := by decide +kernel
theorem dL_within_3 : decode cL_within 3 = .ok (.iload_n 1, 1) := by decide +kernel
theorem dL_within_4 : decode cL_within 4 = .ok (.iload_n 2, 1) := by decide +kernel
theorem dL_within_5 : decode cL_within 5 = .ok (.invokevirtual 43, 3) := by decide +kernel
theorem dL_within_8 : decode cL_within 8 = .ok (.ifCond .eq 7, 3) := by decide +kernel
theorem dL_within_11 : decode cL_within 11 = .ok (.lconst 1, 1) := by decide +kernel
theorem dL_within_12 : decode cL_within 12 = .ok (.goto 4, 3) := by decide +kernel
theorem dL_within_15 : decode cL_within 15 = .ok (.lconst 0, 1) := by decide +kernel
theorem dL_within_16 : decode cL_within 16 = .ok (.lastore, 1) := by decide +kernel
theorem dL_within_17 : decode cL_within 17 = .ok (.goto 7, 3) := by decide +kernel
theorem dL_within_20 : decode cL_within 20 = .ok (.astore 4, 2) := by decide +kernel
theorem dL_within_22 : decode cL_within 22 = .ok (.iconst 1, 1) := by decide +kernel
theorem dL_within_23 : decode cL_within 23 = .ok (.ireturn, 1) := by decide +kernel
theorem dL_within_24 : decode cL_within 24 = .ok (.iconst 0, 1) := by decide +kernel
theorem dL_within_25 : decode cL_within 25 = .ok (.ireturn, 1) := by decide +kernel
theorem dL_part_0 : decode cL_part 0 = .ok (.aload_n 3, 1) := by decide +kernel
theorem dL_part_1 : decode cL_part 1 = .ok (.iconst 0, 1) := by decide +kernel
theorem dL_part_2 : decode cL_part 2 = .ok (.aload_n 0, 1) := by decide +kernel
theorem dL_part_3 : decode cL_part 3 = .ok (.iload_n 1, 1) := by decide +kernel
theorem dL_part_4 : decode cL_part 4 = .ok (.iload_n 2, 1) := by decide +kernel
theorem dL_part_5 : decode cL_part 5 = .ok (.invokevirtual 47, 3) := by decide +kernel
theorem dL_part_8 : decode cL_part 8 = .ok (.i2l, 1) := by decide +kernel
theorem dL_part_9 : decode cL_part 9 = .ok (.lastore, 1) := by decide +kernel
theorem dL_part_10 : decode cL_part 10 = .ok (.goto 11, 3) := by decide +kernel
theorem dL_part_13 : decode cL_part 13 = .ok (.astore 4, 2) := by decide +kernel
theorem dL_part_15 : decode cL_part 15 = .ok (.iconst 1, 1) := by decide +kernel
theorem dL_part_16 : decode cL_part 16 = .ok (.ireturn, 1) := by decide +kernel
theorem dL_part_17 : decode cL_part 17 = .ok (.astore 4, 2) := by decide +kernel
theorem dL_part_19 : decode cL_part 19 = .ok (.iconst 2, 1) := by decide +kernel
theorem dL_part_20 : decode cL_part 20 = .ok (.ireturn, 1) := by decide +kernel
theorem dL_part_21 : decode cL_part 21 = .ok (.iconst 0, 1) := by decide +kernel
theorem dL_part_22 : decode cL_part 22 = .ok (.ireturn, 1) := by decide +kernel
end
section
/-! Rows that decode the law. Laid by program. -/
theorem dL_law_0 : decode code 0 = .ok (.new 8, 3) := by decide +kernel
theorem dL_law_3 : decode code 3 = .ok (.dup, 1) := by decide +kernel
theorem dL_law_4 : decode code 4 = .ok (.invokespecial 51, 3) := by decide +kernel
theorem dL_law_7 : decode code 7 = .ok (.astore_n 1, 1) := by decide +kernel
theorem dL_law_8 : decode code 8 = .ok (.new 52, 3) := by decide +kernel
theorem dL_law_11 : decode code 11 = .ok (.dup, 1) := by decide +kernel
theorem dL_law_12 : decode code 12 = .ok (.invokespecial 54, 3) := by decide +kernel
theorem dL_law_15 : decode code 15 = .ok (.astore_n 2, 1) := by decide +kernel
theorem dL_law_16 : decode code 16 = .ok (.iconst 1, 1) := by decide +kernel
theorem dL_law_17 : decode code 17 = .ok (.newarray .long, 2) := by decide +kernel
theorem dL_law_19 : decode code 19 = .ok (.astore_n 3, 1) := by decide +kernel
theorem dL_law_20 : decode code 20 = .ok (.iconst 0, 1) := by decide +kernel
theorem dL_law_21 : decode code 21 = .ok (.istore 4, 2) := by decide +kernel
theorem dL_law_23 : decode code 23 = .ok (.iload 4, 2) := by decide +kernel
theorem dL_law_25 : decode code 25 = .ok (.aload_n 0, 1) := by decide +kernel
theorem dL_law_26 : decode code 26 = .ok (.arraylength, 1) := by decide +kernel
theorem dL_law_27 : decode code 27 = .ok (.iconst 5, 1) := by decide +kernel
theorem dL_law_28 : decode code 28 = .ok (.isub, 1) := by decide +kernel
theorem dL_law_29 : decode code 29 = .ok (.if_icmp .gt 859, 3) := by decide +kernel
theorem dL_law_32 : decode code 32 = .ok (.aload_n 0, 1) := by decide +kernel
theorem dL_law_33 : decode code 33 = .ok (.iload 4, 2) := by decide +kernel
theorem dL_law_35 : decode code 35 = .ok (.iaload, 1) := by decide +kernel
theorem dL_law_36 : decode code 36 = .ok (.bipush 15, 2) := by decide +kernel
theorem dL_law_38 : decode code 38 = .ok (.iand, 1) := by decide +kernel
theorem dL_law_39 : decode code 39 = .ok (.tableswitch 843 0 10 #[57, 129, 177, 237, 324, 411, 491, 571, 663, 738, 806], 57) := by decide +kernel
theorem dL_law_96 : decode code 96 = .ok (.aload_n 1, 1) := by decide +kernel
theorem dL_law_97 : decode code 97 = .ok (.aload_n 0, 1) := by decide +kernel
theorem dL_law_98 : decode code 98 = .ok (.iload 4, 2) := by decide +kernel
theorem dL_law_100 : decode code 100 = .ok (.iconst 1, 1) := by decide +kernel
theorem dL_law_101 : decode code 101 = .ok (.iadd, 1) := by decide +kernel
theorem dL_law_102 : decode code 102 = .ok (.iaload, 1) := by decide +kernel
theorem dL_law_103 : decode code 103 = .ok (.aload_n 0, 1) := by decide +kernel
theorem dL_law_104 : decode code 104 = .ok (.iload 4, 2) := by decide +kernel
theorem dL_law_106 : decode code 106 = .ok (.iconst 2, 1) := by decide +kernel
theorem dL_law_107 : decode code 107 = .ok (.iadd, 1) := by decide +kernel
theorem dL_law_108 : decode code 108 = .ok (.iaload, 1) := by decide +kernel
theorem dL_law_109 : decode code 109 = .ok (.aload_n 0, 1) := by decide +kernel
theorem dL_law_110 : decode code 110 = .ok (.iload 4, 2) := by decide +kernel
theorem dL_law_112 : decode code 112 = .ok (.iconst 3, 1) := by decide +kernel
theorem dL_law_113 : decode code 113 = .ok (.iadd, 1) := by decide +kernel
theorem dL_law_114 : decode code 114 = .ok (.iaload, 1) := by decide +kernel
theorem dL_law_115 : decode code 115 = .ok (.aload_n 0, 1) := by decide +kernel
theorem dL_law_116 : decode code 116 = .ok (.iload 4, 2) := by decide +kernel
theorem dL_law_118 : decode code 118 = .ok (.iconst 4, 1) := by decide +kernel
theorem dL_law_119 : decode code 119 = .ok (.iadd, 1) := by decide +kernel
theorem dL_law_120 : decode code 120 = .ok (.iaload, 1) := by decide +kernel
theorem dL_law_121 : decode code 121 = .ok (.invokestatic 55, 3) := by decide +kernel
theorem dL_law_124 : decode code 124 = .ok (.istore 5, 2) := by decide +kernel
theorem dL_law_126 : decode code 126 = .ok (.aload_n 2, 1) := by decide +kernel
theorem dL_law_127 : decode code 127 = .ok (.aload_n 0, 1) := by decide +kernel
theorem dL_law_128 : decode code 128 = .ok (.iload 4, 2) := by decide +kernel
theorem dL_law_130 : decode code 130 = .ok (.iconst 1, 1) := by decide +kernel
theorem dL_law_131 : decode code 131 = .ok (.iadd, 1) := by decide +kernel
theorem dL_law_132 : decode code 132 = .ok (.iaload, 1) := by decide +kernel
theorem dL_law_133 : decode code 133 = .ok (.aload_n 0, 1) := by decide +kernel
theorem dL_law_134 : decode code 134 = .ok (.iload 4, 2) := by decide +kernel
theorem dL_law_136 : decode code 136 = .ok (.iconst 2, 1) := by decide +kernel
theorem dL_law_137 : decode code 137 = .ok (.iadd, 1) := by decide +kernel
theorem dL_law_138 : decode code 138 = .ok (.iaload, 1) := by decide +kernel
theorem dL_law_139 : decode code 139 = .ok (.aload_n 0, 1) := by decide +kernel
theorem dL_law_140 : decode code 140 = .ok (.iload 4, 2) := by decide +kernel
theorem dL_law_142 : decode code 142 = .ok (.iconst 3, 1) := by decide +kernel
theorem dL_law_143 : decode code 143 = .ok (.iadd, 1) := by decide +kernel
theorem dL_law_144 : decode code 144 = .ok (.iaload, 1) := by decide +kernel
theorem dL_law_145 : decode code 145 = .ok (.aload_n 0, 1) := by decide +kernel
theorem dL_law_146 : decode code 146 = .ok (.iload 4, 2) := by decide +kernel
theorem dL_law_148 : decode code 148 = .ok (.iconst 4, 1) := by decide +kernel
theorem dL_law_149 : decode code 149 = .ok (.iadd, 1) := by decide +kernel
theorem dL_law_150 : decode code 150 = .ok (.iaload, 1) := by decide +kernel
theorem dL_law_151 : decode code 151 = .ok (.invokevirtual 60, 3) := by decide +kernel
theorem dL_law_154 : decode code 154 = .ok (.aload_n 2, 1) := by decide +kernel
theorem dL_law_155 : decode code 155 = .ok (.invokevirtual 61, 3) := by decide +kernel
theorem dL_law_158 : decode code 158 = .ok (.iload 5, 2) := by decide +kernel
theorem dL_law_160 : decode code 160 = .ok (.if_icmp .eq 5, 3) := by decide +kernel
theorem dL_law_163 : decode code 163 = .ok (.iconst 0, 1) := by decide +kernel
theorem dL_law_164 : decode code 164 = .ok (.ireturn, 1) := by decide +kernel
theorem dL_law_165 : decode code 165 = .ok (.goto 717, 3) := by decide +kernel
theorem dL_law_168 : decode code 168 = .ok (.aload_n 1, 1) := by decide +kernel
theorem dL_law_169 : decode code 169 = .ok (.aload_n 0, 1) := by decide +kernel
theorem dL_law_170 : decode code 170 = .ok (.iload 4, 2) := by decide +kernel
theorem dL_law_172 : decode code 172 = .ok (.iconst 1, 1) := by decide +kernel
theorem dL_law_173 : decode code 173 = .ok (.iadd, 1) := by decide +kernel
theorem dL_law_174 : decode code 174 = .ok (.iaload, 1) := by decide +kernel
theorem dL_law_175 : decode code 175 = .ok (.aload_n 0, 1) := by decide +kernel
theorem dL_law_176 : decode code 176 = .ok (.iload 4, 2) := by decide +kernel
theorem dL_law_178 : decode code 178 = .ok (.iconst 2, 1) := by decide +kernel
theorem dL_law_179 : decode code 179 = .ok (.iadd, 1) := by decide +kernel
theorem dL_law_180 : decode code 180 = .ok (.iaload, 1) := by decide +kernel
theorem dL_law_181 : decode code 181 = .ok (.invokestatic 65, 3) := by decide +kernel
theorem dL_law_184 : decode code 184 = .ok (.istore 5, 2) := by decide +kernel
theorem dL_law_186 : decode code 186 = .ok (.aload_n 2, 1) := by decide +kernel
theorem dL_law_187 : decode code 187 = .ok (.aload_n 0, 1) := by decide +kernel
theorem dL_law_188 : decode code 188 = .ok (.iload 4, 2) := by decide +kernel
theorem dL_law_190 : decode code 190 = .ok (.iconst 1, 1) := by decide +kernel
theorem dL_law_191 : decode code 191 = .ok (.iadd, 1) := by decide +kernel
theorem dL_law_192 : decode code 192 = .ok (.iaload, 1) := by decide +kernel
theorem dL_law_193 : decode code 193 = .ok (.aload_n 0, 1) := by decide +kernel
theorem dL_law_194 : decode code 194 = .ok (.iload 4, 2) := by decide +kernel
theorem dL_law_196 : decode code 196 = .ok (.iconst 2, 1) := by decide +kernel
theorem dL_law_197 : decode code 197 = .ok (.iadd, 1) := by decide +kernel
theorem dL_law_198 : decode code 198 = .ok (.iaload, 1) := by decide +kernel
theorem dL_law_199 : decode code 199 = .ok (.invokevirtual 68, 3) := by decide +kernel
theorem dL_law_202 : decode code 202 = .ok (.aload_n 2, 1) := by decide +kernel
theorem dL_law_203 : decode code 203 = .ok (.invokevirtual 61, 3) := by decide +kernel
theorem dL_law_206 : decode code 206 = .ok (.iload 5, 2) := by decide +kernel
theorem dL_law_208 : decode code 208 = .ok (.if_icmp .eq 5, 3) := by decide +kernel
theorem dL_law_211 : decode code 211 = .ok (.iconst 0, 1) := by decide +kernel
theorem dL_law_212 : decode code 212 = .ok (.ireturn, 1) := by decide +kernel
theorem dL_law_213 : decode code 213 = .ok (.goto 669, 3) := by decide +kernel
theorem dL_law_216 : decode code 216 = .ok (.aload_n 1, 1) := by decide +kernel
theorem dL_law_217 : decode code 217 = .ok (.aload_n 0, 1) := by decide +kernel
theorem dL_law_218 : decode code 218 = .ok (.iload 4, 2) := by decide +kernel
theorem dL_law_220 : decode code 220 = .ok (.iconst 1, 1) := by decide +kernel
theorem dL_law_221 : decode code 221 = .ok (.iadd, 1) := by decide +kernel
theorem dL_law_222 : decode code 222 = .ok (.iaload, 1) := by decide +kernel
theorem dL_law_223 : decode code 223 = .ok (.aload_n 0, 1) := by decide +kernel
theorem dL_law_224 : decode code 224 = .ok (.iload 4, 2) := by decide +kernel
theorem dL_law_226 : decode code 226 = .ok (.iconst 2, 1) := by decide +kernel
theorem dL_law_227 : decode code 227 = .ok (.iadd, 1) := by decide +kernel
theorem dL_law_228 : decode code 228 = .ok (.iaload, 1) := by decide +kernel
theorem dL_law_229 : decode code 229 = .ok (.aload_n 0, 1) := by decide +kernel
theorem dL_law_230 : decode code 230 = .ok (.iload 4, 2) := by decide +kernel
theorem dL_law_232 : decode code 232 = .ok (.iconst 3, 1) := by decide +kernel
theorem dL_law_233 : decode code 233 = .ok (.iadd, 1) := by decide +kernel
theorem dL_law_234 : decode code 234 = .ok (.iaload, 1) := by decide +kernel
theorem dL_law_235 : decode code 235 = .ok (.invokestatic 69, 3) := by decide +kernel
theorem dL_law_238 : decode code 238 = .ok (.istore 5, 2) := by decide +kernel
theorem dL_law_240 : decode code 240 = .ok (.aload_n 2, 1) := by decide +kernel
theorem dL_law_241 : decode code 241 = .ok (.aload_n 0, 1) := by decide +kernel
theorem dL_law_242 : decode code 242 = .ok (.iload 4, 2) := by decide +kernel
theorem dL_law_244 : decode code 244 = .ok (.iconst 1, 1) := by decide +kernel
theorem dL_law_245 : decode code 245 = .ok (.iadd, 1) := by decide +kernel
theorem dL_law_246 : decode code 246 = .ok (.iaload, 1) := by decide +kernel
theorem dL_law_247 : decode code 247 = .ok (.aload_n 0, 1) := by decide +kernel
theorem dL_law_248 : decode code 248 = .ok (.iload 4, 2) := by decide +kernel
theorem dL_law_250 : decode code 250 = .ok (.iconst 2, 1) := by decide +kernel
theorem dL_law_251 : decode code 251 = .ok (.iadd, 1) := by decide +kernel
theorem dL_law_252 : decode code 252 = .ok (.iaload, 1) := by decide +kernel
theorem dL_law_253 : decode code 253 = .ok (.aload_n 0, 1) := by decide +kernel
theorem dL_law_254 : decode code 254 = .ok (.iload 4, 2) := by decide +kernel
theorem dL_law_256 : decode code 256 = .ok (.iconst 3, 1) := by decide +kernel
theorem dL_law_257 : decode code 257 = .ok (.iadd, 1) := by decide +kernel
theorem dL_law_258 : decode code 258 = .ok (.iaload, 1) := by decide +kernel
theorem dL_law_259 : decode code 259 = .ok (.invokevirtual 72, 3) := by decide +kernel
theorem dL_law_262 : decode code 262 = .ok (.aload_n 2, 1) := by decide +kernel
theorem dL_law_263 : decode code 263 = .ok (.invokevirtual 61, 3) := by decide +kernel
theorem dL_law_266 : decode code 266 = .ok (.iload 5, 2) := by decide +kernel
theorem dL_law_268 : decode code 268 = .ok (.if_icmp .eq 5, 3) := by decide +kernel
theorem dL_law_271 : decode code 271 = .ok (.iconst 0, 1) := by decide +kernel
theorem dL_law_272 : decode code 272 = .ok (.ireturn, 1) := by decide +kernel
theorem dL_law_273 : decode code 273 = .ok (.goto 609, 3) := by decide +kernel
theorem dL_law_276 : decode code 276 = .ok (.aload_n 1, 1) := by decide +kernel
theorem dL_law_277 : decode code 277 = .ok (.aload_n 0, 1) := by decide +kernel
theorem dL_law_278 : decode code 278 = .ok (.iload 4, 2) := by decide +kernel
theorem dL_law_280 : decode code 280 = .ok (.iconst 1, 1) := by decide +kernel
theorem dL_law_281 : decode code 281 = .ok (.iadd, 1) := by decide +kernel
theorem dL_law_282 : decode code 282 = .ok (.iaload, 1) := by decide +kernel
theorem dL_law_283 : decode code 283 = .ok (.aload_n 0, 1) := by decide +kernel
theorem dL_law_284 : decode code 284 = .ok (.iload 4, 2) := by decide +kernel
theorem dL_law_286 : decode code 286 = .ok (.iconst 2, 1) := by decide +kernel
theorem dL_law_287 : decode code 287 = .ok (.iadd, 1) := by decide +kernel
theorem dL_law_288 : decode code 288 = .ok (.iaload, 1) := by decide +kernel
theorem dL_law_289 : decode code 289 = .ok (.aload_n 0, 1) := by decide +kernel
theorem dL_law_290 : decode code 290 = .ok (.iload 4, 2) := by decide +kernel
theorem dL_law_292 : decode code 292 = .ok (.iconst 3, 1) := by decide +kernel
theorem dL_law_293 : decode code 293 = .ok (.iadd, 1) := by decide +kernel
theorem dL_law_294 : decode code 294 = .ok (.iaload, 1) := by decide +kernel
theorem dL_law_295 : decode code 295 = .ok (.aload_n 3, 1) := by decide +kernel
theorem dL_law_296 : decode code 296 = .ok (.invokestatic 73, 3) := by decide +kernel
theorem dL_law_299 : decode code 299 = .ok (.istore 5, 2) := by decide +kernel
theorem dL_law_301 : decode code 301 = .ok (.aload_n 2, 1) := by decide +kernel
theorem dL_law_302 : decode code 302 = .ok (.aload_n 0, 1) := by decide +kernel
theorem dL_law_303 : decode code 303 = .ok (.iload 4, 2) := by decide +kernel
theorem dL_law_305 : decode code 305 = .ok (.iconst 1, 1) := by decide +kernel
theorem dL_law_306 : decode code 306 = .ok (.iadd, 1) := by decide +kernel
theorem dL_law_307 : decode code 307 = .ok (.iaload, 1) := by decide +kernel
theorem dL_law_308 : decode code 308 = .ok (.aload_n 0, 1) := by decide +kernel
theorem dL_law_309 : decode code 309 = .ok (.iload 4, 2) := by decide +kernel
theorem dL_law_311 : decode code 311 = .ok (.iconst 2, 1) := by decide +kernel
theorem dL_law_312 : decode code 312 = .ok (.iadd, 1) := by decide +kernel
theorem dL_law_313 : decode code 313 = .ok (.iaload, 1) := by decide +kernel
theorem dL_law_314 : decode code 314 = .ok (.aload_n 0, 1) := by decide +kernel
theorem dL_law_315 : decode code 315 = .ok (.iload 4, 2) := by decide +kernel
theorem dL_law_317 : decode code 317 = .ok (.iconst 3, 1) := by decide +kernel
theorem dL_law_318 : decode code 318 = .ok (.iadd, 1) := by decide +kernel
theorem dL_law_319 : decode code 319 = .ok (.iaload, 1) := by decide +kernel
theorem dL_law_320 : decode code 320 = .ok (.invokevirtual 76, 3) := by decide +kernel
theorem dL_law_323 : decode code 323 = .ok (.istore 6, 2) := by decide +kernel
theorem dL_law_325 : decode code 325 = .ok (.aload_n 2, 1) := by decide +kernel
theorem dL_law_326 : decode code 326 = .ok (.invokevirtual 61, 3) := by decide +kernel
theorem dL_law_329 : decode code 329 = .ok (.iload 5, 2) := by decide +kernel
theorem dL_law_331 : decode code 331 = .ok (.if_icmp .eq 5, 3) := by decide +kernel
theorem dL_law_334 : decode code 334 = .ok (.iconst 0, 1) := by decide +kernel
theorem dL_law_335 : decode code 335 = .ok (.ireturn, 1) := by decide +kernel
theorem dL_law_336 : decode code 336 = .ok (.iload 5, 2) := by decide +kernel
theorem dL_law_338 : decode code 338 = .ok (.ifCond .ne 22, 3) := by decide +kernel
theorem dL_law_341 : decode code 341 = .ok (.aload_n 3, 1) := by decide +kernel
theorem dL_law_342 : decode code 342 = .ok (.iconst 0, 1) := by decide +kernel
theorem dL_law_343 : decode code 343 = .ok (.laload, 1) := by decide +kernel
theorem dL_law_344 : decode code 344 = .ok (.iload 6, 2) := by decide +kernel
theorem dL_law_346 : decode code 346 = .ok (.ifCond .eq 7, 3) := by decide +kernel
theorem dL_law_349 : decode code 349 = .ok (.lconst 1, 1) := by decide +kernel
theorem dL_law_350 : decode code 350 = .ok (.goto 4, 3) := by decide +kernel
theorem dL_law_353 : decode code 353 = .ok (.lconst 0, 1) := by decide +kernel
theorem dL_law_354 : decode code 354 = .ok (.lcmp, 1) := by decide +kernel
theorem dL_law_355 : decode code 355 = .ok (.ifCond .eq 5, 3) := by decide +kernel
theorem dL_law_358 : decode code 358 = .ok (.iconst 0, 1) := by decide +kernel
theorem dL_law_359 : decode code 359 = .ok (.ireturn, 1) := by decide +kernel
theorem dL_law_360 : decode code 360 = .ok (.goto 522, 3) := by decide +kernel
theorem dL_law_363 : decode code 363 = .ok (.aload_n 1, 1) := by decide +kernel
theorem dL_law_364 : decode code 364 = .ok (.aload_n 0, 1) := by decide +kernel
theorem dL_law_365 : decode code 365 = .ok (.iload 4, 2) := by decide +kernel
theorem dL_law_367 : decode code 367 = .ok (.iconst 1, 1) := by decide +kernel
theorem dL_law_368 : decode code 368 = .ok (.iadd, 1) := by decide +kernel
theorem dL_law_369 : decode code 369 = .ok (.iaload, 1) := by decide +kernel
theorem dL_law_370 : decode code 370 = .ok (.aload_n 0, 1) := by decide +kernel
theorem dL_law_371 : decode code 371 = .ok (.iload 4, 2) := by decide +kernel
theorem dL_law_373 : decode code 373 = .ok (.iconst 2, 1) := by decide +kernel
theorem dL_law_374 : decode code 374 = .ok (.iadd, 1) := by decide +kernel
theorem dL_law_375 : decode code 375 = .ok (.iaload, 1) := by decide +kernel
theorem dL_law_376 : decode code 376 = .ok (.aload_n 0, 1) := by decide +kernel
theorem dL_law_377 : decode code 377 = .ok (.iload 4, 2) := by decide +kernel
theorem dL_law_379 : decode code 379 = .ok (.iconst 3, 1) := by decide +kernel
theorem dL_law_380 : decode code 380 = .ok (.iadd, 1) := by decide +kernel
theorem dL_law_381 : decode code 381 = .ok (.iaload, 1) := by decide +kernel
theorem dL_law_382 : decode code 382 = .ok (.aload_n 3, 1) := by decide +kernel
theorem dL_law_383 : decode code 383 = .ok (.invokestatic 77, 3) := by decide +kernel
theorem dL_law_386 : decode code 386 = .ok (.istore 5, 2) := by decide +kernel
theorem dL_law_388 : decode code 388 = .ok (.aload_n 2, 1) := by decide +kernel
theorem dL_law_389 : decode code 389 = .ok (.aload_n 0, 1) := by decide +kernel
theorem dL_law_390 : decode code 390 = .ok (.iload 4, 2) := by decide +kernel
theorem dL_law_392 : decode code 392 = .ok (.iconst 1, 1) := by decide +kernel
theorem dL_law_393 : decode code 393 = .ok (.iadd, 1) := by decide +kernel
theorem dL_law_394 : decode code 394 = .ok (.iaload, 1) := by decide +kernel
theorem dL_law_395 : decode code 395 = .ok (.aload_n 0, 1) := by decide +kernel
theorem dL_law_396 : decode code 396 = .ok (.iload 4, 2) := by decide +kernel
theorem dL_law_398 : decode code 398 = .ok (.iconst 2, 1) := by decide +kernel
theorem dL_law_399 : decode code 399 = .ok (.iadd, 1) := by decide +kernel
theorem dL_law_400 : decode code 400 = .ok (.iaload, 1) := by decide +kernel
theorem dL_law_401 : decode code 401 = .ok (.aload_n 0, 1) := by decide +kernel
theorem dL_law_402 : decode code 402 = .ok (.iload 4, 2) := by decide +kernel
theorem dL_law_404 : decode code 404 = .ok (.iconst 3, 1) := by decide +kernel
theorem dL_law_405 : decode code 405 = .ok (.iadd, 1) := by decide +kernel
theorem dL_law_406 : decode code 406 = .ok (.iaload, 1) := by decide +kernel
theorem dL_law_407 : decode code 407 = .ok (.invokevirtual 79, 3) := by decide +kernel
theorem dL_law_410 : decode code 410 = .ok (.istore 6, 2) := by decide +kernel
theorem dL_law_412 : decode code 412 = .ok (.aload_n 2, 1) := by decide +kernel
theorem dL_law_413 : decode code 413 = .ok (.invokevirtual 61, 3) := by decide +kernel
theorem dL_law_416 : decode code 416 = .ok (.iload 5, 2) := by decide +kernel
theorem dL_law_418 : decode code 418 = .ok (.if_icmp .eq 5, 3) := by decide +kernel
theorem dL_law_421 : decode code 421 = .ok (.iconst 0, 1) := by decide +kernel
theorem dL_law_422 : decode code 422 = .ok (.ireturn, 1) := by decide +kernel
theorem dL_law_423 : decode code 423 = .ok (.iload 5, 2) := by decide +kernel
theorem dL_law_425 : decode code 425 = .ok (.ifCond .ne 22, 3) := by decide +kernel
theorem dL_law_428 : decode code 428 = .ok (.aload_n 3, 1) := by decide +kernel
theorem dL_law_429 : decode code 429 = .ok (.iconst 0, 1) := by decide +kernel
theorem dL_law_430 : decode code 430 = .ok (.laload, 1) := by decide +kernel
theorem dL_law_431 : decode code 431 = .ok (.iload 6, 2) := by decide +kernel
theorem dL_law_433 : decode code 433 = .ok (.ifCond .eq 7, 3) := by decide +kernel
theorem dL_law_436 : decode code 436 = .ok (.lconst 1, 1) := by decide +kernel
theorem dL_law_437 : decode code 437 = .ok (.goto 4, 3) := by decide +kernel
theorem dL_law_440 : decode code 440 = .ok (.lconst 0, 1) := by decide +kernel
theorem dL_law_441 : decode code 441 = .ok (.lcmp, 1) := by decide +kernel
theorem dL_law_442 : decode code 442 = .ok (.ifCond .eq 5, 3) := by decide +kernel
theorem dL_law_445 : decode code 445 = .ok (.iconst 0, 1) := by decide +kernel
theorem dL_law_446 : decode code 446 = .ok (.ireturn, 1) := by decide +kernel
theorem dL_law_447 : decode code 447 = .ok (.goto 435, 3) := by decide +kernel
theorem dL_law_450 : decode code 450 = .ok (.aload_n 1, 1) := by decide +kernel
theorem dL_law_451 : decode code 451 = .ok (.aload_n 0, 1) := by decide +kernel
theorem dL_law_452 : decode code 452 = .ok (.iload 4, 2) := by decide +kernel
theorem dL_law_454 : decode code 454 = .ok (.iconst 1, 1) := by decide +kernel
theorem dL_law_455 : decode code 455 = .ok (.iadd, 1) := by decide +kernel
theorem dL_law_456 : decode code 456 = .ok (.iaload, 1) := by decide +kernel
theorem dL_law_457 : decode code 457 = .ok (.aload_n 0, 1) := by decide +kernel
theorem dL_law_458 : decode code 458 = .ok (.iload 4, 2) := by decide +kernel
theorem dL_law_460 : decode code 460 = .ok (.iconst 2, 1) := by decide +kernel
theorem dL_law_461 : decode code 461 = .ok (.iadd, 1) := by decide +kernel
theorem dL_law_462 : decode code 462 = .ok (.iaload, 1) := by decide +kernel
theorem dL_law_463 : decode code 463 = .ok (.aload_n 0, 1) := by decide +kernel
theorem dL_law_464 : decode code 464 = .ok (.iload 4, 2) := by decide +kernel
theorem dL_law_466 : decode code 466 = .ok (.iconst 3, 1) := by decide +kernel
theorem dL_law_467 : decode code 467 = .ok (.iadd, 1) := by decide +kernel
theorem dL_law_468 : decode code 468 = .ok (.iaload, 1) := by decide +kernel
theorem dL_law_469 : decode code 469 = .ok (.aload_n 3, 1) := by decide +kernel
theorem dL_law_470 : decode code 470 = .ok (.invokestatic 80, 3) := by decide +kernel
theorem dL_law_473 : decode code 473 = .ok (.istore 5, 2) := by decide +kernel
theorem dL_law_475 : decode code 475 = .ok (.aload_n 2, 1) := by decide +kernel
theorem dL_law_476 : decode code 476 = .ok (.aload_n 0, 1) := by decide +kernel
theorem dL_law_477 : decode code 477 = .ok (.iload 4, 2) := by decide +kernel
theorem dL_law_479 : decode code 479 = .ok (.iconst 1, 1) := by decide +kernel
theorem dL_law_480 : decode code 480 = .ok (.iadd, 1) := by decide +kernel
theorem dL_law_481 : decode code 481 = .ok (.iaload, 1) := by decide +kernel
theorem dL_law_482 : decode code 482 = .ok (.aload_n 0, 1) := by decide +kernel
theorem dL_law_483 : decode code 483 = .ok (.iload 4, 2) := by decide +kernel
theorem dL_law_485 : decode code 485 = .ok (.iconst 2, 1) := by decide +kernel
theorem dL_law_486 : decode code 486 = .ok (.iadd, 1) := by decide +kernel
theorem dL_law_487 : decode code 487 = .ok (.iaload, 1) := by decide +kernel
theorem dL_law_488 : decode code 488 = .ok (.aload_n 0, 1) := by decide +kernel
theorem dL_law_489 : decode code 489 = .ok (.iload 4, 2) := by decide +kernel
theorem dL_law_491 : decode code 491 = .ok (.iconst 3, 1) := by decide +kernel
theorem dL_law_492 : decode code 492 = .ok (.iadd, 1) := by decide +kernel
theorem dL_law_493 : decode code 493 = .ok (.iaload, 1) := by decide +kernel
theorem dL_law_494 : decode code 494 = .ok (.invokevirtual 82, 3) := by decide +kernel
theorem dL_law_497 : decode code 497 = .ok (.istore 6, 2) := by decide +kernel
theorem dL_law_499 : decode code 499 = .ok (.aload_n 2, 1) := by decide +kernel
theorem dL_law_500 : decode code 500 = .ok (.invokevirtual 61, 3) := by decide +kernel
theorem dL_law_503 : decode code 503 = .ok (.iload 5, 2) := by decide +kernel
theorem dL_law_505 : decode code 505 = .ok (.if_icmp .eq 5, 3) := by decide +kernel
theorem dL_law_508 : decode code 508 = .ok (.iconst 0, 1) := by decide +kernel
theorem dL_law_509 : decode code 509 = .ok (.ireturn, 1) := by decide +kernel
theorem dL_law_510 : decode code 510 = .ok (.iload 5, 2) := by decide +kernel
theorem dL_law_512 : decode code 512 = .ok (.ifCond .ne 15, 3) := by decide +kernel
theorem dL_law_515 : decode code 515 = .ok (.aload_n 3, 1) := by decide +kernel
theorem dL_law_516 : decode code 516 = .ok (.iconst 0, 1) := by decide +kernel
theorem dL_law_517 : decode code 517 = .ok (.laload, 1) := by decide +kernel
theorem dL_law_518 : decode code 518 = .ok (.iload 6, 2) := by decide +kernel
theorem dL_law_520 : decode code 520 = .ok (.i2l, 1) := by decide +kernel
theorem dL_law_521 : decode code 521 = .ok (.lcmp, 1) := by decide +kernel
theorem dL_law_522 : decode code 522 = .ok (.ifCond .eq 5, 3) := by decide +kernel
theorem dL_law_525 : decode code 525 = .ok (.iconst 0, 1) := by decide +kernel
theorem dL_law_526 : decode code 526 = .ok (.ireturn, 1) := by decide +kernel
theorem dL_law_527 : decode code 527 = .ok (.goto 355, 3) := by decide +kernel
theorem dL_law_530 : decode code 530 = .ok (.aload_n 1, 1) := by decide +kernel
theorem dL_law_531 : decode code 531 = .ok (.aload_n 0, 1) := by decide +kernel
theorem dL_law_532 : decode code 532 = .ok (.iload 4, 2) := by decide +kernel
theorem dL_law_534 : decode code 534 = .ok (.iconst 1, 1) := by decide +kernel
theorem dL_law_535 : decode code 535 = .ok (.iadd, 1) := by decide +kernel
theorem dL_law_536 : decode code 536 = .ok (.iaload, 1) := by decide +kernel
theorem dL_law_537 : decode code 537 = .ok (.aload_n 0, 1) := by decide +kernel
theorem dL_law_538 : decode code 538 = .ok (.iload 4, 2) := by decide +kernel
theorem dL_law_540 : decode code 540 = .ok (.iconst 2, 1) := by decide +kernel
theorem dL_law_541 : decode code 541 = .ok (.iadd, 1) := by decide +kernel
theorem dL_law_542 : decode code 542 = .ok (.iaload, 1) := by decide +kernel
theorem dL_law_543 : decode code 543 = .ok (.aload_n 0, 1) := by decide +kernel
theorem dL_law_544 : decode code 544 = .ok (.iload 4, 2) := by decide +kernel
theorem dL_law_546 : decode code 546 = .ok (.iconst 3, 1) := by decide +kernel
theorem dL_law_547 : decode code 547 = .ok (.iadd, 1) := by decide +kernel
theorem dL_law_548 : decode code 548 = .ok (.iaload, 1) := by decide +kernel
theorem dL_law_549 : decode code 549 = .ok (.aload_n 3, 1) := by decide +kernel
theorem dL_law_550 : decode code 550 = .ok (.invokestatic 83, 3) := by decide +kernel
theorem dL_law_553 : decode code 553 = .ok (.istore 5, 2) := by decide +kernel
theorem dL_law_555 : decode code 555 = .ok (.aload_n 2, 1) := by decide +kernel
theorem dL_law_556 : decode code 556 = .ok (.aload_n 0, 1) := by decide +kernel
theorem dL_law_557 : decode code 557 = .ok (.iload 4, 2) := by decide +kernel
theorem dL_law_559 : decode code 559 = .ok (.iconst 1, 1) := by decide +kernel
theorem dL_law_560 : decode code 560 = .ok (.iadd, 1) := by decide +kernel
theorem dL_law_561 : decode code 561 = .ok (.iaload, 1) := by decide +kernel
theorem dL_law_562 : decode code 562 = .ok (.aload_n 0, 1) := by decide +kernel
theorem dL_law_563 : decode code 563 = .ok (.iload 4, 2) := by decide +kernel
theorem dL_law_565 : decode code 565 = .ok (.iconst 2, 1) := by decide +kernel
theorem dL_law_566 : decode code 566 = .ok (.iadd, 1) := by decide +kernel
theorem dL_law_567 : decode code 567 = .ok (.iaload, 1) := by decide +kernel
theorem dL_law_568 : decode code 568 = .ok (.aload_n 0, 1) := by decide +kernel
theorem dL_law_569 : decode code 569 = .ok (.iload 4, 2) := by decide +kernel
theorem dL_law_571 : decode code 571 = .ok (.iconst 3, 1) := by decide +kernel
theorem dL_law_572 : decode code 572 = .ok (.iadd, 1) := by decide +kernel
theorem dL_law_573 : decode code 573 = .ok (.iaload, 1) := by decide +kernel
theorem dL_law_574 : decode code 574 = .ok (.invokevirtual 85, 3) := by decide +kernel
theorem dL_law_577 : decode code 577 = .ok (.istore 6, 2) := by decide +kernel
theorem dL_law_579 : decode code 579 = .ok (.aload_n 2, 1) := by decide +kernel
theorem dL_law_580 : decode code 580 = .ok (.invokevirtual 61, 3) := by decide +kernel
theorem dL_law_583 : decode code 583 = .ok (.iload 5, 2) := by decide +kernel
theorem dL_law_585 : decode code 585 = .ok (.if_icmp .eq 5, 3) := by decide +kernel
theorem dL_law_588 : decode code 588 = .ok (.iconst 0, 1) := by decide +kernel
theorem dL_law_589 : decode code 589 = .ok (.ireturn, 1) := by decide +kernel
theorem dL_law_590 : decode code 590 = .ok (.iload 5, 2) := by decide +kernel
theorem dL_law_592 : decode code 592 = .ok (.ifCond .ne 15, 3) := by decide +kernel
theorem dL_law_595 : decode code 595 = .ok (.aload_n 3, 1) := by decide +kernel
theorem dL_law_596 : decode code 596 = .ok (.iconst 0, 1) := by decide +kernel
theorem dL_law_597 : decode code 597 = .ok (.laload, 1) := by decide +kernel
theorem dL_law_598 : decode code 598 = .ok (.iload 6, 2) := by decide +kernel
theorem dL_law_600 : decode code 600 = .ok (.i2l, 1) := by decide +kernel
theorem dL_law_601 : decode code 601 = .ok (.lcmp, 1) := by decide +kernel
theorem dL_law_602 : decode code 602 = .ok (.ifCond .eq 5, 3) := by decide +kernel
theorem dL_law_605 : decode code 605 = .ok (.iconst 0, 1) := by decide +kernel
theorem dL_law_606 : decode code 606 = .ok (.ireturn, 1) := by decide +kernel
theorem dL_law_607 : decode code 607 = .ok (.goto 275, 3) := by decide +kernel
theorem dL_law_610 : decode code 610 = .ok (.aload_n 1, 1) := by decide +kernel
theorem dL_law_611 : decode code 611 = .ok (.aload_n 0, 1) := by decide +kernel
theorem dL_law_612 : decode code 612 = .ok (.iload 4, 2) := by decide +kernel
theorem dL_law_614 : decode code 614 = .ok (.iconst 1, 1) := by decide +kernel
theorem dL_law_615 : decode code 615 = .ok (.iadd, 1) := by decide +kernel
theorem dL_law_616 : decode code 616 = .ok (.iaload, 1) := by decide +kernel
theorem dL_law_617 : decode code 617 = .ok (.aload_n 0, 1) := by decide +kernel
theorem dL_law_618 : decode code 618 = .ok (.iload 4, 2) := by decide +kernel
theorem dL_law_620 : decode code 620 = .ok (.iconst 2, 1) := by decide +kernel
theorem dL_law_621 : decode code 621 = .ok (.iadd, 1) := by decide +kernel
theorem dL_law_622 : decode code 622 = .ok (.iaload, 1) := by decide +kernel
theorem dL_law_623 : decode code 623 = .ok (.aload_n 0, 1) := by decide +kernel
theorem dL_law_624 : decode code 624 = .ok (.iload 4, 2) := by decide +kernel
theorem dL_law_626 : decode code 626 = .ok (.iconst 3, 1) := by decide +kernel
theorem dL_law_627 : decode code 627 = .ok (.iadd, 1) := by decide +kernel
theorem dL_law_628 : decode code 628 = .ok (.iaload, 1) := by decide +kernel
theorem dL_law_629 : decode code 629 = .ok (.aload_n 0, 1) := by decide +kernel
theorem dL_law_630 : decode code 630 = .ok (.iload 4, 2) := by decide +kernel
theorem dL_law_632 : decode code 632 = .ok (.iconst 4, 1) := by decide +kernel
theorem dL_law_633 : decode code 633 = .ok (.iadd, 1) := by decide +kernel
theorem dL_law_634 : decode code 634 = .ok (.iaload, 1) := by decide +kernel
theorem dL_law_635 : decode code 635 = .ok (.aload_n 3, 1) := by decide +kernel
theorem dL_law_636 : decode code 636 = .ok (.invokestatic 86, 3) := by decide +kernel
theorem dL_law_639 : decode code 639 = .ok (.istore 5, 2) := by decide +kernel
theorem dL_law_641 : decode code 641 = .ok (.aload_n 2, 1) := by decide +kernel
theorem dL_law_642 : decode code 642 = .ok (.aload_n 0, 1) := by decide +kernel
theorem dL_law_643 : decode code 643 = .ok (.iload 4, 2) := by decide +kernel
theorem dL_law_645 : decode code 645 = .ok (.iconst 1, 1) := by decide +kernel
theorem dL_law_646 : decode code 646 = .ok (.iadd, 1) := by decide +kernel
theorem dL_law_647 : decode code 647 = .ok (.iaload, 1) := by decide +kernel
theorem dL_law_648 : decode code 648 = .ok (.aload_n 0, 1) := by decide +kernel
theorem dL_law_649 : decode code 649 = .ok (.iload 4, 2) := by decide +kernel
theorem dL_law_651 : decode code 651 = .ok (.iconst 2, 1) := by decide +kernel
theorem dL_law_652 : decode code 652 = .ok (.iadd, 1) := by decide +kernel
theorem dL_law_653 : decode code 653 = .ok (.iaload, 1) := by decide +kernel
theorem dL_law_654 : decode code 654 = .ok (.aload_n 0, 1) := by decide +kernel
theorem dL_law_655 : decode code 655 = .ok (.iload 4, 2) := by decide +kernel
theorem dL_law_657 : decode code 657 = .ok (.iconst 3, 1) := by decide +kernel
theorem dL_law_658 : decode code 658 = .ok (.iadd, 1) := by decide +kernel
theorem dL_law_659 : decode code 659 = .ok (.iaload, 1) := by decide +kernel
theorem dL_law_660 : decode code 660 = .ok (.aload_n 0, 1) := by decide +kernel
theorem dL_law_661 : decode code 661 = .ok (.iload 4, 2) := by decide +kernel
theorem dL_law_663 : decode code 663 = .ok (.iconst 4, 1) := by decide +kernel
theorem dL_law_664 : decode code 664 = .ok (.iadd, 1) := by decide +kernel
theorem dL_law_665 : decode code 665 = .ok (.iaload, 1) := by decide +kernel
theorem dL_law_666 : decode code 666 = .ok (.invokevirtual 89, 3) := by decide +kernel
theorem dL_law_669 : decode code 669 = .ok (.istore 6, 2) := by decide +kernel
theorem dL_law_671 : decode code 671 = .ok (.aload_n 2, 1) := by decide +kernel
theorem dL_law_672 : decode code 672 = .ok (.invokevirtual 61, 3) := by decide +kernel
theorem dL_law_675 : decode code 675 = .ok (.iload 5, 2) := by decide +kernel
theorem dL_law_677 : decode code 677 = .ok (.if_icmp .eq 5, 3) := by decide +kernel
theorem dL_law_680 : decode code 680 = .ok (.iconst 0, 1) := by decide +kernel
theorem dL_law_681 : decode code 681 = .ok (.ireturn, 1) := by decide +kernel
theorem dL_law_682 : decode code 682 = .ok (.iload 5, 2) := by decide +kernel
theorem dL_law_684 : decode code 684 = .ok (.ifCond .ne 15, 3) := by decide +kernel
theorem dL_law_687 : decode code 687 = .ok (.aload_n 3, 1) := by decide +kernel
theorem dL_law_688 : decode code 688 = .ok (.iconst 0, 1) := by decide +kernel
theorem dL_law_689 : decode code 689 = .ok (.laload, 1) := by decide +kernel
theorem dL_law_690 : decode code 690 = .ok (.iload 6, 2) := by decide +kernel
theorem dL_law_692 : decode code 692 = .ok (.i2l, 1) := by decide +kernel
theorem dL_law_693 : decode code 693 = .ok (.lcmp, 1) := by decide +kernel
theorem dL_law_694 : decode code 694 = .ok (.ifCond .eq 5, 3) := by decide +kernel
theorem dL_law_697 : decode code 697 = .ok (.iconst 0, 1) := by decide +kernel
theorem dL_law_698 : decode code 698 = .ok (.ireturn, 1) := by decide +kernel
theorem dL_law_699 : decode code 699 = .ok (.goto 183, 3) := by decide +kernel
theorem dL_law_702 : decode code 702 = .ok (.aload_n 1, 1) := by decide +kernel
theorem dL_law_703 : decode code 703 = .ok (.aload_n 0, 1) := by decide +kernel
theorem dL_law_704 : decode code 704 = .ok (.iload 4, 2) := by decide +kernel
theorem dL_law_706 : decode code 706 = .ok (.iconst 1, 1) := by decide +kernel
theorem dL_law_707 : decode code 707 = .ok (.iadd, 1) := by decide +kernel
theorem dL_law_708 : decode code 708 = .ok (.iaload, 1) := by decide +kernel
theorem dL_law_709 : decode code 709 = .ok (.aload_n 0, 1) := by decide +kernel
theorem dL_law_710 : decode code 710 = .ok (.iload 4, 2) := by decide +kernel
theorem dL_law_712 : decode code 712 = .ok (.iconst 2, 1) := by decide +kernel
theorem dL_law_713 : decode code 713 = .ok (.iadd, 1) := by decide +kernel
theorem dL_law_714 : decode code 714 = .ok (.iaload, 1) := by decide +kernel
theorem dL_law_715 : decode code 715 = .ok (.aload_n 3, 1) := by decide +kernel
theorem dL_law_716 : decode code 716 = .ok (.invokestatic 90, 3) := by decide +kernel
theorem dL_law_719 : decode code 719 = .ok (.istore 5, 2) := by decide +kernel
theorem dL_law_721 : decode code 721 = .ok (.aload_n 2, 1) := by decide +kernel
theorem dL_law_722 : decode code 722 = .ok (.aload_n 0, 1) := by decide +kernel
theorem dL_law_723 : decode code 723 = .ok (.iload 4, 2) := by decide +kernel
theorem dL_law_725 : decode code 725 = .ok (.iconst 1, 1) := by decide +kernel
theorem dL_law_726 : decode code 726 = .ok (.iadd, 1) := by decide +kernel
theorem dL_law_727 : decode code 727 = .ok (.iaload, 1) := by decide +kernel
theorem dL_law_728 : decode code 728 = .ok (.aload_n 0, 1) := by decide +kernel
theorem dL_law_729 : decode code 729 = .ok (.iload 4, 2) := by decide +kernel
theorem dL_law_731 : decode code 731 = .ok (.iconst 2, 1) := by decide +kernel
theorem dL_law_732 : decode code 732 = .ok (.iadd, 1) := by decide +kernel
theorem dL_law_733 : decode code 733 = .ok (.iaload, 1) := by decide +kernel
theorem dL_law_734 : decode code 734 = .ok (.invokevirtual 93, 3) := by decide +kernel
theorem dL_law_737 : decode code 737 = .ok (.istore 6, 2) := by decide +kernel
theorem dL_law_739 : decode code 739 = .ok (.aload_n 2, 1) := by decide +kernel
theorem dL_law_740 : decode code 740 = .ok (.invokevirtual 61, 3) := by decide +kernel
theorem dL_law_743 : decode code 743 = .ok (.iload 5, 2) := by decide +kernel
theorem dL_law_745 : decode code 745 = .ok (.if_icmp .eq 5, 3) := by decide +kernel
theorem dL_law_748 : decode code 748 = .ok (.iconst 0, 1) := by decide +kernel
theorem dL_law_749 : decode code 749 = .ok (.ireturn, 1) := by decide +kernel
theorem dL_law_750 : decode code 750 = .ok (.iload 5, 2) := by decide +kernel
theorem dL_law_752 : decode code 752 = .ok (.ifCond .ne 22, 3) := by decide +kernel
theorem dL_law_755 : decode code 755 = .ok (.aload_n 3, 1) := by decide +kernel
theorem dL_law_756 : decode code 756 = .ok (.iconst 0, 1) := by decide +kernel
theorem dL_law_757 : decode code 757 = .ok (.laload, 1) := by decide +kernel
theorem dL_law_758 : decode code 758 = .ok (.iload 6, 2) := by decide +kernel
theorem dL_law_760 : decode code 760 = .ok (.ifCond .eq 7, 3) := by decide +kernel
theorem dL_law_763 : decode code 763 = .ok (.lconst 1, 1) := by decide +kernel
theorem dL_law_764 : decode code 764 = .ok (.goto 4, 3) := by decide +kernel
theorem dL_law_767 : decode code 767 = .ok (.lconst 0, 1) := by decide +kernel
theorem dL_law_768 : decode code 768 = .ok (.lcmp, 1) := by decide +kernel
theorem dL_law_769 : decode code 769 = .ok (.ifCond .eq 5, 3) := by decide +kernel
theorem dL_law_772 : decode code 772 = .ok (.iconst 0, 1) := by decide +kernel
theorem dL_law_773 : decode code 773 = .ok (.ireturn, 1) := by decide +kernel
theorem dL_law_774 : decode code 774 = .ok (.goto 108, 3) := by decide +kernel
theorem dL_law_777 : decode code 777 = .ok (.aload_n 1, 1) := by decide +kernel
theorem dL_law_778 : decode code 778 = .ok (.aload_n 0, 1) := by decide +kernel
theorem dL_law_779 : decode code 779 = .ok (.iload 4, 2) := by decide +kernel
theorem dL_law_781 : decode code 781 = .ok (.iconst 1, 1) := by decide +kernel
theorem dL_law_782 : decode code 782 = .ok (.iadd, 1) := by decide +kernel
theorem dL_law_783 : decode code 783 = .ok (.iaload, 1) := by decide +kernel
theorem dL_law_784 : decode code 784 = .ok (.aload_n 0, 1) := by decide +kernel
theorem dL_law_785 : decode code 785 = .ok (.iload 4, 2) := by decide +kernel
theorem dL_law_787 : decode code 787 = .ok (.iconst 2, 1) := by decide +kernel
theorem dL_law_788 : decode code 788 = .ok (.iadd, 1) := by decide +kernel
theorem dL_law_789 : decode code 789 = .ok (.iaload, 1) := by decide +kernel
theorem dL_law_790 : decode code 790 = .ok (.aload_n 3, 1) := by decide +kernel
theorem dL_law_791 : decode code 791 = .ok (.invokestatic 94, 3) := by decide +kernel
theorem dL_law_794 : decode code 794 = .ok (.istore 5, 2) := by decide +kernel
theorem dL_law_796 : decode code 796 = .ok (.aload_n 2, 1) := by decide +kernel
theorem dL_law_797 : decode code 797 = .ok (.aload_n 0, 1) := by decide +kernel
theorem dL_law_798 : decode code 798 = .ok (.iload 4, 2) := by decide +kernel
theorem dL_law_800 : decode code 800 = .ok (.iconst 1, 1) := by decide +kernel
theorem dL_law_801 : decode code 801 = .ok (.iadd, 1) := by decide +kernel
theorem dL_law_802 : decode code 802 = .ok (.iaload, 1) := by decide +kernel
theorem dL_law_803 : decode code 803 = .ok (.aload_n 0, 1) := by decide +kernel
theorem dL_law_804 : decode code 804 = .ok (.iload 4, 2) := by decide +kernel
theorem dL_law_806 : decode code 806 = .ok (.iconst 2, 1) := by decide +kernel
theorem dL_law_807 : decode code 807 = .ok (.iadd, 1) := by decide +kernel
theorem dL_law_808 : decode code 808 = .ok (.iaload, 1) := by decide +kernel
theorem dL_law_809 : decode code 809 = .ok (.invokevirtual 96, 3) := by decide +kernel
theorem dL_law_812 : decode code 812 = .ok (.istore 6, 2) := by decide +kernel
theorem dL_law_814 : decode code 814 = .ok (.aload_n 2, 1) := by decide +kernel
theorem dL_law_815 : decode code 815 = .ok (.invokevirtual 61, 3) := by decide +kernel
theorem dL_law_818 : decode code 818 = .ok (.iload 5, 2) := by decide +kernel
theorem dL_law_820 : decode code 820 = .ok (.if_icmp .eq 5, 3) := by decide +kernel
theorem dL_law_823 : decode code 823 = .ok (.iconst 0, 1) := by decide +kernel
theorem dL_law_824 : decode code 824 = .ok (.ireturn, 1) := by decide +kernel
theorem dL_law_825 : decode code 825 = .ok (.iload 5, 2) := by decide +kernel
theorem dL_law_827 : decode code 827 = .ok (.ifCond .ne 15, 3) := by decide +kernel
theorem dL_law_830 : decode code 830 = .ok (.aload_n 3, 1) := by decide +kernel
theorem dL_law_831 : decode code 831 = .ok (.iconst 0, 1) := by decide +kernel
theorem dL_law_832 : decode code 832 = .ok (.laload, 1) := by decide +kernel
theorem dL_law_833 : decode code 833 = .ok (.iload 6, 2) := by decide +kernel
theorem dL_law_835 : decode code 835 = .ok (.i2l, 1) := by decide +kernel
theorem dL_law_836 : decode code 836 = .ok (.lcmp, 1) := by decide +kernel
theorem dL_law_837 : decode code 837 = .ok (.ifCond .eq 5, 3) := by decide +kernel
theorem dL_law_840 : decode code 840 = .ok (.iconst 0, 1) := by decide +kernel
theorem dL_law_841 : decode code 841 = .ok (.ireturn, 1) := by decide +kernel
theorem dL_law_842 : decode code 842 = .ok (.goto 40, 3) := by decide +kernel
theorem dL_law_845 : decode code 845 = .ok (.aload_n 1, 1) := by decide +kernel
theorem dL_law_846 : decode code 846 = .ok (.aload_n 0, 1) := by decide +kernel
theorem dL_law_847 : decode code 847 = .ok (.iload 4, 2) := by decide +kernel
theorem dL_law_849 : decode code 849 = .ok (.iconst 1, 1) := by decide +kernel
theorem dL_law_850 : decode code 850 = .ok (.iadd, 1) := by decide +kernel
theorem dL_law_851 : decode code 851 = .ok (.iaload, 1) := by decide +kernel
theorem dL_law_852 : decode code 852 = .ok (.aload_n 0, 1) := by decide +kernel
theorem dL_law_853 : decode code 853 = .ok (.iload 4, 2) := by decide +kernel
theorem dL_law_855 : decode code 855 = .ok (.iconst 2, 1) := by decide +kernel
theorem dL_law_856 : decode code 856 = .ok (.iadd, 1) := by decide +kernel
theorem dL_law_857 : decode code 857 = .ok (.iaload, 1) := by decide +kernel
theorem dL_law_858 : decode code 858 = .ok (.invokevirtual 97, 3) := by decide +kernel
theorem dL_law_861 : decode code 861 = .ok (.aload_n 2, 1) := by decide +kernel
theorem dL_law_862 : decode code 862 = .ok (.aload_n 0, 1) := by decide +kernel
theorem dL_law_863 : decode code 863 = .ok (.iload 4, 2) := by decide +kernel
theorem dL_law_865 : decode code 865 = .ok (.iconst 1, 1) := by decide +kernel
theorem dL_law_866 : decode code 866 = .ok (.iadd, 1) := by decide +kernel
theorem dL_law_867 : decode code 867 = .ok (.iaload, 1) := by decide +kernel
theorem dL_law_868 : decode code 868 = .ok (.aload_n 0, 1) := by decide +kernel
theorem dL_law_869 : decode code 869 = .ok (.iload 4, 2) := by decide +kernel
theorem dL_law_871 : decode code 871 = .ok (.iconst 2, 1) := by decide +kernel
theorem dL_law_872 : decode code 872 = .ok (.iadd, 1) := by decide +kernel
theorem dL_law_873 : decode code 873 = .ok (.iaload, 1) := by decide +kernel
theorem dL_law_874 : decode code 874 = .ok (.invokevirtual 100, 3) := by decide +kernel
theorem dL_law_877 : decode code 877 = .ok (.if_icmp .eq 5, 3) := by decide +kernel
theorem dL_law_880 : decode code 880 = .ok (.iconst 0, 1) := by decide +kernel
theorem dL_law_881 : decode code 881 = .ok (.ireturn, 1) := by decide +kernel
theorem dL_law_882 : decode code 882 = .ok (.iinc 4 5, 3) := by decide +kernel
theorem dL_law_885 : decode code 885 = .ok (.goto (-862), 3) := by decide +kernel
theorem dL_law_888 : decode code 888 = .ok (.iconst 1, 1) := by decide +kernel
theorem dL_law_889 : decode code 889 = .ok (.ireturn, 1) := by decide +kernel
end
section
/-! Contracts of GrantMath: the methods that only read. Laid by program (wip/whole/gen_x1.py). -/
abbrev xW (cI cZ : ClassId) (q : Nat → Nat) (A B T P Y : Nat → Int32) (G : Nat → Bool) : va_W := [(q 0, .inr (0, [.ref (q 1), .ref (q 2), .ref (q 3), .ref (q 4), .ref (q 5), .ref (q 6)])), (q 1, .inl (cI, 16, .inl A)), (q 2, .inl (cI, 16, .inl B)), (q 3, .inl (cI, 16, .inl T)), (q 4, .inl (cI, 16, .inl P)), (q 5, .inl (cI, 16, .inl Y)), (q 6, .inl (cZ, 16, .inl (fun k => bi (G k))))]
abbrev mW (cJ cI cZ : ClassId) (q : Nat → Nat) (e : Int32) (A B T P Y : Nat → Int32) (G : Nat → Bool) : va_W := [(q 0, .inr (1, [.int e, .ref (q 1), .ref (q 2), .ref (q 3), .ref (q 4), .ref (q 5), .ref (q 6)])), (q 1, .inl (cJ, 16, .inr (.inl (fun k => uw (A k))))), (q 2, .inl (cJ, 16, .inr (.inl (fun k => uw (B k))))), (q 3, .inl (cJ, 16, .inr (.inl (fun k => uw (T k))))), (q 4, .inl (cI, 16, .inl P)), (q 5, .inl (cI, 16, .inl Y)), (q 6, .inl (cZ, 16, .inl (fun k => bi (G k))))]
abbrev tsX (cI cZ : ClassId) : List (ClassId × FieldType) := [(cI, .int), (cZ, .boolean)]
abbrev tsM (cJ cI cZ : ClassId) : List (ClassId × FieldType) := [(cJ, .long), (cI, .int), (cZ, .boolean)]
abbrev rmk (k c n : Nat) : Room := { frames := k, cells := c, slots := n, locals := 30 * k }
theorem ub_s {g : Nat → Bool} {k : Nat} {b : Bool} : ub g k b k = b := by unfold ub; rw [if_pos rfl]
theorem uu_upd (f : Nat → Int32) (k : Nat) (v w : Int32) : upd (upd f k v) k w = upd f k w := by
  funext j
  unfold upd
  by_cases h : j = k <;> simp [h]
theorem uu_ub (f : Nat → Bool) (k : Nat) (v w : Bool) : ub (ub f k v) k w = ub f k w := by
  funext j
  unfold ub
  by_cases h : j = k <;> simp [h]
set_option maxRecDepth 100000 in
set_option maxHeartbeats 4000000 in
theorem mX_unsigned (l : Launch) (v : Int32) : Met l yX_unsigned (Cond.code yX_unsigned cX_unsigned 1 (some .long) :: gw) (rmk 0 0 0) (va_Pc [.int (v)] (fun _ => True)) (k2_QcV (.long (uw (v)))) 0 0 (fun _ => False) := by
  refine Met.ofW (cc := cX_unsigned) (maxL := 1) (ret := (some .long)) (by decide) rfl ?_
  intro p e s m args below meth c s₁ B9 hml hv
  obtain ⟨rfl, -⟩ := hv
  have hx := B9.exec
  have hb := B9.bytes
  have hr := B9.returns
  have hts := fun (w : Cond) (h : w ∈ gw) => atoms_spec (ws := _ :: gw) B9.pre w (List.mem_cons_of_mem _ h)
  have hown : s.vm.findClass RX = some m.cls := findClass_of_methodNamed B9.named
  have hlocks := B9.notSynchronized
  have hl := lv_entry ([.int (v)]) (n := 1) (Nat.le_of_ble_eq_true rfl)
  rw [lg_entry_eq]
  generalize (lg_sl ([.int (v)]) ++ List.replicate (1 - (lg_sl ([.int (v)])).length) Slot.unset).toArray = ls at hl ⊢
  have hl : lv_has ls 1 [(0, .int (v))] := hl
  refine lv_iload_n hx hb dX_unsigned_0 rfl (lv_at hl 0 rfl) ?_
  refine lv_i2l (v := (v).toInt64) hx hb dX_unsigned_1 rfl ?_
  refine lv_ldc2 (v := 4294967295) hx hb hown (hts _ w_73) dX_unsigned_2 ?_
  refine lv_land hx hb dX_unsigned_5 ?_
  refine W.eq (g2 := F0 m 6 ls [.long (uw (v))]) (by rw [← uw_and v]) ?_
  exact W.lret hx hb hr (fun t9 ht hW => ⟨rfl, ht⟩) (fun z hz => nomatch hz) dX_unsigned_6

set_option maxRecDepth 100000 in
set_option maxHeartbeats 4000000 in
theorem mX_isSealed (l : Launch) (D : va_G) (cI cZ : ClassId) (q : Nat → Nat) (A B T P Y : Nat → Int32) (G : Nat → Bool) (g : Int32) (hg : vp_in g 16) : Met l yX_isSealed (Cond.code yX_isSealed cX_isSealed 2 (some .boolean) :: gw) (rmk 0 0 0) (va_Pc [.ref (q 0), .int (g)] (rB D vwCl (xW cI cZ q A B T P Y G) (tsX cI cZ))) (k2_QcV (.int (bi (decide (¬ Y g.toNatClampNeg = 0))))) 0 0 (fun _ => False) := by
  refine Met.ofW (cc := cX_isSealed) (maxL := 2) (ret := (some .boolean)) (by decide) rfl ?_
  intro p e s m args below meth c s₁ B9 hml hv
  obtain ⟨rfl, hP, hK⟩ := hv
  have hx := B9.exec
  have hb := B9.bytes
  have hr := B9.returns
  have hts := fun (w : Cond) (h : w ∈ gw) => atoms_spec (ws := _ :: gw) B9.pre w (List.mem_cons_of_mem _ h)
  have hown : s.vm.findClass RX = some m.cls := findClass_of_methodNamed B9.named
  have hlocks := B9.notSynchronized
  have hl := lv_entry ([.ref (q 0), .int (g)]) (n := 2) (Nat.le_of_ble_eq_true rfl)
  rw [lg_entry_eq]
  generalize (lg_sl ([.ref (q 0), .int (g)]) ++ List.replicate (2 - (lg_sl ([.ref (q 0), .int (g)])).length) Slot.unset).toArray = ls at hl ⊢
  have hl : lv_has ls 2 [(0, .ref (q 0)), (1, .int (g))] := hl
  refine lv_aload_n hx hb dX_isSealed_0 rfl (lv_at hl 0 rfl) ?_
  refine va_get (D := D) (ci := 0) (v := .ref (q 5)) (C := RX) (T := TX) (N := 6) hx hb hts inX hown hK hP 0 rfl rfl 4 (by decide) (hts _ w_33) (fun _ h9 => h9) rfl dX_isSealed_1 ?_
  refine lv_iload_n hx hb dX_isSealed_4 rfl (lv_at hl 1 rfl) ?_
  refine va_iald hx hb hK hP 5 0 rfl rfl hg dX_isSealed_5 ?_
  refine lv_if_eq (tgt := 13) hx hb dX_isSealed_6 (by decide) (fun h_1 => ?_) (fun h_1 => ?_)
  · 
    refine lv_iconst (v := 0) hx hb dX_isSealed_13 (by decide) ?_
    have e9 : (decide (¬ Y g.toNatClampNeg = 0)) = false := by simp [h_1]
    refine W.eq (g2 := F0 m 14 ls [.int (bi (decide (¬ Y g.toNatClampNeg = 0)))]) (by rw [e9]; rfl) ?_
    exact W.zret (v := bi (decide (¬ Y g.toNatClampNeg = 0))) hx hb hr (bi_nar _) (fun t9 ht hW => ⟨rfl, ht⟩) (fun z hz => nomatch hz) dX_isSealed_14
  · 
    refine lv_iconst (v := 1) hx hb dX_isSealed_9 (by decide) ?_
    refine lv_goto (tgt := 14) hx hb dX_isSealed_10 (by decide) ?_
    have e9 : (decide (¬ Y g.toNatClampNeg = 0)) = true := by simp [h_1]
    refine W.eq (g2 := F0 m 14 ls [.int (bi (decide (¬ Y g.toNatClampNeg = 0)))]) (by rw [e9]; rfl) ?_
    exact W.zret (v := bi (decide (¬ Y g.toNatClampNeg = 0))) hx hb hr (bi_nar _) (fun t9 ht hW => ⟨rfl, ht⟩) (fun z hz => nomatch hz) dX_isSealed_14

set_option maxRecDepth 100000 in
set_option maxHeartbeats 4000000 in
theorem mX_hasPermissions (l : Launch) (D : va_G) (cI cZ : ClassId) (q : Nat → Nat) (A B T P Y : Nat → Int32) (G : Nat → Bool) (g u : Int32) (hg : vp_in g 16) : Met l yX_hasPermissions (Cond.code yX_hasPermissions cX_hasPermissions 3 (some .boolean) :: gw) (rmk 0 0 0) (va_Pc [.ref (q 0), .int (g), .int (u)] (rB D vwCl (xW cI cZ q A B T P Y G) (tsX cI cZ))) (k2_QcV (.int (bi (ga_pm u (P g.toNatClampNeg))))) 0 0 (fun _ => False) := by
  refine Met.ofW (cc := cX_hasPermissions) (maxL := 3) (ret := (some .boolean)) (by decide) rfl ?_
  intro p e s m args below meth c s₁ B9 hml hv
  obtain ⟨rfl, hP, hK⟩ := hv
  have hx := B9.exec
  have hb := B9.bytes
  have hr := B9.returns
  have hts := fun (w : Cond) (h : w ∈ gw) => atoms_spec (ws := _ :: gw) B9.pre w (List.mem_cons_of_mem _ h)
  have hown : s.vm.findClass RX = some m.cls := findClass_of_methodNamed B9.named
  have hlocks := B9.notSynchronized
  have hl := lv_entry ([.ref (q 0), .int (g), .int (u)]) (n := 3) (Nat.le_of_ble_eq_true rfl)
  rw [lg_entry_eq]
  generalize (lg_sl ([.ref (q 0), .int (g), .int (u)]) ++ List.replicate (3 - (lg_sl ([.ref (q 0), .int (g), .int (u)])).length) Slot.unset).toArray = ls at hl ⊢
  have hl : lv_has ls 3 [(0, .ref (q 0)), (1, .int (g)), (2, .int (u))] := hl
  refine lv_iload_n hx hb dX_hasPermissions_0 rfl (lv_at hl 2 rfl) ?_
  refine lv_aload_n hx hb dX_hasPermissions_1 rfl (lv_at hl 0 rfl) ?_
  refine va_get (D := D) (ci := 0) (v := .ref (q 4)) (C := RX) (T := TX) (N := 6) hx hb hts inX hown hK hP 0 rfl rfl 3 (by decide) (hts _ w_32) (fun _ h9 => h9) rfl dX_hasPermissions_2 ?_
  refine lv_iload_n hx hb dX_hasPermissions_5 rfl (lv_at hl 1 rfl) ?_
  refine va_iald hx hb hK hP 4 0 rfl rfl hg dX_hasPermissions_6 ?_
  refine lv_iconst (v := -1) hx hb dX_hasPermissions_7 (by decide) ?_
  refine lv_ixor hx hb dX_hasPermissions_8 ?_
  refine lv_iand hx hb dX_hasPermissions_9 ?_
  refine lv_if_ne (tgt := 17) hx hb dX_hasPermissions_10 (by decide) (fun h_1 => ?_) (fun h_1 => ?_)
  · 
    refine lv_iconst (v := 0) hx hb dX_hasPermissions_17 (by decide) ?_
    have e9 : (ga_pm u (P g.toNatClampNeg)) = false := by unfold ga_pm; exact decide_eq_false h_1
    refine W.eq (g2 := F0 m 18 ls [.int (bi (ga_pm u (P g.toNatClampNeg)))]) (by rw [e9]; rfl) ?_
    exact W.zret (v := bi (ga_pm u (P g.toNatClampNeg))) hx hb hr (bi_nar _) (fun t9 ht hW => ⟨rfl, ht⟩) (fun z hz => nomatch hz) dX_hasPermissions_18
  · 
    refine lv_iconst (v := 1) hx hb dX_hasPermissions_13 (by decide) ?_
    refine lv_goto (tgt := 18) hx hb dX_hasPermissions_14 (by decide) ?_
    have e9 : (ga_pm u (P g.toNatClampNeg)) = true := by unfold ga_pm; exact decide_eq_true h_1
    refine W.eq (g2 := F0 m 18 ls [.int (bi (ga_pm u (P g.toNatClampNeg)))]) (by rw [e9]; rfl) ?_
    exact W.zret (v := bi (ga_pm u (P g.toNatClampNeg))) hx hb hr (bi_nar _) (fun t9 ht hW => ⟨rfl, ht⟩) (fun z hz => nomatch hz) dX_hasPermissions_18

set_option maxRecDepth 100000 in
set_option maxHeartbeats 4000000 in
theorem mX_isInBounds (l : Launch) (D : va_G) (cI cZ : ClassId) (q : Nat → Nat) (A B T P Y : Nat → Int32) (G : Nat → Bool) (g a : Int32) (n : Nat) (hg : vp_in g 16) (hn : n < 1099511627776) : Met l yX_isInBounds (Cond.code yX_isInBounds cX_isInBounds 7 (some .boolean) :: gw) (rmk 1 0 0) (va_Pc [.ref (q 0), .int (g), .int (a), .long (lN n)] (rB D vwCl (xW cI cZ q A B T P Y G) (tsX cI cZ))) (k2_QcV (.int (bi (ga_in (B g.toNatClampNeg) (T g.toNatClampNeg) a n)))) 0 0 (fun _ => False) := by
  refine Met.ofW (cc := cX_isInBounds) (maxL := 7) (ret := (some .boolean)) (by decide) rfl ?_
  intro p e s m args below meth c s₁ B9 hml hv
  obtain ⟨rfl, hP, hK⟩ := hv
  have hx := B9.exec
  have hb := B9.bytes
  have hr := B9.returns
  have hts := fun (w : Cond) (h : w ∈ gw) => atoms_spec (ws := _ :: gw) B9.pre w (List.mem_cons_of_mem _ h)
  have hown : s.vm.findClass RX = some m.cls := findClass_of_methodNamed B9.named
  have hlocks := B9.notSynchronized
  have hl := lv_entry ([.ref (q 0), .int (g), .int (a), .long (lN n)]) (n := 7) (Nat.le_of_ble_eq_true rfl)
  rw [lg_entry_eq]
  generalize (lg_sl ([.ref (q 0), .int (g), .int (a), .long (lN n)]) ++ List.replicate (7 - (lg_sl ([.ref (q 0), .int (g), .int (a), .long (lN n)])).length) Slot.unset).toArray = ls at hl ⊢
  have hl : lv_has ls 7 [(0, .ref (q 0)), (1, .int (g)), (2, .int (a)), (3, .long (lN n))] := hl
  refine lv_iload_n hx hb dX_isInBounds_0 rfl (lv_at hl 2 rfl) ?_
  refine kr_S 1 (As := [.int (a)]) (rest := []) (r := .long (uw (a))) hx hb hml hown hts hl.1 (mX_unsigned l (a)) tt_stb trivial (gw_S w_70 w_71 w_14 w_72) (by decide) ⟨rfl, rfl⟩ ⟨Nat.le_of_ble_eq_true rfl, Nat.le_of_ble_eq_true rfl⟩ rfl rfl (Nat.le_of_ble_eq_true rfl) dX_isInBounds_1 ⟨Nat.zero_le _, Nat.zero_le _⟩ ?_
  refine lv_lstore hx hb dX_isInBounds_4 hl (by decide) rfl (fun ls hl => ?_)
  have hl : lv_has ls 7 [(5, .long (uw (a))), (0, .ref (q 0)), (1, .int (g)), (2, .int (a)), (3, .long (lN n))] := hl
  refine lv_lload hx hb dX_isInBounds_6 (lv_at hl 0 rfl) ?_
  refine lv_aload_n hx hb dX_isInBounds_8 rfl (lv_at hl 1 rfl) ?_
  refine va_get (D := D) (ci := 0) (v := .ref (q 2)) (C := RX) (T := TX) (N := 6) hx hb hts inX hown hK hP 0 rfl rfl 1 (by decide) (hts _ w_30) (fun _ h9 => h9) rfl dX_isInBounds_9 ?_
  refine lv_iload_n hx hb dX_isInBounds_12 rfl (lv_at hl 2 rfl) ?_
  refine va_iald hx hb hK hP 2 0 rfl rfl hg dX_isInBounds_13 ?_
  refine kr_S 1 (As := [.int (B g.toNatClampNeg)]) (rest := [.long (uw (a))]) (r := .long (uw (B g.toNatClampNeg))) hx hb hml hown hts hl.1 (mX_unsigned l (B g.toNatClampNeg)) tt_stb trivial (gw_S w_70 w_71 w_14 w_72) (by decide) ⟨rfl, rfl⟩ ⟨Nat.le_of_ble_eq_true rfl, Nat.le_of_ble_eq_true rfl⟩ rfl rfl (Nat.le_of_ble_eq_true rfl) dX_isInBounds_14 ⟨Nat.zero_le _, Nat.zero_le _⟩ ?_
  refine W.lcmp hx hb dX_isInBounds_17 ?_
  refine lv_if_lt (tgt := 42) hx hb dX_isInBounds_18 (by decide) (fun h_1 => ?_) (fun h_1 => ?_)
  · rw [lg_cmp_lt] at h_1
    refine lv_iconst (v := 0) hx hb dX_isInBounds_42 (by decide) ?_
    have e9 : (ga_in (B g.toNatClampNeg) (T g.toNatClampNeg) a n) = false := by unfold ga_in; rw [uw_lt] at h_1; simp; omega
    refine W.eq (g2 := F0 m 43 ls [.int (bi (ga_in (B g.toNatClampNeg) (T g.toNatClampNeg) a n))]) (by rw [e9]; rfl) ?_
    exact W.zret (v := bi (ga_in (B g.toNatClampNeg) (T g.toNatClampNeg) a n)) hx hb hr (bi_nar _) (fun t9 ht hW => ⟨rfl, ht⟩) (fun z hz => nomatch hz) dX_isInBounds_43
  · rw [lg_cmp_lt] at h_1
    refine lv_lload hx hb dX_isInBounds_21 (lv_at hl 0 rfl) ?_
    refine lv_lload_n hx hb dX_isInBounds_23 rfl (lv_at hl 4 rfl) ?_
    refine lv_ladd hx hb dX_isInBounds_24 ?_
    refine W.eq (g2 := F0 m 25 ls [.long (lN (un a + n))]) (by rw [show uw a = lN (un a) from rfl, lN_add]) ?_
    refine lv_aload_n hx hb dX_isInBounds_25 rfl (lv_at hl 1 rfl) ?_
    refine va_get (D := D) (ci := 0) (v := .ref (q 3)) (C := RX) (T := TX) (N := 6) hx hb hts inX hown hK hP 0 rfl rfl 2 (by decide) (hts _ w_31) (fun _ h9 => h9) rfl dX_isInBounds_26 ?_
    refine lv_iload_n hx hb dX_isInBounds_29 rfl (lv_at hl 2 rfl) ?_
    refine va_iald hx hb hK hP 3 0 rfl rfl hg dX_isInBounds_30 ?_
    refine kr_S 1 (As := [.int (T g.toNatClampNeg)]) (rest := [.long (lN (un a + n))]) (r := .long (uw (T g.toNatClampNeg))) hx hb hml hown hts hl.1 (mX_unsigned l (T g.toNatClampNeg)) tt_stb trivial (gw_S w_70 w_71 w_14 w_72) (by decide) ⟨rfl, rfl⟩ ⟨Nat.le_of_ble_eq_true rfl, Nat.le_of_ble_eq_true rfl⟩ rfl rfl (Nat.le_of_ble_eq_true rfl) dX_isInBounds_31 ⟨Nat.zero_le _, Nat.zero_le _⟩ ?_
    refine W.lcmp hx hb dX_isInBounds_34 ?_
    refine lv_if_gt (tgt := 42) hx hb dX_isInBounds_35 (by decide) (fun h_2 => ?_) (fun h_2 => ?_)
    · rw [lg_cmp_gt] at h_2
      refine lv_iconst (v := 0) hx hb dX_isInBounds_42 (by decide) ?_
      have e9 : (ga_in (B g.toNatClampNeg) (T g.toNatClampNeg) a n) = false := by unfold ga_in; rw [show uw (T g.toNatClampNeg) = lN (un (T g.toNatClampNeg)) from rfl, pk_lLT (Nat.lt_trans (un_lt _) (by decide)) (by have := un_lt a; omega)] at h_2; simp; omega
      refine W.eq (g2 := F0 m 43 ls [.int (bi (ga_in (B g.toNatClampNeg) (T g.toNatClampNeg) a n))]) (by rw [e9]; rfl) ?_
      exact W.zret (v := bi (ga_in (B g.toNatClampNeg) (T g.toNatClampNeg) a n)) hx hb hr (bi_nar _) (fun t9 ht hW => ⟨rfl, ht⟩) (fun z hz => nomatch hz) dX_isInBounds_43
    · rw [lg_cmp_gt] at h_2
      refine lv_iconst (v := 1) hx hb dX_isInBounds_38 (by decide) ?_
      refine lv_goto (tgt := 43) hx hb dX_isInBounds_39 (by decide) ?_
      have e9 : (ga_in (B g.toNatClampNeg) (T g.toNatClampNeg) a n) = true := by unfold ga_in; rw [uw_lt] at h_1; rw [show uw (T g.toNatClampNeg) = lN (un (T g.toNatClampNeg)) from rfl, pk_lLT (Nat.lt_trans (un_lt _) (by decide)) (by have := un_lt a; omega)] at h_2; simp; omega
      refine W.eq (g2 := F0 m 43 ls [.int (bi (ga_in (B g.toNatClampNeg) (T g.toNatClampNeg) a n))]) (by rw [e9]; rfl) ?_
      exact W.zret (v := bi (ga_in (B g.toNatClampNeg) (T g.toNatClampNeg) a n)) hx hb hr (bi_nar _) (fun t9 ht hW => ⟨rfl, ht⟩) (fun z hz => nomatch hz) dX_isInBounds_43

set_option maxRecDepth 100000 in
set_option maxHeartbeats 4000000 in
theorem mX_accessCause (l : Launch) (D : va_G) (cI cZ : ClassId) (q : Nat → Nat) (A B T P Y : Nat → Int32) (G : Nat → Bool) (g a : Int32) (n : Nat) (w : Int32) (hg : vp_in g 16) (hn : n < 2147483648) : Met l yX_accessCause (Cond.code yX_accessCause cX_accessCause 5 (some .int) :: gw) (rmk 2 0 0) (va_Pc [.ref (q 0), .int (g), .int (a), .int (nI n), .int (w)] (rB D vwCl (xW cI cZ q A B T P Y G) (tsX cI cZ))) (k2_QcV (.int (ga_acc B T P Y G g.toNatClampNeg a n w))) 0 0 (fun _ => False) := by
  refine Met.ofW (cc := cX_accessCause) (maxL := 5) (ret := (some .int)) (by decide) rfl ?_
  intro p e s m args below meth c s₁ B9 hml hv
  obtain ⟨rfl, hP, hK⟩ := hv
  have hx := B9.exec
  have hb := B9.bytes
  have hr := B9.returns
  have hts := fun (w : Cond) (h : w ∈ gw) => atoms_spec (ws := _ :: gw) B9.pre w (List.mem_cons_of_mem _ h)
  have hown : s.vm.findClass RX = some m.cls := findClass_of_methodNamed B9.named
  have hlocks := B9.notSynchronized
  have hl := lv_entry ([.ref (q 0), .int (g), .int (a), .int (nI n), .int (w)]) (n := 5) (Nat.le_of_ble_eq_true rfl)
  rw [lg_entry_eq]
  generalize (lg_sl ([.ref (q 0), .int (g), .int (a), .int (nI n), .int (w)]) ++ List.replicate (5 - (lg_sl ([.ref (q 0), .int (g), .int (a), .int (nI n), .int (w)])).length) Slot.unset).toArray = ls at hl ⊢
  have hl : lv_has ls 5 [(0, .ref (q 0)), (1, .int (g)), (2, .int (a)), (3, .int (nI n)), (4, .int (w))] := hl
  refine lv_aload_n hx hb dX_accessCause_0 rfl (lv_at hl 0 rfl) ?_
  refine va_get (D := D) (ci := 0) (v := .ref (q 6)) (C := RX) (T := TX) (N := 6) hx hb hts inX hown hK hP 0 rfl rfl 5 (by decide) (hts _ w_34) (fun _ h9 => h9) rfl dX_accessCause_1 ?_
  refine lv_iload_n hx hb dX_accessCause_4 rfl (lv_at hl 1 rfl) ?_
  refine va_zald hx hb hK hP 6 1 rfl rfl hg dX_accessCause_5 ?_
  refine W.eq (g2 := F0 m 6 ls [.int (bi (G g.toNatClampNeg))]) rfl ?_
  refine lv_if_ne (tgt := 11) hx hb dX_accessCause_6 (by decide) (fun h_1 => ?_) (fun h_1 => ?_)
  · have h_1 := bi_n h_1
    refine lv_aload_n hx hb dX_accessCause_11 rfl (lv_at hl 0 rfl) ?_
    refine lv_iload_n hx hb dX_accessCause_12 rfl (lv_at hl 1 rfl) ?_
    refine kr_V 1 (b := q 0) (As := [.int (g)]) (rest := []) (r := .int (bi (decide (¬ Y g.toNatClampNeg = 0)))) hx hb hml hown hts hl.1 (mX_isSealed l D cI cZ q A B T P Y G (g) hg) rB_stb ⟨hP, hK⟩ (gw_V w_58 w_60 w_1 w_14 w_61) (by decide) ⟨rfl, rfl⟩ ⟨Nat.le_of_ble_eq_true rfl, Nat.le_of_ble_eq_true rfl⟩ (va_recv hK hP (ci := 0) rfl (q0 := 0) rfl) rfl rfl (Nat.le_of_ble_eq_true rfl) dX_accessCause_13 ⟨Nat.zero_le _, Nat.zero_le _⟩ ?_
    refine lv_if_eq (tgt := 21) hx hb dX_accessCause_16 (by decide) (fun h_2 => ?_) (fun h_2 => ?_)
    · have h_2 := bi_0 h_2
      refine lv_aload_n hx hb dX_accessCause_21 rfl (lv_at hl 0 rfl) ?_
      refine lv_iload_n hx hb dX_accessCause_22 rfl (lv_at hl 1 rfl) ?_
      refine lv_iload hx hb dX_accessCause_23 (lv_at hl 4 rfl) ?_
      refine kr_V 2 (b := q 0) (As := [.int (g), .int (w)]) (rest := []) (r := .int (bi (ga_pm (w) (P g.toNatClampNeg)))) hx hb hml hown hts hl.1 (mX_hasPermissions l D cI cZ q A B T P Y G (g) (w) hg) rB_stb ⟨hP, hK⟩ (gw_V w_62 w_64 w_2 w_14 w_65) (by decide) ⟨rfl, rfl⟩ ⟨Nat.le_of_ble_eq_true rfl, Nat.le_of_ble_eq_true rfl⟩ (va_recv hK hP (ci := 0) rfl (q0 := 0) rfl) rfl rfl (Nat.le_of_ble_eq_true rfl) dX_accessCause_25 ⟨Nat.zero_le _, Nat.zero_le _⟩ ?_
      refine lv_if_ne (tgt := 33) hx hb dX_accessCause_28 (by decide) (fun h_3 => ?_) (fun h_3 => ?_)
      · have h_3 := bi_n h_3
        refine lv_aload_n hx hb dX_accessCause_33 rfl (lv_at hl 0 rfl) ?_
        refine lv_iload_n hx hb dX_accessCause_34 rfl (lv_at hl 1 rfl) ?_
        refine lv_iload_n hx hb dX_accessCause_35 rfl (lv_at hl 2 rfl) ?_
        refine lv_iload_n hx hb dX_accessCause_36 rfl (lv_at hl 3 rfl) ?_
        refine lv_i2l (v := lN n) hx hb dX_accessCause_37 (nI_l hn) ?_
        refine kr_V 3 (b := q 0) (As := [.int (g), .int (a), .long (lN n)]) (rest := []) (r := .int (bi (ga_in (B g.toNatClampNeg) (T g.toNatClampNeg) (a) (n)))) hx hb hml hown hts hl.1 (mX_isInBounds l D cI cZ q A B T P Y G (g) (a) (n) hg (by omega)) rB_stb ⟨hP, hK⟩ (gw_V w_66 w_68 w_3 w_14 w_69) (by decide) ⟨rfl, rfl⟩ ⟨Nat.le_of_ble_eq_true rfl, Nat.le_of_ble_eq_true rfl⟩ (va_recv hK hP (ci := 0) rfl (q0 := 0) rfl) rfl rfl (Nat.le_of_ble_eq_true rfl) dX_accessCause_38 ⟨Nat.zero_le _, Nat.zero_le _⟩ ?_
        refine lv_if_eq (tgt := 48) hx hb dX_accessCause_41 (by decide) (fun h_4 => ?_) (fun h_4 => ?_)
        · have h_4 := bi_0 h_4
          refine lv_iconst (v := 4) hx hb dX_accessCause_48 (by decide) ?_
          have e9 : (ga_acc B T P Y G g.toNatClampNeg a n w) = 4 := by (try simp only [decide_eq_true_eq, decide_eq_false_iff_not, Decidable.not_not] at h_1); (try simp only [decide_eq_true_eq, decide_eq_false_iff_not, Decidable.not_not] at h_2); (try simp only [decide_eq_true_eq, decide_eq_false_iff_not, Decidable.not_not] at h_3); (try simp only [decide_eq_true_eq, decide_eq_false_iff_not, Decidable.not_not] at h_4); unfold ga_acc; simp [h_1, h_2, h_3, h_4]
          refine W.eq (g2 := F0 m 49 ls [.int (ga_acc B T P Y G g.toNatClampNeg a n w)]) (by rw [e9]) ?_
          exact W.iret (v := ga_acc B T P Y G g.toNatClampNeg a n w) hx hb hr (fun t9 ht hW => ⟨rfl, ht⟩) (fun z hz => nomatch hz) dX_accessCause_49
        · have h_4 := bi_n h_4
          refine lv_iconst (v := 0) hx hb dX_accessCause_44 (by decide) ?_
          refine lv_goto (tgt := 49) hx hb dX_accessCause_45 (by decide) ?_
          have e9 : (ga_acc B T P Y G g.toNatClampNeg a n w) = 0 := by (try simp only [decide_eq_true_eq, decide_eq_false_iff_not, Decidable.not_not] at h_1); (try simp only [decide_eq_true_eq, decide_eq_false_iff_not, Decidable.not_not] at h_2); (try simp only [decide_eq_true_eq, decide_eq_false_iff_not, Decidable.not_not] at h_3); (try simp only [decide_eq_true_eq, decide_eq_false_iff_not, Decidable.not_not] at h_4); unfold ga_acc; simp [h_1, h_2, h_3, h_4]
          refine W.eq (g2 := F0 m 49 ls [.int (ga_acc B T P Y G g.toNatClampNeg a n w)]) (by rw [e9]) ?_
          exact W.iret (v := ga_acc B T P Y G g.toNatClampNeg a n w) hx hb hr (fun t9 ht hW => ⟨rfl, ht⟩) (fun z hz => nomatch hz) dX_accessCause_49
      · have h_3 := bi_0 h_3
        refine lv_iconst (v := 3) hx hb dX_accessCause_31 (by decide) ?_
        have e9 : (ga_acc B T P Y G g.toNatClampNeg a n w) = 3 := by (try simp only [decide_eq_true_eq, decide_eq_false_iff_not, Decidable.not_not] at h_1); (try simp only [decide_eq_true_eq, decide_eq_false_iff_not, Decidable.not_not] at h_2); (try simp only [decide_eq_true_eq, decide_eq_false_iff_not, Decidable.not_not] at h_3); unfold ga_acc; simp [h_1, h_2, h_3]
        refine W.eq (g2 := F0 m 32 ls [.int (ga_acc B T P Y G g.toNatClampNeg a n w)]) (by rw [e9]) ?_
        exact W.iret (v := ga_acc B T P Y G g.toNatClampNeg a n w) hx hb hr (fun t9 ht hW => ⟨rfl, ht⟩) (fun z hz => nomatch hz) dX_accessCause_32
    · have h_2 := bi_n h_2
      refine lv_iconst (v := 2) hx hb dX_accessCause_19 (by decide) ?_
      have e9 : (ga_acc B T P Y G g.toNatClampNeg a n w) = 2 := by (try simp only [decide_eq_true_eq, decide_eq_false_iff_not, Decidable.not_not] at h_1); (try simp only [decide_eq_true_eq, decide_eq_false_iff_not, Decidable.not_not] at h_2); unfold ga_acc; simp [h_1, h_2]
      refine W.eq (g2 := F0 m 20 ls [.int (ga_acc B T P Y G g.toNatClampNeg a n w)]) (by rw [e9]) ?_
      exact W.iret (v := ga_acc B T P Y G g.toNatClampNeg a n w) hx hb hr (fun t9 ht hW => ⟨rfl, ht⟩) (fun z hz => nomatch hz) dX_accessCause_20
  · have h_1 := bi_0 h_1
    refine lv_iconst (v := 1) hx hb dX_accessCause_9 (by decide) ?_
    have e9 : (ga_acc B T P Y G g.toNatClampNeg a n w) = 1 := by (try simp only [decide_eq_true_eq, decide_eq_false_iff_not, Decidable.not_not] at h_1); unfold ga_acc; simp [h_1]
    refine W.eq (g2 := F0 m 10 ls [.int (ga_acc B T P Y G g.toNatClampNeg a n w)]) (by rw [e9]) ?_
    exact W.iret (v := ga_acc B T P Y G g.toNatClampNeg a n w) hx hb hr (fun t9 ht hW => ⟨rfl, ht⟩) (fun z hz => nomatch hz) dX_accessCause_10
end
section
/-! What a throw needs of the state: tx_B; it holds from the law's start on. -/
abbrev iob : String := "java/lang/IndexOutOfBoundsException"
abbrev iae : String := "java/lang/IllegalArgumentException"
abbrev nms : List String := ["java/lang/RuntimeException", "java/lang/Exception"]
theorem tx_face {w : Cond} {a a' : Array Value} {s U : State} (hW : s.WarmedH U.vm) (h1 : w.onTables = true) (h2 : w.keepsFace = true) (h : w.before a s = true) : w.before a' U = true := by
  have h3 := Cond.before_shiftedFace (State.Shifted.of_warmed hW) w h2 h
  have h4 := Cond.onTables_vm (A := a) (A' := a') (U := s) (U' := U) U.vm w h1
  rw [h4, State.setVm_self] at h3
  exact h3
theorem tx_static {C n d : String} {a a' : Array Value} {s U : State} (hvm : s.vm.Alike U.vm) (hH : ∀ q : Nat, q < s.heap.size → U.heap[q]? = s.heap[q]?) (h : (Cond.laysStatic C n d).before a s = true) : (Cond.laysStatic C n d).before a' U = true := by
  obtain ⟨c, k, i, f, q, cell, hc, hi, hst, ha, hcell, hs, hcls, hlt, hty⟩ := Cond.laysStatic_spec h
  obtain ⟨k', hi', he⟩ := State.fieldFound?_setVm hvm hi
  have hi' : U.fieldFound? C n d = some (c, k', i, f) := hi'
  have hc' : U.vm.findClass C = some c := by rw [hvm.findClass]; exact hc
  have hcell' : U.heap[q]? = some cell := by rw [hH q (Array.getElem?_eq_some_iff.mp hcell).1]; exact hcell
  have ha' : k'.statics = some q := by rw [he]; exact ha
  have hty' : k'.staticTypes[f.slot]? = some f.type := by rw [he]; exact hty
  simp [Cond.before, Cond.holds, Cond.value, hc', hi', ha', hcell', hst, hs, hcls, hlt, hty']
theorem tx_isRef {C n d : String} {a a' : Array Value} {s U : State} (hvm : s.vm.Alike U.vm) (hH : ∀ q : Nat, q < s.heap.size → U.heap[q]? = s.heap[q]?) (hl : (Cond.laysStatic C n d).before a s = true) (h : (Cond.isRef (.static C n d)).before a s = true) : (Cond.isRef (.static C n d)).before a' U = true := by
  obtain ⟨c, k, i, f, q, cell, hc, hi, hst, ha, hcell, hs, hcls, hlt, hty⟩ := Cond.laysStatic_spec hl
  obtain ⟨k', hi', he⟩ := State.fieldFound?_setVm hvm hi
  have hi' : U.fieldFound? C n d = some (c, k', i, f) := hi'
  have hcell' : U.heap[q]? = some cell := by rw [hH q (Array.getElem?_eq_some_iff.mp hcell).1]; exact hcell
  have ha' : k'.statics = some q := by rw [he]; exact ha
  have e1 : (Term.static C n d).eval a s none [] s = cell.slots[f.slot]? := by simp [Term.eval, State.fieldNamed?, hi, hst, ha, hcell, hs]
  have e2 : (Term.static C n d).eval a' U none [] U = cell.slots[f.slot]? := by simp [Term.eval, State.fieldNamed?, hi', hst, ha', hcell', hs]
  simp only [Cond.before, Cond.holds, Cond.value, e1] at h
  simp only [Cond.before, Cond.holds, Cond.value, e2]
  exact h
def tx_kind (w : Cond) : Bool := (w.onTables && w.keepsFace) || (match w with
  | .laysStatic .. => true
  | _ => false)
def tx_us : Cond := .isRef (.static "java/lang/Throwable" "UNASSIGNED_STACK" "[Ljava/lang/StackTraceElement;")
def tx_ss : Cond := .isRef (.static "java/lang/Throwable" "SUPPRESSED_SENTINEL" "Ljava/util/List;")
def tx_B (U : State) : Prop := ∀ a : Array Value, (∀ w ∈ Bundle.ownAtoms RX 82 iob nms, w.before a U = true) ∧ (∀ w ∈ Bundle.ownAtoms RX 37 iae nms, w.before a U = true) ∧ (∀ k ∈ [35, 40, 66, 76, 80], ∃ (tx : String) (sa : Nat), vk_R RX k tx sa U) ∧ va_Nc iob iae U
theorem tx_words (w : Cond) (h : w ∈ Bundle.ownAtoms RX 82 iob nms ∨ w ∈ Bundle.ownAtoms RX 37 iae nms) : tx_kind w = true ∨ w = tx_us ∨ w = tx_ss := by
  have h1 : ∀ w ∈ Bundle.ownAtoms RX 82 iob nms, tx_kind w = true ∨ w = tx_us ∨ w = tx_ss := by decide +kernel
  have h2 : ∀ w ∈ Bundle.ownAtoms RX 37 iae nms, tx_kind w = true ∨ w = tx_us ∨ w = tx_ss := by decide +kernel
  exact h.elim (h1 w) (h2 w)
theorem tx_lays1 : Cond.laysStatic "java/lang/Throwable" "UNASSIGNED_STACK" "[Ljava/lang/StackTraceElement;" ∈ Bundle.ownAtoms RX 82 iob nms := by decide +kernel
theorem tx_lays2 : Cond.laysStatic "java/lang/Throwable" "SUPPRESSED_SENTINEL" "Ljava/util/List;" ∈ Bundle.ownAtoms RX 82 iob nms := by decide +kernel
theorem tx_B.keep {s U : State} (hB : tx_B s) (hW : s.WarmedH U.vm) (hH : ∀ q : Nat, q < s.heap.size → U.heap[q]? = s.heap[q]?) : tx_B U := by
  intro a
  obtain ⟨b1, b2, b3, b4⟩ := hB a
  have key : ∀ w, w ∈ Bundle.ownAtoms RX 82 iob nms ∨ w ∈ Bundle.ownAtoms RX 37 iae nms → w.before a s = true → w.before a U = true := by
    intro w hw h
    rcases tx_words w hw with hk | rfl | rfl
    · unfold tx_kind at hk
      rcases (Bool.or_eq_true _ _).mp hk with h1 | h1
      · obtain ⟨h2, h3⟩ := (Bool.and_eq_true _ _).mp h1
        exact tx_face hW h2 h3 h
      · split at h1
        · exact tx_static hW.alike hH h
        · cases h1
    · exact tx_isRef hW.alike hH (b1 _ tx_lays1) h
    · exact tx_isRef hW.alike hH (b1 _ tx_lays2) h
  refine ⟨fun w hw => key w (Or.inl hw) (b1 w hw), fun w hw => key w (Or.inr hw) (b2 w hw), fun k hk => ?_, va_Nc.moved hW.alike b4⟩
  obtain ⟨tx, sa, h⟩ := b3 k hk
  exact ⟨tx, sa, vk_R.warm hW h⟩
theorem tx_blind {av : List Value} : FrameBlind (va_Pc av tx_B) := fun a U g mk h => ⟨h.1, h.2.keep (State.WarmedH.refl U) (fun _ _ => rfl)⟩
theorem tx_pre {av : List Value} {s : State} {H : Heap} (hB : tx_B s) (hH : ∀ q : Nat, q < s.heap.size → H[q]? = s.heap[q]?) : ∀ U : State, U.heap = H → s.WarmedH U.vm → va_Pc av tx_B av.toArray U := fun U hU hW => ⟨rfl, hB.keep hW (fun q hq => by rw [hU]; exact hH q hq)⟩
theorem in_lt {x : Int32} (h : vp_in x 16) : x < 16 := by
  have h1 := (vp_in_iff.mp h).2
  rw [Int32.lt_iff_toInt_lt]
  have h2 : (16 : Int32).toInt = 16 := by decide
  omega
theorem in_ge {x : Int32} (h : vp_in x 16) : ¬ x < 0 := fun q => h (Or.inl q)
theorem in_no {x : Int32} (h : ¬ vp_in x 16) (h0 : ¬ x < 0) : ¬ x < 16 := fun q => h (vp_in_iff.mpr (by
  rw [Int32.lt_iff_toInt_lt] at q h0
  have h2 : (16 : Int32).toInt = 16 := by decide
  have h3 : (0 : Int32).toInt = 0 := by decide
  omega))
/-- a method without an answer that only reads -/
def kv_Q : Array Value → State → Outcome → State → Prop := fun _ st o t => o = .returned none ∧ t.heap = st.heap
section KV
variable {p : Program} {l : Launch} {e : Env} {R : Room} {s : State} {m : MethodId} {args : Array Value} {below : List Frame} {meth : Method} {c : Code} {H : Heap} {locs : List Loc} {cells slots : Nat} {Q : State → Prop}
variable {y : MethodName} {bytes cc : ByteArray} {maxL nL mc ms index : Nat} {ret : Option FieldType} {rm : Room} {own C : String} {b : Addr} {As rest st0 : List Value} {pc : Nat} {ls : Array Slot} {B : State → Prop}
theorem kr_Sv (n : Nat) (hx : p.tables.exec = Jvm.exec) (hb : c.code = cc) (hml : c.maxLocals = nL) (hown : s.vm.findClass own = some m.cls) (hts : ∀ w ∈ gw, w.before args s = true) (hl : ls.size = nL)
    (hM : Met l y (Cond.code y bytes maxL ret :: gw) rm (va_Pc As B) kv_Q 0 0 (fun _ => False)) (hst : Stb B) (hB : B ({ s with heap := H } : State)) (hG : GoodIn gw (wsS own index y (Cond.code y bytes maxL ret :: gw)))
    (hd : y.cls = own ∧ y.cls ≠ "java/lang/invoke/MethodHandle" ∧ y.cls ≠ "java/lang/invoke/VarHandle" ∧ (parseMethodDescriptor y.desc).map (fun d => d.parameters.length) = some n) (hrm : rm.cells = 0 ∧ rm.slots = 0) (hR : rm.frames + 1 ≤ R.frames ∧ 8 + (maxL + 11) + rm.locals ≤ R.locals)
    (hn : As.length = n) (hstack : st0 = As.reverse ++ rest) (hroom : (rest.map fun v => v.category).sum ≤ 8) (hdg : decode cc pc = .ok (.invokestatic index, 3)) (hc : cells ≤ R.cells ∧ slots ≤ R.slots)
    (kk : W p l e R s m args below meth c H locs cells slots Q (F0 m (pc + 3) ls rest)) : W p l e R s m args below meth c H locs cells slots Q (F0 m pc ls st0) := by
  have hr : CallRun p l e R s m args below meth c H locs cells slots 0 0 (F0 m pc ls st0) rest (kv_Q As.toArray) (fun _ => False) :=
    W.runS ⟨hx, hb, hml, hown, hts⟩ hM (cwS n hts hG rfl hrm.1 hrm.2 hd hR) ⟨kb_blind hst, kb_pre hst hB⟩ rfl hn hl hstack (lv_room hroom) hdg hc
  intro T hT X
  obtain ⟨v, st₀, t, T', L, h0, X', hL, e1, ⟨hv, hh⟩, st⟩ := hr T hT X
  cases hv
  have hnil : L = [] := List.eq_nil_iff_forall_not_mem.mpr (fun q hq => hL q hq)
  subst hnil
  rw [List.append_nil] at X'
  obtain ⟨t2, a1, b1⟩ := kk T' (by rw [e1, hh, h0]) X'
  exact ⟨t2, st t2 a1, b1⟩
end KV
end
section
/-! Contracts of GrantMath: requireGrant, the causes, allows, within, part; and what throws. Laid by program (wip/whole/gen_x2.py). -/
set_option maxRecDepth 100000 in
set_option maxHeartbeats 4000000 in
theorem mX_requireGrant (l : Launch) (g : Int32) (hg : vp_in g 16) : Met l yX_requireGrant (Cond.code yX_requireGrant cX_requireGrant 1 none :: gw) (rmk 0 0 0) (va_Pc [.int (g)] (fun _ => True)) kv_Q 0 0 (fun _ => False) := by
  refine Met.ofW (cc := cX_requireGrant) (maxL := 1) (ret := none) (by decide) rfl ?_
  intro p e s m args below meth c s₁ B9 hml hv
  obtain ⟨rfl, -⟩ := hv
  have hx := B9.exec
  have hb := B9.bytes
  have hr := B9.returns
  have hts := fun (w : Cond) (h : w ∈ gw) => atoms_spec (ws := _ :: gw) B9.pre w (List.mem_cons_of_mem _ h)
  have hown : s.vm.findClass RX = some m.cls := findClass_of_methodNamed B9.named
  have hlocks := B9.notSynchronized
  have hl := lv_entry ([.int (g)]) (n := 1) (Nat.le_of_ble_eq_true rfl)
  rw [lg_entry_eq]
  generalize (lg_sl ([.int (g)]) ++ List.replicate (1 - (lg_sl ([.int (g)])).length) Slot.unset).toArray = ls at hl ⊢
  have hl : lv_has ls 1 [(0, .int (g))] := hl
  refine lv_iload_n hx hb dX_requireGrant_0 rfl (lv_at hl 0 rfl) ?_
  refine lv_if_lt (tgt := 10) hx hb dX_requireGrant_1 (by decide) (fun h_1 => absurd h_1 (in_ge hg)) (fun h_1 => ?_)
  refine lv_iload_n hx hb dX_requireGrant_4 rfl (lv_at hl 0 rfl) ?_
  refine lv_bipush (v := 16) hx hb dX_requireGrant_5 (by decide) ?_
  refine lv_icmp_lt (tgt := 20) hx hb dX_requireGrant_7 (by decide) (fun h_2 => ?_) (fun h_2 => absurd (in_lt hg) h_2)
  exact W.vret hx hb hr (fun t9 ht hW => ⟨rfl, ht⟩) (fun z hz => nomatch hz) dX_requireGrant_20

set_option maxRecDepth 100000 in
set_option maxHeartbeats 4000000 in
theorem tX_requireGrant (l : Launch) (hst : l.stackTraces = false) (g : Int32) (hg : ¬ vp_in g 16) : tx_Thr l yX_requireGrant (Cond.code yX_requireGrant cX_requireGrant 1 none :: gw) (rmk 6 1 6) (va_Pc [.int (g)] tx_B) iob 1 6 := by
  refine tx_of (cc := cX_requireGrant) (maxL := 1) (ret := none) (by decide) rfl ?_
  intro p e s m args below meth c s₁ B9 hml hne hv
  obtain ⟨rfl, hB⟩ := hv
  have hx := B9.exec
  have hb := B9.bytes
  have hts := fun (w : Cond) (h : w ∈ gw) => atoms_spec (ws := _ :: gw) B9.pre w (List.mem_cons_of_mem _ h)
  have hown : s.vm.findClass RX = some m.cls := findClass_of_methodNamed B9.named
  have hlocks := B9.notSynchronized
  have hl := lv_entry ([.int (g)]) (n := 1) (Nat.le_of_ble_eq_true rfl)
  rw [lg_entry_eq]
  generalize (lg_sl ([.int (g)]) ++ List.replicate (1 - (lg_sl ([.int (g)])).length) Slot.unset).toArray = ls at hl ⊢
  have hl : lv_has ls 1 [(0, .int (g))] := hl
  refine lv_iload_n hx hb dX_requireGrant_0 rfl (lv_at hl 0 rfl) ?_
  refine lv_if_lt (tgt := 10) hx hb dX_requireGrant_1 (by decide) (fun h_1 => ?_) (fun h_1 => ?_)
  · 
    obtain ⟨tx, sa, hstr⟩ := (hB #[]).2.2.1 80 (by decide)
    exact tx_throw (cls := iob) (names := nms) hx hb hst hown (by decide +kernel) (by decide +kernel) (hts _ w_154) (hts _ w_20) hstr (hB _).1 (hl.1.trans hml.symm) dX_requireGrant_10 dX_requireGrant_13 dX_requireGrant_14 dX_requireGrant_16 dX_requireGrant_19 hne (Nat.le_of_ble_eq_true rfl) (Nat.le_of_ble_eq_true rfl) (Nat.le_of_ble_eq_true rfl) (Nat.le_of_ble_eq_true rfl) hlocks
  · 
    refine lv_iload_n hx hb dX_requireGrant_4 rfl (lv_at hl 0 rfl) ?_
    refine lv_bipush (v := 16) hx hb dX_requireGrant_5 (by decide) ?_
    refine lv_icmp_lt (tgt := 20) hx hb dX_requireGrant_7 (by decide) (fun h_2 => absurd h_2 (in_no hg h_1)) (fun h_2 => ?_)
    obtain ⟨tx, sa, hstr⟩ := (hB #[]).2.2.1 80 (by decide)
    exact tx_throw (cls := iob) (names := nms) hx hb hst hown (by decide +kernel) (by decide +kernel) (hts _ w_154) (hts _ w_20) hstr (hB _).1 (hl.1.trans hml.symm) dX_requireGrant_10 dX_requireGrant_13 dX_requireGrant_14 dX_requireGrant_16 dX_requireGrant_19 hne (Nat.le_of_ble_eq_true rfl) (Nat.le_of_ble_eq_true rfl) (Nat.le_of_ble_eq_true rfl) (Nat.le_of_ble_eq_true rfl) hlocks

set_option maxRecDepth 100000 in
set_option maxHeartbeats 4000000 in
theorem mX_sealingCause (l : Launch) (D : va_G) (cI cZ : ClassId) (q : Nat → Nat) (A B T P Y : Nat → Int32) (G : Nat → Bool) (si ti : Int32) (hsi : vp_in si 16) (hti : vp_in ti 16) : Met l yX_sealingCause (Cond.code yX_sealingCause cX_sealingCause 5 (some .int) :: gw) (rmk 3 0 0) (va_Pc [.ref (q 0), .int (si), .int (ti)] (rB D vwCl (xW cI cZ q A B T P Y G) (tsX cI cZ))) (k2_QcV (.int (ga_seal A B T P Y G si.toNatClampNeg ti.toNatClampNeg))) 0 0 (fun _ => False) := by
  refine Met.ofW (cc := cX_sealingCause) (maxL := 5) (ret := (some .int)) (by decide) rfl ?_
  intro p e s m args below meth c s₁ B9 hml hv
  obtain ⟨rfl, hP, hK⟩ := hv
  have hx := B9.exec
  have hb := B9.bytes
  have hr := B9.returns
  have hts := fun (w : Cond) (h : w ∈ gw) => atoms_spec (ws := _ :: gw) B9.pre w (List.mem_cons_of_mem _ h)
  have hown : s.vm.findClass RX = some m.cls := findClass_of_methodNamed B9.named
  have hlocks := B9.notSynchronized
  have hl := lv_entry ([.ref (q 0), .int (si), .int (ti)]) (n := 5) (Nat.le_of_ble_eq_true rfl)
  rw [lg_entry_eq]
  generalize (lg_sl ([.ref (q 0), .int (si), .int (ti)]) ++ List.replicate (5 - (lg_sl ([.ref (q 0), .int (si), .int (ti)])).length) Slot.unset).toArray = ls at hl ⊢
  have hl : lv_has ls 5 [(0, .ref (q 0)), (1, .int (si)), (2, .int (ti))] := hl
  refine lv_aload_n hx hb dX_sealingCause_0 rfl (lv_at hl 0 rfl) ?_
  refine va_get (D := D) (ci := 0) (v := .ref (q 6)) (C := RX) (T := TX) (N := 6) hx hb hts inX hown hK hP 0 rfl rfl 5 (by decide) (hts _ w_34) (fun _ h9 => h9) rfl dX_sealingCause_1 ?_
  refine lv_iload_n hx hb dX_sealingCause_4 rfl (lv_at hl 1 rfl) ?_
  refine va_zald hx hb hK hP 6 1 rfl rfl hsi dX_sealingCause_5 ?_
  refine W.eq (g2 := F0 m 6 ls [.int (bi (G si.toNatClampNeg))]) rfl ?_
  refine lv_if_eq (tgt := 18) hx hb dX_sealingCause_6 (by decide) (fun h_1 => ?_) (fun h_1 => ?_)
  · have h_1 := bi_0 h_1
    refine lv_iconst (v := 1) hx hb dX_sealingCause_18 (by decide) ?_
    have e9 : (ga_seal A B T P Y G si.toNatClampNeg ti.toNatClampNeg) = 1 := by (try simp only [decide_eq_true_eq, decide_eq_false_iff_not, Decidable.not_not, Int32.not_lt, Int32.not_le] at h_1); unfold ga_seal; simp [h_1]; try (intro h9; first | exact absurd h9 (Int32.not_le.mpr h_1) | exact h_1 | done)
    refine W.eq (g2 := F0 m 19 ls [.int (ga_seal A B T P Y G si.toNatClampNeg ti.toNatClampNeg)]) (by rw [e9]) ?_
    exact W.iret (v := ga_seal A B T P Y G si.toNatClampNeg ti.toNatClampNeg) hx hb hr (fun t9 ht hW => ⟨rfl, ht⟩) (fun z hz => nomatch hz) dX_sealingCause_19
  · have h_1 := bi_n h_1
    refine lv_aload_n hx hb dX_sealingCause_9 rfl (lv_at hl 0 rfl) ?_
    refine va_get (D := D) (ci := 0) (v := .ref (q 6)) (C := RX) (T := TX) (N := 6) hx hb hts inX hown hK hP 0 rfl rfl 5 (by decide) (hts _ w_34) (fun _ h9 => h9) rfl dX_sealingCause_10 ?_
    refine lv_iload_n hx hb dX_sealingCause_13 rfl (lv_at hl 2 rfl) ?_
    refine va_zald hx hb hK hP 6 1 rfl rfl hti dX_sealingCause_14 ?_
    refine W.eq (g2 := F0 m 15 ls [.int (bi (G ti.toNatClampNeg))]) rfl ?_
    refine lv_if_ne (tgt := 20) hx hb dX_sealingCause_15 (by decide) (fun h_2 => ?_) (fun h_2 => ?_)
    · have h_2 := bi_n h_2
      refine lv_aload_n hx hb dX_sealingCause_20 rfl (lv_at hl 0 rfl) ?_
      refine lv_iload_n hx hb dX_sealingCause_21 rfl (lv_at hl 1 rfl) ?_
      refine kr_V 1 (b := q 0) (As := [.int (si)]) (rest := []) (r := .int (bi (decide (¬ Y si.toNatClampNeg = 0)))) hx hb hml hown hts hl.1 (mX_isSealed l D cI cZ q A B T P Y G (si) hsi) rB_stb ⟨hP, hK⟩ (gw_V w_58 w_60 w_1 w_14 w_61) (by decide) ⟨rfl, rfl⟩ ⟨Nat.le_of_ble_eq_true rfl, Nat.le_of_ble_eq_true rfl⟩ (va_recv hK hP (ci := 0) rfl (q0 := 0) rfl) rfl rfl (Nat.le_of_ble_eq_true rfl) dX_sealingCause_22 ⟨Nat.zero_le _, Nat.zero_le _⟩ ?_
      refine lv_if_eq (tgt := 30) hx hb dX_sealingCause_25 (by decide) (fun h_3 => ?_) (fun h_3 => ?_)
      · have h_3 := bi_0 h_3
        refine lv_aload_n hx hb dX_sealingCause_30 rfl (lv_at hl 0 rfl) ?_
        refine lv_iload_n hx hb dX_sealingCause_31 rfl (lv_at hl 2 rfl) ?_
        refine lv_aload_n hx hb dX_sealingCause_32 rfl (lv_at hl 0 rfl) ?_
        refine va_get (D := D) (ci := 0) (v := .ref (q 1)) (C := RX) (T := TX) (N := 6) hx hb hts inX hown hK hP 0 rfl rfl 0 (by decide) (hts _ w_29) (fun _ h9 => h9) rfl dX_sealingCause_33 ?_
        refine lv_iload_n hx hb dX_sealingCause_36 rfl (lv_at hl 2 rfl) ?_
        refine va_iald hx hb hK hP 1 0 rfl rfl hti dX_sealingCause_37 ?_
        refine lv_iconst (v := 1) hx hb dX_sealingCause_38 (by decide) ?_
        refine lv_bipush (v := 32) hx hb dX_sealingCause_39 (by decide) ?_
        refine kr_V 4 (b := q 0) (As := [.int (ti), .int (A ti.toNatClampNeg), .int (1), .int (32)]) (rest := []) (r := .int (ga_acc B T P Y G ti.toNatClampNeg (A ti.toNatClampNeg) 1 (32))) hx hb hml hown hts hl.1 (mX_accessCause l D cI cZ q A B T P Y G (ti) (A ti.toNatClampNeg) 1 (32) hti (by first | decide | omega)) rB_stb ⟨hP, hK⟩ (gw_V w_54 w_56 w_0 w_14 w_57) (by decide) ⟨rfl, rfl⟩ ⟨Nat.le_of_ble_eq_true rfl, Nat.le_of_ble_eq_true rfl⟩ (va_recv hK hP (ci := 0) rfl (q0 := 0) rfl) rfl rfl (Nat.le_of_ble_eq_true rfl) dX_sealingCause_41 ⟨Nat.zero_le _, Nat.zero_le _⟩ ?_
        refine lv_istore_n hx hb dX_sealingCause_44 rfl hl (by decide) rfl (fun ls hl => ?_)
        have hl : lv_has ls 5 [(3, .int (ga_acc B T P Y G ti.toNatClampNeg (A ti.toNatClampNeg) 1 (32))), (0, .ref (q 0)), (1, .int (si)), (2, .int (ti))] := hl
        refine lv_iload_n hx hb dX_sealingCause_45 rfl (lv_at hl 0 rfl) ?_
        refine lv_if_eq (tgt := 51) hx hb dX_sealingCause_46 (by decide) (fun h_4 => ?_) (fun h_4 => ?_)
        · 
          refine lv_aload_n hx hb dX_sealingCause_51 rfl (lv_at hl 1 rfl) ?_
          refine va_get (D := D) (ci := 0) (v := .ref (q 1)) (C := RX) (T := TX) (N := 6) hx hb hts inX hown hK hP 0 rfl rfl 0 (by decide) (hts _ w_29) (fun _ h9 => h9) rfl dX_sealingCause_52 ?_
          refine lv_iload_n hx hb dX_sealingCause_55 rfl (lv_at hl 3 rfl) ?_
          refine va_iald hx hb hK hP 1 0 rfl rfl hti dX_sealingCause_56 ?_
          refine lv_iconst (v := 1) hx hb dX_sealingCause_57 (by decide) ?_
          refine lv_icmp_lt (tgt := 76) hx hb dX_sealingCause_58 (by decide) (fun h_5 => ?_) (fun h_5 => ?_)
          · 
            refine lv_iconst (v := 0) hx hb dX_sealingCause_76 (by decide) ?_
            refine lv_istore hx hb dX_sealingCause_77 hl (by decide) rfl (fun ls hl => ?_)
            have hl : lv_has ls 5 [(4, .int (0)), (3, .int (ga_acc B T P Y G ti.toNatClampNeg (A ti.toNatClampNeg) 1 (32))), (0, .ref (q 0)), (1, .int (si)), (2, .int (ti))] := hl
            refine lv_iload hx hb dX_sealingCause_79 (lv_at hl 0 rfl) ?_
            refine lv_if_eq (tgt := 88) hx hb dX_sealingCause_81 (by decide) (fun h_6 => ?_) (fun h_6 => absurd (by decide) h_6)
            refine lv_iconst (v := 4) hx hb dX_sealingCause_88 (by decide) ?_
            have e9 : (ga_seal A B T P Y G si.toNatClampNeg ti.toNatClampNeg) = 4 := by (try simp only [decide_eq_true_eq, decide_eq_false_iff_not, Decidable.not_not, Int32.not_lt, Int32.not_le] at h_1); (try simp only [decide_eq_true_eq, decide_eq_false_iff_not, Decidable.not_not, Int32.not_lt, Int32.not_le] at h_2); (try simp only [decide_eq_true_eq, decide_eq_false_iff_not, Decidable.not_not, Int32.not_lt, Int32.not_le] at h_3); (try simp only [decide_eq_true_eq, decide_eq_false_iff_not, Decidable.not_not, Int32.not_lt, Int32.not_le] at h_4); (try simp only [decide_eq_true_eq, decide_eq_false_iff_not, Decidable.not_not, Int32.not_lt, Int32.not_le] at h_5); unfold ga_seal; simp [h_1, h_2, h_3, h_4, h_5]; try (intro h9; first | exact absurd h9 (Int32.not_le.mpr h_1) | exact absurd h9 (Int32.not_le.mpr h_2) | exact absurd h9 (Int32.not_le.mpr h_3) | exact absurd h9 (Int32.not_le.mpr h_4) | exact absurd h9 (Int32.not_le.mpr h_5) | exact h_1 | exact h_2 | exact h_3 | exact h_4 | exact h_5 | exact absurd (by rw [← h_1]; exact h_2) h9 | exact absurd (by rw [← h_1]; exact h_3) h9 | exact absurd (by rw [← h_1]; exact h_4) h9 | exact absurd (by rw [← h_1]; exact h_5) h9 | exact absurd (by rw [← h_2]; exact h_1) h9 | exact absurd (by rw [← h_2]; exact h_3) h9 | exact absurd (by rw [← h_2]; exact h_4) h9 | exact absurd (by rw [← h_2]; exact h_5) h9 | exact absurd (by rw [← h_3]; exact h_1) h9 | exact absurd (by rw [← h_3]; exact h_2) h9 | exact absurd (by rw [← h_3]; exact h_4) h9 | exact absurd (by rw [← h_3]; exact h_5) h9 | exact absurd (by rw [← h_4]; exact h_1) h9 | exact absurd (by rw [← h_4]; exact h_2) h9 | exact absurd (by rw [← h_4]; exact h_3) h9 | exact absurd (by rw [← h_4]; exact h_5) h9 | exact absurd (by rw [← h_5]; exact h_1) h9 | exact absurd (by rw [← h_5]; exact h_2) h9 | exact absurd (by rw [← h_5]; exact h_3) h9 | exact absurd (by rw [← h_5]; exact h_4) h9 | done)
            refine W.eq (g2 := F0 m 89 ls [.int (ga_seal A B T P Y G si.toNatClampNeg ti.toNatClampNeg)]) (by rw [e9]) ?_
            exact W.iret (v := ga_seal A B T P Y G si.toNatClampNeg ti.toNatClampNeg) hx hb hr (fun t9 ht hW => ⟨rfl, ht⟩) (fun z hz => nomatch hz) dX_sealingCause_89
          · 
            refine lv_aload_n hx hb dX_sealingCause_61 rfl (lv_at hl 1 rfl) ?_
            refine va_get (D := D) (ci := 0) (v := .ref (q 1)) (C := RX) (T := TX) (N := 6) hx hb hts inX hown hK hP 0 rfl rfl 0 (by decide) (hts _ w_29) (fun _ h9 => h9) rfl dX_sealingCause_62 ?_
            refine lv_iload_n hx hb dX_sealingCause_65 rfl (lv_at hl 3 rfl) ?_
            refine va_iald hx hb hK hP 1 0 rfl rfl hti dX_sealingCause_66 ?_
            refine lv_ldc (v := 65535) hx hb hown (hts _ w_213) dX_sealingCause_67 ?_
            refine lv_icmp_gt (tgt := 76) hx hb dX_sealingCause_69 (by decide) (fun h_7 => ?_) (fun h_7 => ?_)
            · 
              refine lv_iconst (v := 0) hx hb dX_sealingCause_76 (by decide) ?_
              refine lv_istore hx hb dX_sealingCause_77 hl (by decide) rfl (fun ls hl => ?_)
              have hl : lv_has ls 5 [(4, .int (0)), (3, .int (ga_acc B T P Y G ti.toNatClampNeg (A ti.toNatClampNeg) 1 (32))), (0, .ref (q 0)), (1, .int (si)), (2, .int (ti))] := hl
              refine lv_iload hx hb dX_sealingCause_79 (lv_at hl 0 rfl) ?_
              refine lv_if_eq (tgt := 88) hx hb dX_sealingCause_81 (by decide) (fun h_8 => ?_) (fun h_8 => absurd (by decide) h_8)
              refine lv_iconst (v := 4) hx hb dX_sealingCause_88 (by decide) ?_
              have e9 : (ga_seal A B T P Y G si.toNatClampNeg ti.toNatClampNeg) = 4 := by (try simp only [decide_eq_true_eq, decide_eq_false_iff_not, Decidable.not_not, Int32.not_lt, Int32.not_le] at h_1); (try simp only [decide_eq_true_eq, decide_eq_false_iff_not, Decidable.not_not, Int32.not_lt, Int32.not_le] at h_2); (try simp only [decide_eq_true_eq, decide_eq_false_iff_not, Decidable.not_not, Int32.not_lt, Int32.not_le] at h_3); (try simp only [decide_eq_true_eq, decide_eq_false_iff_not, Decidable.not_not, Int32.not_lt, Int32.not_le] at h_4); (try simp only [decide_eq_true_eq, decide_eq_false_iff_not, Decidable.not_not, Int32.not_lt, Int32.not_le] at h_5); (try simp only [decide_eq_true_eq, decide_eq_false_iff_not, Decidable.not_not, Int32.not_lt, Int32.not_le] at h_7); unfold ga_seal; simp [h_1, h_2, h_3, h_4, h_5, h_7]; try (intro h9; first | exact absurd h9 (Int32.not_le.mpr h_1) | exact absurd h9 (Int32.not_le.mpr h_2) | exact absurd h9 (Int32.not_le.mpr h_3) | exact absurd h9 (Int32.not_le.mpr h_4) | exact absurd h9 (Int32.not_le.mpr h_5) | exact absurd h9 (Int32.not_le.mpr h_7) | exact h_1 | exact h_2 | exact h_3 | exact h_4 | exact h_5 | exact h_7 | exact absurd (by rw [← h_1]; exact h_2) h9 | exact absurd (by rw [← h_1]; exact h_3) h9 | exact absurd (by rw [← h_1]; exact h_4) h9 | exact absurd (by rw [← h_1]; exact h_5) h9 | exact absurd (by rw [← h_1]; exact h_7) h9 | exact absurd (by rw [← h_2]; exact h_1) h9 | exact absurd (by rw [← h_2]; exact h_3) h9 | exact absurd (by rw [← h_2]; exact h_4) h9 | exact absurd (by rw [← h_2]; exact h_5) h9 | exact absurd (by rw [← h_2]; exact h_7) h9 | exact absurd (by rw [← h_3]; exact h_1) h9 | exact absurd (by rw [← h_3]; exact h_2) h9 | exact absurd (by rw [← h_3]; exact h_4) h9 | exact absurd (by rw [← h_3]; exact h_5) h9 | exact absurd (by rw [← h_3]; exact h_7) h9 | exact absurd (by rw [← h_4]; exact h_1) h9 | exact absurd (by rw [← h_4]; exact h_2) h9 | exact absurd (by rw [← h_4]; exact h_3) h9 | exact absurd (by rw [← h_4]; exact h_5) h9 | exact absurd (by rw [← h_4]; exact h_7) h9 | exact absurd (by rw [← h_5]; exact h_1) h9 | exact absurd (by rw [← h_5]; exact h_2) h9 | exact absurd (by rw [← h_5]; exact h_3) h9 | exact absurd (by rw [← h_5]; exact h_4) h9 | exact absurd (by rw [← h_5]; exact h_7) h9 | exact absurd (by rw [← h_7]; exact h_1) h9 | exact absurd (by rw [← h_7]; exact h_2) h9 | exact absurd (by rw [← h_7]; exact h_3) h9 | exact absurd (by rw [← h_7]; exact h_4) h9 | exact absurd (by rw [← h_7]; exact h_5) h9 | done)
              refine W.eq (g2 := F0 m 89 ls [.int (ga_seal A B T P Y G si.toNatClampNeg ti.toNatClampNeg)]) (by rw [e9]) ?_
              exact W.iret (v := ga_seal A B T P Y G si.toNatClampNeg ti.toNatClampNeg) hx hb hr (fun t9 ht hW => ⟨rfl, ht⟩) (fun z hz => nomatch hz) dX_sealingCause_89
            · 
              refine lv_iconst (v := 1) hx hb dX_sealingCause_72 (by decide) ?_
              refine lv_goto (tgt := 77) hx hb dX_sealingCause_73 (by decide) ?_
              refine lv_istore hx hb dX_sealingCause_77 hl (by decide) rfl (fun ls hl => ?_)
              have hl : lv_has ls 5 [(4, .int (1)), (3, .int (ga_acc B T P Y G ti.toNatClampNeg (A ti.toNatClampNeg) 1 (32))), (0, .ref (q 0)), (1, .int (si)), (2, .int (ti))] := hl
              refine lv_iload hx hb dX_sealingCause_79 (lv_at hl 0 rfl) ?_
              refine lv_if_eq (tgt := 88) hx hb dX_sealingCause_81 (by decide) (fun h_9 => absurd h_9 (by decide)) (fun h_9 => ?_)
              refine lv_iconst (v := 0) hx hb dX_sealingCause_84 (by decide) ?_
              refine lv_goto (tgt := 89) hx hb dX_sealingCause_85 (by decide) ?_
              have e9 : (ga_seal A B T P Y G si.toNatClampNeg ti.toNatClampNeg) = 0 := by (try simp only [decide_eq_true_eq, decide_eq_false_iff_not, Decidable.not_not, Int32.not_lt, Int32.not_le] at h_1); (try simp only [decide_eq_true_eq, decide_eq_false_iff_not, Decidable.not_not, Int32.not_lt, Int32.not_le] at h_2); (try simp only [decide_eq_true_eq, decide_eq_false_iff_not, Decidable.not_not, Int32.not_lt, Int32.not_le] at h_3); (try simp only [decide_eq_true_eq, decide_eq_false_iff_not, Decidable.not_not, Int32.not_lt, Int32.not_le] at h_4); (try simp only [decide_eq_true_eq, decide_eq_false_iff_not, Decidable.not_not, Int32.not_lt, Int32.not_le] at h_5); (try simp only [decide_eq_true_eq, decide_eq_false_iff_not, Decidable.not_not, Int32.not_lt, Int32.not_le] at h_7); unfold ga_seal; simp [h_1, h_2, h_3, h_4, h_5, h_7]; try (intro h9; first | exact absurd h9 (Int32.not_le.mpr h_1) | exact absurd h9 (Int32.not_le.mpr h_2) | exact absurd h9 (Int32.not_le.mpr h_3) | exact absurd h9 (Int32.not_le.mpr h_4) | exact absurd h9 (Int32.not_le.mpr h_5) | exact absurd h9 (Int32.not_le.mpr h_7) | exact h_1 | exact h_2 | exact h_3 | exact h_4 | exact h_5 | exact h_7 | exact absurd (by rw [← h_1]; exact h_2) h9 | exact absurd (by rw [← h_1]; exact h_3) h9 | exact absurd (by rw [← h_1]; exact h_4) h9 | exact absurd (by rw [← h_1]; exact h_5) h9 | exact absurd (by rw [← h_1]; exact h_7) h9 | exact absurd (by rw [← h_2]; exact h_1) h9 | exact absurd (by rw [← h_2]; exact h_3) h9 | exact absurd (by rw [← h_2]; exact h_4) h9 | exact absurd (by rw [← h_2]; exact h_5) h9 | exact absurd (by rw [← h_2]; exact h_7) h9 | exact absurd (by rw [← h_3]; exact h_1) h9 | exact absurd (by rw [← h_3]; exact h_2) h9 | exact absurd (by rw [← h_3]; exact h_4) h9 | exact absurd (by rw [← h_3]; exact h_5) h9 | exact absurd (by rw [← h_3]; exact h_7) h9 | exact absurd (by rw [← h_4]; exact h_1) h9 | exact absurd (by rw [← h_4]; exact h_2) h9 | exact absurd (by rw [← h_4]; exact h_3) h9 | exact absurd (by rw [← h_4]; exact h_5) h9 | exact absurd (by rw [← h_4]; exact h_7) h9 | exact absurd (by rw [← h_5]; exact h_1) h9 | exact absurd (by rw [← h_5]; exact h_2) h9 | exact absurd (by rw [← h_5]; exact h_3) h9 | exact absurd (by rw [← h_5]; exact h_4) h9 | exact absurd (by rw [← h_5]; exact h_7) h9 | exact absurd (by rw [← h_7]; exact h_1) h9 | exact absurd (by rw [← h_7]; exact h_2) h9 | exact absurd (by rw [← h_7]; exact h_3) h9 | exact absurd (by rw [← h_7]; exact h_4) h9 | exact absurd (by rw [← h_7]; exact h_5) h9 | done)
              refine W.eq (g2 := F0 m 89 ls [.int (ga_seal A B T P Y G si.toNatClampNeg ti.toNatClampNeg)]) (by rw [e9]) ?_
              exact W.iret (v := ga_seal A B T P Y G si.toNatClampNeg ti.toNatClampNeg) hx hb hr (fun t9 ht hW => ⟨rfl, ht⟩) (fun z hz => nomatch hz) dX_sealingCause_89
        · 
          refine lv_iload_n hx hb dX_sealingCause_49 rfl (lv_at hl 0 rfl) ?_
          have e9 : (ga_seal A B T P Y G si.toNatClampNeg ti.toNatClampNeg) = ga_acc B T P Y G ti.toNatClampNeg (A ti.toNatClampNeg) 1 (32) := by (try simp only [decide_eq_true_eq, decide_eq_false_iff_not, Decidable.not_not, Int32.not_lt, Int32.not_le] at h_1); (try simp only [decide_eq_true_eq, decide_eq_false_iff_not, Decidable.not_not, Int32.not_lt, Int32.not_le] at h_2); (try simp only [decide_eq_true_eq, decide_eq_false_iff_not, Decidable.not_not, Int32.not_lt, Int32.not_le] at h_3); (try simp only [decide_eq_true_eq, decide_eq_false_iff_not, Decidable.not_not, Int32.not_lt, Int32.not_le] at h_4); unfold ga_seal; simp [h_1, h_2, h_3, h_4]; try (intro h9; first | exact absurd h9 (Int32.not_le.mpr h_1) | exact absurd h9 (Int32.not_le.mpr h_2) | exact absurd h9 (Int32.not_le.mpr h_3) | exact absurd h9 (Int32.not_le.mpr h_4) | exact h_1 | exact h_2 | exact h_3 | exact h_4 | exact absurd (by rw [← h_1]; exact h_2) h9 | exact absurd (by rw [← h_1]; exact h_3) h9 | exact absurd (by rw [← h_1]; exact h_4) h9 | exact absurd (by rw [← h_2]; exact h_1) h9 | exact absurd (by rw [← h_2]; exact h_3) h9 | exact absurd (by rw [← h_2]; exact h_4) h9 | exact absurd (by rw [← h_3]; exact h_1) h9 | exact absurd (by rw [← h_3]; exact h_2) h9 | exact absurd (by rw [← h_3]; exact h_4) h9 | exact absurd (by rw [← h_4]; exact h_1) h9 | exact absurd (by rw [← h_4]; exact h_2) h9 | exact absurd (by rw [← h_4]; exact h_3) h9 | done)
          refine W.eq (g2 := F0 m 50 ls [.int (ga_seal A B T P Y G si.toNatClampNeg ti.toNatClampNeg)]) (by rw [e9]) ?_
          exact W.iret (v := ga_seal A B T P Y G si.toNatClampNeg ti.toNatClampNeg) hx hb hr (fun t9 ht hW => ⟨rfl, ht⟩) (fun z hz => nomatch hz) dX_sealingCause_50
      · have h_3 := bi_n h_3
        refine lv_iconst (v := 2) hx hb dX_sealingCause_28 (by decide) ?_
        have e9 : (ga_seal A B T P Y G si.toNatClampNeg ti.toNatClampNeg) = 2 := by (try simp only [decide_eq_true_eq, decide_eq_false_iff_not, Decidable.not_not, Int32.not_lt, Int32.not_le] at h_1); (try simp only [decide_eq_true_eq, decide_eq_false_iff_not, Decidable.not_not, Int32.not_lt, Int32.not_le] at h_2); (try simp only [decide_eq_true_eq, decide_eq_false_iff_not, Decidable.not_not, Int32.not_lt, Int32.not_le] at h_3); unfold ga_seal; simp [h_1, h_2, h_3]; try (intro h9; first | exact absurd h9 (Int32.not_le.mpr h_1) | exact absurd h9 (Int32.not_le.mpr h_2) | exact absurd h9 (Int32.not_le.mpr h_3) | exact h_1 | exact h_2 | exact h_3 | exact absurd (by rw [← h_1]; exact h_2) h9 | exact absurd (by rw [← h_1]; exact h_3) h9 | exact absurd (by rw [← h_2]; exact h_1) h9 | exact absurd (by rw [← h_2]; exact h_3) h9 | exact absurd (by rw [← h_3]; exact h_1) h9 | exact absurd (by rw [← h_3]; exact h_2) h9 | done)
        refine W.eq (g2 := F0 m 29 ls [.int (ga_seal A B T P Y G si.toNatClampNeg ti.toNatClampNeg)]) (by rw [e9]) ?_
        exact W.iret (v := ga_seal A B T P Y G si.toNatClampNeg ti.toNatClampNeg) hx hb hr (fun t9 ht hW => ⟨rfl, ht⟩) (fun z hz => nomatch hz) dX_sealingCause_29
    · have h_2 := bi_0 h_2
      refine lv_iconst (v := 1) hx hb dX_sealingCause_18 (by decide) ?_
      have e9 : (ga_seal A B T P Y G si.toNatClampNeg ti.toNatClampNeg) = 1 := by (try simp only [decide_eq_true_eq, decide_eq_false_iff_not, Decidable.not_not, Int32.not_lt, Int32.not_le] at h_1); (try simp only [decide_eq_true_eq, decide_eq_false_iff_not, Decidable.not_not, Int32.not_lt, Int32.not_le] at h_2); unfold ga_seal; simp [h_1, h_2]; try (intro h9; first | exact absurd h9 (Int32.not_le.mpr h_1) | exact absurd h9 (Int32.not_le.mpr h_2) | exact h_1 | exact h_2 | exact absurd (by rw [← h_1]; exact h_2) h9 | exact absurd (by rw [← h_2]; exact h_1) h9 | done)
      refine W.eq (g2 := F0 m 19 ls [.int (ga_seal A B T P Y G si.toNatClampNeg ti.toNatClampNeg)]) (by rw [e9]) ?_
      exact W.iret (v := ga_seal A B T P Y G si.toNatClampNeg ti.toNatClampNeg) hx hb hr (fun t9 ht hW => ⟨rfl, ht⟩) (fun z hz => nomatch hz) dX_sealingCause_19

set_option maxRecDepth 100000 in
set_option maxHeartbeats 4000000 in
theorem mX_unsealingCause (l : Launch) (D : va_G) (cI cZ : ClassId) (q : Nat → Nat) (A B T P Y : Nat → Int32) (G : Nat → Bool) (si ti : Int32) (hsi : vp_in si 16) (hti : vp_in ti 16) : Met l yX_unsealingCause (Cond.code yX_unsealingCause cX_unsealingCause 4 (some .int) :: gw) (rmk 3 0 0) (va_Pc [.ref (q 0), .int (si), .int (ti)] (rB D vwCl (xW cI cZ q A B T P Y G) (tsX cI cZ))) (k2_QcV (.int (ga_open A B T P Y G si.toNatClampNeg ti.toNatClampNeg))) 0 0 (fun _ => False) := by
  refine Met.ofW (cc := cX_unsealingCause) (maxL := 4) (ret := (some .int)) (by decide) rfl ?_
  intro p e s m args below meth c s₁ B9 hml hv
  obtain ⟨rfl, hP, hK⟩ := hv
  have hx := B9.exec
  have hb := B9.bytes
  have hr := B9.returns
  have hts := fun (w : Cond) (h : w ∈ gw) => atoms_spec (ws := _ :: gw) B9.pre w (List.mem_cons_of_mem _ h)
  have hown : s.vm.findClass RX = some m.cls := findClass_of_methodNamed B9.named
  have hlocks := B9.notSynchronized
  have hl := lv_entry ([.ref (q 0), .int (si), .int (ti)]) (n := 4) (Nat.le_of_ble_eq_true rfl)
  rw [lg_entry_eq]
  generalize (lg_sl ([.ref (q 0), .int (si), .int (ti)]) ++ List.replicate (4 - (lg_sl ([.ref (q 0), .int (si), .int (ti)])).length) Slot.unset).toArray = ls at hl ⊢
  have hl : lv_has ls 4 [(0, .ref (q 0)), (1, .int (si)), (2, .int (ti))] := hl
  refine lv_aload_n hx hb dX_unsealingCause_0 rfl (lv_at hl 0 rfl) ?_
  refine va_get (D := D) (ci := 0) (v := .ref (q 6)) (C := RX) (T := TX) (N := 6) hx hb hts inX hown hK hP 0 rfl rfl 5 (by decide) (hts _ w_34) (fun _ h9 => h9) rfl dX_unsealingCause_1 ?_
  refine lv_iload_n hx hb dX_unsealingCause_4 rfl (lv_at hl 1 rfl) ?_
  refine va_zald hx hb hK hP 6 1 rfl rfl hsi dX_unsealingCause_5 ?_
  refine W.eq (g2 := F0 m 6 ls [.int (bi (G si.toNatClampNeg))]) rfl ?_
  refine lv_if_eq (tgt := 18) hx hb dX_unsealingCause_6 (by decide) (fun h_1 => ?_) (fun h_1 => ?_)
  · have h_1 := bi_0 h_1
    refine lv_iconst (v := 1) hx hb dX_unsealingCause_18 (by decide) ?_
    have e9 : (ga_open A B T P Y G si.toNatClampNeg ti.toNatClampNeg) = 1 := by (try simp only [decide_eq_true_eq, decide_eq_false_iff_not, Decidable.not_not, Int32.not_lt, Int32.not_le] at h_1); unfold ga_open; simp [h_1]; try (intro h9; first | exact absurd h9 (Int32.not_le.mpr h_1) | exact h_1 | done)
    refine W.eq (g2 := F0 m 19 ls [.int (ga_open A B T P Y G si.toNatClampNeg ti.toNatClampNeg)]) (by rw [e9]) ?_
    exact W.iret (v := ga_open A B T P Y G si.toNatClampNeg ti.toNatClampNeg) hx hb hr (fun t9 ht hW => ⟨rfl, ht⟩) (fun z hz => nomatch hz) dX_unsealingCause_19
  · have h_1 := bi_n h_1
    refine lv_aload_n hx hb dX_unsealingCause_9 rfl (lv_at hl 0 rfl) ?_
    refine va_get (D := D) (ci := 0) (v := .ref (q 6)) (C := RX) (T := TX) (N := 6) hx hb hts inX hown hK hP 0 rfl rfl 5 (by decide) (hts _ w_34) (fun _ h9 => h9) rfl dX_unsealingCause_10 ?_
    refine lv_iload_n hx hb dX_unsealingCause_13 rfl (lv_at hl 2 rfl) ?_
    refine va_zald hx hb hK hP 6 1 rfl rfl hti dX_unsealingCause_14 ?_
    refine W.eq (g2 := F0 m 15 ls [.int (bi (G ti.toNatClampNeg))]) rfl ?_
    refine lv_if_ne (tgt := 20) hx hb dX_unsealingCause_15 (by decide) (fun h_2 => ?_) (fun h_2 => ?_)
    · have h_2 := bi_n h_2
      refine lv_aload_n hx hb dX_unsealingCause_20 rfl (lv_at hl 0 rfl) ?_
      refine lv_iload_n hx hb dX_unsealingCause_21 rfl (lv_at hl 1 rfl) ?_
      refine kr_V 1 (b := q 0) (As := [.int (si)]) (rest := []) (r := .int (bi (decide (¬ Y si.toNatClampNeg = 0)))) hx hb hml hown hts hl.1 (mX_isSealed l D cI cZ q A B T P Y G (si) hsi) rB_stb ⟨hP, hK⟩ (gw_V w_58 w_60 w_1 w_14 w_61) (by decide) ⟨rfl, rfl⟩ ⟨Nat.le_of_ble_eq_true rfl, Nat.le_of_ble_eq_true rfl⟩ (va_recv hK hP (ci := 0) rfl (q0 := 0) rfl) rfl rfl (Nat.le_of_ble_eq_true rfl) dX_unsealingCause_22 ⟨Nat.zero_le _, Nat.zero_le _⟩ ?_
      refine lv_if_ne (tgt := 30) hx hb dX_unsealingCause_25 (by decide) (fun h_3 => ?_) (fun h_3 => ?_)
      · have h_3 := bi_n h_3
        refine lv_aload_n hx hb dX_unsealingCause_30 rfl (lv_at hl 0 rfl) ?_
        refine lv_iload_n hx hb dX_unsealingCause_31 rfl (lv_at hl 2 rfl) ?_
        refine lv_aload_n hx hb dX_unsealingCause_32 rfl (lv_at hl 0 rfl) ?_
        refine va_get (D := D) (ci := 0) (v := .ref (q 1)) (C := RX) (T := TX) (N := 6) hx hb hts inX hown hK hP 0 rfl rfl 0 (by decide) (hts _ w_29) (fun _ h9 => h9) rfl dX_unsealingCause_33 ?_
        refine lv_iload_n hx hb dX_unsealingCause_36 rfl (lv_at hl 2 rfl) ?_
        refine va_iald hx hb hK hP 1 0 rfl rfl hti dX_unsealingCause_37 ?_
        refine lv_iconst (v := 1) hx hb dX_unsealingCause_38 (by decide) ?_
        refine lv_bipush (v := 64) hx hb dX_unsealingCause_39 (by decide) ?_
        refine kr_V 4 (b := q 0) (As := [.int (ti), .int (A ti.toNatClampNeg), .int (1), .int (64)]) (rest := []) (r := .int (ga_acc B T P Y G ti.toNatClampNeg (A ti.toNatClampNeg) 1 (64))) hx hb hml hown hts hl.1 (mX_accessCause l D cI cZ q A B T P Y G (ti) (A ti.toNatClampNeg) 1 (64) hti (by first | decide | omega)) rB_stb ⟨hP, hK⟩ (gw_V w_54 w_56 w_0 w_14 w_57) (by decide) ⟨rfl, rfl⟩ ⟨Nat.le_of_ble_eq_true rfl, Nat.le_of_ble_eq_true rfl⟩ (va_recv hK hP (ci := 0) rfl (q0 := 0) rfl) rfl rfl (Nat.le_of_ble_eq_true rfl) dX_unsealingCause_41 ⟨Nat.zero_le _, Nat.zero_le _⟩ ?_
        refine lv_istore_n hx hb dX_unsealingCause_44 rfl hl (by decide) rfl (fun ls hl => ?_)
        have hl : lv_has ls 4 [(3, .int (ga_acc B T P Y G ti.toNatClampNeg (A ti.toNatClampNeg) 1 (64))), (0, .ref (q 0)), (1, .int (si)), (2, .int (ti))] := hl
        refine lv_iload_n hx hb dX_unsealingCause_45 rfl (lv_at hl 0 rfl) ?_
        refine lv_if_eq (tgt := 51) hx hb dX_unsealingCause_46 (by decide) (fun h_4 => ?_) (fun h_4 => ?_)
        · 
          refine lv_aload_n hx hb dX_unsealingCause_51 rfl (lv_at hl 1 rfl) ?_
          refine va_get (D := D) (ci := 0) (v := .ref (q 1)) (C := RX) (T := TX) (N := 6) hx hb hts inX hown hK hP 0 rfl rfl 0 (by decide) (hts _ w_29) (fun _ h9 => h9) rfl dX_unsealingCause_52 ?_
          refine lv_iload_n hx hb dX_unsealingCause_55 rfl (lv_at hl 3 rfl) ?_
          refine va_iald hx hb hK hP 1 0 rfl rfl hti dX_unsealingCause_56 ?_
          refine lv_aload_n hx hb dX_unsealingCause_57 rfl (lv_at hl 1 rfl) ?_
          refine va_get (D := D) (ci := 0) (v := .ref (q 5)) (C := RX) (T := TX) (N := 6) hx hb hts inX hown hK hP 0 rfl rfl 4 (by decide) (hts _ w_33) (fun _ h9 => h9) rfl dX_unsealingCause_58 ?_
          refine lv_iload_n hx hb dX_unsealingCause_61 rfl (lv_at hl 2 rfl) ?_
          refine va_iald hx hb hK hP 5 0 rfl rfl hsi dX_unsealingCause_62 ?_
          refine lv_icmp_ne (tgt := 70) hx hb dX_unsealingCause_63 (by decide) (fun h_5 => ?_) (fun h_5 => ?_)
          · 
            refine lv_iconst (v := 4) hx hb dX_unsealingCause_70 (by decide) ?_
            have e9 : (ga_open A B T P Y G si.toNatClampNeg ti.toNatClampNeg) = 4 := by (try simp only [decide_eq_true_eq, decide_eq_false_iff_not, Decidable.not_not, Int32.not_lt, Int32.not_le] at h_1); (try simp only [decide_eq_true_eq, decide_eq_false_iff_not, Decidable.not_not, Int32.not_lt, Int32.not_le] at h_2); (try simp only [decide_eq_true_eq, decide_eq_false_iff_not, Decidable.not_not, Int32.not_lt, Int32.not_le] at h_3); (try simp only [decide_eq_true_eq, decide_eq_false_iff_not, Decidable.not_not, Int32.not_lt, Int32.not_le] at h_4); (try simp only [decide_eq_true_eq, decide_eq_false_iff_not, Decidable.not_not, Int32.not_lt, Int32.not_le] at h_5); unfold ga_open; simp [h_1, h_2, h_3, h_4, h_5]; try (intro h9; first | exact absurd h9 (Int32.not_le.mpr h_1) | exact absurd h9 (Int32.not_le.mpr h_2) | exact absurd h9 (Int32.not_le.mpr h_3) | exact absurd h9 (Int32.not_le.mpr h_4) | exact absurd h9 (Int32.not_le.mpr h_5) | exact h_1 | exact h_2 | exact h_3 | exact h_4 | exact h_5 | exact absurd (by rw [← h_1]; exact h_2) h9 | exact absurd (by rw [← h_1]; exact h_3) h9 | exact absurd (by rw [← h_1]; exact h_4) h9 | exact absurd (by rw [← h_1]; exact h_5) h9 | exact absurd (by rw [← h_2]; exact h_1) h9 | exact absurd (by rw [← h_2]; exact h_3) h9 | exact absurd (by rw [← h_2]; exact h_4) h9 | exact absurd (by rw [← h_2]; exact h_5) h9 | exact absurd (by rw [← h_3]; exact h_1) h9 | exact absurd (by rw [← h_3]; exact h_2) h9 | exact absurd (by rw [← h_3]; exact h_4) h9 | exact absurd (by rw [← h_3]; exact h_5) h9 | exact absurd (by rw [← h_4]; exact h_1) h9 | exact absurd (by rw [← h_4]; exact h_2) h9 | exact absurd (by rw [← h_4]; exact h_3) h9 | exact absurd (by rw [← h_4]; exact h_5) h9 | exact absurd (by rw [← h_5]; exact h_1) h9 | exact absurd (by rw [← h_5]; exact h_2) h9 | exact absurd (by rw [← h_5]; exact h_3) h9 | exact absurd (by rw [← h_5]; exact h_4) h9 | done)
            refine W.eq (g2 := F0 m 71 ls [.int (ga_open A B T P Y G si.toNatClampNeg ti.toNatClampNeg)]) (by rw [e9]) ?_
            exact W.iret (v := ga_open A B T P Y G si.toNatClampNeg ti.toNatClampNeg) hx hb hr (fun t9 ht hW => ⟨rfl, ht⟩) (fun z hz => nomatch hz) dX_unsealingCause_71
          · 
            refine lv_iconst (v := 0) hx hb dX_unsealingCause_66 (by decide) ?_
            refine lv_goto (tgt := 71) hx hb dX_unsealingCause_67 (by decide) ?_
            have e9 : (ga_open A B T P Y G si.toNatClampNeg ti.toNatClampNeg) = 0 := by (try simp only [decide_eq_true_eq, decide_eq_false_iff_not, Decidable.not_not, Int32.not_lt, Int32.not_le] at h_1); (try simp only [decide_eq_true_eq, decide_eq_false_iff_not, Decidable.not_not, Int32.not_lt, Int32.not_le] at h_2); (try simp only [decide_eq_true_eq, decide_eq_false_iff_not, Decidable.not_not, Int32.not_lt, Int32.not_le] at h_3); (try simp only [decide_eq_true_eq, decide_eq_false_iff_not, Decidable.not_not, Int32.not_lt, Int32.not_le] at h_4); (try simp only [decide_eq_true_eq, decide_eq_false_iff_not, Decidable.not_not, Int32.not_lt, Int32.not_le] at h_5); unfold ga_open; simp [h_1, h_2, h_3, h_4, h_5]; try (intro h9; first | exact absurd h9 (Int32.not_le.mpr h_1) | exact absurd h9 (Int32.not_le.mpr h_2) | exact absurd h9 (Int32.not_le.mpr h_3) | exact absurd h9 (Int32.not_le.mpr h_4) | exact absurd h9 (Int32.not_le.mpr h_5) | exact h_1 | exact h_2 | exact h_3 | exact h_4 | exact h_5 | exact absurd (by rw [← h_1]; exact h_2) h9 | exact absurd (by rw [← h_1]; exact h_3) h9 | exact absurd (by rw [← h_1]; exact h_4) h9 | exact absurd (by rw [← h_1]; exact h_5) h9 | exact absurd (by rw [← h_2]; exact h_1) h9 | exact absurd (by rw [← h_2]; exact h_3) h9 | exact absurd (by rw [← h_2]; exact h_4) h9 | exact absurd (by rw [← h_2]; exact h_5) h9 | exact absurd (by rw [← h_3]; exact h_1) h9 | exact absurd (by rw [← h_3]; exact h_2) h9 | exact absurd (by rw [← h_3]; exact h_4) h9 | exact absurd (by rw [← h_3]; exact h_5) h9 | exact absurd (by rw [← h_4]; exact h_1) h9 | exact absurd (by rw [← h_4]; exact h_2) h9 | exact absurd (by rw [← h_4]; exact h_3) h9 | exact absurd (by rw [← h_4]; exact h_5) h9 | exact absurd (by rw [← h_5]; exact h_1) h9 | exact absurd (by rw [← h_5]; exact h_2) h9 | exact absurd (by rw [← h_5]; exact h_3) h9 | exact absurd (by rw [← h_5]; exact h_4) h9 | done)
            refine W.eq (g2 := F0 m 71 ls [.int (ga_open A B T P Y G si.toNatClampNeg ti.toNatClampNeg)]) (by rw [e9]) ?_
            exact W.iret (v := ga_open A B T P Y G si.toNatClampNeg ti.toNatClampNeg) hx hb hr (fun t9 ht hW => ⟨rfl, ht⟩) (fun z hz => nomatch hz) dX_unsealingCause_71
        · 
          refine lv_iload_n hx hb dX_unsealingCause_49 rfl (lv_at hl 0 rfl) ?_
          have e9 : (ga_open A B T P Y G si.toNatClampNeg ti.toNatClampNeg) = ga_acc B T P Y G ti.toNatClampNeg (A ti.toNatClampNeg) 1 (64) := by (try simp only [decide_eq_true_eq, decide_eq_false_iff_not, Decidable.not_not, Int32.not_lt, Int32.not_le] at h_1); (try simp only [decide_eq_true_eq, decide_eq_false_iff_not, Decidable.not_not, Int32.not_lt, Int32.not_le] at h_2); (try simp only [decide_eq_true_eq, decide_eq_false_iff_not, Decidable.not_not, Int32.not_lt, Int32.not_le] at h_3); (try simp only [decide_eq_true_eq, decide_eq_false_iff_not, Decidable.not_not, Int32.not_lt, Int32.not_le] at h_4); unfold ga_open; simp [h_1, h_2, h_3, h_4]; try (intro h9; first | exact absurd h9 (Int32.not_le.mpr h_1) | exact absurd h9 (Int32.not_le.mpr h_2) | exact absurd h9 (Int32.not_le.mpr h_3) | exact absurd h9 (Int32.not_le.mpr h_4) | exact h_1 | exact h_2 | exact h_3 | exact h_4 | exact absurd (by rw [← h_1]; exact h_2) h9 | exact absurd (by rw [← h_1]; exact h_3) h9 | exact absurd (by rw [← h_1]; exact h_4) h9 | exact absurd (by rw [← h_2]; exact h_1) h9 | exact absurd (by rw [← h_2]; exact h_3) h9 | exact absurd (by rw [← h_2]; exact h_4) h9 | exact absurd (by rw [← h_3]; exact h_1) h9 | exact absurd (by rw [← h_3]; exact h_2) h9 | exact absurd (by rw [← h_3]; exact h_4) h9 | exact absurd (by rw [← h_4]; exact h_1) h9 | exact absurd (by rw [← h_4]; exact h_2) h9 | exact absurd (by rw [← h_4]; exact h_3) h9 | done)
          refine W.eq (g2 := F0 m 50 ls [.int (ga_open A B T P Y G si.toNatClampNeg ti.toNatClampNeg)]) (by rw [e9]) ?_
          exact W.iret (v := ga_open A B T P Y G si.toNatClampNeg ti.toNatClampNeg) hx hb hr (fun t9 ht hW => ⟨rfl, ht⟩) (fun z hz => nomatch hz) dX_unsealingCause_50
      · have h_3 := bi_0 h_3
        refine lv_iconst (v := 2) hx hb dX_unsealingCause_28 (by decide) ?_
        have e9 : (ga_open A B T P Y G si.toNatClampNeg ti.toNatClampNeg) = 2 := by (try simp only [decide_eq_true_eq, decide_eq_false_iff_not, Decidable.not_not, Int32.not_lt, Int32.not_le] at h_1); (try simp only [decide_eq_true_eq, decide_eq_false_iff_not, Decidable.not_not, Int32.not_lt, Int32.not_le] at h_2); (try simp only [decide_eq_true_eq, decide_eq_false_iff_not, Decidable.not_not, Int32.not_lt, Int32.not_le] at h_3); unfold ga_open; simp [h_1, h_2, h_3]; try (intro h9; first | exact absurd h9 (Int32.not_le.mpr h_1) | exact absurd h9 (Int32.not_le.mpr h_2) | exact absurd h9 (Int32.not_le.mpr h_3) | exact h_1 | exact h_2 | exact h_3 | exact absurd (by rw [← h_1]; exact h_2) h9 | exact absurd (by rw [← h_1]; exact h_3) h9 | exact absurd (by rw [← h_2]; exact h_1) h9 | exact absurd (by rw [← h_2]; exact h_3) h9 | exact absurd (by rw [← h_3]; exact h_1) h9 | exact absurd (by rw [← h_3]; exact h_2) h9 | done)
        refine W.eq (g2 := F0 m 29 ls [.int (ga_open A B T P Y G si.toNatClampNeg ti.toNatClampNeg)]) (by rw [e9]) ?_
        exact W.iret (v := ga_open A B T P Y G si.toNatClampNeg ti.toNatClampNeg) hx hb hr (fun t9 ht hW => ⟨rfl, ht⟩) (fun z hz => nomatch hz) dX_unsealingCause_29
    · have h_2 := bi_0 h_2
      refine lv_iconst (v := 1) hx hb dX_unsealingCause_18 (by decide) ?_
      have e9 : (ga_open A B T P Y G si.toNatClampNeg ti.toNatClampNeg) = 1 := by (try simp only [decide_eq_true_eq, decide_eq_false_iff_not, Decidable.not_not, Int32.not_lt, Int32.not_le] at h_1); (try simp only [decide_eq_true_eq, decide_eq_false_iff_not, Decidable.not_not, Int32.not_lt, Int32.not_le] at h_2); unfold ga_open; simp [h_1, h_2]; try (intro h9; first | exact absurd h9 (Int32.not_le.mpr h_1) | exact absurd h9 (Int32.not_le.mpr h_2) | exact h_1 | exact h_2 | exact absurd (by rw [← h_1]; exact h_2) h9 | exact absurd (by rw [← h_2]; exact h_1) h9 | done)
      refine W.eq (g2 := F0 m 19 ls [.int (ga_open A B T P Y G si.toNatClampNeg ti.toNatClampNeg)]) (by rw [e9]) ?_
      exact W.iret (v := ga_open A B T P Y G si.toNatClampNeg ti.toNatClampNeg) hx hb hr (fun t9 ht hW => ⟨rfl, ht⟩) (fun z hz => nomatch hz) dX_unsealingCause_19
end
section
/-! Contracts of GrantMath: allows, within, part, count. Laid by program (wip/whole/gen_x3.py). -/
set_option maxRecDepth 100000 in
set_option maxHeartbeats 4000000 in
theorem mX_allows (l : Launch) (D : va_G) (cI cZ : ClassId) (q : Nat → Nat) (A B T P Y : Nat → Int32) (G : Nat → Bool) (ri by9 : Int32) (n : Nat) (w : Int32) (hri : vp_in ri 16) (hn : n ≤ 65536) : Met l yX_allows (Cond.code yX_allows cX_allows 5 (some .int) :: gw) (rmk 3 0 0) (va_Pc [.ref (q 0), .int (ri), .int (by9), .int (nI n), .int (w)] (rB D vwCl (xW cI cZ q A B T P Y G) (tsX cI cZ))) (k2_QcV (.int (ga_acc B T P Y G ri.toNatClampNeg ((A ri.toNatClampNeg) + (by9)) n w))) 0 0 (fun _ => False) := by
  refine Met.ofW (cc := cX_allows) (maxL := 5) (ret := (some .int)) (by decide) rfl ?_
  intro p e s m args below meth c s₁ B9 hml hv
  obtain ⟨rfl, hP, hK⟩ := hv
  have hx := B9.exec
  have hb := B9.bytes
  have hr := B9.returns
  have hts := fun (w : Cond) (h : w ∈ gw) => atoms_spec (ws := _ :: gw) B9.pre w (List.mem_cons_of_mem _ h)
  have hown : s.vm.findClass RX = some m.cls := findClass_of_methodNamed B9.named
  have hlocks := B9.notSynchronized
  have hl := lv_entry ([.ref (q 0), .int (ri), .int (by9), .int (nI n), .int (w)]) (n := 5) (Nat.le_of_ble_eq_true rfl)
  rw [lg_entry_eq]
  generalize (lg_sl ([.ref (q 0), .int (ri), .int (by9), .int (nI n), .int (w)]) ++ List.replicate (5 - (lg_sl ([.ref (q 0), .int (ri), .int (by9), .int (nI n), .int (w)])).length) Slot.unset).toArray = ls at hl ⊢
  have hl : lv_has ls 5 [(0, .ref (q 0)), (1, .int (ri)), (2, .int (by9)), (3, .int (nI n)), (4, .int (w))] := hl
  refine lv_iload_n hx hb dX_allows_0 rfl (lv_at hl 3 rfl) ?_
  refine lv_if_lt (tgt := 10) hx hb dX_allows_1 (by decide) (fun h_1 => absurd h_1 (nI_pos (by omega))) (fun h_1 => ?_)
  refine lv_iload_n hx hb dX_allows_4 rfl (lv_at hl 3 rfl) ?_
  refine lv_ldc (v := 65536) hx hb hown (hts _ w_232) dX_allows_5 ?_
  refine lv_icmp_le (tgt := 20) hx hb dX_allows_7 (by decide) (fun h_2 => ?_) (fun h_2 => absurd (show nI n ≤ 65536 from nI_le hn (by decide)) h_2)
  refine lv_iload_n hx hb dX_allows_20 rfl (lv_at hl 1 rfl) ?_
  refine kr_Sv 1 (As := [.int (ri)]) (rest := []) hx hb hml hown hts hl.1 (mX_requireGrant l (ri) hri) tt_stb trivial (gw_S w_151 w_152 w_14 w_153) (by decide) ⟨rfl, rfl⟩ ⟨Nat.le_of_ble_eq_true rfl, Nat.le_of_ble_eq_true rfl⟩ rfl rfl (Nat.le_of_ble_eq_true rfl) dX_allows_21 ⟨Nat.zero_le _, Nat.zero_le _⟩ ?_
  refine lv_aload_n hx hb dX_allows_24 rfl (lv_at hl 0 rfl) ?_
  refine lv_iload_n hx hb dX_allows_25 rfl (lv_at hl 1 rfl) ?_
  refine lv_aload_n hx hb dX_allows_26 rfl (lv_at hl 0 rfl) ?_
  refine va_get (D := D) (ci := 0) (v := .ref (q 1)) (C := RX) (T := TX) (N := 6) hx hb hts inX hown hK hP 0 rfl rfl 0 (by decide) (hts _ w_29) (fun _ h9 => h9) rfl dX_allows_27 ?_
  refine lv_iload_n hx hb dX_allows_30 rfl (lv_at hl 1 rfl) ?_
  refine va_iald hx hb hK hP 1 0 rfl rfl hri dX_allows_31 ?_
  refine lv_iload_n hx hb dX_allows_32 rfl (lv_at hl 2 rfl) ?_
  refine lv_iadd hx hb dX_allows_33 ?_
  refine lv_iload_n hx hb dX_allows_34 rfl (lv_at hl 3 rfl) ?_
  refine lv_iload hx hb dX_allows_35 (lv_at hl 4 rfl) ?_
  refine kr_V 4 (b := q 0) (As := [.int (ri), .int ((A ri.toNatClampNeg) + (by9)), .int (nI n), .int (w)]) (rest := []) (r := .int (ga_acc B T P Y G ri.toNatClampNeg ((A ri.toNatClampNeg) + (by9)) n (w))) hx hb hml hown hts hl.1 (mX_accessCause l D cI cZ q A B T P Y G (ri) ((A ri.toNatClampNeg) + (by9)) n (w) hri (by first | decide | omega)) rB_stb ⟨hP, hK⟩ (gw_V w_54 w_56 w_0 w_14 w_57) (by decide) ⟨rfl, rfl⟩ ⟨Nat.le_of_ble_eq_true rfl, Nat.le_of_ble_eq_true rfl⟩ (va_recv hK hP (ci := 0) rfl (q0 := 0) rfl) rfl rfl (Nat.le_of_ble_eq_true rfl) dX_allows_37 ⟨Nat.zero_le _, Nat.zero_le _⟩ ?_
  exact W.iret (v := ga_acc B T P Y G ri.toNatClampNeg ((A ri.toNatClampNeg) + (by9)) n (w)) hx hb hr (fun t9 ht hW => ⟨rfl, ht⟩) (fun z hz => nomatch hz) dX_allows_40

set_option maxRecDepth 100000 in
set_option maxHeartbeats 4000000 in
theorem mX_within (l : Launch) (D : va_G) (cI cZ : ClassId) (q : Nat → Nat) (A B T P Y : Nat → Int32) (G : Nat → Bool) (ri si : Int32) (hri : vp_in ri 16) (hsi : vp_in si 16) : Met l yX_within (Cond.code yX_within cX_within 3 (some .boolean) :: gw) (rmk 1 0 0) (va_Pc [.ref (q 0), .int (ri), .int (si)] (rB D vwCl (xW cI cZ q A B T P Y G) (tsX cI cZ))) (k2_QcV (.int (bi (ga_with B T P G ri.toNatClampNeg si.toNatClampNeg)))) 0 0 (fun _ => False) := by
  refine Met.ofW (cc := cX_within) (maxL := 3) (ret := (some .boolean)) (by decide) rfl ?_
  intro p e s m args below meth c s₁ B9 hml hv
  obtain ⟨rfl, hP, hK⟩ := hv
  have hx := B9.exec
  have hb := B9.bytes
  have hr := B9.returns
  have hts := fun (w : Cond) (h : w ∈ gw) => atoms_spec (ws := _ :: gw) B9.pre w (List.mem_cons_of_mem _ h)
  have hown : s.vm.findClass RX = some m.cls := findClass_of_methodNamed B9.named
  have hlocks := B9.notSynchronized
  have hl := lv_entry ([.ref (q 0), .int (ri), .int (si)]) (n := 3) (Nat.le_of_ble_eq_true rfl)
  rw [lg_entry_eq]
  generalize (lg_sl ([.ref (q 0), .int (ri), .int (si)]) ++ List.replicate (3 - (lg_sl ([.ref (q 0), .int (ri), .int (si)])).length) Slot.unset).toArray = ls at hl ⊢
  have hl : lv_has ls 3 [(0, .ref (q 0)), (1, .int (ri)), (2, .int (si))] := hl
  refine lv_iload_n hx hb dX_within_0 rfl (lv_at hl 1 rfl) ?_
  refine kr_Sv 1 (As := [.int (ri)]) (rest := []) hx hb hml hown hts hl.1 (mX_requireGrant l (ri) hri) tt_stb trivial (gw_S w_151 w_152 w_14 w_153) (by decide) ⟨rfl, rfl⟩ ⟨Nat.le_of_ble_eq_true rfl, Nat.le_of_ble_eq_true rfl⟩ rfl rfl (Nat.le_of_ble_eq_true rfl) dX_within_1 ⟨Nat.zero_le _, Nat.zero_le _⟩ ?_
  refine lv_iload_n hx hb dX_within_4 rfl (lv_at hl 2 rfl) ?_
  refine kr_Sv 1 (As := [.int (si)]) (rest := []) hx hb hml hown hts hl.1 (mX_requireGrant l (si) hsi) tt_stb trivial (gw_S w_151 w_152 w_14 w_153) (by decide) ⟨rfl, rfl⟩ ⟨Nat.le_of_ble_eq_true rfl, Nat.le_of_ble_eq_true rfl⟩ rfl rfl (Nat.le_of_ble_eq_true rfl) dX_within_5 ⟨Nat.zero_le _, Nat.zero_le _⟩ ?_
  refine lv_aload_n hx hb dX_within_8 rfl (lv_at hl 0 rfl) ?_
  refine va_get (D := D) (ci := 0) (v := .ref (q 6)) (C := RX) (T := TX) (N := 6) hx hb hts inX hown hK hP 0 rfl rfl 5 (by decide) (hts _ w_34) (fun _ h9 => h9) rfl dX_within_9 ?_
  refine lv_iload_n hx hb dX_within_12 rfl (lv_at hl 1 rfl) ?_
  refine va_zald hx hb hK hP 6 1 rfl rfl hri dX_within_13 ?_
  refine W.eq (g2 := F0 m 14 ls [.int (bi (G ri.toNatClampNeg))]) rfl ?_
  refine lv_if_eq (tgt := 88) hx hb dX_within_14 (by decide) (fun h_1 => ?_) (fun h_1 => ?_)
  · have h_1 := bi_0 h_1
    refine lv_iconst (v := 0) hx hb dX_within_88 (by decide) ?_
    have e9 : (ga_with B T P G ri.toNatClampNeg si.toNatClampNeg) = false := by unfold ga_with; simp [h_1]
    refine W.eq (g2 := F0 m 89 ls [.int (bi (ga_with B T P G ri.toNatClampNeg si.toNatClampNeg))]) (by rw [e9]; rfl) ?_
    exact W.zret (v := bi (ga_with B T P G ri.toNatClampNeg si.toNatClampNeg)) hx hb hr (bi_nar _) (fun t9 ht hW => ⟨rfl, ht⟩) (fun z hz => nomatch hz) dX_within_89
  · have h_1 := bi_n h_1
    refine lv_aload_n hx hb dX_within_17 rfl (lv_at hl 0 rfl) ?_
    refine va_get (D := D) (ci := 0) (v := .ref (q 6)) (C := RX) (T := TX) (N := 6) hx hb hts inX hown hK hP 0 rfl rfl 5 (by decide) (hts _ w_34) (fun _ h9 => h9) rfl dX_within_18 ?_
    refine lv_iload_n hx hb dX_within_21 rfl (lv_at hl 2 rfl) ?_
    refine va_zald hx hb hK hP 6 1 rfl rfl hsi dX_within_22 ?_
    refine W.eq (g2 := F0 m 23 ls [.int (bi (G si.toNatClampNeg))]) rfl ?_
    refine lv_if_eq (tgt := 88) hx hb dX_within_23 (by decide) (fun h_2 => ?_) (fun h_2 => ?_)
    · have h_2 := bi_0 h_2
      refine lv_iconst (v := 0) hx hb dX_within_88 (by decide) ?_
      have e9 : (ga_with B T P G ri.toNatClampNeg si.toNatClampNeg) = false := by unfold ga_with; simp [h_1, h_2]
      refine W.eq (g2 := F0 m 89 ls [.int (bi (ga_with B T P G ri.toNatClampNeg si.toNatClampNeg))]) (by rw [e9]; rfl) ?_
      exact W.zret (v := bi (ga_with B T P G ri.toNatClampNeg si.toNatClampNeg)) hx hb hr (bi_nar _) (fun t9 ht hW => ⟨rfl, ht⟩) (fun z hz => nomatch hz) dX_within_89
    · have h_2 := bi_n h_2
      refine lv_aload_n hx hb dX_within_26 rfl (lv_at hl 0 rfl) ?_
      refine va_get (D := D) (ci := 0) (v := .ref (q 2)) (C := RX) (T := TX) (N := 6) hx hb hts inX hown hK hP 0 rfl rfl 1 (by decide) (hts _ w_30) (fun _ h9 => h9) rfl dX_within_27 ?_
      refine lv_iload_n hx hb dX_within_30 rfl (lv_at hl 1 rfl) ?_
      refine va_iald hx hb hK hP 2 0 rfl rfl hri dX_within_31 ?_
      refine kr_S 1 (As := [.int (B ri.toNatClampNeg)]) (rest := []) (r := .long (uw (B ri.toNatClampNeg))) hx hb hml hown hts hl.1 (mX_unsigned l (B ri.toNatClampNeg)) tt_stb trivial (gw_S w_70 w_71 w_14 w_72) (by decide) ⟨rfl, rfl⟩ ⟨Nat.le_of_ble_eq_true rfl, Nat.le_of_ble_eq_true rfl⟩ rfl rfl (Nat.le_of_ble_eq_true rfl) dX_within_32 ⟨Nat.zero_le _, Nat.zero_le _⟩ ?_
      refine lv_aload_n hx hb dX_within_35 rfl (lv_at hl 0 rfl) ?_
      refine va_get (D := D) (ci := 0) (v := .ref (q 2)) (C := RX) (T := TX) (N := 6) hx hb hts inX hown hK hP 0 rfl rfl 1 (by decide) (hts _ w_30) (fun _ h9 => h9) rfl dX_within_36 ?_
      refine lv_iload_n hx hb dX_within_39 rfl (lv_at hl 2 rfl) ?_
      refine va_iald hx hb hK hP 2 0 rfl rfl hsi dX_within_40 ?_
      refine kr_S 1 (As := [.int (B si.toNatClampNeg)]) (rest := [.long (uw (B ri.toNatClampNeg))]) (r := .long (uw (B si.toNatClampNeg))) hx hb hml hown hts hl.1 (mX_unsigned l (B si.toNatClampNeg)) tt_stb trivial (gw_S w_70 w_71 w_14 w_72) (by decide) ⟨rfl, rfl⟩ ⟨Nat.le_of_ble_eq_true rfl, Nat.le_of_ble_eq_true rfl⟩ rfl rfl (Nat.le_of_ble_eq_true rfl) dX_within_41 ⟨Nat.zero_le _, Nat.zero_le _⟩ ?_
      refine W.lcmp hx hb dX_within_44 ?_
      refine lv_if_lt (tgt := 88) hx hb dX_within_45 (by decide) (fun h_3 => ?_) (fun h_3 => ?_)
      · rw [lg_cmp_lt] at h_3
        refine lv_iconst (v := 0) hx hb dX_within_88 (by decide) ?_
        have e9 : (ga_with B T P G ri.toNatClampNeg si.toNatClampNeg) = false := by unfold ga_with; rw [uw_lt] at h_3; have h_3 := Nat.not_le.mpr h_3; simp [h_1, h_2, h_3]
        refine W.eq (g2 := F0 m 89 ls [.int (bi (ga_with B T P G ri.toNatClampNeg si.toNatClampNeg))]) (by rw [e9]; rfl) ?_
        exact W.zret (v := bi (ga_with B T P G ri.toNatClampNeg si.toNatClampNeg)) hx hb hr (bi_nar _) (fun t9 ht hW => ⟨rfl, ht⟩) (fun z hz => nomatch hz) dX_within_89
      · rw [lg_cmp_lt] at h_3
        refine lv_aload_n hx hb dX_within_48 rfl (lv_at hl 0 rfl) ?_
        refine va_get (D := D) (ci := 0) (v := .ref (q 3)) (C := RX) (T := TX) (N := 6) hx hb hts inX hown hK hP 0 rfl rfl 2 (by decide) (hts _ w_31) (fun _ h9 => h9) rfl dX_within_49 ?_
        refine lv_iload_n hx hb dX_within_52 rfl (lv_at hl 1 rfl) ?_
        refine va_iald hx hb hK hP 3 0 rfl rfl hri dX_within_53 ?_
        refine kr_S 1 (As := [.int (T ri.toNatClampNeg)]) (rest := []) (r := .long (uw (T ri.toNatClampNeg))) hx hb hml hown hts hl.1 (mX_unsigned l (T ri.toNatClampNeg)) tt_stb trivial (gw_S w_70 w_71 w_14 w_72) (by decide) ⟨rfl, rfl⟩ ⟨Nat.le_of_ble_eq_true rfl, Nat.le_of_ble_eq_true rfl⟩ rfl rfl (Nat.le_of_ble_eq_true rfl) dX_within_54 ⟨Nat.zero_le _, Nat.zero_le _⟩ ?_
        refine lv_aload_n hx hb dX_within_57 rfl (lv_at hl 0 rfl) ?_
        refine va_get (D := D) (ci := 0) (v := .ref (q 3)) (C := RX) (T := TX) (N := 6) hx hb hts inX hown hK hP 0 rfl rfl 2 (by decide) (hts _ w_31) (fun _ h9 => h9) rfl dX_within_58 ?_
        refine lv_iload_n hx hb dX_within_61 rfl (lv_at hl 2 rfl) ?_
        refine va_iald hx hb hK hP 3 0 rfl rfl hsi dX_within_62 ?_
        refine kr_S 1 (As := [.int (T si.toNatClampNeg)]) (rest := [.long (uw (T ri.toNatClampNeg))]) (r := .long (uw (T si.toNatClampNeg))) hx hb hml hown hts hl.1 (mX_unsigned l (T si.toNatClampNeg)) tt_stb trivial (gw_S w_70 w_71 w_14 w_72) (by decide) ⟨rfl, rfl⟩ ⟨Nat.le_of_ble_eq_true rfl, Nat.le_of_ble_eq_true rfl⟩ rfl rfl (Nat.le_of_ble_eq_true rfl) dX_within_63 ⟨Nat.zero_le _, Nat.zero_le _⟩ ?_
        refine W.lcmp hx hb dX_within_66 ?_
        refine lv_if_gt (tgt := 88) hx hb dX_within_67 (by decide) (fun h_4 => ?_) (fun h_4 => ?_)
        · rw [lg_cmp_gt] at h_4
          refine lv_iconst (v := 0) hx hb dX_within_88 (by decide) ?_
          have e9 : (ga_with B T P G ri.toNatClampNeg si.toNatClampNeg) = false := by unfold ga_with; rw [uw_lt] at h_3; have h_3 := Nat.not_lt.mp h_3; rw [uw_lt] at h_4; have h_4 := Nat.not_le.mpr h_4; simp [h_1, h_2, h_3, h_4]
          refine W.eq (g2 := F0 m 89 ls [.int (bi (ga_with B T P G ri.toNatClampNeg si.toNatClampNeg))]) (by rw [e9]; rfl) ?_
          exact W.zret (v := bi (ga_with B T P G ri.toNatClampNeg si.toNatClampNeg)) hx hb hr (bi_nar _) (fun t9 ht hW => ⟨rfl, ht⟩) (fun z hz => nomatch hz) dX_within_89
        · rw [lg_cmp_gt] at h_4
          refine lv_aload_n hx hb dX_within_70 rfl (lv_at hl 0 rfl) ?_
          refine lv_iload_n hx hb dX_within_71 rfl (lv_at hl 2 rfl) ?_
          refine lv_aload_n hx hb dX_within_72 rfl (lv_at hl 0 rfl) ?_
          refine va_get (D := D) (ci := 0) (v := .ref (q 4)) (C := RX) (T := TX) (N := 6) hx hb hts inX hown hK hP 0 rfl rfl 3 (by decide) (hts _ w_32) (fun _ h9 => h9) rfl dX_within_73 ?_
          refine lv_iload_n hx hb dX_within_76 rfl (lv_at hl 1 rfl) ?_
          refine va_iald hx hb hK hP 4 0 rfl rfl hri dX_within_77 ?_
          refine kr_V 2 (b := q 0) (As := [.int (si), .int (P ri.toNatClampNeg)]) (rest := []) (r := .int (bi (ga_pm (P ri.toNatClampNeg) (P si.toNatClampNeg)))) hx hb hml hown hts hl.1 (mX_hasPermissions l D cI cZ q A B T P Y G (si) (P ri.toNatClampNeg) hsi) rB_stb ⟨hP, hK⟩ (gw_V w_62 w_64 w_2 w_14 w_65) (by decide) ⟨rfl, rfl⟩ ⟨Nat.le_of_ble_eq_true rfl, Nat.le_of_ble_eq_true rfl⟩ (va_recv hK hP (ci := 0) rfl (q0 := 0) rfl) rfl rfl (Nat.le_of_ble_eq_true rfl) dX_within_78 ⟨Nat.zero_le _, Nat.zero_le _⟩ ?_
          refine lv_if_eq (tgt := 88) hx hb dX_within_81 (by decide) (fun h_5 => ?_) (fun h_5 => ?_)
          · have h_5 := bi_0 h_5
            refine lv_iconst (v := 0) hx hb dX_within_88 (by decide) ?_
            have e9 : (ga_with B T P G ri.toNatClampNeg si.toNatClampNeg) = false := by unfold ga_with; rw [uw_lt] at h_3; have h_3 := Nat.not_lt.mp h_3; rw [uw_lt] at h_4; have h_4 := Nat.not_lt.mp h_4; simp [h_1, h_2, h_3, h_4, h_5]
            refine W.eq (g2 := F0 m 89 ls [.int (bi (ga_with B T P G ri.toNatClampNeg si.toNatClampNeg))]) (by rw [e9]; rfl) ?_
            exact W.zret (v := bi (ga_with B T P G ri.toNatClampNeg si.toNatClampNeg)) hx hb hr (bi_nar _) (fun t9 ht hW => ⟨rfl, ht⟩) (fun z hz => nomatch hz) dX_within_89
          · have h_5 := bi_n h_5
            refine lv_iconst (v := 1) hx hb dX_within_84 (by decide) ?_
            refine lv_goto (tgt := 89) hx hb dX_within_85 (by decide) ?_
            have e9 : (ga_with B T P G ri.toNatClampNeg si.toNatClampNeg) = true := by unfold ga_with; rw [uw_lt] at h_3; have h_3 := Nat.not_lt.mp h_3; rw [uw_lt] at h_4; have h_4 := Nat.not_lt.mp h_4; simp [h_1, h_2, h_3, h_4, h_5]
            refine W.eq (g2 := F0 m 89 ls [.int (bi (ga_with B T P G ri.toNatClampNeg si.toNatClampNeg))]) (by rw [e9]; rfl) ?_
            exact W.zret (v := bi (ga_with B T P G ri.toNatClampNeg si.toNatClampNeg)) hx hb hr (bi_nar _) (fun t9 ht hW => ⟨rfl, ht⟩) (fun z hz => nomatch hz) dX_within_89

set_option maxRecDepth 100000 in
set_option maxHeartbeats 4000000 in
theorem mX_part (l : Launch) (D : va_G) (cI cZ : ClassId) (q : Nat → Nat) (A B T P Y : Nat → Int32) (G : Nat → Bool) (ri : Int32) (j : Nat) (hri : vp_in ri 16) (hj : j < 6) : Met l yX_part (Cond.code yX_part cX_part 3 (some .int) :: gw) (rmk 1 0 0) (va_Pc [.ref (q 0), .int (ri), .int (nI j)] (rB D vwCl (xW cI cZ q A B T P Y G) (tsX cI cZ))) (k2_QcV (.int (ga_part A B T P Y G ri.toNatClampNeg (nI j)))) 0 0 (fun _ => False) := by
  refine Met.ofW (cc := cX_part) (maxL := 3) (ret := (some .int)) (by decide) rfl ?_
  intro p e s m args below meth c s₁ B9 hml hv
  obtain ⟨rfl, hP, hK⟩ := hv
  have hx := B9.exec
  have hb := B9.bytes
  have hr := B9.returns
  have hts := fun (w : Cond) (h : w ∈ gw) => atoms_spec (ws := _ :: gw) B9.pre w (List.mem_cons_of_mem _ h)
  have hown : s.vm.findClass RX = some m.cls := findClass_of_methodNamed B9.named
  have hlocks := B9.notSynchronized
  have hl := lv_entry ([.ref (q 0), .int (ri), .int (nI j)]) (n := 3) (Nat.le_of_ble_eq_true rfl)
  rw [lg_entry_eq]
  generalize (lg_sl ([.ref (q 0), .int (ri), .int (nI j)]) ++ List.replicate (3 - (lg_sl ([.ref (q 0), .int (ri), .int (nI j)])).length) Slot.unset).toArray = ls at hl ⊢
  have hl : lv_has ls 3 [(0, .ref (q 0)), (1, .int (ri)), (2, .int (nI j))] := hl
  refine lv_iload_n hx hb dX_part_0 rfl (lv_at hl 2 rfl) ?_
  refine lv_if_lt (tgt := 9) hx hb dX_part_1 (by decide) (fun h_1 => absurd h_1 (nI_pos (by omega))) (fun h_1 => ?_)
  refine lv_iload_n hx hb dX_part_4 rfl (lv_at hl 2 rfl) ?_
  refine lv_iconst (v := 5) hx hb dX_part_5 (by decide) ?_
  refine lv_icmp_le (tgt := 19) hx hb dX_part_6 (by decide) (fun h_2 => ?_) (fun h_2 => absurd (show nI j ≤ 5 from nI_le (b := 5) (by omega) (by decide)) h_2)
  refine lv_iload_n hx hb dX_part_19 rfl (lv_at hl 1 rfl) ?_
  refine kr_Sv 1 (As := [.int (ri)]) (rest := []) hx hb hml hown hts hl.1 (mX_requireGrant l (ri) hri) tt_stb trivial (gw_S w_151 w_152 w_14 w_153) (by decide) ⟨rfl, rfl⟩ ⟨Nat.le_of_ble_eq_true rfl, Nat.le_of_ble_eq_true rfl⟩ rfl rfl (Nat.le_of_ble_eq_true rfl) dX_part_20 ⟨Nat.zero_le _, Nat.zero_le _⟩ ?_
  refine lv_iload_n hx hb dX_part_23 rfl (lv_at hl 2 rfl) ?_
  rcases (show j = 0 ∨ j = 1 ∨ j = 2 ∨ j = 3 ∨ j = 4 ∨ j = 5 by omega) with rfl | rfl | rfl | rfl | rfl | rfl
  · refine lv_tableIn (x := nI 0) (off := 36) (tgt := 60) hx hb dX_part_24 (by decide) (by decide) (by decide) (by decide) ?_
    refine lv_aload_n hx hb dX_part_60 rfl (lv_at hl 0 rfl) ?_
    refine va_get (D := D) (ci := 0) (v := .ref (q 1)) (C := RX) (T := TX) (N := 6) hx hb hts inX hown hK hP 0 rfl rfl 0 (by decide) (hts _ w_29) (fun _ h9 => h9) rfl dX_part_61 ?_
    refine lv_iload_n hx hb dX_part_64 rfl (lv_at hl 1 rfl) ?_
    refine va_iald hx hb hK hP 1 0 rfl rfl hri dX_part_65 ?_
    have e9 : (ga_part A B T P Y G ri.toNatClampNeg (nI 0)) = A ri.toNatClampNeg := by unfold ga_part; rfl
    refine W.eq (g2 := F0 m 66 ls [.int (ga_part A B T P Y G ri.toNatClampNeg (nI 0))]) (by rw [e9]) ?_
    exact W.iret (v := ga_part A B T P Y G ri.toNatClampNeg (nI 0)) hx hb hr (fun t9 ht hW => ⟨rfl, ht⟩) (fun z hz => nomatch hz) dX_part_66
  · refine lv_tableIn (x := nI 1) (off := 43) (tgt := 67) hx hb dX_part_24 (by decide) (by decide) (by decide) (by decide) ?_
    refine lv_aload_n hx hb dX_part_67 rfl (lv_at hl 0 rfl) ?_
    refine va_get (D := D) (ci := 0) (v := .ref (q 2)) (C := RX) (T := TX) (N := 6) hx hb hts inX hown hK hP 0 rfl rfl 1 (by decide) (hts _ w_30) (fun _ h9 => h9) rfl dX_part_68 ?_
    refine lv_iload_n hx hb dX_part_71 rfl (lv_at hl 1 rfl) ?_
    refine va_iald hx hb hK hP 2 0 rfl rfl hri dX_part_72 ?_
    have e9 : (ga_part A B T P Y G ri.toNatClampNeg (nI 1)) = B ri.toNatClampNeg := by unfold ga_part; rfl
    refine W.eq (g2 := F0 m 73 ls [.int (ga_part A B T P Y G ri.toNatClampNeg (nI 1))]) (by rw [e9]) ?_
    exact W.iret (v := ga_part A B T P Y G ri.toNatClampNeg (nI 1)) hx hb hr (fun t9 ht hW => ⟨rfl, ht⟩) (fun z hz => nomatch hz) dX_part_73
  · refine lv_tableIn (x := nI 2) (off := 50) (tgt := 74) hx hb dX_part_24 (by decide) (by decide) (by decide) (by decide) ?_
    refine lv_aload_n hx hb dX_part_74 rfl (lv_at hl 0 rfl) ?_
    refine va_get (D := D) (ci := 0) (v := .ref (q 3)) (C := RX) (T := TX) (N := 6) hx hb hts inX hown hK hP 0 rfl rfl 2 (by decide) (hts _ w_31) (fun _ h9 => h9) rfl dX_part_75 ?_
    refine lv_iload_n hx hb dX_part_78 rfl (lv_at hl 1 rfl) ?_
    refine va_iald hx hb hK hP 3 0 rfl rfl hri dX_part_79 ?_
    have e9 : (ga_part A B T P Y G ri.toNatClampNeg (nI 2)) = T ri.toNatClampNeg := by unfold ga_part; rfl
    refine W.eq (g2 := F0 m 80 ls [.int (ga_part A B T P Y G ri.toNatClampNeg (nI 2))]) (by rw [e9]) ?_
    exact W.iret (v := ga_part A B T P Y G ri.toNatClampNeg (nI 2)) hx hb hr (fun t9 ht hW => ⟨rfl, ht⟩) (fun z hz => nomatch hz) dX_part_80
  · refine lv_tableIn (x := nI 3) (off := 57) (tgt := 81) hx hb dX_part_24 (by decide) (by decide) (by decide) (by decide) ?_
    refine lv_aload_n hx hb dX_part_81 rfl (lv_at hl 0 rfl) ?_
    refine va_get (D := D) (ci := 0) (v := .ref (q 4)) (C := RX) (T := TX) (N := 6) hx hb hts inX hown hK hP 0 rfl rfl 3 (by decide) (hts _ w_32) (fun _ h9 => h9) rfl dX_part_82 ?_
    refine lv_iload_n hx hb dX_part_85 rfl (lv_at hl 1 rfl) ?_
    refine va_iald hx hb hK hP 4 0 rfl rfl hri dX_part_86 ?_
    have e9 : (ga_part A B T P Y G ri.toNatClampNeg (nI 3)) = P ri.toNatClampNeg := by unfold ga_part; rfl
    refine W.eq (g2 := F0 m 87 ls [.int (ga_part A B T P Y G ri.toNatClampNeg (nI 3))]) (by rw [e9]) ?_
    exact W.iret (v := ga_part A B T P Y G ri.toNatClampNeg (nI 3)) hx hb hr (fun t9 ht hW => ⟨rfl, ht⟩) (fun z hz => nomatch hz) dX_part_87
  · refine lv_tableIn (x := nI 4) (off := 64) (tgt := 88) hx hb dX_part_24 (by decide) (by decide) (by decide) (by decide) ?_
    refine lv_aload_n hx hb dX_part_88 rfl (lv_at hl 0 rfl) ?_
    refine va_get (D := D) (ci := 0) (v := .ref (q 5)) (C := RX) (T := TX) (N := 6) hx hb hts inX hown hK hP 0 rfl rfl 4 (by decide) (hts _ w_33) (fun _ h9 => h9) rfl dX_part_89 ?_
    refine lv_iload_n hx hb dX_part_92 rfl (lv_at hl 1 rfl) ?_
    refine va_iald hx hb hK hP 5 0 rfl rfl hri dX_part_93 ?_
    have e9 : (ga_part A B T P Y G ri.toNatClampNeg (nI 4)) = Y ri.toNatClampNeg := by unfold ga_part; rfl
    refine W.eq (g2 := F0 m 94 ls [.int (ga_part A B T P Y G ri.toNatClampNeg (nI 4))]) (by rw [e9]) ?_
    exact W.iret (v := ga_part A B T P Y G ri.toNatClampNeg (nI 4)) hx hb hr (fun t9 ht hW => ⟨rfl, ht⟩) (fun z hz => nomatch hz) dX_part_94
  · refine lv_tableOut (x := nI 5) (tgt := 95) hx hb dX_part_24 (by decide) (by decide) ?_
    refine lv_aload_n hx hb dX_part_95 rfl (lv_at hl 0 rfl) ?_
    refine va_get (D := D) (ci := 0) (v := .ref (q 6)) (C := RX) (T := TX) (N := 6) hx hb hts inX hown hK hP 0 rfl rfl 5 (by decide) (hts _ w_34) (fun _ h9 => h9) rfl dX_part_96 ?_
    refine lv_iload_n hx hb dX_part_99 rfl (lv_at hl 1 rfl) ?_
    refine va_zald hx hb hK hP 6 1 rfl rfl hri dX_part_100 ?_
    refine W.eq (g2 := F0 m 101 ls [.int (bi (G ri.toNatClampNeg))]) rfl ?_
    refine lv_if_eq (tgt := 108) hx hb dX_part_101 (by decide) (fun h_3 => ?_) (fun h_3 => ?_)
    · have h_3 := bi_0 h_3
      refine lv_iconst (v := 0) hx hb dX_part_108 (by decide) ?_
      have e9 : (ga_part A B T P Y G ri.toNatClampNeg (nI 5)) = 0 := by unfold ga_part; rw [if_neg (by decide), if_neg (by decide), if_neg (by decide), if_neg (by decide), if_neg (by decide), h_3]; rfl
      refine W.eq (g2 := F0 m 109 ls [.int (ga_part A B T P Y G ri.toNatClampNeg (nI 5))]) (by rw [e9]) ?_
      exact W.iret (v := ga_part A B T P Y G ri.toNatClampNeg (nI 5)) hx hb hr (fun t9 ht hW => ⟨rfl, ht⟩) (fun z hz => nomatch hz) dX_part_109
    · have h_3 := bi_n h_3
      refine lv_iconst (v := 1) hx hb dX_part_104 (by decide) ?_
      refine lv_goto (tgt := 109) hx hb dX_part_105 (by decide) ?_
      have e9 : (ga_part A B T P Y G ri.toNatClampNeg (nI 5)) = 1 := by unfold ga_part; rw [if_neg (by decide), if_neg (by decide), if_neg (by decide), if_neg (by decide), if_neg (by decide), h_3]; rfl
      refine W.eq (g2 := F0 m 109 ls [.int (ga_part A B T P Y G ri.toNatClampNeg (nI 5))]) (by rw [e9]) ?_
      exact W.iret (v := ga_part A B T P Y G ri.toNatClampNeg (nI 5)) hx hb hr (fun t9 ht hW => ⟨rfl, ht⟩) (fun z hz => nomatch hz) dX_part_109

set_option maxRecDepth 100000 in
set_option maxHeartbeats 4000000 in
theorem mX_count (l : Launch) (D : va_G) (cI cZ : ClassId) (q : Nat → Nat) (A B T P Y : Nat → Int32) (G : Nat → Bool) (a w : Int32) : Met l yX_count (Cond.code yX_count cX_count 5 (some .int) :: gw) (rmk 3 0 0) (va_Pc [.ref (q 0), .int (a), .int (w)] (rB D vwCl (xW cI cZ q A B T P Y G) (tsX cI cZ))) (k2_QcV (.int (ga_cnt B T P Y G a w 16))) 0 0 (fun _ => False) := by
  refine Met.ofW (cc := cX_count) (maxL := 5) (ret := (some .int)) (by decide) rfl ?_
  intro p e s m args below meth c s₁ B9 hml hv
  obtain ⟨rfl, hP, hK⟩ := hv
  have hx := B9.exec
  have hb := B9.bytes
  have hr := B9.returns
  have hts := fun (w : Cond) (h : w ∈ gw) => atoms_spec (ws := _ :: gw) B9.pre w (List.mem_cons_of_mem _ h)
  have hown : s.vm.findClass RX = some m.cls := findClass_of_methodNamed B9.named
  have hlocks := B9.notSynchronized
  have hl := lv_entry ([.ref (q 0), .int (a), .int (w)]) (n := 5) (Nat.le_of_ble_eq_true rfl)
  rw [lg_entry_eq]
  generalize (lg_sl ([.ref (q 0), .int (a), .int (w)]) ++ List.replicate (5 - (lg_sl ([.ref (q 0), .int (a), .int (w)])).length) Slot.unset).toArray = ls at hl ⊢
  have hl : lv_has ls 5 [(0, .ref (q 0)), (1, .int (a)), (2, .int (w))] := hl
  refine lv_iconst (v := 0) hx hb dX_count_0 (by decide) ?_
  refine lv_istore_n hx hb dX_count_1 rfl hl (by decide) rfl (fun ls hl => ?_)
  have hl : lv_has ls 5 [(3, .int (0)), (0, .ref (q 0)), (1, .int (a)), (2, .int (w))] := hl
  refine lv_iconst (v := 0) hx hb dX_count_2 (by decide) ?_
  refine lv_istore hx hb dX_count_3 hl (by decide) rfl (fun ls hl => ?_)
  have hl : lv_has ls 5 [(4, .int (0)), (3, .int (0)), (0, .ref (q 0)), (1, .int (a)), (2, .int (w))] := hl
  have hl : lv_has ls 5 [(4, .int (nI 0)), (3, .int (ga_cnt B T P Y G a w 0)), (0, .ref (q 0)), (1, .int a), (2, .int w)] := lv_sub hl [0, 1, 2, 3, 4] rfl
  suffices key : ∀ (d k : Nat) (ls : Array Slot), k + d = 16 → lv_has ls 5 [(4, .int (nI k)), (3, .int (ga_cnt B T P Y G a w k)), (0, .ref (q 0)), (1, .int (a)), (2, .int (w))] → W p l e (headSpec (Cond.code yX_count cX_count 5 (some .int) :: gw) (rmk 3 0 0)).room s m [.ref (q 0), .int (a), .int (w)].toArray below meth c s.heap [] 0 0 (MQ below (k2_QcV (.int (ga_cnt B T P Y G a w 16))) [.ref (q 0), .int (a), .int (w)].toArray s 0 0 (fun _ => False)) (F0 m 5 ls []) from key 16 0 ls (by omega) hl
  intro d
  induction d with
  | zero =>
    intro k ls hk hl
    obtain rfl : k = 16 := by omega
    refine lv_iload hx hb dX_count_5 (lv_at hl 0 rfl) ?_
    refine lv_bipush (v := 16) hx hb dX_count_7 (by decide) ?_
    refine lv_icmp_ge (tgt := 33) hx hb dX_count_9 (by decide) (fun h_1 => ?_) (fun h_1 => absurd (by decide) h_1)
    refine lv_iload_n hx hb dX_count_33 rfl (lv_at hl 1 rfl) ?_
    exact W.iret (v := ga_cnt B T P Y G a w 16) hx hb hr (fun t9 ht hW => ⟨rfl, ht⟩) (fun z hz => nomatch hz) dX_count_34
  | succ d ih =>
    intro k ls hk hl
    refine lv_iload hx hb dX_count_5 (lv_at hl 0 rfl) ?_
    refine lv_bipush (v := 16) hx hb dX_count_7 (by decide) ?_
    refine lv_icmp_ge (tgt := 33) hx hb dX_count_9 (by decide) (fun h_2 => absurd h_2 (show ¬ (16 : Int32) ≤ nI k from nI_ge (a := k) (b := 16) (by omega) (by decide))) (fun h_2 => ?_)
    refine lv_aload_n hx hb dX_count_12 rfl (lv_at hl 2 rfl) ?_
    refine lv_iload hx hb dX_count_13 (lv_at hl 0 rfl) ?_
    refine lv_iload_n hx hb dX_count_15 rfl (lv_at hl 3 rfl) ?_
    refine lv_iconst (v := 1) hx hb dX_count_16 (by decide) ?_
    refine lv_iload_n hx hb dX_count_17 rfl (lv_at hl 4 rfl) ?_
    refine kr_V 4 (b := q 0) (As := [.int (nI k), .int (a), .int (1), .int (w)]) (rest := []) (r := .int (ga_acc B T P Y G (nI k).toNatClampNeg (a) 1 (w))) hx hb hml hown hts hl.1 (mX_accessCause l D cI cZ q A B T P Y G (nI k) (a) 1 (w) (vp_in_nI (by omega) (by decide)) (by first | decide | omega)) rB_stb ⟨hP, hK⟩ (gw_V w_54 w_56 w_0 w_14 w_57) (by decide) ⟨rfl, rfl⟩ ⟨Nat.le_of_ble_eq_true rfl, Nat.le_of_ble_eq_true rfl⟩ (va_recv hK hP (ci := 0) rfl (q0 := 0) rfl) rfl rfl (Nat.le_of_ble_eq_true rfl) dX_count_18 ⟨Nat.zero_le _, Nat.zero_le _⟩ ?_
    refine W.eq (g2 := F0 m 21 ls [.int (ga_acc B T P Y G k a 1 w)]) (by rw [nI_clamp (by omega)]) ?_
    refine lv_if_ne (tgt := 27) hx hb dX_count_21 (by decide) (fun h_3 => ?_) (fun h_3 => ?_)
    · 
      refine lv_iinc (k := 0) (v := nI (k + 1)) hx hb dX_count_27 hl rfl (nI_succ k).symm (by decide) rfl (fun ls hl => ?_)
      have hl : lv_has ls 5 [(4, .int (nI (k + 1))), (3, .int (ga_cnt B T P Y G a w k)), (0, .ref (q 0)), (1, .int (a)), (2, .int (w))] := hl
      refine lv_goto (tgt := 5) hx hb dX_count_30 (by decide) ?_
      have e9 : ga_cnt B T P Y G a w (k + 1) = ga_cnt B T P Y G a w k := by show (if _ then _ else _) = _; rw [if_neg h_3]
      exact ih (k + 1) _ (by omega) (by rw [e9]; exact lv_sub hl [0, 1, 2, 3, 4] rfl)
    · 
      refine lv_iinc (k := 1) (v := (ga_cnt B T P Y G a w k) + 1) hx hb dX_count_24 hl rfl rfl (by decide) rfl (fun ls hl => ?_)
      have hl : lv_has ls 5 [(3, .int ((ga_cnt B T P Y G a w k) + 1)), (4, .int (nI k)), (0, .ref (q 0)), (1, .int (a)), (2, .int (w))] := hl
      refine lv_iinc (k := 1) (v := nI (k + 1)) hx hb dX_count_27 hl rfl (nI_succ k).symm (by decide) rfl (fun ls hl => ?_)
      have hl : lv_has ls 5 [(4, .int (nI (k + 1))), (3, .int ((ga_cnt B T P Y G a w k) + 1)), (0, .ref (q 0)), (1, .int (a)), (2, .int (w))] := hl
      refine lv_goto (tgt := 5) hx hb dX_count_30 (by decide) ?_
      have e9 : ga_cnt B T P Y G a w (k + 1) = (ga_cnt B T P Y G a w k) + 1 := by show (if _ then _ else _) = _; rw [if_pos h_3]
      exact ih (k + 1) _ (by omega) (by rw [e9]; exact lv_sub hl [0, 1, 2, 3, 4] rfl)

set_option maxRecDepth 100000 in
set_option maxHeartbeats 4000000 in
theorem tX_number (l : Launch) (hst : l.stackTraces = false) (q9 : Nat) (ri v : Int32) (hbad : ¬ (vp_in ri 16)) : tx_Thr l yX_number (Cond.code yX_number cX_number 3 none :: gw) (rmk 7 1 6) (va_Pc [.ref (q9), .int (ri), .int (v)] tx_B) iob 1 6 := by
  refine tx_of (cc := cX_number) (maxL := 3) (ret := none) (by decide) rfl ?_
  intro p e s m args below meth c s₁ B9 hml hne hv
  obtain ⟨rfl, hB⟩ := hv
  have hx := B9.exec
  have hb := B9.bytes
  have hts := fun (w : Cond) (h : w ∈ gw) => atoms_spec (ws := _ :: gw) B9.pre w (List.mem_cons_of_mem _ h)
  have hown : s.vm.findClass RX = some m.cls := findClass_of_methodNamed B9.named
  have hlocks := B9.notSynchronized
  have hl := lv_entry ([.ref (q9), .int (ri), .int (v)]) (n := 3) (Nat.le_of_ble_eq_true rfl)
  rw [lg_entry_eq]
  generalize (lg_sl ([.ref (q9), .int (ri), .int (v)]) ++ List.replicate (3 - (lg_sl ([.ref (q9), .int (ri), .int (v)])).length) Slot.unset).toArray = ls at hl ⊢
  have hl : lv_has ls 3 [(0, .ref (q9)), (1, .int (ri)), (2, .int (v))] := hl
  refine lv_iload_n hx hb dX_number_0 rfl (lv_at hl 1 rfl) ?_
  by_cases hi_ri : vp_in ri 16
  rotate_left
  · exact tx_callS (As := [.int (ri)]) (rest := []) ⟨hx, hb, hml, hown, hts⟩ (tX_requireGrant l hst (ri) hi_ri) (cwS 1 hts (gw_S w_151 w_152 w_14 w_153) rfl rfl rfl (by decide) ⟨Nat.le_of_ble_eq_true rfl, Nat.le_of_ble_eq_true rfl⟩) ⟨tx_blind, tx_pre hB (fun _ _ => rfl)⟩ rfl hl.1 rfl (Nat.le_of_ble_eq_true rfl) dX_number_1 ⟨Nat.le_of_ble_eq_true rfl, Nat.le_of_ble_eq_true rfl⟩ (fun z ce H1 _ _ h1 h2 h3 => tx_leave rfl rfl rfl hne hlocks h1 h2 h3 (Nat.le_refl _) (Nat.le_refl _))
  refine kr_Sv 1 (As := [.int (ri)]) (rest := []) hx hb hml hown hts hl.1 (mX_requireGrant l (ri) hi_ri) tt_stb trivial (gw_S w_151 w_152 w_14 w_153) (by decide) ⟨rfl, rfl⟩ ⟨Nat.le_of_ble_eq_true rfl, Nat.le_of_ble_eq_true rfl⟩ rfl rfl (Nat.le_of_ble_eq_true rfl) dX_number_1 ⟨Nat.zero_le _, Nat.zero_le _⟩ ?_
  exact absurd hi_ri hbad

set_option maxRecDepth 100000 in
set_option maxHeartbeats 4000000 in
theorem tX_move (l : Launch) (hst : l.stackTraces = false) (q9 : Nat) (ri si v : Int32) (hbad : ¬ (vp_in ri 16 ∧ vp_in si 16)) : tx_Thr l yX_move (Cond.code yX_move cX_move 5 none :: gw) (rmk 7 1 6) (va_Pc [.ref (q9), .int (ri), .int (si), .int (v)] tx_B) iob 1 6 := by
  refine tx_of (cc := cX_move) (maxL := 5) (ret := none) (by decide) rfl ?_
  intro p e s m args below meth c s₁ B9 hml hne hv
  obtain ⟨rfl, hB⟩ := hv
  have hx := B9.exec
  have hb := B9.bytes
  have hts := fun (w : Cond) (h : w ∈ gw) => atoms_spec (ws := _ :: gw) B9.pre w (List.mem_cons_of_mem _ h)
  have hown : s.vm.findClass RX = some m.cls := findClass_of_methodNamed B9.named
  have hlocks := B9.notSynchronized
  have hl := lv_entry ([.ref (q9), .int (ri), .int (si), .int (v)]) (n := 5) (Nat.le_of_ble_eq_true rfl)
  rw [lg_entry_eq]
  generalize (lg_sl ([.ref (q9), .int (ri), .int (si), .int (v)]) ++ List.replicate (5 - (lg_sl ([.ref (q9), .int (ri), .int (si), .int (v)])).length) Slot.unset).toArray = ls at hl ⊢
  have hl : lv_has ls 5 [(0, .ref (q9)), (1, .int (ri)), (2, .int (si)), (3, .int (v))] := hl
  refine lv_iload_n hx hb dX_move_0 rfl (lv_at hl 1 rfl) ?_
  by_cases hi_ri : vp_in ri 16
  rotate_left
  · exact tx_callS (As := [.int (ri)]) (rest := []) ⟨hx, hb, hml, hown, hts⟩ (tX_requireGrant l hst (ri) hi_ri) (cwS 1 hts (gw_S w_151 w_152 w_14 w_153) rfl rfl rfl (by decide) ⟨Nat.le_of_ble_eq_true rfl, Nat.le_of_ble_eq_true rfl⟩) ⟨tx_blind, tx_pre hB (fun _ _ => rfl)⟩ rfl hl.1 rfl (Nat.le_of_ble_eq_true rfl) dX_move_1 ⟨Nat.le_of_ble_eq_true rfl, Nat.le_of_ble_eq_true rfl⟩ (fun z ce H1 _ _ h1 h2 h3 => tx_leave rfl rfl rfl hne hlocks h1 h2 h3 (Nat.le_refl _) (Nat.le_refl _))
  refine kr_Sv 1 (As := [.int (ri)]) (rest := []) hx hb hml hown hts hl.1 (mX_requireGrant l (ri) hi_ri) tt_stb trivial (gw_S w_151 w_152 w_14 w_153) (by decide) ⟨rfl, rfl⟩ ⟨Nat.le_of_ble_eq_true rfl, Nat.le_of_ble_eq_true rfl⟩ rfl rfl (Nat.le_of_ble_eq_true rfl) dX_move_1 ⟨Nat.zero_le _, Nat.zero_le _⟩ ?_
  refine lv_iload_n hx hb dX_move_4 rfl (lv_at hl 2 rfl) ?_
  by_cases hi_si : vp_in si 16
  rotate_left
  · exact tx_callS (As := [.int (si)]) (rest := []) ⟨hx, hb, hml, hown, hts⟩ (tX_requireGrant l hst (si) hi_si) (cwS 1 hts (gw_S w_151 w_152 w_14 w_153) rfl rfl rfl (by decide) ⟨Nat.le_of_ble_eq_true rfl, Nat.le_of_ble_eq_true rfl⟩) ⟨tx_blind, tx_pre hB (fun _ _ => rfl)⟩ rfl hl.1 rfl (Nat.le_of_ble_eq_true rfl) dX_move_5 ⟨Nat.le_of_ble_eq_true rfl, Nat.le_of_ble_eq_true rfl⟩ (fun z ce H1 _ _ h1 h2 h3 => tx_leave rfl rfl rfl hne hlocks h1 h2 h3 (Nat.le_refl _) (Nat.le_refl _))
  refine kr_Sv 1 (As := [.int (si)]) (rest := []) hx hb hml hown hts hl.1 (mX_requireGrant l (si) hi_si) tt_stb trivial (gw_S w_151 w_152 w_14 w_153) (by decide) ⟨rfl, rfl⟩ ⟨Nat.le_of_ble_eq_true rfl, Nat.le_of_ble_eq_true rfl⟩ rfl rfl (Nat.le_of_ble_eq_true rfl) dX_move_5 ⟨Nat.zero_le _, Nat.zero_le _⟩ ?_
  exact absurd ⟨hi_ri, hi_si⟩ hbad

set_option maxRecDepth 100000 in
set_option maxHeartbeats 4000000 in
theorem tX_narrow (l : Launch) (hst : l.stackTraces = false) (q9 : Nat) (ri si v : Int32) (hbad : ¬ (vp_in ri 16 ∧ vp_in si 16)) : tx_Thr l yX_narrow (Cond.code yX_narrow cX_narrow 5 (some .boolean) :: gw) (rmk 7 1 6) (va_Pc [.ref (q9), .int (ri), .int (si), .int (v)] tx_B) iob 1 6 := by
  refine tx_of (cc := cX_narrow) (maxL := 5) (ret := (some .boolean)) (by decide) rfl ?_
  intro p e s m args below meth c s₁ B9 hml hne hv
  obtain ⟨rfl, hB⟩ := hv
  have hx := B9.exec
  have hb := B9.bytes
  have hts := fun (w : Cond) (h : w ∈ gw) => atoms_spec (ws := _ :: gw) B9.pre w (List.mem_cons_of_mem _ h)
  have hown : s.vm.findClass RX = some m.cls := findClass_of_methodNamed B9.named
  have hlocks := B9.notSynchronized
  have hl := lv_entry ([.ref (q9), .int (ri), .int (si), .int (v)]) (n := 5) (Nat.le_of_ble_eq_true rfl)
  rw [lg_entry_eq]
  generalize (lg_sl ([.ref (q9), .int (ri), .int (si), .int (v)]) ++ List.replicate (5 - (lg_sl ([.ref (q9), .int (ri), .int (si), .int (v)])).length) Slot.unset).toArray = ls at hl ⊢
  have hl : lv_has ls 5 [(0, .ref (q9)), (1, .int (ri)), (2, .int (si)), (3, .int (v))] := hl
  refine lv_iload_n hx hb dX_narrow_0 rfl (lv_at hl 1 rfl) ?_
  by_cases hi_ri : vp_in ri 16
  rotate_left
  · exact tx_callS (As := [.int (ri)]) (rest := []) ⟨hx, hb, hml, hown, hts⟩ (tX_requireGrant l hst (ri) hi_ri) (cwS 1 hts (gw_S w_151 w_152 w_14 w_153) rfl rfl rfl (by decide) ⟨Nat.le_of_ble_eq_true rfl, Nat.le_of_ble_eq_true rfl⟩) ⟨tx_blind, tx_pre hB (fun _ _ => rfl)⟩ rfl hl.1 rfl (Nat.le_of_ble_eq_true rfl) dX_narrow_1 ⟨Nat.le_of_ble_eq_true rfl, Nat.le_of_ble_eq_true rfl⟩ (fun z ce H1 _ _ h1 h2 h3 => tx_leave rfl rfl rfl hne hlocks h1 h2 h3 (Nat.le_refl _) (Nat.le_refl _))
  refine kr_Sv 1 (As := [.int (ri)]) (rest := []) hx hb hml hown hts hl.1 (mX_requireGrant l (ri) hi_ri) tt_stb trivial (gw_S w_151 w_152 w_14 w_153) (by decide) ⟨rfl, rfl⟩ ⟨Nat.le_of_ble_eq_true rfl, Nat.le_of_ble_eq_true rfl⟩ rfl rfl (Nat.le_of_ble_eq_true rfl) dX_narrow_1 ⟨Nat.zero_le _, Nat.zero_le _⟩ ?_
  refine lv_iload_n hx hb dX_narrow_4 rfl (lv_at hl 2 rfl) ?_
  by_cases hi_si : vp_in si 16
  rotate_left
  · exact tx_callS (As := [.int (si)]) (rest := []) ⟨hx, hb, hml, hown, hts⟩ (tX_requireGrant l hst (si) hi_si) (cwS 1 hts (gw_S w_151 w_152 w_14 w_153) rfl rfl rfl (by decide) ⟨Nat.le_of_ble_eq_true rfl, Nat.le_of_ble_eq_true rfl⟩) ⟨tx_blind, tx_pre hB (fun _ _ => rfl)⟩ rfl hl.1 rfl (Nat.le_of_ble_eq_true rfl) dX_narrow_5 ⟨Nat.le_of_ble_eq_true rfl, Nat.le_of_ble_eq_true rfl⟩ (fun z ce H1 _ _ h1 h2 h3 => tx_leave rfl rfl rfl hne hlocks h1 h2 h3 (Nat.le_refl _) (Nat.le_refl _))
  refine kr_Sv 1 (As := [.int (si)]) (rest := []) hx hb hml hown hts hl.1 (mX_requireGrant l (si) hi_si) tt_stb trivial (gw_S w_151 w_152 w_14 w_153) (by decide) ⟨rfl, rfl⟩ ⟨Nat.le_of_ble_eq_true rfl, Nat.le_of_ble_eq_true rfl⟩ rfl rfl (Nat.le_of_ble_eq_true rfl) dX_narrow_5 ⟨Nat.zero_le _, Nat.zero_le _⟩ ?_
  exact absurd ⟨hi_ri, hi_si⟩ hbad

set_option maxRecDepth 100000 in
set_option maxHeartbeats 4000000 in
theorem tX_restrict (l : Launch) (hst : l.stackTraces = false) (q9 : Nat) (ri si v : Int32) (hbad : ¬ (vp_in ri 16 ∧ vp_in si 16)) : tx_Thr l yX_restrict (Cond.code yX_restrict cX_restrict 6 (some .boolean) :: gw) (rmk 7 1 6) (va_Pc [.ref (q9), .int (ri), .int (si), .int (v)] tx_B) iob 1 6 := by
  refine tx_of (cc := cX_restrict) (maxL := 6) (ret := (some .boolean)) (by decide) rfl ?_
  intro p e s m args below meth c s₁ B9 hml hne hv
  obtain ⟨rfl, hB⟩ := hv
  have hx := B9.exec
  have hb := B9.bytes
  have hts := fun (w : Cond) (h : w ∈ gw) => atoms_spec (ws := _ :: gw) B9.pre w (List.mem_cons_of_mem _ h)
  have hown : s.vm.findClass RX = some m.cls := findClass_of_methodNamed B9.named
  have hlocks := B9.notSynchronized
  have hl := lv_entry ([.ref (q9), .int (ri), .int (si), .int (v)]) (n := 6) (Nat.le_of_ble_eq_true rfl)
  rw [lg_entry_eq]
  generalize (lg_sl ([.ref (q9), .int (ri), .int (si), .int (v)]) ++ List.replicate (6 - (lg_sl ([.ref (q9), .int (ri), .int (si), .int (v)])).length) Slot.unset).toArray = ls at hl ⊢
  have hl : lv_has ls 6 [(0, .ref (q9)), (1, .int (ri)), (2, .int (si)), (3, .int (v))] := hl
  refine lv_iload_n hx hb dX_restrict_0 rfl (lv_at hl 1 rfl) ?_
  by_cases hi_ri : vp_in ri 16
  rotate_left
  · exact tx_callS (As := [.int (ri)]) (rest := []) ⟨hx, hb, hml, hown, hts⟩ (tX_requireGrant l hst (ri) hi_ri) (cwS 1 hts (gw_S w_151 w_152 w_14 w_153) rfl rfl rfl (by decide) ⟨Nat.le_of_ble_eq_true rfl, Nat.le_of_ble_eq_true rfl⟩) ⟨tx_blind, tx_pre hB (fun _ _ => rfl)⟩ rfl hl.1 rfl (Nat.le_of_ble_eq_true rfl) dX_restrict_1 ⟨Nat.le_of_ble_eq_true rfl, Nat.le_of_ble_eq_true rfl⟩ (fun z ce H1 _ _ h1 h2 h3 => tx_leave rfl rfl rfl hne hlocks h1 h2 h3 (Nat.le_refl _) (Nat.le_refl _))
  refine kr_Sv 1 (As := [.int (ri)]) (rest := []) hx hb hml hown hts hl.1 (mX_requireGrant l (ri) hi_ri) tt_stb trivial (gw_S w_151 w_152 w_14 w_153) (by decide) ⟨rfl, rfl⟩ ⟨Nat.le_of_ble_eq_true rfl, Nat.le_of_ble_eq_true rfl⟩ rfl rfl (Nat.le_of_ble_eq_true rfl) dX_restrict_1 ⟨Nat.zero_le _, Nat.zero_le _⟩ ?_
  refine lv_iload_n hx hb dX_restrict_4 rfl (lv_at hl 2 rfl) ?_
  by_cases hi_si : vp_in si 16
  rotate_left
  · exact tx_callS (As := [.int (si)]) (rest := []) ⟨hx, hb, hml, hown, hts⟩ (tX_requireGrant l hst (si) hi_si) (cwS 1 hts (gw_S w_151 w_152 w_14 w_153) rfl rfl rfl (by decide) ⟨Nat.le_of_ble_eq_true rfl, Nat.le_of_ble_eq_true rfl⟩) ⟨tx_blind, tx_pre hB (fun _ _ => rfl)⟩ rfl hl.1 rfl (Nat.le_of_ble_eq_true rfl) dX_restrict_5 ⟨Nat.le_of_ble_eq_true rfl, Nat.le_of_ble_eq_true rfl⟩ (fun z ce H1 _ _ h1 h2 h3 => tx_leave rfl rfl rfl hne hlocks h1 h2 h3 (Nat.le_refl _) (Nat.le_refl _))
  refine kr_Sv 1 (As := [.int (si)]) (rest := []) hx hb hml hown hts hl.1 (mX_requireGrant l (si) hi_si) tt_stb trivial (gw_S w_151 w_152 w_14 w_153) (by decide) ⟨rfl, rfl⟩ ⟨Nat.le_of_ble_eq_true rfl, Nat.le_of_ble_eq_true rfl⟩ rfl rfl (Nat.le_of_ble_eq_true rfl) dX_restrict_5 ⟨Nat.zero_le _, Nat.zero_le _⟩ ?_
  exact absurd ⟨hi_ri, hi_si⟩ hbad

set_option maxRecDepth 100000 in
set_option maxHeartbeats 4000000 in
theorem tX_seal (l : Launch) (hst : l.stackTraces = false) (q9 : Nat) (ri si ti : Int32) (hbad : ¬ (vp_in ri 16 ∧ vp_in si 16 ∧ vp_in ti 16)) : tx_Thr l yX_seal (Cond.code yX_seal cX_seal 6 (some .int) :: gw) (rmk 7 1 6) (va_Pc [.ref (q9), .int (ri), .int (si), .int (ti)] tx_B) iob 1 6 := by
  refine tx_of (cc := cX_seal) (maxL := 6) (ret := (some .int)) (by decide) rfl ?_
  intro p e s m args below meth c s₁ B9 hml hne hv
  obtain ⟨rfl, hB⟩ := hv
  have hx := B9.exec
  have hb := B9.bytes
  have hts := fun (w : Cond) (h : w ∈ gw) => atoms_spec (ws := _ :: gw) B9.pre w (List.mem_cons_of_mem _ h)
  have hown : s.vm.findClass RX = some m.cls := findClass_of_methodNamed B9.named
  have hlocks := B9.notSynchronized
  have hl := lv_entry ([.ref (q9), .int (ri), .int (si), .int (ti)]) (n := 6) (Nat.le_of_ble_eq_true rfl)
  rw [lg_entry_eq]
  generalize (lg_sl ([.ref (q9), .int (ri), .int (si), .int (ti)]) ++ List.replicate (6 - (lg_sl ([.ref (q9), .int (ri), .int (si), .int (ti)])).length) Slot.unset).toArray = ls at hl ⊢
  have hl : lv_has ls 6 [(0, .ref (q9)), (1, .int (ri)), (2, .int (si)), (3, .int (ti))] := hl
  refine lv_iload_n hx hb dX_seal_0 rfl (lv_at hl 1 rfl) ?_
  by_cases hi_ri : vp_in ri 16
  rotate_left
  · exact tx_callS (As := [.int (ri)]) (rest := []) ⟨hx, hb, hml, hown, hts⟩ (tX_requireGrant l hst (ri) hi_ri) (cwS 1 hts (gw_S w_151 w_152 w_14 w_153) rfl rfl rfl (by decide) ⟨Nat.le_of_ble_eq_true rfl, Nat.le_of_ble_eq_true rfl⟩) ⟨tx_blind, tx_pre hB (fun _ _ => rfl)⟩ rfl hl.1 rfl (Nat.le_of_ble_eq_true rfl) dX_seal_1 ⟨Nat.le_of_ble_eq_true rfl, Nat.le_of_ble_eq_true rfl⟩ (fun z ce H1 _ _ h1 h2 h3 => tx_leave rfl rfl rfl hne hlocks h1 h2 h3 (Nat.le_refl _) (Nat.le_refl _))
  refine kr_Sv 1 (As := [.int (ri)]) (rest := []) hx hb hml hown hts hl.1 (mX_requireGrant l (ri) hi_ri) tt_stb trivial (gw_S w_151 w_152 w_14 w_153) (by decide) ⟨rfl, rfl⟩ ⟨Nat.le_of_ble_eq_true rfl, Nat.le_of_ble_eq_true rfl⟩ rfl rfl (Nat.le_of_ble_eq_true rfl) dX_seal_1 ⟨Nat.zero_le _, Nat.zero_le _⟩ ?_
  refine lv_iload_n hx hb dX_seal_4 rfl (lv_at hl 2 rfl) ?_
  by_cases hi_si : vp_in si 16
  rotate_left
  · exact tx_callS (As := [.int (si)]) (rest := []) ⟨hx, hb, hml, hown, hts⟩ (tX_requireGrant l hst (si) hi_si) (cwS 1 hts (gw_S w_151 w_152 w_14 w_153) rfl rfl rfl (by decide) ⟨Nat.le_of_ble_eq_true rfl, Nat.le_of_ble_eq_true rfl⟩) ⟨tx_blind, tx_pre hB (fun _ _ => rfl)⟩ rfl hl.1 rfl (Nat.le_of_ble_eq_true rfl) dX_seal_5 ⟨Nat.le_of_ble_eq_true rfl, Nat.le_of_ble_eq_true rfl⟩ (fun z ce H1 _ _ h1 h2 h3 => tx_leave rfl rfl rfl hne hlocks h1 h2 h3 (Nat.le_refl _) (Nat.le_refl _))
  refine kr_Sv 1 (As := [.int (si)]) (rest := []) hx hb hml hown hts hl.1 (mX_requireGrant l (si) hi_si) tt_stb trivial (gw_S w_151 w_152 w_14 w_153) (by decide) ⟨rfl, rfl⟩ ⟨Nat.le_of_ble_eq_true rfl, Nat.le_of_ble_eq_true rfl⟩ rfl rfl (Nat.le_of_ble_eq_true rfl) dX_seal_5 ⟨Nat.zero_le _, Nat.zero_le _⟩ ?_
  refine lv_iload_n hx hb dX_seal_8 rfl (lv_at hl 3 rfl) ?_
  by_cases hi_ti : vp_in ti 16
  rotate_left
  · exact tx_callS (As := [.int (ti)]) (rest := []) ⟨hx, hb, hml, hown, hts⟩ (tX_requireGrant l hst (ti) hi_ti) (cwS 1 hts (gw_S w_151 w_152 w_14 w_153) rfl rfl rfl (by decide) ⟨Nat.le_of_ble_eq_true rfl, Nat.le_of_ble_eq_true rfl⟩) ⟨tx_blind, tx_pre hB (fun _ _ => rfl)⟩ rfl hl.1 rfl (Nat.le_of_ble_eq_true rfl) dX_seal_9 ⟨Nat.le_of_ble_eq_true rfl, Nat.le_of_ble_eq_true rfl⟩ (fun z ce H1 _ _ h1 h2 h3 => tx_leave rfl rfl rfl hne hlocks h1 h2 h3 (Nat.le_refl _) (Nat.le_refl _))
  refine kr_Sv 1 (As := [.int (ti)]) (rest := []) hx hb hml hown hts hl.1 (mX_requireGrant l (ti) hi_ti) tt_stb trivial (gw_S w_151 w_152 w_14 w_153) (by decide) ⟨rfl, rfl⟩ ⟨Nat.le_of_ble_eq_true rfl, Nat.le_of_ble_eq_true rfl⟩ rfl rfl (Nat.le_of_ble_eq_true rfl) dX_seal_9 ⟨Nat.zero_le _, Nat.zero_le _⟩ ?_
  exact absurd ⟨hi_ri, hi_si, hi_ti⟩ hbad

set_option maxRecDepth 100000 in
set_option maxHeartbeats 4000000 in
theorem tX_unseal (l : Launch) (hst : l.stackTraces = false) (q9 : Nat) (ri si ti : Int32) (hbad : ¬ (vp_in ri 16 ∧ vp_in si 16 ∧ vp_in ti 16)) : tx_Thr l yX_unseal (Cond.code yX_unseal cX_unseal 5 (some .int) :: gw) (rmk 7 1 6) (va_Pc [.ref (q9), .int (ri), .int (si), .int (ti)] tx_B) iob 1 6 := by
  refine tx_of (cc := cX_unseal) (maxL := 5) (ret := (some .int)) (by decide) rfl ?_
  intro p e s m args below meth c s₁ B9 hml hne hv
  obtain ⟨rfl, hB⟩ := hv
  have hx := B9.exec
  have hb := B9.bytes
  have hts := fun (w : Cond) (h : w ∈ gw) => atoms_spec (ws := _ :: gw) B9.pre w (List.mem_cons_of_mem _ h)
  have hown : s.vm.findClass RX = some m.cls := findClass_of_methodNamed B9.named
  have hlocks := B9.notSynchronized
  have hl := lv_entry ([.ref (q9), .int (ri), .int (si), .int (ti)]) (n := 5) (Nat.le_of_ble_eq_true rfl)
  rw [lg_entry_eq]
  generalize (lg_sl ([.ref (q9), .int (ri), .int (si), .int (ti)]) ++ List.replicate (5 - (lg_sl ([.ref (q9), .int (ri), .int (si), .int (ti)])).length) Slot.unset).toArray = ls at hl ⊢
  have hl : lv_has ls 5 [(0, .ref (q9)), (1, .int (ri)), (2, .int (si)), (3, .int (ti))] := hl
  refine lv_iload_n hx hb dX_unseal_0 rfl (lv_at hl 1 rfl) ?_
  by_cases hi_ri : vp_in ri 16
  rotate_left
  · exact tx_callS (As := [.int (ri)]) (rest := []) ⟨hx, hb, hml, hown, hts⟩ (tX_requireGrant l hst (ri) hi_ri) (cwS 1 hts (gw_S w_151 w_152 w_14 w_153) rfl rfl rfl (by decide) ⟨Nat.le_of_ble_eq_true rfl, Nat.le_of_ble_eq_true rfl⟩) ⟨tx_blind, tx_pre hB (fun _ _ => rfl)⟩ rfl hl.1 rfl (Nat.le_of_ble_eq_true rfl) dX_unseal_1 ⟨Nat.le_of_ble_eq_true rfl, Nat.le_of_ble_eq_true rfl⟩ (fun z ce H1 _ _ h1 h2 h3 => tx_leave rfl rfl rfl hne hlocks h1 h2 h3 (Nat.le_refl _) (Nat.le_refl _))
  refine kr_Sv 1 (As := [.int (ri)]) (rest := []) hx hb hml hown hts hl.1 (mX_requireGrant l (ri) hi_ri) tt_stb trivial (gw_S w_151 w_152 w_14 w_153) (by decide) ⟨rfl, rfl⟩ ⟨Nat.le_of_ble_eq_true rfl, Nat.le_of_ble_eq_true rfl⟩ rfl rfl (Nat.le_of_ble_eq_true rfl) dX_unseal_1 ⟨Nat.zero_le _, Nat.zero_le _⟩ ?_
  refine lv_iload_n hx hb dX_unseal_4 rfl (lv_at hl 2 rfl) ?_
  by_cases hi_si : vp_in si 16
  rotate_left
  · exact tx_callS (As := [.int (si)]) (rest := []) ⟨hx, hb, hml, hown, hts⟩ (tX_requireGrant l hst (si) hi_si) (cwS 1 hts (gw_S w_151 w_152 w_14 w_153) rfl rfl rfl (by decide) ⟨Nat.le_of_ble_eq_true rfl, Nat.le_of_ble_eq_true rfl⟩) ⟨tx_blind, tx_pre hB (fun _ _ => rfl)⟩ rfl hl.1 rfl (Nat.le_of_ble_eq_true rfl) dX_unseal_5 ⟨Nat.le_of_ble_eq_true rfl, Nat.le_of_ble_eq_true rfl⟩ (fun z ce H1 _ _ h1 h2 h3 => tx_leave rfl rfl rfl hne hlocks h1 h2 h3 (Nat.le_refl _) (Nat.le_refl _))
  refine kr_Sv 1 (As := [.int (si)]) (rest := []) hx hb hml hown hts hl.1 (mX_requireGrant l (si) hi_si) tt_stb trivial (gw_S w_151 w_152 w_14 w_153) (by decide) ⟨rfl, rfl⟩ ⟨Nat.le_of_ble_eq_true rfl, Nat.le_of_ble_eq_true rfl⟩ rfl rfl (Nat.le_of_ble_eq_true rfl) dX_unseal_5 ⟨Nat.zero_le _, Nat.zero_le _⟩ ?_
  refine lv_iload_n hx hb dX_unseal_8 rfl (lv_at hl 3 rfl) ?_
  by_cases hi_ti : vp_in ti 16
  rotate_left
  · exact tx_callS (As := [.int (ti)]) (rest := []) ⟨hx, hb, hml, hown, hts⟩ (tX_requireGrant l hst (ti) hi_ti) (cwS 1 hts (gw_S w_151 w_152 w_14 w_153) rfl rfl rfl (by decide) ⟨Nat.le_of_ble_eq_true rfl, Nat.le_of_ble_eq_true rfl⟩) ⟨tx_blind, tx_pre hB (fun _ _ => rfl)⟩ rfl hl.1 rfl (Nat.le_of_ble_eq_true rfl) dX_unseal_9 ⟨Nat.le_of_ble_eq_true rfl, Nat.le_of_ble_eq_true rfl⟩ (fun z ce H1 _ _ h1 h2 h3 => tx_leave rfl rfl rfl hne hlocks h1 h2 h3 (Nat.le_refl _) (Nat.le_refl _))
  refine kr_Sv 1 (As := [.int (ti)]) (rest := []) hx hb hml hown hts hl.1 (mX_requireGrant l (ti) hi_ti) tt_stb trivial (gw_S w_151 w_152 w_14 w_153) (by decide) ⟨rfl, rfl⟩ ⟨Nat.le_of_ble_eq_true rfl, Nat.le_of_ble_eq_true rfl⟩ rfl rfl (Nat.le_of_ble_eq_true rfl) dX_unseal_9 ⟨Nat.zero_le _, Nat.zero_le _⟩ ?_
  exact absurd ⟨hi_ri, hi_si, hi_ti⟩ hbad

set_option maxRecDepth 100000 in
set_option maxHeartbeats 4000000 in
theorem tX_within (l : Launch) (hst : l.stackTraces = false) (q9 : Nat) (ri si : Int32) (hbad : ¬ (vp_in ri 16 ∧ vp_in si 16)) : tx_Thr l yX_within (Cond.code yX_within cX_within 3 (some .boolean) :: gw) (rmk 7 1 6) (va_Pc [.ref (q9), .int (ri), .int (si)] tx_B) iob 1 6 := by
  refine tx_of (cc := cX_within) (maxL := 3) (ret := (some .boolean)) (by decide) rfl ?_
  intro p e s m args below meth c s₁ B9 hml hne hv
  obtain ⟨rfl, hB⟩ := hv
  have hx := B9.exec
  have hb := B9.bytes
  have hts := fun (w : Cond) (h : w ∈ gw) => atoms_spec (ws := _ :: gw) B9.pre w (List.mem_cons_of_mem _ h)
  have hown : s.vm.findClass RX = some m.cls := findClass_of_methodNamed B9.named
  have hlocks := B9.notSynchronized
  have hl := lv_entry ([.ref (q9), .int (ri), .int (si)]) (n := 3) (Nat.le_of_ble_eq_true rfl)
  rw [lg_entry_eq]
  generalize (lg_sl ([.ref (q9), .int (ri), .int (si)]) ++ List.replicate (3 - (lg_sl ([.ref (q9), .int (ri), .int (si)])).length) Slot.unset).toArray = ls at hl ⊢
  have hl : lv_has ls 3 [(0, .ref (q9)), (1, .int (ri)), (2, .int (si))] := hl
  refine lv_iload_n hx hb dX_within_0 rfl (lv_at hl 1 rfl) ?_
  by_cases hi_ri : vp_in ri 16
  rotate_left
  · exact tx_callS (As := [.int (ri)]) (rest := []) ⟨hx, hb, hml, hown, hts⟩ (tX_requireGrant l hst (ri) hi_ri) (cwS 1 hts (gw_S w_151 w_152 w_14 w_153) rfl rfl rfl (by decide) ⟨Nat.le_of_ble_eq_true rfl, Nat.le_of_ble_eq_true rfl⟩) ⟨tx_blind, tx_pre hB (fun _ _ => rfl)⟩ rfl hl.1 rfl (Nat.le_of_ble_eq_true rfl) dX_within_1 ⟨Nat.le_of_ble_eq_true rfl, Nat.le_of_ble_eq_true rfl⟩ (fun z ce H1 _ _ h1 h2 h3 => tx_leave rfl rfl rfl hne hlocks h1 h2 h3 (Nat.le_refl _) (Nat.le_refl _))
  refine kr_Sv 1 (As := [.int (ri)]) (rest := []) hx hb hml hown hts hl.1 (mX_requireGrant l (ri) hi_ri) tt_stb trivial (gw_S w_151 w_152 w_14 w_153) (by decide) ⟨rfl, rfl⟩ ⟨Nat.le_of_ble_eq_true rfl, Nat.le_of_ble_eq_true rfl⟩ rfl rfl (Nat.le_of_ble_eq_true rfl) dX_within_1 ⟨Nat.zero_le _, Nat.zero_le _⟩ ?_
  refine lv_iload_n hx hb dX_within_4 rfl (lv_at hl 2 rfl) ?_
  by_cases hi_si : vp_in si 16
  rotate_left
  · exact tx_callS (As := [.int (si)]) (rest := []) ⟨hx, hb, hml, hown, hts⟩ (tX_requireGrant l hst (si) hi_si) (cwS 1 hts (gw_S w_151 w_152 w_14 w_153) rfl rfl rfl (by decide) ⟨Nat.le_of_ble_eq_true rfl, Nat.le_of_ble_eq_true rfl⟩) ⟨tx_blind, tx_pre hB (fun _ _ => rfl)⟩ rfl hl.1 rfl (Nat.le_of_ble_eq_true rfl) dX_within_5 ⟨Nat.le_of_ble_eq_true rfl, Nat.le_of_ble_eq_true rfl⟩ (fun z ce H1 _ _ h1 h2 h3 => tx_leave rfl rfl rfl hne hlocks h1 h2 h3 (Nat.le_refl _) (Nat.le_refl _))
  refine kr_Sv 1 (As := [.int (si)]) (rest := []) hx hb hml hown hts hl.1 (mX_requireGrant l (si) hi_si) tt_stb trivial (gw_S w_151 w_152 w_14 w_153) (by decide) ⟨rfl, rfl⟩ ⟨Nat.le_of_ble_eq_true rfl, Nat.le_of_ble_eq_true rfl⟩ rfl rfl (Nat.le_of_ble_eq_true rfl) dX_within_5 ⟨Nat.zero_le _, Nat.zero_le _⟩ ?_
  exact absurd ⟨hi_ri, hi_si⟩ hbad
end
section
/-! Contracts of GrantMath: the methods that write; what root, allows and part throw. Laid by program (wip/whole/gen_x4.py). -/
set_option maxRecDepth 100000 in
set_option maxHeartbeats 4000000 in
theorem mX_copy (l : Launch) (D : va_G) (cI cZ : ClassId) (q : Nat → Nat) (A B T P Y : Nat → Int32) (G : Nat → Bool) (sz : Nat) (ri si : Int32) (hri : vp_in ri 16) (hsi : vp_in si 16) : Met l yX_copy (Cond.code yX_copy cX_copy 3 none :: gw) (rmk 0 0 0) (va_Pc [.ref (q 0), .int (ri), .int (si)] (kB D vwCl (xW cI cZ q A B T P Y G) (tsX cI cZ) sz)) (kQ none D vwCl (xW cI cZ q (upd A ri.toNatClampNeg (A si.toNatClampNeg)) (upd B ri.toNatClampNeg (B si.toNatClampNeg)) (upd T ri.toNatClampNeg (T si.toNatClampNeg)) (upd P ri.toNatClampNeg (P si.toNatClampNeg)) (upd Y ri.toNatClampNeg (Y si.toNatClampNeg)) (ub G ri.toNatClampNeg (G si.toNatClampNeg))) (va_A (xW cI cZ q A B T P Y G) sz)) 0 0 (va_A (xW cI cZ q A B T P Y G) sz) := by
  refine Met.ofW (cc := cX_copy) (maxL := 3) (ret := none) (by decide) rfl ?_
  intro p e s m args below meth c s₁ B9 hml hv
  obtain ⟨rfl, hsz, hP, hK, hD0⟩ := hv
  have hx := B9.exec
  have hb := B9.bytes
  have hr := B9.returns
  have hts := fun (w : Cond) (h : w ∈ gw) => atoms_spec (ws := _ :: gw) B9.pre w (List.mem_cons_of_mem _ h)
  have hown : s.vm.findClass RX = some m.cls := findClass_of_methodNamed B9.named
  have hlocks := B9.notSynchronized
  have hl := lv_entry ([.ref (q 0), .int (ri), .int (si)]) (n := 3) (Nat.le_of_ble_eq_true rfl)
  rw [lg_entry_eq]
  generalize (lg_sl ([.ref (q 0), .int (ri), .int (si)]) ++ List.replicate (3 - (lg_sl ([.ref (q 0), .int (ri), .int (si)])).length) Slot.unset).toArray = ls at hl ⊢
  have hl : lv_has ls 3 [(0, .ref (q 0)), (1, .int (ri)), (2, .int (si))] := hl
  subst hsz
  have hD := hD0.self (sz := s.heap.size)
  generalize hAe : va_A (xW cI cZ q A B T P Y G) s.heap.size = A9 at hD ⊢
  have hA : ∀ z : Nat, s.heap.size ≤ z → A9 z := fun z h => by rw [← hAe]; exact Or.inr h
  have hS : va_S A9 s.heap s.heap [] := va_S.rf
  have hP : va_P D vwCl (xW cI cZ q A B T P Y G) s.heap := hP
  refine lv_aload_n hx hb dX_copy_0 rfl (lv_at hl 0 rfl) ?_
  refine va_get (D := D) (ci := 0) (v := .ref (q 1)) (C := RX) (T := TX) (N := 6) hx hb hts inX hown hK hP 0 rfl rfl 0 (by decide) (hts _ w_29) (fun _ h9 => h9) rfl dX_copy_1 ?_
  refine lv_iload_n hx hb dX_copy_4 rfl (lv_at hl 1 rfl) ?_
  refine lv_aload_n hx hb dX_copy_5 rfl (lv_at hl 0 rfl) ?_
  refine va_get (D := D) (ci := 0) (v := .ref (q 1)) (C := RX) (T := TX) (N := 6) hx hb hts inX hown hK hP 0 rfl rfl 0 (by decide) (hts _ w_29) (fun _ h9 => h9) rfl dX_copy_6 ?_
  refine lv_iload_n hx hb dX_copy_9 rfl (lv_at hl 2 rfl) ?_
  refine va_iald hx hb hK hP 1 0 rfl rfl hsi dX_copy_10 ?_
  refine va_iast hx hb hK hP hD hS 1 0 rfl rfl hri dX_copy_11 (fun H locs hP hD hS => ?_)
  have hP : va_P D vwCl (xW cI cZ q (upd A ri.toNatClampNeg (A si.toNatClampNeg)) B T P Y G) H := hP
  have hD : va_D A9 (xW cI cZ q (upd A ri.toNatClampNeg (A si.toNatClampNeg)) B T P Y G) := hD
  refine lv_aload_n hx hb dX_copy_12 rfl (lv_at hl 0 rfl) ?_
  refine va_get (D := D) (ci := 0) (v := .ref (q 2)) (C := RX) (T := TX) (N := 6) hx hb hts inX hown hK hP 0 rfl rfl 1 (by decide) (hts _ w_30) (fun _ h9 => h9) rfl dX_copy_13 ?_
  refine lv_iload_n hx hb dX_copy_16 rfl (lv_at hl 1 rfl) ?_
  refine lv_aload_n hx hb dX_copy_17 rfl (lv_at hl 0 rfl) ?_
  refine va_get (D := D) (ci := 0) (v := .ref (q 2)) (C := RX) (T := TX) (N := 6) hx hb hts inX hown hK hP 0 rfl rfl 1 (by decide) (hts _ w_30) (fun _ h9 => h9) rfl dX_copy_18 ?_
  refine lv_iload_n hx hb dX_copy_21 rfl (lv_at hl 2 rfl) ?_
  refine va_iald hx hb hK hP 2 0 rfl rfl hsi dX_copy_22 ?_
  refine va_iast hx hb hK hP hD hS 2 0 rfl rfl hri dX_copy_23 (fun H locs hP hD hS => ?_)
  have hP : va_P D vwCl (xW cI cZ q (upd A ri.toNatClampNeg (A si.toNatClampNeg)) (upd B ri.toNatClampNeg (B si.toNatClampNeg)) T P Y G) H := hP
  have hD : va_D A9 (xW cI cZ q (upd A ri.toNatClampNeg (A si.toNatClampNeg)) (upd B ri.toNatClampNeg (B si.toNatClampNeg)) T P Y G) := hD
  refine lv_aload_n hx hb dX_copy_24 rfl (lv_at hl 0 rfl) ?_
  refine va_get (D := D) (ci := 0) (v := .ref (q 3)) (C := RX) (T := TX) (N := 6) hx hb hts inX hown hK hP 0 rfl rfl 2 (by decide) (hts _ w_31) (fun _ h9 => h9) rfl dX_copy_25 ?_
  refine lv_iload_n hx hb dX_copy_28 rfl (lv_at hl 1 rfl) ?_
  refine lv_aload_n hx hb dX_copy_29 rfl (lv_at hl 0 rfl) ?_
  refine va_get (D := D) (ci := 0) (v := .ref (q 3)) (C := RX) (T := TX) (N := 6) hx hb hts inX hown hK hP 0 rfl rfl 2 (by decide) (hts _ w_31) (fun _ h9 => h9) rfl dX_copy_30 ?_
  refine lv_iload_n hx hb dX_copy_33 rfl (lv_at hl 2 rfl) ?_
  refine va_iald hx hb hK hP 3 0 rfl rfl hsi dX_copy_34 ?_
  refine va_iast hx hb hK hP hD hS 3 0 rfl rfl hri dX_copy_35 (fun H locs hP hD hS => ?_)
  have hP : va_P D vwCl (xW cI cZ q (upd A ri.toNatClampNeg (A si.toNatClampNeg)) (upd B ri.toNatClampNeg (B si.toNatClampNeg)) (upd T ri.toNatClampNeg (T si.toNatClampNeg)) P Y G) H := hP
  have hD : va_D A9 (xW cI cZ q (upd A ri.toNatClampNeg (A si.toNatClampNeg)) (upd B ri.toNatClampNeg (B si.toNatClampNeg)) (upd T ri.toNatClampNeg (T si.toNatClampNeg)) P Y G) := hD
  refine lv_aload_n hx hb dX_copy_36 rfl (lv_at hl 0 rfl) ?_
  refine va_get (D := D) (ci := 0) (v := .ref (q 4)) (C := RX) (T := TX) (N := 6) hx hb hts inX hown hK hP 0 rfl rfl 3 (by decide) (hts _ w_32) (fun _ h9 => h9) rfl dX_copy_37 ?_
  refine lv_iload_n hx hb dX_copy_40 rfl (lv_at hl 1 rfl) ?_
  refine lv_aload_n hx hb dX_copy_41 rfl (lv_at hl 0 rfl) ?_
  refine va_get (D := D) (ci := 0) (v := .ref (q 4)) (C := RX) (T := TX) (N := 6) hx hb hts inX hown hK hP 0 rfl rfl 3 (by decide) (hts _ w_32) (fun _ h9 => h9) rfl dX_copy_42 ?_
  refine lv_iload_n hx hb dX_copy_45 rfl (lv_at hl 2 rfl) ?_
  refine va_iald hx hb hK hP 4 0 rfl rfl hsi dX_copy_46 ?_
  refine va_iast hx hb hK hP hD hS 4 0 rfl rfl hri dX_copy_47 (fun H locs hP hD hS => ?_)
  have hP : va_P D vwCl (xW cI cZ q (upd A ri.toNatClampNeg (A si.toNatClampNeg)) (upd B ri.toNatClampNeg (B si.toNatClampNeg)) (upd T ri.toNatClampNeg (T si.toNatClampNeg)) (upd P ri.toNatClampNeg (P si.toNatClampNeg)) Y G) H := hP
  have hD : va_D A9 (xW cI cZ q (upd A ri.toNatClampNeg (A si.toNatClampNeg)) (upd B ri.toNatClampNeg (B si.toNatClampNeg)) (upd T ri.toNatClampNeg (T si.toNatClampNeg)) (upd P ri.toNatClampNeg (P si.toNatClampNeg)) Y G) := hD
  refine lv_aload_n hx hb dX_copy_48 rfl (lv_at hl 0 rfl) ?_
  refine va_get (D := D) (ci := 0) (v := .ref (q 5)) (C := RX) (T := TX) (N := 6) hx hb hts inX hown hK hP 0 rfl rfl 4 (by decide) (hts _ w_33) (fun _ h9 => h9) rfl dX_copy_49 ?_
  refine lv_iload_n hx hb dX_copy_52 rfl (lv_at hl 1 rfl) ?_
  refine lv_aload_n hx hb dX_copy_53 rfl (lv_at hl 0 rfl) ?_
  refine va_get (D := D) (ci := 0) (v := .ref (q 5)) (C := RX) (T := TX) (N := 6) hx hb hts inX hown hK hP 0 rfl rfl 4 (by decide) (hts _ w_33) (fun _ h9 => h9) rfl dX_copy_54 ?_
  refine lv_iload_n hx hb dX_copy_57 rfl (lv_at hl 2 rfl) ?_
  refine va_iald hx hb hK hP 5 0 rfl rfl hsi dX_copy_58 ?_
  refine va_iast hx hb hK hP hD hS 5 0 rfl rfl hri dX_copy_59 (fun H locs hP hD hS => ?_)
  have hP : va_P D vwCl (xW cI cZ q (upd A ri.toNatClampNeg (A si.toNatClampNeg)) (upd B ri.toNatClampNeg (B si.toNatClampNeg)) (upd T ri.toNatClampNeg (T si.toNatClampNeg)) (upd P ri.toNatClampNeg (P si.toNatClampNeg)) (upd Y ri.toNatClampNeg (Y si.toNatClampNeg)) G) H := hP
  have hD : va_D A9 (xW cI cZ q (upd A ri.toNatClampNeg (A si.toNatClampNeg)) (upd B ri.toNatClampNeg (B si.toNatClampNeg)) (upd T ri.toNatClampNeg (T si.toNatClampNeg)) (upd P ri.toNatClampNeg (P si.toNatClampNeg)) (upd Y ri.toNatClampNeg (Y si.toNatClampNeg)) G) := hD
  refine lv_aload_n hx hb dX_copy_60 rfl (lv_at hl 0 rfl) ?_
  refine va_get (D := D) (ci := 0) (v := .ref (q 6)) (C := RX) (T := TX) (N := 6) hx hb hts inX hown hK hP 0 rfl rfl 5 (by decide) (hts _ w_34) (fun _ h9 => h9) rfl dX_copy_61 ?_
  refine lv_iload_n hx hb dX_copy_64 rfl (lv_at hl 1 rfl) ?_
  refine lv_aload_n hx hb dX_copy_65 rfl (lv_at hl 0 rfl) ?_
  refine va_get (D := D) (ci := 0) (v := .ref (q 6)) (C := RX) (T := TX) (N := 6) hx hb hts inX hown hK hP 0 rfl rfl 5 (by decide) (hts _ w_34) (fun _ h9 => h9) rfl dX_copy_66 ?_
  refine lv_iload_n hx hb dX_copy_69 rfl (lv_at hl 2 rfl) ?_
  refine va_zald hx hb hK hP 6 1 rfl rfl hsi dX_copy_70 ?_
  refine W.eq (g2 := F0 m 71 ls [.int (bi (G si.toNatClampNeg)), .int (ri), .ref (q 6)]) rfl ?_
  refine va_zast hx hb hK hP hD hS 6 1 rfl rfl hri dX_copy_71 (fun H locs hP hD hS => ?_)
  have hP : va_P D vwCl (xW cI cZ q (upd A ri.toNatClampNeg (A si.toNatClampNeg)) (upd B ri.toNatClampNeg (B si.toNatClampNeg)) (upd T ri.toNatClampNeg (T si.toNatClampNeg)) (upd P ri.toNatClampNeg (P si.toNatClampNeg)) (upd Y ri.toNatClampNeg (Y si.toNatClampNeg)) (ub G ri.toNatClampNeg (G si.toNatClampNeg))) H := by rw [ub_upd] at hP; exact hP
  have hD : va_D A9 (xW cI cZ q (upd A ri.toNatClampNeg (A si.toNatClampNeg)) (upd B ri.toNatClampNeg (B si.toNatClampNeg)) (upd T ri.toNatClampNeg (T si.toNatClampNeg)) (upd P ri.toNatClampNeg (P si.toNatClampNeg)) (upd Y ri.toNatClampNeg (Y si.toNatClampNeg)) (ub G ri.toNatClampNeg (G si.toNatClampNeg))) := by rw [ub_upd] at hD; exact hD
  exact W.vret hx hb hr (fun t9 ht hW => ⟨rfl, by rw [ht]; exact hP, hD, hS.F ht⟩) hS.2.2 dX_copy_72

set_option maxRecDepth 100000 in
set_option maxHeartbeats 4000000 in
theorem mX_number (l : Launch) (D : va_G) (cI cZ : ClassId) (q : Nat → Nat) (A B T P Y : Nat → Int32) (G : Nat → Bool) (sz : Nat) (ri v : Int32) (hri : vp_in ri 16) : Met l yX_number (Cond.code yX_number cX_number 3 none :: gw) (rmk 1 0 0) (va_Pc [.ref (q 0), .int (ri), .int (v)] (kB D vwCl (xW cI cZ q A B T P Y G) (tsX cI cZ) sz)) (kQ none D vwCl (xW cI cZ q (upd A ri.toNatClampNeg (v)) (upd B ri.toNatClampNeg (0)) (upd T ri.toNatClampNeg (0)) (upd P ri.toNatClampNeg (0)) (upd Y ri.toNatClampNeg (0)) (ub G ri.toNatClampNeg (false))) (va_A (xW cI cZ q A B T P Y G) sz)) 0 0 (va_A (xW cI cZ q A B T P Y G) sz) := by
  refine Met.ofW (cc := cX_number) (maxL := 3) (ret := none) (by decide) rfl ?_
  intro p e s m args below meth c s₁ B9 hml hv
  obtain ⟨rfl, hsz, hP, hK, hD0⟩ := hv
  have hx := B9.exec
  have hb := B9.bytes
  have hr := B9.returns
  have hts := fun (w : Cond) (h : w ∈ gw) => atoms_spec (ws := _ :: gw) B9.pre w (List.mem_cons_of_mem _ h)
  have hown : s.vm.findClass RX = some m.cls := findClass_of_methodNamed B9.named
  have hlocks := B9.notSynchronized
  have hl := lv_entry ([.ref (q 0), .int (ri), .int (v)]) (n := 3) (Nat.le_of_ble_eq_true rfl)
  rw [lg_entry_eq]
  generalize (lg_sl ([.ref (q 0), .int (ri), .int (v)]) ++ List.replicate (3 - (lg_sl ([.ref (q 0), .int (ri), .int (v)])).length) Slot.unset).toArray = ls at hl ⊢
  have hl : lv_has ls 3 [(0, .ref (q 0)), (1, .int (ri)), (2, .int (v))] := hl
  subst hsz
  have hD := hD0.self (sz := s.heap.size)
  generalize hAe : va_A (xW cI cZ q A B T P Y G) s.heap.size = A9 at hD ⊢
  have hA : ∀ z : Nat, s.heap.size ≤ z → A9 z := fun z h => by rw [← hAe]; exact Or.inr h
  have hS : va_S A9 s.heap s.heap [] := va_S.rf
  have hP : va_P D vwCl (xW cI cZ q A B T P Y G) s.heap := hP
  refine lv_iload_n hx hb dX_number_0 rfl (lv_at hl 1 rfl) ?_
  refine kr_Sv 1 (As := [.int (ri)]) (rest := []) hx hb hml hown hts hl.1 (mX_requireGrant l (ri) hri) tt_stb trivial (gw_S w_151 w_152 w_14 w_153) (by decide) ⟨rfl, rfl⟩ ⟨Nat.le_of_ble_eq_true rfl, Nat.le_of_ble_eq_true rfl⟩ rfl rfl (Nat.le_of_ble_eq_true rfl) dX_number_1 ⟨Nat.zero_le _, Nat.zero_le _⟩ ?_
  refine lv_aload_n hx hb dX_number_4 rfl (lv_at hl 0 rfl) ?_
  refine va_get (D := D) (ci := 0) (v := .ref (q 1)) (C := RX) (T := TX) (N := 6) hx hb hts inX hown hK hP 0 rfl rfl 0 (by decide) (hts _ w_29) (fun _ h9 => h9) rfl dX_number_5 ?_
  refine lv_iload_n hx hb dX_number_8 rfl (lv_at hl 1 rfl) ?_
  refine lv_iload_n hx hb dX_number_9 rfl (lv_at hl 2 rfl) ?_
  refine va_iast hx hb hK hP hD hS 1 0 rfl rfl hri dX_number_10 (fun H locs hP hD hS => ?_)
  have hP : va_P D vwCl (xW cI cZ q (upd A ri.toNatClampNeg (v)) B T P Y G) H := hP
  have hD : va_D A9 (xW cI cZ q (upd A ri.toNatClampNeg (v)) B T P Y G) := hD
  refine lv_aload_n hx hb dX_number_11 rfl (lv_at hl 0 rfl) ?_
  refine va_get (D := D) (ci := 0) (v := .ref (q 2)) (C := RX) (T := TX) (N := 6) hx hb hts inX hown hK hP 0 rfl rfl 1 (by decide) (hts _ w_30) (fun _ h9 => h9) rfl dX_number_12 ?_
  refine lv_iload_n hx hb dX_number_15 rfl (lv_at hl 1 rfl) ?_
  refine lv_iconst (v := 0) hx hb dX_number_16 (by decide) ?_
  refine va_iast hx hb hK hP hD hS 2 0 rfl rfl hri dX_number_17 (fun H locs hP hD hS => ?_)
  have hP : va_P D vwCl (xW cI cZ q (upd A ri.toNatClampNeg (v)) (upd B ri.toNatClampNeg (0)) T P Y G) H := hP
  have hD : va_D A9 (xW cI cZ q (upd A ri.toNatClampNeg (v)) (upd B ri.toNatClampNeg (0)) T P Y G) := hD
  refine lv_aload_n hx hb dX_number_18 rfl (lv_at hl 0 rfl) ?_
  refine va_get (D := D) (ci := 0) (v := .ref (q 3)) (C := RX) (T := TX) (N := 6) hx hb hts inX hown hK hP 0 rfl rfl 2 (by decide) (hts _ w_31) (fun _ h9 => h9) rfl dX_number_19 ?_
  refine lv_iload_n hx hb dX_number_22 rfl (lv_at hl 1 rfl) ?_
  refine lv_iconst (v := 0) hx hb dX_number_23 (by decide) ?_
  refine va_iast hx hb hK hP hD hS 3 0 rfl rfl hri dX_number_24 (fun H locs hP hD hS => ?_)
  have hP : va_P D vwCl (xW cI cZ q (upd A ri.toNatClampNeg (v)) (upd B ri.toNatClampNeg (0)) (upd T ri.toNatClampNeg (0)) P Y G) H := hP
  have hD : va_D A9 (xW cI cZ q (upd A ri.toNatClampNeg (v)) (upd B ri.toNatClampNeg (0)) (upd T ri.toNatClampNeg (0)) P Y G) := hD
  refine lv_aload_n hx hb dX_number_25 rfl (lv_at hl 0 rfl) ?_
  refine va_get (D := D) (ci := 0) (v := .ref (q 4)) (C := RX) (T := TX) (N := 6) hx hb hts inX hown hK hP 0 rfl rfl 3 (by decide) (hts _ w_32) (fun _ h9 => h9) rfl dX_number_26 ?_
  refine lv_iload_n hx hb dX_number_29 rfl (lv_at hl 1 rfl) ?_
  refine lv_iconst (v := 0) hx hb dX_number_30 (by decide) ?_
  refine va_iast hx hb hK hP hD hS 4 0 rfl rfl hri dX_number_31 (fun H locs hP hD hS => ?_)
  have hP : va_P D vwCl (xW cI cZ q (upd A ri.toNatClampNeg (v)) (upd B ri.toNatClampNeg (0)) (upd T ri.toNatClampNeg (0)) (upd P ri.toNatClampNeg (0)) Y G) H := hP
  have hD : va_D A9 (xW cI cZ q (upd A ri.toNatClampNeg (v)) (upd B ri.toNatClampNeg (0)) (upd T ri.toNatClampNeg (0)) (upd P ri.toNatClampNeg (0)) Y G) := hD
  refine lv_aload_n hx hb dX_number_32 rfl (lv_at hl 0 rfl) ?_
  refine va_get (D := D) (ci := 0) (v := .ref (q 5)) (C := RX) (T := TX) (N := 6) hx hb hts inX hown hK hP 0 rfl rfl 4 (by decide) (hts _ w_33) (fun _ h9 => h9) rfl dX_number_33 ?_
  refine lv_iload_n hx hb dX_number_36 rfl (lv_at hl 1 rfl) ?_
  refine lv_iconst (v := 0) hx hb dX_number_37 (by decide) ?_
  refine va_iast hx hb hK hP hD hS 5 0 rfl rfl hri dX_number_38 (fun H locs hP hD hS => ?_)
  have hP : va_P D vwCl (xW cI cZ q (upd A ri.toNatClampNeg (v)) (upd B ri.toNatClampNeg (0)) (upd T ri.toNatClampNeg (0)) (upd P ri.toNatClampNeg (0)) (upd Y ri.toNatClampNeg (0)) G) H := hP
  have hD : va_D A9 (xW cI cZ q (upd A ri.toNatClampNeg (v)) (upd B ri.toNatClampNeg (0)) (upd T ri.toNatClampNeg (0)) (upd P ri.toNatClampNeg (0)) (upd Y ri.toNatClampNeg (0)) G) := hD
  refine lv_aload_n hx hb dX_number_39 rfl (lv_at hl 0 rfl) ?_
  refine va_get (D := D) (ci := 0) (v := .ref (q 6)) (C := RX) (T := TX) (N := 6) hx hb hts inX hown hK hP 0 rfl rfl 5 (by decide) (hts _ w_34) (fun _ h9 => h9) rfl dX_number_40 ?_
  refine lv_iload_n hx hb dX_number_43 rfl (lv_at hl 1 rfl) ?_
  refine lv_iconst (v := 0) hx hb dX_number_44 (by decide) ?_
  refine W.eq (g2 := F0 m 45 ls [.int (bi false), .int (ri), .ref (q 6)]) rfl ?_
  refine va_zast hx hb hK hP hD hS 6 1 rfl rfl hri dX_number_45 (fun H locs hP hD hS => ?_)
  have hP : va_P D vwCl (xW cI cZ q (upd A ri.toNatClampNeg (v)) (upd B ri.toNatClampNeg (0)) (upd T ri.toNatClampNeg (0)) (upd P ri.toNatClampNeg (0)) (upd Y ri.toNatClampNeg (0)) (ub G ri.toNatClampNeg (false))) H := by rw [ub_upd] at hP; exact hP
  have hD : va_D A9 (xW cI cZ q (upd A ri.toNatClampNeg (v)) (upd B ri.toNatClampNeg (0)) (upd T ri.toNatClampNeg (0)) (upd P ri.toNatClampNeg (0)) (upd Y ri.toNatClampNeg (0)) (ub G ri.toNatClampNeg (false))) := by rw [ub_upd] at hD; exact hD
  exact W.vret hx hb hr (fun t9 ht hW => ⟨rfl, by rw [ht]; exact hP, hD, hS.F ht⟩) hS.2.2 dX_number_46

set_option maxRecDepth 100000 in
set_option maxHeartbeats 4000000 in
theorem mX_root (l : Launch) (D : va_G) (cI cZ : ClassId) (q : Nat → Nat) (A B T P Y : Nat → Int32) (G : Nat → Bool) (sz : Nat) (ri b9 t9 v : Int32) (hri : vp_in ri 16) (hbt : un b9 ≤ un t9) (hv0 : ¬ v < 0) (hv : v ≤ 255) : Met l yX_root (Cond.code yX_root cX_root 5 none :: gw) (rmk 1 0 0) (va_Pc [.ref (q 0), .int (ri), .int (b9), .int (t9), .int (v)] (kB D vwCl (xW cI cZ q A B T P Y G) (tsX cI cZ) sz)) (kQ none D vwCl (xW cI cZ q (upd A ri.toNatClampNeg (b9)) (upd B ri.toNatClampNeg (b9)) (upd T ri.toNatClampNeg (t9)) (upd P ri.toNatClampNeg (v)) (upd Y ri.toNatClampNeg (0)) (ub G ri.toNatClampNeg (true))) (va_A (xW cI cZ q A B T P Y G) sz)) 0 0 (va_A (xW cI cZ q A B T P Y G) sz) := by
  refine Met.ofW (cc := cX_root) (maxL := 5) (ret := none) (by decide) rfl ?_
  intro p e s m args below meth c s₁ B9 hml hv
  obtain ⟨rfl, hsz, hP, hK, hD0⟩ := hv
  have hx := B9.exec
  have hb := B9.bytes
  have hr := B9.returns
  have hts := fun (w : Cond) (h : w ∈ gw) => atoms_spec (ws := _ :: gw) B9.pre w (List.mem_cons_of_mem _ h)
  have hown : s.vm.findClass RX = some m.cls := findClass_of_methodNamed B9.named
  have hlocks := B9.notSynchronized
  have hl := lv_entry ([.ref (q 0), .int (ri), .int (b9), .int (t9), .int (v)]) (n := 5) (Nat.le_of_ble_eq_true rfl)
  rw [lg_entry_eq]
  generalize (lg_sl ([.ref (q 0), .int (ri), .int (b9), .int (t9), .int (v)]) ++ List.replicate (5 - (lg_sl ([.ref (q 0), .int (ri), .int (b9), .int (t9), .int (v)])).length) Slot.unset).toArray = ls at hl ⊢
  have hl : lv_has ls 5 [(0, .ref (q 0)), (1, .int (ri)), (2, .int (b9)), (3, .int (t9)), (4, .int (v))] := hl
  subst hsz
  have hD := hD0.self (sz := s.heap.size)
  generalize hAe : va_A (xW cI cZ q A B T P Y G) s.heap.size = A9 at hD ⊢
  have hA : ∀ z : Nat, s.heap.size ≤ z → A9 z := fun z h => by rw [← hAe]; exact Or.inr h
  have hS : va_S A9 s.heap s.heap [] := va_S.rf
  have hP : va_P D vwCl (xW cI cZ q A B T P Y G) s.heap := hP
  refine lv_iload_n hx hb dX_root_0 rfl (lv_at hl 2 rfl) ?_
  refine kr_S 1 (As := [.int (b9)]) (rest := []) (r := .long (uw (b9))) hx hb hml hown hts hl.1 (mX_unsigned l (b9)) tt_stb trivial (gw_S w_70 w_71 w_14 w_72) (by decide) ⟨rfl, rfl⟩ ⟨Nat.le_of_ble_eq_true rfl, Nat.le_of_ble_eq_true rfl⟩ rfl rfl (Nat.le_of_ble_eq_true rfl) dX_root_1 ⟨Nat.zero_le _, Nat.zero_le _⟩ ?_
  refine lv_iload_n hx hb dX_root_4 rfl (lv_at hl 3 rfl) ?_
  refine kr_S 1 (As := [.int (t9)]) (rest := [.long (uw (b9))]) (r := .long (uw (t9))) hx hb hml hown hts hl.1 (mX_unsigned l (t9)) tt_stb trivial (gw_S w_70 w_71 w_14 w_72) (by decide) ⟨rfl, rfl⟩ ⟨Nat.le_of_ble_eq_true rfl, Nat.le_of_ble_eq_true rfl⟩ rfl rfl (Nat.le_of_ble_eq_true rfl) dX_root_5 ⟨Nat.zero_le _, Nat.zero_le _⟩ ?_
  refine W.lcmp hx hb dX_root_8 ?_
  refine lv_if_le (tgt := 22) hx hb dX_root_9 (by decide) (fun h_1 => ?_) (fun h_1 => absurd ((lg_cmp_le _ _).mpr ((uw_le _ _).mpr hbt)) h_1)
  rw [lg_cmp_le] at h_1
  refine lv_iload hx hb dX_root_22 (lv_at hl 4 rfl) ?_
  refine lv_if_lt (tgt := 35) hx hb dX_root_24 (by decide) (fun h_2 => absurd h_2 hv0) (fun h_2 => ?_)
  refine lv_iload hx hb dX_root_27 (lv_at hl 4 rfl) ?_
  refine lv_sipush (v := 255) hx hb dX_root_29 (by decide) ?_
  refine lv_icmp_le (tgt := 45) hx hb dX_root_32 (by decide) (fun h_3 => ?_) (fun h_3 => absurd hv h_3)
  refine lv_iload_n hx hb dX_root_45 rfl (lv_at hl 1 rfl) ?_
  refine kr_Sv 1 (As := [.int (ri)]) (rest := []) hx hb hml hown hts hl.1 (mX_requireGrant l (ri) hri) tt_stb trivial (gw_S w_151 w_152 w_14 w_153) (by decide) ⟨rfl, rfl⟩ ⟨Nat.le_of_ble_eq_true rfl, Nat.le_of_ble_eq_true rfl⟩ rfl rfl (Nat.le_of_ble_eq_true rfl) dX_root_46 ⟨Nat.zero_le _, Nat.zero_le _⟩ ?_
  refine lv_aload_n hx hb dX_root_49 rfl (lv_at hl 0 rfl) ?_
  refine va_get (D := D) (ci := 0) (v := .ref (q 1)) (C := RX) (T := TX) (N := 6) hx hb hts inX hown hK hP 0 rfl rfl 0 (by decide) (hts _ w_29) (fun _ h9 => h9) rfl dX_root_50 ?_
  refine lv_iload_n hx hb dX_root_53 rfl (lv_at hl 1 rfl) ?_
  refine lv_iload_n hx hb dX_root_54 rfl (lv_at hl 2 rfl) ?_
  refine va_iast hx hb hK hP hD hS 1 0 rfl rfl hri dX_root_55 (fun H locs hP hD hS => ?_)
  have hP : va_P D vwCl (xW cI cZ q (upd A ri.toNatClampNeg (b9)) B T P Y G) H := hP
  have hD : va_D A9 (xW cI cZ q (upd A ri.toNatClampNeg (b9)) B T P Y G) := hD
  refine lv_aload_n hx hb dX_root_56 rfl (lv_at hl 0 rfl) ?_
  refine va_get (D := D) (ci := 0) (v := .ref (q 2)) (C := RX) (T := TX) (N := 6) hx hb hts inX hown hK hP 0 rfl rfl 1 (by decide) (hts _ w_30) (fun _ h9 => h9) rfl dX_root_57 ?_
  refine lv_iload_n hx hb dX_root_60 rfl (lv_at hl 1 rfl) ?_
  refine lv_iload_n hx hb dX_root_61 rfl (lv_at hl 2 rfl) ?_
  refine va_iast hx hb hK hP hD hS 2 0 rfl rfl hri dX_root_62 (fun H locs hP hD hS => ?_)
  have hP : va_P D vwCl (xW cI cZ q (upd A ri.toNatClampNeg (b9)) (upd B ri.toNatClampNeg (b9)) T P Y G) H := hP
  have hD : va_D A9 (xW cI cZ q (upd A ri.toNatClampNeg (b9)) (upd B ri.toNatClampNeg (b9)) T P Y G) := hD
  refine lv_aload_n hx hb dX_root_63 rfl (lv_at hl 0 rfl) ?_
  refine va_get (D := D) (ci := 0) (v := .ref (q 3)) (C := RX) (T := TX) (N := 6) hx hb hts inX hown hK hP 0 rfl rfl 2 (by decide) (hts _ w_31) (fun _ h9 => h9) rfl dX_root_64 ?_
  refine lv_iload_n hx hb dX_root_67 rfl (lv_at hl 1 rfl) ?_
  refine lv_iload_n hx hb dX_root_68 rfl (lv_at hl 3 rfl) ?_
  refine va_iast hx hb hK hP hD hS 3 0 rfl rfl hri dX_root_69 (fun H locs hP hD hS => ?_)
  have hP : va_P D vwCl (xW cI cZ q (upd A ri.toNatClampNeg (b9)) (upd B ri.toNatClampNeg (b9)) (upd T ri.toNatClampNeg (t9)) P Y G) H := hP
  have hD : va_D A9 (xW cI cZ q (upd A ri.toNatClampNeg (b9)) (upd B ri.toNatClampNeg (b9)) (upd T ri.toNatClampNeg (t9)) P Y G) := hD
  refine lv_aload_n hx hb dX_root_70 rfl (lv_at hl 0 rfl) ?_
  refine va_get (D := D) (ci := 0) (v := .ref (q 4)) (C := RX) (T := TX) (N := 6) hx hb hts inX hown hK hP 0 rfl rfl 3 (by decide) (hts _ w_32) (fun _ h9 => h9) rfl dX_root_71 ?_
  refine lv_iload_n hx hb dX_root_74 rfl (lv_at hl 1 rfl) ?_
  refine lv_iload hx hb dX_root_75 (lv_at hl 4 rfl) ?_
  refine va_iast hx hb hK hP hD hS 4 0 rfl rfl hri dX_root_77 (fun H locs hP hD hS => ?_)
  have hP : va_P D vwCl (xW cI cZ q (upd A ri.toNatClampNeg (b9)) (upd B ri.toNatClampNeg (b9)) (upd T ri.toNatClampNeg (t9)) (upd P ri.toNatClampNeg (v)) Y G) H := hP
  have hD : va_D A9 (xW cI cZ q (upd A ri.toNatClampNeg (b9)) (upd B ri.toNatClampNeg (b9)) (upd T ri.toNatClampNeg (t9)) (upd P ri.toNatClampNeg (v)) Y G) := hD
  refine lv_aload_n hx hb dX_root_78 rfl (lv_at hl 0 rfl) ?_
  refine va_get (D := D) (ci := 0) (v := .ref (q 5)) (C := RX) (T := TX) (N := 6) hx hb hts inX hown hK hP 0 rfl rfl 4 (by decide) (hts _ w_33) (fun _ h9 => h9) rfl dX_root_79 ?_
  refine lv_iload_n hx hb dX_root_82 rfl (lv_at hl 1 rfl) ?_
  refine lv_iconst (v := 0) hx hb dX_root_83 (by decide) ?_
  refine va_iast hx hb hK hP hD hS 5 0 rfl rfl hri dX_root_84 (fun H locs hP hD hS => ?_)
  have hP : va_P D vwCl (xW cI cZ q (upd A ri.toNatClampNeg (b9)) (upd B ri.toNatClampNeg (b9)) (upd T ri.toNatClampNeg (t9)) (upd P ri.toNatClampNeg (v)) (upd Y ri.toNatClampNeg (0)) G) H := hP
  have hD : va_D A9 (xW cI cZ q (upd A ri.toNatClampNeg (b9)) (upd B ri.toNatClampNeg (b9)) (upd T ri.toNatClampNeg (t9)) (upd P ri.toNatClampNeg (v)) (upd Y ri.toNatClampNeg (0)) G) := hD
  refine lv_aload_n hx hb dX_root_85 rfl (lv_at hl 0 rfl) ?_
  refine va_get (D := D) (ci := 0) (v := .ref (q 6)) (C := RX) (T := TX) (N := 6) hx hb hts inX hown hK hP 0 rfl rfl 5 (by decide) (hts _ w_34) (fun _ h9 => h9) rfl dX_root_86 ?_
  refine lv_iload_n hx hb dX_root_89 rfl (lv_at hl 1 rfl) ?_
  refine lv_iconst (v := 1) hx hb dX_root_90 (by decide) ?_
  refine W.eq (g2 := F0 m 91 ls [.int (bi true), .int (ri), .ref (q 6)]) rfl ?_
  refine va_zast hx hb hK hP hD hS 6 1 rfl rfl hri dX_root_91 (fun H locs hP hD hS => ?_)
  have hP : va_P D vwCl (xW cI cZ q (upd A ri.toNatClampNeg (b9)) (upd B ri.toNatClampNeg (b9)) (upd T ri.toNatClampNeg (t9)) (upd P ri.toNatClampNeg (v)) (upd Y ri.toNatClampNeg (0)) (ub G ri.toNatClampNeg (true))) H := by rw [ub_upd] at hP; exact hP
  have hD : va_D A9 (xW cI cZ q (upd A ri.toNatClampNeg (b9)) (upd B ri.toNatClampNeg (b9)) (upd T ri.toNatClampNeg (t9)) (upd P ri.toNatClampNeg (v)) (upd Y ri.toNatClampNeg (0)) (ub G ri.toNatClampNeg (true))) := by rw [ub_upd] at hD; exact hD
  exact W.vret hx hb hr (fun t9 ht hW => ⟨rfl, by rw [ht]; exact hP, hD, hS.F ht⟩) hS.2.2 dX_root_92

set_option maxRecDepth 100000 in
set_option maxHeartbeats 4000000 in
theorem mX_move (l : Launch) (D : va_G) (cI cZ : ClassId) (q : Nat → Nat) (A B T P Y : Nat → Int32) (G : Nat → Bool) (sz : Nat) (ri si v : Int32) (hri : vp_in ri 16) (hsi : vp_in si 16) : Met l yX_move (Cond.code yX_move cX_move 5 none :: gw) (rmk 1 0 0) (va_Pc [.ref (q 0), .int (ri), .int (si), .int (v)] (kB D vwCl (xW cI cZ q A B T P Y G) (tsX cI cZ) sz)) (kQ none D vwCl (xW cI cZ q (upd A ri.toNatClampNeg ((A si.toNatClampNeg) + (v))) (upd B ri.toNatClampNeg (B si.toNatClampNeg)) (upd T ri.toNatClampNeg (T si.toNatClampNeg)) (upd P ri.toNatClampNeg (P si.toNatClampNeg)) (upd Y ri.toNatClampNeg (Y si.toNatClampNeg)) (ub G ri.toNatClampNeg ((G si.toNatClampNeg && (decide (Y si.toNatClampNeg = 0) || decide (v = 0)))))) (va_A (xW cI cZ q A B T P Y G) sz)) 0 0 (va_A (xW cI cZ q A B T P Y G) sz) := by
  refine Met.ofW (cc := cX_move) (maxL := 5) (ret := none) (by decide) rfl ?_
  intro p e s m args below meth c s₁ B9 hml hv
  obtain ⟨rfl, hsz, hP, hK, hD0⟩ := hv
  have hx := B9.exec
  have hb := B9.bytes
  have hr := B9.returns
  have hts := fun (w : Cond) (h : w ∈ gw) => atoms_spec (ws := _ :: gw) B9.pre w (List.mem_cons_of_mem _ h)
  have hown : s.vm.findClass RX = some m.cls := findClass_of_methodNamed B9.named
  have hlocks := B9.notSynchronized
  have hl := lv_entry ([.ref (q 0), .int (ri), .int (si), .int (v)]) (n := 5) (Nat.le_of_ble_eq_true rfl)
  rw [lg_entry_eq]
  generalize (lg_sl ([.ref (q 0), .int (ri), .int (si), .int (v)]) ++ List.replicate (5 - (lg_sl ([.ref (q 0), .int (ri), .int (si), .int (v)])).length) Slot.unset).toArray = ls at hl ⊢
  have hl : lv_has ls 5 [(0, .ref (q 0)), (1, .int (ri)), (2, .int (si)), (3, .int (v))] := hl
  subst hsz
  have hD := hD0.self (sz := s.heap.size)
  generalize hAe : va_A (xW cI cZ q A B T P Y G) s.heap.size = A9 at hD ⊢
  have hA : ∀ z : Nat, s.heap.size ≤ z → A9 z := fun z h => by rw [← hAe]; exact Or.inr h
  have hS : va_S A9 s.heap s.heap [] := va_S.rf
  have hP : va_P D vwCl (xW cI cZ q A B T P Y G) s.heap := hP
  refine lv_iload_n hx hb dX_move_0 rfl (lv_at hl 1 rfl) ?_
  refine kr_Sv 1 (As := [.int (ri)]) (rest := []) hx hb hml hown hts hl.1 (mX_requireGrant l (ri) hri) tt_stb trivial (gw_S w_151 w_152 w_14 w_153) (by decide) ⟨rfl, rfl⟩ ⟨Nat.le_of_ble_eq_true rfl, Nat.le_of_ble_eq_true rfl⟩ rfl rfl (Nat.le_of_ble_eq_true rfl) dX_move_1 ⟨Nat.zero_le _, Nat.zero_le _⟩ ?_
  refine lv_iload_n hx hb dX_move_4 rfl (lv_at hl 2 rfl) ?_
  refine kr_Sv 1 (As := [.int (si)]) (rest := []) hx hb hml hown hts hl.1 (mX_requireGrant l (si) hsi) tt_stb trivial (gw_S w_151 w_152 w_14 w_153) (by decide) ⟨rfl, rfl⟩ ⟨Nat.le_of_ble_eq_true rfl, Nat.le_of_ble_eq_true rfl⟩ rfl rfl (Nat.le_of_ble_eq_true rfl) dX_move_5 ⟨Nat.zero_le _, Nat.zero_le _⟩ ?_
  refine lv_aload_n hx hb dX_move_8 rfl (lv_at hl 0 rfl) ?_
  refine lv_iload_n hx hb dX_move_9 rfl (lv_at hl 2 rfl) ?_
  refine kr_V 1 (b := q 0) (As := [.int (si)]) (rest := []) (r := .int (bi (decide (¬ Y si.toNatClampNeg = 0)))) hx hb hml hown hts hl.1 (mX_isSealed l D cI cZ q A B T P Y G (si) hsi) rB_stb ⟨hP, hK⟩ (gw_V w_58 w_60 w_1 w_14 w_61) (by decide) ⟨rfl, rfl⟩ ⟨Nat.le_of_ble_eq_true rfl, Nat.le_of_ble_eq_true rfl⟩ (va_recv hK hP (ci := 0) rfl (q0 := 0) rfl) rfl rfl (Nat.le_of_ble_eq_true rfl) dX_move_10 ⟨Nat.zero_le _, Nat.zero_le _⟩ ?_
  refine lv_if_eq (tgt := 20) hx hb dX_move_13 (by decide) (fun h_1 => ?_) (fun h_1 => ?_)
  · have h_1 := bi_0 h_1
    refine lv_iconst (v := 1) hx hb dX_move_20 (by decide) ?_
    refine lv_goto (tgt := 25) hx hb dX_move_21 (by decide) ?_
    refine lv_istore hx hb dX_move_25 hl (by decide) rfl (fun ls hl => ?_)
    have hl : lv_has ls 5 [(4, .int (1)), (0, .ref (q 0)), (1, .int (ri)), (2, .int (si)), (3, .int (v))] := hl
    refine lv_aload_n hx hb dX_move_27 rfl (lv_at hl 1 rfl) ?_
    refine lv_iload_n hx hb dX_move_28 rfl (lv_at hl 2 rfl) ?_
    refine lv_iload_n hx hb dX_move_29 rfl (lv_at hl 3 rfl) ?_
    refine kw_V 2 [0, 1, 2, 3, 4, 5, 6] [] (b := q 0) (As := [.int (ri), .int (si)]) (rest := []) (wc := xW cI cZ q A B T P Y G) (wr := []) (w1 := xW cI cZ q (upd A ri.toNatClampNeg (A si.toNatClampNeg)) (upd B ri.toNatClampNeg (B si.toNatClampNeg)) (upd T ri.toNatClampNeg (T si.toNatClampNeg)) (upd P ri.toNatClampNeg (P si.toNatClampNeg)) (upd Y ri.toNatClampNeg (Y si.toNatClampNeg)) (ub G ri.toNatClampNeg (G si.toNatClampNeg))) hx hb hml hown hts hl.1 hP hD hS hA hK (mX_copy l D cI cZ q A B T P Y G _ ri si hri hsi) (gw_V w_184 w_186 w_5 w_14 w_187) (by decide) ⟨rfl, rfl⟩ ⟨Nat.le_of_ble_eq_true rfl, Nat.le_of_ble_eq_true rfl⟩ (va_recv hK hP (ci := 0) rfl (q0 := 0) rfl) rfl rfl (Nat.le_of_ble_eq_true rfl) dX_move_30 ⟨Nat.zero_le _, Nat.zero_le _⟩ rfl rfl ⟨by decide, by decide⟩ (by decide) (fun H locs hP hD hS => ?_)
    have hP : va_P D vwCl (xW cI cZ q (upd A ri.toNatClampNeg (A si.toNatClampNeg)) (upd B ri.toNatClampNeg (B si.toNatClampNeg)) (upd T ri.toNatClampNeg (T si.toNatClampNeg)) (upd P ri.toNatClampNeg (P si.toNatClampNeg)) (upd Y ri.toNatClampNeg (Y si.toNatClampNeg)) (ub G ri.toNatClampNeg (G si.toNatClampNeg))) H := hP
    have hD : va_D A9 (xW cI cZ q (upd A ri.toNatClampNeg (A si.toNatClampNeg)) (upd B ri.toNatClampNeg (B si.toNatClampNeg)) (upd T ri.toNatClampNeg (T si.toNatClampNeg)) (upd P ri.toNatClampNeg (P si.toNatClampNeg)) (upd Y ri.toNatClampNeg (Y si.toNatClampNeg)) (ub G ri.toNatClampNeg (G si.toNatClampNeg))) := hD
    refine W.eq (g2 := F0 m 33 ls []) rfl ?_
    refine lv_aload_n hx hb dX_move_33 rfl (lv_at hl 1 rfl) ?_
    refine va_get (D := D) (ci := 0) (v := .ref (q 1)) (C := RX) (T := TX) (N := 6) hx hb hts inX hown hK hP 0 rfl rfl 0 (by decide) (hts _ w_29) (fun _ h9 => h9) rfl dX_move_34 ?_
    refine lv_iload_n hx hb dX_move_37 rfl (lv_at hl 2 rfl) ?_
    refine lv_dup2_11 hx hb dX_move_38 rfl rfl ?_
    refine va_iald hx hb hK hP 1 0 rfl rfl hri dX_move_39 ?_
    refine W.eq (g2 := F0 m 40 ls [.int (A si.toNatClampNeg), .int (ri), .ref (q 1)]) (by first | rfl | (rw [pk_us] <;> rfl)) ?_
    refine lv_iload_n hx hb dX_move_40 rfl (lv_at hl 4 rfl) ?_
    refine lv_iadd hx hb dX_move_41 ?_
    refine va_iast hx hb hK hP hD hS 1 0 rfl rfl hri dX_move_42 (fun H locs hP hD hS => ?_)
    have hP : va_P D vwCl (xW cI cZ q (upd (upd A ri.toNatClampNeg (A si.toNatClampNeg)) ri.toNatClampNeg ((A si.toNatClampNeg) + (v))) (upd B ri.toNatClampNeg (B si.toNatClampNeg)) (upd T ri.toNatClampNeg (T si.toNatClampNeg)) (upd P ri.toNatClampNeg (P si.toNatClampNeg)) (upd Y ri.toNatClampNeg (Y si.toNatClampNeg)) (ub G ri.toNatClampNeg (G si.toNatClampNeg))) H := hP
    have hD : va_D A9 (xW cI cZ q (upd (upd A ri.toNatClampNeg (A si.toNatClampNeg)) ri.toNatClampNeg ((A si.toNatClampNeg) + (v))) (upd B ri.toNatClampNeg (B si.toNatClampNeg)) (upd T ri.toNatClampNeg (T si.toNatClampNeg)) (upd P ri.toNatClampNeg (P si.toNatClampNeg)) (upd Y ri.toNatClampNeg (Y si.toNatClampNeg)) (ub G ri.toNatClampNeg (G si.toNatClampNeg))) := hD
    refine lv_aload_n hx hb dX_move_43 rfl (lv_at hl 1 rfl) ?_
    refine va_get (D := D) (ci := 0) (v := .ref (q 6)) (C := RX) (T := TX) (N := 6) hx hb hts inX hown hK hP 0 rfl rfl 5 (by decide) (hts _ w_34) (fun _ h9 => h9) rfl dX_move_44 ?_
    refine lv_iload_n hx hb dX_move_47 rfl (lv_at hl 2 rfl) ?_
    refine lv_aload_n hx hb dX_move_48 rfl (lv_at hl 1 rfl) ?_
    refine va_get (D := D) (ci := 0) (v := .ref (q 6)) (C := RX) (T := TX) (N := 6) hx hb hts inX hown hK hP 0 rfl rfl 5 (by decide) (hts _ w_34) (fun _ h9 => h9) rfl dX_move_49 ?_
    refine lv_iload_n hx hb dX_move_52 rfl (lv_at hl 2 rfl) ?_
    refine va_zald hx hb hK hP 6 1 rfl rfl hri dX_move_53 ?_
    refine W.eq (g2 := F0 m 54 ls [.int (bi (G si.toNatClampNeg)), .int (ri), .ref (q 6)]) (by first | rfl | (rw [ub_s] <;> rfl)) ?_
    refine lv_if_eq (tgt := 66) hx hb dX_move_54 (by decide) (fun h_2 => ?_) (fun h_2 => ?_)
    · have h_2 := bi_0 h_2
      refine lv_iconst (v := 0) hx hb dX_move_66 (by decide) ?_
      refine W.eq (g2 := F0 m 67 ls [.int (bi false), .int (ri), .ref (q 6)]) rfl ?_
      refine va_zast hx hb hK hP hD hS 6 1 rfl rfl hri dX_move_67 (fun H locs hP hD hS => ?_)
      have hP : va_P D vwCl (xW cI cZ q (upd (upd A ri.toNatClampNeg (A si.toNatClampNeg)) ri.toNatClampNeg ((A si.toNatClampNeg) + (v))) (upd B ri.toNatClampNeg (B si.toNatClampNeg)) (upd T ri.toNatClampNeg (T si.toNatClampNeg)) (upd P ri.toNatClampNeg (P si.toNatClampNeg)) (upd Y ri.toNatClampNeg (Y si.toNatClampNeg)) (ub (ub G ri.toNatClampNeg (G si.toNatClampNeg)) ri.toNatClampNeg (false))) H := by rw [ub_upd] at hP; exact hP
      have hD : va_D A9 (xW cI cZ q (upd (upd A ri.toNatClampNeg (A si.toNatClampNeg)) ri.toNatClampNeg ((A si.toNatClampNeg) + (v))) (upd B ri.toNatClampNeg (B si.toNatClampNeg)) (upd T ri.toNatClampNeg (T si.toNatClampNeg)) (upd P ri.toNatClampNeg (P si.toNatClampNeg)) (upd Y ri.toNatClampNeg (Y si.toNatClampNeg)) (ub (ub G ri.toNatClampNeg (G si.toNatClampNeg)) ri.toNatClampNeg (false))) := by rw [ub_upd] at hD; exact hD
      have e9_0 : (G si.toNatClampNeg && (decide (Y si.toNatClampNeg = 0) || decide (v = 0))) = false := by (try simp only [decide_eq_true_eq, decide_eq_false_iff_not, Decidable.not_not] at h_1); (try simp only [decide_eq_true_eq, decide_eq_false_iff_not, Decidable.not_not] at h_2); simp [h_1, h_2]
      have hP : va_P D vwCl (xW cI cZ q (upd A ri.toNatClampNeg ((A si.toNatClampNeg) + (v))) (upd B ri.toNatClampNeg (B si.toNatClampNeg)) (upd T ri.toNatClampNeg (T si.toNatClampNeg)) (upd P ri.toNatClampNeg (P si.toNatClampNeg)) (upd Y ri.toNatClampNeg (Y si.toNatClampNeg)) (ub G ri.toNatClampNeg ((G si.toNatClampNeg && (decide (Y si.toNatClampNeg = 0) || decide (v = 0)))))) H := by (try rw [e9_0]); first | exact hP | (simp only [uu_upd, uu_ub] at hP ⊢; exact hP)
      have hD : va_D A9 (xW cI cZ q (upd A ri.toNatClampNeg ((A si.toNatClampNeg) + (v))) (upd B ri.toNatClampNeg (B si.toNatClampNeg)) (upd T ri.toNatClampNeg (T si.toNatClampNeg)) (upd P ri.toNatClampNeg (P si.toNatClampNeg)) (upd Y ri.toNatClampNeg (Y si.toNatClampNeg)) (ub G ri.toNatClampNeg ((G si.toNatClampNeg && (decide (Y si.toNatClampNeg = 0) || decide (v = 0)))))) := by (try rw [e9_0]); first | exact hD | (simp only [uu_upd, uu_ub] at hD ⊢; exact hD)
      exact W.vret hx hb hr (fun t9 ht hW => ⟨rfl, by rw [ht]; exact hP, hD, hS.F ht⟩) hS.2.2 dX_move_68
    · have h_2 := bi_n h_2
      refine lv_iload hx hb dX_move_57 (lv_at hl 0 rfl) ?_
      refine lv_if_eq (tgt := 66) hx hb dX_move_59 (by decide) (fun h_3 => absurd h_3 (by decide)) (fun h_3 => ?_)
      refine lv_iconst (v := 1) hx hb dX_move_62 (by decide) ?_
      refine lv_goto (tgt := 67) hx hb dX_move_63 (by decide) ?_
      refine W.eq (g2 := F0 m 67 ls [.int (bi true), .int (ri), .ref (q 6)]) rfl ?_
      refine va_zast hx hb hK hP hD hS 6 1 rfl rfl hri dX_move_67 (fun H locs hP hD hS => ?_)
      have hP : va_P D vwCl (xW cI cZ q (upd (upd A ri.toNatClampNeg (A si.toNatClampNeg)) ri.toNatClampNeg ((A si.toNatClampNeg) + (v))) (upd B ri.toNatClampNeg (B si.toNatClampNeg)) (upd T ri.toNatClampNeg (T si.toNatClampNeg)) (upd P ri.toNatClampNeg (P si.toNatClampNeg)) (upd Y ri.toNatClampNeg (Y si.toNatClampNeg)) (ub (ub G ri.toNatClampNeg (G si.toNatClampNeg)) ri.toNatClampNeg (true))) H := by rw [ub_upd] at hP; exact hP
      have hD : va_D A9 (xW cI cZ q (upd (upd A ri.toNatClampNeg (A si.toNatClampNeg)) ri.toNatClampNeg ((A si.toNatClampNeg) + (v))) (upd B ri.toNatClampNeg (B si.toNatClampNeg)) (upd T ri.toNatClampNeg (T si.toNatClampNeg)) (upd P ri.toNatClampNeg (P si.toNatClampNeg)) (upd Y ri.toNatClampNeg (Y si.toNatClampNeg)) (ub (ub G ri.toNatClampNeg (G si.toNatClampNeg)) ri.toNatClampNeg (true))) := by rw [ub_upd] at hD; exact hD
      have e9_0 : (G si.toNatClampNeg && (decide (Y si.toNatClampNeg = 0) || decide (v = 0))) = true := by (try simp only [decide_eq_true_eq, decide_eq_false_iff_not, Decidable.not_not] at h_1); (try simp only [decide_eq_true_eq, decide_eq_false_iff_not, Decidable.not_not] at h_2); simp [h_1, h_2]
      have hP : va_P D vwCl (xW cI cZ q (upd A ri.toNatClampNeg ((A si.toNatClampNeg) + (v))) (upd B ri.toNatClampNeg (B si.toNatClampNeg)) (upd T ri.toNatClampNeg (T si.toNatClampNeg)) (upd P ri.toNatClampNeg (P si.toNatClampNeg)) (upd Y ri.toNatClampNeg (Y si.toNatClampNeg)) (ub G ri.toNatClampNeg ((G si.toNatClampNeg && (decide (Y si.toNatClampNeg = 0) || decide (v = 0)))))) H := by (try rw [e9_0]); first | exact hP | (simp only [uu_upd, uu_ub] at hP ⊢; exact hP)
      have hD : va_D A9 (xW cI cZ q (upd A ri.toNatClampNeg ((A si.toNatClampNeg) + (v))) (upd B ri.toNatClampNeg (B si.toNatClampNeg)) (upd T ri.toNatClampNeg (T si.toNatClampNeg)) (upd P ri.toNatClampNeg (P si.toNatClampNeg)) (upd Y ri.toNatClampNeg (Y si.toNatClampNeg)) (ub G ri.toNatClampNeg ((G si.toNatClampNeg && (decide (Y si.toNatClampNeg = 0) || decide (v = 0)))))) := by (try rw [e9_0]); first | exact hD | (simp only [uu_upd, uu_ub] at hD ⊢; exact hD)
      exact W.vret hx hb hr (fun t9 ht hW => ⟨rfl, by rw [ht]; exact hP, hD, hS.F ht⟩) hS.2.2 dX_move_68
  · have h_1 := bi_n h_1
    refine lv_iload_n hx hb dX_move_16 rfl (lv_at hl 3 rfl) ?_
    refine lv_if_ne (tgt := 24) hx hb dX_move_17 (by decide) (fun h_4 => ?_) (fun h_4 => ?_)
    · 
      refine lv_iconst (v := 0) hx hb dX_move_24 (by decide) ?_
      refine lv_istore hx hb dX_move_25 hl (by decide) rfl (fun ls hl => ?_)
      have hl : lv_has ls 5 [(4, .int (0)), (0, .ref (q 0)), (1, .int (ri)), (2, .int (si)), (3, .int (v))] := hl
      refine lv_aload_n hx hb dX_move_27 rfl (lv_at hl 1 rfl) ?_
      refine lv_iload_n hx hb dX_move_28 rfl (lv_at hl 2 rfl) ?_
      refine lv_iload_n hx hb dX_move_29 rfl (lv_at hl 3 rfl) ?_
      refine kw_V 2 [0, 1, 2, 3, 4, 5, 6] [] (b := q 0) (As := [.int (ri), .int (si)]) (rest := []) (wc := xW cI cZ q A B T P Y G) (wr := []) (w1 := xW cI cZ q (upd A ri.toNatClampNeg (A si.toNatClampNeg)) (upd B ri.toNatClampNeg (B si.toNatClampNeg)) (upd T ri.toNatClampNeg (T si.toNatClampNeg)) (upd P ri.toNatClampNeg (P si.toNatClampNeg)) (upd Y ri.toNatClampNeg (Y si.toNatClampNeg)) (ub G ri.toNatClampNeg (G si.toNatClampNeg))) hx hb hml hown hts hl.1 hP hD hS hA hK (mX_copy l D cI cZ q A B T P Y G _ ri si hri hsi) (gw_V w_184 w_186 w_5 w_14 w_187) (by decide) ⟨rfl, rfl⟩ ⟨Nat.le_of_ble_eq_true rfl, Nat.le_of_ble_eq_true rfl⟩ (va_recv hK hP (ci := 0) rfl (q0 := 0) rfl) rfl rfl (Nat.le_of_ble_eq_true rfl) dX_move_30 ⟨Nat.zero_le _, Nat.zero_le _⟩ rfl rfl ⟨by decide, by decide⟩ (by decide) (fun H locs hP hD hS => ?_)
      have hP : va_P D vwCl (xW cI cZ q (upd A ri.toNatClampNeg (A si.toNatClampNeg)) (upd B ri.toNatClampNeg (B si.toNatClampNeg)) (upd T ri.toNatClampNeg (T si.toNatClampNeg)) (upd P ri.toNatClampNeg (P si.toNatClampNeg)) (upd Y ri.toNatClampNeg (Y si.toNatClampNeg)) (ub G ri.toNatClampNeg (G si.toNatClampNeg))) H := hP
      have hD : va_D A9 (xW cI cZ q (upd A ri.toNatClampNeg (A si.toNatClampNeg)) (upd B ri.toNatClampNeg (B si.toNatClampNeg)) (upd T ri.toNatClampNeg (T si.toNatClampNeg)) (upd P ri.toNatClampNeg (P si.toNatClampNeg)) (upd Y ri.toNatClampNeg (Y si.toNatClampNeg)) (ub G ri.toNatClampNeg (G si.toNatClampNeg))) := hD
      refine W.eq (g2 := F0 m 33 ls []) rfl ?_
      refine lv_aload_n hx hb dX_move_33 rfl (lv_at hl 1 rfl) ?_
      refine va_get (D := D) (ci := 0) (v := .ref (q 1)) (C := RX) (T := TX) (N := 6) hx hb hts inX hown hK hP 0 rfl rfl 0 (by decide) (hts _ w_29) (fun _ h9 => h9) rfl dX_move_34 ?_
      refine lv_iload_n hx hb dX_move_37 rfl (lv_at hl 2 rfl) ?_
      refine lv_dup2_11 hx hb dX_move_38 rfl rfl ?_
      refine va_iald hx hb hK hP 1 0 rfl rfl hri dX_move_39 ?_
      refine W.eq (g2 := F0 m 40 ls [.int (A si.toNatClampNeg), .int (ri), .ref (q 1)]) (by first | rfl | (rw [pk_us] <;> rfl)) ?_
      refine lv_iload_n hx hb dX_move_40 rfl (lv_at hl 4 rfl) ?_
      refine lv_iadd hx hb dX_move_41 ?_
      refine va_iast hx hb hK hP hD hS 1 0 rfl rfl hri dX_move_42 (fun H locs hP hD hS => ?_)
      have hP : va_P D vwCl (xW cI cZ q (upd (upd A ri.toNatClampNeg (A si.toNatClampNeg)) ri.toNatClampNeg ((A si.toNatClampNeg) + (v))) (upd B ri.toNatClampNeg (B si.toNatClampNeg)) (upd T ri.toNatClampNeg (T si.toNatClampNeg)) (upd P ri.toNatClampNeg (P si.toNatClampNeg)) (upd Y ri.toNatClampNeg (Y si.toNatClampNeg)) (ub G ri.toNatClampNeg (G si.toNatClampNeg))) H := hP
      have hD : va_D A9 (xW cI cZ q (upd (upd A ri.toNatClampNeg (A si.toNatClampNeg)) ri.toNatClampNeg ((A si.toNatClampNeg) + (v))) (upd B ri.toNatClampNeg (B si.toNatClampNeg)) (upd T ri.toNatClampNeg (T si.toNatClampNeg)) (upd P ri.toNatClampNeg (P si.toNatClampNeg)) (upd Y ri.toNatClampNeg (Y si.toNatClampNeg)) (ub G ri.toNatClampNeg (G si.toNatClampNeg))) := hD
      refine lv_aload_n hx hb dX_move_43 rfl (lv_at hl 1 rfl) ?_
      refine va_get (D := D) (ci := 0) (v := .ref (q 6)) (C := RX) (T := TX) (N := 6) hx hb hts inX hown hK hP 0 rfl rfl 5 (by decide) (hts _ w_34) (fun _ h9 => h9) rfl dX_move_44 ?_
      refine lv_iload_n hx hb dX_move_47 rfl (lv_at hl 2 rfl) ?_
      refine lv_aload_n hx hb dX_move_48 rfl (lv_at hl 1 rfl) ?_
      refine va_get (D := D) (ci := 0) (v := .ref (q 6)) (C := RX) (T := TX) (N := 6) hx hb hts inX hown hK hP 0 rfl rfl 5 (by decide) (hts _ w_34) (fun _ h9 => h9) rfl dX_move_49 ?_
      refine lv_iload_n hx hb dX_move_52 rfl (lv_at hl 2 rfl) ?_
      refine va_zald hx hb hK hP 6 1 rfl rfl hri dX_move_53 ?_
      refine W.eq (g2 := F0 m 54 ls [.int (bi (G si.toNatClampNeg)), .int (ri), .ref (q 6)]) (by first | rfl | (rw [ub_s] <;> rfl)) ?_
      refine lv_if_eq (tgt := 66) hx hb dX_move_54 (by decide) (fun h_5 => ?_) (fun h_5 => ?_)
      · have h_5 := bi_0 h_5
        refine lv_iconst (v := 0) hx hb dX_move_66 (by decide) ?_
        refine W.eq (g2 := F0 m 67 ls [.int (bi false), .int (ri), .ref (q 6)]) rfl ?_
        refine va_zast hx hb hK hP hD hS 6 1 rfl rfl hri dX_move_67 (fun H locs hP hD hS => ?_)
        have hP : va_P D vwCl (xW cI cZ q (upd (upd A ri.toNatClampNeg (A si.toNatClampNeg)) ri.toNatClampNeg ((A si.toNatClampNeg) + (v))) (upd B ri.toNatClampNeg (B si.toNatClampNeg)) (upd T ri.toNatClampNeg (T si.toNatClampNeg)) (upd P ri.toNatClampNeg (P si.toNatClampNeg)) (upd Y ri.toNatClampNeg (Y si.toNatClampNeg)) (ub (ub G ri.toNatClampNeg (G si.toNatClampNeg)) ri.toNatClampNeg (false))) H := by rw [ub_upd] at hP; exact hP
        have hD : va_D A9 (xW cI cZ q (upd (upd A ri.toNatClampNeg (A si.toNatClampNeg)) ri.toNatClampNeg ((A si.toNatClampNeg) + (v))) (upd B ri.toNatClampNeg (B si.toNatClampNeg)) (upd T ri.toNatClampNeg (T si.toNatClampNeg)) (upd P ri.toNatClampNeg (P si.toNatClampNeg)) (upd Y ri.toNatClampNeg (Y si.toNatClampNeg)) (ub (ub G ri.toNatClampNeg (G si.toNatClampNeg)) ri.toNatClampNeg (false))) := by rw [ub_upd] at hD; exact hD
        have e9_0 : (G si.toNatClampNeg && (decide (Y si.toNatClampNeg = 0) || decide (v = 0))) = false := by (try simp only [decide_eq_true_eq, decide_eq_false_iff_not, Decidable.not_not] at h_1); (try simp only [decide_eq_true_eq, decide_eq_false_iff_not, Decidable.not_not] at h_4); (try simp only [decide_eq_true_eq, decide_eq_false_iff_not, Decidable.not_not] at h_5); simp [h_1, h_4, h_5]
        have hP : va_P D vwCl (xW cI cZ q (upd A ri.toNatClampNeg ((A si.toNatClampNeg) + (v))) (upd B ri.toNatClampNeg (B si.toNatClampNeg)) (upd T ri.toNatClampNeg (T si.toNatClampNeg)) (upd P ri.toNatClampNeg (P si.toNatClampNeg)) (upd Y ri.toNatClampNeg (Y si.toNatClampNeg)) (ub G ri.toNatClampNeg ((G si.toNatClampNeg && (decide (Y si.toNatClampNeg = 0) || decide (v = 0)))))) H := by (try rw [e9_0]); first | exact hP | (simp only [uu_upd, uu_ub] at hP ⊢; exact hP)
        have hD : va_D A9 (xW cI cZ q (upd A ri.toNatClampNeg ((A si.toNatClampNeg) + (v))) (upd B ri.toNatClampNeg (B si.toNatClampNeg)) (upd T ri.toNatClampNeg (T si.toNatClampNeg)) (upd P ri.toNatClampNeg (P si.toNatClampNeg)) (upd Y ri.toNatClampNeg (Y si.toNatClampNeg)) (ub G ri.toNatClampNeg ((G si.toNatClampNeg && (decide (Y si.toNatClampNeg = 0) || decide (v = 0)))))) := by (try rw [e9_0]); first | exact hD | (simp only [uu_upd, uu_ub] at hD ⊢; exact hD)
        exact W.vret hx hb hr (fun t9 ht hW => ⟨rfl, by rw [ht]; exact hP, hD, hS.F ht⟩) hS.2.2 dX_move_68
      · have h_5 := bi_n h_5
        refine lv_iload hx hb dX_move_57 (lv_at hl 0 rfl) ?_
        refine lv_if_eq (tgt := 66) hx hb dX_move_59 (by decide) (fun h_6 => ?_) (fun h_6 => absurd (by decide) h_6)
        refine lv_iconst (v := 0) hx hb dX_move_66 (by decide) ?_
        refine W.eq (g2 := F0 m 67 ls [.int (bi false), .int (ri), .ref (q 6)]) rfl ?_
        refine va_zast hx hb hK hP hD hS 6 1 rfl rfl hri dX_move_67 (fun H locs hP hD hS => ?_)
        have hP : va_P D vwCl (xW cI cZ q (upd (upd A ri.toNatClampNeg (A si.toNatClampNeg)) ri.toNatClampNeg ((A si.toNatClampNeg) + (v))) (upd B ri.toNatClampNeg (B si.toNatClampNeg)) (upd T ri.toNatClampNeg (T si.toNatClampNeg)) (upd P ri.toNatClampNeg (P si.toNatClampNeg)) (upd Y ri.toNatClampNeg (Y si.toNatClampNeg)) (ub (ub G ri.toNatClampNeg (G si.toNatClampNeg)) ri.toNatClampNeg (false))) H := by rw [ub_upd] at hP; exact hP
        have hD : va_D A9 (xW cI cZ q (upd (upd A ri.toNatClampNeg (A si.toNatClampNeg)) ri.toNatClampNeg ((A si.toNatClampNeg) + (v))) (upd B ri.toNatClampNeg (B si.toNatClampNeg)) (upd T ri.toNatClampNeg (T si.toNatClampNeg)) (upd P ri.toNatClampNeg (P si.toNatClampNeg)) (upd Y ri.toNatClampNeg (Y si.toNatClampNeg)) (ub (ub G ri.toNatClampNeg (G si.toNatClampNeg)) ri.toNatClampNeg (false))) := by rw [ub_upd] at hD; exact hD
        have e9_0 : (G si.toNatClampNeg && (decide (Y si.toNatClampNeg = 0) || decide (v = 0))) = false := by (try simp only [decide_eq_true_eq, decide_eq_false_iff_not, Decidable.not_not] at h_1); (try simp only [decide_eq_true_eq, decide_eq_false_iff_not, Decidable.not_not] at h_4); (try simp only [decide_eq_true_eq, decide_eq_false_iff_not, Decidable.not_not] at h_5); simp [h_1, h_4, h_5]
        have hP : va_P D vwCl (xW cI cZ q (upd A ri.toNatClampNeg ((A si.toNatClampNeg) + (v))) (upd B ri.toNatClampNeg (B si.toNatClampNeg)) (upd T ri.toNatClampNeg (T si.toNatClampNeg)) (upd P ri.toNatClampNeg (P si.toNatClampNeg)) (upd Y ri.toNatClampNeg (Y si.toNatClampNeg)) (ub G ri.toNatClampNeg ((G si.toNatClampNeg && (decide (Y si.toNatClampNeg = 0) || decide (v = 0)))))) H := by (try rw [e9_0]); first | exact hP | (simp only [uu_upd, uu_ub] at hP ⊢; exact hP)
        have hD : va_D A9 (xW cI cZ q (upd A ri.toNatClampNeg ((A si.toNatClampNeg) + (v))) (upd B ri.toNatClampNeg (B si.toNatClampNeg)) (upd T ri.toNatClampNeg (T si.toNatClampNeg)) (upd P ri.toNatClampNeg (P si.toNatClampNeg)) (upd Y ri.toNatClampNeg (Y si.toNatClampNeg)) (ub G ri.toNatClampNeg ((G si.toNatClampNeg && (decide (Y si.toNatClampNeg = 0) || decide (v = 0)))))) := by (try rw [e9_0]); first | exact hD | (simp only [uu_upd, uu_ub] at hD ⊢; exact hD)
        exact W.vret hx hb hr (fun t9 ht hW => ⟨rfl, by rw [ht]; exact hP, hD, hS.F ht⟩) hS.2.2 dX_move_68
    · 
      refine lv_iconst (v := 1) hx hb dX_move_20 (by decide) ?_
      refine lv_goto (tgt := 25) hx hb dX_move_21 (by decide) ?_
      refine lv_istore hx hb dX_move_25 hl (by decide) rfl (fun ls hl => ?_)
      have hl : lv_has ls 5 [(4, .int (1)), (0, .ref (q 0)), (1, .int (ri)), (2, .int (si)), (3, .int (v))] := hl
      refine lv_aload_n hx hb dX_move_27 rfl (lv_at hl 1 rfl) ?_
      refine lv_iload_n hx hb dX_move_28 rfl (lv_at hl 2 rfl) ?_
      refine lv_iload_n hx hb dX_move_29 rfl (lv_at hl 3 rfl) ?_
      refine kw_V 2 [0, 1, 2, 3, 4, 5, 6] [] (b := q 0) (As := [.int (ri), .int (si)]) (rest := []) (wc := xW cI cZ q A B T P Y G) (wr := []) (w1 := xW cI cZ q (upd A ri.toNatClampNeg (A si.toNatClampNeg)) (upd B ri.toNatClampNeg (B si.toNatClampNeg)) (upd T ri.toNatClampNeg (T si.toNatClampNeg)) (upd P ri.toNatClampNeg (P si.toNatClampNeg)) (upd Y ri.toNatClampNeg (Y si.toNatClampNeg)) (ub G ri.toNatClampNeg (G si.toNatClampNeg))) hx hb hml hown hts hl.1 hP hD hS hA hK (mX_copy l D cI cZ q A B T P Y G _ ri si hri hsi) (gw_V w_184 w_186 w_5 w_14 w_187) (by decide) ⟨rfl, rfl⟩ ⟨Nat.le_of_ble_eq_true rfl, Nat.le_of_ble_eq_true rfl⟩ (va_recv hK hP (ci := 0) rfl (q0 := 0) rfl) rfl rfl (Nat.le_of_ble_eq_true rfl) dX_move_30 ⟨Nat.zero_le _, Nat.zero_le _⟩ rfl rfl ⟨by decide, by decide⟩ (by decide) (fun H locs hP hD hS => ?_)
      have hP : va_P D vwCl (xW cI cZ q (upd A ri.toNatClampNeg (A si.toNatClampNeg)) (upd B ri.toNatClampNeg (B si.toNatClampNeg)) (upd T ri.toNatClampNeg (T si.toNatClampNeg)) (upd P ri.toNatClampNeg (P si.toNatClampNeg)) (upd Y ri.toNatClampNeg (Y si.toNatClampNeg)) (ub G ri.toNatClampNeg (G si.toNatClampNeg))) H := hP
      have hD : va_D A9 (xW cI cZ q (upd A ri.toNatClampNeg (A si.toNatClampNeg)) (upd B ri.toNatClampNeg (B si.toNatClampNeg)) (upd T ri.toNatClampNeg (T si.toNatClampNeg)) (upd P ri.toNatClampNeg (P si.toNatClampNeg)) (upd Y ri.toNatClampNeg (Y si.toNatClampNeg)) (ub G ri.toNatClampNeg (G si.toNatClampNeg))) := hD
      refine W.eq (g2 := F0 m 33 ls []) rfl ?_
      refine lv_aload_n hx hb dX_move_33 rfl (lv_at hl 1 rfl) ?_
      refine va_get (D := D) (ci := 0) (v := .ref (q 1)) (C := RX) (T := TX) (N := 6) hx hb hts inX hown hK hP 0 rfl rfl 0 (by decide) (hts _ w_29) (fun _ h9 => h9) rfl dX_move_34 ?_
      refine lv_iload_n hx hb dX_move_37 rfl (lv_at hl 2 rfl) ?_
      refine lv_dup2_11 hx hb dX_move_38 rfl rfl ?_
      refine va_iald hx hb hK hP 1 0 rfl rfl hri dX_move_39 ?_
      refine W.eq (g2 := F0 m 40 ls [.int (A si.toNatClampNeg), .int (ri), .ref (q 1)]) (by first | rfl | (rw [pk_us] <;> rfl)) ?_
      refine lv_iload_n hx hb dX_move_40 rfl (lv_at hl 4 rfl) ?_
      refine lv_iadd hx hb dX_move_41 ?_
      refine va_iast hx hb hK hP hD hS 1 0 rfl rfl hri dX_move_42 (fun H locs hP hD hS => ?_)
      have hP : va_P D vwCl (xW cI cZ q (upd (upd A ri.toNatClampNeg (A si.toNatClampNeg)) ri.toNatClampNeg ((A si.toNatClampNeg) + (v))) (upd B ri.toNatClampNeg (B si.toNatClampNeg)) (upd T ri.toNatClampNeg (T si.toNatClampNeg)) (upd P ri.toNatClampNeg (P si.toNatClampNeg)) (upd Y ri.toNatClampNeg (Y si.toNatClampNeg)) (ub G ri.toNatClampNeg (G si.toNatClampNeg))) H := hP
      have hD : va_D A9 (xW cI cZ q (upd (upd A ri.toNatClampNeg (A si.toNatClampNeg)) ri.toNatClampNeg ((A si.toNatClampNeg) + (v))) (upd B ri.toNatClampNeg (B si.toNatClampNeg)) (upd T ri.toNatClampNeg (T si.toNatClampNeg)) (upd P ri.toNatClampNeg (P si.toNatClampNeg)) (upd Y ri.toNatClampNeg (Y si.toNatClampNeg)) (ub G ri.toNatClampNeg (G si.toNatClampNeg))) := hD
      refine lv_aload_n hx hb dX_move_43 rfl (lv_at hl 1 rfl) ?_
      refine va_get (D := D) (ci := 0) (v := .ref (q 6)) (C := RX) (T := TX) (N := 6) hx hb hts inX hown hK hP 0 rfl rfl 5 (by decide) (hts _ w_34) (fun _ h9 => h9) rfl dX_move_44 ?_
      refine lv_iload_n hx hb dX_move_47 rfl (lv_at hl 2 rfl) ?_
      refine lv_aload_n hx hb dX_move_48 rfl (lv_at hl 1 rfl) ?_
      refine va_get (D := D) (ci := 0) (v := .ref (q 6)) (C := RX) (T := TX) (N := 6) hx hb hts inX hown hK hP 0 rfl rfl 5 (by decide) (hts _ w_34) (fun _ h9 => h9) rfl dX_move_49 ?_
      refine lv_iload_n hx hb dX_move_52 rfl (lv_at hl 2 rfl) ?_
      refine va_zald hx hb hK hP 6 1 rfl rfl hri dX_move_53 ?_
      refine W.eq (g2 := F0 m 54 ls [.int (bi (G si.toNatClampNeg)), .int (ri), .ref (q 6)]) (by first | rfl | (rw [ub_s] <;> rfl)) ?_
      refine lv_if_eq (tgt := 66) hx hb dX_move_54 (by decide) (fun h_7 => ?_) (fun h_7 => ?_)
      · have h_7 := bi_0 h_7
        refine lv_iconst (v := 0) hx hb dX_move_66 (by decide) ?_
        refine W.eq (g2 := F0 m 67 ls [.int (bi false), .int (ri), .ref (q 6)]) rfl ?_
        refine va_zast hx hb hK hP hD hS 6 1 rfl rfl hri dX_move_67 (fun H locs hP hD hS => ?_)
        have hP : va_P D vwCl (xW cI cZ q (upd (upd A ri.toNatClampNeg (A si.toNatClampNeg)) ri.toNatClampNeg ((A si.toNatClampNeg) + (v))) (upd B ri.toNatClampNeg (B si.toNatClampNeg)) (upd T ri.toNatClampNeg (T si.toNatClampNeg)) (upd P ri.toNatClampNeg (P si.toNatClampNeg)) (upd Y ri.toNatClampNeg (Y si.toNatClampNeg)) (ub (ub G ri.toNatClampNeg (G si.toNatClampNeg)) ri.toNatClampNeg (false))) H := by rw [ub_upd] at hP; exact hP
        have hD : va_D A9 (xW cI cZ q (upd (upd A ri.toNatClampNeg (A si.toNatClampNeg)) ri.toNatClampNeg ((A si.toNatClampNeg) + (v))) (upd B ri.toNatClampNeg (B si.toNatClampNeg)) (upd T ri.toNatClampNeg (T si.toNatClampNeg)) (upd P ri.toNatClampNeg (P si.toNatClampNeg)) (upd Y ri.toNatClampNeg (Y si.toNatClampNeg)) (ub (ub G ri.toNatClampNeg (G si.toNatClampNeg)) ri.toNatClampNeg (false))) := by rw [ub_upd] at hD; exact hD
        have e9_0 : (G si.toNatClampNeg && (decide (Y si.toNatClampNeg = 0) || decide (v = 0))) = false := by (try simp only [decide_eq_true_eq, decide_eq_false_iff_not, Decidable.not_not] at h_1); (try simp only [decide_eq_true_eq, decide_eq_false_iff_not, Decidable.not_not] at h_4); (try simp only [decide_eq_true_eq, decide_eq_false_iff_not, Decidable.not_not] at h_7); simp [h_1, h_4, h_7]
        have hP : va_P D vwCl (xW cI cZ q (upd A ri.toNatClampNeg ((A si.toNatClampNeg) + (v))) (upd B ri.toNatClampNeg (B si.toNatClampNeg)) (upd T ri.toNatClampNeg (T si.toNatClampNeg)) (upd P ri.toNatClampNeg (P si.toNatClampNeg)) (upd Y ri.toNatClampNeg (Y si.toNatClampNeg)) (ub G ri.toNatClampNeg ((G si.toNatClampNeg && (decide (Y si.toNatClampNeg = 0) || decide (v = 0)))))) H := by (try rw [e9_0]); first | exact hP | (simp only [uu_upd, uu_ub] at hP ⊢; exact hP)
        have hD : va_D A9 (xW cI cZ q (upd A ri.toNatClampNeg ((A si.toNatClampNeg) + (v))) (upd B ri.toNatClampNeg (B si.toNatClampNeg)) (upd T ri.toNatClampNeg (T si.toNatClampNeg)) (upd P ri.toNatClampNeg (P si.toNatClampNeg)) (upd Y ri.toNatClampNeg (Y si.toNatClampNeg)) (ub G ri.toNatClampNeg ((G si.toNatClampNeg && (decide (Y si.toNatClampNeg = 0) || decide (v = 0)))))) := by (try rw [e9_0]); first | exact hD | (simp only [uu_upd, uu_ub] at hD ⊢; exact hD)
        exact W.vret hx hb hr (fun t9 ht hW => ⟨rfl, by rw [ht]; exact hP, hD, hS.F ht⟩) hS.2.2 dX_move_68
      · have h_7 := bi_n h_7
        refine lv_iload hx hb dX_move_57 (lv_at hl 0 rfl) ?_
        refine lv_if_eq (tgt := 66) hx hb dX_move_59 (by decide) (fun h_8 => absurd h_8 (by decide)) (fun h_8 => ?_)
        refine lv_iconst (v := 1) hx hb dX_move_62 (by decide) ?_
        refine lv_goto (tgt := 67) hx hb dX_move_63 (by decide) ?_
        refine W.eq (g2 := F0 m 67 ls [.int (bi true), .int (ri), .ref (q 6)]) rfl ?_
        refine va_zast hx hb hK hP hD hS 6 1 rfl rfl hri dX_move_67 (fun H locs hP hD hS => ?_)
        have hP : va_P D vwCl (xW cI cZ q (upd (upd A ri.toNatClampNeg (A si.toNatClampNeg)) ri.toNatClampNeg ((A si.toNatClampNeg) + (v))) (upd B ri.toNatClampNeg (B si.toNatClampNeg)) (upd T ri.toNatClampNeg (T si.toNatClampNeg)) (upd P ri.toNatClampNeg (P si.toNatClampNeg)) (upd Y ri.toNatClampNeg (Y si.toNatClampNeg)) (ub (ub G ri.toNatClampNeg (G si.toNatClampNeg)) ri.toNatClampNeg (true))) H := by rw [ub_upd] at hP; exact hP
        have hD : va_D A9 (xW cI cZ q (upd (upd A ri.toNatClampNeg (A si.toNatClampNeg)) ri.toNatClampNeg ((A si.toNatClampNeg) + (v))) (upd B ri.toNatClampNeg (B si.toNatClampNeg)) (upd T ri.toNatClampNeg (T si.toNatClampNeg)) (upd P ri.toNatClampNeg (P si.toNatClampNeg)) (upd Y ri.toNatClampNeg (Y si.toNatClampNeg)) (ub (ub G ri.toNatClampNeg (G si.toNatClampNeg)) ri.toNatClampNeg (true))) := by rw [ub_upd] at hD; exact hD
        have e9_0 : (G si.toNatClampNeg && (decide (Y si.toNatClampNeg = 0) || decide (v = 0))) = true := by (try simp only [decide_eq_true_eq, decide_eq_false_iff_not, Decidable.not_not] at h_1); (try simp only [decide_eq_true_eq, decide_eq_false_iff_not, Decidable.not_not] at h_4); (try simp only [decide_eq_true_eq, decide_eq_false_iff_not, Decidable.not_not] at h_7); simp [h_1, h_4, h_7]
        have hP : va_P D vwCl (xW cI cZ q (upd A ri.toNatClampNeg ((A si.toNatClampNeg) + (v))) (upd B ri.toNatClampNeg (B si.toNatClampNeg)) (upd T ri.toNatClampNeg (T si.toNatClampNeg)) (upd P ri.toNatClampNeg (P si.toNatClampNeg)) (upd Y ri.toNatClampNeg (Y si.toNatClampNeg)) (ub G ri.toNatClampNeg ((G si.toNatClampNeg && (decide (Y si.toNatClampNeg = 0) || decide (v = 0)))))) H := by (try rw [e9_0]); first | exact hP | (simp only [uu_upd, uu_ub] at hP ⊢; exact hP)
        have hD : va_D A9 (xW cI cZ q (upd A ri.toNatClampNeg ((A si.toNatClampNeg) + (v))) (upd B ri.toNatClampNeg (B si.toNatClampNeg)) (upd T ri.toNatClampNeg (T si.toNatClampNeg)) (upd P ri.toNatClampNeg (P si.toNatClampNeg)) (upd Y ri.toNatClampNeg (Y si.toNatClampNeg)) (ub G ri.toNatClampNeg ((G si.toNatClampNeg && (decide (Y si.toNatClampNeg = 0) || decide (v = 0)))))) := by (try rw [e9_0]); first | exact hD | (simp only [uu_upd, uu_ub] at hD ⊢; exact hD)
        exact W.vret hx hb hr (fun t9 ht hW => ⟨rfl, by rw [ht]; exact hP, hD, hS.F ht⟩) hS.2.2 dX_move_68

set_option maxRecDepth 100000 in
set_option maxHeartbeats 4000000 in
theorem mX_narrow (l : Launch) (D : va_G) (cI cZ : ClassId) (q : Nat → Nat) (A B T P Y : Nat → Int32) (G : Nat → Bool) (sz : Nat) (ri si v : Int32) (hri : vp_in ri 16) (hsi : vp_in si 16) : Met l yX_narrow (Cond.code yX_narrow cX_narrow 5 (some .boolean) :: gw) (rmk 2 0 0) (va_Pc [.ref (q 0), .int (ri), .int (si), .int (v)] (kB D vwCl (xW cI cZ q A B T P Y G) (tsX cI cZ) sz)) (kQ (some (.int (bi (G si.toNatClampNeg && (decide (Y si.toNatClampNeg = 0) && ga_in (B si.toNatClampNeg) (T si.toNatClampNeg) (A si.toNatClampNeg) (un v)))))) D vwCl (xW cI cZ q (upd A ri.toNatClampNeg (A si.toNatClampNeg)) (upd B ri.toNatClampNeg (A si.toNatClampNeg)) (upd T ri.toNatClampNeg ((A si.toNatClampNeg) + (v))) (upd P ri.toNatClampNeg (P si.toNatClampNeg)) (upd Y ri.toNatClampNeg (Y si.toNatClampNeg)) (ub G ri.toNatClampNeg ((G si.toNatClampNeg && (decide (Y si.toNatClampNeg = 0) && ga_in (B si.toNatClampNeg) (T si.toNatClampNeg) (A si.toNatClampNeg) (un v)))))) (va_A (xW cI cZ q A B T P Y G) sz)) 0 0 (va_A (xW cI cZ q A B T P Y G) sz) := by
  refine Met.ofW (cc := cX_narrow) (maxL := 5) (ret := (some .boolean)) (by decide) rfl ?_
  intro p e s m args below meth c s₁ B9 hml hv
  obtain ⟨rfl, hsz, hP, hK, hD0⟩ := hv
  have hx := B9.exec
  have hb := B9.bytes
  have hr := B9.returns
  have hts := fun (w : Cond) (h : w ∈ gw) => atoms_spec (ws := _ :: gw) B9.pre w (List.mem_cons_of_mem _ h)
  have hown : s.vm.findClass RX = some m.cls := findClass_of_methodNamed B9.named
  have hlocks := B9.notSynchronized
  have hl := lv_entry ([.ref (q 0), .int (ri), .int (si), .int (v)]) (n := 5) (Nat.le_of_ble_eq_true rfl)
  rw [lg_entry_eq]
  generalize (lg_sl ([.ref (q 0), .int (ri), .int (si), .int (v)]) ++ List.replicate (5 - (lg_sl ([.ref (q 0), .int (ri), .int (si), .int (v)])).length) Slot.unset).toArray = ls at hl ⊢
  have hl : lv_has ls 5 [(0, .ref (q 0)), (1, .int (ri)), (2, .int (si)), (3, .int (v))] := hl
  subst hsz
  have hD := hD0.self (sz := s.heap.size)
  generalize hAe : va_A (xW cI cZ q A B T P Y G) s.heap.size = A9 at hD ⊢
  have hA : ∀ z : Nat, s.heap.size ≤ z → A9 z := fun z h => by rw [← hAe]; exact Or.inr h
  have hS : va_S A9 s.heap s.heap [] := va_S.rf
  have hP : va_P D vwCl (xW cI cZ q A B T P Y G) s.heap := hP
  refine lv_iload_n hx hb dX_narrow_0 rfl (lv_at hl 1 rfl) ?_
  refine kr_Sv 1 (As := [.int (ri)]) (rest := []) hx hb hml hown hts hl.1 (mX_requireGrant l (ri) hri) tt_stb trivial (gw_S w_151 w_152 w_14 w_153) (by decide) ⟨rfl, rfl⟩ ⟨Nat.le_of_ble_eq_true rfl, Nat.le_of_ble_eq_true rfl⟩ rfl rfl (Nat.le_of_ble_eq_true rfl) dX_narrow_1 ⟨Nat.zero_le _, Nat.zero_le _⟩ ?_
  refine lv_iload_n hx hb dX_narrow_4 rfl (lv_at hl 2 rfl) ?_
  refine kr_Sv 1 (As := [.int (si)]) (rest := []) hx hb hml hown hts hl.1 (mX_requireGrant l (si) hsi) tt_stb trivial (gw_S w_151 w_152 w_14 w_153) (by decide) ⟨rfl, rfl⟩ ⟨Nat.le_of_ble_eq_true rfl, Nat.le_of_ble_eq_true rfl⟩ rfl rfl (Nat.le_of_ble_eq_true rfl) dX_narrow_5 ⟨Nat.zero_le _, Nat.zero_le _⟩ ?_
  refine lv_aload_n hx hb dX_narrow_8 rfl (lv_at hl 0 rfl) ?_
  refine lv_iload_n hx hb dX_narrow_9 rfl (lv_at hl 2 rfl) ?_
  refine kr_V 1 (b := q 0) (As := [.int (si)]) (rest := []) (r := .int (bi (decide (¬ Y si.toNatClampNeg = 0)))) hx hb hml hown hts hl.1 (mX_isSealed l D cI cZ q A B T P Y G (si) hsi) rB_stb ⟨hP, hK⟩ (gw_V w_58 w_60 w_1 w_14 w_61) (by decide) ⟨rfl, rfl⟩ ⟨Nat.le_of_ble_eq_true rfl, Nat.le_of_ble_eq_true rfl⟩ (va_recv hK hP (ci := 0) rfl (q0 := 0) rfl) rfl rfl (Nat.le_of_ble_eq_true rfl) dX_narrow_10 ⟨Nat.zero_le _, Nat.zero_le _⟩ ?_
  refine lv_if_ne (tgt := 38) hx hb dX_narrow_13 (by decide) (fun h_1 => ?_) (fun h_1 => ?_)
  · have h_1 := bi_n h_1
    refine lv_iconst (v := 0) hx hb dX_narrow_38 (by decide) ?_
    refine lv_istore hx hb dX_narrow_39 hl (by decide) rfl (fun ls hl => ?_)
    have hl : lv_has ls 5 [(4, .int (0)), (0, .ref (q 0)), (1, .int (ri)), (2, .int (si)), (3, .int (v))] := hl
    refine lv_aload_n hx hb dX_narrow_41 rfl (lv_at hl 1 rfl) ?_
    refine lv_iload_n hx hb dX_narrow_42 rfl (lv_at hl 2 rfl) ?_
    refine lv_iload_n hx hb dX_narrow_43 rfl (lv_at hl 3 rfl) ?_
    refine kw_V 2 [0, 1, 2, 3, 4, 5, 6] [] (b := q 0) (As := [.int (ri), .int (si)]) (rest := []) (wc := xW cI cZ q A B T P Y G) (wr := []) (w1 := xW cI cZ q (upd A ri.toNatClampNeg (A si.toNatClampNeg)) (upd B ri.toNatClampNeg (B si.toNatClampNeg)) (upd T ri.toNatClampNeg (T si.toNatClampNeg)) (upd P ri.toNatClampNeg (P si.toNatClampNeg)) (upd Y ri.toNatClampNeg (Y si.toNatClampNeg)) (ub G ri.toNatClampNeg (G si.toNatClampNeg))) hx hb hml hown hts hl.1 hP hD hS hA hK (mX_copy l D cI cZ q A B T P Y G _ ri si hri hsi) (gw_V w_184 w_186 w_5 w_14 w_187) (by decide) ⟨rfl, rfl⟩ ⟨Nat.le_of_ble_eq_true rfl, Nat.le_of_ble_eq_true rfl⟩ (va_recv hK hP (ci := 0) rfl (q0 := 0) rfl) rfl rfl (Nat.le_of_ble_eq_true rfl) dX_narrow_44 ⟨Nat.zero_le _, Nat.zero_le _⟩ rfl rfl ⟨by decide, by decide⟩ (by decide) (fun H locs hP hD hS => ?_)
    have hP : va_P D vwCl (xW cI cZ q (upd A ri.toNatClampNeg (A si.toNatClampNeg)) (upd B ri.toNatClampNeg (B si.toNatClampNeg)) (upd T ri.toNatClampNeg (T si.toNatClampNeg)) (upd P ri.toNatClampNeg (P si.toNatClampNeg)) (upd Y ri.toNatClampNeg (Y si.toNatClampNeg)) (ub G ri.toNatClampNeg (G si.toNatClampNeg))) H := hP
    have hD : va_D A9 (xW cI cZ q (upd A ri.toNatClampNeg (A si.toNatClampNeg)) (upd B ri.toNatClampNeg (B si.toNatClampNeg)) (upd T ri.toNatClampNeg (T si.toNatClampNeg)) (upd P ri.toNatClampNeg (P si.toNatClampNeg)) (upd Y ri.toNatClampNeg (Y si.toNatClampNeg)) (ub G ri.toNatClampNeg (G si.toNatClampNeg))) := hD
    refine W.eq (g2 := F0 m 47 ls []) rfl ?_
    refine lv_aload_n hx hb dX_narrow_47 rfl (lv_at hl 1 rfl) ?_
    refine va_get (D := D) (ci := 0) (v := .ref (q 2)) (C := RX) (T := TX) (N := 6) hx hb hts inX hown hK hP 0 rfl rfl 1 (by decide) (hts _ w_30) (fun _ h9 => h9) rfl dX_narrow_48 ?_
    refine lv_iload_n hx hb dX_narrow_51 rfl (lv_at hl 2 rfl) ?_
    refine lv_aload_n hx hb dX_narrow_52 rfl (lv_at hl 1 rfl) ?_
    refine va_get (D := D) (ci := 0) (v := .ref (q 1)) (C := RX) (T := TX) (N := 6) hx hb hts inX hown hK hP 0 rfl rfl 0 (by decide) (hts _ w_29) (fun _ h9 => h9) rfl dX_narrow_53 ?_
    refine lv_iload_n hx hb dX_narrow_56 rfl (lv_at hl 2 rfl) ?_
    refine va_iald hx hb hK hP 1 0 rfl rfl hri dX_narrow_57 ?_
    refine W.eq (g2 := F0 m 58 ls [.int (A si.toNatClampNeg), .int (ri), .ref (q 2)]) (by first | rfl | (rw [pk_us] <;> rfl)) ?_
    refine va_iast hx hb hK hP hD hS 2 0 rfl rfl hri dX_narrow_58 (fun H locs hP hD hS => ?_)
    have hP : va_P D vwCl (xW cI cZ q (upd A ri.toNatClampNeg (A si.toNatClampNeg)) (upd (upd B ri.toNatClampNeg (B si.toNatClampNeg)) ri.toNatClampNeg (A si.toNatClampNeg)) (upd T ri.toNatClampNeg (T si.toNatClampNeg)) (upd P ri.toNatClampNeg (P si.toNatClampNeg)) (upd Y ri.toNatClampNeg (Y si.toNatClampNeg)) (ub G ri.toNatClampNeg (G si.toNatClampNeg))) H := hP
    have hD : va_D A9 (xW cI cZ q (upd A ri.toNatClampNeg (A si.toNatClampNeg)) (upd (upd B ri.toNatClampNeg (B si.toNatClampNeg)) ri.toNatClampNeg (A si.toNatClampNeg)) (upd T ri.toNatClampNeg (T si.toNatClampNeg)) (upd P ri.toNatClampNeg (P si.toNatClampNeg)) (upd Y ri.toNatClampNeg (Y si.toNatClampNeg)) (ub G ri.toNatClampNeg (G si.toNatClampNeg))) := hD
    refine lv_aload_n hx hb dX_narrow_59 rfl (lv_at hl 1 rfl) ?_
    refine va_get (D := D) (ci := 0) (v := .ref (q 3)) (C := RX) (T := TX) (N := 6) hx hb hts inX hown hK hP 0 rfl rfl 2 (by decide) (hts _ w_31) (fun _ h9 => h9) rfl dX_narrow_60 ?_
    refine lv_iload_n hx hb dX_narrow_63 rfl (lv_at hl 2 rfl) ?_
    refine lv_aload_n hx hb dX_narrow_64 rfl (lv_at hl 1 rfl) ?_
    refine va_get (D := D) (ci := 0) (v := .ref (q 1)) (C := RX) (T := TX) (N := 6) hx hb hts inX hown hK hP 0 rfl rfl 0 (by decide) (hts _ w_29) (fun _ h9 => h9) rfl dX_narrow_65 ?_
    refine lv_iload_n hx hb dX_narrow_68 rfl (lv_at hl 2 rfl) ?_
    refine va_iald hx hb hK hP 1 0 rfl rfl hri dX_narrow_69 ?_
    refine W.eq (g2 := F0 m 70 ls [.int (A si.toNatClampNeg), .int (ri), .ref (q 3)]) (by first | rfl | (rw [pk_us] <;> rfl)) ?_
    refine lv_iload_n hx hb dX_narrow_70 rfl (lv_at hl 4 rfl) ?_
    refine lv_iadd hx hb dX_narrow_71 ?_
    refine va_iast hx hb hK hP hD hS 3 0 rfl rfl hri dX_narrow_72 (fun H locs hP hD hS => ?_)
    have hP : va_P D vwCl (xW cI cZ q (upd A ri.toNatClampNeg (A si.toNatClampNeg)) (upd (upd B ri.toNatClampNeg (B si.toNatClampNeg)) ri.toNatClampNeg (A si.toNatClampNeg)) (upd (upd T ri.toNatClampNeg (T si.toNatClampNeg)) ri.toNatClampNeg ((A si.toNatClampNeg) + (v))) (upd P ri.toNatClampNeg (P si.toNatClampNeg)) (upd Y ri.toNatClampNeg (Y si.toNatClampNeg)) (ub G ri.toNatClampNeg (G si.toNatClampNeg))) H := hP
    have hD : va_D A9 (xW cI cZ q (upd A ri.toNatClampNeg (A si.toNatClampNeg)) (upd (upd B ri.toNatClampNeg (B si.toNatClampNeg)) ri.toNatClampNeg (A si.toNatClampNeg)) (upd (upd T ri.toNatClampNeg (T si.toNatClampNeg)) ri.toNatClampNeg ((A si.toNatClampNeg) + (v))) (upd P ri.toNatClampNeg (P si.toNatClampNeg)) (upd Y ri.toNatClampNeg (Y si.toNatClampNeg)) (ub G ri.toNatClampNeg (G si.toNatClampNeg))) := hD
    refine lv_aload_n hx hb dX_narrow_73 rfl (lv_at hl 1 rfl) ?_
    refine va_get (D := D) (ci := 0) (v := .ref (q 6)) (C := RX) (T := TX) (N := 6) hx hb hts inX hown hK hP 0 rfl rfl 5 (by decide) (hts _ w_34) (fun _ h9 => h9) rfl dX_narrow_74 ?_
    refine lv_iload_n hx hb dX_narrow_77 rfl (lv_at hl 2 rfl) ?_
    refine lv_aload_n hx hb dX_narrow_78 rfl (lv_at hl 1 rfl) ?_
    refine va_get (D := D) (ci := 0) (v := .ref (q 6)) (C := RX) (T := TX) (N := 6) hx hb hts inX hown hK hP 0 rfl rfl 5 (by decide) (hts _ w_34) (fun _ h9 => h9) rfl dX_narrow_79 ?_
    refine lv_iload_n hx hb dX_narrow_82 rfl (lv_at hl 2 rfl) ?_
    refine va_zald hx hb hK hP 6 1 rfl rfl hri dX_narrow_83 ?_
    refine W.eq (g2 := F0 m 84 ls [.int (bi (G si.toNatClampNeg)), .int (ri), .ref (q 6)]) (by first | rfl | (rw [ub_s] <;> rfl)) ?_
    refine lv_if_eq (tgt := 96) hx hb dX_narrow_84 (by decide) (fun h_2 => ?_) (fun h_2 => ?_)
    · have h_2 := bi_0 h_2
      refine lv_iconst (v := 0) hx hb dX_narrow_96 (by decide) ?_
      refine W.eq (g2 := F0 m 97 ls [.int (bi false), .int (ri), .ref (q 6)]) rfl ?_
      refine va_zast hx hb hK hP hD hS 6 1 rfl rfl hri dX_narrow_97 (fun H locs hP hD hS => ?_)
      have hP : va_P D vwCl (xW cI cZ q (upd A ri.toNatClampNeg (A si.toNatClampNeg)) (upd (upd B ri.toNatClampNeg (B si.toNatClampNeg)) ri.toNatClampNeg (A si.toNatClampNeg)) (upd (upd T ri.toNatClampNeg (T si.toNatClampNeg)) ri.toNatClampNeg ((A si.toNatClampNeg) + (v))) (upd P ri.toNatClampNeg (P si.toNatClampNeg)) (upd Y ri.toNatClampNeg (Y si.toNatClampNeg)) (ub (ub G ri.toNatClampNeg (G si.toNatClampNeg)) ri.toNatClampNeg (false))) H := by rw [ub_upd] at hP; exact hP
      have hD : va_D A9 (xW cI cZ q (upd A ri.toNatClampNeg (A si.toNatClampNeg)) (upd (upd B ri.toNatClampNeg (B si.toNatClampNeg)) ri.toNatClampNeg (A si.toNatClampNeg)) (upd (upd T ri.toNatClampNeg (T si.toNatClampNeg)) ri.toNatClampNeg ((A si.toNatClampNeg) + (v))) (upd P ri.toNatClampNeg (P si.toNatClampNeg)) (upd Y ri.toNatClampNeg (Y si.toNatClampNeg)) (ub (ub G ri.toNatClampNeg (G si.toNatClampNeg)) ri.toNatClampNeg (false))) := by rw [ub_upd] at hD; exact hD
      refine lv_aload_n hx hb dX_narrow_98 rfl (lv_at hl 1 rfl) ?_
      refine va_get (D := D) (ci := 0) (v := .ref (q 6)) (C := RX) (T := TX) (N := 6) hx hb hts inX hown hK hP 0 rfl rfl 5 (by decide) (hts _ w_34) (fun _ h9 => h9) rfl dX_narrow_99 ?_
      refine lv_iload_n hx hb dX_narrow_102 rfl (lv_at hl 2 rfl) ?_
      refine va_zald hx hb hK hP 6 1 rfl rfl hri dX_narrow_103 ?_
      refine W.eq (g2 := F0 m 104 ls [.int (bi (false))]) (by first | rfl | (rw [ub_s] <;> rfl)) ?_
      have e9_0 : (G si.toNatClampNeg && (decide (Y si.toNatClampNeg = 0) && ga_in (B si.toNatClampNeg) (T si.toNatClampNeg) (A si.toNatClampNeg) (un v))) = false := by (try simp only [decide_eq_true_eq, decide_eq_false_iff_not, Decidable.not_not] at h_1); (try simp only [decide_eq_true_eq, decide_eq_false_iff_not, Decidable.not_not] at h_2); simp [h_1, h_2]
      have hP : va_P D vwCl (xW cI cZ q (upd A ri.toNatClampNeg (A si.toNatClampNeg)) (upd B ri.toNatClampNeg (A si.toNatClampNeg)) (upd T ri.toNatClampNeg ((A si.toNatClampNeg) + (v))) (upd P ri.toNatClampNeg (P si.toNatClampNeg)) (upd Y ri.toNatClampNeg (Y si.toNatClampNeg)) (ub G ri.toNatClampNeg ((G si.toNatClampNeg && (decide (Y si.toNatClampNeg = 0) && ga_in (B si.toNatClampNeg) (T si.toNatClampNeg) (A si.toNatClampNeg) (un v)))))) H := by (try rw [e9_0]); first | exact hP | (simp only [uu_upd, uu_ub] at hP ⊢; exact hP)
      have hD : va_D A9 (xW cI cZ q (upd A ri.toNatClampNeg (A si.toNatClampNeg)) (upd B ri.toNatClampNeg (A si.toNatClampNeg)) (upd T ri.toNatClampNeg ((A si.toNatClampNeg) + (v))) (upd P ri.toNatClampNeg (P si.toNatClampNeg)) (upd Y ri.toNatClampNeg (Y si.toNatClampNeg)) (ub G ri.toNatClampNeg ((G si.toNatClampNeg && (decide (Y si.toNatClampNeg = 0) && ga_in (B si.toNatClampNeg) (T si.toNatClampNeg) (A si.toNatClampNeg) (un v)))))) := by (try rw [e9_0]); first | exact hD | (simp only [uu_upd, uu_ub] at hD ⊢; exact hD)
      refine W.eq (g2 := F0 m 104 ls [.int (bi (G si.toNatClampNeg && (decide (Y si.toNatClampNeg = 0) && ga_in (B si.toNatClampNeg) (T si.toNatClampNeg) (A si.toNatClampNeg) (un v))))]) (by first | rfl | (rw [e9_0] <;> rfl)) ?_
      exact W.zret (v := bi (G si.toNatClampNeg && (decide (Y si.toNatClampNeg = 0) && ga_in (B si.toNatClampNeg) (T si.toNatClampNeg) (A si.toNatClampNeg) (un v)))) hx hb hr (bi_nar _) (fun t9 ht hW => ⟨rfl, by rw [ht]; exact hP, hD, hS.F ht⟩) hS.2.2 dX_narrow_104
    · have h_2 := bi_n h_2
      refine lv_iload hx hb dX_narrow_87 (lv_at hl 0 rfl) ?_
      refine lv_if_eq (tgt := 96) hx hb dX_narrow_89 (by decide) (fun h_3 => ?_) (fun h_3 => absurd (by decide) h_3)
      refine lv_iconst (v := 0) hx hb dX_narrow_96 (by decide) ?_
      refine W.eq (g2 := F0 m 97 ls [.int (bi false), .int (ri), .ref (q 6)]) rfl ?_
      refine va_zast hx hb hK hP hD hS 6 1 rfl rfl hri dX_narrow_97 (fun H locs hP hD hS => ?_)
      have hP : va_P D vwCl (xW cI cZ q (upd A ri.toNatClampNeg (A si.toNatClampNeg)) (upd (upd B ri.toNatClampNeg (B si.toNatClampNeg)) ri.toNatClampNeg (A si.toNatClampNeg)) (upd (upd T ri.toNatClampNeg (T si.toNatClampNeg)) ri.toNatClampNeg ((A si.toNatClampNeg) + (v))) (upd P ri.toNatClampNeg (P si.toNatClampNeg)) (upd Y ri.toNatClampNeg (Y si.toNatClampNeg)) (ub (ub G ri.toNatClampNeg (G si.toNatClampNeg)) ri.toNatClampNeg (false))) H := by rw [ub_upd] at hP; exact hP
      have hD : va_D A9 (xW cI cZ q (upd A ri.toNatClampNeg (A si.toNatClampNeg)) (upd (upd B ri.toNatClampNeg (B si.toNatClampNeg)) ri.toNatClampNeg (A si.toNatClampNeg)) (upd (upd T ri.toNatClampNeg (T si.toNatClampNeg)) ri.toNatClampNeg ((A si.toNatClampNeg) + (v))) (upd P ri.toNatClampNeg (P si.toNatClampNeg)) (upd Y ri.toNatClampNeg (Y si.toNatClampNeg)) (ub (ub G ri.toNatClampNeg (G si.toNatClampNeg)) ri.toNatClampNeg (false))) := by rw [ub_upd] at hD; exact hD
      refine lv_aload_n hx hb dX_narrow_98 rfl (lv_at hl 1 rfl) ?_
      refine va_get (D := D) (ci := 0) (v := .ref (q 6)) (C := RX) (T := TX) (N := 6) hx hb hts inX hown hK hP 0 rfl rfl 5 (by decide) (hts _ w_34) (fun _ h9 => h9) rfl dX_narrow_99 ?_
      refine lv_iload_n hx hb dX_narrow_102 rfl (lv_at hl 2 rfl) ?_
      refine va_zald hx hb hK hP 6 1 rfl rfl hri dX_narrow_103 ?_
      refine W.eq (g2 := F0 m 104 ls [.int (bi (false))]) (by first | rfl | (rw [ub_s] <;> rfl)) ?_
      have e9_0 : (G si.toNatClampNeg && (decide (Y si.toNatClampNeg = 0) && ga_in (B si.toNatClampNeg) (T si.toNatClampNeg) (A si.toNatClampNeg) (un v))) = false := by (try simp only [decide_eq_true_eq, decide_eq_false_iff_not, Decidable.not_not] at h_1); (try simp only [decide_eq_true_eq, decide_eq_false_iff_not, Decidable.not_not] at h_2); simp [h_1, h_2]
      have hP : va_P D vwCl (xW cI cZ q (upd A ri.toNatClampNeg (A si.toNatClampNeg)) (upd B ri.toNatClampNeg (A si.toNatClampNeg)) (upd T ri.toNatClampNeg ((A si.toNatClampNeg) + (v))) (upd P ri.toNatClampNeg (P si.toNatClampNeg)) (upd Y ri.toNatClampNeg (Y si.toNatClampNeg)) (ub G ri.toNatClampNeg ((G si.toNatClampNeg && (decide (Y si.toNatClampNeg = 0) && ga_in (B si.toNatClampNeg) (T si.toNatClampNeg) (A si.toNatClampNeg) (un v)))))) H := by (try rw [e9_0]); first | exact hP | (simp only [uu_upd, uu_ub] at hP ⊢; exact hP)
      have hD : va_D A9 (xW cI cZ q (upd A ri.toNatClampNeg (A si.toNatClampNeg)) (upd B ri.toNatClampNeg (A si.toNatClampNeg)) (upd T ri.toNatClampNeg ((A si.toNatClampNeg) + (v))) (upd P ri.toNatClampNeg (P si.toNatClampNeg)) (upd Y ri.toNatClampNeg (Y si.toNatClampNeg)) (ub G ri.toNatClampNeg ((G si.toNatClampNeg && (decide (Y si.toNatClampNeg = 0) && ga_in (B si.toNatClampNeg) (T si.toNatClampNeg) (A si.toNatClampNeg) (un v)))))) := by (try rw [e9_0]); first | exact hD | (simp only [uu_upd, uu_ub] at hD ⊢; exact hD)
      refine W.eq (g2 := F0 m 104 ls [.int (bi (G si.toNatClampNeg && (decide (Y si.toNatClampNeg = 0) && ga_in (B si.toNatClampNeg) (T si.toNatClampNeg) (A si.toNatClampNeg) (un v))))]) (by first | rfl | (rw [e9_0] <;> rfl)) ?_
      exact W.zret (v := bi (G si.toNatClampNeg && (decide (Y si.toNatClampNeg = 0) && ga_in (B si.toNatClampNeg) (T si.toNatClampNeg) (A si.toNatClampNeg) (un v)))) hx hb hr (bi_nar _) (fun t9 ht hW => ⟨rfl, by rw [ht]; exact hP, hD, hS.F ht⟩) hS.2.2 dX_narrow_104
  · have h_1 := bi_0 h_1
    refine lv_aload_n hx hb dX_narrow_16 rfl (lv_at hl 0 rfl) ?_
    refine lv_iload_n hx hb dX_narrow_17 rfl (lv_at hl 2 rfl) ?_
    refine lv_aload_n hx hb dX_narrow_18 rfl (lv_at hl 0 rfl) ?_
    refine va_get (D := D) (ci := 0) (v := .ref (q 1)) (C := RX) (T := TX) (N := 6) hx hb hts inX hown hK hP 0 rfl rfl 0 (by decide) (hts _ w_29) (fun _ h9 => h9) rfl dX_narrow_19 ?_
    refine lv_iload_n hx hb dX_narrow_22 rfl (lv_at hl 2 rfl) ?_
    refine va_iald hx hb hK hP 1 0 rfl rfl hsi dX_narrow_23 ?_
    refine lv_iload_n hx hb dX_narrow_24 rfl (lv_at hl 3 rfl) ?_
    refine kr_S 1 (As := [.int (v)]) (rest := [.int (A si.toNatClampNeg), .int (si), .ref (q 0)]) (r := .long (uw (v))) hx hb hml hown hts hl.1 (mX_unsigned l (v)) tt_stb trivial (gw_S w_70 w_71 w_14 w_72) (by decide) ⟨rfl, rfl⟩ ⟨Nat.le_of_ble_eq_true rfl, Nat.le_of_ble_eq_true rfl⟩ rfl rfl (Nat.le_of_ble_eq_true rfl) dX_narrow_25 ⟨Nat.zero_le _, Nat.zero_le _⟩ ?_
    refine kr_V 3 (b := q 0) (As := [.int (si), .int (A si.toNatClampNeg), .long (uw (v))]) (rest := []) (r := .int (bi (ga_in (B si.toNatClampNeg) (T si.toNatClampNeg) (A si.toNatClampNeg) (un v)))) hx hb hml hown hts hl.1 (mX_isInBounds l D cI cZ q A B T P Y G (si) (A si.toNatClampNeg) (un v) hsi (Nat.lt_trans (un_lt v) (by decide))) rB_stb ⟨hP, hK⟩ (gw_V w_66 w_68 w_3 w_14 w_69) (by decide) ⟨rfl, rfl⟩ ⟨Nat.le_of_ble_eq_true rfl, Nat.le_of_ble_eq_true rfl⟩ (va_recv hK hP (ci := 0) rfl (q0 := 0) rfl) rfl rfl (Nat.le_of_ble_eq_true rfl) dX_narrow_28 ⟨Nat.zero_le _, Nat.zero_le _⟩ ?_
    refine lv_if_eq (tgt := 38) hx hb dX_narrow_31 (by decide) (fun h_4 => ?_) (fun h_4 => ?_)
    · have h_4 := bi_0 h_4
      refine lv_iconst (v := 0) hx hb dX_narrow_38 (by decide) ?_
      refine lv_istore hx hb dX_narrow_39 hl (by decide) rfl (fun ls hl => ?_)
      have hl : lv_has ls 5 [(4, .int (0)), (0, .ref (q 0)), (1, .int (ri)), (2, .int (si)), (3, .int (v))] := hl
      refine lv_aload_n hx hb dX_narrow_41 rfl (lv_at hl 1 rfl) ?_
      refine lv_iload_n hx hb dX_narrow_42 rfl (lv_at hl 2 rfl) ?_
      refine lv_iload_n hx hb dX_narrow_43 rfl (lv_at hl 3 rfl) ?_
      refine kw_V 2 [0, 1, 2, 3, 4, 5, 6] [] (b := q 0) (As := [.int (ri), .int (si)]) (rest := []) (wc := xW cI cZ q A B T P Y G) (wr := []) (w1 := xW cI cZ q (upd A ri.toNatClampNeg (A si.toNatClampNeg)) (upd B ri.toNatClampNeg (B si.toNatClampNeg)) (upd T ri.toNatClampNeg (T si.toNatClampNeg)) (upd P ri.toNatClampNeg (P si.toNatClampNeg)) (upd Y ri.toNatClampNeg (Y si.toNatClampNeg)) (ub G ri.toNatClampNeg (G si.toNatClampNeg))) hx hb hml hown hts hl.1 hP hD hS hA hK (mX_copy l D cI cZ q A B T P Y G _ ri si hri hsi) (gw_V w_184 w_186 w_5 w_14 w_187) (by decide) ⟨rfl, rfl⟩ ⟨Nat.le_of_ble_eq_true rfl, Nat.le_of_ble_eq_true rfl⟩ (va_recv hK hP (ci := 0) rfl (q0 := 0) rfl) rfl rfl (Nat.le_of_ble_eq_true rfl) dX_narrow_44 ⟨Nat.zero_le _, Nat.zero_le _⟩ rfl rfl ⟨by decide, by decide⟩ (by decide) (fun H locs hP hD hS => ?_)
      have hP : va_P D vwCl (xW cI cZ q (upd A ri.toNatClampNeg (A si.toNatClampNeg)) (upd B ri.toNatClampNeg (B si.toNatClampNeg)) (upd T ri.toNatClampNeg (T si.toNatClampNeg)) (upd P ri.toNatClampNeg (P si.toNatClampNeg)) (upd Y ri.toNatClampNeg (Y si.toNatClampNeg)) (ub G ri.toNatClampNeg (G si.toNatClampNeg))) H := hP
      have hD : va_D A9 (xW cI cZ q (upd A ri.toNatClampNeg (A si.toNatClampNeg)) (upd B ri.toNatClampNeg (B si.toNatClampNeg)) (upd T ri.toNatClampNeg (T si.toNatClampNeg)) (upd P ri.toNatClampNeg (P si.toNatClampNeg)) (upd Y ri.toNatClampNeg (Y si.toNatClampNeg)) (ub G ri.toNatClampNeg (G si.toNatClampNeg))) := hD
      refine W.eq (g2 := F0 m 47 ls []) rfl ?_
      refine lv_aload_n hx hb dX_narrow_47 rfl (lv_at hl 1 rfl) ?_
      refine va_get (D := D) (ci := 0) (v := .ref (q 2)) (C := RX) (T := TX) (N := 6) hx hb hts inX hown hK hP 0 rfl rfl 1 (by decide) (hts _ w_30) (fun _ h9 => h9) rfl dX_narrow_48 ?_
      refine lv_iload_n hx hb dX_narrow_51 rfl (lv_at hl 2 rfl) ?_
      refine lv_aload_n hx hb dX_narrow_52 rfl (lv_at hl 1 rfl) ?_
      refine va_get (D := D) (ci := 0) (v := .ref (q 1)) (C := RX) (T := TX) (N := 6) hx hb hts inX hown hK hP 0 rfl rfl 0 (by decide) (hts _ w_29) (fun _ h9 => h9) rfl dX_narrow_53 ?_
      refine lv_iload_n hx hb dX_narrow_56 rfl (lv_at hl 2 rfl) ?_
      refine va_iald hx hb hK hP 1 0 rfl rfl hri dX_narrow_57 ?_
      refine W.eq (g2 := F0 m 58 ls [.int (A si.toNatClampNeg), .int (ri), .ref (q 2)]) (by first | rfl | (rw [pk_us] <;> rfl)) ?_
      refine va_iast hx hb hK hP hD hS 2 0 rfl rfl hri dX_narrow_58 (fun H locs hP hD hS => ?_)
      have hP : va_P D vwCl (xW cI cZ q (upd A ri.toNatClampNeg (A si.toNatClampNeg)) (upd (upd B ri.toNatClampNeg (B si.toNatClampNeg)) ri.toNatClampNeg (A si.toNatClampNeg)) (upd T ri.toNatClampNeg (T si.toNatClampNeg)) (upd P ri.toNatClampNeg (P si.toNatClampNeg)) (upd Y ri.toNatClampNeg (Y si.toNatClampNeg)) (ub G ri.toNatClampNeg (G si.toNatClampNeg))) H := hP
      have hD : va_D A9 (xW cI cZ q (upd A ri.toNatClampNeg (A si.toNatClampNeg)) (upd (upd B ri.toNatClampNeg (B si.toNatClampNeg)) ri.toNatClampNeg (A si.toNatClampNeg)) (upd T ri.toNatClampNeg (T si.toNatClampNeg)) (upd P ri.toNatClampNeg (P si.toNatClampNeg)) (upd Y ri.toNatClampNeg (Y si.toNatClampNeg)) (ub G ri.toNatClampNeg (G si.toNatClampNeg))) := hD
      refine lv_aload_n hx hb dX_narrow_59 rfl (lv_at hl 1 rfl) ?_
      refine va_get (D := D) (ci := 0) (v := .ref (q 3)) (C := RX) (T := TX) (N := 6) hx hb hts inX hown hK hP 0 rfl rfl 2 (by decide) (hts _ w_31) (fun _ h9 => h9) rfl dX_narrow_60 ?_
      refine lv_iload_n hx hb dX_narrow_63 rfl (lv_at hl 2 rfl) ?_
      refine lv_aload_n hx hb dX_narrow_64 rfl (lv_at hl 1 rfl) ?_
      refine va_get (D := D) (ci := 0) (v := .ref (q 1)) (C := RX) (T := TX) (N := 6) hx hb hts inX hown hK hP 0 rfl rfl 0 (by decide) (hts _ w_29) (fun _ h9 => h9) rfl dX_narrow_65 ?_
      refine lv_iload_n hx hb dX_narrow_68 rfl (lv_at hl 2 rfl) ?_
      refine va_iald hx hb hK hP 1 0 rfl rfl hri dX_narrow_69 ?_
      refine W.eq (g2 := F0 m 70 ls [.int (A si.toNatClampNeg), .int (ri), .ref (q 3)]) (by first | rfl | (rw [pk_us] <;> rfl)) ?_
      refine lv_iload_n hx hb dX_narrow_70 rfl (lv_at hl 4 rfl) ?_
      refine lv_iadd hx hb dX_narrow_71 ?_
      refine va_iast hx hb hK hP hD hS 3 0 rfl rfl hri dX_narrow_72 (fun H locs hP hD hS => ?_)
      have hP : va_P D vwCl (xW cI cZ q (upd A ri.toNatClampNeg (A si.toNatClampNeg)) (upd (upd B ri.toNatClampNeg (B si.toNatClampNeg)) ri.toNatClampNeg (A si.toNatClampNeg)) (upd (upd T ri.toNatClampNeg (T si.toNatClampNeg)) ri.toNatClampNeg ((A si.toNatClampNeg) + (v))) (upd P ri.toNatClampNeg (P si.toNatClampNeg)) (upd Y ri.toNatClampNeg (Y si.toNatClampNeg)) (ub G ri.toNatClampNeg (G si.toNatClampNeg))) H := hP
      have hD : va_D A9 (xW cI cZ q (upd A ri.toNatClampNeg (A si.toNatClampNeg)) (upd (upd B ri.toNatClampNeg (B si.toNatClampNeg)) ri.toNatClampNeg (A si.toNatClampNeg)) (upd (upd T ri.toNatClampNeg (T si.toNatClampNeg)) ri.toNatClampNeg ((A si.toNatClampNeg) + (v))) (upd P ri.toNatClampNeg (P si.toNatClampNeg)) (upd Y ri.toNatClampNeg (Y si.toNatClampNeg)) (ub G ri.toNatClampNeg (G si.toNatClampNeg))) := hD
      refine lv_aload_n hx hb dX_narrow_73 rfl (lv_at hl 1 rfl) ?_
      refine va_get (D := D) (ci := 0) (v := .ref (q 6)) (C := RX) (T := TX) (N := 6) hx hb hts inX hown hK hP 0 rfl rfl 5 (by decide) (hts _ w_34) (fun _ h9 => h9) rfl dX_narrow_74 ?_
      refine lv_iload_n hx hb dX_narrow_77 rfl (lv_at hl 2 rfl) ?_
      refine lv_aload_n hx hb dX_narrow_78 rfl (lv_at hl 1 rfl) ?_
      refine va_get (D := D) (ci := 0) (v := .ref (q 6)) (C := RX) (T := TX) (N := 6) hx hb hts inX hown hK hP 0 rfl rfl 5 (by decide) (hts _ w_34) (fun _ h9 => h9) rfl dX_narrow_79 ?_
      refine lv_iload_n hx hb dX_narrow_82 rfl (lv_at hl 2 rfl) ?_
      refine va_zald hx hb hK hP 6 1 rfl rfl hri dX_narrow_83 ?_
      refine W.eq (g2 := F0 m 84 ls [.int (bi (G si.toNatClampNeg)), .int (ri), .ref (q 6)]) (by first | rfl | (rw [ub_s] <;> rfl)) ?_
      refine lv_if_eq (tgt := 96) hx hb dX_narrow_84 (by decide) (fun h_5 => ?_) (fun h_5 => ?_)
      · have h_5 := bi_0 h_5
        refine lv_iconst (v := 0) hx hb dX_narrow_96 (by decide) ?_
        refine W.eq (g2 := F0 m 97 ls [.int (bi false), .int (ri), .ref (q 6)]) rfl ?_
        refine va_zast hx hb hK hP hD hS 6 1 rfl rfl hri dX_narrow_97 (fun H locs hP hD hS => ?_)
        have hP : va_P D vwCl (xW cI cZ q (upd A ri.toNatClampNeg (A si.toNatClampNeg)) (upd (upd B ri.toNatClampNeg (B si.toNatClampNeg)) ri.toNatClampNeg (A si.toNatClampNeg)) (upd (upd T ri.toNatClampNeg (T si.toNatClampNeg)) ri.toNatClampNeg ((A si.toNatClampNeg) + (v))) (upd P ri.toNatClampNeg (P si.toNatClampNeg)) (upd Y ri.toNatClampNeg (Y si.toNatClampNeg)) (ub (ub G ri.toNatClampNeg (G si.toNatClampNeg)) ri.toNatClampNeg (false))) H := by rw [ub_upd] at hP; exact hP
        have hD : va_D A9 (xW cI cZ q (upd A ri.toNatClampNeg (A si.toNatClampNeg)) (upd (upd B ri.toNatClampNeg (B si.toNatClampNeg)) ri.toNatClampNeg (A si.toNatClampNeg)) (upd (upd T ri.toNatClampNeg (T si.toNatClampNeg)) ri.toNatClampNeg ((A si.toNatClampNeg) + (v))) (upd P ri.toNatClampNeg (P si.toNatClampNeg)) (upd Y ri.toNatClampNeg (Y si.toNatClampNeg)) (ub (ub G ri.toNatClampNeg (G si.toNatClampNeg)) ri.toNatClampNeg (false))) := by rw [ub_upd] at hD; exact hD
        refine lv_aload_n hx hb dX_narrow_98 rfl (lv_at hl 1 rfl) ?_
        refine va_get (D := D) (ci := 0) (v := .ref (q 6)) (C := RX) (T := TX) (N := 6) hx hb hts inX hown hK hP 0 rfl rfl 5 (by decide) (hts _ w_34) (fun _ h9 => h9) rfl dX_narrow_99 ?_
        refine lv_iload_n hx hb dX_narrow_102 rfl (lv_at hl 2 rfl) ?_
        refine va_zald hx hb hK hP 6 1 rfl rfl hri dX_narrow_103 ?_
        refine W.eq (g2 := F0 m 104 ls [.int (bi (false))]) (by first | rfl | (rw [ub_s] <;> rfl)) ?_
        have e9_0 : (G si.toNatClampNeg && (decide (Y si.toNatClampNeg = 0) && ga_in (B si.toNatClampNeg) (T si.toNatClampNeg) (A si.toNatClampNeg) (un v))) = false := by (try simp only [decide_eq_true_eq, decide_eq_false_iff_not, Decidable.not_not] at h_1); (try simp only [decide_eq_true_eq, decide_eq_false_iff_not, Decidable.not_not] at h_4); (try simp only [decide_eq_true_eq, decide_eq_false_iff_not, Decidable.not_not] at h_5); simp [h_1, h_4, h_5]
        have hP : va_P D vwCl (xW cI cZ q (upd A ri.toNatClampNeg (A si.toNatClampNeg)) (upd B ri.toNatClampNeg (A si.toNatClampNeg)) (upd T ri.toNatClampNeg ((A si.toNatClampNeg) + (v))) (upd P ri.toNatClampNeg (P si.toNatClampNeg)) (upd Y ri.toNatClampNeg (Y si.toNatClampNeg)) (ub G ri.toNatClampNeg ((G si.toNatClampNeg && (decide (Y si.toNatClampNeg = 0) && ga_in (B si.toNatClampNeg) (T si.toNatClampNeg) (A si.toNatClampNeg) (un v)))))) H := by (try rw [e9_0]); first | exact hP | (simp only [uu_upd, uu_ub] at hP ⊢; exact hP)
        have hD : va_D A9 (xW cI cZ q (upd A ri.toNatClampNeg (A si.toNatClampNeg)) (upd B ri.toNatClampNeg (A si.toNatClampNeg)) (upd T ri.toNatClampNeg ((A si.toNatClampNeg) + (v))) (upd P ri.toNatClampNeg (P si.toNatClampNeg)) (upd Y ri.toNatClampNeg (Y si.toNatClampNeg)) (ub G ri.toNatClampNeg ((G si.toNatClampNeg && (decide (Y si.toNatClampNeg = 0) && ga_in (B si.toNatClampNeg) (T si.toNatClampNeg) (A si.toNatClampNeg) (un v)))))) := by (try rw [e9_0]); first | exact hD | (simp only [uu_upd, uu_ub] at hD ⊢; exact hD)
        refine W.eq (g2 := F0 m 104 ls [.int (bi (G si.toNatClampNeg && (decide (Y si.toNatClampNeg = 0) && ga_in (B si.toNatClampNeg) (T si.toNatClampNeg) (A si.toNatClampNeg) (un v))))]) (by first | rfl | (rw [e9_0] <;> rfl)) ?_
        exact W.zret (v := bi (G si.toNatClampNeg && (decide (Y si.toNatClampNeg = 0) && ga_in (B si.toNatClampNeg) (T si.toNatClampNeg) (A si.toNatClampNeg) (un v)))) hx hb hr (bi_nar _) (fun t9 ht hW => ⟨rfl, by rw [ht]; exact hP, hD, hS.F ht⟩) hS.2.2 dX_narrow_104
      · have h_5 := bi_n h_5
        refine lv_iload hx hb dX_narrow_87 (lv_at hl 0 rfl) ?_
        refine lv_if_eq (tgt := 96) hx hb dX_narrow_89 (by decide) (fun h_6 => ?_) (fun h_6 => absurd (by decide) h_6)
        refine lv_iconst (v := 0) hx hb dX_narrow_96 (by decide) ?_
        refine W.eq (g2 := F0 m 97 ls [.int (bi false), .int (ri), .ref (q 6)]) rfl ?_
        refine va_zast hx hb hK hP hD hS 6 1 rfl rfl hri dX_narrow_97 (fun H locs hP hD hS => ?_)
        have hP : va_P D vwCl (xW cI cZ q (upd A ri.toNatClampNeg (A si.toNatClampNeg)) (upd (upd B ri.toNatClampNeg (B si.toNatClampNeg)) ri.toNatClampNeg (A si.toNatClampNeg)) (upd (upd T ri.toNatClampNeg (T si.toNatClampNeg)) ri.toNatClampNeg ((A si.toNatClampNeg) + (v))) (upd P ri.toNatClampNeg (P si.toNatClampNeg)) (upd Y ri.toNatClampNeg (Y si.toNatClampNeg)) (ub (ub G ri.toNatClampNeg (G si.toNatClampNeg)) ri.toNatClampNeg (false))) H := by rw [ub_upd] at hP; exact hP
        have hD : va_D A9 (xW cI cZ q (upd A ri.toNatClampNeg (A si.toNatClampNeg)) (upd (upd B ri.toNatClampNeg (B si.toNatClampNeg)) ri.toNatClampNeg (A si.toNatClampNeg)) (upd (upd T ri.toNatClampNeg (T si.toNatClampNeg)) ri.toNatClampNeg ((A si.toNatClampNeg) + (v))) (upd P ri.toNatClampNeg (P si.toNatClampNeg)) (upd Y ri.toNatClampNeg (Y si.toNatClampNeg)) (ub (ub G ri.toNatClampNeg (G si.toNatClampNeg)) ri.toNatClampNeg (false))) := by rw [ub_upd] at hD; exact hD
        refine lv_aload_n hx hb dX_narrow_98 rfl (lv_at hl 1 rfl) ?_
        refine va_get (D := D) (ci := 0) (v := .ref (q 6)) (C := RX) (T := TX) (N := 6) hx hb hts inX hown hK hP 0 rfl rfl 5 (by decide) (hts _ w_34) (fun _ h9 => h9) rfl dX_narrow_99 ?_
        refine lv_iload_n hx hb dX_narrow_102 rfl (lv_at hl 2 rfl) ?_
        refine va_zald hx hb hK hP 6 1 rfl rfl hri dX_narrow_103 ?_
        refine W.eq (g2 := F0 m 104 ls [.int (bi (false))]) (by first | rfl | (rw [ub_s] <;> rfl)) ?_
        have e9_0 : (G si.toNatClampNeg && (decide (Y si.toNatClampNeg = 0) && ga_in (B si.toNatClampNeg) (T si.toNatClampNeg) (A si.toNatClampNeg) (un v))) = false := by (try simp only [decide_eq_true_eq, decide_eq_false_iff_not, Decidable.not_not] at h_1); (try simp only [decide_eq_true_eq, decide_eq_false_iff_not, Decidable.not_not] at h_4); (try simp only [decide_eq_true_eq, decide_eq_false_iff_not, Decidable.not_not] at h_5); simp [h_1, h_4, h_5]
        have hP : va_P D vwCl (xW cI cZ q (upd A ri.toNatClampNeg (A si.toNatClampNeg)) (upd B ri.toNatClampNeg (A si.toNatClampNeg)) (upd T ri.toNatClampNeg ((A si.toNatClampNeg) + (v))) (upd P ri.toNatClampNeg (P si.toNatClampNeg)) (upd Y ri.toNatClampNeg (Y si.toNatClampNeg)) (ub G ri.toNatClampNeg ((G si.toNatClampNeg && (decide (Y si.toNatClampNeg = 0) && ga_in (B si.toNatClampNeg) (T si.toNatClampNeg) (A si.toNatClampNeg) (un v)))))) H := by (try rw [e9_0]); first | exact hP | (simp only [uu_upd, uu_ub] at hP ⊢; exact hP)
        have hD : va_D A9 (xW cI cZ q (upd A ri.toNatClampNeg (A si.toNatClampNeg)) (upd B ri.toNatClampNeg (A si.toNatClampNeg)) (upd T ri.toNatClampNeg ((A si.toNatClampNeg) + (v))) (upd P ri.toNatClampNeg (P si.toNatClampNeg)) (upd Y ri.toNatClampNeg (Y si.toNatClampNeg)) (ub G ri.toNatClampNeg ((G si.toNatClampNeg && (decide (Y si.toNatClampNeg = 0) && ga_in (B si.toNatClampNeg) (T si.toNatClampNeg) (A si.toNatClampNeg) (un v)))))) := by (try rw [e9_0]); first | exact hD | (simp only [uu_upd, uu_ub] at hD ⊢; exact hD)
        refine W.eq (g2 := F0 m 104 ls [.int (bi (G si.toNatClampNeg && (decide (Y si.toNatClampNeg = 0) && ga_in (B si.toNatClampNeg) (T si.toNatClampNeg) (A si.toNatClampNeg) (un v))))]) (by first | rfl | (rw [e9_0] <;> rfl)) ?_
        exact W.zret (v := bi (G si.toNatClampNeg && (decide (Y si.toNatClampNeg = 0) && ga_in (B si.toNatClampNeg) (T si.toNatClampNeg) (A si.toNatClampNeg) (un v)))) hx hb hr (bi_nar _) (fun t9 ht hW => ⟨rfl, by rw [ht]; exact hP, hD, hS.F ht⟩) hS.2.2 dX_narrow_104
    · have h_4 := bi_n h_4
      refine lv_iconst (v := 1) hx hb dX_narrow_34 (by decide) ?_
      refine lv_goto (tgt := 39) hx hb dX_narrow_35 (by decide) ?_
      refine lv_istore hx hb dX_narrow_39 hl (by decide) rfl (fun ls hl => ?_)
      have hl : lv_has ls 5 [(4, .int (1)), (0, .ref (q 0)), (1, .int (ri)), (2, .int (si)), (3, .int (v))] := hl
      refine lv_aload_n hx hb dX_narrow_41 rfl (lv_at hl 1 rfl) ?_
      refine lv_iload_n hx hb dX_narrow_42 rfl (lv_at hl 2 rfl) ?_
      refine lv_iload_n hx hb dX_narrow_43 rfl (lv_at hl 3 rfl) ?_
      refine kw_V 2 [0, 1, 2, 3, 4, 5, 6] [] (b := q 0) (As := [.int (ri), .int (si)]) (rest := []) (wc := xW cI cZ q A B T P Y G) (wr := []) (w1 := xW cI cZ q (upd A ri.toNatClampNeg (A si.toNatClampNeg)) (upd B ri.toNatClampNeg (B si.toNatClampNeg)) (upd T ri.toNatClampNeg (T si.toNatClampNeg)) (upd P ri.toNatClampNeg (P si.toNatClampNeg)) (upd Y ri.toNatClampNeg (Y si.toNatClampNeg)) (ub G ri.toNatClampNeg (G si.toNatClampNeg))) hx hb hml hown hts hl.1 hP hD hS hA hK (mX_copy l D cI cZ q A B T P Y G _ ri si hri hsi) (gw_V w_184 w_186 w_5 w_14 w_187) (by decide) ⟨rfl, rfl⟩ ⟨Nat.le_of_ble_eq_true rfl, Nat.le_of_ble_eq_true rfl⟩ (va_recv hK hP (ci := 0) rfl (q0 := 0) rfl) rfl rfl (Nat.le_of_ble_eq_true rfl) dX_narrow_44 ⟨Nat.zero_le _, Nat.zero_le _⟩ rfl rfl ⟨by decide, by decide⟩ (by decide) (fun H locs hP hD hS => ?_)
      have hP : va_P D vwCl (xW cI cZ q (upd A ri.toNatClampNeg (A si.toNatClampNeg)) (upd B ri.toNatClampNeg (B si.toNatClampNeg)) (upd T ri.toNatClampNeg (T si.toNatClampNeg)) (upd P ri.toNatClampNeg (P si.toNatClampNeg)) (upd Y ri.toNatClampNeg (Y si.toNatClampNeg)) (ub G ri.toNatClampNeg (G si.toNatClampNeg))) H := hP
      have hD : va_D A9 (xW cI cZ q (upd A ri.toNatClampNeg (A si.toNatClampNeg)) (upd B ri.toNatClampNeg (B si.toNatClampNeg)) (upd T ri.toNatClampNeg (T si.toNatClampNeg)) (upd P ri.toNatClampNeg (P si.toNatClampNeg)) (upd Y ri.toNatClampNeg (Y si.toNatClampNeg)) (ub G ri.toNatClampNeg (G si.toNatClampNeg))) := hD
      refine W.eq (g2 := F0 m 47 ls []) rfl ?_
      refine lv_aload_n hx hb dX_narrow_47 rfl (lv_at hl 1 rfl) ?_
      refine va_get (D := D) (ci := 0) (v := .ref (q 2)) (C := RX) (T := TX) (N := 6) hx hb hts inX hown hK hP 0 rfl rfl 1 (by decide) (hts _ w_30) (fun _ h9 => h9) rfl dX_narrow_48 ?_
      refine lv_iload_n hx hb dX_narrow_51 rfl (lv_at hl 2 rfl) ?_
      refine lv_aload_n hx hb dX_narrow_52 rfl (lv_at hl 1 rfl) ?_
      refine va_get (D := D) (ci := 0) (v := .ref (q 1)) (C := RX) (T := TX) (N := 6) hx hb hts inX hown hK hP 0 rfl rfl 0 (by decide) (hts _ w_29) (fun _ h9 => h9) rfl dX_narrow_53 ?_
      refine lv_iload_n hx hb dX_narrow_56 rfl (lv_at hl 2 rfl) ?_
      refine va_iald hx hb hK hP 1 0 rfl rfl hri dX_narrow_57 ?_
      refine W.eq (g2 := F0 m 58 ls [.int (A si.toNatClampNeg), .int (ri), .ref (q 2)]) (by first | rfl | (rw [pk_us] <;> rfl)) ?_
      refine va_iast hx hb hK hP hD hS 2 0 rfl rfl hri dX_narrow_58 (fun H locs hP hD hS => ?_)
      have hP : va_P D vwCl (xW cI cZ q (upd A ri.toNatClampNeg (A si.toNatClampNeg)) (upd (upd B ri.toNatClampNeg (B si.toNatClampNeg)) ri.toNatClampNeg (A si.toNatClampNeg)) (upd T ri.toNatClampNeg (T si.toNatClampNeg)) (upd P ri.toNatClampNeg (P si.toNatClampNeg)) (upd Y ri.toNatClampNeg (Y si.toNatClampNeg)) (ub G ri.toNatClampNeg (G si.toNatClampNeg))) H := hP
      have hD : va_D A9 (xW cI cZ q (upd A ri.toNatClampNeg (A si.toNatClampNeg)) (upd (upd B ri.toNatClampNeg (B si.toNatClampNeg)) ri.toNatClampNeg (A si.toNatClampNeg)) (upd T ri.toNatClampNeg (T si.toNatClampNeg)) (upd P ri.toNatClampNeg (P si.toNatClampNeg)) (upd Y ri.toNatClampNeg (Y si.toNatClampNeg)) (ub G ri.toNatClampNeg (G si.toNatClampNeg))) := hD
      refine lv_aload_n hx hb dX_narrow_59 rfl (lv_at hl 1 rfl) ?_
      refine va_get (D := D) (ci := 0) (v := .ref (q 3)) (C := RX) (T := TX) (N := 6) hx hb hts inX hown hK hP 0 rfl rfl 2 (by decide) (hts _ w_31) (fun _ h9 => h9) rfl dX_narrow_60 ?_
      refine lv_iload_n hx hb dX_narrow_63 rfl (lv_at hl 2 rfl) ?_
      refine lv_aload_n hx hb dX_narrow_64 rfl (lv_at hl 1 rfl) ?_
      refine va_get (D := D) (ci := 0) (v := .ref (q 1)) (C := RX) (T := TX) (N := 6) hx hb hts inX hown hK hP 0 rfl rfl 0 (by decide) (hts _ w_29) (fun _ h9 => h9) rfl dX_narrow_65 ?_
      refine lv_iload_n hx hb dX_narrow_68 rfl (lv_at hl 2 rfl) ?_
      refine va_iald hx hb hK hP 1 0 rfl rfl hri dX_narrow_69 ?_
      refine W.eq (g2 := F0 m 70 ls [.int (A si.toNatClampNeg), .int (ri), .ref (q 3)]) (by first | rfl | (rw [pk_us] <;> rfl)) ?_
      refine lv_iload_n hx hb dX_narrow_70 rfl (lv_at hl 4 rfl) ?_
      refine lv_iadd hx hb dX_narrow_71 ?_
      refine va_iast hx hb hK hP hD hS 3 0 rfl rfl hri dX_narrow_72 (fun H locs hP hD hS => ?_)
      have hP : va_P D vwCl (xW cI cZ q (upd A ri.toNatClampNeg (A si.toNatClampNeg)) (upd (upd B ri.toNatClampNeg (B si.toNatClampNeg)) ri.toNatClampNeg (A si.toNatClampNeg)) (upd (upd T ri.toNatClampNeg (T si.toNatClampNeg)) ri.toNatClampNeg ((A si.toNatClampNeg) + (v))) (upd P ri.toNatClampNeg (P si.toNatClampNeg)) (upd Y ri.toNatClampNeg (Y si.toNatClampNeg)) (ub G ri.toNatClampNeg (G si.toNatClampNeg))) H := hP
      have hD : va_D A9 (xW cI cZ q (upd A ri.toNatClampNeg (A si.toNatClampNeg)) (upd (upd B ri.toNatClampNeg (B si.toNatClampNeg)) ri.toNatClampNeg (A si.toNatClampNeg)) (upd (upd T ri.toNatClampNeg (T si.toNatClampNeg)) ri.toNatClampNeg ((A si.toNatClampNeg) + (v))) (upd P ri.toNatClampNeg (P si.toNatClampNeg)) (upd Y ri.toNatClampNeg (Y si.toNatClampNeg)) (ub G ri.toNatClampNeg (G si.toNatClampNeg))) := hD
      refine lv_aload_n hx hb dX_narrow_73 rfl (lv_at hl 1 rfl) ?_
      refine va_get (D := D) (ci := 0) (v := .ref (q 6)) (C := RX) (T := TX) (N := 6) hx hb hts inX hown hK hP 0 rfl rfl 5 (by decide) (hts _ w_34) (fun _ h9 => h9) rfl dX_narrow_74 ?_
      refine lv_iload_n hx hb dX_narrow_77 rfl (lv_at hl 2 rfl) ?_
      refine lv_aload_n hx hb dX_narrow_78 rfl (lv_at hl 1 rfl) ?_
      refine va_get (D := D) (ci := 0) (v := .ref (q 6)) (C := RX) (T := TX) (N := 6) hx hb hts inX hown hK hP 0 rfl rfl 5 (by decide) (hts _ w_34) (fun _ h9 => h9) rfl dX_narrow_79 ?_
      refine lv_iload_n hx hb dX_narrow_82 rfl (lv_at hl 2 rfl) ?_
      refine va_zald hx hb hK hP 6 1 rfl rfl hri dX_narrow_83 ?_
      refine W.eq (g2 := F0 m 84 ls [.int (bi (G si.toNatClampNeg)), .int (ri), .ref (q 6)]) (by first | rfl | (rw [ub_s] <;> rfl)) ?_
      refine lv_if_eq (tgt := 96) hx hb dX_narrow_84 (by decide) (fun h_7 => ?_) (fun h_7 => ?_)
      · have h_7 := bi_0 h_7
        refine lv_iconst (v := 0) hx hb dX_narrow_96 (by decide) ?_
        refine W.eq (g2 := F0 m 97 ls [.int (bi false), .int (ri), .ref (q 6)]) rfl ?_
        refine va_zast hx hb hK hP hD hS 6 1 rfl rfl hri dX_narrow_97 (fun H locs hP hD hS => ?_)
        have hP : va_P D vwCl (xW cI cZ q (upd A ri.toNatClampNeg (A si.toNatClampNeg)) (upd (upd B ri.toNatClampNeg (B si.toNatClampNeg)) ri.toNatClampNeg (A si.toNatClampNeg)) (upd (upd T ri.toNatClampNeg (T si.toNatClampNeg)) ri.toNatClampNeg ((A si.toNatClampNeg) + (v))) (upd P ri.toNatClampNeg (P si.toNatClampNeg)) (upd Y ri.toNatClampNeg (Y si.toNatClampNeg)) (ub (ub G ri.toNatClampNeg (G si.toNatClampNeg)) ri.toNatClampNeg (false))) H := by rw [ub_upd] at hP; exact hP
        have hD : va_D A9 (xW cI cZ q (upd A ri.toNatClampNeg (A si.toNatClampNeg)) (upd (upd B ri.toNatClampNeg (B si.toNatClampNeg)) ri.toNatClampNeg (A si.toNatClampNeg)) (upd (upd T ri.toNatClampNeg (T si.toNatClampNeg)) ri.toNatClampNeg ((A si.toNatClampNeg) + (v))) (upd P ri.toNatClampNeg (P si.toNatClampNeg)) (upd Y ri.toNatClampNeg (Y si.toNatClampNeg)) (ub (ub G ri.toNatClampNeg (G si.toNatClampNeg)) ri.toNatClampNeg (false))) := by rw [ub_upd] at hD; exact hD
        refine lv_aload_n hx hb dX_narrow_98 rfl (lv_at hl 1 rfl) ?_
        refine va_get (D := D) (ci := 0) (v := .ref (q 6)) (C := RX) (T := TX) (N := 6) hx hb hts inX hown hK hP 0 rfl rfl 5 (by decide) (hts _ w_34) (fun _ h9 => h9) rfl dX_narrow_99 ?_
        refine lv_iload_n hx hb dX_narrow_102 rfl (lv_at hl 2 rfl) ?_
        refine va_zald hx hb hK hP 6 1 rfl rfl hri dX_narrow_103 ?_
        refine W.eq (g2 := F0 m 104 ls [.int (bi (false))]) (by first | rfl | (rw [ub_s] <;> rfl)) ?_
        have e9_0 : (G si.toNatClampNeg && (decide (Y si.toNatClampNeg = 0) && ga_in (B si.toNatClampNeg) (T si.toNatClampNeg) (A si.toNatClampNeg) (un v))) = false := by (try simp only [decide_eq_true_eq, decide_eq_false_iff_not, Decidable.not_not] at h_1); (try simp only [decide_eq_true_eq, decide_eq_false_iff_not, Decidable.not_not] at h_4); (try simp only [decide_eq_true_eq, decide_eq_false_iff_not, Decidable.not_not] at h_7); simp [h_1, h_4, h_7]
        have hP : va_P D vwCl (xW cI cZ q (upd A ri.toNatClampNeg (A si.toNatClampNeg)) (upd B ri.toNatClampNeg (A si.toNatClampNeg)) (upd T ri.toNatClampNeg ((A si.toNatClampNeg) + (v))) (upd P ri.toNatClampNeg (P si.toNatClampNeg)) (upd Y ri.toNatClampNeg (Y si.toNatClampNeg)) (ub G ri.toNatClampNeg ((G si.toNatClampNeg && (decide (Y si.toNatClampNeg = 0) && ga_in (B si.toNatClampNeg) (T si.toNatClampNeg) (A si.toNatClampNeg) (un v)))))) H := by (try rw [e9_0]); first | exact hP | (simp only [uu_upd, uu_ub] at hP ⊢; exact hP)
        have hD : va_D A9 (xW cI cZ q (upd A ri.toNatClampNeg (A si.toNatClampNeg)) (upd B ri.toNatClampNeg (A si.toNatClampNeg)) (upd T ri.toNatClampNeg ((A si.toNatClampNeg) + (v))) (upd P ri.toNatClampNeg (P si.toNatClampNeg)) (upd Y ri.toNatClampNeg (Y si.toNatClampNeg)) (ub G ri.toNatClampNeg ((G si.toNatClampNeg && (decide (Y si.toNatClampNeg = 0) && ga_in (B si.toNatClampNeg) (T si.toNatClampNeg) (A si.toNatClampNeg) (un v)))))) := by (try rw [e9_0]); first | exact hD | (simp only [uu_upd, uu_ub] at hD ⊢; exact hD)
        refine W.eq (g2 := F0 m 104 ls [.int (bi (G si.toNatClampNeg && (decide (Y si.toNatClampNeg = 0) && ga_in (B si.toNatClampNeg) (T si.toNatClampNeg) (A si.toNatClampNeg) (un v))))]) (by first | rfl | (rw [e9_0] <;> rfl)) ?_
        exact W.zret (v := bi (G si.toNatClampNeg && (decide (Y si.toNatClampNeg = 0) && ga_in (B si.toNatClampNeg) (T si.toNatClampNeg) (A si.toNatClampNeg) (un v)))) hx hb hr (bi_nar _) (fun t9 ht hW => ⟨rfl, by rw [ht]; exact hP, hD, hS.F ht⟩) hS.2.2 dX_narrow_104
      · have h_7 := bi_n h_7
        refine lv_iload hx hb dX_narrow_87 (lv_at hl 0 rfl) ?_
        refine lv_if_eq (tgt := 96) hx hb dX_narrow_89 (by decide) (fun h_8 => absurd h_8 (by decide)) (fun h_8 => ?_)
        refine lv_iconst (v := 1) hx hb dX_narrow_92 (by decide) ?_
        refine lv_goto (tgt := 97) hx hb dX_narrow_93 (by decide) ?_
        refine W.eq (g2 := F0 m 97 ls [.int (bi true), .int (ri), .ref (q 6)]) rfl ?_
        refine va_zast hx hb hK hP hD hS 6 1 rfl rfl hri dX_narrow_97 (fun H locs hP hD hS => ?_)
        have hP : va_P D vwCl (xW cI cZ q (upd A ri.toNatClampNeg (A si.toNatClampNeg)) (upd (upd B ri.toNatClampNeg (B si.toNatClampNeg)) ri.toNatClampNeg (A si.toNatClampNeg)) (upd (upd T ri.toNatClampNeg (T si.toNatClampNeg)) ri.toNatClampNeg ((A si.toNatClampNeg) + (v))) (upd P ri.toNatClampNeg (P si.toNatClampNeg)) (upd Y ri.toNatClampNeg (Y si.toNatClampNeg)) (ub (ub G ri.toNatClampNeg (G si.toNatClampNeg)) ri.toNatClampNeg (true))) H := by rw [ub_upd] at hP; exact hP
        have hD : va_D A9 (xW cI cZ q (upd A ri.toNatClampNeg (A si.toNatClampNeg)) (upd (upd B ri.toNatClampNeg (B si.toNatClampNeg)) ri.toNatClampNeg (A si.toNatClampNeg)) (upd (upd T ri.toNatClampNeg (T si.toNatClampNeg)) ri.toNatClampNeg ((A si.toNatClampNeg) + (v))) (upd P ri.toNatClampNeg (P si.toNatClampNeg)) (upd Y ri.toNatClampNeg (Y si.toNatClampNeg)) (ub (ub G ri.toNatClampNeg (G si.toNatClampNeg)) ri.toNatClampNeg (true))) := by rw [ub_upd] at hD; exact hD
        refine lv_aload_n hx hb dX_narrow_98 rfl (lv_at hl 1 rfl) ?_
        refine va_get (D := D) (ci := 0) (v := .ref (q 6)) (C := RX) (T := TX) (N := 6) hx hb hts inX hown hK hP 0 rfl rfl 5 (by decide) (hts _ w_34) (fun _ h9 => h9) rfl dX_narrow_99 ?_
        refine lv_iload_n hx hb dX_narrow_102 rfl (lv_at hl 2 rfl) ?_
        refine va_zald hx hb hK hP 6 1 rfl rfl hri dX_narrow_103 ?_
        refine W.eq (g2 := F0 m 104 ls [.int (bi (true))]) (by first | rfl | (rw [ub_s] <;> rfl)) ?_
        have e9_0 : (G si.toNatClampNeg && (decide (Y si.toNatClampNeg = 0) && ga_in (B si.toNatClampNeg) (T si.toNatClampNeg) (A si.toNatClampNeg) (un v))) = true := by (try simp only [decide_eq_true_eq, decide_eq_false_iff_not, Decidable.not_not] at h_1); (try simp only [decide_eq_true_eq, decide_eq_false_iff_not, Decidable.not_not] at h_4); (try simp only [decide_eq_true_eq, decide_eq_false_iff_not, Decidable.not_not] at h_7); simp [h_1, h_4, h_7]
        have hP : va_P D vwCl (xW cI cZ q (upd A ri.toNatClampNeg (A si.toNatClampNeg)) (upd B ri.toNatClampNeg (A si.toNatClampNeg)) (upd T ri.toNatClampNeg ((A si.toNatClampNeg) + (v))) (upd P ri.toNatClampNeg (P si.toNatClampNeg)) (upd Y ri.toNatClampNeg (Y si.toNatClampNeg)) (ub G ri.toNatClampNeg ((G si.toNatClampNeg && (decide (Y si.toNatClampNeg = 0) && ga_in (B si.toNatClampNeg) (T si.toNatClampNeg) (A si.toNatClampNeg) (un v)))))) H := by (try rw [e9_0]); first | exact hP | (simp only [uu_upd, uu_ub] at hP ⊢; exact hP)
        have hD : va_D A9 (xW cI cZ q (upd A ri.toNatClampNeg (A si.toNatClampNeg)) (upd B ri.toNatClampNeg (A si.toNatClampNeg)) (upd T ri.toNatClampNeg ((A si.toNatClampNeg) + (v))) (upd P ri.toNatClampNeg (P si.toNatClampNeg)) (upd Y ri.toNatClampNeg (Y si.toNatClampNeg)) (ub G ri.toNatClampNeg ((G si.toNatClampNeg && (decide (Y si.toNatClampNeg = 0) && ga_in (B si.toNatClampNeg) (T si.toNatClampNeg) (A si.toNatClampNeg) (un v)))))) := by (try rw [e9_0]); first | exact hD | (simp only [uu_upd, uu_ub] at hD ⊢; exact hD)
        refine W.eq (g2 := F0 m 104 ls [.int (bi (G si.toNatClampNeg && (decide (Y si.toNatClampNeg = 0) && ga_in (B si.toNatClampNeg) (T si.toNatClampNeg) (A si.toNatClampNeg) (un v))))]) (by first | rfl | (rw [e9_0] <;> rfl)) ?_
        exact W.zret (v := bi (G si.toNatClampNeg && (decide (Y si.toNatClampNeg = 0) && ga_in (B si.toNatClampNeg) (T si.toNatClampNeg) (A si.toNatClampNeg) (un v)))) hx hb hr (bi_nar _) (fun t9 ht hW => ⟨rfl, by rw [ht]; exact hP, hD, hS.F ht⟩) hS.2.2 dX_narrow_104

set_option maxRecDepth 100000 in
set_option maxHeartbeats 4000000 in
theorem mX_restrict (l : Launch) (D : va_G) (cI cZ : ClassId) (q : Nat → Nat) (A B T P Y : Nat → Int32) (G : Nat → Bool) (sz : Nat) (ri si v : Int32) (hri : vp_in ri 16) (hsi : vp_in si 16) : Met l yX_restrict (Cond.code yX_restrict cX_restrict 6 (some .boolean) :: gw) (rmk 1 0 0) (va_Pc [.ref (q 0), .int (ri), .int (si), .int (v)] (kB D vwCl (xW cI cZ q A B T P Y G) (tsX cI cZ) sz)) (kQ (some (.int (bi (G si.toNatClampNeg && (decide (Y si.toNatClampNeg = 0) || decide ((P si.toNatClampNeg) &&& (v) = P si.toNatClampNeg)))))) D vwCl (xW cI cZ q (upd A ri.toNatClampNeg (A si.toNatClampNeg)) (upd B ri.toNatClampNeg (B si.toNatClampNeg)) (upd T ri.toNatClampNeg (T si.toNatClampNeg)) (upd P ri.toNatClampNeg ((P si.toNatClampNeg) &&& (v))) (upd Y ri.toNatClampNeg (Y si.toNatClampNeg)) (ub G ri.toNatClampNeg ((G si.toNatClampNeg && (decide (Y si.toNatClampNeg = 0) || decide ((P si.toNatClampNeg) &&& (v) = P si.toNatClampNeg)))))) (va_A (xW cI cZ q A B T P Y G) sz)) 0 0 (va_A (xW cI cZ q A B T P Y G) sz) := by
  refine Met.ofW (cc := cX_restrict) (maxL := 6) (ret := (some .boolean)) (by decide) rfl ?_
  intro p e s m args below meth c s₁ B9 hml hv
  obtain ⟨rfl, hsz, hP, hK, hD0⟩ := hv
  have hx := B9.exec
  have hb := B9.bytes
  have hr := B9.returns
  have hts := fun (w : Cond) (h : w ∈ gw) => atoms_spec (ws := _ :: gw) B9.pre w (List.mem_cons_of_mem _ h)
  have hown : s.vm.findClass RX = some m.cls := findClass_of_methodNamed B9.named
  have hlocks := B9.notSynchronized
  have hl := lv_entry ([.ref (q 0), .int (ri), .int (si), .int (v)]) (n := 6) (Nat.le_of_ble_eq_true rfl)
  rw [lg_entry_eq]
  generalize (lg_sl ([.ref (q 0), .int (ri), .int (si), .int (v)]) ++ List.replicate (6 - (lg_sl ([.ref (q 0), .int (ri), .int (si), .int (v)])).length) Slot.unset).toArray = ls at hl ⊢
  have hl : lv_has ls 6 [(0, .ref (q 0)), (1, .int (ri)), (2, .int (si)), (3, .int (v))] := hl
  subst hsz
  have hD := hD0.self (sz := s.heap.size)
  generalize hAe : va_A (xW cI cZ q A B T P Y G) s.heap.size = A9 at hD ⊢
  have hA : ∀ z : Nat, s.heap.size ≤ z → A9 z := fun z h => by rw [← hAe]; exact Or.inr h
  have hS : va_S A9 s.heap s.heap [] := va_S.rf
  have hP : va_P D vwCl (xW cI cZ q A B T P Y G) s.heap := hP
  refine lv_iload_n hx hb dX_restrict_0 rfl (lv_at hl 1 rfl) ?_
  refine kr_Sv 1 (As := [.int (ri)]) (rest := []) hx hb hml hown hts hl.1 (mX_requireGrant l (ri) hri) tt_stb trivial (gw_S w_151 w_152 w_14 w_153) (by decide) ⟨rfl, rfl⟩ ⟨Nat.le_of_ble_eq_true rfl, Nat.le_of_ble_eq_true rfl⟩ rfl rfl (Nat.le_of_ble_eq_true rfl) dX_restrict_1 ⟨Nat.zero_le _, Nat.zero_le _⟩ ?_
  refine lv_iload_n hx hb dX_restrict_4 rfl (lv_at hl 2 rfl) ?_
  refine kr_Sv 1 (As := [.int (si)]) (rest := []) hx hb hml hown hts hl.1 (mX_requireGrant l (si) hsi) tt_stb trivial (gw_S w_151 w_152 w_14 w_153) (by decide) ⟨rfl, rfl⟩ ⟨Nat.le_of_ble_eq_true rfl, Nat.le_of_ble_eq_true rfl⟩ rfl rfl (Nat.le_of_ble_eq_true rfl) dX_restrict_5 ⟨Nat.zero_le _, Nat.zero_le _⟩ ?_
  refine lv_aload_n hx hb dX_restrict_8 rfl (lv_at hl 0 rfl) ?_
  refine va_get (D := D) (ci := 0) (v := .ref (q 4)) (C := RX) (T := TX) (N := 6) hx hb hts inX hown hK hP 0 rfl rfl 3 (by decide) (hts _ w_32) (fun _ h9 => h9) rfl dX_restrict_9 ?_
  refine lv_iload_n hx hb dX_restrict_12 rfl (lv_at hl 2 rfl) ?_
  refine va_iald hx hb hK hP 4 0 rfl rfl hsi dX_restrict_13 ?_
  refine lv_iload_n hx hb dX_restrict_14 rfl (lv_at hl 3 rfl) ?_
  refine lv_iand hx hb dX_restrict_15 ?_
  refine lv_istore hx hb dX_restrict_16 hl (by decide) rfl (fun ls hl => ?_)
  have hl : lv_has ls 6 [(4, .int ((P si.toNatClampNeg) &&& (v))), (0, .ref (q 0)), (1, .int (ri)), (2, .int (si)), (3, .int (v))] := hl
  refine lv_aload_n hx hb dX_restrict_18 rfl (lv_at hl 1 rfl) ?_
  refine lv_iload_n hx hb dX_restrict_19 rfl (lv_at hl 3 rfl) ?_
  refine kr_V 1 (b := q 0) (As := [.int (si)]) (rest := []) (r := .int (bi (decide (¬ Y si.toNatClampNeg = 0)))) hx hb hml hown hts hl.1 (mX_isSealed l D cI cZ q A B T P Y G (si) hsi) rB_stb ⟨hP, hK⟩ (gw_V w_58 w_60 w_1 w_14 w_61) (by decide) ⟨rfl, rfl⟩ ⟨Nat.le_of_ble_eq_true rfl, Nat.le_of_ble_eq_true rfl⟩ (va_recv hK hP (ci := 0) rfl (q0 := 0) rfl) rfl rfl (Nat.le_of_ble_eq_true rfl) dX_restrict_20 ⟨Nat.zero_le _, Nat.zero_le _⟩ ?_
  refine lv_if_eq (tgt := 37) hx hb dX_restrict_23 (by decide) (fun h_1 => ?_) (fun h_1 => ?_)
  · have h_1 := bi_0 h_1
    refine lv_iconst (v := 1) hx hb dX_restrict_37 (by decide) ?_
    refine lv_goto (tgt := 42) hx hb dX_restrict_38 (by decide) ?_
    refine lv_istore hx hb dX_restrict_42 hl (by decide) rfl (fun ls hl => ?_)
    have hl : lv_has ls 6 [(5, .int (1)), (4, .int ((P si.toNatClampNeg) &&& (v))), (0, .ref (q 0)), (1, .int (ri)), (2, .int (si)), (3, .int (v))] := hl
    refine lv_aload_n hx hb dX_restrict_44 rfl (lv_at hl 2 rfl) ?_
    refine lv_iload_n hx hb dX_restrict_45 rfl (lv_at hl 3 rfl) ?_
    refine lv_iload_n hx hb dX_restrict_46 rfl (lv_at hl 4 rfl) ?_
    refine kw_V 2 [0, 1, 2, 3, 4, 5, 6] [] (b := q 0) (As := [.int (ri), .int (si)]) (rest := []) (wc := xW cI cZ q A B T P Y G) (wr := []) (w1 := xW cI cZ q (upd A ri.toNatClampNeg (A si.toNatClampNeg)) (upd B ri.toNatClampNeg (B si.toNatClampNeg)) (upd T ri.toNatClampNeg (T si.toNatClampNeg)) (upd P ri.toNatClampNeg (P si.toNatClampNeg)) (upd Y ri.toNatClampNeg (Y si.toNatClampNeg)) (ub G ri.toNatClampNeg (G si.toNatClampNeg))) hx hb hml hown hts hl.1 hP hD hS hA hK (mX_copy l D cI cZ q A B T P Y G _ ri si hri hsi) (gw_V w_184 w_186 w_5 w_14 w_187) (by decide) ⟨rfl, rfl⟩ ⟨Nat.le_of_ble_eq_true rfl, Nat.le_of_ble_eq_true rfl⟩ (va_recv hK hP (ci := 0) rfl (q0 := 0) rfl) rfl rfl (Nat.le_of_ble_eq_true rfl) dX_restrict_47 ⟨Nat.zero_le _, Nat.zero_le _⟩ rfl rfl ⟨by decide, by decide⟩ (by decide) (fun H locs hP hD hS => ?_)
    have hP : va_P D vwCl (xW cI cZ q (upd A ri.toNatClampNeg (A si.toNatClampNeg)) (upd B ri.toNatClampNeg (B si.toNatClampNeg)) (upd T ri.toNatClampNeg (T si.toNatClampNeg)) (upd P ri.toNatClampNeg (P si.toNatClampNeg)) (upd Y ri.toNatClampNeg (Y si.toNatClampNeg)) (ub G ri.toNatClampNeg (G si.toNatClampNeg))) H := hP
    have hD : va_D A9 (xW cI cZ q (upd A ri.toNatClampNeg (A si.toNatClampNeg)) (upd B ri.toNatClampNeg (B si.toNatClampNeg)) (upd T ri.toNatClampNeg (T si.toNatClampNeg)) (upd P ri.toNatClampNeg (P si.toNatClampNeg)) (upd Y ri.toNatClampNeg (Y si.toNatClampNeg)) (ub G ri.toNatClampNeg (G si.toNatClampNeg))) := hD
    refine W.eq (g2 := F0 m 50 ls []) rfl ?_
    refine lv_aload_n hx hb dX_restrict_50 rfl (lv_at hl 2 rfl) ?_
    refine va_get (D := D) (ci := 0) (v := .ref (q 4)) (C := RX) (T := TX) (N := 6) hx hb hts inX hown hK hP 0 rfl rfl 3 (by decide) (hts _ w_32) (fun _ h9 => h9) rfl dX_restrict_51 ?_
    refine lv_iload_n hx hb dX_restrict_54 rfl (lv_at hl 3 rfl) ?_
    refine lv_iload hx hb dX_restrict_55 (lv_at hl 1 rfl) ?_
    refine va_iast hx hb hK hP hD hS 4 0 rfl rfl hri dX_restrict_57 (fun H locs hP hD hS => ?_)
    have hP : va_P D vwCl (xW cI cZ q (upd A ri.toNatClampNeg (A si.toNatClampNeg)) (upd B ri.toNatClampNeg (B si.toNatClampNeg)) (upd T ri.toNatClampNeg (T si.toNatClampNeg)) (upd (upd P ri.toNatClampNeg (P si.toNatClampNeg)) ri.toNatClampNeg ((P si.toNatClampNeg) &&& (v))) (upd Y ri.toNatClampNeg (Y si.toNatClampNeg)) (ub G ri.toNatClampNeg (G si.toNatClampNeg))) H := hP
    have hD : va_D A9 (xW cI cZ q (upd A ri.toNatClampNeg (A si.toNatClampNeg)) (upd B ri.toNatClampNeg (B si.toNatClampNeg)) (upd T ri.toNatClampNeg (T si.toNatClampNeg)) (upd (upd P ri.toNatClampNeg (P si.toNatClampNeg)) ri.toNatClampNeg ((P si.toNatClampNeg) &&& (v))) (upd Y ri.toNatClampNeg (Y si.toNatClampNeg)) (ub G ri.toNatClampNeg (G si.toNatClampNeg))) := hD
    refine lv_aload_n hx hb dX_restrict_58 rfl (lv_at hl 2 rfl) ?_
    refine va_get (D := D) (ci := 0) (v := .ref (q 6)) (C := RX) (T := TX) (N := 6) hx hb hts inX hown hK hP 0 rfl rfl 5 (by decide) (hts _ w_34) (fun _ h9 => h9) rfl dX_restrict_59 ?_
    refine lv_iload_n hx hb dX_restrict_62 rfl (lv_at hl 3 rfl) ?_
    refine lv_aload_n hx hb dX_restrict_63 rfl (lv_at hl 2 rfl) ?_
    refine va_get (D := D) (ci := 0) (v := .ref (q 6)) (C := RX) (T := TX) (N := 6) hx hb hts inX hown hK hP 0 rfl rfl 5 (by decide) (hts _ w_34) (fun _ h9 => h9) rfl dX_restrict_64 ?_
    refine lv_iload_n hx hb dX_restrict_67 rfl (lv_at hl 3 rfl) ?_
    refine va_zald hx hb hK hP 6 1 rfl rfl hri dX_restrict_68 ?_
    refine W.eq (g2 := F0 m 69 ls [.int (bi (G si.toNatClampNeg)), .int (ri), .ref (q 6)]) (by first | rfl | (rw [ub_s] <;> rfl)) ?_
    refine lv_if_eq (tgt := 81) hx hb dX_restrict_69 (by decide) (fun h_2 => ?_) (fun h_2 => ?_)
    · have h_2 := bi_0 h_2
      refine lv_iconst (v := 0) hx hb dX_restrict_81 (by decide) ?_
      refine W.eq (g2 := F0 m 82 ls [.int (bi false), .int (ri), .ref (q 6)]) rfl ?_
      refine va_zast hx hb hK hP hD hS 6 1 rfl rfl hri dX_restrict_82 (fun H locs hP hD hS => ?_)
      have hP : va_P D vwCl (xW cI cZ q (upd A ri.toNatClampNeg (A si.toNatClampNeg)) (upd B ri.toNatClampNeg (B si.toNatClampNeg)) (upd T ri.toNatClampNeg (T si.toNatClampNeg)) (upd (upd P ri.toNatClampNeg (P si.toNatClampNeg)) ri.toNatClampNeg ((P si.toNatClampNeg) &&& (v))) (upd Y ri.toNatClampNeg (Y si.toNatClampNeg)) (ub (ub G ri.toNatClampNeg (G si.toNatClampNeg)) ri.toNatClampNeg (false))) H := by rw [ub_upd] at hP; exact hP
      have hD : va_D A9 (xW cI cZ q (upd A ri.toNatClampNeg (A si.toNatClampNeg)) (upd B ri.toNatClampNeg (B si.toNatClampNeg)) (upd T ri.toNatClampNeg (T si.toNatClampNeg)) (upd (upd P ri.toNatClampNeg (P si.toNatClampNeg)) ri.toNatClampNeg ((P si.toNatClampNeg) &&& (v))) (upd Y ri.toNatClampNeg (Y si.toNatClampNeg)) (ub (ub G ri.toNatClampNeg (G si.toNatClampNeg)) ri.toNatClampNeg (false))) := by rw [ub_upd] at hD; exact hD
      refine lv_aload_n hx hb dX_restrict_83 rfl (lv_at hl 2 rfl) ?_
      refine va_get (D := D) (ci := 0) (v := .ref (q 6)) (C := RX) (T := TX) (N := 6) hx hb hts inX hown hK hP 0 rfl rfl 5 (by decide) (hts _ w_34) (fun _ h9 => h9) rfl dX_restrict_84 ?_
      refine lv_iload_n hx hb dX_restrict_87 rfl (lv_at hl 3 rfl) ?_
      refine va_zald hx hb hK hP 6 1 rfl rfl hri dX_restrict_88 ?_
      refine W.eq (g2 := F0 m 89 ls [.int (bi (false))]) (by first | rfl | (rw [ub_s] <;> rfl)) ?_
      have e9_0 : (G si.toNatClampNeg && (decide (Y si.toNatClampNeg = 0) || decide ((P si.toNatClampNeg) &&& (v) = P si.toNatClampNeg))) = false := by (try simp only [decide_eq_true_eq, decide_eq_false_iff_not, Decidable.not_not] at h_1); (try simp only [decide_eq_true_eq, decide_eq_false_iff_not, Decidable.not_not] at h_2); simp [h_1, h_2]
      have hP : va_P D vwCl (xW cI cZ q (upd A ri.toNatClampNeg (A si.toNatClampNeg)) (upd B ri.toNatClampNeg (B si.toNatClampNeg)) (upd T ri.toNatClampNeg (T si.toNatClampNeg)) (upd P ri.toNatClampNeg ((P si.toNatClampNeg) &&& (v))) (upd Y ri.toNatClampNeg (Y si.toNatClampNeg)) (ub G ri.toNatClampNeg ((G si.toNatClampNeg && (decide (Y si.toNatClampNeg = 0) || decide ((P si.toNatClampNeg) &&& (v) = P si.toNatClampNeg)))))) H := by (try rw [e9_0]); first | exact hP | (simp only [uu_upd, uu_ub] at hP ⊢; exact hP)
      have hD : va_D A9 (xW cI cZ q (upd A ri.toNatClampNeg (A si.toNatClampNeg)) (upd B ri.toNatClampNeg (B si.toNatClampNeg)) (upd T ri.toNatClampNeg (T si.toNatClampNeg)) (upd P ri.toNatClampNeg ((P si.toNatClampNeg) &&& (v))) (upd Y ri.toNatClampNeg (Y si.toNatClampNeg)) (ub G ri.toNatClampNeg ((G si.toNatClampNeg && (decide (Y si.toNatClampNeg = 0) || decide ((P si.toNatClampNeg) &&& (v) = P si.toNatClampNeg)))))) := by (try rw [e9_0]); first | exact hD | (simp only [uu_upd, uu_ub] at hD ⊢; exact hD)
      refine W.eq (g2 := F0 m 89 ls [.int (bi (G si.toNatClampNeg && (decide (Y si.toNatClampNeg = 0) || decide ((P si.toNatClampNeg) &&& (v) = P si.toNatClampNeg))))]) (by first | rfl | (rw [e9_0] <;> rfl)) ?_
      exact W.zret (v := bi (G si.toNatClampNeg && (decide (Y si.toNatClampNeg = 0) || decide ((P si.toNatClampNeg) &&& (v) = P si.toNatClampNeg)))) hx hb hr (bi_nar _) (fun t9 ht hW => ⟨rfl, by rw [ht]; exact hP, hD, hS.F ht⟩) hS.2.2 dX_restrict_89
    · have h_2 := bi_n h_2
      refine lv_iload hx hb dX_restrict_72 (lv_at hl 0 rfl) ?_
      refine lv_if_eq (tgt := 81) hx hb dX_restrict_74 (by decide) (fun h_3 => absurd h_3 (by decide)) (fun h_3 => ?_)
      refine lv_iconst (v := 1) hx hb dX_restrict_77 (by decide) ?_
      refine lv_goto (tgt := 82) hx hb dX_restrict_78 (by decide) ?_
      refine W.eq (g2 := F0 m 82 ls [.int (bi true), .int (ri), .ref (q 6)]) rfl ?_
      refine va_zast hx hb hK hP hD hS 6 1 rfl rfl hri dX_restrict_82 (fun H locs hP hD hS => ?_)
      have hP : va_P D vwCl (xW cI cZ q (upd A ri.toNatClampNeg (A si.toNatClampNeg)) (upd B ri.toNatClampNeg (B si.toNatClampNeg)) (upd T ri.toNatClampNeg (T si.toNatClampNeg)) (upd (upd P ri.toNatClampNeg (P si.toNatClampNeg)) ri.toNatClampNeg ((P si.toNatClampNeg) &&& (v))) (upd Y ri.toNatClampNeg (Y si.toNatClampNeg)) (ub (ub G ri.toNatClampNeg (G si.toNatClampNeg)) ri.toNatClampNeg (true))) H := by rw [ub_upd] at hP; exact hP
      have hD : va_D A9 (xW cI cZ q (upd A ri.toNatClampNeg (A si.toNatClampNeg)) (upd B ri.toNatClampNeg (B si.toNatClampNeg)) (upd T ri.toNatClampNeg (T si.toNatClampNeg)) (upd (upd P ri.toNatClampNeg (P si.toNatClampNeg)) ri.toNatClampNeg ((P si.toNatClampNeg) &&& (v))) (upd Y ri.toNatClampNeg (Y si.toNatClampNeg)) (ub (ub G ri.toNatClampNeg (G si.toNatClampNeg)) ri.toNatClampNeg (true))) := by rw [ub_upd] at hD; exact hD
      refine lv_aload_n hx hb dX_restrict_83 rfl (lv_at hl 2 rfl) ?_
      refine va_get (D := D) (ci := 0) (v := .ref (q 6)) (C := RX) (T := TX) (N := 6) hx hb hts inX hown hK hP 0 rfl rfl 5 (by decide) (hts _ w_34) (fun _ h9 => h9) rfl dX_restrict_84 ?_
      refine lv_iload_n hx hb dX_restrict_87 rfl (lv_at hl 3 rfl) ?_
      refine va_zald hx hb hK hP 6 1 rfl rfl hri dX_restrict_88 ?_
      refine W.eq (g2 := F0 m 89 ls [.int (bi (true))]) (by first | rfl | (rw [ub_s] <;> rfl)) ?_
      have e9_0 : (G si.toNatClampNeg && (decide (Y si.toNatClampNeg = 0) || decide ((P si.toNatClampNeg) &&& (v) = P si.toNatClampNeg))) = true := by (try simp only [decide_eq_true_eq, decide_eq_false_iff_not, Decidable.not_not] at h_1); (try simp only [decide_eq_true_eq, decide_eq_false_iff_not, Decidable.not_not] at h_2); simp [h_1, h_2]
      have hP : va_P D vwCl (xW cI cZ q (upd A ri.toNatClampNeg (A si.toNatClampNeg)) (upd B ri.toNatClampNeg (B si.toNatClampNeg)) (upd T ri.toNatClampNeg (T si.toNatClampNeg)) (upd P ri.toNatClampNeg ((P si.toNatClampNeg) &&& (v))) (upd Y ri.toNatClampNeg (Y si.toNatClampNeg)) (ub G ri.toNatClampNeg ((G si.toNatClampNeg && (decide (Y si.toNatClampNeg = 0) || decide ((P si.toNatClampNeg) &&& (v) = P si.toNatClampNeg)))))) H := by (try rw [e9_0]); first | exact hP | (simp only [uu_upd, uu_ub] at hP ⊢; exact hP)
      have hD : va_D A9 (xW cI cZ q (upd A ri.toNatClampNeg (A si.toNatClampNeg)) (upd B ri.toNatClampNeg (B si.toNatClampNeg)) (upd T ri.toNatClampNeg (T si.toNatClampNeg)) (upd P ri.toNatClampNeg ((P si.toNatClampNeg) &&& (v))) (upd Y ri.toNatClampNeg (Y si.toNatClampNeg)) (ub G ri.toNatClampNeg ((G si.toNatClampNeg && (decide (Y si.toNatClampNeg = 0) || decide ((P si.toNatClampNeg) &&& (v) = P si.toNatClampNeg)))))) := by (try rw [e9_0]); first | exact hD | (simp only [uu_upd, uu_ub] at hD ⊢; exact hD)
      refine W.eq (g2 := F0 m 89 ls [.int (bi (G si.toNatClampNeg && (decide (Y si.toNatClampNeg = 0) || decide ((P si.toNatClampNeg) &&& (v) = P si.toNatClampNeg))))]) (by first | rfl | (rw [e9_0] <;> rfl)) ?_
      exact W.zret (v := bi (G si.toNatClampNeg && (decide (Y si.toNatClampNeg = 0) || decide ((P si.toNatClampNeg) &&& (v) = P si.toNatClampNeg)))) hx hb hr (bi_nar _) (fun t9 ht hW => ⟨rfl, by rw [ht]; exact hP, hD, hS.F ht⟩) hS.2.2 dX_restrict_89
  · have h_1 := bi_n h_1
    refine lv_iload hx hb dX_restrict_26 (lv_at hl 0 rfl) ?_
    refine lv_aload_n hx hb dX_restrict_28 rfl (lv_at hl 1 rfl) ?_
    refine va_get (D := D) (ci := 0) (v := .ref (q 4)) (C := RX) (T := TX) (N := 6) hx hb hts inX hown hK hP 0 rfl rfl 3 (by decide) (hts _ w_32) (fun _ h9 => h9) rfl dX_restrict_29 ?_
    refine lv_iload_n hx hb dX_restrict_32 rfl (lv_at hl 3 rfl) ?_
    refine va_iald hx hb hK hP 4 0 rfl rfl hsi dX_restrict_33 ?_
    refine lv_icmp_ne (tgt := 41) hx hb dX_restrict_34 (by decide) (fun h_4 => ?_) (fun h_4 => ?_)
    · 
      refine lv_iconst (v := 0) hx hb dX_restrict_41 (by decide) ?_
      refine lv_istore hx hb dX_restrict_42 hl (by decide) rfl (fun ls hl => ?_)
      have hl : lv_has ls 6 [(5, .int (0)), (4, .int ((P si.toNatClampNeg) &&& (v))), (0, .ref (q 0)), (1, .int (ri)), (2, .int (si)), (3, .int (v))] := hl
      refine lv_aload_n hx hb dX_restrict_44 rfl (lv_at hl 2 rfl) ?_
      refine lv_iload_n hx hb dX_restrict_45 rfl (lv_at hl 3 rfl) ?_
      refine lv_iload_n hx hb dX_restrict_46 rfl (lv_at hl 4 rfl) ?_
      refine kw_V 2 [0, 1, 2, 3, 4, 5, 6] [] (b := q 0) (As := [.int (ri), .int (si)]) (rest := []) (wc := xW cI cZ q A B T P Y G) (wr := []) (w1 := xW cI cZ q (upd A ri.toNatClampNeg (A si.toNatClampNeg)) (upd B ri.toNatClampNeg (B si.toNatClampNeg)) (upd T ri.toNatClampNeg (T si.toNatClampNeg)) (upd P ri.toNatClampNeg (P si.toNatClampNeg)) (upd Y ri.toNatClampNeg (Y si.toNatClampNeg)) (ub G ri.toNatClampNeg (G si.toNatClampNeg))) hx hb hml hown hts hl.1 hP hD hS hA hK (mX_copy l D cI cZ q A B T P Y G _ ri si hri hsi) (gw_V w_184 w_186 w_5 w_14 w_187) (by decide) ⟨rfl, rfl⟩ ⟨Nat.le_of_ble_eq_true rfl, Nat.le_of_ble_eq_true rfl⟩ (va_recv hK hP (ci := 0) rfl (q0 := 0) rfl) rfl rfl (Nat.le_of_ble_eq_true rfl) dX_restrict_47 ⟨Nat.zero_le _, Nat.zero_le _⟩ rfl rfl ⟨by decide, by decide⟩ (by decide) (fun H locs hP hD hS => ?_)
      have hP : va_P D vwCl (xW cI cZ q (upd A ri.toNatClampNeg (A si.toNatClampNeg)) (upd B ri.toNatClampNeg (B si.toNatClampNeg)) (upd T ri.toNatClampNeg (T si.toNatClampNeg)) (upd P ri.toNatClampNeg (P si.toNatClampNeg)) (upd Y ri.toNatClampNeg (Y si.toNatClampNeg)) (ub G ri.toNatClampNeg (G si.toNatClampNeg))) H := hP
      have hD : va_D A9 (xW cI cZ q (upd A ri.toNatClampNeg (A si.toNatClampNeg)) (upd B ri.toNatClampNeg (B si.toNatClampNeg)) (upd T ri.toNatClampNeg (T si.toNatClampNeg)) (upd P ri.toNatClampNeg (P si.toNatClampNeg)) (upd Y ri.toNatClampNeg (Y si.toNatClampNeg)) (ub G ri.toNatClampNeg (G si.toNatClampNeg))) := hD
      refine W.eq (g2 := F0 m 50 ls []) rfl ?_
      refine lv_aload_n hx hb dX_restrict_50 rfl (lv_at hl 2 rfl) ?_
      refine va_get (D := D) (ci := 0) (v := .ref (q 4)) (C := RX) (T := TX) (N := 6) hx hb hts inX hown hK hP 0 rfl rfl 3 (by decide) (hts _ w_32) (fun _ h9 => h9) rfl dX_restrict_51 ?_
      refine lv_iload_n hx hb dX_restrict_54 rfl (lv_at hl 3 rfl) ?_
      refine lv_iload hx hb dX_restrict_55 (lv_at hl 1 rfl) ?_
      refine va_iast hx hb hK hP hD hS 4 0 rfl rfl hri dX_restrict_57 (fun H locs hP hD hS => ?_)
      have hP : va_P D vwCl (xW cI cZ q (upd A ri.toNatClampNeg (A si.toNatClampNeg)) (upd B ri.toNatClampNeg (B si.toNatClampNeg)) (upd T ri.toNatClampNeg (T si.toNatClampNeg)) (upd (upd P ri.toNatClampNeg (P si.toNatClampNeg)) ri.toNatClampNeg ((P si.toNatClampNeg) &&& (v))) (upd Y ri.toNatClampNeg (Y si.toNatClampNeg)) (ub G ri.toNatClampNeg (G si.toNatClampNeg))) H := hP
      have hD : va_D A9 (xW cI cZ q (upd A ri.toNatClampNeg (A si.toNatClampNeg)) (upd B ri.toNatClampNeg (B si.toNatClampNeg)) (upd T ri.toNatClampNeg (T si.toNatClampNeg)) (upd (upd P ri.toNatClampNeg (P si.toNatClampNeg)) ri.toNatClampNeg ((P si.toNatClampNeg) &&& (v))) (upd Y ri.toNatClampNeg (Y si.toNatClampNeg)) (ub G ri.toNatClampNeg (G si.toNatClampNeg))) := hD
      refine lv_aload_n hx hb dX_restrict_58 rfl (lv_at hl 2 rfl) ?_
      refine va_get (D := D) (ci := 0) (v := .ref (q 6)) (C := RX) (T := TX) (N := 6) hx hb hts inX hown hK hP 0 rfl rfl 5 (by decide) (hts _ w_34) (fun _ h9 => h9) rfl dX_restrict_59 ?_
      refine lv_iload_n hx hb dX_restrict_62 rfl (lv_at hl 3 rfl) ?_
      refine lv_aload_n hx hb dX_restrict_63 rfl (lv_at hl 2 rfl) ?_
      refine va_get (D := D) (ci := 0) (v := .ref (q 6)) (C := RX) (T := TX) (N := 6) hx hb hts inX hown hK hP 0 rfl rfl 5 (by decide) (hts _ w_34) (fun _ h9 => h9) rfl dX_restrict_64 ?_
      refine lv_iload_n hx hb dX_restrict_67 rfl (lv_at hl 3 rfl) ?_
      refine va_zald hx hb hK hP 6 1 rfl rfl hri dX_restrict_68 ?_
      refine W.eq (g2 := F0 m 69 ls [.int (bi (G si.toNatClampNeg)), .int (ri), .ref (q 6)]) (by first | rfl | (rw [ub_s] <;> rfl)) ?_
      refine lv_if_eq (tgt := 81) hx hb dX_restrict_69 (by decide) (fun h_5 => ?_) (fun h_5 => ?_)
      · have h_5 := bi_0 h_5
        refine lv_iconst (v := 0) hx hb dX_restrict_81 (by decide) ?_
        refine W.eq (g2 := F0 m 82 ls [.int (bi false), .int (ri), .ref (q 6)]) rfl ?_
        refine va_zast hx hb hK hP hD hS 6 1 rfl rfl hri dX_restrict_82 (fun H locs hP hD hS => ?_)
        have hP : va_P D vwCl (xW cI cZ q (upd A ri.toNatClampNeg (A si.toNatClampNeg)) (upd B ri.toNatClampNeg (B si.toNatClampNeg)) (upd T ri.toNatClampNeg (T si.toNatClampNeg)) (upd (upd P ri.toNatClampNeg (P si.toNatClampNeg)) ri.toNatClampNeg ((P si.toNatClampNeg) &&& (v))) (upd Y ri.toNatClampNeg (Y si.toNatClampNeg)) (ub (ub G ri.toNatClampNeg (G si.toNatClampNeg)) ri.toNatClampNeg (false))) H := by rw [ub_upd] at hP; exact hP
        have hD : va_D A9 (xW cI cZ q (upd A ri.toNatClampNeg (A si.toNatClampNeg)) (upd B ri.toNatClampNeg (B si.toNatClampNeg)) (upd T ri.toNatClampNeg (T si.toNatClampNeg)) (upd (upd P ri.toNatClampNeg (P si.toNatClampNeg)) ri.toNatClampNeg ((P si.toNatClampNeg) &&& (v))) (upd Y ri.toNatClampNeg (Y si.toNatClampNeg)) (ub (ub G ri.toNatClampNeg (G si.toNatClampNeg)) ri.toNatClampNeg (false))) := by rw [ub_upd] at hD; exact hD
        refine lv_aload_n hx hb dX_restrict_83 rfl (lv_at hl 2 rfl) ?_
        refine va_get (D := D) (ci := 0) (v := .ref (q 6)) (C := RX) (T := TX) (N := 6) hx hb hts inX hown hK hP 0 rfl rfl 5 (by decide) (hts _ w_34) (fun _ h9 => h9) rfl dX_restrict_84 ?_
        refine lv_iload_n hx hb dX_restrict_87 rfl (lv_at hl 3 rfl) ?_
        refine va_zald hx hb hK hP 6 1 rfl rfl hri dX_restrict_88 ?_
        refine W.eq (g2 := F0 m 89 ls [.int (bi (false))]) (by first | rfl | (rw [ub_s] <;> rfl)) ?_
        have e9_0 : (G si.toNatClampNeg && (decide (Y si.toNatClampNeg = 0) || decide ((P si.toNatClampNeg) &&& (v) = P si.toNatClampNeg))) = false := by (try simp only [decide_eq_true_eq, decide_eq_false_iff_not, Decidable.not_not] at h_1); (try simp only [decide_eq_true_eq, decide_eq_false_iff_not, Decidable.not_not] at h_4); (try simp only [decide_eq_true_eq, decide_eq_false_iff_not, Decidable.not_not] at h_5); simp [h_1, h_4, h_5]
        have hP : va_P D vwCl (xW cI cZ q (upd A ri.toNatClampNeg (A si.toNatClampNeg)) (upd B ri.toNatClampNeg (B si.toNatClampNeg)) (upd T ri.toNatClampNeg (T si.toNatClampNeg)) (upd P ri.toNatClampNeg ((P si.toNatClampNeg) &&& (v))) (upd Y ri.toNatClampNeg (Y si.toNatClampNeg)) (ub G ri.toNatClampNeg ((G si.toNatClampNeg && (decide (Y si.toNatClampNeg = 0) || decide ((P si.toNatClampNeg) &&& (v) = P si.toNatClampNeg)))))) H := by (try rw [e9_0]); first | exact hP | (simp only [uu_upd, uu_ub] at hP ⊢; exact hP)
        have hD : va_D A9 (xW cI cZ q (upd A ri.toNatClampNeg (A si.toNatClampNeg)) (upd B ri.toNatClampNeg (B si.toNatClampNeg)) (upd T ri.toNatClampNeg (T si.toNatClampNeg)) (upd P ri.toNatClampNeg ((P si.toNatClampNeg) &&& (v))) (upd Y ri.toNatClampNeg (Y si.toNatClampNeg)) (ub G ri.toNatClampNeg ((G si.toNatClampNeg && (decide (Y si.toNatClampNeg = 0) || decide ((P si.toNatClampNeg) &&& (v) = P si.toNatClampNeg)))))) := by (try rw [e9_0]); first | exact hD | (simp only [uu_upd, uu_ub] at hD ⊢; exact hD)
        refine W.eq (g2 := F0 m 89 ls [.int (bi (G si.toNatClampNeg && (decide (Y si.toNatClampNeg = 0) || decide ((P si.toNatClampNeg) &&& (v) = P si.toNatClampNeg))))]) (by first | rfl | (rw [e9_0] <;> rfl)) ?_
        exact W.zret (v := bi (G si.toNatClampNeg && (decide (Y si.toNatClampNeg = 0) || decide ((P si.toNatClampNeg) &&& (v) = P si.toNatClampNeg)))) hx hb hr (bi_nar _) (fun t9 ht hW => ⟨rfl, by rw [ht]; exact hP, hD, hS.F ht⟩) hS.2.2 dX_restrict_89
      · have h_5 := bi_n h_5
        refine lv_iload hx hb dX_restrict_72 (lv_at hl 0 rfl) ?_
        refine lv_if_eq (tgt := 81) hx hb dX_restrict_74 (by decide) (fun h_6 => ?_) (fun h_6 => absurd (by decide) h_6)
        refine lv_iconst (v := 0) hx hb dX_restrict_81 (by decide) ?_
        refine W.eq (g2 := F0 m 82 ls [.int (bi false), .int (ri), .ref (q 6)]) rfl ?_
        refine va_zast hx hb hK hP hD hS 6 1 rfl rfl hri dX_restrict_82 (fun H locs hP hD hS => ?_)
        have hP : va_P D vwCl (xW cI cZ q (upd A ri.toNatClampNeg (A si.toNatClampNeg)) (upd B ri.toNatClampNeg (B si.toNatClampNeg)) (upd T ri.toNatClampNeg (T si.toNatClampNeg)) (upd (upd P ri.toNatClampNeg (P si.toNatClampNeg)) ri.toNatClampNeg ((P si.toNatClampNeg) &&& (v))) (upd Y ri.toNatClampNeg (Y si.toNatClampNeg)) (ub (ub G ri.toNatClampNeg (G si.toNatClampNeg)) ri.toNatClampNeg (false))) H := by rw [ub_upd] at hP; exact hP
        have hD : va_D A9 (xW cI cZ q (upd A ri.toNatClampNeg (A si.toNatClampNeg)) (upd B ri.toNatClampNeg (B si.toNatClampNeg)) (upd T ri.toNatClampNeg (T si.toNatClampNeg)) (upd (upd P ri.toNatClampNeg (P si.toNatClampNeg)) ri.toNatClampNeg ((P si.toNatClampNeg) &&& (v))) (upd Y ri.toNatClampNeg (Y si.toNatClampNeg)) (ub (ub G ri.toNatClampNeg (G si.toNatClampNeg)) ri.toNatClampNeg (false))) := by rw [ub_upd] at hD; exact hD
        refine lv_aload_n hx hb dX_restrict_83 rfl (lv_at hl 2 rfl) ?_
        refine va_get (D := D) (ci := 0) (v := .ref (q 6)) (C := RX) (T := TX) (N := 6) hx hb hts inX hown hK hP 0 rfl rfl 5 (by decide) (hts _ w_34) (fun _ h9 => h9) rfl dX_restrict_84 ?_
        refine lv_iload_n hx hb dX_restrict_87 rfl (lv_at hl 3 rfl) ?_
        refine va_zald hx hb hK hP 6 1 rfl rfl hri dX_restrict_88 ?_
        refine W.eq (g2 := F0 m 89 ls [.int (bi (false))]) (by first | rfl | (rw [ub_s] <;> rfl)) ?_
        have e9_0 : (G si.toNatClampNeg && (decide (Y si.toNatClampNeg = 0) || decide ((P si.toNatClampNeg) &&& (v) = P si.toNatClampNeg))) = false := by (try simp only [decide_eq_true_eq, decide_eq_false_iff_not, Decidable.not_not] at h_1); (try simp only [decide_eq_true_eq, decide_eq_false_iff_not, Decidable.not_not] at h_4); (try simp only [decide_eq_true_eq, decide_eq_false_iff_not, Decidable.not_not] at h_5); simp [h_1, h_4, h_5]
        have hP : va_P D vwCl (xW cI cZ q (upd A ri.toNatClampNeg (A si.toNatClampNeg)) (upd B ri.toNatClampNeg (B si.toNatClampNeg)) (upd T ri.toNatClampNeg (T si.toNatClampNeg)) (upd P ri.toNatClampNeg ((P si.toNatClampNeg) &&& (v))) (upd Y ri.toNatClampNeg (Y si.toNatClampNeg)) (ub G ri.toNatClampNeg ((G si.toNatClampNeg && (decide (Y si.toNatClampNeg = 0) || decide ((P si.toNatClampNeg) &&& (v) = P si.toNatClampNeg)))))) H := by (try rw [e9_0]); first | exact hP | (simp only [uu_upd, uu_ub] at hP ⊢; exact hP)
        have hD : va_D A9 (xW cI cZ q (upd A ri.toNatClampNeg (A si.toNatClampNeg)) (upd B ri.toNatClampNeg (B si.toNatClampNeg)) (upd T ri.toNatClampNeg (T si.toNatClampNeg)) (upd P ri.toNatClampNeg ((P si.toNatClampNeg) &&& (v))) (upd Y ri.toNatClampNeg (Y si.toNatClampNeg)) (ub G ri.toNatClampNeg ((G si.toNatClampNeg && (decide (Y si.toNatClampNeg = 0) || decide ((P si.toNatClampNeg) &&& (v) = P si.toNatClampNeg)))))) := by (try rw [e9_0]); first | exact hD | (simp only [uu_upd, uu_ub] at hD ⊢; exact hD)
        refine W.eq (g2 := F0 m 89 ls [.int (bi (G si.toNatClampNeg && (decide (Y si.toNatClampNeg = 0) || decide ((P si.toNatClampNeg) &&& (v) = P si.toNatClampNeg))))]) (by first | rfl | (rw [e9_0] <;> rfl)) ?_
        exact W.zret (v := bi (G si.toNatClampNeg && (decide (Y si.toNatClampNeg = 0) || decide ((P si.toNatClampNeg) &&& (v) = P si.toNatClampNeg)))) hx hb hr (bi_nar _) (fun t9 ht hW => ⟨rfl, by rw [ht]; exact hP, hD, hS.F ht⟩) hS.2.2 dX_restrict_89
    · 
      refine lv_iconst (v := 1) hx hb dX_restrict_37 (by decide) ?_
      refine lv_goto (tgt := 42) hx hb dX_restrict_38 (by decide) ?_
      refine lv_istore hx hb dX_restrict_42 hl (by decide) rfl (fun ls hl => ?_)
      have hl : lv_has ls 6 [(5, .int (1)), (4, .int ((P si.toNatClampNeg) &&& (v))), (0, .ref (q 0)), (1, .int (ri)), (2, .int (si)), (3, .int (v))] := hl
      refine lv_aload_n hx hb dX_restrict_44 rfl (lv_at hl 2 rfl) ?_
      refine lv_iload_n hx hb dX_restrict_45 rfl (lv_at hl 3 rfl) ?_
      refine lv_iload_n hx hb dX_restrict_46 rfl (lv_at hl 4 rfl) ?_
      refine kw_V 2 [0, 1, 2, 3, 4, 5, 6] [] (b := q 0) (As := [.int (ri), .int (si)]) (rest := []) (wc := xW cI cZ q A B T P Y G) (wr := []) (w1 := xW cI cZ q (upd A ri.toNatClampNeg (A si.toNatClampNeg)) (upd B ri.toNatClampNeg (B si.toNatClampNeg)) (upd T ri.toNatClampNeg (T si.toNatClampNeg)) (upd P ri.toNatClampNeg (P si.toNatClampNeg)) (upd Y ri.toNatClampNeg (Y si.toNatClampNeg)) (ub G ri.toNatClampNeg (G si.toNatClampNeg))) hx hb hml hown hts hl.1 hP hD hS hA hK (mX_copy l D cI cZ q A B T P Y G _ ri si hri hsi) (gw_V w_184 w_186 w_5 w_14 w_187) (by decide) ⟨rfl, rfl⟩ ⟨Nat.le_of_ble_eq_true rfl, Nat.le_of_ble_eq_true rfl⟩ (va_recv hK hP (ci := 0) rfl (q0 := 0) rfl) rfl rfl (Nat.le_of_ble_eq_true rfl) dX_restrict_47 ⟨Nat.zero_le _, Nat.zero_le _⟩ rfl rfl ⟨by decide, by decide⟩ (by decide) (fun H locs hP hD hS => ?_)
      have hP : va_P D vwCl (xW cI cZ q (upd A ri.toNatClampNeg (A si.toNatClampNeg)) (upd B ri.toNatClampNeg (B si.toNatClampNeg)) (upd T ri.toNatClampNeg (T si.toNatClampNeg)) (upd P ri.toNatClampNeg (P si.toNatClampNeg)) (upd Y ri.toNatClampNeg (Y si.toNatClampNeg)) (ub G ri.toNatClampNeg (G si.toNatClampNeg))) H := hP
      have hD : va_D A9 (xW cI cZ q (upd A ri.toNatClampNeg (A si.toNatClampNeg)) (upd B ri.toNatClampNeg (B si.toNatClampNeg)) (upd T ri.toNatClampNeg (T si.toNatClampNeg)) (upd P ri.toNatClampNeg (P si.toNatClampNeg)) (upd Y ri.toNatClampNeg (Y si.toNatClampNeg)) (ub G ri.toNatClampNeg (G si.toNatClampNeg))) := hD
      refine W.eq (g2 := F0 m 50 ls []) rfl ?_
      refine lv_aload_n hx hb dX_restrict_50 rfl (lv_at hl 2 rfl) ?_
      refine va_get (D := D) (ci := 0) (v := .ref (q 4)) (C := RX) (T := TX) (N := 6) hx hb hts inX hown hK hP 0 rfl rfl 3 (by decide) (hts _ w_32) (fun _ h9 => h9) rfl dX_restrict_51 ?_
      refine lv_iload_n hx hb dX_restrict_54 rfl (lv_at hl 3 rfl) ?_
      refine lv_iload hx hb dX_restrict_55 (lv_at hl 1 rfl) ?_
      refine va_iast hx hb hK hP hD hS 4 0 rfl rfl hri dX_restrict_57 (fun H locs hP hD hS => ?_)
      have hP : va_P D vwCl (xW cI cZ q (upd A ri.toNatClampNeg (A si.toNatClampNeg)) (upd B ri.toNatClampNeg (B si.toNatClampNeg)) (upd T ri.toNatClampNeg (T si.toNatClampNeg)) (upd (upd P ri.toNatClampNeg (P si.toNatClampNeg)) ri.toNatClampNeg ((P si.toNatClampNeg) &&& (v))) (upd Y ri.toNatClampNeg (Y si.toNatClampNeg)) (ub G ri.toNatClampNeg (G si.toNatClampNeg))) H := hP
      have hD : va_D A9 (xW cI cZ q (upd A ri.toNatClampNeg (A si.toNatClampNeg)) (upd B ri.toNatClampNeg (B si.toNatClampNeg)) (upd T ri.toNatClampNeg (T si.toNatClampNeg)) (upd (upd P ri.toNatClampNeg (P si.toNatClampNeg)) ri.toNatClampNeg ((P si.toNatClampNeg) &&& (v))) (upd Y ri.toNatClampNeg (Y si.toNatClampNeg)) (ub G ri.toNatClampNeg (G si.toNatClampNeg))) := hD
      refine lv_aload_n hx hb dX_restrict_58 rfl (lv_at hl 2 rfl) ?_
      refine va_get (D := D) (ci := 0) (v := .ref (q 6)) (C := RX) (T := TX) (N := 6) hx hb hts inX hown hK hP 0 rfl rfl 5 (by decide) (hts _ w_34) (fun _ h9 => h9) rfl dX_restrict_59 ?_
      refine lv_iload_n hx hb dX_restrict_62 rfl (lv_at hl 3 rfl) ?_
      refine lv_aload_n hx hb dX_restrict_63 rfl (lv_at hl 2 rfl) ?_
      refine va_get (D := D) (ci := 0) (v := .ref (q 6)) (C := RX) (T := TX) (N := 6) hx hb hts inX hown hK hP 0 rfl rfl 5 (by decide) (hts _ w_34) (fun _ h9 => h9) rfl dX_restrict_64 ?_
      refine lv_iload_n hx hb dX_restrict_67 rfl (lv_at hl 3 rfl) ?_
      refine va_zald hx hb hK hP 6 1 rfl rfl hri dX_restrict_68 ?_
      refine W.eq (g2 := F0 m 69 ls [.int (bi (G si.toNatClampNeg)), .int (ri), .ref (q 6)]) (by first | rfl | (rw [ub_s] <;> rfl)) ?_
      refine lv_if_eq (tgt := 81) hx hb dX_restrict_69 (by decide) (fun h_7 => ?_) (fun h_7 => ?_)
      · have h_7 := bi_0 h_7
        refine lv_iconst (v := 0) hx hb dX_restrict_81 (by decide) ?_
        refine W.eq (g2 := F0 m 82 ls [.int (bi false), .int (ri), .ref (q 6)]) rfl ?_
        refine va_zast hx hb hK hP hD hS 6 1 rfl rfl hri dX_restrict_82 (fun H locs hP hD hS => ?_)
        have hP : va_P D vwCl (xW cI cZ q (upd A ri.toNatClampNeg (A si.toNatClampNeg)) (upd B ri.toNatClampNeg (B si.toNatClampNeg)) (upd T ri.toNatClampNeg (T si.toNatClampNeg)) (upd (upd P ri.toNatClampNeg (P si.toNatClampNeg)) ri.toNatClampNeg ((P si.toNatClampNeg) &&& (v))) (upd Y ri.toNatClampNeg (Y si.toNatClampNeg)) (ub (ub G ri.toNatClampNeg (G si.toNatClampNeg)) ri.toNatClampNeg (false))) H := by rw [ub_upd] at hP; exact hP
        have hD : va_D A9 (xW cI cZ q (upd A ri.toNatClampNeg (A si.toNatClampNeg)) (upd B ri.toNatClampNeg (B si.toNatClampNeg)) (upd T ri.toNatClampNeg (T si.toNatClampNeg)) (upd (upd P ri.toNatClampNeg (P si.toNatClampNeg)) ri.toNatClampNeg ((P si.toNatClampNeg) &&& (v))) (upd Y ri.toNatClampNeg (Y si.toNatClampNeg)) (ub (ub G ri.toNatClampNeg (G si.toNatClampNeg)) ri.toNatClampNeg (false))) := by rw [ub_upd] at hD; exact hD
        refine lv_aload_n hx hb dX_restrict_83 rfl (lv_at hl 2 rfl) ?_
        refine va_get (D := D) (ci := 0) (v := .ref (q 6)) (C := RX) (T := TX) (N := 6) hx hb hts inX hown hK hP 0 rfl rfl 5 (by decide) (hts _ w_34) (fun _ h9 => h9) rfl dX_restrict_84 ?_
        refine lv_iload_n hx hb dX_restrict_87 rfl (lv_at hl 3 rfl) ?_
        refine va_zald hx hb hK hP 6 1 rfl rfl hri dX_restrict_88 ?_
        refine W.eq (g2 := F0 m 89 ls [.int (bi (false))]) (by first | rfl | (rw [ub_s] <;> rfl)) ?_
        have e9_0 : (G si.toNatClampNeg && (decide (Y si.toNatClampNeg = 0) || decide ((P si.toNatClampNeg) &&& (v) = P si.toNatClampNeg))) = false := by (try simp only [decide_eq_true_eq, decide_eq_false_iff_not, Decidable.not_not] at h_1); (try simp only [decide_eq_true_eq, decide_eq_false_iff_not, Decidable.not_not] at h_4); (try simp only [decide_eq_true_eq, decide_eq_false_iff_not, Decidable.not_not] at h_7); simp [h_1, h_4, h_7]
        have hP : va_P D vwCl (xW cI cZ q (upd A ri.toNatClampNeg (A si.toNatClampNeg)) (upd B ri.toNatClampNeg (B si.toNatClampNeg)) (upd T ri.toNatClampNeg (T si.toNatClampNeg)) (upd P ri.toNatClampNeg ((P si.toNatClampNeg) &&& (v))) (upd Y ri.toNatClampNeg (Y si.toNatClampNeg)) (ub G ri.toNatClampNeg ((G si.toNatClampNeg && (decide (Y si.toNatClampNeg = 0) || decide ((P si.toNatClampNeg) &&& (v) = P si.toNatClampNeg)))))) H := by (try rw [e9_0]); first | exact hP | (simp only [uu_upd, uu_ub] at hP ⊢; exact hP)
        have hD : va_D A9 (xW cI cZ q (upd A ri.toNatClampNeg (A si.toNatClampNeg)) (upd B ri.toNatClampNeg (B si.toNatClampNeg)) (upd T ri.toNatClampNeg (T si.toNatClampNeg)) (upd P ri.toNatClampNeg ((P si.toNatClampNeg) &&& (v))) (upd Y ri.toNatClampNeg (Y si.toNatClampNeg)) (ub G ri.toNatClampNeg ((G si.toNatClampNeg && (decide (Y si.toNatClampNeg = 0) || decide ((P si.toNatClampNeg) &&& (v) = P si.toNatClampNeg)))))) := by (try rw [e9_0]); first | exact hD | (simp only [uu_upd, uu_ub] at hD ⊢; exact hD)
        refine W.eq (g2 := F0 m 89 ls [.int (bi (G si.toNatClampNeg && (decide (Y si.toNatClampNeg = 0) || decide ((P si.toNatClampNeg) &&& (v) = P si.toNatClampNeg))))]) (by first | rfl | (rw [e9_0] <;> rfl)) ?_
        exact W.zret (v := bi (G si.toNatClampNeg && (decide (Y si.toNatClampNeg = 0) || decide ((P si.toNatClampNeg) &&& (v) = P si.toNatClampNeg)))) hx hb hr (bi_nar _) (fun t9 ht hW => ⟨rfl, by rw [ht]; exact hP, hD, hS.F ht⟩) hS.2.2 dX_restrict_89
      · have h_7 := bi_n h_7
        refine lv_iload hx hb dX_restrict_72 (lv_at hl 0 rfl) ?_
        refine lv_if_eq (tgt := 81) hx hb dX_restrict_74 (by decide) (fun h_8 => absurd h_8 (by decide)) (fun h_8 => ?_)
        refine lv_iconst (v := 1) hx hb dX_restrict_77 (by decide) ?_
        refine lv_goto (tgt := 82) hx hb dX_restrict_78 (by decide) ?_
        refine W.eq (g2 := F0 m 82 ls [.int (bi true), .int (ri), .ref (q 6)]) rfl ?_
        refine va_zast hx hb hK hP hD hS 6 1 rfl rfl hri dX_restrict_82 (fun H locs hP hD hS => ?_)
        have hP : va_P D vwCl (xW cI cZ q (upd A ri.toNatClampNeg (A si.toNatClampNeg)) (upd B ri.toNatClampNeg (B si.toNatClampNeg)) (upd T ri.toNatClampNeg (T si.toNatClampNeg)) (upd (upd P ri.toNatClampNeg (P si.toNatClampNeg)) ri.toNatClampNeg ((P si.toNatClampNeg) &&& (v))) (upd Y ri.toNatClampNeg (Y si.toNatClampNeg)) (ub (ub G ri.toNatClampNeg (G si.toNatClampNeg)) ri.toNatClampNeg (true))) H := by rw [ub_upd] at hP; exact hP
        have hD : va_D A9 (xW cI cZ q (upd A ri.toNatClampNeg (A si.toNatClampNeg)) (upd B ri.toNatClampNeg (B si.toNatClampNeg)) (upd T ri.toNatClampNeg (T si.toNatClampNeg)) (upd (upd P ri.toNatClampNeg (P si.toNatClampNeg)) ri.toNatClampNeg ((P si.toNatClampNeg) &&& (v))) (upd Y ri.toNatClampNeg (Y si.toNatClampNeg)) (ub (ub G ri.toNatClampNeg (G si.toNatClampNeg)) ri.toNatClampNeg (true))) := by rw [ub_upd] at hD; exact hD
        refine lv_aload_n hx hb dX_restrict_83 rfl (lv_at hl 2 rfl) ?_
        refine va_get (D := D) (ci := 0) (v := .ref (q 6)) (C := RX) (T := TX) (N := 6) hx hb hts inX hown hK hP 0 rfl rfl 5 (by decide) (hts _ w_34) (fun _ h9 => h9) rfl dX_restrict_84 ?_
        refine lv_iload_n hx hb dX_restrict_87 rfl (lv_at hl 3 rfl) ?_
        refine va_zald hx hb hK hP 6 1 rfl rfl hri dX_restrict_88 ?_
        refine W.eq (g2 := F0 m 89 ls [.int (bi (true))]) (by first | rfl | (rw [ub_s] <;> rfl)) ?_
        have e9_0 : (G si.toNatClampNeg && (decide (Y si.toNatClampNeg = 0) || decide ((P si.toNatClampNeg) &&& (v) = P si.toNatClampNeg))) = true := by (try simp only [decide_eq_true_eq, decide_eq_false_iff_not, Decidable.not_not] at h_1); (try simp only [decide_eq_true_eq, decide_eq_false_iff_not, Decidable.not_not] at h_4); (try simp only [decide_eq_true_eq, decide_eq_false_iff_not, Decidable.not_not] at h_7); simp [h_1, h_4, h_7]
        have hP : va_P D vwCl (xW cI cZ q (upd A ri.toNatClampNeg (A si.toNatClampNeg)) (upd B ri.toNatClampNeg (B si.toNatClampNeg)) (upd T ri.toNatClampNeg (T si.toNatClampNeg)) (upd P ri.toNatClampNeg ((P si.toNatClampNeg) &&& (v))) (upd Y ri.toNatClampNeg (Y si.toNatClampNeg)) (ub G ri.toNatClampNeg ((G si.toNatClampNeg && (decide (Y si.toNatClampNeg = 0) || decide ((P si.toNatClampNeg) &&& (v) = P si.toNatClampNeg)))))) H := by (try rw [e9_0]); first | exact hP | (simp only [uu_upd, uu_ub] at hP ⊢; exact hP)
        have hD : va_D A9 (xW cI cZ q (upd A ri.toNatClampNeg (A si.toNatClampNeg)) (upd B ri.toNatClampNeg (B si.toNatClampNeg)) (upd T ri.toNatClampNeg (T si.toNatClampNeg)) (upd P ri.toNatClampNeg ((P si.toNatClampNeg) &&& (v))) (upd Y ri.toNatClampNeg (Y si.toNatClampNeg)) (ub G ri.toNatClampNeg ((G si.toNatClampNeg && (decide (Y si.toNatClampNeg = 0) || decide ((P si.toNatClampNeg) &&& (v) = P si.toNatClampNeg)))))) := by (try rw [e9_0]); first | exact hD | (simp only [uu_upd, uu_ub] at hD ⊢; exact hD)
        refine W.eq (g2 := F0 m 89 ls [.int (bi (G si.toNatClampNeg && (decide (Y si.toNatClampNeg = 0) || decide ((P si.toNatClampNeg) &&& (v) = P si.toNatClampNeg))))]) (by first | rfl | (rw [e9_0] <;> rfl)) ?_
        exact W.zret (v := bi (G si.toNatClampNeg && (decide (Y si.toNatClampNeg = 0) || decide ((P si.toNatClampNeg) &&& (v) = P si.toNatClampNeg)))) hx hb hr (bi_nar _) (fun t9 ht hW => ⟨rfl, by rw [ht]; exact hP, hD, hS.F ht⟩) hS.2.2 dX_restrict_89

set_option maxRecDepth 100000 in
set_option maxHeartbeats 4000000 in
theorem mX_seal_y (l : Launch) (D : va_G) (cI cZ : ClassId) (q : Nat → Nat) (A B T P Y : Nat → Int32) (G : Nat → Bool) (sz : Nat) (ri si ti : Int32) (hri : vp_in ri 16) (hsi : vp_in si 16) (hti : vp_in ti 16) (h0 : ga_seal A B T P Y G si.toNatClampNeg ti.toNatClampNeg = 0) : Met l yX_seal (Cond.code yX_seal cX_seal 6 (some .int) :: gw) (rmk 4 0 0) (va_Pc [.ref (q 0), .int (ri), .int (si), .int (ti)] (kB D vwCl (xW cI cZ q A B T P Y G) (tsX cI cZ) sz)) (kQ (some (.int (0))) D vwCl (xW cI cZ q (upd A ri.toNatClampNeg (A si.toNatClampNeg)) (upd B ri.toNatClampNeg (B si.toNatClampNeg)) (upd T ri.toNatClampNeg (T si.toNatClampNeg)) (upd P ri.toNatClampNeg (P si.toNatClampNeg)) (upd Y ri.toNatClampNeg (A ti.toNatClampNeg)) (ub G ri.toNatClampNeg (G si.toNatClampNeg))) (va_A (xW cI cZ q A B T P Y G) sz)) 0 0 (va_A (xW cI cZ q A B T P Y G) sz) := by
  refine Met.ofW (cc := cX_seal) (maxL := 6) (ret := (some .int)) (by decide) rfl ?_
  intro p e s m args below meth c s₁ B9 hml hv
  obtain ⟨rfl, hsz, hP, hK, hD0⟩ := hv
  have hx := B9.exec
  have hb := B9.bytes
  have hr := B9.returns
  have hts := fun (w : Cond) (h : w ∈ gw) => atoms_spec (ws := _ :: gw) B9.pre w (List.mem_cons_of_mem _ h)
  have hown : s.vm.findClass RX = some m.cls := findClass_of_methodNamed B9.named
  have hlocks := B9.notSynchronized
  have hl := lv_entry ([.ref (q 0), .int (ri), .int (si), .int (ti)]) (n := 6) (Nat.le_of_ble_eq_true rfl)
  rw [lg_entry_eq]
  generalize (lg_sl ([.ref (q 0), .int (ri), .int (si), .int (ti)]) ++ List.replicate (6 - (lg_sl ([.ref (q 0), .int (ri), .int (si), .int (ti)])).length) Slot.unset).toArray = ls at hl ⊢
  have hl : lv_has ls 6 [(0, .ref (q 0)), (1, .int (ri)), (2, .int (si)), (3, .int (ti))] := hl
  subst hsz
  have hD := hD0.self (sz := s.heap.size)
  generalize hAe : va_A (xW cI cZ q A B T P Y G) s.heap.size = A9 at hD ⊢
  have hA : ∀ z : Nat, s.heap.size ≤ z → A9 z := fun z h => by rw [← hAe]; exact Or.inr h
  have hS : va_S A9 s.heap s.heap [] := va_S.rf
  have hP : va_P D vwCl (xW cI cZ q A B T P Y G) s.heap := hP
  refine lv_iload_n hx hb dX_seal_0 rfl (lv_at hl 1 rfl) ?_
  refine kr_Sv 1 (As := [.int (ri)]) (rest := []) hx hb hml hown hts hl.1 (mX_requireGrant l (ri) hri) tt_stb trivial (gw_S w_151 w_152 w_14 w_153) (by decide) ⟨rfl, rfl⟩ ⟨Nat.le_of_ble_eq_true rfl, Nat.le_of_ble_eq_true rfl⟩ rfl rfl (Nat.le_of_ble_eq_true rfl) dX_seal_1 ⟨Nat.zero_le _, Nat.zero_le _⟩ ?_
  refine lv_iload_n hx hb dX_seal_4 rfl (lv_at hl 2 rfl) ?_
  refine kr_Sv 1 (As := [.int (si)]) (rest := []) hx hb hml hown hts hl.1 (mX_requireGrant l (si) hsi) tt_stb trivial (gw_S w_151 w_152 w_14 w_153) (by decide) ⟨rfl, rfl⟩ ⟨Nat.le_of_ble_eq_true rfl, Nat.le_of_ble_eq_true rfl⟩ rfl rfl (Nat.le_of_ble_eq_true rfl) dX_seal_5 ⟨Nat.zero_le _, Nat.zero_le _⟩ ?_
  refine lv_iload_n hx hb dX_seal_8 rfl (lv_at hl 3 rfl) ?_
  refine kr_Sv 1 (As := [.int (ti)]) (rest := []) hx hb hml hown hts hl.1 (mX_requireGrant l (ti) hti) tt_stb trivial (gw_S w_151 w_152 w_14 w_153) (by decide) ⟨rfl, rfl⟩ ⟨Nat.le_of_ble_eq_true rfl, Nat.le_of_ble_eq_true rfl⟩ rfl rfl (Nat.le_of_ble_eq_true rfl) dX_seal_9 ⟨Nat.zero_le _, Nat.zero_le _⟩ ?_
  refine lv_aload_n hx hb dX_seal_12 rfl (lv_at hl 0 rfl) ?_
  refine lv_iload_n hx hb dX_seal_13 rfl (lv_at hl 2 rfl) ?_
  refine lv_iload_n hx hb dX_seal_14 rfl (lv_at hl 3 rfl) ?_
  refine kr_V 2 (b := q 0) (As := [.int (si), .int (ti)]) (rest := []) (r := .int (ga_seal A B T P Y G si.toNatClampNeg ti.toNatClampNeg)) hx hb hml hown hts hl.1 (mX_sealingCause l D cI cZ q A B T P Y G si ti hsi hti) rB_stb ⟨hP, hK⟩ (gw_V w_209 w_211 w_6 w_14 w_212) (by decide) ⟨rfl, rfl⟩ ⟨Nat.le_of_ble_eq_true rfl, Nat.le_of_ble_eq_true rfl⟩ (va_recv hK hP (ci := 0) rfl (q0 := 0) rfl) rfl rfl (Nat.le_of_ble_eq_true rfl) dX_seal_15 ⟨Nat.zero_le _, Nat.zero_le _⟩ ?_
  refine lv_istore hx hb dX_seal_18 hl (by decide) rfl (fun ls hl => ?_)
  have hl : lv_has ls 6 [(4, .int (ga_seal A B T P Y G si.toNatClampNeg ti.toNatClampNeg)), (0, .ref (q 0)), (1, .int (ri)), (2, .int (si)), (3, .int (ti))] := hl
  refine lv_iload hx hb dX_seal_20 (lv_at hl 0 rfl) ?_
  refine lv_if_ne (tgt := 47) hx hb dX_seal_22 (by decide) (fun h_1 => absurd h0 h_1) (fun h_1 => ?_)
  refine lv_aload_n hx hb dX_seal_25 rfl (lv_at hl 1 rfl) ?_
  refine va_get (D := D) (ci := 0) (v := .ref (q 1)) (C := RX) (T := TX) (N := 6) hx hb hts inX hown hK hP 0 rfl rfl 0 (by decide) (hts _ w_29) (fun _ h9 => h9) rfl dX_seal_26 ?_
  refine lv_iload_n hx hb dX_seal_29 rfl (lv_at hl 4 rfl) ?_
  refine va_iald hx hb hK hP 1 0 rfl rfl hti dX_seal_30 ?_
  refine lv_istore hx hb dX_seal_31 hl (by decide) rfl (fun ls hl => ?_)
  have hl : lv_has ls 6 [(5, .int (A ti.toNatClampNeg)), (4, .int (ga_seal A B T P Y G si.toNatClampNeg ti.toNatClampNeg)), (0, .ref (q 0)), (1, .int (ri)), (2, .int (si)), (3, .int (ti))] := hl
  refine lv_aload_n hx hb dX_seal_33 rfl (lv_at hl 2 rfl) ?_
  refine lv_iload_n hx hb dX_seal_34 rfl (lv_at hl 3 rfl) ?_
  refine lv_iload_n hx hb dX_seal_35 rfl (lv_at hl 4 rfl) ?_
  refine kw_V 2 [0, 1, 2, 3, 4, 5, 6] [] (b := q 0) (As := [.int (ri), .int (si)]) (rest := []) (wc := xW cI cZ q A B T P Y G) (wr := []) (w1 := xW cI cZ q (upd A ri.toNatClampNeg (A si.toNatClampNeg)) (upd B ri.toNatClampNeg (B si.toNatClampNeg)) (upd T ri.toNatClampNeg (T si.toNatClampNeg)) (upd P ri.toNatClampNeg (P si.toNatClampNeg)) (upd Y ri.toNatClampNeg (Y si.toNatClampNeg)) (ub G ri.toNatClampNeg (G si.toNatClampNeg))) hx hb hml hown hts hl.1 hP hD hS hA hK (mX_copy l D cI cZ q A B T P Y G _ ri si hri hsi) (gw_V w_184 w_186 w_5 w_14 w_187) (by decide) ⟨rfl, rfl⟩ ⟨Nat.le_of_ble_eq_true rfl, Nat.le_of_ble_eq_true rfl⟩ (va_recv hK hP (ci := 0) rfl (q0 := 0) rfl) rfl rfl (Nat.le_of_ble_eq_true rfl) dX_seal_36 ⟨Nat.zero_le _, Nat.zero_le _⟩ rfl rfl ⟨by decide, by decide⟩ (by decide) (fun H locs hP hD hS => ?_)
  have hP : va_P D vwCl (xW cI cZ q (upd A ri.toNatClampNeg (A si.toNatClampNeg)) (upd B ri.toNatClampNeg (B si.toNatClampNeg)) (upd T ri.toNatClampNeg (T si.toNatClampNeg)) (upd P ri.toNatClampNeg (P si.toNatClampNeg)) (upd Y ri.toNatClampNeg (Y si.toNatClampNeg)) (ub G ri.toNatClampNeg (G si.toNatClampNeg))) H := hP
  have hD : va_D A9 (xW cI cZ q (upd A ri.toNatClampNeg (A si.toNatClampNeg)) (upd B ri.toNatClampNeg (B si.toNatClampNeg)) (upd T ri.toNatClampNeg (T si.toNatClampNeg)) (upd P ri.toNatClampNeg (P si.toNatClampNeg)) (upd Y ri.toNatClampNeg (Y si.toNatClampNeg)) (ub G ri.toNatClampNeg (G si.toNatClampNeg))) := hD
  refine W.eq (g2 := F0 m 39 ls []) rfl ?_
  refine lv_aload_n hx hb dX_seal_39 rfl (lv_at hl 2 rfl) ?_
  refine va_get (D := D) (ci := 0) (v := .ref (q 5)) (C := RX) (T := TX) (N := 6) hx hb hts inX hown hK hP 0 rfl rfl 4 (by decide) (hts _ w_33) (fun _ h9 => h9) rfl dX_seal_40 ?_
  refine lv_iload_n hx hb dX_seal_43 rfl (lv_at hl 3 rfl) ?_
  refine lv_iload hx hb dX_seal_44 (lv_at hl 0 rfl) ?_
  refine va_iast hx hb hK hP hD hS 5 0 rfl rfl hri dX_seal_46 (fun H locs hP hD hS => ?_)
  have hP : va_P D vwCl (xW cI cZ q (upd A ri.toNatClampNeg (A si.toNatClampNeg)) (upd B ri.toNatClampNeg (B si.toNatClampNeg)) (upd T ri.toNatClampNeg (T si.toNatClampNeg)) (upd P ri.toNatClampNeg (P si.toNatClampNeg)) (upd (upd Y ri.toNatClampNeg (Y si.toNatClampNeg)) ri.toNatClampNeg (A ti.toNatClampNeg)) (ub G ri.toNatClampNeg (G si.toNatClampNeg))) H := hP
  have hD : va_D A9 (xW cI cZ q (upd A ri.toNatClampNeg (A si.toNatClampNeg)) (upd B ri.toNatClampNeg (B si.toNatClampNeg)) (upd T ri.toNatClampNeg (T si.toNatClampNeg)) (upd P ri.toNatClampNeg (P si.toNatClampNeg)) (upd (upd Y ri.toNatClampNeg (Y si.toNatClampNeg)) ri.toNatClampNeg (A ti.toNatClampNeg)) (ub G ri.toNatClampNeg (G si.toNatClampNeg))) := hD
  refine lv_iload hx hb dX_seal_47 (lv_at hl 1 rfl) ?_
  have e9_0 : ga_seal A B T P Y G si.toNatClampNeg ti.toNatClampNeg = 0 := by exact h0
  have hP : va_P D vwCl (xW cI cZ q (upd A ri.toNatClampNeg (A si.toNatClampNeg)) (upd B ri.toNatClampNeg (B si.toNatClampNeg)) (upd T ri.toNatClampNeg (T si.toNatClampNeg)) (upd P ri.toNatClampNeg (P si.toNatClampNeg)) (upd Y ri.toNatClampNeg (A ti.toNatClampNeg)) (ub G ri.toNatClampNeg (G si.toNatClampNeg))) H := by (try rw [e9_0]); first | exact hP | (simp only [uu_upd, uu_ub] at hP ⊢; exact hP)
  have hD : va_D A9 (xW cI cZ q (upd A ri.toNatClampNeg (A si.toNatClampNeg)) (upd B ri.toNatClampNeg (B si.toNatClampNeg)) (upd T ri.toNatClampNeg (T si.toNatClampNeg)) (upd P ri.toNatClampNeg (P si.toNatClampNeg)) (upd Y ri.toNatClampNeg (A ti.toNatClampNeg)) (ub G ri.toNatClampNeg (G si.toNatClampNeg))) := by (try rw [e9_0]); first | exact hD | (simp only [uu_upd, uu_ub] at hD ⊢; exact hD)
  refine W.eq (g2 := F0 m 49 ls [.int (0)]) (by first | rfl | (rw [e9_0] <;> rfl)) ?_
  exact W.iret (v := 0) hx hb hr (fun t9 ht hW => ⟨rfl, by rw [ht]; exact hP, hD, hS.F ht⟩) hS.2.2 dX_seal_49

set_option maxRecDepth 100000 in
set_option maxHeartbeats 4000000 in
theorem mX_seal_n (l : Launch) (D : va_G) (cI cZ : ClassId) (q : Nat → Nat) (A B T P Y : Nat → Int32) (G : Nat → Bool) (sz : Nat) (ri si ti : Int32) (hri : vp_in ri 16) (hsi : vp_in si 16) (hti : vp_in ti 16) (h0 : ¬ ga_seal A B T P Y G si.toNatClampNeg ti.toNatClampNeg = 0) : Met l yX_seal (Cond.code yX_seal cX_seal 6 (some .int) :: gw) (rmk 4 0 0) (va_Pc [.ref (q 0), .int (ri), .int (si), .int (ti)] (kB D vwCl (xW cI cZ q A B T P Y G) (tsX cI cZ) sz)) (kQ (some (.int (ga_seal A B T P Y G si.toNatClampNeg ti.toNatClampNeg))) D vwCl (xW cI cZ q A B T P Y G) (va_A (xW cI cZ q A B T P Y G) sz)) 0 0 (va_A (xW cI cZ q A B T P Y G) sz) := by
  refine Met.ofW (cc := cX_seal) (maxL := 6) (ret := (some .int)) (by decide) rfl ?_
  intro p e s m args below meth c s₁ B9 hml hv
  obtain ⟨rfl, hsz, hP, hK, hD0⟩ := hv
  have hx := B9.exec
  have hb := B9.bytes
  have hr := B9.returns
  have hts := fun (w : Cond) (h : w ∈ gw) => atoms_spec (ws := _ :: gw) B9.pre w (List.mem_cons_of_mem _ h)
  have hown : s.vm.findClass RX = some m.cls := findClass_of_methodNamed B9.named
  have hlocks := B9.notSynchronized
  have hl := lv_entry ([.ref (q 0), .int (ri), .int (si), .int (ti)]) (n := 6) (Nat.le_of_ble_eq_true rfl)
  rw [lg_entry_eq]
  generalize (lg_sl ([.ref (q 0), .int (ri), .int (si), .int (ti)]) ++ List.replicate (6 - (lg_sl ([.ref (q 0), .int (ri), .int (si), .int (ti)])).length) Slot.unset).toArray = ls at hl ⊢
  have hl : lv_has ls 6 [(0, .ref (q 0)), (1, .int (ri)), (2, .int (si)), (3, .int (ti))] := hl
  subst hsz
  have hD := hD0.self (sz := s.heap.size)
  generalize hAe : va_A (xW cI cZ q A B T P Y G) s.heap.size = A9 at hD ⊢
  have hA : ∀ z : Nat, s.heap.size ≤ z → A9 z := fun z h => by rw [← hAe]; exact Or.inr h
  have hS : va_S A9 s.heap s.heap [] := va_S.rf
  have hP : va_P D vwCl (xW cI cZ q A B T P Y G) s.heap := hP
  refine lv_iload_n hx hb dX_seal_0 rfl (lv_at hl 1 rfl) ?_
  refine kr_Sv 1 (As := [.int (ri)]) (rest := []) hx hb hml hown hts hl.1 (mX_requireGrant l (ri) hri) tt_stb trivial (gw_S w_151 w_152 w_14 w_153) (by decide) ⟨rfl, rfl⟩ ⟨Nat.le_of_ble_eq_true rfl, Nat.le_of_ble_eq_true rfl⟩ rfl rfl (Nat.le_of_ble_eq_true rfl) dX_seal_1 ⟨Nat.zero_le _, Nat.zero_le _⟩ ?_
  refine lv_iload_n hx hb dX_seal_4 rfl (lv_at hl 2 rfl) ?_
  refine kr_Sv 1 (As := [.int (si)]) (rest := []) hx hb hml hown hts hl.1 (mX_requireGrant l (si) hsi) tt_stb trivial (gw_S w_151 w_152 w_14 w_153) (by decide) ⟨rfl, rfl⟩ ⟨Nat.le_of_ble_eq_true rfl, Nat.le_of_ble_eq_true rfl⟩ rfl rfl (Nat.le_of_ble_eq_true rfl) dX_seal_5 ⟨Nat.zero_le _, Nat.zero_le _⟩ ?_
  refine lv_iload_n hx hb dX_seal_8 rfl (lv_at hl 3 rfl) ?_
  refine kr_Sv 1 (As := [.int (ti)]) (rest := []) hx hb hml hown hts hl.1 (mX_requireGrant l (ti) hti) tt_stb trivial (gw_S w_151 w_152 w_14 w_153) (by decide) ⟨rfl, rfl⟩ ⟨Nat.le_of_ble_eq_true rfl, Nat.le_of_ble_eq_true rfl⟩ rfl rfl (Nat.le_of_ble_eq_true rfl) dX_seal_9 ⟨Nat.zero_le _, Nat.zero_le _⟩ ?_
  refine lv_aload_n hx hb dX_seal_12 rfl (lv_at hl 0 rfl) ?_
  refine lv_iload_n hx hb dX_seal_13 rfl (lv_at hl 2 rfl) ?_
  refine lv_iload_n hx hb dX_seal_14 rfl (lv_at hl 3 rfl) ?_
  refine kr_V 2 (b := q 0) (As := [.int (si), .int (ti)]) (rest := []) (r := .int (ga_seal A B T P Y G si.toNatClampNeg ti.toNatClampNeg)) hx hb hml hown hts hl.1 (mX_sealingCause l D cI cZ q A B T P Y G si ti hsi hti) rB_stb ⟨hP, hK⟩ (gw_V w_209 w_211 w_6 w_14 w_212) (by decide) ⟨rfl, rfl⟩ ⟨Nat.le_of_ble_eq_true rfl, Nat.le_of_ble_eq_true rfl⟩ (va_recv hK hP (ci := 0) rfl (q0 := 0) rfl) rfl rfl (Nat.le_of_ble_eq_true rfl) dX_seal_15 ⟨Nat.zero_le _, Nat.zero_le _⟩ ?_
  refine lv_istore hx hb dX_seal_18 hl (by decide) rfl (fun ls hl => ?_)
  have hl : lv_has ls 6 [(4, .int (ga_seal A B T P Y G si.toNatClampNeg ti.toNatClampNeg)), (0, .ref (q 0)), (1, .int (ri)), (2, .int (si)), (3, .int (ti))] := hl
  refine lv_iload hx hb dX_seal_20 (lv_at hl 0 rfl) ?_
  refine lv_if_ne (tgt := 47) hx hb dX_seal_22 (by decide) (fun h_1 => ?_) (fun h_1 => absurd h_1 h0)
  refine lv_iload hx hb dX_seal_47 (lv_at hl 0 rfl) ?_
  exact W.iret (v := ga_seal A B T P Y G si.toNatClampNeg ti.toNatClampNeg) hx hb hr (fun t9 ht hW => ⟨rfl, by rw [ht]; exact hP, hD, hS.F ht⟩) hS.2.2 dX_seal_49

set_option maxRecDepth 100000 in
set_option maxHeartbeats 4000000 in
theorem mX_unseal_y (l : Launch) (D : va_G) (cI cZ : ClassId) (q : Nat → Nat) (A B T P Y : Nat → Int32) (G : Nat → Bool) (sz : Nat) (ri si ti : Int32) (hri : vp_in ri 16) (hsi : vp_in si 16) (hti : vp_in ti 16) (h0 : ga_open A B T P Y G si.toNatClampNeg ti.toNatClampNeg = 0) : Met l yX_unseal (Cond.code yX_unseal cX_unseal 5 (some .int) :: gw) (rmk 4 0 0) (va_Pc [.ref (q 0), .int (ri), .int (si), .int (ti)] (kB D vwCl (xW cI cZ q A B T P Y G) (tsX cI cZ) sz)) (kQ (some (.int (0))) D vwCl (xW cI cZ q (upd A ri.toNatClampNeg (A si.toNatClampNeg)) (upd B ri.toNatClampNeg (B si.toNatClampNeg)) (upd T ri.toNatClampNeg (T si.toNatClampNeg)) (upd P ri.toNatClampNeg (P si.toNatClampNeg)) (upd Y ri.toNatClampNeg (0)) (ub G ri.toNatClampNeg (G si.toNatClampNeg))) (va_A (xW cI cZ q A B T P Y G) sz)) 0 0 (va_A (xW cI cZ q A B T P Y G) sz) := by
  refine Met.ofW (cc := cX_unseal) (maxL := 5) (ret := (some .int)) (by decide) rfl ?_
  intro p e s m args below meth c s₁ B9 hml hv
  obtain ⟨rfl, hsz, hP, hK, hD0⟩ := hv
  have hx := B9.exec
  have hb := B9.bytes
  have hr := B9.returns
  have hts := fun (w : Cond) (h : w ∈ gw) => atoms_spec (ws := _ :: gw) B9.pre w (List.mem_cons_of_mem _ h)
  have hown : s.vm.findClass RX = some m.cls := findClass_of_methodNamed B9.named
  have hlocks := B9.notSynchronized
  have hl := lv_entry ([.ref (q 0), .int (ri), .int (si), .int (ti)]) (n := 5) (Nat.le_of_ble_eq_true rfl)
  rw [lg_entry_eq]
  generalize (lg_sl ([.ref (q 0), .int (ri), .int (si), .int (ti)]) ++ List.replicate (5 - (lg_sl ([.ref (q 0), .int (ri), .int (si), .int (ti)])).length) Slot.unset).toArray = ls at hl ⊢
  have hl : lv_has ls 5 [(0, .ref (q 0)), (1, .int (ri)), (2, .int (si)), (3, .int (ti))] := hl
  subst hsz
  have hD := hD0.self (sz := s.heap.size)
  generalize hAe : va_A (xW cI cZ q A B T P Y G) s.heap.size = A9 at hD ⊢
  have hA : ∀ z : Nat, s.heap.size ≤ z → A9 z := fun z h => by rw [← hAe]; exact Or.inr h
  have hS : va_S A9 s.heap s.heap [] := va_S.rf
  have hP : va_P D vwCl (xW cI cZ q A B T P Y G) s.heap := hP
  refine lv_iload_n hx hb dX_unseal_0 rfl (lv_at hl 1 rfl) ?_
  refine kr_Sv 1 (As := [.int (ri)]) (rest := []) hx hb hml hown hts hl.1 (mX_requireGrant l (ri) hri) tt_stb trivial (gw_S w_151 w_152 w_14 w_153) (by decide) ⟨rfl, rfl⟩ ⟨Nat.le_of_ble_eq_true rfl, Nat.le_of_ble_eq_true rfl⟩ rfl rfl (Nat.le_of_ble_eq_true rfl) dX_unseal_1 ⟨Nat.zero_le _, Nat.zero_le _⟩ ?_
  refine lv_iload_n hx hb dX_unseal_4 rfl (lv_at hl 2 rfl) ?_
  refine kr_Sv 1 (As := [.int (si)]) (rest := []) hx hb hml hown hts hl.1 (mX_requireGrant l (si) hsi) tt_stb trivial (gw_S w_151 w_152 w_14 w_153) (by decide) ⟨rfl, rfl⟩ ⟨Nat.le_of_ble_eq_true rfl, Nat.le_of_ble_eq_true rfl⟩ rfl rfl (Nat.le_of_ble_eq_true rfl) dX_unseal_5 ⟨Nat.zero_le _, Nat.zero_le _⟩ ?_
  refine lv_iload_n hx hb dX_unseal_8 rfl (lv_at hl 3 rfl) ?_
  refine kr_Sv 1 (As := [.int (ti)]) (rest := []) hx hb hml hown hts hl.1 (mX_requireGrant l (ti) hti) tt_stb trivial (gw_S w_151 w_152 w_14 w_153) (by decide) ⟨rfl, rfl⟩ ⟨Nat.le_of_ble_eq_true rfl, Nat.le_of_ble_eq_true rfl⟩ rfl rfl (Nat.le_of_ble_eq_true rfl) dX_unseal_9 ⟨Nat.zero_le _, Nat.zero_le _⟩ ?_
  refine lv_aload_n hx hb dX_unseal_12 rfl (lv_at hl 0 rfl) ?_
  refine lv_iload_n hx hb dX_unseal_13 rfl (lv_at hl 2 rfl) ?_
  refine lv_iload_n hx hb dX_unseal_14 rfl (lv_at hl 3 rfl) ?_
  refine kr_V 2 (b := q 0) (As := [.int (si), .int (ti)]) (rest := []) (r := .int (ga_open A B T P Y G si.toNatClampNeg ti.toNatClampNeg)) hx hb hml hown hts hl.1 (mX_unsealingCause l D cI cZ q A B T P Y G si ti hsi hti) rB_stb ⟨hP, hK⟩ (gw_V w_221 w_223 w_7 w_14 w_224) (by decide) ⟨rfl, rfl⟩ ⟨Nat.le_of_ble_eq_true rfl, Nat.le_of_ble_eq_true rfl⟩ (va_recv hK hP (ci := 0) rfl (q0 := 0) rfl) rfl rfl (Nat.le_of_ble_eq_true rfl) dX_unseal_15 ⟨Nat.zero_le _, Nat.zero_le _⟩ ?_
  refine lv_istore hx hb dX_unseal_18 hl (by decide) rfl (fun ls hl => ?_)
  have hl : lv_has ls 5 [(4, .int (ga_open A B T P Y G si.toNatClampNeg ti.toNatClampNeg)), (0, .ref (q 0)), (1, .int (ri)), (2, .int (si)), (3, .int (ti))] := hl
  refine lv_iload hx hb dX_unseal_20 (lv_at hl 0 rfl) ?_
  refine lv_if_ne (tgt := 38) hx hb dX_unseal_22 (by decide) (fun h_1 => absurd h0 h_1) (fun h_1 => ?_)
  refine lv_aload_n hx hb dX_unseal_25 rfl (lv_at hl 1 rfl) ?_
  refine lv_iload_n hx hb dX_unseal_26 rfl (lv_at hl 2 rfl) ?_
  refine lv_iload_n hx hb dX_unseal_27 rfl (lv_at hl 3 rfl) ?_
  refine kw_V 2 [0, 1, 2, 3, 4, 5, 6] [] (b := q 0) (As := [.int (ri), .int (si)]) (rest := []) (wc := xW cI cZ q A B T P Y G) (wr := []) (w1 := xW cI cZ q (upd A ri.toNatClampNeg (A si.toNatClampNeg)) (upd B ri.toNatClampNeg (B si.toNatClampNeg)) (upd T ri.toNatClampNeg (T si.toNatClampNeg)) (upd P ri.toNatClampNeg (P si.toNatClampNeg)) (upd Y ri.toNatClampNeg (Y si.toNatClampNeg)) (ub G ri.toNatClampNeg (G si.toNatClampNeg))) hx hb hml hown hts hl.1 hP hD hS hA hK (mX_copy l D cI cZ q A B T P Y G _ ri si hri hsi) (gw_V w_184 w_186 w_5 w_14 w_187) (by decide) ⟨rfl, rfl⟩ ⟨Nat.le_of_ble_eq_true rfl, Nat.le_of_ble_eq_true rfl⟩ (va_recv hK hP (ci := 0) rfl (q0 := 0) rfl) rfl rfl (Nat.le_of_ble_eq_true rfl) dX_unseal_28 ⟨Nat.zero_le _, Nat.zero_le _⟩ rfl rfl ⟨by decide, by decide⟩ (by decide) (fun H locs hP hD hS => ?_)
  have hP : va_P D vwCl (xW cI cZ q (upd A ri.toNatClampNeg (A si.toNatClampNeg)) (upd B ri.toNatClampNeg (B si.toNatClampNeg)) (upd T ri.toNatClampNeg (T si.toNatClampNeg)) (upd P ri.toNatClampNeg (P si.toNatClampNeg)) (upd Y ri.toNatClampNeg (Y si.toNatClampNeg)) (ub G ri.toNatClampNeg (G si.toNatClampNeg))) H := hP
  have hD : va_D A9 (xW cI cZ q (upd A ri.toNatClampNeg (A si.toNatClampNeg)) (upd B ri.toNatClampNeg (B si.toNatClampNeg)) (upd T ri.toNatClampNeg (T si.toNatClampNeg)) (upd P ri.toNatClampNeg (P si.toNatClampNeg)) (upd Y ri.toNatClampNeg (Y si.toNatClampNeg)) (ub G ri.toNatClampNeg (G si.toNatClampNeg))) := hD
  refine W.eq (g2 := F0 m 31 ls []) rfl ?_
  refine lv_aload_n hx hb dX_unseal_31 rfl (lv_at hl 1 rfl) ?_
  refine va_get (D := D) (ci := 0) (v := .ref (q 5)) (C := RX) (T := TX) (N := 6) hx hb hts inX hown hK hP 0 rfl rfl 4 (by decide) (hts _ w_33) (fun _ h9 => h9) rfl dX_unseal_32 ?_
  refine lv_iload_n hx hb dX_unseal_35 rfl (lv_at hl 2 rfl) ?_
  refine lv_iconst (v := 0) hx hb dX_unseal_36 (by decide) ?_
  refine va_iast hx hb hK hP hD hS 5 0 rfl rfl hri dX_unseal_37 (fun H locs hP hD hS => ?_)
  have hP : va_P D vwCl (xW cI cZ q (upd A ri.toNatClampNeg (A si.toNatClampNeg)) (upd B ri.toNatClampNeg (B si.toNatClampNeg)) (upd T ri.toNatClampNeg (T si.toNatClampNeg)) (upd P ri.toNatClampNeg (P si.toNatClampNeg)) (upd (upd Y ri.toNatClampNeg (Y si.toNatClampNeg)) ri.toNatClampNeg (0)) (ub G ri.toNatClampNeg (G si.toNatClampNeg))) H := hP
  have hD : va_D A9 (xW cI cZ q (upd A ri.toNatClampNeg (A si.toNatClampNeg)) (upd B ri.toNatClampNeg (B si.toNatClampNeg)) (upd T ri.toNatClampNeg (T si.toNatClampNeg)) (upd P ri.toNatClampNeg (P si.toNatClampNeg)) (upd (upd Y ri.toNatClampNeg (Y si.toNatClampNeg)) ri.toNatClampNeg (0)) (ub G ri.toNatClampNeg (G si.toNatClampNeg))) := hD
  refine lv_iload hx hb dX_unseal_38 (lv_at hl 0 rfl) ?_
  have e9_0 : ga_open A B T P Y G si.toNatClampNeg ti.toNatClampNeg = 0 := by exact h0
  have hP : va_P D vwCl (xW cI cZ q (upd A ri.toNatClampNeg (A si.toNatClampNeg)) (upd B ri.toNatClampNeg (B si.toNatClampNeg)) (upd T ri.toNatClampNeg (T si.toNatClampNeg)) (upd P ri.toNatClampNeg (P si.toNatClampNeg)) (upd Y ri.toNatClampNeg (0)) (ub G ri.toNatClampNeg (G si.toNatClampNeg))) H := by (try rw [e9_0]); first | exact hP | (simp only [uu_upd, uu_ub] at hP ⊢; exact hP)
  have hD : va_D A9 (xW cI cZ q (upd A ri.toNatClampNeg (A si.toNatClampNeg)) (upd B ri.toNatClampNeg (B si.toNatClampNeg)) (upd T ri.toNatClampNeg (T si.toNatClampNeg)) (upd P ri.toNatClampNeg (P si.toNatClampNeg)) (upd Y ri.toNatClampNeg (0)) (ub G ri.toNatClampNeg (G si.toNatClampNeg))) := by (try rw [e9_0]); first | exact hD | (simp only [uu_upd, uu_ub] at hD ⊢; exact hD)
  refine W.eq (g2 := F0 m 40 ls [.int (0)]) (by first | rfl | (rw [e9_0] <;> rfl)) ?_
  exact W.iret (v := 0) hx hb hr (fun t9 ht hW => ⟨rfl, by rw [ht]; exact hP, hD, hS.F ht⟩) hS.2.2 dX_unseal_40

set_option maxRecDepth 100000 in
set_option maxHeartbeats 4000000 in
theorem mX_unseal_n (l : Launch) (D : va_G) (cI cZ : ClassId) (q : Nat → Nat) (A B T P Y : Nat → Int32) (G : Nat → Bool) (sz : Nat) (ri si ti : Int32) (hri : vp_in ri 16) (hsi : vp_in si 16) (hti : vp_in ti 16) (h0 : ¬ ga_open A B T P Y G si.toNatClampNeg ti.toNatClampNeg = 0) : Met l yX_unseal (Cond.code yX_unseal cX_unseal 5 (some .int) :: gw) (rmk 4 0 0) (va_Pc [.ref (q 0), .int (ri), .int (si), .int (ti)] (kB D vwCl (xW cI cZ q A B T P Y G) (tsX cI cZ) sz)) (kQ (some (.int (ga_open A B T P Y G si.toNatClampNeg ti.toNatClampNeg))) D vwCl (xW cI cZ q A B T P Y G) (va_A (xW cI cZ q A B T P Y G) sz)) 0 0 (va_A (xW cI cZ q A B T P Y G) sz) := by
  refine Met.ofW (cc := cX_unseal) (maxL := 5) (ret := (some .int)) (by decide) rfl ?_
  intro p e s m args below meth c s₁ B9 hml hv
  obtain ⟨rfl, hsz, hP, hK, hD0⟩ := hv
  have hx := B9.exec
  have hb := B9.bytes
  have hr := B9.returns
  have hts := fun (w : Cond) (h : w ∈ gw) => atoms_spec (ws := _ :: gw) B9.pre w (List.mem_cons_of_mem _ h)
  have hown : s.vm.findClass RX = some m.cls := findClass_of_methodNamed B9.named
  have hlocks := B9.notSynchronized
  have hl := lv_entry ([.ref (q 0), .int (ri), .int (si), .int (ti)]) (n := 5) (Nat.le_of_ble_eq_true rfl)
  rw [lg_entry_eq]
  generalize (lg_sl ([.ref (q 0), .int (ri), .int (si), .int (ti)]) ++ List.replicate (5 - (lg_sl ([.ref (q 0), .int (ri), .int (si), .int (ti)])).length) Slot.unset).toArray = ls at hl ⊢
  have hl : lv_has ls 5 [(0, .ref (q 0)), (1, .int (ri)), (2, .int (si)), (3, .int (ti))] := hl
  subst hsz
  have hD := hD0.self (sz := s.heap.size)
  generalize hAe : va_A (xW cI cZ q A B T P Y G) s.heap.size = A9 at hD ⊢
  have hA : ∀ z : Nat, s.heap.size ≤ z → A9 z := fun z h => by rw [← hAe]; exact Or.inr h
  have hS : va_S A9 s.heap s.heap [] := va_S.rf
  have hP : va_P D vwCl (xW cI cZ q A B T P Y G) s.heap := hP
  refine lv_iload_n hx hb dX_unseal_0 rfl (lv_at hl 1 rfl) ?_
  refine kr_Sv 1 (As := [.int (ri)]) (rest := []) hx hb hml hown hts hl.1 (mX_requireGrant l (ri) hri) tt_stb trivial (gw_S w_151 w_152 w_14 w_153) (by decide) ⟨rfl, rfl⟩ ⟨Nat.le_of_ble_eq_true rfl, Nat.le_of_ble_eq_true rfl⟩ rfl rfl (Nat.le_of_ble_eq_true rfl) dX_unseal_1 ⟨Nat.zero_le _, Nat.zero_le _⟩ ?_
  refine lv_iload_n hx hb dX_unseal_4 rfl (lv_at hl 2 rfl) ?_
  refine kr_Sv 1 (As := [.int (si)]) (rest := []) hx hb hml hown hts hl.1 (mX_requireGrant l (si) hsi) tt_stb trivial (gw_S w_151 w_152 w_14 w_153) (by decide) ⟨rfl, rfl⟩ ⟨Nat.le_of_ble_eq_true rfl, Nat.le_of_ble_eq_true rfl⟩ rfl rfl (Nat.le_of_ble_eq_true rfl) dX_unseal_5 ⟨Nat.zero_le _, Nat.zero_le _⟩ ?_
  refine lv_iload_n hx hb dX_unseal_8 rfl (lv_at hl 3 rfl) ?_
  refine kr_Sv 1 (As := [.int (ti)]) (rest := []) hx hb hml hown hts hl.1 (mX_requireGrant l (ti) hti) tt_stb trivial (gw_S w_151 w_152 w_14 w_153) (by decide) ⟨rfl, rfl⟩ ⟨Nat.le_of_ble_eq_true rfl, Nat.le_of_ble_eq_true rfl⟩ rfl rfl (Nat.le_of_ble_eq_true rfl) dX_unseal_9 ⟨Nat.zero_le _, Nat.zero_le _⟩ ?_
  refine lv_aload_n hx hb dX_unseal_12 rfl (lv_at hl 0 rfl) ?_
  refine lv_iload_n hx hb dX_unseal_13 rfl (lv_at hl 2 rfl) ?_
  refine lv_iload_n hx hb dX_unseal_14 rfl (lv_at hl 3 rfl) ?_
  refine kr_V 2 (b := q 0) (As := [.int (si), .int (ti)]) (rest := []) (r := .int (ga_open A B T P Y G si.toNatClampNeg ti.toNatClampNeg)) hx hb hml hown hts hl.1 (mX_unsealingCause l D cI cZ q A B T P Y G si ti hsi hti) rB_stb ⟨hP, hK⟩ (gw_V w_221 w_223 w_7 w_14 w_224) (by decide) ⟨rfl, rfl⟩ ⟨Nat.le_of_ble_eq_true rfl, Nat.le_of_ble_eq_true rfl⟩ (va_recv hK hP (ci := 0) rfl (q0 := 0) rfl) rfl rfl (Nat.le_of_ble_eq_true rfl) dX_unseal_15 ⟨Nat.zero_le _, Nat.zero_le _⟩ ?_
  refine lv_istore hx hb dX_unseal_18 hl (by decide) rfl (fun ls hl => ?_)
  have hl : lv_has ls 5 [(4, .int (ga_open A B T P Y G si.toNatClampNeg ti.toNatClampNeg)), (0, .ref (q 0)), (1, .int (ri)), (2, .int (si)), (3, .int (ti))] := hl
  refine lv_iload hx hb dX_unseal_20 (lv_at hl 0 rfl) ?_
  refine lv_if_ne (tgt := 38) hx hb dX_unseal_22 (by decide) (fun h_1 => ?_) (fun h_1 => absurd h_1 h0)
  refine lv_iload hx hb dX_unseal_38 (lv_at hl 0 rfl) ?_
  exact W.iret (v := ga_open A B T P Y G si.toNatClampNeg ti.toNatClampNeg) hx hb hr (fun t9 ht hW => ⟨rfl, by rw [ht]; exact hP, hD, hS.F ht⟩) hS.2.2 dX_unseal_40

set_option maxRecDepth 100000 in
set_option maxHeartbeats 4000000 in
theorem tX_allows_a (l : Launch) (hst : l.stackTraces = false) (q9 : Nat) (ri by9 v w : Int32) (hbad : ¬ (¬ v < 0 ∧ v ≤ 65536)) : tx_Thr l yX_allows (Cond.code yX_allows cX_allows 5 (some .int) :: gw) (rmk 7 1 6) (va_Pc [.ref (q9), .int (ri), .int (by9), .int (v), .int (w)] tx_B) iae 1 6 := by
  refine tx_of (cc := cX_allows) (maxL := 5) (ret := (some .int)) (by decide) rfl ?_
  intro p e s m args below meth c s₁ B9 hml hne hv
  obtain ⟨rfl, hB⟩ := hv
  have hx := B9.exec
  have hb := B9.bytes
  have hts := fun (w : Cond) (h : w ∈ gw) => atoms_spec (ws := _ :: gw) B9.pre w (List.mem_cons_of_mem _ h)
  have hown : s.vm.findClass RX = some m.cls := findClass_of_methodNamed B9.named
  have hlocks := B9.notSynchronized
  have hl := lv_entry ([.ref (q9), .int (ri), .int (by9), .int (v), .int (w)]) (n := 5) (Nat.le_of_ble_eq_true rfl)
  rw [lg_entry_eq]
  generalize (lg_sl ([.ref (q9), .int (ri), .int (by9), .int (v), .int (w)]) ++ List.replicate (5 - (lg_sl ([.ref (q9), .int (ri), .int (by9), .int (v), .int (w)])).length) Slot.unset).toArray = ls at hl ⊢
  have hl : lv_has ls 5 [(0, .ref (q9)), (1, .int (ri)), (2, .int (by9)), (3, .int (v)), (4, .int (w))] := hl
  refine lv_iload_n hx hb dX_allows_0 rfl (lv_at hl 3 rfl) ?_
  refine lv_if_lt (tgt := 10) hx hb dX_allows_1 (by decide) (fun h_1 => ?_) (fun h_1 => ?_)
  · 
    obtain ⟨tx, sa, hstr⟩ := (hB #[]).2.2.1 66 (by decide)
    exact tx_throw (cls := iae) (names := nms) hx hb hst hown (by decide +kernel) (by decide +kernel) (hts _ w_83) (hts _ w_19) hstr (hB _).2.1 (hl.1.trans hml.symm) dX_allows_10 dX_allows_13 dX_allows_14 dX_allows_16 dX_allows_19 hne (Nat.le_of_ble_eq_true rfl) (Nat.le_of_ble_eq_true rfl) (Nat.le_of_ble_eq_true rfl) (Nat.le_of_ble_eq_true rfl) hlocks
  · 
    refine lv_iload_n hx hb dX_allows_4 rfl (lv_at hl 3 rfl) ?_
    refine lv_ldc (v := 65536) hx hb hown (hts _ w_232) dX_allows_5 ?_
    refine lv_icmp_le (tgt := 20) hx hb dX_allows_7 (by decide) (fun h_2 => absurd h_2 (fun h9 => hbad ⟨h_1, h9⟩)) (fun h_2 => ?_)
    obtain ⟨tx, sa, hstr⟩ := (hB #[]).2.2.1 66 (by decide)
    exact tx_throw (cls := iae) (names := nms) hx hb hst hown (by decide +kernel) (by decide +kernel) (hts _ w_83) (hts _ w_19) hstr (hB _).2.1 (hl.1.trans hml.symm) dX_allows_10 dX_allows_13 dX_allows_14 dX_allows_16 dX_allows_19 hne (Nat.le_of_ble_eq_true rfl) (Nat.le_of_ble_eq_true rfl) (Nat.le_of_ble_eq_true rfl) (Nat.le_of_ble_eq_true rfl) hlocks

set_option maxRecDepth 100000 in
set_option maxHeartbeats 4000000 in
theorem tX_allows_b (l : Launch) (hst : l.stackTraces = false) (q9 : Nat) (ri by9 v w : Int32) (hv0 : ¬ v < 0) (hv : v ≤ 65536) (hbad : ¬ vp_in ri 16) : tx_Thr l yX_allows (Cond.code yX_allows cX_allows 5 (some .int) :: gw) (rmk 7 1 6) (va_Pc [.ref (q9), .int (ri), .int (by9), .int (v), .int (w)] tx_B) iob 1 6 := by
  refine tx_of (cc := cX_allows) (maxL := 5) (ret := (some .int)) (by decide) rfl ?_
  intro p e s m args below meth c s₁ B9 hml hne hv
  obtain ⟨rfl, hB⟩ := hv
  have hx := B9.exec
  have hb := B9.bytes
  have hts := fun (w : Cond) (h : w ∈ gw) => atoms_spec (ws := _ :: gw) B9.pre w (List.mem_cons_of_mem _ h)
  have hown : s.vm.findClass RX = some m.cls := findClass_of_methodNamed B9.named
  have hlocks := B9.notSynchronized
  have hl := lv_entry ([.ref (q9), .int (ri), .int (by9), .int (v), .int (w)]) (n := 5) (Nat.le_of_ble_eq_true rfl)
  rw [lg_entry_eq]
  generalize (lg_sl ([.ref (q9), .int (ri), .int (by9), .int (v), .int (w)]) ++ List.replicate (5 - (lg_sl ([.ref (q9), .int (ri), .int (by9), .int (v), .int (w)])).length) Slot.unset).toArray = ls at hl ⊢
  have hl : lv_has ls 5 [(0, .ref (q9)), (1, .int (ri)), (2, .int (by9)), (3, .int (v)), (4, .int (w))] := hl
  refine lv_iload_n hx hb dX_allows_0 rfl (lv_at hl 3 rfl) ?_
  refine lv_if_lt (tgt := 10) hx hb dX_allows_1 (by decide) (fun h_1 => absurd h_1 hv0) (fun h_1 => ?_)
  refine lv_iload_n hx hb dX_allows_4 rfl (lv_at hl 3 rfl) ?_
  refine lv_ldc (v := 65536) hx hb hown (hts _ w_232) dX_allows_5 ?_
  refine lv_icmp_le (tgt := 20) hx hb dX_allows_7 (by decide) (fun h_2 => ?_) (fun h_2 => absurd hv h_2)
  refine lv_iload_n hx hb dX_allows_20 rfl (lv_at hl 1 rfl) ?_
  by_cases hi_ri : vp_in ri 16
  rotate_left
  · exact tx_callS (As := [.int (ri)]) (rest := []) ⟨hx, hb, hml, hown, hts⟩ (tX_requireGrant l hst (ri) hi_ri) (cwS 1 hts (gw_S w_151 w_152 w_14 w_153) rfl rfl rfl (by decide) ⟨Nat.le_of_ble_eq_true rfl, Nat.le_of_ble_eq_true rfl⟩) ⟨tx_blind, tx_pre hB (fun _ _ => rfl)⟩ rfl hl.1 rfl (Nat.le_of_ble_eq_true rfl) dX_allows_21 ⟨Nat.le_of_ble_eq_true rfl, Nat.le_of_ble_eq_true rfl⟩ (fun z ce H1 _ _ h1 h2 h3 => tx_leave rfl rfl rfl hne hlocks h1 h2 h3 (Nat.le_refl _) (Nat.le_refl _))
  refine kr_Sv 1 (As := [.int (ri)]) (rest := []) hx hb hml hown hts hl.1 (mX_requireGrant l (ri) hi_ri) tt_stb trivial (gw_S w_151 w_152 w_14 w_153) (by decide) ⟨rfl, rfl⟩ ⟨Nat.le_of_ble_eq_true rfl, Nat.le_of_ble_eq_true rfl⟩ rfl rfl (Nat.le_of_ble_eq_true rfl) dX_allows_21 ⟨Nat.zero_le _, Nat.zero_le _⟩ ?_
  exact absurd hi_ri hbad

set_option maxRecDepth 100000 in
set_option maxHeartbeats 4000000 in
theorem tX_part_a (l : Launch) (hst : l.stackTraces = false) (q9 : Nat) (ri v : Int32) (hbad : ¬ (¬ v < 0 ∧ v ≤ 5)) : tx_Thr l yX_part (Cond.code yX_part cX_part 3 (some .int) :: gw) (rmk 7 1 6) (va_Pc [.ref (q9), .int (ri), .int (v)] tx_B) iae 1 6 := by
  refine tx_of (cc := cX_part) (maxL := 3) (ret := (some .int)) (by decide) rfl ?_
  intro p e s m args below meth c s₁ B9 hml hne hv
  obtain ⟨rfl, hB⟩ := hv
  have hx := B9.exec
  have hb := B9.bytes
  have hts := fun (w : Cond) (h : w ∈ gw) => atoms_spec (ws := _ :: gw) B9.pre w (List.mem_cons_of_mem _ h)
  have hown : s.vm.findClass RX = some m.cls := findClass_of_methodNamed B9.named
  have hlocks := B9.notSynchronized
  have hl := lv_entry ([.ref (q9), .int (ri), .int (v)]) (n := 3) (Nat.le_of_ble_eq_true rfl)
  rw [lg_entry_eq]
  generalize (lg_sl ([.ref (q9), .int (ri), .int (v)]) ++ List.replicate (3 - (lg_sl ([.ref (q9), .int (ri), .int (v)])).length) Slot.unset).toArray = ls at hl ⊢
  have hl : lv_has ls 3 [(0, .ref (q9)), (1, .int (ri)), (2, .int (v))] := hl
  refine lv_iload_n hx hb dX_part_0 rfl (lv_at hl 2 rfl) ?_
  refine lv_if_lt (tgt := 9) hx hb dX_part_1 (by decide) (fun h_1 => ?_) (fun h_1 => ?_)
  · 
    obtain ⟨tx, sa, hstr⟩ := (hB #[]).2.2.1 76 (by decide)
    exact tx_throw (cls := iae) (names := nms) hx hb hst hown (by decide +kernel) (by decide +kernel) (hts _ w_83) (hts _ w_19) hstr (hB _).2.1 (hl.1.trans hml.symm) dX_part_9 dX_part_12 dX_part_13 dX_part_15 dX_part_18 hne (Nat.le_of_ble_eq_true rfl) (Nat.le_of_ble_eq_true rfl) (Nat.le_of_ble_eq_true rfl) (Nat.le_of_ble_eq_true rfl) hlocks
  · 
    refine lv_iload_n hx hb dX_part_4 rfl (lv_at hl 2 rfl) ?_
    refine lv_iconst (v := 5) hx hb dX_part_5 (by decide) ?_
    refine lv_icmp_le (tgt := 19) hx hb dX_part_6 (by decide) (fun h_2 => absurd h_2 (fun h9 => hbad ⟨h_1, h9⟩)) (fun h_2 => ?_)
    obtain ⟨tx, sa, hstr⟩ := (hB #[]).2.2.1 76 (by decide)
    exact tx_throw (cls := iae) (names := nms) hx hb hst hown (by decide +kernel) (by decide +kernel) (hts _ w_83) (hts _ w_19) hstr (hB _).2.1 (hl.1.trans hml.symm) dX_part_9 dX_part_12 dX_part_13 dX_part_15 dX_part_18 hne (Nat.le_of_ble_eq_true rfl) (Nat.le_of_ble_eq_true rfl) (Nat.le_of_ble_eq_true rfl) (Nat.le_of_ble_eq_true rfl) hlocks

set_option maxRecDepth 100000 in
set_option maxHeartbeats 4000000 in
theorem tX_part_b (l : Launch) (hst : l.stackTraces = false) (q9 : Nat) (ri v : Int32) (hv0 : ¬ v < 0) (hv : v ≤ 5) (hbad : ¬ vp_in ri 16) : tx_Thr l yX_part (Cond.code yX_part cX_part 3 (some .int) :: gw) (rmk 7 1 6) (va_Pc [.ref (q9), .int (ri), .int (v)] tx_B) iob 1 6 := by
  refine tx_of (cc := cX_part) (maxL := 3) (ret := (some .int)) (by decide) rfl ?_
  intro p e s m args below meth c s₁ B9 hml hne hv
  obtain ⟨rfl, hB⟩ := hv
  have hx := B9.exec
  have hb := B9.bytes
  have hts := fun (w : Cond) (h : w ∈ gw) => atoms_spec (ws := _ :: gw) B9.pre w (List.mem_cons_of_mem _ h)
  have hown : s.vm.findClass RX = some m.cls := findClass_of_methodNamed B9.named
  have hlocks := B9.notSynchronized
  have hl := lv_entry ([.ref (q9), .int (ri), .int (v)]) (n := 3) (Nat.le_of_ble_eq_true rfl)
  rw [lg_entry_eq]
  generalize (lg_sl ([.ref (q9), .int (ri), .int (v)]) ++ List.replicate (3 - (lg_sl ([.ref (q9), .int (ri), .int (v)])).length) Slot.unset).toArray = ls at hl ⊢
  have hl : lv_has ls 3 [(0, .ref (q9)), (1, .int (ri)), (2, .int (v))] := hl
  refine lv_iload_n hx hb dX_part_0 rfl (lv_at hl 2 rfl) ?_
  refine lv_if_lt (tgt := 9) hx hb dX_part_1 (by decide) (fun h_1 => absurd h_1 hv0) (fun h_1 => ?_)
  refine lv_iload_n hx hb dX_part_4 rfl (lv_at hl 2 rfl) ?_
  refine lv_iconst (v := 5) hx hb dX_part_5 (by decide) ?_
  refine lv_icmp_le (tgt := 19) hx hb dX_part_6 (by decide) (fun h_2 => ?_) (fun h_2 => absurd hv h_2)
  refine lv_iload_n hx hb dX_part_19 rfl (lv_at hl 1 rfl) ?_
  by_cases hi_ri : vp_in ri 16
  rotate_left
  · exact tx_callS (As := [.int (ri)]) (rest := []) ⟨hx, hb, hml, hown, hts⟩ (tX_requireGrant l hst (ri) hi_ri) (cwS 1 hts (gw_S w_151 w_152 w_14 w_153) rfl rfl rfl (by decide) ⟨Nat.le_of_ble_eq_true rfl, Nat.le_of_ble_eq_true rfl⟩) ⟨tx_blind, tx_pre hB (fun _ _ => rfl)⟩ rfl hl.1 rfl (Nat.le_of_ble_eq_true rfl) dX_part_20 ⟨Nat.le_of_ble_eq_true rfl, Nat.le_of_ble_eq_true rfl⟩ (fun z ce H1 _ _ h1 h2 h3 => tx_leave rfl rfl rfl hne hlocks h1 h2 h3 (Nat.le_refl _) (Nat.le_refl _))
  refine kr_Sv 1 (As := [.int (ri)]) (rest := []) hx hb hml hown hts hl.1 (mX_requireGrant l (ri) hi_ri) tt_stb trivial (gw_S w_151 w_152 w_14 w_153) (by decide) ⟨rfl, rfl⟩ ⟨Nat.le_of_ble_eq_true rfl, Nat.le_of_ble_eq_true rfl⟩ rfl rfl (Nat.le_of_ble_eq_true rfl) dX_part_20 ⟨Nat.zero_le _, Nat.zero_le _⟩ ?_
  exact absurd hi_ri hbad

set_option maxRecDepth 100000 in
set_option maxHeartbeats 4000000 in
theorem tX_root_a (l : Launch) (hst : l.stackTraces = false) (q9 : Nat) (ri b9 t9 v : Int32) (hbad : ¬ (un b9 ≤ un t9 ∧ ¬ v < 0 ∧ v ≤ 255)) : tx_Thr l yX_root (Cond.code yX_root cX_root 5 none :: gw) (rmk 7 1 6) (va_Pc [.ref (q9), .int (ri), .int (b9), .int (t9), .int (v)] tx_B) iae 1 6 := by
  refine tx_of (cc := cX_root) (maxL := 5) (ret := none) (by decide) rfl ?_
  intro p e s m args below meth c s₁ B9 hml hne hv
  obtain ⟨rfl, hB⟩ := hv
  have hx := B9.exec
  have hb := B9.bytes
  have hts := fun (w : Cond) (h : w ∈ gw) => atoms_spec (ws := _ :: gw) B9.pre w (List.mem_cons_of_mem _ h)
  have hown : s.vm.findClass RX = some m.cls := findClass_of_methodNamed B9.named
  have hlocks := B9.notSynchronized
  have hl := lv_entry ([.ref (q9), .int (ri), .int (b9), .int (t9), .int (v)]) (n := 5) (Nat.le_of_ble_eq_true rfl)
  rw [lg_entry_eq]
  generalize (lg_sl ([.ref (q9), .int (ri), .int (b9), .int (t9), .int (v)]) ++ List.replicate (5 - (lg_sl ([.ref (q9), .int (ri), .int (b9), .int (t9), .int (v)])).length) Slot.unset).toArray = ls at hl ⊢
  have hl : lv_has ls 5 [(0, .ref (q9)), (1, .int (ri)), (2, .int (b9)), (3, .int (t9)), (4, .int (v))] := hl
  refine lv_iload_n hx hb dX_root_0 rfl (lv_at hl 2 rfl) ?_
  refine kr_S 1 (As := [.int (b9)]) (rest := []) (r := .long (uw (b9))) hx hb hml hown hts hl.1 (mX_unsigned l (b9)) tt_stb trivial (gw_S w_70 w_71 w_14 w_72) (by decide) ⟨rfl, rfl⟩ ⟨Nat.le_of_ble_eq_true rfl, Nat.le_of_ble_eq_true rfl⟩ rfl rfl (Nat.le_of_ble_eq_true rfl) dX_root_1 ⟨Nat.zero_le _, Nat.zero_le _⟩ ?_
  refine lv_iload_n hx hb dX_root_4 rfl (lv_at hl 3 rfl) ?_
  refine kr_S 1 (As := [.int (t9)]) (rest := [.long (uw (b9))]) (r := .long (uw (t9))) hx hb hml hown hts hl.1 (mX_unsigned l (t9)) tt_stb trivial (gw_S w_70 w_71 w_14 w_72) (by decide) ⟨rfl, rfl⟩ ⟨Nat.le_of_ble_eq_true rfl, Nat.le_of_ble_eq_true rfl⟩ rfl rfl (Nat.le_of_ble_eq_true rfl) dX_root_5 ⟨Nat.zero_le _, Nat.zero_le _⟩ ?_
  refine W.lcmp hx hb dX_root_8 ?_
  refine lv_if_le (tgt := 22) hx hb dX_root_9 (by decide) (fun h_1 => ?_) (fun h_1 => ?_)
  · rw [lg_cmp_le] at h_1
    refine lv_iload hx hb dX_root_22 (lv_at hl 4 rfl) ?_
    refine lv_if_lt (tgt := 35) hx hb dX_root_24 (by decide) (fun h_2 => ?_) (fun h_2 => ?_)
    · 
      obtain ⟨tx, sa, hstr⟩ := (hB #[]).2.2.1 40 (by decide)
      exact tx_throw (cls := iae) (names := nms) hx hb hst hown (by decide +kernel) (by decide +kernel) (hts _ w_83) (hts _ w_19) hstr (hB _).2.1 (hl.1.trans hml.symm) dX_root_35 dX_root_38 dX_root_39 dX_root_41 dX_root_44 hne (Nat.le_of_ble_eq_true rfl) (Nat.le_of_ble_eq_true rfl) (Nat.le_of_ble_eq_true rfl) (Nat.le_of_ble_eq_true rfl) hlocks
    · 
      refine lv_iload hx hb dX_root_27 (lv_at hl 4 rfl) ?_
      refine lv_sipush (v := 255) hx hb dX_root_29 (by decide) ?_
      refine lv_icmp_le (tgt := 45) hx hb dX_root_32 (by decide) (fun h_3 => absurd h_3 (fun h9 => hbad ⟨(uw_le _ _).mp h_1, h_2, h9⟩)) (fun h_3 => ?_)
      obtain ⟨tx, sa, hstr⟩ := (hB #[]).2.2.1 40 (by decide)
      exact tx_throw (cls := iae) (names := nms) hx hb hst hown (by decide +kernel) (by decide +kernel) (hts _ w_83) (hts _ w_19) hstr (hB _).2.1 (hl.1.trans hml.symm) dX_root_35 dX_root_38 dX_root_39 dX_root_41 dX_root_44 hne (Nat.le_of_ble_eq_true rfl) (Nat.le_of_ble_eq_true rfl) (Nat.le_of_ble_eq_true rfl) (Nat.le_of_ble_eq_true rfl) hlocks
  · rw [lg_cmp_le] at h_1
    obtain ⟨tx, sa, hstr⟩ := (hB #[]).2.2.1 35 (by decide)
    exact tx_throw (cls := iae) (names := nms) hx hb hst hown (by decide +kernel) (by decide +kernel) (hts _ w_83) (hts _ w_19) hstr (hB _).2.1 (hl.1.trans hml.symm) dX_root_12 dX_root_15 dX_root_16 dX_root_18 dX_root_21 hne (Nat.le_of_ble_eq_true rfl) (Nat.le_of_ble_eq_true rfl) (Nat.le_of_ble_eq_true rfl) (Nat.le_of_ble_eq_true rfl) hlocks

set_option maxRecDepth 100000 in
set_option maxHeartbeats 4000000 in
theorem tX_root_b (l : Launch) (hst : l.stackTraces = false) (q9 : Nat) (ri b9 t9 v : Int32) (hbt : un b9 ≤ un t9) (hv0 : ¬ v < 0) (hv : v ≤ 255) (hbad : ¬ vp_in ri 16) : tx_Thr l yX_root (Cond.code yX_root cX_root 5 none :: gw) (rmk 7 1 6) (va_Pc [.ref (q9), .int (ri), .int (b9), .int (t9), .int (v)] tx_B) iob 1 6 := by
  refine tx_of (cc := cX_root) (maxL := 5) (ret := none) (by decide) rfl ?_
  intro p e s m args below meth c s₁ B9 hml hne hv
  obtain ⟨rfl, hB⟩ := hv
  have hx := B9.exec
  have hb := B9.bytes
  have hts := fun (w : Cond) (h : w ∈ gw) => atoms_spec (ws := _ :: gw) B9.pre w (List.mem_cons_of_mem _ h)
  have hown : s.vm.findClass RX = some m.cls := findClass_of_methodNamed B9.named
  have hlocks := B9.notSynchronized
  have hl := lv_entry ([.ref (q9), .int (ri), .int (b9), .int (t9), .int (v)]) (n := 5) (Nat.le_of_ble_eq_true rfl)
  rw [lg_entry_eq]
  generalize (lg_sl ([.ref (q9), .int (ri), .int (b9), .int (t9), .int (v)]) ++ List.replicate (5 - (lg_sl ([.ref (q9), .int (ri), .int (b9), .int (t9), .int (v)])).length) Slot.unset).toArray = ls at hl ⊢
  have hl : lv_has ls 5 [(0, .ref (q9)), (1, .int (ri)), (2, .int (b9)), (3, .int (t9)), (4, .int (v))] := hl
  refine lv_iload_n hx hb dX_root_0 rfl (lv_at hl 2 rfl) ?_
  refine kr_S 1 (As := [.int (b9)]) (rest := []) (r := .long (uw (b9))) hx hb hml hown hts hl.1 (mX_unsigned l (b9)) tt_stb trivial (gw_S w_70 w_71 w_14 w_72) (by decide) ⟨rfl, rfl⟩ ⟨Nat.le_of_ble_eq_true rfl, Nat.le_of_ble_eq_true rfl⟩ rfl rfl (Nat.le_of_ble_eq_true rfl) dX_root_1 ⟨Nat.zero_le _, Nat.zero_le _⟩ ?_
  refine lv_iload_n hx hb dX_root_4 rfl (lv_at hl 3 rfl) ?_
  refine kr_S 1 (As := [.int (t9)]) (rest := [.long (uw (b9))]) (r := .long (uw (t9))) hx hb hml hown hts hl.1 (mX_unsigned l (t9)) tt_stb trivial (gw_S w_70 w_71 w_14 w_72) (by decide) ⟨rfl, rfl⟩ ⟨Nat.le_of_ble_eq_true rfl, Nat.le_of_ble_eq_true rfl⟩ rfl rfl (Nat.le_of_ble_eq_true rfl) dX_root_5 ⟨Nat.zero_le _, Nat.zero_le _⟩ ?_
  refine W.lcmp hx hb dX_root_8 ?_
  refine lv_if_le (tgt := 22) hx hb dX_root_9 (by decide) (fun h_1 => ?_) (fun h_1 => absurd ((lg_cmp_le _ _).mpr ((uw_le _ _).mpr hbt)) h_1)
  rw [lg_cmp_le] at h_1
  refine lv_iload hx hb dX_root_22 (lv_at hl 4 rfl) ?_
  refine lv_if_lt (tgt := 35) hx hb dX_root_24 (by decide) (fun h_2 => absurd h_2 hv0) (fun h_2 => ?_)
  refine lv_iload hx hb dX_root_27 (lv_at hl 4 rfl) ?_
  refine lv_sipush (v := 255) hx hb dX_root_29 (by decide) ?_
  refine lv_icmp_le (tgt := 45) hx hb dX_root_32 (by decide) (fun h_3 => ?_) (fun h_3 => absurd hv h_3)
  refine lv_iload_n hx hb dX_root_45 rfl (lv_at hl 1 rfl) ?_
  by_cases hi_ri : vp_in ri 16
  rotate_left
  · exact tx_callS (As := [.int (ri)]) (rest := []) ⟨hx, hb, hml, hown, hts⟩ (tX_requireGrant l hst (ri) hi_ri) (cwS 1 hts (gw_S w_151 w_152 w_14 w_153) rfl rfl rfl (by decide) ⟨Nat.le_of_ble_eq_true rfl, Nat.le_of_ble_eq_true rfl⟩) ⟨tx_blind, tx_pre hB (fun _ _ => rfl)⟩ rfl hl.1 rfl (Nat.le_of_ble_eq_true rfl) dX_root_46 ⟨Nat.le_of_ble_eq_true rfl, Nat.le_of_ble_eq_true rfl⟩ (fun z ce H1 _ _ h1 h2 h3 => tx_leave rfl rfl rfl hne hlocks h1 h2 h3 (Nat.le_refl _) (Nat.le_refl _))
  refine kr_Sv 1 (As := [.int (ri)]) (rest := []) hx hb hml hown hts hl.1 (mX_requireGrant l (ri) hi_ri) tt_stb trivial (gw_S w_151 w_152 w_14 w_153) (by decide) ⟨rfl, rfl⟩ ⟨Nat.le_of_ble_eq_true rfl, Nat.le_of_ble_eq_true rfl⟩ rfl rfl (Nat.le_of_ble_eq_true rfl) dX_root_46 ⟨Nat.zero_le _, Nat.zero_le _⟩ ?_
  exact absurd hi_ri hbad
end
section
/-! The two constructors. Laid by program (wip/whole/gen_ctor.py). -/
set_option maxRecDepth 100000 in
set_option maxHeartbeats 4000000 in
theorem mX_init (l : Launch) (D : va_G) (h0 sz : Nat) : Met l yX_init (Cond.code yX_init cX_init 1 none :: gw) (rmk 1 6 96) (va_Pc [.ref h0] (fun U => U.heap.size = sz ∧ va_P D vwCl [(h0, .inr (0, [.null, .null, .null, .null, .null, .null]))] U.heap ∧ va_K D vwCl [] U ∧ va_D (fun _ => True) [(h0, .inr (0, [.null, .null, .null, .null, .null, .null]))])) (va_Qv (fun u : (Nat → Nat) × ClassId × ClassId => u.1 0 = h0) (fun u t => va_P D vwCl (xW u.2.1 u.2.2 u.1 (fun _ => 0) (fun _ => 0) (fun _ => 0) (fun _ => 0) (fun _ => 0) (fun _ => false)) t.heap ∧ va_K D vwCl (tsX u.2.1 u.2.2) t ∧ va_D (va_A [(h0, .inr (0, [.null, .null, .null, .null, .null, .null]))] sz) (xW u.2.1 u.2.2 u.1 (fun _ => 0) (fun _ => 0) (fun _ => 0) (fun _ => 0) (fun _ => 0) (fun _ => false))) (va_A [(h0, .inr (0, [.null, .null, .null, .null, .null, .null]))] sz)) 6 96 (va_A [(h0, .inr (0, [.null, .null, .null, .null, .null, .null]))] sz) := by
  refine Met.ofW (cc := cX_init) (maxL := 1) (ret := none) (by decide) rfl ?_
  intro p e s m args below meth c s₁ B9 hml hv
  obtain ⟨rfl, hsz, hP, hK, hD0⟩ := hv
  have hx := B9.exec
  have hb := B9.bytes
  have hr := B9.returns
  have hts := fun (w : Cond) (h : w ∈ gw) => atoms_spec (ws := _ :: gw) B9.pre w (List.mem_cons_of_mem _ h)
  have hown : s.vm.findClass RX = some m.cls := findClass_of_methodNamed B9.named
  have hlocks := B9.notSynchronized
  have hl := lv_entry ([.ref (h0)]) (n := 1) (Nat.le_of_ble_eq_true rfl)
  rw [lg_entry_eq]
  generalize (lg_sl ([.ref (h0)]) ++ List.replicate (1 - (lg_sl ([.ref (h0)])).length) Slot.unset).toArray = ls at hl ⊢
  have hl : lv_has ls 1 [(0, .ref (h0))] := hl
  have hin : meth.name = "<init>" := (name_of_methodNamed B9.named B9.method).1
  subst hsz
  have hD := hD0.self (sz := s.heap.size)
  generalize hAe : va_A [(h0, .inr (0, [.null, .null, .null, .null, .null, .null]))] s.heap.size = A9 at hD ⊢
  have hA : ∀ z : Nat, s.heap.size ≤ z → A9 z := fun z h => by rw [← hAe]; exact Or.inr h
  have hS : va_S A9 s.heap s.heap [] := va_S.rf
  refine lv_aload_n hx hb dX_init_0 rfl (lv_at hl 0 rfl) ?_
  refine W.objInit hx hb hown (hts _ w_26) (hts _ w_27) (hts _ w_28) rfl (by rw [hml]; exact hl.1) rfl dX_init_1 (Nat.le_of_ble_eq_true rfl) (Nat.le_of_ble_eq_true rfl) ?_
  refine W.eq (g2 := F0 m 4 ls []) rfl ?_
  refine lv_aload_n hx hb dX_init_4 rfl (lv_at hl 0 rfl) ?_
  refine lv_bipush (v := 16) hx hb dX_init_5 (by decide) ?_
  refine va_newa (atype := .int) (ty := .int) (a0 := (16, .inl (fun _ => 0))) (N' := 16) hx hb (hts _ w_48) rfl hK hP hD hS hA (fun _ => rfl) (by decide) (by decide) (by decide) (Nat.le_of_ble_eq_true rfl) (Nat.le_of_ble_eq_true rfl) dX_init_7 (fun a0 c0 H hK hP hD hS => ?_)
  have hP : va_P D vwCl [(h0, .inr (0, [.null, .null, .null, .null, .null, .null])), (a0, .inl (c0, 16, .inl (fun _ => 0)))] H := hP
  have hD : va_D A9 [(h0, .inr (0, [.null, .null, .null, .null, .null, .null])), (a0, .inl (c0, 16, .inl (fun _ => 0)))] := hD
  have hK : va_K D vwCl [(c0, .int)] s := hK
  refine W.eq (g2 := F0 m 9 ls [.ref a0, .ref h0]) rfl ?_
  refine va_putF (D := D) (ci := 0) (v := .ref a0) (ty := .array .int) (C := RX) (T := TX) (N := 6) hx hb hts inX tyX tyX_ok nmX hown hK hP hD hS 0 rfl rfl 0 (by decide) (hts _ w_29) (fun _ h9 => h9) rfl hin rfl (by decide +kernel) rfl rfl (Nat.le_of_ble_eq_true rfl) dX_init_9 (fun H locs hP hD hS => ?_)
  have hP : va_P D vwCl [(h0, .inr (0, [.ref a0, .null, .null, .null, .null, .null])), (a0, .inl (c0, 16, .inl (fun _ => 0)))] H := hP
  have hD : va_D A9 [(h0, .inr (0, [.ref a0, .null, .null, .null, .null, .null])), (a0, .inl (c0, 16, .inl (fun _ => 0)))] := hD
  refine lv_aload_n hx hb dX_init_12 rfl (lv_at hl 0 rfl) ?_
  refine lv_bipush (v := 16) hx hb dX_init_13 (by decide) ?_
  refine va_newa (atype := .int) (ty := .int) (a0 := (16, .inl (fun _ => 0))) (N' := 16) hx hb (hts _ w_48) rfl hK hP hD hS hA (fun _ => rfl) (by decide) (by decide) (by decide) (Nat.le_of_ble_eq_true rfl) (Nat.le_of_ble_eq_true rfl) dX_init_15 (fun a1 c1 H hK hP hD hS => ?_)
  have hP : va_P D vwCl [(h0, .inr (0, [.ref a0, .null, .null, .null, .null, .null])), (a0, .inl (c0, 16, .inl (fun _ => 0))), (a1, .inl (c1, 16, .inl (fun _ => 0)))] H := hP
  have hD : va_D A9 [(h0, .inr (0, [.ref a0, .null, .null, .null, .null, .null])), (a0, .inl (c0, 16, .inl (fun _ => 0))), (a1, .inl (c1, 16, .inl (fun _ => 0)))] := hD
  have hK : va_K D vwCl [(c0, .int), (c1, .int)] s := hK
  refine W.eq (g2 := F0 m 17 ls [.ref a1, .ref h0]) rfl ?_
  refine va_putF (D := D) (ci := 0) (v := .ref a1) (ty := .array .int) (C := RX) (T := TX) (N := 6) hx hb hts inX tyX tyX_ok nmX hown hK hP hD hS 0 rfl rfl 1 (by decide) (hts _ w_30) (fun _ h9 => h9) rfl hin rfl (by decide +kernel) rfl rfl (Nat.le_of_ble_eq_true rfl) dX_init_17 (fun H locs hP hD hS => ?_)
  have hP : va_P D vwCl [(h0, .inr (0, [.ref a0, .ref a1, .null, .null, .null, .null])), (a0, .inl (c0, 16, .inl (fun _ => 0))), (a1, .inl (c1, 16, .inl (fun _ => 0)))] H := hP
  have hD : va_D A9 [(h0, .inr (0, [.ref a0, .ref a1, .null, .null, .null, .null])), (a0, .inl (c0, 16, .inl (fun _ => 0))), (a1, .inl (c1, 16, .inl (fun _ => 0)))] := hD
  refine lv_aload_n hx hb dX_init_20 rfl (lv_at hl 0 rfl) ?_
  refine lv_bipush (v := 16) hx hb dX_init_21 (by decide) ?_
  refine va_newa (atype := .int) (ty := .int) (a0 := (16, .inl (fun _ => 0))) (N' := 16) hx hb (hts _ w_48) rfl hK hP hD hS hA (fun _ => rfl) (by decide) (by decide) (by decide) (Nat.le_of_ble_eq_true rfl) (Nat.le_of_ble_eq_true rfl) dX_init_23 (fun a2 c2 H hK hP hD hS => ?_)
  have hP : va_P D vwCl [(h0, .inr (0, [.ref a0, .ref a1, .null, .null, .null, .null])), (a0, .inl (c0, 16, .inl (fun _ => 0))), (a1, .inl (c1, 16, .inl (fun _ => 0))), (a2, .inl (c2, 16, .inl (fun _ => 0)))] H := hP
  have hD : va_D A9 [(h0, .inr (0, [.ref a0, .ref a1, .null, .null, .null, .null])), (a0, .inl (c0, 16, .inl (fun _ => 0))), (a1, .inl (c1, 16, .inl (fun _ => 0))), (a2, .inl (c2, 16, .inl (fun _ => 0)))] := hD
  have hK : va_K D vwCl [(c0, .int), (c1, .int), (c2, .int)] s := hK
  refine W.eq (g2 := F0 m 25 ls [.ref a2, .ref h0]) rfl ?_
  refine va_putF (D := D) (ci := 0) (v := .ref a2) (ty := .array .int) (C := RX) (T := TX) (N := 6) hx hb hts inX tyX tyX_ok nmX hown hK hP hD hS 0 rfl rfl 2 (by decide) (hts _ w_31) (fun _ h9 => h9) rfl hin rfl (by decide +kernel) rfl rfl (Nat.le_of_ble_eq_true rfl) dX_init_25 (fun H locs hP hD hS => ?_)
  have hP : va_P D vwCl [(h0, .inr (0, [.ref a0, .ref a1, .ref a2, .null, .null, .null])), (a0, .inl (c0, 16, .inl (fun _ => 0))), (a1, .inl (c1, 16, .inl (fun _ => 0))), (a2, .inl (c2, 16, .inl (fun _ => 0)))] H := hP
  have hD : va_D A9 [(h0, .inr (0, [.ref a0, .ref a1, .ref a2, .null, .null, .null])), (a0, .inl (c0, 16, .inl (fun _ => 0))), (a1, .inl (c1, 16, .inl (fun _ => 0))), (a2, .inl (c2, 16, .inl (fun _ => 0)))] := hD
  refine lv_aload_n hx hb dX_init_28 rfl (lv_at hl 0 rfl) ?_
  refine lv_bipush (v := 16) hx hb dX_init_29 (by decide) ?_
  refine va_newa (atype := .int) (ty := .int) (a0 := (16, .inl (fun _ => 0))) (N' := 16) hx hb (hts _ w_48) rfl hK hP hD hS hA (fun _ => rfl) (by decide) (by decide) (by decide) (Nat.le_of_ble_eq_true rfl) (Nat.le_of_ble_eq_true rfl) dX_init_31 (fun a3 c3 H hK hP hD hS => ?_)
  have hP : va_P D vwCl [(h0, .inr (0, [.ref a0, .ref a1, .ref a2, .null, .null, .null])), (a0, .inl (c0, 16, .inl (fun _ => 0))), (a1, .inl (c1, 16, .inl (fun _ => 0))), (a2, .inl (c2, 16, .inl (fun _ => 0))), (a3, .inl (c3, 16, .inl (fun _ => 0)))] H := hP
  have hD : va_D A9 [(h0, .inr (0, [.ref a0, .ref a1, .ref a2, .null, .null, .null])), (a0, .inl (c0, 16, .inl (fun _ => 0))), (a1, .inl (c1, 16, .inl (fun _ => 0))), (a2, .inl (c2, 16, .inl (fun _ => 0))), (a3, .inl (c3, 16, .inl (fun _ => 0)))] := hD
  have hK : va_K D vwCl [(c0, .int), (c1, .int), (c2, .int), (c3, .int)] s := hK
  refine W.eq (g2 := F0 m 33 ls [.ref a3, .ref h0]) rfl ?_
  refine va_putF (D := D) (ci := 0) (v := .ref a3) (ty := .array .int) (C := RX) (T := TX) (N := 6) hx hb hts inX tyX tyX_ok nmX hown hK hP hD hS 0 rfl rfl 3 (by decide) (hts _ w_32) (fun _ h9 => h9) rfl hin rfl (by decide +kernel) rfl rfl (Nat.le_of_ble_eq_true rfl) dX_init_33 (fun H locs hP hD hS => ?_)
  have hP : va_P D vwCl [(h0, .inr (0, [.ref a0, .ref a1, .ref a2, .ref a3, .null, .null])), (a0, .inl (c0, 16, .inl (fun _ => 0))), (a1, .inl (c1, 16, .inl (fun _ => 0))), (a2, .inl (c2, 16, .inl (fun _ => 0))), (a3, .inl (c3, 16, .inl (fun _ => 0)))] H := hP
  have hD : va_D A9 [(h0, .inr (0, [.ref a0, .ref a1, .ref a2, .ref a3, .null, .null])), (a0, .inl (c0, 16, .inl (fun _ => 0))), (a1, .inl (c1, 16, .inl (fun _ => 0))), (a2, .inl (c2, 16, .inl (fun _ => 0))), (a3, .inl (c3, 16, .inl (fun _ => 0)))] := hD
  refine lv_aload_n hx hb dX_init_36 rfl (lv_at hl 0 rfl) ?_
  refine lv_bipush (v := 16) hx hb dX_init_37 (by decide) ?_
  refine va_newa (atype := .int) (ty := .int) (a0 := (16, .inl (fun _ => 0))) (N' := 16) hx hb (hts _ w_48) rfl hK hP hD hS hA (fun _ => rfl) (by decide) (by decide) (by decide) (Nat.le_of_ble_eq_true rfl) (Nat.le_of_ble_eq_true rfl) dX_init_39 (fun a4 c4 H hK hP hD hS => ?_)
  have hP : va_P D vwCl [(h0, .inr (0, [.ref a0, .ref a1, .ref a2, .ref a3, .null, .null])), (a0, .inl (c0, 16, .inl (fun _ => 0))), (a1, .inl (c1, 16, .inl (fun _ => 0))), (a2, .inl (c2, 16, .inl (fun _ => 0))), (a3, .inl (c3, 16, .inl (fun _ => 0))), (a4, .inl (c4, 16, .inl (fun _ => 0)))] H := hP
  have hD : va_D A9 [(h0, .inr (0, [.ref a0, .ref a1, .ref a2, .ref a3, .null, .null])), (a0, .inl (c0, 16, .inl (fun _ => 0))), (a1, .inl (c1, 16, .inl (fun _ => 0))), (a2, .inl (c2, 16, .inl (fun _ => 0))), (a3, .inl (c3, 16, .inl (fun _ => 0))), (a4, .inl (c4, 16, .inl (fun _ => 0)))] := hD
  have hK : va_K D vwCl [(c0, .int), (c1, .int), (c2, .int), (c3, .int), (c4, .int)] s := hK
  refine W.eq (g2 := F0 m 41 ls [.ref a4, .ref h0]) rfl ?_
  refine va_putF (D := D) (ci := 0) (v := .ref a4) (ty := .array .int) (C := RX) (T := TX) (N := 6) hx hb hts inX tyX tyX_ok nmX hown hK hP hD hS 0 rfl rfl 4 (by decide) (hts _ w_33) (fun _ h9 => h9) rfl hin rfl (by decide +kernel) rfl rfl (Nat.le_of_ble_eq_true rfl) dX_init_41 (fun H locs hP hD hS => ?_)
  have hP : va_P D vwCl [(h0, .inr (0, [.ref a0, .ref a1, .ref a2, .ref a3, .ref a4, .null])), (a0, .inl (c0, 16, .inl (fun _ => 0))), (a1, .inl (c1, 16, .inl (fun _ => 0))), (a2, .inl (c2, 16, .inl (fun _ => 0))), (a3, .inl (c3, 16, .inl (fun _ => 0))), (a4, .inl (c4, 16, .inl (fun _ => 0)))] H := hP
  have hD : va_D A9 [(h0, .inr (0, [.ref a0, .ref a1, .ref a2, .ref a3, .ref a4, .null])), (a0, .inl (c0, 16, .inl (fun _ => 0))), (a1, .inl (c1, 16, .inl (fun _ => 0))), (a2, .inl (c2, 16, .inl (fun _ => 0))), (a3, .inl (c3, 16, .inl (fun _ => 0))), (a4, .inl (c4, 16, .inl (fun _ => 0)))] := hD
  refine lv_aload_n hx hb dX_init_44 rfl (lv_at hl 0 rfl) ?_
  refine lv_bipush (v := 16) hx hb dX_init_45 (by decide) ?_
  refine va_newa (atype := .boolean) (ty := .boolean) (a0 := (16, .inl (fun _ => 0))) (N' := 16) hx hb (hts _ w_49) rfl hK hP hD hS hA (fun _ => rfl) (by decide) (by decide) (by decide) (Nat.le_of_ble_eq_true rfl) (Nat.le_of_ble_eq_true rfl) dX_init_47 (fun a5 c5 H hK hP hD hS => ?_)
  have hP : va_P D vwCl [(h0, .inr (0, [.ref a0, .ref a1, .ref a2, .ref a3, .ref a4, .null])), (a0, .inl (c0, 16, .inl (fun _ => 0))), (a1, .inl (c1, 16, .inl (fun _ => 0))), (a2, .inl (c2, 16, .inl (fun _ => 0))), (a3, .inl (c3, 16, .inl (fun _ => 0))), (a4, .inl (c4, 16, .inl (fun _ => 0))), (a5, .inl (c5, 16, .inl (fun _ => 0)))] H := hP
  have hD : va_D A9 [(h0, .inr (0, [.ref a0, .ref a1, .ref a2, .ref a3, .ref a4, .null])), (a0, .inl (c0, 16, .inl (fun _ => 0))), (a1, .inl (c1, 16, .inl (fun _ => 0))), (a2, .inl (c2, 16, .inl (fun _ => 0))), (a3, .inl (c3, 16, .inl (fun _ => 0))), (a4, .inl (c4, 16, .inl (fun _ => 0))), (a5, .inl (c5, 16, .inl (fun _ => 0)))] := hD
  have hK : va_K D vwCl [(c0, .int), (c1, .int), (c2, .int), (c3, .int), (c4, .int), (c5, .boolean)] s := hK
  refine W.eq (g2 := F0 m 49 ls [.ref a5, .ref h0]) rfl ?_
  refine va_putF (D := D) (ci := 0) (v := .ref a5) (ty := .array .boolean) (C := RX) (T := TX) (N := 6) hx hb hts inX tyX tyX_ok nmX hown hK hP hD hS 0 rfl rfl 5 (by decide) (hts _ w_34) (fun _ h9 => h9) rfl hin rfl (by decide +kernel) rfl rfl (Nat.le_of_ble_eq_true rfl) dX_init_49 (fun H locs hP hD hS => ?_)
  have hP : va_P D vwCl [(h0, .inr (0, [.ref a0, .ref a1, .ref a2, .ref a3, .ref a4, .ref a5])), (a0, .inl (c0, 16, .inl (fun _ => 0))), (a1, .inl (c1, 16, .inl (fun _ => 0))), (a2, .inl (c2, 16, .inl (fun _ => 0))), (a3, .inl (c3, 16, .inl (fun _ => 0))), (a4, .inl (c4, 16, .inl (fun _ => 0))), (a5, .inl (c5, 16, .inl (fun _ => 0)))] H := hP
  have hD : va_D A9 [(h0, .inr (0, [.ref a0, .ref a1, .ref a2, .ref a3, .ref a4, .ref a5])), (a0, .inl (c0, 16, .inl (fun _ => 0))), (a1, .inl (c1, 16, .inl (fun _ => 0))), (a2, .inl (c2, 16, .inl (fun _ => 0))), (a3, .inl (c3, 16, .inl (fun _ => 0))), (a4, .inl (c4, 16, .inl (fun _ => 0))), (a5, .inl (c5, 16, .inl (fun _ => 0)))] := hD
  obtain rfl : c0 = c1 := Option.some.inj ((va_nm_int (hK.2 0 _ rfl).2).symm.trans (va_nm_int (hK.2 1 _ rfl).2))
  obtain rfl : c0 = c2 := Option.some.inj ((va_nm_int (hK.2 0 _ rfl).2).symm.trans (va_nm_int (hK.2 2 _ rfl).2))
  obtain rfl : c0 = c3 := Option.some.inj ((va_nm_int (hK.2 0 _ rfl).2).symm.trans (va_nm_int (hK.2 3 _ rfl).2))
  obtain rfl : c0 = c4 := Option.some.inj ((va_nm_int (hK.2 0 _ rfl).2).symm.trans (va_nm_int (hK.2 4 _ rfl).2))
  have hK := hK.sub (tys' := [(c0, .int), (c5, .boolean)]) [0, 5] rfl
  refine W.widen (k := 6) (n := 96) (Nat.le_of_ble_eq_true rfl) (Nat.le_of_ble_eq_true rfl) ?_
  exact W.vret hx hb hr (fun t9 ht hW => ⟨⟨(fun k => match k with | 0 => h0 | 1 => a0 | 2 => a1 | 3 => a2 | 4 => a3 | 5 => a4 | _ => a5, c0, c5), rfl, rfl, by rw [ht]; exact hP, va_K.moved hW.alike hK, hD⟩, hS.F ht⟩) hS.2.2 dX_init_52

set_option maxRecDepth 100000 in
set_option maxHeartbeats 4000000 in
theorem mM_init (l : Launch) (D : va_G) (h0 sz : Nat) : Met l yM_init (Cond.code yM_init cM_init 1 none :: gw) (rmk 1 6 96) (va_Pc [.ref h0] (fun U => U.heap.size = sz ∧ va_P D vwCl [(h0, .inr (1, [.int 0, .null, .null, .null, .null, .null, .null]))] U.heap ∧ va_K D vwCl [] U ∧ va_D (fun _ => True) [(h0, .inr (1, [.int 0, .null, .null, .null, .null, .null, .null]))])) (va_Qv (fun u : (Nat → Nat) × ClassId × ClassId × ClassId => u.1 0 = h0) (fun u t => va_P D vwCl (mW u.2.1 u.2.2.1 u.2.2.2 u.1 0 (fun _ => 0) (fun _ => 0) (fun _ => 0) (fun _ => 0) (fun _ => 0) (fun _ => false)) t.heap ∧ va_K D vwCl (tsM u.2.1 u.2.2.1 u.2.2.2) t ∧ va_D (va_A [(h0, .inr (1, [.int 0, .null, .null, .null, .null, .null, .null]))] sz) (mW u.2.1 u.2.2.1 u.2.2.2 u.1 0 (fun _ => 0) (fun _ => 0) (fun _ => 0) (fun _ => 0) (fun _ => 0) (fun _ => false))) (va_A [(h0, .inr (1, [.int 0, .null, .null, .null, .null, .null, .null]))] sz)) 6 96 (va_A [(h0, .inr (1, [.int 0, .null, .null, .null, .null, .null, .null]))] sz) := by
  refine Met.ofW (cc := cM_init) (maxL := 1) (ret := none) (by decide) rfl ?_
  intro p e s m args below meth c s₁ B9 hml hv
  obtain ⟨rfl, hsz, hP, hK, hD0⟩ := hv
  have hx := B9.exec
  have hb := B9.bytes
  have hr := B9.returns
  have hts := fun (w : Cond) (h : w ∈ gw) => atoms_spec (ws := _ :: gw) B9.pre w (List.mem_cons_of_mem _ h)
  have hown : s.vm.findClass RM = some m.cls := findClass_of_methodNamed B9.named
  have hlocks := B9.notSynchronized
  have hl := lv_entry ([.ref (h0)]) (n := 1) (Nat.le_of_ble_eq_true rfl)
  rw [lg_entry_eq]
  generalize (lg_sl ([.ref (h0)]) ++ List.replicate (1 - (lg_sl ([.ref (h0)])).length) Slot.unset).toArray = ls at hl ⊢
  have hl : lv_has ls 1 [(0, .ref (h0))] := hl
  have hin : meth.name = "<init>" := (name_of_methodNamed B9.named B9.method).1
  subst hsz
  have hD := hD0.self (sz := s.heap.size)
  generalize hAe : va_A [(h0, .inr (1, [.int 0, .null, .null, .null, .null, .null, .null]))] s.heap.size = A9 at hD ⊢
  have hA : ∀ z : Nat, s.heap.size ≤ z → A9 z := fun z h => by rw [← hAe]; exact Or.inr h
  have hS : va_S A9 s.heap s.heap [] := va_S.rf
  refine lv_aload_n hx hb dM_init_0 rfl (lv_at hl 0 rfl) ?_
  refine W.objInit hx hb hown (hts _ w_254) (hts _ w_27) (hts _ w_28) rfl (by rw [hml]; exact hl.1) rfl dM_init_1 (Nat.le_of_ble_eq_true rfl) (Nat.le_of_ble_eq_true rfl) ?_
  refine W.eq (g2 := F0 m 4 ls []) rfl ?_
  refine lv_aload_n hx hb dM_init_4 rfl (lv_at hl 0 rfl) ?_
  refine lv_bipush (v := 16) hx hb dM_init_5 (by decide) ?_
  refine va_newa (atype := .long) (ty := .long) (a0 := (16, .inr (.inl (fun _ => 0)))) (N' := 16) hx hb (hts _ w_277) rfl hK hP hD hS hA (fun _ => rfl) (by decide) (by decide) (by decide) (Nat.le_of_ble_eq_true rfl) (Nat.le_of_ble_eq_true rfl) dM_init_7 (fun a0 c0 H hK hP hD hS => ?_)
  have hP : va_P D vwCl [(h0, .inr (1, [.int 0, .null, .null, .null, .null, .null, .null])), (a0, .inl (c0, 16, .inr (.inl (fun _ => 0))))] H := hP
  have hD : va_D A9 [(h0, .inr (1, [.int 0, .null, .null, .null, .null, .null, .null])), (a0, .inl (c0, 16, .inr (.inl (fun _ => 0))))] := hD
  have hK : va_K D vwCl [(c0, .long)] s := hK
  refine W.eq (g2 := F0 m 9 ls [.ref a0, .ref h0]) rfl ?_
  refine va_putF (D := D) (ci := 1) (v := .ref a0) (ty := .array .long) (C := RM) (T := TM) (N := 7) hx hb hts inM tyM tyM_ok nmM hown hK hP hD hS 0 rfl rfl 1 (by decide) (hts _ w_256) (fun _ h9 => h9) rfl hin rfl (by decide +kernel) rfl rfl (Nat.le_of_ble_eq_true rfl) dM_init_9 (fun H locs hP hD hS => ?_)
  have hP : va_P D vwCl [(h0, .inr (1, [.int 0, .ref a0, .null, .null, .null, .null, .null])), (a0, .inl (c0, 16, .inr (.inl (fun _ => 0))))] H := hP
  have hD : va_D A9 [(h0, .inr (1, [.int 0, .ref a0, .null, .null, .null, .null, .null])), (a0, .inl (c0, 16, .inr (.inl (fun _ => 0))))] := hD
  refine lv_aload_n hx hb dM_init_12 rfl (lv_at hl 0 rfl) ?_
  refine lv_bipush (v := 16) hx hb dM_init_13 (by decide) ?_
  refine va_newa (atype := .long) (ty := .long) (a0 := (16, .inr (.inl (fun _ => 0)))) (N' := 16) hx hb (hts _ w_277) rfl hK hP hD hS hA (fun _ => rfl) (by decide) (by decide) (by decide) (Nat.le_of_ble_eq_true rfl) (Nat.le_of_ble_eq_true rfl) dM_init_15 (fun a1 c1 H hK hP hD hS => ?_)
  have hP : va_P D vwCl [(h0, .inr (1, [.int 0, .ref a0, .null, .null, .null, .null, .null])), (a0, .inl (c0, 16, .inr (.inl (fun _ => 0)))), (a1, .inl (c1, 16, .inr (.inl (fun _ => 0))))] H := hP
  have hD : va_D A9 [(h0, .inr (1, [.int 0, .ref a0, .null, .null, .null, .null, .null])), (a0, .inl (c0, 16, .inr (.inl (fun _ => 0)))), (a1, .inl (c1, 16, .inr (.inl (fun _ => 0))))] := hD
  have hK : va_K D vwCl [(c0, .long), (c1, .long)] s := hK
  refine W.eq (g2 := F0 m 17 ls [.ref a1, .ref h0]) rfl ?_
  refine va_putF (D := D) (ci := 1) (v := .ref a1) (ty := .array .long) (C := RM) (T := TM) (N := 7) hx hb hts inM tyM tyM_ok nmM hown hK hP hD hS 0 rfl rfl 2 (by decide) (hts _ w_257) (fun _ h9 => h9) rfl hin rfl (by decide +kernel) rfl rfl (Nat.le_of_ble_eq_true rfl) dM_init_17 (fun H locs hP hD hS => ?_)
  have hP : va_P D vwCl [(h0, .inr (1, [.int 0, .ref a0, .ref a1, .null, .null, .null, .null])), (a0, .inl (c0, 16, .inr (.inl (fun _ => 0)))), (a1, .inl (c1, 16, .inr (.inl (fun _ => 0))))] H := hP
  have hD : va_D A9 [(h0, .inr (1, [.int 0, .ref a0, .ref a1, .null, .null, .null, .null])), (a0, .inl (c0, 16, .inr (.inl (fun _ => 0)))), (a1, .inl (c1, 16, .inr (.inl (fun _ => 0))))] := hD
  refine lv_aload_n hx hb dM_init_20 rfl (lv_at hl 0 rfl) ?_
  refine lv_bipush (v := 16) hx hb dM_init_21 (by decide) ?_
  refine va_newa (atype := .long) (ty := .long) (a0 := (16, .inr (.inl (fun _ => 0)))) (N' := 16) hx hb (hts _ w_277) rfl hK hP hD hS hA (fun _ => rfl) (by decide) (by decide) (by decide) (Nat.le_of_ble_eq_true rfl) (Nat.le_of_ble_eq_true rfl) dM_init_23 (fun a2 c2 H hK hP hD hS => ?_)
  have hP : va_P D vwCl [(h0, .inr (1, [.int 0, .ref a0, .ref a1, .null, .null, .null, .null])), (a0, .inl (c0, 16, .inr (.inl (fun _ => 0)))), (a1, .inl (c1, 16, .inr (.inl (fun _ => 0)))), (a2, .inl (c2, 16, .inr (.inl (fun _ => 0))))] H := hP
  have hD : va_D A9 [(h0, .inr (1, [.int 0, .ref a0, .ref a1, .null, .null, .null, .null])), (a0, .inl (c0, 16, .inr (.inl (fun _ => 0)))), (a1, .inl (c1, 16, .inr (.inl (fun _ => 0)))), (a2, .inl (c2, 16, .inr (.inl (fun _ => 0))))] := hD
  have hK : va_K D vwCl [(c0, .long), (c1, .long), (c2, .long)] s := hK
  refine W.eq (g2 := F0 m 25 ls [.ref a2, .ref h0]) rfl ?_
  refine va_putF (D := D) (ci := 1) (v := .ref a2) (ty := .array .long) (C := RM) (T := TM) (N := 7) hx hb hts inM tyM tyM_ok nmM hown hK hP hD hS 0 rfl rfl 3 (by decide) (hts _ w_258) (fun _ h9 => h9) rfl hin rfl (by decide +kernel) rfl rfl (Nat.le_of_ble_eq_true rfl) dM_init_25 (fun H locs hP hD hS => ?_)
  have hP : va_P D vwCl [(h0, .inr (1, [.int 0, .ref a0, .ref a1, .ref a2, .null, .null, .null])), (a0, .inl (c0, 16, .inr (.inl (fun _ => 0)))), (a1, .inl (c1, 16, .inr (.inl (fun _ => 0)))), (a2, .inl (c2, 16, .inr (.inl (fun _ => 0))))] H := hP
  have hD : va_D A9 [(h0, .inr (1, [.int 0, .ref a0, .ref a1, .ref a2, .null, .null, .null])), (a0, .inl (c0, 16, .inr (.inl (fun _ => 0)))), (a1, .inl (c1, 16, .inr (.inl (fun _ => 0)))), (a2, .inl (c2, 16, .inr (.inl (fun _ => 0))))] := hD
  refine lv_aload_n hx hb dM_init_28 rfl (lv_at hl 0 rfl) ?_
  refine lv_bipush (v := 16) hx hb dM_init_29 (by decide) ?_
  refine va_newa (atype := .int) (ty := .int) (a0 := (16, .inl (fun _ => 0))) (N' := 16) hx hb (hts _ w_48) rfl hK hP hD hS hA (fun _ => rfl) (by decide) (by decide) (by decide) (Nat.le_of_ble_eq_true rfl) (Nat.le_of_ble_eq_true rfl) dM_init_31 (fun a3 c3 H hK hP hD hS => ?_)
  have hP : va_P D vwCl [(h0, .inr (1, [.int 0, .ref a0, .ref a1, .ref a2, .null, .null, .null])), (a0, .inl (c0, 16, .inr (.inl (fun _ => 0)))), (a1, .inl (c1, 16, .inr (.inl (fun _ => 0)))), (a2, .inl (c2, 16, .inr (.inl (fun _ => 0)))), (a3, .inl (c3, 16, .inl (fun _ => 0)))] H := hP
  have hD : va_D A9 [(h0, .inr (1, [.int 0, .ref a0, .ref a1, .ref a2, .null, .null, .null])), (a0, .inl (c0, 16, .inr (.inl (fun _ => 0)))), (a1, .inl (c1, 16, .inr (.inl (fun _ => 0)))), (a2, .inl (c2, 16, .inr (.inl (fun _ => 0)))), (a3, .inl (c3, 16, .inl (fun _ => 0)))] := hD
  have hK : va_K D vwCl [(c0, .long), (c1, .long), (c2, .long), (c3, .int)] s := hK
  refine W.eq (g2 := F0 m 33 ls [.ref a3, .ref h0]) rfl ?_
  refine va_putF (D := D) (ci := 1) (v := .ref a3) (ty := .array .int) (C := RM) (T := TM) (N := 7) hx hb hts inM tyM tyM_ok nmM hown hK hP hD hS 0 rfl rfl 4 (by decide) (hts _ w_259) (fun _ h9 => h9) rfl hin rfl (by decide +kernel) rfl rfl (Nat.le_of_ble_eq_true rfl) dM_init_33 (fun H locs hP hD hS => ?_)
  have hP : va_P D vwCl [(h0, .inr (1, [.int 0, .ref a0, .ref a1, .ref a2, .ref a3, .null, .null])), (a0, .inl (c0, 16, .inr (.inl (fun _ => 0)))), (a1, .inl (c1, 16, .inr (.inl (fun _ => 0)))), (a2, .inl (c2, 16, .inr (.inl (fun _ => 0)))), (a3, .inl (c3, 16, .inl (fun _ => 0)))] H := hP
  have hD : va_D A9 [(h0, .inr (1, [.int 0, .ref a0, .ref a1, .ref a2, .ref a3, .null, .null])), (a0, .inl (c0, 16, .inr (.inl (fun _ => 0)))), (a1, .inl (c1, 16, .inr (.inl (fun _ => 0)))), (a2, .inl (c2, 16, .inr (.inl (fun _ => 0)))), (a3, .inl (c3, 16, .inl (fun _ => 0)))] := hD
  refine lv_aload_n hx hb dM_init_36 rfl (lv_at hl 0 rfl) ?_
  refine lv_bipush (v := 16) hx hb dM_init_37 (by decide) ?_
  refine va_newa (atype := .int) (ty := .int) (a0 := (16, .inl (fun _ => 0))) (N' := 16) hx hb (hts _ w_48) rfl hK hP hD hS hA (fun _ => rfl) (by decide) (by decide) (by decide) (Nat.le_of_ble_eq_true rfl) (Nat.le_of_ble_eq_true rfl) dM_init_39 (fun a4 c4 H hK hP hD hS => ?_)
  have hP : va_P D vwCl [(h0, .inr (1, [.int 0, .ref a0, .ref a1, .ref a2, .ref a3, .null, .null])), (a0, .inl (c0, 16, .inr (.inl (fun _ => 0)))), (a1, .inl (c1, 16, .inr (.inl (fun _ => 0)))), (a2, .inl (c2, 16, .inr (.inl (fun _ => 0)))), (a3, .inl (c3, 16, .inl (fun _ => 0))), (a4, .inl (c4, 16, .inl (fun _ => 0)))] H := hP
  have hD : va_D A9 [(h0, .inr (1, [.int 0, .ref a0, .ref a1, .ref a2, .ref a3, .null, .null])), (a0, .inl (c0, 16, .inr (.inl (fun _ => 0)))), (a1, .inl (c1, 16, .inr (.inl (fun _ => 0)))), (a2, .inl (c2, 16, .inr (.inl (fun _ => 0)))), (a3, .inl (c3, 16, .inl (fun _ => 0))), (a4, .inl (c4, 16, .inl (fun _ => 0)))] := hD
  have hK : va_K D vwCl [(c0, .long), (c1, .long), (c2, .long), (c3, .int), (c4, .int)] s := hK
  refine W.eq (g2 := F0 m 41 ls [.ref a4, .ref h0]) rfl ?_
  refine va_putF (D := D) (ci := 1) (v := .ref a4) (ty := .array .int) (C := RM) (T := TM) (N := 7) hx hb hts inM tyM tyM_ok nmM hown hK hP hD hS 0 rfl rfl 5 (by decide) (hts _ w_260) (fun _ h9 => h9) rfl hin rfl (by decide +kernel) rfl rfl (Nat.le_of_ble_eq_true rfl) dM_init_41 (fun H locs hP hD hS => ?_)
  have hP : va_P D vwCl [(h0, .inr (1, [.int 0, .ref a0, .ref a1, .ref a2, .ref a3, .ref a4, .null])), (a0, .inl (c0, 16, .inr (.inl (fun _ => 0)))), (a1, .inl (c1, 16, .inr (.inl (fun _ => 0)))), (a2, .inl (c2, 16, .inr (.inl (fun _ => 0)))), (a3, .inl (c3, 16, .inl (fun _ => 0))), (a4, .inl (c4, 16, .inl (fun _ => 0)))] H := hP
  have hD : va_D A9 [(h0, .inr (1, [.int 0, .ref a0, .ref a1, .ref a2, .ref a3, .ref a4, .null])), (a0, .inl (c0, 16, .inr (.inl (fun _ => 0)))), (a1, .inl (c1, 16, .inr (.inl (fun _ => 0)))), (a2, .inl (c2, 16, .inr (.inl (fun _ => 0)))), (a3, .inl (c3, 16, .inl (fun _ => 0))), (a4, .inl (c4, 16, .inl (fun _ => 0)))] := hD
  refine lv_aload_n hx hb dM_init_44 rfl (lv_at hl 0 rfl) ?_
  refine lv_bipush (v := 16) hx hb dM_init_45 (by decide) ?_
  refine va_newa (atype := .boolean) (ty := .boolean) (a0 := (16, .inl (fun _ => 0))) (N' := 16) hx hb (hts _ w_49) rfl hK hP hD hS hA (fun _ => rfl) (by decide) (by decide) (by decide) (Nat.le_of_ble_eq_true rfl) (Nat.le_of_ble_eq_true rfl) dM_init_47 (fun a5 c5 H hK hP hD hS => ?_)
  have hP : va_P D vwCl [(h0, .inr (1, [.int 0, .ref a0, .ref a1, .ref a2, .ref a3, .ref a4, .null])), (a0, .inl (c0, 16, .inr (.inl (fun _ => 0)))), (a1, .inl (c1, 16, .inr (.inl (fun _ => 0)))), (a2, .inl (c2, 16, .inr (.inl (fun _ => 0)))), (a3, .inl (c3, 16, .inl (fun _ => 0))), (a4, .inl (c4, 16, .inl (fun _ => 0))), (a5, .inl (c5, 16, .inl (fun _ => 0)))] H := hP
  have hD : va_D A9 [(h0, .inr (1, [.int 0, .ref a0, .ref a1, .ref a2, .ref a3, .ref a4, .null])), (a0, .inl (c0, 16, .inr (.inl (fun _ => 0)))), (a1, .inl (c1, 16, .inr (.inl (fun _ => 0)))), (a2, .inl (c2, 16, .inr (.inl (fun _ => 0)))), (a3, .inl (c3, 16, .inl (fun _ => 0))), (a4, .inl (c4, 16, .inl (fun _ => 0))), (a5, .inl (c5, 16, .inl (fun _ => 0)))] := hD
  have hK : va_K D vwCl [(c0, .long), (c1, .long), (c2, .long), (c3, .int), (c4, .int), (c5, .boolean)] s := hK
  refine W.eq (g2 := F0 m 49 ls [.ref a5, .ref h0]) rfl ?_
  refine va_putF (D := D) (ci := 1) (v := .ref a5) (ty := .array .boolean) (C := RM) (T := TM) (N := 7) hx hb hts inM tyM tyM_ok nmM hown hK hP hD hS 0 rfl rfl 6 (by decide) (hts _ w_261) (fun _ h9 => h9) rfl hin rfl (by decide +kernel) rfl rfl (Nat.le_of_ble_eq_true rfl) dM_init_49 (fun H locs hP hD hS => ?_)
  have hP : va_P D vwCl [(h0, .inr (1, [.int 0, .ref a0, .ref a1, .ref a2, .ref a3, .ref a4, .ref a5])), (a0, .inl (c0, 16, .inr (.inl (fun _ => 0)))), (a1, .inl (c1, 16, .inr (.inl (fun _ => 0)))), (a2, .inl (c2, 16, .inr (.inl (fun _ => 0)))), (a3, .inl (c3, 16, .inl (fun _ => 0))), (a4, .inl (c4, 16, .inl (fun _ => 0))), (a5, .inl (c5, 16, .inl (fun _ => 0)))] H := hP
  have hD : va_D A9 [(h0, .inr (1, [.int 0, .ref a0, .ref a1, .ref a2, .ref a3, .ref a4, .ref a5])), (a0, .inl (c0, 16, .inr (.inl (fun _ => 0)))), (a1, .inl (c1, 16, .inr (.inl (fun _ => 0)))), (a2, .inl (c2, 16, .inr (.inl (fun _ => 0)))), (a3, .inl (c3, 16, .inl (fun _ => 0))), (a4, .inl (c4, 16, .inl (fun _ => 0))), (a5, .inl (c5, 16, .inl (fun _ => 0)))] := hD
  obtain rfl : c0 = c1 := Option.some.inj ((va_nm_long (hK.2 0 _ rfl).2).symm.trans (va_nm_long (hK.2 1 _ rfl).2))
  obtain rfl : c0 = c2 := Option.some.inj ((va_nm_long (hK.2 0 _ rfl).2).symm.trans (va_nm_long (hK.2 2 _ rfl).2))
  obtain rfl : c3 = c4 := Option.some.inj ((va_nm_int (hK.2 3 _ rfl).2).symm.trans (va_nm_int (hK.2 4 _ rfl).2))
  have hK := hK.sub (tys' := [(c0, .long), (c3, .int), (c5, .boolean)]) [0, 3, 5] rfl
  refine W.widen (k := 6) (n := 96) (Nat.le_of_ble_eq_true rfl) (Nat.le_of_ble_eq_true rfl) ?_
  exact W.vret hx hb hr (fun t9 ht hW => ⟨⟨(fun k => match k with | 0 => h0 | 1 => a0 | 2 => a1 | 3 => a2 | 4 => a3 | 5 => a4 | _ => a5, c0, c3, c5), rfl, rfl, by rw [ht]; exact hP, va_K.moved hW.alike hK, hD⟩, hS.F ht⟩) hS.2.2 dM_init_52
end
section
/-! For the reference: a call over up to 16 words of the caller's stack; longs; bits. -/
section KM
variable {p : Program} {l : Launch} {e : Env} {R : Room} {s : State} {m : MethodId} {args : Array Value} {below : List Frame} {meth : Method} {c : Code} {H : Heap} {locs : List Loc} {cells slots : Nat} {Q : State → Prop}
variable {y : MethodName} {bytes cc : ByteArray} {maxL nL mc ms index : Nat} {ret : Option FieldType} {rm : Room} {own C : String} {b : Addr} {As rest st0 : List Value} {pc : Nat} {ls : Array Slot} {B : State → Prop} {r : Value}
theorem kr_Vw (n : Nat) (hx : p.tables.exec = Jvm.exec) (hb : c.code = cc) (hml : c.maxLocals = nL) (hown : s.vm.findClass own = some m.cls) (hts : ∀ w ∈ gw, w.before args s = true) (hl : ls.size = nL)
    (hM : Met l y (Cond.code y bytes maxL ret :: gw) rm (va_Pc (.ref b :: As) B) (k2_QcV r) 0 0 (fun _ => False)) (hst : Stb B) (hB : B ({ s with heap := H } : State)) (hG : GoodIn gw (wsV own index C y (Cond.code y bytes maxL ret :: gw)))
    (hd : y.cls = C ∧ y.cls ≠ "java/lang/invoke/MethodHandle" ∧ y.cls ≠ "java/lang/invoke/VarHandle" ∧ (parseMethodDescriptor y.desc).map (fun d => d.parameters.length) = some n) (hrm : rm.cells = 0 ∧ rm.slots = 0) (hR : rm.frames + 1 ≤ R.frames ∧ 16 + (maxL + 11) + rm.locals ≤ R.locals)
    (hrecv : ∃ cellB : Cell, H[b]? = some cellB ∧ cellB.vm.isStatics = false ∧ s.vm.findClass C = some cellB.cls) (hn : As.length = n) (hstack : st0 = As.reverse ++ .ref b :: rest) (hroom : (rest.map fun v => v.category).sum ≤ 16) (hdg : decode cc pc = .ok (.invokevirtual index, 3)) (hc : cells ≤ R.cells ∧ slots ≤ R.slots)
    (kk : W p l e R s m args below meth c H locs cells slots Q (F0 m (pc + 3) ls (r :: rest))) : W p l e R s m args below meth c H locs cells slots Q (F0 m pc ls st0) := by
  have cw : CallW R s args own C index y bytes maxL ret (Cond.code y bytes maxL ret :: gw) rm 0 0 n := cwV n hts hG rfl hrm.1 hrm.2 hd ⟨hR.1, by omega⟩
  obtain ⟨⟨hrc, hrs, hfr, hlo, hws, hcw, hcode, hini, hy, hlen, hlk⟩, hin, hse⟩ := cw
  obtain ⟨cellB, hcB, hoB, hclB⟩ := hrecv
  have hK9 : Back l R p e below s args y 3 16 (PreOf R 0 0 (va_Pc (.ref b :: As) B)) (PostOf (k2_QcV r) 0 0 (fun _ => False)) :=
    back_of (bytes := bytes) (maxL := maxL) (ret := ret) hM (kb_blind hst) hrc hrs hR.1 hR.2 hws hcw (fun a' U hW => word_at hW (Or.inl (by first | rfl | simp [Cond.onTables, Cond.keeps, Cond.steady])) hini)
  intro T hT X
  obtain ⟨v, vm₁, ⟨U', l2, c2, s2⟩, hW₁, X', ⟨g', mk, t, L, e1, e2, ⟨hv, hh⟩, h1, hL, h2, h3⟩, st⟩ := callV X hx (C := C) (bytes := bytes) (maxL := maxL) (ret := ret) hown hlk hin hse hcode hy hK9 (by rw [hT]; exact hcB) hoB hclB (g := F0 m pc ls st0) rfl (hl.trans hml.symm) (argsL := As) (rest := rest) (fun sig h => hn.trans (hlen sig h)) hstack (by show 2 * 0 + _ ≤ 16; omega) (by rw [hb]; exact hdg)
    (fun vm₁ hW₁ => ⟨hc.1, hc.2, kb_pre hst hB (T.setVm vm₁) hT hW₁⟩)
  cases hv
  dsimp only [Pt.U, Pt.locs, Pt.cells, Pt.slots] at X' e1 e2 h1 h2 h3 st
  subst h1; subst h2; subst h3
  have hnil : L = [] := List.eq_nil_iff_forall_not_mem.mpr (fun q hq => hL q hq)
  subst hnil
  rw [List.append_nil] at X'
  obtain ⟨t2, a1, b1⟩ := kk U' (by rw [e1, hh]; exact hT) X'
  exact ⟨t2, st t2 a1, b1⟩
end KM
/-- is r a grant: as the reference asks -/
def gi (r : Int32) : Bool := decide ((0 : Int64) ≤ r.toInt64) && decide (r.toInt64 ≤ 15)
theorem il_ge (v : Int32) : (0 : Int64) ≤ v.toInt64 ↔ ¬ v < 0 := by
  rw [Int64.le_iff_toInt_le, Int32.lt_iff_toInt_lt, Int32.toInt_toInt64]
  have h1 : (0 : Int64).toInt = 0 := by decide
  have h2 : (0 : Int32).toInt = 0 := by decide
  rw [h1, h2]
  omega
theorem il_le (v c : Int32) : v.toInt64 ≤ c.toInt64 ↔ v ≤ c := by
  rw [Int64.le_iff_toInt_le, Int32.le_iff_toInt_le, Int32.toInt_toInt64, Int32.toInt_toInt64]
theorem gi_in {r : Int32} : gi r = true ↔ vp_in r 16 := by
  unfold gi
  rw [Bool.and_eq_true, decide_eq_true_eq, decide_eq_true_eq, il_ge, show (15 : Int64) = (15 : Int32).toInt64 from by decide, il_le, vp_in_iff, Int32.lt_iff_toInt_lt, Int32.le_iff_toInt_le]
  have h1 : (15 : Int32).toInt = 15 := by decide
  have h2 : (0 : Int32).toInt = 0 := by decide
  rw [h1, h2]
  omega
def gp (v c : Int32) : Bool := decide ((0 : Int64) ≤ v.toInt64) && decide (v.toInt64 ≤ c.toInt64)
theorem gp_in {v c : Int32} : gp v c = true ↔ ¬ v < 0 ∧ v ≤ c := by
  unfold gp
  rw [Bool.and_eq_true, decide_eq_true_eq, decide_eq_true_eq, il_ge, il_le]
theorem pm_bits (w p : Int32) : ga_pm w p = true ↔ ∀ j, j < 32 → bt w j = true → bt p j = true := by
  unfold ga_pm
  rw [decide_eq_true_eq]
  constructor
  · intro h j hj hw
    have h1 : bt (w &&& (p ^^^ -1)) j = false := by rw [h]; exact b_0 j
    rw [b_and, b_xor, b_m1 j hj, hw] at h1
    cases hb : bt p j
    · rw [hb] at h1; cases h1
    · rfl
  · intro h
    apply b_ext
    intro j hj
    rw [b_and, b_xor, b_m1 j hj, b_0]
    cases hw : bt w j
    · rfl
    · rw [h j hj hw]; rfl
end
section
/-! Contracts of the reference: its small methods. Laid by program (wip/whole/gen_m1.py). -/
section LPW
variable {p : Program} {l : Launch} {e : Env} {R : Room} {s : State} {m : MethodId} {args : Array Value} {below : List Frame} {meth : Method} {c : Code} {H : Heap} {locs : List Loc} {cells slots : Nat} {Q : State → Prop} {pc : Nat} {ls : Array Slot} {rest : List Value}
theorem lp_W (N : Nat) (Inv : Nat → Array Slot → Prop) (h0 : Inv 0 ls) (step : ∀ (k : Nat) (ls : Array Slot), k < N → Inv k ls → (∀ ls' : Array Slot, Inv (k + 1) ls' → W p l e R s m args below meth c H locs cells slots Q (F0 m pc ls' rest)) → W p l e R s m args below meth c H locs cells slots Q (F0 m pc ls rest))
    (last : ∀ ls : Array Slot, Inv N ls → W p l e R s m args below meth c H locs cells slots Q (F0 m pc ls rest)) : W p l e R s m args below meth c H locs cells slots Q (F0 m pc ls rest) := by
  have key : ∀ (d k : Nat) (ls : Array Slot), k + d = N → Inv k ls → W p l e R s m args below meth c H locs cells slots Q (F0 m pc ls rest) := by
    intro d
    induction d with
    | zero =>
      intro k ls hk hI
      obtain rfl : k = N := by omega
      exact last ls hI
    | succ d ih =>
      intro k ls hk hI
      exact step k ls (by omega) hI (fun ls' h => ih (k + 1) ls' (by omega) h)
  exact key N 0 ls (by omega) h0
end LPW
set_option maxRecDepth 100000 in
set_option maxHeartbeats 4000000 in
theorem mM_thrown (l : Launch) (D : va_G) (cJ cI cZ : ClassId) (q : Nat → Nat) (e0 : Int32) (A B T P Y : Nat → Int32) (G : Nat → Bool)  : Met l yM_thrown (Cond.code yM_thrown cM_thrown 1 (some .int) :: gw) (rmk 0 0 0) (va_Pc [.ref (q 0)] (rB D vwCl (mW cJ cI cZ q (e0) A B T P Y G) (tsM cJ cI cZ))) (k2_QcV (.int (e0))) 0 0 (fun _ => False) := by
  refine Met.ofW (cc := cM_thrown) (maxL := 1) (ret := (some .int)) (by decide) rfl ?_
  intro p e s m args below meth c s₁ B9 hml hv
  obtain ⟨rfl, hP, hK⟩ := hv
  have hx := B9.exec
  have hb := B9.bytes
  have hr := B9.returns
  have hts := fun (w : Cond) (h : w ∈ gw) => atoms_spec (ws := _ :: gw) B9.pre w (List.mem_cons_of_mem _ h)
  have hown : s.vm.findClass RM = some m.cls := findClass_of_methodNamed B9.named
  have hlocks := B9.notSynchronized
  have hl := lv_entry ([.ref (q 0)]) (n := 1) (Nat.le_of_ble_eq_true rfl)
  rw [lg_entry_eq]
  generalize (lg_sl ([.ref (q 0)]) ++ List.replicate (1 - (lg_sl ([.ref (q 0)])).length) Slot.unset).toArray = ls at hl ⊢
  have hl : lv_has ls 1 [(0, .ref (q 0))] := hl
  refine lv_aload_n hx hb dM_thrown_0 rfl (lv_at hl 0 rfl) ?_
  refine va_get (D := D) (ci := 1) (v := .int (e0)) (C := RM) (T := TM) (N := 7) hx hb hts inM hown hK hP 0 rfl rfl 0 (by decide) (hts _ w_255) (fun _ h9 => h9) rfl dM_thrown_1 ?_
  exact W.iret (v := e0) hx hb hr (fun t9 ht hW => ⟨rfl, ht⟩) (fun z hz => nomatch hz) dM_thrown_4

set_option maxRecDepth 100000 in
set_option maxHeartbeats 4000000 in
theorem mM_in (l : Launch) (a b d : Int64) : Met l yM_in (Cond.code yM_in cM_in 6 (some .boolean) :: gw) (rmk 0 0 0) (va_Pc [.long (a), .long (b), .long (d)] (fun _ => True)) (k2_QcV (.int (bi (decide (b ≤ a) && decide (a ≤ d))))) 0 0 (fun _ => False) := by
  refine Met.ofW (cc := cM_in) (maxL := 6) (ret := (some .boolean)) (by decide) rfl ?_
  intro p e s m args below meth c s₁ B9 hml hv
  obtain ⟨rfl, -⟩ := hv
  have hx := B9.exec
  have hb := B9.bytes
  have hr := B9.returns
  have hts := fun (w : Cond) (h : w ∈ gw) => atoms_spec (ws := _ :: gw) B9.pre w (List.mem_cons_of_mem _ h)
  have hown : s.vm.findClass RM = some m.cls := findClass_of_methodNamed B9.named
  have hlocks := B9.notSynchronized
  have hl := lv_entry ([.long (a), .long (b), .long (d)]) (n := 6) (Nat.le_of_ble_eq_true rfl)
  rw [lg_entry_eq]
  generalize (lg_sl ([.long (a), .long (b), .long (d)]) ++ List.replicate (6 - (lg_sl ([.long (a), .long (b), .long (d)])).length) Slot.unset).toArray = ls at hl ⊢
  have hl : lv_has ls 6 [(0, .long (a)), (2, .long (b)), (4, .long (d))] := hl
  refine lv_lload_n hx hb dM_in_0 rfl (lv_at hl 0 rfl) ?_
  refine lv_lload_n hx hb dM_in_1 rfl (lv_at hl 1 rfl) ?_
  refine W.lcmp hx hb dM_in_2 ?_
  refine lv_if_lt (tgt := 17) hx hb dM_in_3 (by decide) (fun h_1 => ?_) (fun h_1 => ?_)
  · rw [lg_cmp_lt] at h_1
    refine lv_iconst (v := 0) hx hb dM_in_17 (by decide) ?_
    have e9 : (decide (b ≤ a) && decide (a ≤ d)) = false := by have h_1 := Int64.not_le.mpr h_1; simp [h_1]
    refine W.eq (g2 := F0 m 18 ls [.int (bi (decide (b ≤ a) && decide (a ≤ d)))]) (by rw [e9]; rfl) ?_
    exact W.zret (v := bi (decide (b ≤ a) && decide (a ≤ d))) hx hb hr (bi_nar _) (fun t9 ht hW => ⟨rfl, ht⟩) (fun z hz => nomatch hz) dM_in_18
  · rw [lg_cmp_lt] at h_1
    refine lv_lload_n hx hb dM_in_6 rfl (lv_at hl 0 rfl) ?_
    refine lv_lload hx hb dM_in_7 (lv_at hl 2 rfl) ?_
    refine W.lcmp hx hb dM_in_9 ?_
    refine lv_if_gt (tgt := 17) hx hb dM_in_10 (by decide) (fun h_2 => ?_) (fun h_2 => ?_)
    · rw [lg_cmp_gt] at h_2
      refine lv_iconst (v := 0) hx hb dM_in_17 (by decide) ?_
      have e9 : (decide (b ≤ a) && decide (a ≤ d)) = false := by have h_1 := Int64.not_lt.mp h_1; have h_2 := Int64.not_le.mpr h_2; simp [h_1, h_2]
      refine W.eq (g2 := F0 m 18 ls [.int (bi (decide (b ≤ a) && decide (a ≤ d)))]) (by rw [e9]; rfl) ?_
      exact W.zret (v := bi (decide (b ≤ a) && decide (a ≤ d))) hx hb hr (bi_nar _) (fun t9 ht hW => ⟨rfl, ht⟩) (fun z hz => nomatch hz) dM_in_18
    · rw [lg_cmp_gt] at h_2
      refine lv_iconst (v := 1) hx hb dM_in_13 (by decide) ?_
      refine lv_goto (tgt := 18) hx hb dM_in_14 (by decide) ?_
      have e9 : (decide (b ≤ a) && decide (a ≤ d)) = true := by have h_1 := Int64.not_lt.mp h_1; have h_2 := Int64.not_lt.mp h_2; simp [h_1, h_2]
      refine W.eq (g2 := F0 m 18 ls [.int (bi (decide (b ≤ a) && decide (a ≤ d)))]) (by rw [e9]; rfl) ?_
      exact W.zret (v := bi (decide (b ≤ a) && decide (a ≤ d))) hx hb hr (bi_nar _) (fun t9 ht hW => ⟨rfl, ht⟩) (fun z hz => nomatch hz) dM_in_18

set_option maxRecDepth 100000 in
set_option maxHeartbeats 4000000 in
theorem mM_is (l : Launch) (g : Int32) : Met l yM_is (Cond.code yM_is cM_is 1 (some .boolean) :: gw) (rmk 1 0 0) (va_Pc [.int (g)] (fun _ => True)) (k2_QcV (.int (bi (gi g)))) 0 0 (fun _ => False) := by
  refine Met.ofW (cc := cM_is) (maxL := 1) (ret := (some .boolean)) (by decide) rfl ?_
  intro p e s m args below meth c s₁ B9 hml hv
  obtain ⟨rfl, -⟩ := hv
  have hx := B9.exec
  have hb := B9.bytes
  have hr := B9.returns
  have hts := fun (w : Cond) (h : w ∈ gw) => atoms_spec (ws := _ :: gw) B9.pre w (List.mem_cons_of_mem _ h)
  have hown : s.vm.findClass RM = some m.cls := findClass_of_methodNamed B9.named
  have hlocks := B9.notSynchronized
  have hl := lv_entry ([.int (g)]) (n := 1) (Nat.le_of_ble_eq_true rfl)
  rw [lg_entry_eq]
  generalize (lg_sl ([.int (g)]) ++ List.replicate (1 - (lg_sl ([.int (g)])).length) Slot.unset).toArray = ls at hl ⊢
  have hl : lv_has ls 1 [(0, .int (g))] := hl
  refine lv_iload_n hx hb dM_is_0 rfl (lv_at hl 0 rfl) ?_
  refine lv_i2l (v := (g).toInt64) hx hb dM_is_1 rfl ?_
  refine lv_lconst (v := 0) hx hb dM_is_2 (by decide) ?_
  refine lv_ldc2 (v := 15) hx hb hown (hts _ w_301) dM_is_3 ?_
  refine kr_S 3 (As := [.long ((g).toInt64), .long (0), .long (15)]) (rest := []) (r := .int (bi (decide ((0) ≤ ((g).toInt64)) && decide (((g).toInt64) ≤ (15))))) hx hb hml hown hts hl.1 (mM_in l ((g).toInt64) (0) (15)) tt_stb trivial (gw_S w_291 w_292 w_15 w_293) (by decide) ⟨rfl, rfl⟩ ⟨Nat.le_of_ble_eq_true rfl, Nat.le_of_ble_eq_true rfl⟩ rfl rfl (Nat.le_of_ble_eq_true rfl) dM_is_6 ⟨Nat.zero_le _, Nat.zero_le _⟩ ?_
  have e9 : bi (decide ((0) ≤ ((g).toInt64)) && decide (((g).toInt64) ≤ (15))) = bi (gi g) := by rfl
  refine W.eq (g2 := F0 m 9 ls [.int (bi (gi g))]) (by rw [e9]) ?_
  exact W.zret (v := bi (gi g)) hx hb hr (bi_nar _) (fun t9 ht hW => ⟨rfl, ht⟩) (fun z hz => nomatch hz) dM_is_9

set_option maxRecDepth 100000 in
set_option maxHeartbeats 4000000 in
theorem mM_wide (l : Launch) (v : Int32) : Met l yM_wide (Cond.code yM_wide cM_wide 1 (some .long) :: gw) (rmk 0 0 0) (va_Pc [.int (v)] (fun _ => True)) (k2_QcV (.long (uw (v)))) 0 0 (fun _ => False) := by
  refine Met.ofW (cc := cM_wide) (maxL := 1) (ret := (some .long)) (by decide) rfl ?_
  intro p e s m args below meth c s₁ B9 hml hv
  obtain ⟨rfl, -⟩ := hv
  have hx := B9.exec
  have hb := B9.bytes
  have hr := B9.returns
  have hts := fun (w : Cond) (h : w ∈ gw) => atoms_spec (ws := _ :: gw) B9.pre w (List.mem_cons_of_mem _ h)
  have hown : s.vm.findClass RM = some m.cls := findClass_of_methodNamed B9.named
  have hlocks := B9.notSynchronized
  have hl := lv_entry ([.int (v)]) (n := 1) (Nat.le_of_ble_eq_true rfl)
  rw [lg_entry_eq]
  generalize (lg_sl ([.int (v)]) ++ List.replicate (1 - (lg_sl ([.int (v)])).length) Slot.unset).toArray = ls at hl ⊢
  have hl : lv_has ls 1 [(0, .int (v))] := hl
  refine lv_iload_n hx hb dM_wide_0 rfl (lv_at hl 0 rfl) ?_
  refine lv_i2l (v := (v).toInt64) hx hb dM_wide_1 rfl ?_
  refine lv_ldc2 (v := 4294967296) hx hb hown (hts _ w_289) dM_wide_2 ?_
  refine lv_lrem hx hb dM_wide_5 (by decide) ?_
  refine lv_ldc2 (v := 4294967296) hx hb hown (hts _ w_289) dM_wide_6 ?_
  refine lv_ladd hx hb dM_wide_9 ?_
  refine lv_ldc2 (v := 4294967296) hx hb hown (hts _ w_289) dM_wide_10 ?_
  refine lv_lrem hx hb dM_wide_13 (by decide) ?_
  refine W.eq (g2 := F0 m 14 ls [.long (uw (v))]) (by rw [← uw_wide v] <;> rfl) ?_
  exact W.lret hx hb hr (fun t9 ht hW => ⟨rfl, ht⟩) (fun z hz => nomatch hz) dM_wide_14

set_option maxRecDepth 100000 in
set_option maxHeartbeats 4000000 in
theorem mM_isSealed (l : Launch) (D : va_G) (cJ cI cZ : ClassId) (q : Nat → Nat) (e0 : Int32) (A B T P Y : Nat → Int32) (G : Nat → Bool) (g : Int32) (hg : vp_in g 16) : Met l yM_isSealed (Cond.code yM_isSealed cM_isSealed 2 (some .boolean) :: gw) (rmk 0 0 0) (va_Pc [.ref (q 0), .int (g)] (rB D vwCl (mW cJ cI cZ q (e0) A B T P Y G) (tsM cJ cI cZ))) (k2_QcV (.int (bi (decide (¬ Y g.toNatClampNeg = 0))))) 0 0 (fun _ => False) := by
  refine Met.ofW (cc := cM_isSealed) (maxL := 2) (ret := (some .boolean)) (by decide) rfl ?_
  intro p e s m args below meth c s₁ B9 hml hv
  obtain ⟨rfl, hP, hK⟩ := hv
  have hx := B9.exec
  have hb := B9.bytes
  have hr := B9.returns
  have hts := fun (w : Cond) (h : w ∈ gw) => atoms_spec (ws := _ :: gw) B9.pre w (List.mem_cons_of_mem _ h)
  have hown : s.vm.findClass RM = some m.cls := findClass_of_methodNamed B9.named
  have hlocks := B9.notSynchronized
  have hl := lv_entry ([.ref (q 0), .int (g)]) (n := 2) (Nat.le_of_ble_eq_true rfl)
  rw [lg_entry_eq]
  generalize (lg_sl ([.ref (q 0), .int (g)]) ++ List.replicate (2 - (lg_sl ([.ref (q 0), .int (g)])).length) Slot.unset).toArray = ls at hl ⊢
  have hl : lv_has ls 2 [(0, .ref (q 0)), (1, .int (g))] := hl
  refine lv_aload_n hx hb dM_isSealed_0 rfl (lv_at hl 0 rfl) ?_
  refine va_get (D := D) (ci := 1) (v := .ref (q 5)) (C := RM) (T := TM) (N := 7) hx hb hts inM hown hK hP 0 rfl rfl 5 (by decide) (hts _ w_260) (fun _ h9 => h9) rfl dM_isSealed_1 ?_
  refine lv_iload_n hx hb dM_isSealed_4 rfl (lv_at hl 1 rfl) ?_
  refine va_iald hx hb hK hP 5 1 rfl rfl hg dM_isSealed_5 ?_
  refine lv_if_eq (tgt := 13) hx hb dM_isSealed_6 (by decide) (fun h_1 => ?_) (fun h_1 => ?_)
  · 
    refine lv_iconst (v := 0) hx hb dM_isSealed_13 (by decide) ?_
    have e9 : (decide (¬ Y g.toNatClampNeg = 0)) = false := by simp [h_1]
    refine W.eq (g2 := F0 m 14 ls [.int (bi (decide (¬ Y g.toNatClampNeg = 0)))]) (by rw [e9]; rfl) ?_
    exact W.zret (v := bi (decide (¬ Y g.toNatClampNeg = 0))) hx hb hr (bi_nar _) (fun t9 ht hW => ⟨rfl, ht⟩) (fun z hz => nomatch hz) dM_isSealed_14
  · 
    refine lv_iconst (v := 1) hx hb dM_isSealed_9 (by decide) ?_
    refine lv_goto (tgt := 14) hx hb dM_isSealed_10 (by decide) ?_
    have e9 : (decide (¬ Y g.toNatClampNeg = 0)) = true := by simp [h_1]
    refine W.eq (g2 := F0 m 14 ls [.int (bi (decide (¬ Y g.toNatClampNeg = 0)))]) (by rw [e9]; rfl) ?_
    exact W.zret (v := bi (decide (¬ Y g.toNatClampNeg = 0))) hx hb hr (bi_nar _) (fun t9 ht hW => ⟨rfl, ht⟩) (fun z hz => nomatch hz) dM_isSealed_14

set_option maxRecDepth 100000 in
set_option maxHeartbeats 4000000 in
theorem mM_fails_t (l : Launch) (D : va_G) (cJ cI cZ : ClassId) (q : Nat → Nat) (e0 : Int32) (A B T P Y : Nat → Int32) (G : Nat → Bool) (sz : Nat) (k9 : Int32) (hk9 : ¬ k9 = 0) : Met l yM_fails (Cond.code yM_fails cM_fails 3 (some .boolean) :: gw) (rmk 0 0 0) (va_Pc [.ref (q 0), .int (1), .int (k9)] (kB D vwCl (mW cJ cI cZ q (0) A B T P Y G) (tsM cJ cI cZ) sz)) (kQ (some (.int (1))) D vwCl (mW cJ cI cZ q (k9) A B T P Y G) (va_A (mW cJ cI cZ q (0) A B T P Y G) sz)) 0 0 (va_A (mW cJ cI cZ q (0) A B T P Y G) sz) := by
  refine Met.ofW (cc := cM_fails) (maxL := 3) (ret := (some .boolean)) (by decide) rfl ?_
  intro p e s m args below meth c s₁ B9 hml hv
  obtain ⟨rfl, hsz, hP, hK, hD0⟩ := hv
  have hx := B9.exec
  have hb := B9.bytes
  have hr := B9.returns
  have hts := fun (w : Cond) (h : w ∈ gw) => atoms_spec (ws := _ :: gw) B9.pre w (List.mem_cons_of_mem _ h)
  have hown : s.vm.findClass RM = some m.cls := findClass_of_methodNamed B9.named
  have hlocks := B9.notSynchronized
  have hl := lv_entry ([.ref (q 0), .int (1), .int (k9)]) (n := 3) (Nat.le_of_ble_eq_true rfl)
  rw [lg_entry_eq]
  generalize (lg_sl ([.ref (q 0), .int (1), .int (k9)]) ++ List.replicate (3 - (lg_sl ([.ref (q 0), .int (1), .int (k9)])).length) Slot.unset).toArray = ls at hl ⊢
  have hl : lv_has ls 3 [(0, .ref (q 0)), (1, .int (1)), (2, .int (k9))] := hl
  subst hsz
  have hD := hD0.self (sz := s.heap.size)
  generalize hAe : va_A (mW cJ cI cZ q (0) A B T P Y G) s.heap.size = A9 at hD ⊢
  have hA : ∀ z : Nat, s.heap.size ≤ z → A9 z := fun z h => by rw [← hAe]; exact Or.inr h
  have hS : va_S A9 s.heap s.heap [] := va_S.rf
  have hP : va_P D vwCl (mW cJ cI cZ q (0) A B T P Y G) s.heap := hP
  refine lv_iload_n hx hb dM_fails_0 rfl (lv_at hl 1 rfl) ?_
  refine lv_if_eq (tgt := 16) hx hb dM_fails_1 (by decide) (fun h_1 => absurd h_1 (by decide)) (fun h_1 => ?_)
  refine lv_aload_n hx hb dM_fails_4 rfl (lv_at hl 0 rfl) ?_
  refine va_get (D := D) (ci := 1) (v := .int (0)) (C := RM) (T := TM) (N := 7) hx hb hts inM hown hK hP 0 rfl rfl 0 (by decide) (hts _ w_255) (fun _ h9 => h9) rfl dM_fails_5 ?_
  refine lv_if_ne (tgt := 16) hx hb dM_fails_8 (by decide) (fun h_2 => absurd (by decide) h_2) (fun h_2 => ?_)
  refine lv_aload_n hx hb dM_fails_11 rfl (lv_at hl 0 rfl) ?_
  refine lv_iload_n hx hb dM_fails_12 rfl (lv_at hl 2 rfl) ?_
  refine va_put (D := D) (ci := 1) (v := .int (k9)) (ty := .int) (C := RM) (T := TM) (N := 7) hx hb hts inM tyM tyM_ok nmM hown hK hP hD hS 0 rfl rfl 0 (by decide) (hts _ w_255) (fun _ h9 => h9) rfl (by decide +kernel) rfl rfl (Nat.le_of_ble_eq_true rfl) dM_fails_13 (fun H locs hP hD hS => ?_)
  have hP : va_P D vwCl (mW cJ cI cZ q (k9) A B T P Y G) H := hP
  have hD : va_D A9 (mW cJ cI cZ q (k9) A B T P Y G) := hD
  refine lv_aload_n hx hb dM_fails_16 rfl (lv_at hl 0 rfl) ?_
  refine va_get (D := D) (ci := 1) (v := .int (k9)) (C := RM) (T := TM) (N := 7) hx hb hts inM hown hK hP 0 rfl rfl 0 (by decide) (hts _ w_255) (fun _ h9 => h9) rfl dM_fails_17 ?_
  refine lv_if_eq (tgt := 27) hx hb dM_fails_20 (by decide) (fun h_3 => absurd h_3 hk9) (fun h_3 => ?_)
  refine lv_iconst (v := 1) hx hb dM_fails_23 (by decide) ?_
  refine lv_goto (tgt := 28) hx hb dM_fails_24 (by decide) ?_
  exact W.zret (v := 1) hx hb hr rfl (fun t9 ht hW => ⟨rfl, by rw [ht]; exact hP, hD, hS.F ht⟩) hS.2.2 dM_fails_28

set_option maxRecDepth 100000 in
set_option maxHeartbeats 4000000 in
theorem mM_fails_f (l : Launch) (D : va_G) (cJ cI cZ : ClassId) (q : Nat → Nat) (e0 : Int32) (A B T P Y : Nat → Int32) (G : Nat → Bool) (sz : Nat) (k9 : Int32) : Met l yM_fails (Cond.code yM_fails cM_fails 3 (some .boolean) :: gw) (rmk 0 0 0) (va_Pc [.ref (q 0), .int (0), .int (k9)] (kB D vwCl (mW cJ cI cZ q (0) A B T P Y G) (tsM cJ cI cZ) sz)) (kQ (some (.int (0))) D vwCl (mW cJ cI cZ q (0) A B T P Y G) (va_A (mW cJ cI cZ q (0) A B T P Y G) sz)) 0 0 (va_A (mW cJ cI cZ q (0) A B T P Y G) sz) := by
  refine Met.ofW (cc := cM_fails) (maxL := 3) (ret := (some .boolean)) (by decide) rfl ?_
  intro p e s m args below meth c s₁ B9 hml hv
  obtain ⟨rfl, hsz, hP, hK, hD0⟩ := hv
  have hx := B9.exec
  have hb := B9.bytes
  have hr := B9.returns
  have hts := fun (w : Cond) (h : w ∈ gw) => atoms_spec (ws := _ :: gw) B9.pre w (List.mem_cons_of_mem _ h)
  have hown : s.vm.findClass RM = some m.cls := findClass_of_methodNamed B9.named
  have hlocks := B9.notSynchronized
  have hl := lv_entry ([.ref (q 0), .int (0), .int (k9)]) (n := 3) (Nat.le_of_ble_eq_true rfl)
  rw [lg_entry_eq]
  generalize (lg_sl ([.ref (q 0), .int (0), .int (k9)]) ++ List.replicate (3 - (lg_sl ([.ref (q 0), .int (0), .int (k9)])).length) Slot.unset).toArray = ls at hl ⊢
  have hl : lv_has ls 3 [(0, .ref (q 0)), (1, .int (0)), (2, .int (k9))] := hl
  subst hsz
  have hD := hD0.self (sz := s.heap.size)
  generalize hAe : va_A (mW cJ cI cZ q (0) A B T P Y G) s.heap.size = A9 at hD ⊢
  have hA : ∀ z : Nat, s.heap.size ≤ z → A9 z := fun z h => by rw [← hAe]; exact Or.inr h
  have hS : va_S A9 s.heap s.heap [] := va_S.rf
  have hP : va_P D vwCl (mW cJ cI cZ q (0) A B T P Y G) s.heap := hP
  refine lv_iload_n hx hb dM_fails_0 rfl (lv_at hl 1 rfl) ?_
  refine lv_if_eq (tgt := 16) hx hb dM_fails_1 (by decide) (fun h_1 => ?_) (fun h_1 => absurd (by decide) h_1)
  refine lv_aload_n hx hb dM_fails_16 rfl (lv_at hl 0 rfl) ?_
  refine va_get (D := D) (ci := 1) (v := .int (0)) (C := RM) (T := TM) (N := 7) hx hb hts inM hown hK hP 0 rfl rfl 0 (by decide) (hts _ w_255) (fun _ h9 => h9) rfl dM_fails_17 ?_
  refine lv_if_eq (tgt := 27) hx hb dM_fails_20 (by decide) (fun h_2 => ?_) (fun h_2 => absurd (by decide) h_2)
  refine lv_iconst (v := 0) hx hb dM_fails_27 (by decide) ?_
  exact W.zret (v := 0) hx hb hr rfl (fun t9 ht hW => ⟨rfl, by rw [ht]; exact hP, hD, hS.F ht⟩) hS.2.2 dM_fails_28

set_option maxRecDepth 100000 in
set_option maxHeartbeats 4000000 in
theorem mM_give (l : Launch) (D : va_G) (cJ cI cZ : ClassId) (q : Nat → Nat) (e0 : Int32) (A B T P Y : Nat → Int32) (G : Nat → Bool) (sz : Nat) (ri a b t v y : Int32) (g : Bool) (hri : vp_in ri 16) : Met l yM_give (Cond.code yM_give cM_give 11 none :: gw) (rmk 0 0 0) (va_Pc [.ref (q 0), .int (ri), .long (uw (a)), .long (uw (b)), .long (uw (t)), .int (v), .int (y), .int (bi (g))] (kB D vwCl (mW cJ cI cZ q (e0) A B T P Y G) (tsM cJ cI cZ) sz)) (kQ none D vwCl (mW cJ cI cZ q (e0) (upd A ri.toNatClampNeg (a)) (upd B ri.toNatClampNeg (b)) (upd T ri.toNatClampNeg (t)) (upd P ri.toNatClampNeg (v)) (upd Y ri.toNatClampNeg (y)) (ub G ri.toNatClampNeg (g))) (va_A (mW cJ cI cZ q (e0) A B T P Y G) sz)) 0 0 (va_A (mW cJ cI cZ q (e0) A B T P Y G) sz) := by
  refine Met.ofW (cc := cM_give) (maxL := 11) (ret := none) (by decide) rfl ?_
  intro p e s m args below meth c s₁ B9 hml hv
  obtain ⟨rfl, hsz, hP, hK, hD0⟩ := hv
  have hx := B9.exec
  have hb := B9.bytes
  have hr := B9.returns
  have hts := fun (w : Cond) (h : w ∈ gw) => atoms_spec (ws := _ :: gw) B9.pre w (List.mem_cons_of_mem _ h)
  have hown : s.vm.findClass RM = some m.cls := findClass_of_methodNamed B9.named
  have hlocks := B9.notSynchronized
  have hl := lv_entry ([.ref (q 0), .int (ri), .long (uw (a)), .long (uw (b)), .long (uw (t)), .int (v), .int (y), .int (bi (g))]) (n := 11) (Nat.le_of_ble_eq_true rfl)
  rw [lg_entry_eq]
  generalize (lg_sl ([.ref (q 0), .int (ri), .long (uw (a)), .long (uw (b)), .long (uw (t)), .int (v), .int (y), .int (bi (g))]) ++ List.replicate (11 - (lg_sl ([.ref (q 0), .int (ri), .long (uw (a)), .long (uw (b)), .long (uw (t)), .int (v), .int (y), .int (bi (g))])).length) Slot.unset).toArray = ls at hl ⊢
  have hl : lv_has ls 11 [(0, .ref (q 0)), (1, .int (ri)), (2, .long (uw (a))), (4, .long (uw (b))), (6, .long (uw (t))), (8, .int (v)), (9, .int (y)), (10, .int (bi (g)))] := hl
  subst hsz
  have hD := hD0.self (sz := s.heap.size)
  generalize hAe : va_A (mW cJ cI cZ q (e0) A B T P Y G) s.heap.size = A9 at hD ⊢
  have hA : ∀ z : Nat, s.heap.size ≤ z → A9 z := fun z h => by rw [← hAe]; exact Or.inr h
  have hS : va_S A9 s.heap s.heap [] := va_S.rf
  have hP : va_P D vwCl (mW cJ cI cZ q (e0) A B T P Y G) s.heap := hP
  refine lv_aload_n hx hb dM_give_0 rfl (lv_at hl 0 rfl) ?_
  refine va_get (D := D) (ci := 1) (v := .ref (q 1)) (C := RM) (T := TM) (N := 7) hx hb hts inM hown hK hP 0 rfl rfl 1 (by decide) (hts _ w_256) (fun _ h9 => h9) rfl dM_give_1 ?_
  refine lv_iload_n hx hb dM_give_4 rfl (lv_at hl 1 rfl) ?_
  refine lv_lload_n hx hb dM_give_5 rfl (lv_at hl 2 rfl) ?_
  refine va_last hx hb hK hP hD hS 1 0 rfl rfl hri dM_give_6 (fun H locs hP hD hS => ?_)
  have hP : va_P D vwCl (mW cJ cI cZ q (e0) (upd A ri.toNatClampNeg (a)) B T P Y G) H := by rw [uw_upd] at hP; exact hP
  have hD : va_D A9 (mW cJ cI cZ q (e0) (upd A ri.toNatClampNeg (a)) B T P Y G) := by rw [uw_upd] at hD; exact hD
  refine lv_aload_n hx hb dM_give_7 rfl (lv_at hl 0 rfl) ?_
  refine va_get (D := D) (ci := 1) (v := .ref (q 2)) (C := RM) (T := TM) (N := 7) hx hb hts inM hown hK hP 0 rfl rfl 2 (by decide) (hts _ w_257) (fun _ h9 => h9) rfl dM_give_8 ?_
  refine lv_iload_n hx hb dM_give_11 rfl (lv_at hl 1 rfl) ?_
  refine lv_lload hx hb dM_give_12 (lv_at hl 3 rfl) ?_
  refine va_last hx hb hK hP hD hS 2 0 rfl rfl hri dM_give_14 (fun H locs hP hD hS => ?_)
  have hP : va_P D vwCl (mW cJ cI cZ q (e0) (upd A ri.toNatClampNeg (a)) (upd B ri.toNatClampNeg (b)) T P Y G) H := by rw [uw_upd] at hP; exact hP
  have hD : va_D A9 (mW cJ cI cZ q (e0) (upd A ri.toNatClampNeg (a)) (upd B ri.toNatClampNeg (b)) T P Y G) := by rw [uw_upd] at hD; exact hD
  refine lv_aload_n hx hb dM_give_15 rfl (lv_at hl 0 rfl) ?_
  refine va_get (D := D) (ci := 1) (v := .ref (q 3)) (C := RM) (T := TM) (N := 7) hx hb hts inM hown hK hP 0 rfl rfl 3 (by decide) (hts _ w_258) (fun _ h9 => h9) rfl dM_give_16 ?_
  refine lv_iload_n hx hb dM_give_19 rfl (lv_at hl 1 rfl) ?_
  refine lv_lload hx hb dM_give_20 (lv_at hl 4 rfl) ?_
  refine va_last hx hb hK hP hD hS 3 0 rfl rfl hri dM_give_22 (fun H locs hP hD hS => ?_)
  have hP : va_P D vwCl (mW cJ cI cZ q (e0) (upd A ri.toNatClampNeg (a)) (upd B ri.toNatClampNeg (b)) (upd T ri.toNatClampNeg (t)) P Y G) H := by rw [uw_upd] at hP; exact hP
  have hD : va_D A9 (mW cJ cI cZ q (e0) (upd A ri.toNatClampNeg (a)) (upd B ri.toNatClampNeg (b)) (upd T ri.toNatClampNeg (t)) P Y G) := by rw [uw_upd] at hD; exact hD
  refine lv_aload_n hx hb dM_give_23 rfl (lv_at hl 0 rfl) ?_
  refine va_get (D := D) (ci := 1) (v := .ref (q 4)) (C := RM) (T := TM) (N := 7) hx hb hts inM hown hK hP 0 rfl rfl 4 (by decide) (hts _ w_259) (fun _ h9 => h9) rfl dM_give_24 ?_
  refine lv_iload_n hx hb dM_give_27 rfl (lv_at hl 1 rfl) ?_
  refine lv_iload hx hb dM_give_28 (lv_at hl 5 rfl) ?_
  refine va_iast hx hb hK hP hD hS 4 1 rfl rfl hri dM_give_30 (fun H locs hP hD hS => ?_)
  have hP : va_P D vwCl (mW cJ cI cZ q (e0) (upd A ri.toNatClampNeg (a)) (upd B ri.toNatClampNeg (b)) (upd T ri.toNatClampNeg (t)) (upd P ri.toNatClampNeg (v)) Y G) H := hP
  have hD : va_D A9 (mW cJ cI cZ q (e0) (upd A ri.toNatClampNeg (a)) (upd B ri.toNatClampNeg (b)) (upd T ri.toNatClampNeg (t)) (upd P ri.toNatClampNeg (v)) Y G) := hD
  refine lv_aload_n hx hb dM_give_31 rfl (lv_at hl 0 rfl) ?_
  refine va_get (D := D) (ci := 1) (v := .ref (q 5)) (C := RM) (T := TM) (N := 7) hx hb hts inM hown hK hP 0 rfl rfl 5 (by decide) (hts _ w_260) (fun _ h9 => h9) rfl dM_give_32 ?_
  refine lv_iload_n hx hb dM_give_35 rfl (lv_at hl 1 rfl) ?_
  refine lv_iload hx hb dM_give_36 (lv_at hl 6 rfl) ?_
  refine va_iast hx hb hK hP hD hS 5 1 rfl rfl hri dM_give_38 (fun H locs hP hD hS => ?_)
  have hP : va_P D vwCl (mW cJ cI cZ q (e0) (upd A ri.toNatClampNeg (a)) (upd B ri.toNatClampNeg (b)) (upd T ri.toNatClampNeg (t)) (upd P ri.toNatClampNeg (v)) (upd Y ri.toNatClampNeg (y)) G) H := hP
  have hD : va_D A9 (mW cJ cI cZ q (e0) (upd A ri.toNatClampNeg (a)) (upd B ri.toNatClampNeg (b)) (upd T ri.toNatClampNeg (t)) (upd P ri.toNatClampNeg (v)) (upd Y ri.toNatClampNeg (y)) G) := hD
  refine lv_aload_n hx hb dM_give_39 rfl (lv_at hl 0 rfl) ?_
  refine va_get (D := D) (ci := 1) (v := .ref (q 6)) (C := RM) (T := TM) (N := 7) hx hb hts inM hown hK hP 0 rfl rfl 6 (by decide) (hts _ w_261) (fun _ h9 => h9) rfl dM_give_40 ?_
  refine lv_iload_n hx hb dM_give_43 rfl (lv_at hl 1 rfl) ?_
  refine lv_iload hx hb dM_give_44 (lv_at hl 7 rfl) ?_
  refine va_zast hx hb hK hP hD hS 6 2 rfl rfl hri dM_give_46 (fun H locs hP hD hS => ?_)
  have hP : va_P D vwCl (mW cJ cI cZ q (e0) (upd A ri.toNatClampNeg (a)) (upd B ri.toNatClampNeg (b)) (upd T ri.toNatClampNeg (t)) (upd P ri.toNatClampNeg (v)) (upd Y ri.toNatClampNeg (y)) (ub G ri.toNatClampNeg (g))) H := by rw [ub_upd] at hP; exact hP
  have hD : va_D A9 (mW cJ cI cZ q (e0) (upd A ri.toNatClampNeg (a)) (upd B ri.toNatClampNeg (b)) (upd T ri.toNatClampNeg (t)) (upd P ri.toNatClampNeg (v)) (upd Y ri.toNatClampNeg (y)) (ub G ri.toNatClampNeg (g))) := by rw [ub_upd] at hD; exact hD
  exact W.vret hx hb hr (fun t9 ht hW => ⟨rfl, by rw [ht]; exact hP, hD, hS.F ht⟩) hS.2.2 dM_give_47

set_option maxRecDepth 100000 in
set_option maxHeartbeats 4000000 in
theorem mM_may (l : Launch) (D : va_G) (cJ cI cZ : ClassId) (q : Nat → Nat) (e0 : Int32) (A B T P Y : Nat → Int32) (G : Nat → Bool) (g u : Int32) (hg : vp_in g 16) : Met l yM_may (Cond.code yM_may cM_may 4 (some .boolean) :: gw) (rmk 0 0 0) (va_Pc [.ref (q 0), .int (g), .int (u)] (rB D vwCl (mW cJ cI cZ q (e0) A B T P Y G) (tsM cJ cI cZ))) (k2_QcV (.int (bi (ga_pm u (P g.toNatClampNeg))))) 0 0 (fun _ => False) := by
  refine Met.ofW (cc := cM_may) (maxL := 4) (ret := (some .boolean)) (by decide) rfl ?_
  intro p e s m args below meth c s₁ B9 hml hv
  obtain ⟨rfl, hP, hK⟩ := hv
  have hx := B9.exec
  have hb := B9.bytes
  have hr := B9.returns
  have hts := fun (w : Cond) (h : w ∈ gw) => atoms_spec (ws := _ :: gw) B9.pre w (List.mem_cons_of_mem _ h)
  have hown : s.vm.findClass RM = some m.cls := findClass_of_methodNamed B9.named
  have hlocks := B9.notSynchronized
  have hl := lv_entry ([.ref (q 0), .int (g), .int (u)]) (n := 4) (Nat.le_of_ble_eq_true rfl)
  rw [lg_entry_eq]
  generalize (lg_sl ([.ref (q 0), .int (g), .int (u)]) ++ List.replicate (4 - (lg_sl ([.ref (q 0), .int (g), .int (u)])).length) Slot.unset).toArray = ls at hl ⊢
  have hl : lv_has ls 4 [(0, .ref (q 0)), (1, .int (g)), (2, .int (u))] := hl
  refine lv_iconst (v := 0) hx hb dM_may_0 (by decide) ?_
  refine lv_istore_n hx hb dM_may_1 rfl hl (by decide) rfl (fun ls hl => ?_)
  have hl : lv_has ls 4 [(3, .int (0)), (0, .ref (q 0)), (1, .int (g)), (2, .int (u))] := hl
  refine lp_W 32 (fun k ls => lv_has ls 4 [(3, .int (nI k)), (0, .ref (q 0)), (1, .int (g)), (2, .int (u))] ∧ ∀ j, j < k → bt u j = true → bt (P g.toNatClampNeg) j = true) ⟨lv_sub hl [0, 1, 2, 3] rfl, fun j h => absurd h (Nat.not_lt_zero j)⟩ (fun k ls hk hI ih => ?_) (fun ls hI => ?_)
  · obtain ⟨hl, hI⟩ := hI
    refine lv_iload_n hx hb dM_may_2 rfl (lv_at hl 0 rfl) ?_
    refine lv_bipush (v := 32) hx hb dM_may_3 (by decide) ?_
    refine lv_icmp_ge (tgt := 38) hx hb dM_may_5 (by decide) (fun h_1 => absurd h_1 (show ¬ (32 : Int32) ≤ nI k from nI_ge (a := k) (b := 32) hk (by decide))) (fun h_1 => ?_)
    refine lv_iload_n hx hb dM_may_8 rfl (lv_at hl 3 rfl) ?_
    refine lv_iload_n hx hb dM_may_9 rfl (lv_at hl 0 rfl) ?_
    refine lv_ishr hx hb dM_may_10 ?_
    refine lv_iconst (v := 1) hx hb dM_may_11 (by decide) ?_
    refine lv_iand hx hb dM_may_12 ?_
    refine lv_iconst (v := 1) hx hb dM_may_13 (by decide) ?_
    refine lv_icmp_ne (tgt := 32) hx hb dM_may_14 (by decide) (fun h_2 => ?_) (fun h_2 => ?_)
    · 
      refine lv_iinc (k := 0) (v := nI (k + 1)) hx hb dM_may_32 hl rfl (nI_succ k).symm (by decide) rfl (fun ls hl => ?_)
      have hl : lv_has ls 4 [(3, .int (nI (k + 1))), (0, .ref (q 0)), (1, .int (g)), (2, .int (u))] := hl
      refine lv_goto (tgt := 2) hx hb dM_may_35 (by decide) ?_
      refine ih _ ⟨lv_sub hl [0, 1, 2, 3] rfl, fun j hj hj2 => ?_⟩
      rcases Nat.lt_or_ge j k with h9 | h9
      · exact hI j h9 hj2
      · obtain rfl : j = k := by omega
        exact absurd ((bq_1 u hk).mpr hj2) h_2
    · 
      refine lv_aload_n hx hb dM_may_17 rfl (lv_at hl 1 rfl) ?_
      refine va_get (D := D) (ci := 1) (v := .ref (q 4)) (C := RM) (T := TM) (N := 7) hx hb hts inM hown hK hP 0 rfl rfl 4 (by decide) (hts _ w_259) (fun _ h9 => h9) rfl dM_may_18 ?_
      refine lv_iload_n hx hb dM_may_21 rfl (lv_at hl 2 rfl) ?_
      refine va_iald hx hb hK hP 4 1 rfl rfl hg dM_may_22 ?_
      refine lv_iload_n hx hb dM_may_23 rfl (lv_at hl 0 rfl) ?_
      refine lv_ishr hx hb dM_may_24 ?_
      refine lv_iconst (v := 1) hx hb dM_may_25 (by decide) ?_
      refine lv_iand hx hb dM_may_26 ?_
      refine lv_if_ne (tgt := 32) hx hb dM_may_27 (by decide) (fun h_3 => ?_) (fun h_3 => ?_)
      · 
        refine lv_iinc (k := 0) (v := nI (k + 1)) hx hb dM_may_32 hl rfl (nI_succ k).symm (by decide) rfl (fun ls hl => ?_)
        have hl : lv_has ls 4 [(3, .int (nI (k + 1))), (0, .ref (q 0)), (1, .int (g)), (2, .int (u))] := hl
        refine lv_goto (tgt := 2) hx hb dM_may_35 (by decide) ?_
        refine ih _ ⟨lv_sub hl [0, 1, 2, 3] rfl, fun j hj hj2 => ?_⟩
        rcases Nat.lt_or_ge j k with h9 | h9
        · exact hI j h9 hj2
        · obtain rfl : j = k := by omega
          cases hbb : bt (P g.toNatClampNeg) j
          · exact absurd ((bq_0 (P g.toNatClampNeg) hk).mpr hbb) h_3
          · rfl
      · 
        refine lv_iconst (v := 0) hx hb dM_may_30 (by decide) ?_
        have e9 : (ga_pm u (P g.toNatClampNeg)) = false := by
          cases hpm : ga_pm u (P g.toNatClampNeg)
          · rfl
          · exact absurd ((pm_bits _ _).mp hpm k hk ((bq_1 u hk).mp h_2)) (by rw [(bq_0 (P g.toNatClampNeg) hk).mp h_3]; decide)
        refine W.eq (g2 := F0 m 31 ls [.int (bi (ga_pm u (P g.toNatClampNeg)))]) (by rw [e9]; rfl) ?_
        exact W.zret (v := bi (ga_pm u (P g.toNatClampNeg))) hx hb hr (bi_nar _) (fun t9 ht hW => ⟨rfl, ht⟩) (fun z hz => nomatch hz) dM_may_31
  · obtain ⟨hl, hI⟩ := hI
    refine lv_iload_n hx hb dM_may_2 rfl (lv_at hl 0 rfl) ?_
    refine lv_bipush (v := 32) hx hb dM_may_3 (by decide) ?_
    refine lv_icmp_ge (tgt := 38) hx hb dM_may_5 (by decide) (fun h_4 => ?_) (fun h_4 => absurd (by decide) h_4)
    refine lv_iconst (v := 1) hx hb dM_may_38 (by decide) ?_
    have e9 : (ga_pm u (P g.toNatClampNeg)) = true := by (exact (pm_bits _ _).mpr hI)
    refine W.eq (g2 := F0 m 39 ls [.int (bi (ga_pm u (P g.toNatClampNeg)))]) (by rw [e9]; rfl) ?_
    exact W.zret (v := bi (ga_pm u (P g.toNatClampNeg))) hx hb hr (bi_nar _) (fun t9 ht hW => ⟨rfl, ht⟩) (fun z hz => nomatch hz) dM_may_39

set_option maxRecDepth 100000 in
set_option maxHeartbeats 4000000 in
theorem mM_holds (l : Launch) (D : va_G) (cJ cI cZ : ClassId) (q : Nat → Nat) (e0 : Int32) (A B T P Y : Nat → Int32) (G : Nat → Bool) (g a : Int32) (n : Nat) (hg : vp_in g 16) (hn : n < 1099511627776) : Met l yM_holds (Cond.code yM_holds cM_holds 9 (some .boolean) :: gw) (rmk 0 0 0) (va_Pc [.ref (q 0), .int (g), .long (uw (a)), .long (lN n)] (rB D vwCl (mW cJ cI cZ q (e0) A B T P Y G) (tsM cJ cI cZ))) (k2_QcV (.int (bi (ga_in (B g.toNatClampNeg) (T g.toNatClampNeg) a n)))) 0 0 (fun _ => False) := by
  refine Met.ofW (cc := cM_holds) (maxL := 9) (ret := (some .boolean)) (by decide) rfl ?_
  intro p e s m args below meth c s₁ B9 hml hv
  obtain ⟨rfl, hP, hK⟩ := hv
  have hx := B9.exec
  have hb := B9.bytes
  have hr := B9.returns
  have hts := fun (w : Cond) (h : w ∈ gw) => atoms_spec (ws := _ :: gw) B9.pre w (List.mem_cons_of_mem _ h)
  have hown : s.vm.findClass RM = some m.cls := findClass_of_methodNamed B9.named
  have hlocks := B9.notSynchronized
  have hl := lv_entry ([.ref (q 0), .int (g), .long (uw (a)), .long (lN n)]) (n := 9) (Nat.le_of_ble_eq_true rfl)
  rw [lg_entry_eq]
  generalize (lg_sl ([.ref (q 0), .int (g), .long (uw (a)), .long (lN n)]) ++ List.replicate (9 - (lg_sl ([.ref (q 0), .int (g), .long (uw (a)), .long (lN n)])).length) Slot.unset).toArray = ls at hl ⊢
  have hl : lv_has ls 9 [(0, .ref (q 0)), (1, .int (g)), (2, .long (uw (a))), (4, .long (lN n))] := hl
  refine lv_lload hx hb dM_holds_0 (lv_at hl 3 rfl) ?_
  refine lv_lconst (v := 0) hx hb dM_holds_2 (by decide) ?_
  refine W.lcmp hx hb dM_holds_3 ?_
  refine lv_if_ne (tgt := 35) hx hb dM_holds_4 (by decide) (fun h_1 => ?_) (fun h_1 => ?_)
  · rw [lg_cmp_eq] at h_1
    refine lv_iconst (v := 0) hx hb dM_holds_35 (by decide) ?_
    refine lv_istore hx hb dM_holds_36 hl (by decide) rfl (fun ls hl => ?_)
    have hl : lv_has ls 9 [(6, .int (0)), (0, .ref (q 0)), (1, .int (g)), (2, .long (uw (a))), (4, .long (lN n))] := hl
    refine lv_iload hx hb dM_holds_38 (lv_at hl 0 rfl) ?_
    refine lv_iconst (v := 2) hx hb dM_holds_40 (by decide) ?_
    refine lv_icmp_ge (tgt := 93) hx hb dM_holds_41 (by decide) (fun h_2 => absurd h_2 (by decide)) (fun h_2 => ?_)
    refine lv_iload hx hb dM_holds_44 (lv_at hl 0 rfl) ?_
    refine lv_if_ne (tgt := 53) hx hb dM_holds_46 (by decide) (fun h_3 => absurd (by decide) h_3) (fun h_3 => ?_)
    refine lv_lload_n hx hb dM_holds_49 rfl (lv_at hl 3 rfl) ?_
    refine lv_goto (tgt := 59) hx hb dM_holds_50 (by decide) ?_
    refine lv_lstore hx hb dM_holds_59 hl (by decide) rfl (fun ls hl => ?_)
    have hl : lv_has ls 9 [(7, .long (uw (a))), (6, .int (0)), (0, .ref (q 0)), (1, .int (g)), (2, .long (uw (a))), (4, .long (lN n))] := hl
    refine lv_lload hx hb dM_holds_61 (lv_at hl 0 rfl) ?_
    refine lv_aload_n hx hb dM_holds_63 rfl (lv_at hl 2 rfl) ?_
    refine va_get (D := D) (ci := 1) (v := .ref (q 2)) (C := RM) (T := TM) (N := 7) hx hb hts inM hown hK hP 0 rfl rfl 2 (by decide) (hts _ w_257) (fun _ h9 => h9) rfl dM_holds_64 ?_
    refine lv_iload_n hx hb dM_holds_67 rfl (lv_at hl 3 rfl) ?_
    refine va_lald hx hb hK hP 2 0 rfl rfl hg dM_holds_68 ?_
    refine W.eq (g2 := F0 m 69 ls [.long (uw (B g.toNatClampNeg)), .long (uw (a))]) rfl ?_
    refine W.lcmp hx hb dM_holds_69 ?_
    refine lv_if_lt (tgt := 85) hx hb dM_holds_70 (by decide) (fun h_4 => ?_) (fun h_4 => ?_)
    · rw [lg_cmp_lt] at h_4
      refine lv_iconst (v := 0) hx hb dM_holds_85 (by decide) ?_
      have e9 : (ga_in (B g.toNatClampNeg) (T g.toNatClampNeg) a n) = false := by rw [show (0 : Int64) = lN 0 from rfl, pk_lEQ (by omega) (by omega)] at h_1; simp only [uw] at h_4; rw [pk_lLT (by have h91 := un_lt a; have h92 := un_lt (B g.toNatClampNeg); have h93 := un_lt (T g.toNatClampNeg); omega) (by have h91 := un_lt a; have h92 := un_lt (B g.toNatClampNeg); have h93 := un_lt (T g.toNatClampNeg); omega)] at h_4; unfold ga_in; simp; omega
      refine W.eq (g2 := F0 m 86 ls [.int (bi (ga_in (B g.toNatClampNeg) (T g.toNatClampNeg) a n))]) (by rw [e9]; rfl) ?_
      exact W.zret (v := bi (ga_in (B g.toNatClampNeg) (T g.toNatClampNeg) a n)) hx hb hr (bi_nar _) (fun t9 ht hW => ⟨rfl, ht⟩) (fun z hz => nomatch hz) dM_holds_86
    · rw [lg_cmp_lt] at h_4
      refine lv_lload hx hb dM_holds_73 (lv_at hl 0 rfl) ?_
      refine lv_aload_n hx hb dM_holds_75 rfl (lv_at hl 2 rfl) ?_
      refine va_get (D := D) (ci := 1) (v := .ref (q 3)) (C := RM) (T := TM) (N := 7) hx hb hts inM hown hK hP 0 rfl rfl 3 (by decide) (hts _ w_258) (fun _ h9 => h9) rfl dM_holds_76 ?_
      refine lv_iload_n hx hb dM_holds_79 rfl (lv_at hl 3 rfl) ?_
      refine va_lald hx hb hK hP 3 0 rfl rfl hg dM_holds_80 ?_
      refine W.eq (g2 := F0 m 81 ls [.long (uw (T g.toNatClampNeg)), .long (uw (a))]) rfl ?_
      refine W.lcmp hx hb dM_holds_81 ?_
      refine lv_if_lt (tgt := 87) hx hb dM_holds_82 (by decide) (fun h_5 => ?_) (fun h_5 => ?_)
      · rw [lg_cmp_lt] at h_5
        refine lv_iinc (k := 1) (v := 1) hx hb dM_holds_87 hl rfl (by decide) (by decide) rfl (fun ls hl => ?_)
        have hl : lv_has ls 9 [(6, .int (1)), (7, .long (uw (a))), (0, .ref (q 0)), (1, .int (g)), (2, .long (uw (a))), (4, .long (lN n))] := hl
        refine lv_goto (tgt := 38) hx hb dM_holds_90 (by decide) ?_
        refine lv_iload hx hb dM_holds_38 (lv_at hl 0 rfl) ?_
        refine lv_iconst (v := 2) hx hb dM_holds_40 (by decide) ?_
        refine lv_icmp_ge (tgt := 93) hx hb dM_holds_41 (by decide) (fun h_6 => absurd h_6 (by decide)) (fun h_6 => ?_)
        refine lv_iload hx hb dM_holds_44 (lv_at hl 0 rfl) ?_
        refine lv_if_ne (tgt := 53) hx hb dM_holds_46 (by decide) (fun h_7 => ?_) (fun h_7 => absurd h_7 (by decide))
        refine lv_lload_n hx hb dM_holds_53 rfl (lv_at hl 4 rfl) ?_
        refine lv_lload hx hb dM_holds_54 (lv_at hl 5 rfl) ?_
        refine lv_ladd hx hb dM_holds_56 ?_
        refine lv_lconst (v := 1) hx hb dM_holds_57 (by decide) ?_
        refine lv_lsub hx hb dM_holds_58 ?_
        refine W.eq (g2 := F0 m 59 ls [.long (lN (un a + n - 1))]) (by rw [show uw a = lN (un a) from rfl, lN_add, show (1 : Int64) = lN 1 from rfl, lN_sub (by have h90 : ¬ n = 0 := fun h91 => h_1 (by rw [h91]; rfl); omega)]) ?_
        refine lv_lstore hx hb dM_holds_59 hl (by decide) rfl (fun ls hl => ?_)
        have hl : lv_has ls 9 [(7, .long (lN (un a + n - 1))), (6, .int (1)), (0, .ref (q 0)), (1, .int (g)), (2, .long (uw (a))), (4, .long (lN n))] := hl
        refine lv_lload hx hb dM_holds_61 (lv_at hl 0 rfl) ?_
        refine lv_aload_n hx hb dM_holds_63 rfl (lv_at hl 2 rfl) ?_
        refine va_get (D := D) (ci := 1) (v := .ref (q 2)) (C := RM) (T := TM) (N := 7) hx hb hts inM hown hK hP 0 rfl rfl 2 (by decide) (hts _ w_257) (fun _ h9 => h9) rfl dM_holds_64 ?_
        refine lv_iload_n hx hb dM_holds_67 rfl (lv_at hl 3 rfl) ?_
        refine va_lald hx hb hK hP 2 0 rfl rfl hg dM_holds_68 ?_
        refine W.eq (g2 := F0 m 69 ls [.long (uw (B g.toNatClampNeg)), .long (lN (un a + n - 1))]) rfl ?_
        refine W.lcmp hx hb dM_holds_69 ?_
        refine lv_if_lt (tgt := 85) hx hb dM_holds_70 (by decide) (fun h_8 => ?_) (fun h_8 => ?_)
        · rw [lg_cmp_lt] at h_8
          refine lv_iconst (v := 0) hx hb dM_holds_85 (by decide) ?_
          have e9 : (ga_in (B g.toNatClampNeg) (T g.toNatClampNeg) a n) = false := by rw [show (0 : Int64) = lN 0 from rfl, pk_lEQ (by omega) (by omega)] at h_1; simp only [uw] at h_4; rw [pk_lLT (by have h91 := un_lt a; have h92 := un_lt (B g.toNatClampNeg); have h93 := un_lt (T g.toNatClampNeg); omega) (by have h91 := un_lt a; have h92 := un_lt (B g.toNatClampNeg); have h93 := un_lt (T g.toNatClampNeg); omega)] at h_4; simp only [uw] at h_5; rw [pk_lLT (by have h91 := un_lt a; have h92 := un_lt (B g.toNatClampNeg); have h93 := un_lt (T g.toNatClampNeg); omega) (by have h91 := un_lt a; have h92 := un_lt (B g.toNatClampNeg); have h93 := un_lt (T g.toNatClampNeg); omega)] at h_5; simp only [uw] at h_8; rw [pk_lLT (by have h91 := un_lt a; have h92 := un_lt (B g.toNatClampNeg); have h93 := un_lt (T g.toNatClampNeg); omega) (by have h91 := un_lt a; have h92 := un_lt (B g.toNatClampNeg); have h93 := un_lt (T g.toNatClampNeg); omega)] at h_8; unfold ga_in; simp; omega
          refine W.eq (g2 := F0 m 86 ls [.int (bi (ga_in (B g.toNatClampNeg) (T g.toNatClampNeg) a n))]) (by rw [e9]; rfl) ?_
          exact W.zret (v := bi (ga_in (B g.toNatClampNeg) (T g.toNatClampNeg) a n)) hx hb hr (bi_nar _) (fun t9 ht hW => ⟨rfl, ht⟩) (fun z hz => nomatch hz) dM_holds_86
        · rw [lg_cmp_lt] at h_8
          refine lv_lload hx hb dM_holds_73 (lv_at hl 0 rfl) ?_
          refine lv_aload_n hx hb dM_holds_75 rfl (lv_at hl 2 rfl) ?_
          refine va_get (D := D) (ci := 1) (v := .ref (q 3)) (C := RM) (T := TM) (N := 7) hx hb hts inM hown hK hP 0 rfl rfl 3 (by decide) (hts _ w_258) (fun _ h9 => h9) rfl dM_holds_76 ?_
          refine lv_iload_n hx hb dM_holds_79 rfl (lv_at hl 3 rfl) ?_
          refine va_lald hx hb hK hP 3 0 rfl rfl hg dM_holds_80 ?_
          refine W.eq (g2 := F0 m 81 ls [.long (uw (T g.toNatClampNeg)), .long (lN (un a + n - 1))]) rfl ?_
          refine W.lcmp hx hb dM_holds_81 ?_
          refine lv_if_lt (tgt := 87) hx hb dM_holds_82 (by decide) (fun h_9 => ?_) (fun h_9 => ?_)
          · rw [lg_cmp_lt] at h_9
            refine lv_iinc (k := 1) (v := 2) hx hb dM_holds_87 hl rfl (by decide) (by decide) rfl (fun ls hl => ?_)
            have hl : lv_has ls 9 [(6, .int (2)), (7, .long (lN (un a + n - 1))), (0, .ref (q 0)), (1, .int (g)), (2, .long (uw (a))), (4, .long (lN n))] := hl
            refine lv_goto (tgt := 38) hx hb dM_holds_90 (by decide) ?_
            refine lv_iload hx hb dM_holds_38 (lv_at hl 0 rfl) ?_
            refine lv_iconst (v := 2) hx hb dM_holds_40 (by decide) ?_
            refine lv_icmp_ge (tgt := 93) hx hb dM_holds_41 (by decide) (fun h_10 => ?_) (fun h_10 => absurd (by decide) h_10)
            refine lv_iconst (v := 1) hx hb dM_holds_93 (by decide) ?_
            have e9 : (ga_in (B g.toNatClampNeg) (T g.toNatClampNeg) a n) = true := by rw [show (0 : Int64) = lN 0 from rfl, pk_lEQ (by omega) (by omega)] at h_1; simp only [uw] at h_4; rw [pk_lLT (by have h91 := un_lt a; have h92 := un_lt (B g.toNatClampNeg); have h93 := un_lt (T g.toNatClampNeg); omega) (by have h91 := un_lt a; have h92 := un_lt (B g.toNatClampNeg); have h93 := un_lt (T g.toNatClampNeg); omega)] at h_4; simp only [uw] at h_5; rw [pk_lLT (by have h91 := un_lt a; have h92 := un_lt (B g.toNatClampNeg); have h93 := un_lt (T g.toNatClampNeg); omega) (by have h91 := un_lt a; have h92 := un_lt (B g.toNatClampNeg); have h93 := un_lt (T g.toNatClampNeg); omega)] at h_5; simp only [uw] at h_8; rw [pk_lLT (by have h91 := un_lt a; have h92 := un_lt (B g.toNatClampNeg); have h93 := un_lt (T g.toNatClampNeg); omega) (by have h91 := un_lt a; have h92 := un_lt (B g.toNatClampNeg); have h93 := un_lt (T g.toNatClampNeg); omega)] at h_8; simp only [uw] at h_9; rw [pk_lLT (by have h91 := un_lt a; have h92 := un_lt (B g.toNatClampNeg); have h93 := un_lt (T g.toNatClampNeg); omega) (by have h91 := un_lt a; have h92 := un_lt (B g.toNatClampNeg); have h93 := un_lt (T g.toNatClampNeg); omega)] at h_9; unfold ga_in; simp; omega
            refine W.eq (g2 := F0 m 94 ls [.int (bi (ga_in (B g.toNatClampNeg) (T g.toNatClampNeg) a n))]) (by rw [e9]; rfl) ?_
            exact W.zret (v := bi (ga_in (B g.toNatClampNeg) (T g.toNatClampNeg) a n)) hx hb hr (bi_nar _) (fun t9 ht hW => ⟨rfl, ht⟩) (fun z hz => nomatch hz) dM_holds_94
          · rw [lg_cmp_lt] at h_9
            refine lv_iconst (v := 0) hx hb dM_holds_85 (by decide) ?_
            have e9 : (ga_in (B g.toNatClampNeg) (T g.toNatClampNeg) a n) = false := by rw [show (0 : Int64) = lN 0 from rfl, pk_lEQ (by omega) (by omega)] at h_1; simp only [uw] at h_4; rw [pk_lLT (by have h91 := un_lt a; have h92 := un_lt (B g.toNatClampNeg); have h93 := un_lt (T g.toNatClampNeg); omega) (by have h91 := un_lt a; have h92 := un_lt (B g.toNatClampNeg); have h93 := un_lt (T g.toNatClampNeg); omega)] at h_4; simp only [uw] at h_5; rw [pk_lLT (by have h91 := un_lt a; have h92 := un_lt (B g.toNatClampNeg); have h93 := un_lt (T g.toNatClampNeg); omega) (by have h91 := un_lt a; have h92 := un_lt (B g.toNatClampNeg); have h93 := un_lt (T g.toNatClampNeg); omega)] at h_5; simp only [uw] at h_8; rw [pk_lLT (by have h91 := un_lt a; have h92 := un_lt (B g.toNatClampNeg); have h93 := un_lt (T g.toNatClampNeg); omega) (by have h91 := un_lt a; have h92 := un_lt (B g.toNatClampNeg); have h93 := un_lt (T g.toNatClampNeg); omega)] at h_8; simp only [uw] at h_9; rw [pk_lLT (by have h91 := un_lt a; have h92 := un_lt (B g.toNatClampNeg); have h93 := un_lt (T g.toNatClampNeg); omega) (by have h91 := un_lt a; have h92 := un_lt (B g.toNatClampNeg); have h93 := un_lt (T g.toNatClampNeg); omega)] at h_9; unfold ga_in; simp; omega
            refine W.eq (g2 := F0 m 86 ls [.int (bi (ga_in (B g.toNatClampNeg) (T g.toNatClampNeg) a n))]) (by rw [e9]; rfl) ?_
            exact W.zret (v := bi (ga_in (B g.toNatClampNeg) (T g.toNatClampNeg) a n)) hx hb hr (bi_nar _) (fun t9 ht hW => ⟨rfl, ht⟩) (fun z hz => nomatch hz) dM_holds_86
      · rw [lg_cmp_lt] at h_5
        refine lv_iconst (v := 0) hx hb dM_holds_85 (by decide) ?_
        have e9 : (ga_in (B g.toNatClampNeg) (T g.toNatClampNeg) a n) = false := by rw [show (0 : Int64) = lN 0 from rfl, pk_lEQ (by omega) (by omega)] at h_1; simp only [uw] at h_4; rw [pk_lLT (by have h91 := un_lt a; have h92 := un_lt (B g.toNatClampNeg); have h93 := un_lt (T g.toNatClampNeg); omega) (by have h91 := un_lt a; have h92 := un_lt (B g.toNatClampNeg); have h93 := un_lt (T g.toNatClampNeg); omega)] at h_4; simp only [uw] at h_5; rw [pk_lLT (by have h91 := un_lt a; have h92 := un_lt (B g.toNatClampNeg); have h93 := un_lt (T g.toNatClampNeg); omega) (by have h91 := un_lt a; have h92 := un_lt (B g.toNatClampNeg); have h93 := un_lt (T g.toNatClampNeg); omega)] at h_5; unfold ga_in; simp; omega
        refine W.eq (g2 := F0 m 86 ls [.int (bi (ga_in (B g.toNatClampNeg) (T g.toNatClampNeg) a n))]) (by rw [e9]; rfl) ?_
        exact W.zret (v := bi (ga_in (B g.toNatClampNeg) (T g.toNatClampNeg) a n)) hx hb hr (bi_nar _) (fun t9 ht hW => ⟨rfl, ht⟩) (fun z hz => nomatch hz) dM_holds_86
  · rw [lg_cmp_eq] at h_1
    refine lv_lload_n hx hb dM_holds_7 rfl (lv_at hl 2 rfl) ?_
    refine lv_aload_n hx hb dM_holds_8 rfl (lv_at hl 0 rfl) ?_
    refine va_get (D := D) (ci := 1) (v := .ref (q 2)) (C := RM) (T := TM) (N := 7) hx hb hts inM hown hK hP 0 rfl rfl 2 (by decide) (hts _ w_257) (fun _ h9 => h9) rfl dM_holds_9 ?_
    refine lv_iload_n hx hb dM_holds_12 rfl (lv_at hl 1 rfl) ?_
    refine va_lald hx hb hK hP 2 0 rfl rfl hg dM_holds_13 ?_
    refine W.eq (g2 := F0 m 14 ls [.long (uw (B g.toNatClampNeg)), .long (uw (a))]) rfl ?_
    refine W.lcmp hx hb dM_holds_14 ?_
    refine lv_if_lt (tgt := 33) hx hb dM_holds_15 (by decide) (fun h_11 => ?_) (fun h_11 => ?_)
    · rw [lg_cmp_lt] at h_11
      refine lv_iconst (v := 0) hx hb dM_holds_33 (by decide) ?_
      have e9 : (ga_in (B g.toNatClampNeg) (T g.toNatClampNeg) a n) = false := by rw [show (0 : Int64) = lN 0 from rfl, pk_lEQ (by omega) (by omega)] at h_1; simp only [uw] at h_11; rw [pk_lLT (by have h91 := un_lt a; have h92 := un_lt (B g.toNatClampNeg); have h93 := un_lt (T g.toNatClampNeg); omega) (by have h91 := un_lt a; have h92 := un_lt (B g.toNatClampNeg); have h93 := un_lt (T g.toNatClampNeg); omega)] at h_11; unfold ga_in; simp; omega
      refine W.eq (g2 := F0 m 34 ls [.int (bi (ga_in (B g.toNatClampNeg) (T g.toNatClampNeg) a n))]) (by rw [e9]; rfl) ?_
      exact W.zret (v := bi (ga_in (B g.toNatClampNeg) (T g.toNatClampNeg) a n)) hx hb hr (bi_nar _) (fun t9 ht hW => ⟨rfl, ht⟩) (fun z hz => nomatch hz) dM_holds_34
    · rw [lg_cmp_lt] at h_11
      refine lv_lload_n hx hb dM_holds_18 rfl (lv_at hl 2 rfl) ?_
      refine lv_aload_n hx hb dM_holds_19 rfl (lv_at hl 0 rfl) ?_
      refine va_get (D := D) (ci := 1) (v := .ref (q 3)) (C := RM) (T := TM) (N := 7) hx hb hts inM hown hK hP 0 rfl rfl 3 (by decide) (hts _ w_258) (fun _ h9 => h9) rfl dM_holds_20 ?_
      refine lv_iload_n hx hb dM_holds_23 rfl (lv_at hl 1 rfl) ?_
      refine va_lald hx hb hK hP 3 0 rfl rfl hg dM_holds_24 ?_
      refine W.eq (g2 := F0 m 25 ls [.long (uw (T g.toNatClampNeg)), .long (uw (a))]) rfl ?_
      refine W.lcmp hx hb dM_holds_25 ?_
      refine lv_if_gt (tgt := 33) hx hb dM_holds_26 (by decide) (fun h_12 => ?_) (fun h_12 => ?_)
      · rw [lg_cmp_gt] at h_12
        refine lv_iconst (v := 0) hx hb dM_holds_33 (by decide) ?_
        have e9 : (ga_in (B g.toNatClampNeg) (T g.toNatClampNeg) a n) = false := by rw [show (0 : Int64) = lN 0 from rfl, pk_lEQ (by omega) (by omega)] at h_1; simp only [uw] at h_11; rw [pk_lLT (by have h91 := un_lt a; have h92 := un_lt (B g.toNatClampNeg); have h93 := un_lt (T g.toNatClampNeg); omega) (by have h91 := un_lt a; have h92 := un_lt (B g.toNatClampNeg); have h93 := un_lt (T g.toNatClampNeg); omega)] at h_11; simp only [uw] at h_12; rw [pk_lLT (by have h91 := un_lt a; have h92 := un_lt (B g.toNatClampNeg); have h93 := un_lt (T g.toNatClampNeg); omega) (by have h91 := un_lt a; have h92 := un_lt (B g.toNatClampNeg); have h93 := un_lt (T g.toNatClampNeg); omega)] at h_12; unfold ga_in; simp; omega
        refine W.eq (g2 := F0 m 34 ls [.int (bi (ga_in (B g.toNatClampNeg) (T g.toNatClampNeg) a n))]) (by rw [e9]; rfl) ?_
        exact W.zret (v := bi (ga_in (B g.toNatClampNeg) (T g.toNatClampNeg) a n)) hx hb hr (bi_nar _) (fun t9 ht hW => ⟨rfl, ht⟩) (fun z hz => nomatch hz) dM_holds_34
      · rw [lg_cmp_gt] at h_12
        refine lv_iconst (v := 1) hx hb dM_holds_29 (by decide) ?_
        refine lv_goto (tgt := 34) hx hb dM_holds_30 (by decide) ?_
        have e9 : (ga_in (B g.toNatClampNeg) (T g.toNatClampNeg) a n) = true := by rw [show (0 : Int64) = lN 0 from rfl, pk_lEQ (by omega) (by omega)] at h_1; simp only [uw] at h_11; rw [pk_lLT (by have h91 := un_lt a; have h92 := un_lt (B g.toNatClampNeg); have h93 := un_lt (T g.toNatClampNeg); omega) (by have h91 := un_lt a; have h92 := un_lt (B g.toNatClampNeg); have h93 := un_lt (T g.toNatClampNeg); omega)] at h_11; simp only [uw] at h_12; rw [pk_lLT (by have h91 := un_lt a; have h92 := un_lt (B g.toNatClampNeg); have h93 := un_lt (T g.toNatClampNeg); omega) (by have h91 := un_lt a; have h92 := un_lt (B g.toNatClampNeg); have h93 := un_lt (T g.toNatClampNeg); omega)] at h_12; unfold ga_in; simp; omega
        refine W.eq (g2 := F0 m 34 ls [.int (bi (ga_in (B g.toNatClampNeg) (T g.toNatClampNeg) a n))]) (by rw [e9]; rfl) ?_
        exact W.zret (v := bi (ga_in (B g.toNatClampNeg) (T g.toNatClampNeg) a n)) hx hb hr (bi_nar _) (fun t9 ht hW => ⟨rfl, ht⟩) (fun z hz => nomatch hz) dM_holds_34
end
section
/-! Pure rows for the reference's larger methods. -/
theorem gi_nz {r : Int32} (h : vp_in r 16) : ¬ bi (gi r) = 0 := by rw [gi_in.mpr h]; decide
theorem gi_z {r : Int32} (h : ¬ vp_in r 16) : bi (gi r) = 0 := by
  cases hg : gi r
  · rfl
  · exact absurd (gi_in.mp hg) h
theorem gp_c {v c : Int32} {d : Int64} (hd : d = c.toInt64) : (decide ((0 : Int64) ≤ v.toInt64) && decide (v.toInt64 ≤ d)) = gp v c := by rw [hd]; rfl
theorem gp_nz {v c : Int32} {d : Int64} (hd : d = c.toInt64) (h0 : ¬ v < 0) (h : v ≤ c) : ¬ bi (decide ((0 : Int64) ≤ v.toInt64) && decide (v.toInt64 ≤ d)) = 0 := by rw [gp_c hd, gp_in.mpr ⟨h0, h⟩]; decide
theorem gp_z {v c : Int32} {d : Int64} (hd : d = c.toInt64) (h : ¬ (¬ v < 0 ∧ v ≤ c)) : bi (decide ((0 : Int64) ≤ v.toInt64) && decide (v.toInt64 ≤ d)) = 0 := by
  rw [gp_c hd]
  cases hg : gp v c
  · rfl
  · exact absurd (gp_in.mp hg) h
theorem gp_y {v c : Int32} {d : Int64} (hd : d = c.toInt64) (h : (decide ((0 : Int64) ≤ v.toInt64) && decide (v.toInt64 ≤ d)) = true) : ¬ v < 0 ∧ v ≤ c := by
  rw [gp_c hd] at h
  exact gp_in.mp h
theorem ln_nz {n : Nat} (h : n ≤ 65536) : ¬ bi (decide ((0 : Int64) ≤ lN n) && decide (lN n ≤ 65536)) = 0 := by
  have h1 : (0 : Int64) ≤ lN n := (pk_lLE (a := 0) (b := n) (by decide) (by omega)).mpr (by omega)
  have h2 : lN n ≤ 65536 := (pk_lLE (a := n) (b := 65536) (by omega) (by decide)).mpr h
  rw [decide_eq_true h1, decide_eq_true h2]
  decide
/-- a place is a type, told with or without sign -/
theorem ty_eq (a : Int32) : (decide ((1 : Int64) ≤ uw a) && decide (uw a ≤ 65535)) = decide (1 ≤ a ∧ a ≤ 65535) := by
  have hl := un_lt a
  have hu := un_int a
  have h1 : (1 : Int64) ≤ uw a ↔ 1 ≤ un a := pk_lLE (a := 1) (b := un a) (by decide) (by omega)
  have h2 : uw a ≤ 65535 ↔ un a ≤ 65535 := pk_lLE (a := un a) (b := 65535) (by omega) (by decide)
  have c1 : (1 : Int32).toInt = 1 := by decide
  have c2 : (65535 : Int32).toInt = 65535 := by decide
  have h3 : (1 ≤ a ∧ a ≤ 65535) ↔ (1 ≤ un a ∧ un a ≤ 65535) := by
    rw [Int32.le_iff_toInt_le, Int32.le_iff_toInt_le, c1, c2, hu]
    split <;> omega
  rw [Bool.eq_iff_iff, Bool.and_eq_true, decide_eq_true_eq, decide_eq_true_eq, decide_eq_true_eq, h1, h2, h3]
theorem ue_eq {a y : Int32} (hy : ¬ y < 0) : uw a = y.toInt64 ↔ a = y := by
  obtain ⟨j, hj, rfl⟩ := nI_of hy
  rw [nI_l hj]
  have hl := un_lt a
  constructor
  · intro h
    have h1 : un a = j := (pk_lEQ (a := un a) (b := j) (by omega) (by omega)).mp h
    rw [← nI_un a, h1]
  · intro h
    rw [h]
    show lN (un (nI j)) = lN j
    rw [show un (nI j) = j from pk_tn (by omega)]
/-- the reference adds up the bits that both have -/
theorem bt_un (x : Int32) (k : Nat) : bt x k = (un x).testBit k := by
  unfold bt un
  rw [BitVec.testBit_toNat]
theorem ra_y {x : Int32} {k : Nat} (hk : k < 32) (h : bt x k = true) : nI (un x % 2 ^ k) + ((1 : Int32) <<< (nI k &&& 31)) = nI (un x % 2 ^ (k + 1)) := by
  have h1 : (1 : Int32) <<< (nI k &&& 31) = nI (2 ^ k) := by
    have h2 := pk_shlN (n := 1) (nI k &&& 31) k (s_l k hk) (by rw [Nat.one_mul]; exact Nat.pow_lt_pow_right (by decide) hk)
    rw [Nat.one_mul] at h2
    exact h2
  rw [bt_un, Nat.testBit_eq_decide_div_mod_eq, decide_eq_true_eq] at h
  rw [h1, nI_add, Nat.mod_pow_succ, h, Nat.mul_one]
theorem ra_n {x : Int32} {k : Nat} (h : ¬ bt x k = true) : nI (un x % 2 ^ k) = nI (un x % 2 ^ (k + 1)) := by
  have h1 : bt x k = false := by cases hb : bt x k <;> simp_all
  rw [bt_un, Nat.testBit_eq_decide_div_mod_eq, decide_eq_false_iff_not] at h1
  rw [Nat.mod_pow_succ, show un x / 2 ^ k % 2 = 0 by omega, Nat.mul_zero, Nat.add_zero]
theorem un_and_le (x y : Int32) : un (x &&& y) ≤ un x := by
  unfold un
  rw [Int32.toBitVec_and, BitVec.toNat_and]
  exact Nat.and_le_left
theorem ra_8 {x y : Int32} (h : un x < 256) : nI (un (x &&& y) % 2 ^ 8) = x &&& y := by
  have h1 := un_and_le x y
  rw [Nat.mod_eq_of_lt (by omega), nI_un]
end
section
/-! Contracts of the reference: root, number, move, narrow, within, part, allows. Laid by program (wip/whole/gen_m2.py). -/
set_option maxRecDepth 100000 in
set_option maxHeartbeats 4000000 in
theorem mM_number_y (l : Launch) (D : va_G) (cJ cI cZ : ClassId) (q : Nat → Nat) (e0 : Int32) (A B T P Y : Nat → Int32) (G : Nat → Bool) (sz : Nat) (ri v : Int32) (hri : vp_in ri 16) : Met l yM_number (Cond.code yM_number cM_number 3 none :: gw) (rmk 2 0 0) (va_Pc [.ref (q 0), .int (ri), .int (v)] (kB D vwCl (mW cJ cI cZ q (e0) A B T P Y G) (tsM cJ cI cZ) sz)) (kQ none D vwCl (mW cJ cI cZ q (0) (upd A ri.toNatClampNeg (v)) (upd B ri.toNatClampNeg (0)) (upd T ri.toNatClampNeg (0)) (upd P ri.toNatClampNeg (0)) (upd Y ri.toNatClampNeg (0)) (ub G ri.toNatClampNeg (false))) (va_A (mW cJ cI cZ q (e0) A B T P Y G) sz)) 0 0 (va_A (mW cJ cI cZ q (e0) A B T P Y G) sz) := by
  refine Met.ofW (cc := cM_number) (maxL := 3) (ret := none) (by decide) rfl ?_
  intro p e s m args below meth c s₁ B9 hml hv
  obtain ⟨rfl, hsz, hP, hK, hD0⟩ := hv
  have hx := B9.exec
  have hb := B9.bytes
  have hr := B9.returns
  have hts := fun (w : Cond) (h : w ∈ gw) => atoms_spec (ws := _ :: gw) B9.pre w (List.mem_cons_of_mem _ h)
  have hown : s.vm.findClass RM = some m.cls := findClass_of_methodNamed B9.named
  have hlocks := B9.notSynchronized
  have hl := lv_entry ([.ref (q 0), .int (ri), .int (v)]) (n := 3) (Nat.le_of_ble_eq_true rfl)
  rw [lg_entry_eq]
  generalize (lg_sl ([.ref (q 0), .int (ri), .int (v)]) ++ List.replicate (3 - (lg_sl ([.ref (q 0), .int (ri), .int (v)])).length) Slot.unset).toArray = ls at hl ⊢
  have hl : lv_has ls 3 [(0, .ref (q 0)), (1, .int (ri)), (2, .int (v))] := hl
  subst hsz
  have hD := hD0.self (sz := s.heap.size)
  generalize hAe : va_A (mW cJ cI cZ q (e0) A B T P Y G) s.heap.size = A9 at hD ⊢
  have hA : ∀ z : Nat, s.heap.size ≤ z → A9 z := fun z h => by rw [← hAe]; exact Or.inr h
  have hS : va_S A9 s.heap s.heap [] := va_S.rf
  have hP : va_P D vwCl (mW cJ cI cZ q (e0) A B T P Y G) s.heap := hP
  refine lv_aload_n hx hb dM_number_0 rfl (lv_at hl 0 rfl) ?_
  refine lv_iconst (v := 0) hx hb dM_number_1 (by decide) ?_
  refine va_put (D := D) (ci := 1) (v := .int (0)) (ty := .int) (C := RM) (T := TM) (N := 7) hx hb hts inM tyM tyM_ok nmM hown hK hP hD hS 0 rfl rfl 0 (by decide) (hts _ w_255) (fun _ h9 => h9) rfl (by decide +kernel) rfl rfl (Nat.le_of_ble_eq_true rfl) dM_number_2 (fun H locs hP hD hS => ?_)
  have hP : va_P D vwCl (mW cJ cI cZ q (0) A B T P Y G) H := hP
  have hD : va_D A9 (mW cJ cI cZ q (0) A B T P Y G) := hD
  refine lv_aload_n hx hb dM_number_5 rfl (lv_at hl 0 rfl) ?_
  refine lv_iload_n hx hb dM_number_6 rfl (lv_at hl 1 rfl) ?_
  refine kr_S 1 (As := [.int (ri)]) (rest := [.ref (q 0)]) (r := .int (bi (gi ri))) hx hb hml hown hts hl.1 (mM_is l (ri)) tt_stb trivial (gw_S w_298 w_299 w_15 w_300) (by decide) ⟨rfl, rfl⟩ ⟨Nat.le_of_ble_eq_true rfl, Nat.le_of_ble_eq_true rfl⟩ rfl rfl (Nat.le_of_ble_eq_true rfl) dM_number_7 ⟨Nat.zero_le _, Nat.zero_le _⟩ ?_
  refine lv_if_ne (tgt := 17) hx hb dM_number_10 (by decide) (fun h_1 => ?_) (fun h_1 => absurd h_1 (gi_nz hri))
  have h_1 := bi_n h_1
  refine lv_iconst (v := 0) hx hb dM_number_17 (by decide) ?_
  refine lv_iconst (v := 1) hx hb dM_number_18 (by decide) ?_
  refine kw_V 2 [0, 1, 2, 3, 4, 5, 6] [] (b := q 0) (As := [.int (0), .int (1)]) (rest := []) (wc := mW cJ cI cZ q (0) A B T P Y G) (wr := []) (w1 := mW cJ cI cZ q (0) A B T P Y G) hx hb hml hown hts hl.1 hP hD hS hA hK (mM_fails_f l D cJ cI cZ q 0 A B T P Y G _ 1) (gw_V w_294 w_296 w_8 w_15 w_297) (by decide) ⟨rfl, rfl⟩ ⟨Nat.le_of_ble_eq_true rfl, Nat.le_of_ble_eq_true rfl⟩ (va_recv hK hP (ci := 1) rfl (q0 := 0) rfl) rfl rfl (Nat.le_of_ble_eq_true rfl) dM_number_19 ⟨Nat.zero_le _, Nat.zero_le _⟩ rfl rfl ⟨by decide, by decide⟩ (by decide) (fun H locs hP hD hS => ?_)
  have hP : va_P D vwCl (mW cJ cI cZ q (0) A B T P Y G) H := hP
  have hD : va_D A9 (mW cJ cI cZ q (0) A B T P Y G) := hD
  refine W.eq (g2 := F0 m 22 ls [.int (0)]) rfl ?_
  refine lv_if_eq (tgt := 26) hx hb dM_number_22 (by decide) (fun h_2 => ?_) (fun h_2 => absurd (by decide) h_2)
  refine lv_aload_n hx hb dM_number_26 rfl (lv_at hl 0 rfl) ?_
  refine lv_iload_n hx hb dM_number_27 rfl (lv_at hl 1 rfl) ?_
  refine lv_iload_n hx hb dM_number_28 rfl (lv_at hl 2 rfl) ?_
  refine kr_S 1 (As := [.int (v)]) (rest := [.int (ri), .ref (q 0)]) (r := .long (uw (v))) hx hb hml hown hts hl.1 (mM_wide l (v)) tt_stb trivial (gw_S w_286 w_287 w_15 w_288) (by decide) ⟨rfl, rfl⟩ ⟨Nat.le_of_ble_eq_true rfl, Nat.le_of_ble_eq_true rfl⟩ rfl rfl (Nat.le_of_ble_eq_true rfl) dM_number_29 ⟨Nat.zero_le _, Nat.zero_le _⟩ ?_
  refine lv_lconst (v := 0) hx hb dM_number_32 (by decide) ?_
  refine lv_lconst (v := 0) hx hb dM_number_33 (by decide) ?_
  refine lv_iconst (v := 0) hx hb dM_number_34 (by decide) ?_
  refine lv_iconst (v := 0) hx hb dM_number_35 (by decide) ?_
  refine lv_iconst (v := 0) hx hb dM_number_36 (by decide) ?_
  refine W.eq (g2 := F0 m 37 ls [.int (bi (false)), .int (0), .int (0), .long (uw (0)), .long (uw (0)), .long (uw (v)), .int (ri), .ref (q 0)]) rfl ?_
  refine kw_V 7 [0, 1, 2, 3, 4, 5, 6] [] (b := q 0) (As := [.int (ri), .long (uw (v)), .long (uw (0)), .long (uw (0)), .int (0), .int (0), .int (bi (false))]) (rest := []) (wc := mW cJ cI cZ q (0) A B T P Y G) (wr := []) (w1 := mW cJ cI cZ q (0) (upd A ri.toNatClampNeg (v)) (upd B ri.toNatClampNeg (0)) (upd T ri.toNatClampNeg (0)) (upd P ri.toNatClampNeg (0)) (upd Y ri.toNatClampNeg (0)) (ub G ri.toNatClampNeg (false))) hx hb hml hown hts hl.1 hP hD hS hA hK (mM_give l D cJ cI cZ q (0) A B T P Y G _ ri (v) (0) (0) (0) (0) false hri) (gw_V w_302 w_304 w_9 w_15 w_305) (by decide) ⟨rfl, rfl⟩ ⟨Nat.le_of_ble_eq_true rfl, Nat.le_of_ble_eq_true rfl⟩ (va_recv hK hP (ci := 1) rfl (q0 := 0) rfl) rfl rfl (Nat.le_of_ble_eq_true rfl) dM_number_37 ⟨Nat.zero_le _, Nat.zero_le _⟩ rfl rfl ⟨by decide, by decide⟩ (by decide) (fun H locs hP hD hS => ?_)
  have hP : va_P D vwCl (mW cJ cI cZ q (0) (upd A ri.toNatClampNeg (v)) (upd B ri.toNatClampNeg (0)) (upd T ri.toNatClampNeg (0)) (upd P ri.toNatClampNeg (0)) (upd Y ri.toNatClampNeg (0)) (ub G ri.toNatClampNeg (false))) H := hP
  have hD : va_D A9 (mW cJ cI cZ q (0) (upd A ri.toNatClampNeg (v)) (upd B ri.toNatClampNeg (0)) (upd T ri.toNatClampNeg (0)) (upd P ri.toNatClampNeg (0)) (upd Y ri.toNatClampNeg (0)) (ub G ri.toNatClampNeg (false))) := hD
  refine W.eq (g2 := F0 m 40 ls []) rfl ?_
  exact W.vret hx hb hr (fun t9 ht hW => ⟨rfl, by rw [ht]; exact hP, hD, hS.F ht⟩) hS.2.2 dM_number_40

set_option maxRecDepth 100000 in
set_option maxHeartbeats 4000000 in
theorem mM_number_n (l : Launch) (D : va_G) (cJ cI cZ : ClassId) (q : Nat → Nat) (e0 : Int32) (A B T P Y : Nat → Int32) (G : Nat → Bool) (sz : Nat) (ri v : Int32) (hbad : ¬ vp_in ri 16) : Met l yM_number (Cond.code yM_number cM_number 3 none :: gw) (rmk 2 0 0) (va_Pc [.ref (q 0), .int (ri), .int (v)] (kB D vwCl (mW cJ cI cZ q (e0) A B T P Y G) (tsM cJ cI cZ) sz)) (kQ none D vwCl (mW cJ cI cZ q (1) A B T P Y G) (va_A (mW cJ cI cZ q (e0) A B T P Y G) sz)) 0 0 (va_A (mW cJ cI cZ q (e0) A B T P Y G) sz) := by
  refine Met.ofW (cc := cM_number) (maxL := 3) (ret := none) (by decide) rfl ?_
  intro p e s m args below meth c s₁ B9 hml hv
  obtain ⟨rfl, hsz, hP, hK, hD0⟩ := hv
  have hx := B9.exec
  have hb := B9.bytes
  have hr := B9.returns
  have hts := fun (w : Cond) (h : w ∈ gw) => atoms_spec (ws := _ :: gw) B9.pre w (List.mem_cons_of_mem _ h)
  have hown : s.vm.findClass RM = some m.cls := findClass_of_methodNamed B9.named
  have hlocks := B9.notSynchronized
  have hl := lv_entry ([.ref (q 0), .int (ri), .int (v)]) (n := 3) (Nat.le_of_ble_eq_true rfl)
  rw [lg_entry_eq]
  generalize (lg_sl ([.ref (q 0), .int (ri), .int (v)]) ++ List.replicate (3 - (lg_sl ([.ref (q 0), .int (ri), .int (v)])).length) Slot.unset).toArray = ls at hl ⊢
  have hl : lv_has ls 3 [(0, .ref (q 0)), (1, .int (ri)), (2, .int (v))] := hl
  subst hsz
  have hD := hD0.self (sz := s.heap.size)
  generalize hAe : va_A (mW cJ cI cZ q (e0) A B T P Y G) s.heap.size = A9 at hD ⊢
  have hA : ∀ z : Nat, s.heap.size ≤ z → A9 z := fun z h => by rw [← hAe]; exact Or.inr h
  have hS : va_S A9 s.heap s.heap [] := va_S.rf
  have hP : va_P D vwCl (mW cJ cI cZ q (e0) A B T P Y G) s.heap := hP
  refine lv_aload_n hx hb dM_number_0 rfl (lv_at hl 0 rfl) ?_
  refine lv_iconst (v := 0) hx hb dM_number_1 (by decide) ?_
  refine va_put (D := D) (ci := 1) (v := .int (0)) (ty := .int) (C := RM) (T := TM) (N := 7) hx hb hts inM tyM tyM_ok nmM hown hK hP hD hS 0 rfl rfl 0 (by decide) (hts _ w_255) (fun _ h9 => h9) rfl (by decide +kernel) rfl rfl (Nat.le_of_ble_eq_true rfl) dM_number_2 (fun H locs hP hD hS => ?_)
  have hP : va_P D vwCl (mW cJ cI cZ q (0) A B T P Y G) H := hP
  have hD : va_D A9 (mW cJ cI cZ q (0) A B T P Y G) := hD
  refine lv_aload_n hx hb dM_number_5 rfl (lv_at hl 0 rfl) ?_
  refine lv_iload_n hx hb dM_number_6 rfl (lv_at hl 1 rfl) ?_
  refine kr_S 1 (As := [.int (ri)]) (rest := [.ref (q 0)]) (r := .int (bi (gi ri))) hx hb hml hown hts hl.1 (mM_is l (ri)) tt_stb trivial (gw_S w_298 w_299 w_15 w_300) (by decide) ⟨rfl, rfl⟩ ⟨Nat.le_of_ble_eq_true rfl, Nat.le_of_ble_eq_true rfl⟩ rfl rfl (Nat.le_of_ble_eq_true rfl) dM_number_7 ⟨Nat.zero_le _, Nat.zero_le _⟩ ?_
  refine lv_if_ne (tgt := 17) hx hb dM_number_10 (by decide) (fun h_1 => ?_) (fun h_1 => ?_)
  · have h_1 := bi_n h_1
    exact absurd (gi_in.mp h_1) hbad
  · have h_1 := bi_0 h_1
    refine lv_iconst (v := 1) hx hb dM_number_13 (by decide) ?_
    refine lv_goto (tgt := 18) hx hb dM_number_14 (by decide) ?_
    refine lv_iconst (v := 1) hx hb dM_number_18 (by decide) ?_
    refine kw_V 2 [0, 1, 2, 3, 4, 5, 6] [] (b := q 0) (As := [.int (1), .int (1)]) (rest := []) (wc := mW cJ cI cZ q (0) A B T P Y G) (wr := []) (w1 := mW cJ cI cZ q (1) A B T P Y G) hx hb hml hown hts hl.1 hP hD hS hA hK (mM_fails_t l D cJ cI cZ q 0 A B T P Y G _ 1 (by decide)) (gw_V w_294 w_296 w_8 w_15 w_297) (by decide) ⟨rfl, rfl⟩ ⟨Nat.le_of_ble_eq_true rfl, Nat.le_of_ble_eq_true rfl⟩ (va_recv hK hP (ci := 1) rfl (q0 := 0) rfl) rfl rfl (Nat.le_of_ble_eq_true rfl) dM_number_19 ⟨Nat.zero_le _, Nat.zero_le _⟩ rfl rfl ⟨by decide, by decide⟩ (by decide) (fun H locs hP hD hS => ?_)
    have hP : va_P D vwCl (mW cJ cI cZ q (1) A B T P Y G) H := hP
    have hD : va_D A9 (mW cJ cI cZ q (1) A B T P Y G) := hD
    refine W.eq (g2 := F0 m 22 ls [.int (1)]) rfl ?_
    refine lv_if_eq (tgt := 26) hx hb dM_number_22 (by decide) (fun h_2 => absurd h_2 (by decide)) (fun h_2 => ?_)
    exact W.vret hx hb hr (fun t9 ht hW => ⟨rfl, by rw [ht]; exact hP, hD, hS.F ht⟩) hS.2.2 dM_number_25

set_option maxRecDepth 100000 in
set_option maxHeartbeats 4000000 in
theorem mM_root_y (l : Launch) (D : va_G) (cJ cI cZ : ClassId) (q : Nat → Nat) (e0 : Int32) (A B T P Y : Nat → Int32) (G : Nat → Bool) (sz : Nat) (ri b9 t9 v : Int32) (hri : vp_in ri 16) (hbt : un b9 ≤ un t9) (hv0 : ¬ v < 0) (hv : v ≤ 255) : Met l yM_root (Cond.code yM_root cM_root 5 none :: gw) (rmk 2 0 0) (va_Pc [.ref (q 0), .int (ri), .int (b9), .int (t9), .int (v)] (kB D vwCl (mW cJ cI cZ q (e0) A B T P Y G) (tsM cJ cI cZ) sz)) (kQ none D vwCl (mW cJ cI cZ q (0) (upd A ri.toNatClampNeg (b9)) (upd B ri.toNatClampNeg (b9)) (upd T ri.toNatClampNeg (t9)) (upd P ri.toNatClampNeg (v)) (upd Y ri.toNatClampNeg (0)) (ub G ri.toNatClampNeg (true))) (va_A (mW cJ cI cZ q (e0) A B T P Y G) sz)) 0 0 (va_A (mW cJ cI cZ q (e0) A B T P Y G) sz) := by
  refine Met.ofW (cc := cM_root) (maxL := 5) (ret := none) (by decide) rfl ?_
  intro p e s m args below meth c s₁ B9 hml hv
  obtain ⟨rfl, hsz, hP, hK, hD0⟩ := hv
  have hx := B9.exec
  have hb := B9.bytes
  have hr := B9.returns
  have hts := fun (w : Cond) (h : w ∈ gw) => atoms_spec (ws := _ :: gw) B9.pre w (List.mem_cons_of_mem _ h)
  have hown : s.vm.findClass RM = some m.cls := findClass_of_methodNamed B9.named
  have hlocks := B9.notSynchronized
  have hl := lv_entry ([.ref (q 0), .int (ri), .int (b9), .int (t9), .int (v)]) (n := 5) (Nat.le_of_ble_eq_true rfl)
  rw [lg_entry_eq]
  generalize (lg_sl ([.ref (q 0), .int (ri), .int (b9), .int (t9), .int (v)]) ++ List.replicate (5 - (lg_sl ([.ref (q 0), .int (ri), .int (b9), .int (t9), .int (v)])).length) Slot.unset).toArray = ls at hl ⊢
  have hl : lv_has ls 5 [(0, .ref (q 0)), (1, .int (ri)), (2, .int (b9)), (3, .int (t9)), (4, .int (v))] := hl
  subst hsz
  have hD := hD0.self (sz := s.heap.size)
  generalize hAe : va_A (mW cJ cI cZ q (e0) A B T P Y G) s.heap.size = A9 at hD ⊢
  have hA : ∀ z : Nat, s.heap.size ≤ z → A9 z := fun z h => by rw [← hAe]; exact Or.inr h
  have hS : va_S A9 s.heap s.heap [] := va_S.rf
  have hP : va_P D vwCl (mW cJ cI cZ q (e0) A B T P Y G) s.heap := hP
  refine lv_aload_n hx hb dM_root_0 rfl (lv_at hl 0 rfl) ?_
  refine lv_iconst (v := 0) hx hb dM_root_1 (by decide) ?_
  refine va_put (D := D) (ci := 1) (v := .int (0)) (ty := .int) (C := RM) (T := TM) (N := 7) hx hb hts inM tyM tyM_ok nmM hown hK hP hD hS 0 rfl rfl 0 (by decide) (hts _ w_255) (fun _ h9 => h9) rfl (by decide +kernel) rfl rfl (Nat.le_of_ble_eq_true rfl) dM_root_2 (fun H locs hP hD hS => ?_)
  have hP : va_P D vwCl (mW cJ cI cZ q (0) A B T P Y G) H := hP
  have hD : va_D A9 (mW cJ cI cZ q (0) A B T P Y G) := hD
  refine lv_aload_n hx hb dM_root_5 rfl (lv_at hl 0 rfl) ?_
  refine lv_iload_n hx hb dM_root_6 rfl (lv_at hl 2 rfl) ?_
  refine kr_S 1 (As := [.int (b9)]) (rest := [.ref (q 0)]) (r := .long (uw (b9))) hx hb hml hown hts hl.1 (mM_wide l (b9)) tt_stb trivial (gw_S w_286 w_287 w_15 w_288) (by decide) ⟨rfl, rfl⟩ ⟨Nat.le_of_ble_eq_true rfl, Nat.le_of_ble_eq_true rfl⟩ rfl rfl (Nat.le_of_ble_eq_true rfl) dM_root_7 ⟨Nat.zero_le _, Nat.zero_le _⟩ ?_
  refine lv_iload_n hx hb dM_root_10 rfl (lv_at hl 3 rfl) ?_
  refine kr_S 1 (As := [.int (t9)]) (rest := [.long (uw (b9)), .ref (q 0)]) (r := .long (uw (t9))) hx hb hml hown hts hl.1 (mM_wide l (t9)) tt_stb trivial (gw_S w_286 w_287 w_15 w_288) (by decide) ⟨rfl, rfl⟩ ⟨Nat.le_of_ble_eq_true rfl, Nat.le_of_ble_eq_true rfl⟩ rfl rfl (Nat.le_of_ble_eq_true rfl) dM_root_11 ⟨Nat.zero_le _, Nat.zero_le _⟩ ?_
  refine W.lcmp hx hb dM_root_14 ?_
  refine lv_if_gt (tgt := 31) hx hb dM_root_15 (by decide) (fun h_1 => absurd h_1 (fun h9 => absurd ((lg_cmp_gt _ _).mp h9) (fun h8 => absurd ((uw_lt _ _).mp h8) (Nat.not_lt.mpr hbt)))) (fun h_1 => ?_)
  rw [lg_cmp_gt] at h_1
  refine lv_iload hx hb dM_root_18 (lv_at hl 4 rfl) ?_
  refine lv_i2l (v := (v).toInt64) hx hb dM_root_20 rfl ?_
  refine lv_lconst (v := 0) hx hb dM_root_21 (by decide) ?_
  refine lv_ldc2 (v := 255) hx hb hown (hts _ w_290) dM_root_22 ?_
  refine kr_S 3 (As := [.long ((v).toInt64), .long (0), .long (255)]) (rest := [.ref (q 0)]) (r := .int (bi (decide ((0) ≤ ((v).toInt64)) && decide (((v).toInt64) ≤ (255))))) hx hb hml hown hts hl.1 (mM_in l ((v).toInt64) (0) (255)) tt_stb trivial (gw_S w_291 w_292 w_15 w_293) (by decide) ⟨rfl, rfl⟩ ⟨Nat.le_of_ble_eq_true rfl, Nat.le_of_ble_eq_true rfl⟩ rfl rfl (Nat.le_of_ble_eq_true rfl) dM_root_25 ⟨Nat.zero_le _, Nat.zero_le _⟩ ?_
  refine lv_if_ne (tgt := 35) hx hb dM_root_28 (by decide) (fun h_2 => ?_) (fun h_2 => absurd h_2 (gp_nz (c := 255) (by decide) hv0 hv))
  have h_2 := bi_n h_2
  refine lv_iconst (v := 0) hx hb dM_root_35 (by decide) ?_
  refine lv_iconst (v := 1) hx hb dM_root_36 (by decide) ?_
  refine kw_V 2 [0, 1, 2, 3, 4, 5, 6] [] (b := q 0) (As := [.int (0), .int (1)]) (rest := []) (wc := mW cJ cI cZ q (0) A B T P Y G) (wr := []) (w1 := mW cJ cI cZ q (0) A B T P Y G) hx hb hml hown hts hl.1 hP hD hS hA hK (mM_fails_f l D cJ cI cZ q 0 A B T P Y G _ 1) (gw_V w_294 w_296 w_8 w_15 w_297) (by decide) ⟨rfl, rfl⟩ ⟨Nat.le_of_ble_eq_true rfl, Nat.le_of_ble_eq_true rfl⟩ (va_recv hK hP (ci := 1) rfl (q0 := 0) rfl) rfl rfl (Nat.le_of_ble_eq_true rfl) dM_root_37 ⟨Nat.zero_le _, Nat.zero_le _⟩ rfl rfl ⟨by decide, by decide⟩ (by decide) (fun H locs hP hD hS => ?_)
  have hP : va_P D vwCl (mW cJ cI cZ q (0) A B T P Y G) H := hP
  have hD : va_D A9 (mW cJ cI cZ q (0) A B T P Y G) := hD
  refine W.eq (g2 := F0 m 40 ls [.int (0)]) rfl ?_
  refine lv_if_ne (tgt := 63) hx hb dM_root_40 (by decide) (fun h_3 => absurd (by decide) h_3) (fun h_3 => ?_)
  refine lv_aload_n hx hb dM_root_43 rfl (lv_at hl 0 rfl) ?_
  refine lv_iload_n hx hb dM_root_44 rfl (lv_at hl 1 rfl) ?_
  refine kr_S 1 (As := [.int (ri)]) (rest := [.ref (q 0)]) (r := .int (bi (gi ri))) hx hb hml hown hts hl.1 (mM_is l (ri)) tt_stb trivial (gw_S w_298 w_299 w_15 w_300) (by decide) ⟨rfl, rfl⟩ ⟨Nat.le_of_ble_eq_true rfl, Nat.le_of_ble_eq_true rfl⟩ rfl rfl (Nat.le_of_ble_eq_true rfl) dM_root_45 ⟨Nat.zero_le _, Nat.zero_le _⟩ ?_
  refine lv_if_ne (tgt := 55) hx hb dM_root_48 (by decide) (fun h_4 => ?_) (fun h_4 => absurd h_4 (gi_nz hri))
  have h_4 := bi_n h_4
  refine lv_iconst (v := 0) hx hb dM_root_55 (by decide) ?_
  refine lv_iconst (v := 2) hx hb dM_root_56 (by decide) ?_
  refine kw_V 2 [0, 1, 2, 3, 4, 5, 6] [] (b := q 0) (As := [.int (0), .int (2)]) (rest := []) (wc := mW cJ cI cZ q (0) A B T P Y G) (wr := []) (w1 := mW cJ cI cZ q (0) A B T P Y G) hx hb hml hown hts hl.1 hP hD hS hA hK (mM_fails_f l D cJ cI cZ q 0 A B T P Y G _ 2) (gw_V w_294 w_296 w_8 w_15 w_297) (by decide) ⟨rfl, rfl⟩ ⟨Nat.le_of_ble_eq_true rfl, Nat.le_of_ble_eq_true rfl⟩ (va_recv hK hP (ci := 1) rfl (q0 := 0) rfl) rfl rfl (Nat.le_of_ble_eq_true rfl) dM_root_57 ⟨Nat.zero_le _, Nat.zero_le _⟩ rfl rfl ⟨by decide, by decide⟩ (by decide) (fun H locs hP hD hS => ?_)
  have hP : va_P D vwCl (mW cJ cI cZ q (0) A B T P Y G) H := hP
  have hD : va_D A9 (mW cJ cI cZ q (0) A B T P Y G) := hD
  refine W.eq (g2 := F0 m 60 ls [.int (0)]) rfl ?_
  refine lv_if_eq (tgt := 64) hx hb dM_root_60 (by decide) (fun h_5 => ?_) (fun h_5 => absurd (by decide) h_5)
  refine lv_aload_n hx hb dM_root_64 rfl (lv_at hl 0 rfl) ?_
  refine lv_iload_n hx hb dM_root_65 rfl (lv_at hl 1 rfl) ?_
  refine lv_iload_n hx hb dM_root_66 rfl (lv_at hl 2 rfl) ?_
  refine kr_S 1 (As := [.int (b9)]) (rest := [.int (ri), .ref (q 0)]) (r := .long (uw (b9))) hx hb hml hown hts hl.1 (mM_wide l (b9)) tt_stb trivial (gw_S w_286 w_287 w_15 w_288) (by decide) ⟨rfl, rfl⟩ ⟨Nat.le_of_ble_eq_true rfl, Nat.le_of_ble_eq_true rfl⟩ rfl rfl (Nat.le_of_ble_eq_true rfl) dM_root_67 ⟨Nat.zero_le _, Nat.zero_le _⟩ ?_
  refine lv_iload_n hx hb dM_root_70 rfl (lv_at hl 2 rfl) ?_
  refine kr_S 1 (As := [.int (b9)]) (rest := [.long (uw (b9)), .int (ri), .ref (q 0)]) (r := .long (uw (b9))) hx hb hml hown hts hl.1 (mM_wide l (b9)) tt_stb trivial (gw_S w_286 w_287 w_15 w_288) (by decide) ⟨rfl, rfl⟩ ⟨Nat.le_of_ble_eq_true rfl, Nat.le_of_ble_eq_true rfl⟩ rfl rfl (Nat.le_of_ble_eq_true rfl) dM_root_71 ⟨Nat.zero_le _, Nat.zero_le _⟩ ?_
  refine lv_iload_n hx hb dM_root_74 rfl (lv_at hl 3 rfl) ?_
  refine kr_S 1 (As := [.int (t9)]) (rest := [.long (uw (b9)), .long (uw (b9)), .int (ri), .ref (q 0)]) (r := .long (uw (t9))) hx hb hml hown hts hl.1 (mM_wide l (t9)) tt_stb trivial (gw_S w_286 w_287 w_15 w_288) (by decide) ⟨rfl, rfl⟩ ⟨Nat.le_of_ble_eq_true rfl, Nat.le_of_ble_eq_true rfl⟩ rfl rfl (Nat.le_of_ble_eq_true rfl) dM_root_75 ⟨Nat.zero_le _, Nat.zero_le _⟩ ?_
  refine lv_iload hx hb dM_root_78 (lv_at hl 4 rfl) ?_
  refine lv_iconst (v := 0) hx hb dM_root_80 (by decide) ?_
  refine lv_iconst (v := 1) hx hb dM_root_81 (by decide) ?_
  refine W.eq (g2 := F0 m 82 ls [.int (bi (true)), .int (0), .int (v), .long (uw (t9)), .long (uw (b9)), .long (uw (b9)), .int (ri), .ref (q 0)]) rfl ?_
  refine kw_V 7 [0, 1, 2, 3, 4, 5, 6] [] (b := q 0) (As := [.int (ri), .long (uw (b9)), .long (uw (b9)), .long (uw (t9)), .int (v), .int (0), .int (bi (true))]) (rest := []) (wc := mW cJ cI cZ q (0) A B T P Y G) (wr := []) (w1 := mW cJ cI cZ q (0) (upd A ri.toNatClampNeg (b9)) (upd B ri.toNatClampNeg (b9)) (upd T ri.toNatClampNeg (t9)) (upd P ri.toNatClampNeg (v)) (upd Y ri.toNatClampNeg (0)) (ub G ri.toNatClampNeg (true))) hx hb hml hown hts hl.1 hP hD hS hA hK (mM_give l D cJ cI cZ q (0) A B T P Y G _ ri (b9) (b9) (t9) (v) (0) true hri) (gw_V w_302 w_304 w_9 w_15 w_305) (by decide) ⟨rfl, rfl⟩ ⟨Nat.le_of_ble_eq_true rfl, Nat.le_of_ble_eq_true rfl⟩ (va_recv hK hP (ci := 1) rfl (q0 := 0) rfl) rfl rfl (Nat.le_of_ble_eq_true rfl) dM_root_82 ⟨Nat.zero_le _, Nat.zero_le _⟩ rfl rfl ⟨by decide, by decide⟩ (by decide) (fun H locs hP hD hS => ?_)
  have hP : va_P D vwCl (mW cJ cI cZ q (0) (upd A ri.toNatClampNeg (b9)) (upd B ri.toNatClampNeg (b9)) (upd T ri.toNatClampNeg (t9)) (upd P ri.toNatClampNeg (v)) (upd Y ri.toNatClampNeg (0)) (ub G ri.toNatClampNeg (true))) H := hP
  have hD : va_D A9 (mW cJ cI cZ q (0) (upd A ri.toNatClampNeg (b9)) (upd B ri.toNatClampNeg (b9)) (upd T ri.toNatClampNeg (t9)) (upd P ri.toNatClampNeg (v)) (upd Y ri.toNatClampNeg (0)) (ub G ri.toNatClampNeg (true))) := hD
  refine W.eq (g2 := F0 m 85 ls []) rfl ?_
  exact W.vret hx hb hr (fun t9 ht hW => ⟨rfl, by rw [ht]; exact hP, hD, hS.F ht⟩) hS.2.2 dM_root_85

set_option maxRecDepth 100000 in
set_option maxHeartbeats 4000000 in
theorem mM_root_a (l : Launch) (D : va_G) (cJ cI cZ : ClassId) (q : Nat → Nat) (e0 : Int32) (A B T P Y : Nat → Int32) (G : Nat → Bool) (sz : Nat) (ri b9 t9 v : Int32) (hbad : ¬ (un b9 ≤ un t9 ∧ ¬ v < 0 ∧ v ≤ 255)) : Met l yM_root (Cond.code yM_root cM_root 5 none :: gw) (rmk 2 0 0) (va_Pc [.ref (q 0), .int (ri), .int (b9), .int (t9), .int (v)] (kB D vwCl (mW cJ cI cZ q (e0) A B T P Y G) (tsM cJ cI cZ) sz)) (kQ none D vwCl (mW cJ cI cZ q (1) A B T P Y G) (va_A (mW cJ cI cZ q (e0) A B T P Y G) sz)) 0 0 (va_A (mW cJ cI cZ q (e0) A B T P Y G) sz) := by
  refine Met.ofW (cc := cM_root) (maxL := 5) (ret := none) (by decide) rfl ?_
  intro p e s m args below meth c s₁ B9 hml hv
  obtain ⟨rfl, hsz, hP, hK, hD0⟩ := hv
  have hx := B9.exec
  have hb := B9.bytes
  have hr := B9.returns
  have hts := fun (w : Cond) (h : w ∈ gw) => atoms_spec (ws := _ :: gw) B9.pre w (List.mem_cons_of_mem _ h)
  have hown : s.vm.findClass RM = some m.cls := findClass_of_methodNamed B9.named
  have hlocks := B9.notSynchronized
  have hl := lv_entry ([.ref (q 0), .int (ri), .int (b9), .int (t9), .int (v)]) (n := 5) (Nat.le_of_ble_eq_true rfl)
  rw [lg_entry_eq]
  generalize (lg_sl ([.ref (q 0), .int (ri), .int (b9), .int (t9), .int (v)]) ++ List.replicate (5 - (lg_sl ([.ref (q 0), .int (ri), .int (b9), .int (t9), .int (v)])).length) Slot.unset).toArray = ls at hl ⊢
  have hl : lv_has ls 5 [(0, .ref (q 0)), (1, .int (ri)), (2, .int (b9)), (3, .int (t9)), (4, .int (v))] := hl
  subst hsz
  have hD := hD0.self (sz := s.heap.size)
  generalize hAe : va_A (mW cJ cI cZ q (e0) A B T P Y G) s.heap.size = A9 at hD ⊢
  have hA : ∀ z : Nat, s.heap.size ≤ z → A9 z := fun z h => by rw [← hAe]; exact Or.inr h
  have hS : va_S A9 s.heap s.heap [] := va_S.rf
  have hP : va_P D vwCl (mW cJ cI cZ q (e0) A B T P Y G) s.heap := hP
  refine lv_aload_n hx hb dM_root_0 rfl (lv_at hl 0 rfl) ?_
  refine lv_iconst (v := 0) hx hb dM_root_1 (by decide) ?_
  refine va_put (D := D) (ci := 1) (v := .int (0)) (ty := .int) (C := RM) (T := TM) (N := 7) hx hb hts inM tyM tyM_ok nmM hown hK hP hD hS 0 rfl rfl 0 (by decide) (hts _ w_255) (fun _ h9 => h9) rfl (by decide +kernel) rfl rfl (Nat.le_of_ble_eq_true rfl) dM_root_2 (fun H locs hP hD hS => ?_)
  have hP : va_P D vwCl (mW cJ cI cZ q (0) A B T P Y G) H := hP
  have hD : va_D A9 (mW cJ cI cZ q (0) A B T P Y G) := hD
  refine lv_aload_n hx hb dM_root_5 rfl (lv_at hl 0 rfl) ?_
  refine lv_iload_n hx hb dM_root_6 rfl (lv_at hl 2 rfl) ?_
  refine kr_S 1 (As := [.int (b9)]) (rest := [.ref (q 0)]) (r := .long (uw (b9))) hx hb hml hown hts hl.1 (mM_wide l (b9)) tt_stb trivial (gw_S w_286 w_287 w_15 w_288) (by decide) ⟨rfl, rfl⟩ ⟨Nat.le_of_ble_eq_true rfl, Nat.le_of_ble_eq_true rfl⟩ rfl rfl (Nat.le_of_ble_eq_true rfl) dM_root_7 ⟨Nat.zero_le _, Nat.zero_le _⟩ ?_
  refine lv_iload_n hx hb dM_root_10 rfl (lv_at hl 3 rfl) ?_
  refine kr_S 1 (As := [.int (t9)]) (rest := [.long (uw (b9)), .ref (q 0)]) (r := .long (uw (t9))) hx hb hml hown hts hl.1 (mM_wide l (t9)) tt_stb trivial (gw_S w_286 w_287 w_15 w_288) (by decide) ⟨rfl, rfl⟩ ⟨Nat.le_of_ble_eq_true rfl, Nat.le_of_ble_eq_true rfl⟩ rfl rfl (Nat.le_of_ble_eq_true rfl) dM_root_11 ⟨Nat.zero_le _, Nat.zero_le _⟩ ?_
  refine W.lcmp hx hb dM_root_14 ?_
  refine lv_if_gt (tgt := 31) hx hb dM_root_15 (by decide) (fun h_1 => ?_) (fun h_1 => ?_)
  · rw [lg_cmp_gt] at h_1
    refine lv_iconst (v := 1) hx hb dM_root_31 (by decide) ?_
    refine lv_goto (tgt := 36) hx hb dM_root_32 (by decide) ?_
    refine lv_iconst (v := 1) hx hb dM_root_36 (by decide) ?_
    refine kw_V 2 [0, 1, 2, 3, 4, 5, 6] [] (b := q 0) (As := [.int (1), .int (1)]) (rest := []) (wc := mW cJ cI cZ q (0) A B T P Y G) (wr := []) (w1 := mW cJ cI cZ q (1) A B T P Y G) hx hb hml hown hts hl.1 hP hD hS hA hK (mM_fails_t l D cJ cI cZ q 0 A B T P Y G _ 1 (by decide)) (gw_V w_294 w_296 w_8 w_15 w_297) (by decide) ⟨rfl, rfl⟩ ⟨Nat.le_of_ble_eq_true rfl, Nat.le_of_ble_eq_true rfl⟩ (va_recv hK hP (ci := 1) rfl (q0 := 0) rfl) rfl rfl (Nat.le_of_ble_eq_true rfl) dM_root_37 ⟨Nat.zero_le _, Nat.zero_le _⟩ rfl rfl ⟨by decide, by decide⟩ (by decide) (fun H locs hP hD hS => ?_)
    have hP : va_P D vwCl (mW cJ cI cZ q (1) A B T P Y G) H := hP
    have hD : va_D A9 (mW cJ cI cZ q (1) A B T P Y G) := hD
    refine W.eq (g2 := F0 m 40 ls [.int (1)]) rfl ?_
    refine lv_if_ne (tgt := 63) hx hb dM_root_40 (by decide) (fun h_2 => ?_) (fun h_2 => absurd h_2 (by decide))
    exact W.vret hx hb hr (fun t9 ht hW => ⟨rfl, by rw [ht]; exact hP, hD, hS.F ht⟩) hS.2.2 dM_root_63
  · rw [lg_cmp_gt] at h_1
    refine lv_iload hx hb dM_root_18 (lv_at hl 4 rfl) ?_
    refine lv_i2l (v := (v).toInt64) hx hb dM_root_20 rfl ?_
    refine lv_lconst (v := 0) hx hb dM_root_21 (by decide) ?_
    refine lv_ldc2 (v := 255) hx hb hown (hts _ w_290) dM_root_22 ?_
    refine kr_S 3 (As := [.long ((v).toInt64), .long (0), .long (255)]) (rest := [.ref (q 0)]) (r := .int (bi (decide ((0) ≤ ((v).toInt64)) && decide (((v).toInt64) ≤ (255))))) hx hb hml hown hts hl.1 (mM_in l ((v).toInt64) (0) (255)) tt_stb trivial (gw_S w_291 w_292 w_15 w_293) (by decide) ⟨rfl, rfl⟩ ⟨Nat.le_of_ble_eq_true rfl, Nat.le_of_ble_eq_true rfl⟩ rfl rfl (Nat.le_of_ble_eq_true rfl) dM_root_25 ⟨Nat.zero_le _, Nat.zero_le _⟩ ?_
    refine lv_if_ne (tgt := 35) hx hb dM_root_28 (by decide) (fun h_3 => ?_) (fun h_3 => ?_)
    · have h_3 := bi_n h_3
      exact absurd ⟨Nat.not_lt.mp (fun h9 => h_1 ((uw_lt _ _).mpr h9)), gp_y (c := 255) (by decide) h_3⟩ hbad
    · have h_3 := bi_0 h_3
      refine lv_iconst (v := 1) hx hb dM_root_31 (by decide) ?_
      refine lv_goto (tgt := 36) hx hb dM_root_32 (by decide) ?_
      refine lv_iconst (v := 1) hx hb dM_root_36 (by decide) ?_
      refine kw_V 2 [0, 1, 2, 3, 4, 5, 6] [] (b := q 0) (As := [.int (1), .int (1)]) (rest := []) (wc := mW cJ cI cZ q (0) A B T P Y G) (wr := []) (w1 := mW cJ cI cZ q (1) A B T P Y G) hx hb hml hown hts hl.1 hP hD hS hA hK (mM_fails_t l D cJ cI cZ q 0 A B T P Y G _ 1 (by decide)) (gw_V w_294 w_296 w_8 w_15 w_297) (by decide) ⟨rfl, rfl⟩ ⟨Nat.le_of_ble_eq_true rfl, Nat.le_of_ble_eq_true rfl⟩ (va_recv hK hP (ci := 1) rfl (q0 := 0) rfl) rfl rfl (Nat.le_of_ble_eq_true rfl) dM_root_37 ⟨Nat.zero_le _, Nat.zero_le _⟩ rfl rfl ⟨by decide, by decide⟩ (by decide) (fun H locs hP hD hS => ?_)
      have hP : va_P D vwCl (mW cJ cI cZ q (1) A B T P Y G) H := hP
      have hD : va_D A9 (mW cJ cI cZ q (1) A B T P Y G) := hD
      refine W.eq (g2 := F0 m 40 ls [.int (1)]) rfl ?_
      refine lv_if_ne (tgt := 63) hx hb dM_root_40 (by decide) (fun h_4 => ?_) (fun h_4 => absurd h_4 (by decide))
      exact W.vret hx hb hr (fun t9 ht hW => ⟨rfl, by rw [ht]; exact hP, hD, hS.F ht⟩) hS.2.2 dM_root_63

set_option maxRecDepth 100000 in
set_option maxHeartbeats 4000000 in
theorem mM_root_b (l : Launch) (D : va_G) (cJ cI cZ : ClassId) (q : Nat → Nat) (e0 : Int32) (A B T P Y : Nat → Int32) (G : Nat → Bool) (sz : Nat) (ri b9 t9 v : Int32) (hbt : un b9 ≤ un t9) (hv0 : ¬ v < 0) (hv : v ≤ 255) (hbad : ¬ vp_in ri 16) : Met l yM_root (Cond.code yM_root cM_root 5 none :: gw) (rmk 2 0 0) (va_Pc [.ref (q 0), .int (ri), .int (b9), .int (t9), .int (v)] (kB D vwCl (mW cJ cI cZ q (e0) A B T P Y G) (tsM cJ cI cZ) sz)) (kQ none D vwCl (mW cJ cI cZ q (2) A B T P Y G) (va_A (mW cJ cI cZ q (e0) A B T P Y G) sz)) 0 0 (va_A (mW cJ cI cZ q (e0) A B T P Y G) sz) := by
  refine Met.ofW (cc := cM_root) (maxL := 5) (ret := none) (by decide) rfl ?_
  intro p e s m args below meth c s₁ B9 hml hv
  obtain ⟨rfl, hsz, hP, hK, hD0⟩ := hv
  have hx := B9.exec
  have hb := B9.bytes
  have hr := B9.returns
  have hts := fun (w : Cond) (h : w ∈ gw) => atoms_spec (ws := _ :: gw) B9.pre w (List.mem_cons_of_mem _ h)
  have hown : s.vm.findClass RM = some m.cls := findClass_of_methodNamed B9.named
  have hlocks := B9.notSynchronized
  have hl := lv_entry ([.ref (q 0), .int (ri), .int (b9), .int (t9), .int (v)]) (n := 5) (Nat.le_of_ble_eq_true rfl)
  rw [lg_entry_eq]
  generalize (lg_sl ([.ref (q 0), .int (ri), .int (b9), .int (t9), .int (v)]) ++ List.replicate (5 - (lg_sl ([.ref (q 0), .int (ri), .int (b9), .int (t9), .int (v)])).length) Slot.unset).toArray = ls at hl ⊢
  have hl : lv_has ls 5 [(0, .ref (q 0)), (1, .int (ri)), (2, .int (b9)), (3, .int (t9)), (4, .int (v))] := hl
  subst hsz
  have hD := hD0.self (sz := s.heap.size)
  generalize hAe : va_A (mW cJ cI cZ q (e0) A B T P Y G) s.heap.size = A9 at hD ⊢
  have hA : ∀ z : Nat, s.heap.size ≤ z → A9 z := fun z h => by rw [← hAe]; exact Or.inr h
  have hS : va_S A9 s.heap s.heap [] := va_S.rf
  have hP : va_P D vwCl (mW cJ cI cZ q (e0) A B T P Y G) s.heap := hP
  refine lv_aload_n hx hb dM_root_0 rfl (lv_at hl 0 rfl) ?_
  refine lv_iconst (v := 0) hx hb dM_root_1 (by decide) ?_
  refine va_put (D := D) (ci := 1) (v := .int (0)) (ty := .int) (C := RM) (T := TM) (N := 7) hx hb hts inM tyM tyM_ok nmM hown hK hP hD hS 0 rfl rfl 0 (by decide) (hts _ w_255) (fun _ h9 => h9) rfl (by decide +kernel) rfl rfl (Nat.le_of_ble_eq_true rfl) dM_root_2 (fun H locs hP hD hS => ?_)
  have hP : va_P D vwCl (mW cJ cI cZ q (0) A B T P Y G) H := hP
  have hD : va_D A9 (mW cJ cI cZ q (0) A B T P Y G) := hD
  refine lv_aload_n hx hb dM_root_5 rfl (lv_at hl 0 rfl) ?_
  refine lv_iload_n hx hb dM_root_6 rfl (lv_at hl 2 rfl) ?_
  refine kr_S 1 (As := [.int (b9)]) (rest := [.ref (q 0)]) (r := .long (uw (b9))) hx hb hml hown hts hl.1 (mM_wide l (b9)) tt_stb trivial (gw_S w_286 w_287 w_15 w_288) (by decide) ⟨rfl, rfl⟩ ⟨Nat.le_of_ble_eq_true rfl, Nat.le_of_ble_eq_true rfl⟩ rfl rfl (Nat.le_of_ble_eq_true rfl) dM_root_7 ⟨Nat.zero_le _, Nat.zero_le _⟩ ?_
  refine lv_iload_n hx hb dM_root_10 rfl (lv_at hl 3 rfl) ?_
  refine kr_S 1 (As := [.int (t9)]) (rest := [.long (uw (b9)), .ref (q 0)]) (r := .long (uw (t9))) hx hb hml hown hts hl.1 (mM_wide l (t9)) tt_stb trivial (gw_S w_286 w_287 w_15 w_288) (by decide) ⟨rfl, rfl⟩ ⟨Nat.le_of_ble_eq_true rfl, Nat.le_of_ble_eq_true rfl⟩ rfl rfl (Nat.le_of_ble_eq_true rfl) dM_root_11 ⟨Nat.zero_le _, Nat.zero_le _⟩ ?_
  refine W.lcmp hx hb dM_root_14 ?_
  refine lv_if_gt (tgt := 31) hx hb dM_root_15 (by decide) (fun h_1 => absurd h_1 (fun h9 => absurd ((lg_cmp_gt _ _).mp h9) (fun h8 => absurd ((uw_lt _ _).mp h8) (Nat.not_lt.mpr hbt)))) (fun h_1 => ?_)
  rw [lg_cmp_gt] at h_1
  refine lv_iload hx hb dM_root_18 (lv_at hl 4 rfl) ?_
  refine lv_i2l (v := (v).toInt64) hx hb dM_root_20 rfl ?_
  refine lv_lconst (v := 0) hx hb dM_root_21 (by decide) ?_
  refine lv_ldc2 (v := 255) hx hb hown (hts _ w_290) dM_root_22 ?_
  refine kr_S 3 (As := [.long ((v).toInt64), .long (0), .long (255)]) (rest := [.ref (q 0)]) (r := .int (bi (decide ((0) ≤ ((v).toInt64)) && decide (((v).toInt64) ≤ (255))))) hx hb hml hown hts hl.1 (mM_in l ((v).toInt64) (0) (255)) tt_stb trivial (gw_S w_291 w_292 w_15 w_293) (by decide) ⟨rfl, rfl⟩ ⟨Nat.le_of_ble_eq_true rfl, Nat.le_of_ble_eq_true rfl⟩ rfl rfl (Nat.le_of_ble_eq_true rfl) dM_root_25 ⟨Nat.zero_le _, Nat.zero_le _⟩ ?_
  refine lv_if_ne (tgt := 35) hx hb dM_root_28 (by decide) (fun h_2 => ?_) (fun h_2 => absurd h_2 (gp_nz (c := 255) (by decide) hv0 hv))
  have h_2 := bi_n h_2
  refine lv_iconst (v := 0) hx hb dM_root_35 (by decide) ?_
  refine lv_iconst (v := 1) hx hb dM_root_36 (by decide) ?_
  refine kw_V 2 [0, 1, 2, 3, 4, 5, 6] [] (b := q 0) (As := [.int (0), .int (1)]) (rest := []) (wc := mW cJ cI cZ q (0) A B T P Y G) (wr := []) (w1 := mW cJ cI cZ q (0) A B T P Y G) hx hb hml hown hts hl.1 hP hD hS hA hK (mM_fails_f l D cJ cI cZ q 0 A B T P Y G _ 1) (gw_V w_294 w_296 w_8 w_15 w_297) (by decide) ⟨rfl, rfl⟩ ⟨Nat.le_of_ble_eq_true rfl, Nat.le_of_ble_eq_true rfl⟩ (va_recv hK hP (ci := 1) rfl (q0 := 0) rfl) rfl rfl (Nat.le_of_ble_eq_true rfl) dM_root_37 ⟨Nat.zero_le _, Nat.zero_le _⟩ rfl rfl ⟨by decide, by decide⟩ (by decide) (fun H locs hP hD hS => ?_)
  have hP : va_P D vwCl (mW cJ cI cZ q (0) A B T P Y G) H := hP
  have hD : va_D A9 (mW cJ cI cZ q (0) A B T P Y G) := hD
  refine W.eq (g2 := F0 m 40 ls [.int (0)]) rfl ?_
  refine lv_if_ne (tgt := 63) hx hb dM_root_40 (by decide) (fun h_3 => absurd (by decide) h_3) (fun h_3 => ?_)
  refine lv_aload_n hx hb dM_root_43 rfl (lv_at hl 0 rfl) ?_
  refine lv_iload_n hx hb dM_root_44 rfl (lv_at hl 1 rfl) ?_
  refine kr_S 1 (As := [.int (ri)]) (rest := [.ref (q 0)]) (r := .int (bi (gi ri))) hx hb hml hown hts hl.1 (mM_is l (ri)) tt_stb trivial (gw_S w_298 w_299 w_15 w_300) (by decide) ⟨rfl, rfl⟩ ⟨Nat.le_of_ble_eq_true rfl, Nat.le_of_ble_eq_true rfl⟩ rfl rfl (Nat.le_of_ble_eq_true rfl) dM_root_45 ⟨Nat.zero_le _, Nat.zero_le _⟩ ?_
  refine lv_if_ne (tgt := 55) hx hb dM_root_48 (by decide) (fun h_4 => absurd (gi_z hbad) h_4) (fun h_4 => ?_)
  have h_4 := bi_0 h_4
  refine lv_iconst (v := 1) hx hb dM_root_51 (by decide) ?_
  refine lv_goto (tgt := 56) hx hb dM_root_52 (by decide) ?_
  refine lv_iconst (v := 2) hx hb dM_root_56 (by decide) ?_
  refine kw_V 2 [0, 1, 2, 3, 4, 5, 6] [] (b := q 0) (As := [.int (1), .int (2)]) (rest := []) (wc := mW cJ cI cZ q (0) A B T P Y G) (wr := []) (w1 := mW cJ cI cZ q (2) A B T P Y G) hx hb hml hown hts hl.1 hP hD hS hA hK (mM_fails_t l D cJ cI cZ q 0 A B T P Y G _ 2 (by decide)) (gw_V w_294 w_296 w_8 w_15 w_297) (by decide) ⟨rfl, rfl⟩ ⟨Nat.le_of_ble_eq_true rfl, Nat.le_of_ble_eq_true rfl⟩ (va_recv hK hP (ci := 1) rfl (q0 := 0) rfl) rfl rfl (Nat.le_of_ble_eq_true rfl) dM_root_57 ⟨Nat.zero_le _, Nat.zero_le _⟩ rfl rfl ⟨by decide, by decide⟩ (by decide) (fun H locs hP hD hS => ?_)
  have hP : va_P D vwCl (mW cJ cI cZ q (2) A B T P Y G) H := hP
  have hD : va_D A9 (mW cJ cI cZ q (2) A B T P Y G) := hD
  refine W.eq (g2 := F0 m 60 ls [.int (1)]) rfl ?_
  refine lv_if_eq (tgt := 64) hx hb dM_root_60 (by decide) (fun h_5 => absurd h_5 (by decide)) (fun h_5 => ?_)
  exact W.vret hx hb hr (fun t9 ht hW => ⟨rfl, by rw [ht]; exact hP, hD, hS.F ht⟩) hS.2.2 dM_root_63

set_option maxRecDepth 100000 in
set_option maxHeartbeats 4000000 in
theorem mM_move_y (l : Launch) (D : va_G) (cJ cI cZ : ClassId) (q : Nat → Nat) (e0 : Int32) (A B T P Y : Nat → Int32) (G : Nat → Bool) (sz : Nat) (ri si v : Int32) (hri : vp_in ri 16) (hsi : vp_in si 16) : Met l yM_move (Cond.code yM_move cM_move 4 none :: gw) (rmk 2 0 0) (va_Pc [.ref (q 0), .int (ri), .int (si), .int (v)] (kB D vwCl (mW cJ cI cZ q (e0) A B T P Y G) (tsM cJ cI cZ) sz)) (kQ none D vwCl (mW cJ cI cZ q (0) (upd A ri.toNatClampNeg ((A si.toNatClampNeg) + (v))) (upd B ri.toNatClampNeg (B si.toNatClampNeg)) (upd T ri.toNatClampNeg (T si.toNatClampNeg)) (upd P ri.toNatClampNeg (P si.toNatClampNeg)) (upd Y ri.toNatClampNeg (Y si.toNatClampNeg)) (ub G ri.toNatClampNeg ((G si.toNatClampNeg && (decide (Y si.toNatClampNeg = 0) || decide (v = 0)))))) (va_A (mW cJ cI cZ q (e0) A B T P Y G) sz)) 0 0 (va_A (mW cJ cI cZ q (e0) A B T P Y G) sz) := by
  refine Met.ofW (cc := cM_move) (maxL := 4) (ret := none) (by decide) rfl ?_
  intro p e s m args below meth c s₁ B9 hml hv
  obtain ⟨rfl, hsz, hP, hK, hD0⟩ := hv
  have hx := B9.exec
  have hb := B9.bytes
  have hr := B9.returns
  have hts := fun (w : Cond) (h : w ∈ gw) => atoms_spec (ws := _ :: gw) B9.pre w (List.mem_cons_of_mem _ h)
  have hown : s.vm.findClass RM = some m.cls := findClass_of_methodNamed B9.named
  have hlocks := B9.notSynchronized
  have hl := lv_entry ([.ref (q 0), .int (ri), .int (si), .int (v)]) (n := 4) (Nat.le_of_ble_eq_true rfl)
  rw [lg_entry_eq]
  generalize (lg_sl ([.ref (q 0), .int (ri), .int (si), .int (v)]) ++ List.replicate (4 - (lg_sl ([.ref (q 0), .int (ri), .int (si), .int (v)])).length) Slot.unset).toArray = ls at hl ⊢
  have hl : lv_has ls 4 [(0, .ref (q 0)), (1, .int (ri)), (2, .int (si)), (3, .int (v))] := hl
  subst hsz
  have hD := hD0.self (sz := s.heap.size)
  generalize hAe : va_A (mW cJ cI cZ q (e0) A B T P Y G) s.heap.size = A9 at hD ⊢
  have hA : ∀ z : Nat, s.heap.size ≤ z → A9 z := fun z h => by rw [← hAe]; exact Or.inr h
  have hS : va_S A9 s.heap s.heap [] := va_S.rf
  have hP : va_P D vwCl (mW cJ cI cZ q (e0) A B T P Y G) s.heap := hP
  refine lv_aload_n hx hb dM_move_0 rfl (lv_at hl 0 rfl) ?_
  refine lv_iconst (v := 0) hx hb dM_move_1 (by decide) ?_
  refine va_put (D := D) (ci := 1) (v := .int (0)) (ty := .int) (C := RM) (T := TM) (N := 7) hx hb hts inM tyM tyM_ok nmM hown hK hP hD hS 0 rfl rfl 0 (by decide) (hts _ w_255) (fun _ h9 => h9) rfl (by decide +kernel) rfl rfl (Nat.le_of_ble_eq_true rfl) dM_move_2 (fun H locs hP hD hS => ?_)
  have hP : va_P D vwCl (mW cJ cI cZ q (0) A B T P Y G) H := hP
  have hD : va_D A9 (mW cJ cI cZ q (0) A B T P Y G) := hD
  refine lv_aload_n hx hb dM_move_5 rfl (lv_at hl 0 rfl) ?_
  refine lv_iload_n hx hb dM_move_6 rfl (lv_at hl 1 rfl) ?_
  refine kr_S 1 (As := [.int (ri)]) (rest := [.ref (q 0)]) (r := .int (bi (gi ri))) hx hb hml hown hts hl.1 (mM_is l (ri)) tt_stb trivial (gw_S w_298 w_299 w_15 w_300) (by decide) ⟨rfl, rfl⟩ ⟨Nat.le_of_ble_eq_true rfl, Nat.le_of_ble_eq_true rfl⟩ rfl rfl (Nat.le_of_ble_eq_true rfl) dM_move_7 ⟨Nat.zero_le _, Nat.zero_le _⟩ ?_
  refine lv_if_eq (tgt := 20) hx hb dM_move_10 (by decide) (fun h_1 => absurd h_1 (gi_nz hri)) (fun h_1 => ?_)
  have h_1 := bi_n h_1
  refine lv_iload_n hx hb dM_move_13 rfl (lv_at hl 2 rfl) ?_
  refine kr_S 1 (As := [.int (si)]) (rest := [.ref (q 0)]) (r := .int (bi (gi si))) hx hb hml hown hts hl.1 (mM_is l (si)) tt_stb trivial (gw_S w_298 w_299 w_15 w_300) (by decide) ⟨rfl, rfl⟩ ⟨Nat.le_of_ble_eq_true rfl, Nat.le_of_ble_eq_true rfl⟩ rfl rfl (Nat.le_of_ble_eq_true rfl) dM_move_14 ⟨Nat.zero_le _, Nat.zero_le _⟩ ?_
  refine lv_if_ne (tgt := 24) hx hb dM_move_17 (by decide) (fun h_2 => ?_) (fun h_2 => absurd h_2 (gi_nz hsi))
  have h_2 := bi_n h_2
  refine lv_iconst (v := 0) hx hb dM_move_24 (by decide) ?_
  refine lv_iconst (v := 1) hx hb dM_move_25 (by decide) ?_
  refine kw_V 2 [0, 1, 2, 3, 4, 5, 6] [] (b := q 0) (As := [.int (0), .int (1)]) (rest := []) (wc := mW cJ cI cZ q (0) A B T P Y G) (wr := []) (w1 := mW cJ cI cZ q (0) A B T P Y G) hx hb hml hown hts hl.1 hP hD hS hA hK (mM_fails_f l D cJ cI cZ q 0 A B T P Y G _ 1) (gw_V w_294 w_296 w_8 w_15 w_297) (by decide) ⟨rfl, rfl⟩ ⟨Nat.le_of_ble_eq_true rfl, Nat.le_of_ble_eq_true rfl⟩ (va_recv hK hP (ci := 1) rfl (q0 := 0) rfl) rfl rfl (Nat.le_of_ble_eq_true rfl) dM_move_26 ⟨Nat.zero_le _, Nat.zero_le _⟩ rfl rfl ⟨by decide, by decide⟩ (by decide) (fun H locs hP hD hS => ?_)
  have hP : va_P D vwCl (mW cJ cI cZ q (0) A B T P Y G) H := hP
  have hD : va_D A9 (mW cJ cI cZ q (0) A B T P Y G) := hD
  refine W.eq (g2 := F0 m 29 ls [.int (0)]) rfl ?_
  refine lv_if_eq (tgt := 33) hx hb dM_move_29 (by decide) (fun h_3 => ?_) (fun h_3 => absurd (by decide) h_3)
  refine lv_aload_n hx hb dM_move_33 rfl (lv_at hl 0 rfl) ?_
  refine lv_iload_n hx hb dM_move_34 rfl (lv_at hl 1 rfl) ?_
  refine lv_aload_n hx hb dM_move_35 rfl (lv_at hl 0 rfl) ?_
  refine va_get (D := D) (ci := 1) (v := .ref (q 1)) (C := RM) (T := TM) (N := 7) hx hb hts inM hown hK hP 0 rfl rfl 1 (by decide) (hts _ w_256) (fun _ h9 => h9) rfl dM_move_36 ?_
  refine lv_iload_n hx hb dM_move_39 rfl (lv_at hl 2 rfl) ?_
  refine va_lald hx hb hK hP 1 0 rfl rfl hsi dM_move_40 ?_
  refine W.eq (g2 := F0 m 41 ls [.long (uw (A si.toNatClampNeg)), .int (ri), .ref (q 0)]) rfl ?_
  refine lv_iload_n hx hb dM_move_41 rfl (lv_at hl 3 rfl) ?_
  refine kr_S 1 (As := [.int (v)]) (rest := [.long (uw (A si.toNatClampNeg)), .int (ri), .ref (q 0)]) (r := .long (uw (v))) hx hb hml hown hts hl.1 (mM_wide l (v)) tt_stb trivial (gw_S w_286 w_287 w_15 w_288) (by decide) ⟨rfl, rfl⟩ ⟨Nat.le_of_ble_eq_true rfl, Nat.le_of_ble_eq_true rfl⟩ rfl rfl (Nat.le_of_ble_eq_true rfl) dM_move_42 ⟨Nat.zero_le _, Nat.zero_le _⟩ ?_
  refine lv_ladd hx hb dM_move_45 ?_
  refine lv_ldc2 (v := 4294967296) hx hb hown (hts _ w_289) dM_move_46 ?_
  refine lv_lrem hx hb dM_move_49 (by decide) ?_
  refine W.eq (g2 := F0 m 50 ls [.long (uw ((A si.toNatClampNeg) + (v))), .int (ri), .ref (q 0)]) (by rw [← uw_sum] <;> rfl) ?_
  refine lv_aload_n hx hb dM_move_50 rfl (lv_at hl 0 rfl) ?_
  refine va_get (D := D) (ci := 1) (v := .ref (q 2)) (C := RM) (T := TM) (N := 7) hx hb hts inM hown hK hP 0 rfl rfl 2 (by decide) (hts _ w_257) (fun _ h9 => h9) rfl dM_move_51 ?_
  refine lv_iload_n hx hb dM_move_54 rfl (lv_at hl 2 rfl) ?_
  refine va_lald hx hb hK hP 2 0 rfl rfl hsi dM_move_55 ?_
  refine W.eq (g2 := F0 m 56 ls [.long (uw (B si.toNatClampNeg)), .long (uw ((A si.toNatClampNeg) + (v))), .int (ri), .ref (q 0)]) rfl ?_
  refine lv_aload_n hx hb dM_move_56 rfl (lv_at hl 0 rfl) ?_
  refine va_get (D := D) (ci := 1) (v := .ref (q 3)) (C := RM) (T := TM) (N := 7) hx hb hts inM hown hK hP 0 rfl rfl 3 (by decide) (hts _ w_258) (fun _ h9 => h9) rfl dM_move_57 ?_
  refine lv_iload_n hx hb dM_move_60 rfl (lv_at hl 2 rfl) ?_
  refine va_lald hx hb hK hP 3 0 rfl rfl hsi dM_move_61 ?_
  refine W.eq (g2 := F0 m 62 ls [.long (uw (T si.toNatClampNeg)), .long (uw (B si.toNatClampNeg)), .long (uw ((A si.toNatClampNeg) + (v))), .int (ri), .ref (q 0)]) rfl ?_
  refine lv_aload_n hx hb dM_move_62 rfl (lv_at hl 0 rfl) ?_
  refine va_get (D := D) (ci := 1) (v := .ref (q 4)) (C := RM) (T := TM) (N := 7) hx hb hts inM hown hK hP 0 rfl rfl 4 (by decide) (hts _ w_259) (fun _ h9 => h9) rfl dM_move_63 ?_
  refine lv_iload_n hx hb dM_move_66 rfl (lv_at hl 2 rfl) ?_
  refine va_iald hx hb hK hP 4 1 rfl rfl hsi dM_move_67 ?_
  refine lv_aload_n hx hb dM_move_68 rfl (lv_at hl 0 rfl) ?_
  refine va_get (D := D) (ci := 1) (v := .ref (q 5)) (C := RM) (T := TM) (N := 7) hx hb hts inM hown hK hP 0 rfl rfl 5 (by decide) (hts _ w_260) (fun _ h9 => h9) rfl dM_move_69 ?_
  refine lv_iload_n hx hb dM_move_72 rfl (lv_at hl 2 rfl) ?_
  refine va_iald hx hb hK hP 5 1 rfl rfl hsi dM_move_73 ?_
  refine lv_aload_n hx hb dM_move_74 rfl (lv_at hl 0 rfl) ?_
  refine va_get (D := D) (ci := 1) (v := .ref (q 6)) (C := RM) (T := TM) (N := 7) hx hb hts inM hown hK hP 0 rfl rfl 6 (by decide) (hts _ w_261) (fun _ h9 => h9) rfl dM_move_75 ?_
  refine lv_iload_n hx hb dM_move_78 rfl (lv_at hl 2 rfl) ?_
  refine va_zald hx hb hK hP 6 2 rfl rfl hsi dM_move_79 ?_
  refine W.eq (g2 := F0 m 80 ls [.int (bi (G si.toNatClampNeg)), .int (Y si.toNatClampNeg), .int (P si.toNatClampNeg), .long (uw (T si.toNatClampNeg)), .long (uw (B si.toNatClampNeg)), .long (uw ((A si.toNatClampNeg) + (v))), .int (ri), .ref (q 0)]) rfl ?_
  refine lv_if_eq (tgt := 99) hx hb dM_move_80 (by decide) (fun h_4 => ?_) (fun h_4 => ?_)
  · have h_4 := bi_0 h_4
    refine lv_iconst (v := 0) hx hb dM_move_99 (by decide) ?_
    refine W.eq (g2 := F0 m 100 ls [.int (bi (false)), .int (Y si.toNatClampNeg), .int (P si.toNatClampNeg), .long (uw (T si.toNatClampNeg)), .long (uw (B si.toNatClampNeg)), .long (uw ((A si.toNatClampNeg) + (v))), .int (ri), .ref (q 0)]) rfl ?_
    refine kw_V 7 [0, 1, 2, 3, 4, 5, 6] [] (b := q 0) (As := [.int (ri), .long (uw ((A si.toNatClampNeg) + (v))), .long (uw (B si.toNatClampNeg)), .long (uw (T si.toNatClampNeg)), .int (P si.toNatClampNeg), .int (Y si.toNatClampNeg), .int (bi (false))]) (rest := []) (wc := mW cJ cI cZ q (0) A B T P Y G) (wr := []) (w1 := mW cJ cI cZ q (0) (upd A ri.toNatClampNeg ((A si.toNatClampNeg) + (v))) (upd B ri.toNatClampNeg (B si.toNatClampNeg)) (upd T ri.toNatClampNeg (T si.toNatClampNeg)) (upd P ri.toNatClampNeg (P si.toNatClampNeg)) (upd Y ri.toNatClampNeg (Y si.toNatClampNeg)) (ub G ri.toNatClampNeg (false))) hx hb hml hown hts hl.1 hP hD hS hA hK (mM_give l D cJ cI cZ q (0) A B T P Y G _ ri ((A si.toNatClampNeg) + (v)) (B si.toNatClampNeg) (T si.toNatClampNeg) (P si.toNatClampNeg) (Y si.toNatClampNeg) false hri) (gw_V w_302 w_304 w_9 w_15 w_305) (by decide) ⟨rfl, rfl⟩ ⟨Nat.le_of_ble_eq_true rfl, Nat.le_of_ble_eq_true rfl⟩ (va_recv hK hP (ci := 1) rfl (q0 := 0) rfl) rfl rfl (Nat.le_of_ble_eq_true rfl) dM_move_100 ⟨Nat.zero_le _, Nat.zero_le _⟩ rfl rfl ⟨by decide, by decide⟩ (by decide) (fun H locs hP hD hS => ?_)
    have hP : va_P D vwCl (mW cJ cI cZ q (0) (upd A ri.toNatClampNeg ((A si.toNatClampNeg) + (v))) (upd B ri.toNatClampNeg (B si.toNatClampNeg)) (upd T ri.toNatClampNeg (T si.toNatClampNeg)) (upd P ri.toNatClampNeg (P si.toNatClampNeg)) (upd Y ri.toNatClampNeg (Y si.toNatClampNeg)) (ub G ri.toNatClampNeg (false))) H := hP
    have hD : va_D A9 (mW cJ cI cZ q (0) (upd A ri.toNatClampNeg ((A si.toNatClampNeg) + (v))) (upd B ri.toNatClampNeg (B si.toNatClampNeg)) (upd T ri.toNatClampNeg (T si.toNatClampNeg)) (upd P ri.toNatClampNeg (P si.toNatClampNeg)) (upd Y ri.toNatClampNeg (Y si.toNatClampNeg)) (ub G ri.toNatClampNeg (false))) := hD
    refine W.eq (g2 := F0 m 103 ls []) rfl ?_
    have e9_0 : (G si.toNatClampNeg && (decide (Y si.toNatClampNeg = 0) || decide (v = 0))) = false := by (try simp only [decide_eq_true_eq, decide_eq_false_iff_not, Decidable.not_not] at h_1); (try simp only [decide_eq_true_eq, decide_eq_false_iff_not, Decidable.not_not] at h_2); (try simp only [decide_eq_true_eq, decide_eq_false_iff_not, Decidable.not_not] at h_4); simp [h_1, h_2, h_4]
    have hP : va_P D vwCl (mW cJ cI cZ q (0) (upd A ri.toNatClampNeg ((A si.toNatClampNeg) + (v))) (upd B ri.toNatClampNeg (B si.toNatClampNeg)) (upd T ri.toNatClampNeg (T si.toNatClampNeg)) (upd P ri.toNatClampNeg (P si.toNatClampNeg)) (upd Y ri.toNatClampNeg (Y si.toNatClampNeg)) (ub G ri.toNatClampNeg ((G si.toNatClampNeg && (decide (Y si.toNatClampNeg = 0) || decide (v = 0)))))) H := by (try rw [e9_0]); first | exact hP | (simp only [uu_upd, uu_ub] at hP ⊢; exact hP)
    have hD : va_D A9 (mW cJ cI cZ q (0) (upd A ri.toNatClampNeg ((A si.toNatClampNeg) + (v))) (upd B ri.toNatClampNeg (B si.toNatClampNeg)) (upd T ri.toNatClampNeg (T si.toNatClampNeg)) (upd P ri.toNatClampNeg (P si.toNatClampNeg)) (upd Y ri.toNatClampNeg (Y si.toNatClampNeg)) (ub G ri.toNatClampNeg ((G si.toNatClampNeg && (decide (Y si.toNatClampNeg = 0) || decide (v = 0)))))) := by (try rw [e9_0]); first | exact hD | (simp only [uu_upd, uu_ub] at hD ⊢; exact hD)
    exact W.vret hx hb hr (fun t9 ht hW => ⟨rfl, by rw [ht]; exact hP, hD, hS.F ht⟩) hS.2.2 dM_move_103
  · have h_4 := bi_n h_4
    refine lv_aload_n hx hb dM_move_83 rfl (lv_at hl 0 rfl) ?_
    refine lv_iload_n hx hb dM_move_84 rfl (lv_at hl 2 rfl) ?_
    refine kr_Vw 1 (b := q 0) (As := [.int (si)]) (rest := [.int (Y si.toNatClampNeg), .int (P si.toNatClampNeg), .long (uw (T si.toNatClampNeg)), .long (uw (B si.toNatClampNeg)), .long (uw ((A si.toNatClampNeg) + (v))), .int (ri), .ref (q 0)]) (r := .int (bi (decide (¬ Y si.toNatClampNeg = 0)))) hx hb hml hown hts hl.1 (mM_isSealed l D cJ cI cZ q (0) A B T P Y G (si) hsi) rB_stb ⟨hP, hK⟩ (gw_V w_314 w_316 w_10 w_15 w_317) (by decide) ⟨rfl, rfl⟩ ⟨Nat.le_of_ble_eq_true rfl, Nat.le_of_ble_eq_true rfl⟩ (va_recv hK hP (ci := 1) rfl (q0 := 0) rfl) rfl rfl (Nat.le_of_ble_eq_true rfl) dM_move_85 ⟨Nat.zero_le _, Nat.zero_le _⟩ ?_
    refine lv_if_eq (tgt := 95) hx hb dM_move_88 (by decide) (fun h_5 => ?_) (fun h_5 => ?_)
    · have h_5 := bi_0 h_5
      refine lv_iconst (v := 1) hx hb dM_move_95 (by decide) ?_
      refine lv_goto (tgt := 100) hx hb dM_move_96 (by decide) ?_
      refine W.eq (g2 := F0 m 100 ls [.int (bi (true)), .int (Y si.toNatClampNeg), .int (P si.toNatClampNeg), .long (uw (T si.toNatClampNeg)), .long (uw (B si.toNatClampNeg)), .long (uw ((A si.toNatClampNeg) + (v))), .int (ri), .ref (q 0)]) rfl ?_
      refine kw_V 7 [0, 1, 2, 3, 4, 5, 6] [] (b := q 0) (As := [.int (ri), .long (uw ((A si.toNatClampNeg) + (v))), .long (uw (B si.toNatClampNeg)), .long (uw (T si.toNatClampNeg)), .int (P si.toNatClampNeg), .int (Y si.toNatClampNeg), .int (bi (true))]) (rest := []) (wc := mW cJ cI cZ q (0) A B T P Y G) (wr := []) (w1 := mW cJ cI cZ q (0) (upd A ri.toNatClampNeg ((A si.toNatClampNeg) + (v))) (upd B ri.toNatClampNeg (B si.toNatClampNeg)) (upd T ri.toNatClampNeg (T si.toNatClampNeg)) (upd P ri.toNatClampNeg (P si.toNatClampNeg)) (upd Y ri.toNatClampNeg (Y si.toNatClampNeg)) (ub G ri.toNatClampNeg (true))) hx hb hml hown hts hl.1 hP hD hS hA hK (mM_give l D cJ cI cZ q (0) A B T P Y G _ ri ((A si.toNatClampNeg) + (v)) (B si.toNatClampNeg) (T si.toNatClampNeg) (P si.toNatClampNeg) (Y si.toNatClampNeg) true hri) (gw_V w_302 w_304 w_9 w_15 w_305) (by decide) ⟨rfl, rfl⟩ ⟨Nat.le_of_ble_eq_true rfl, Nat.le_of_ble_eq_true rfl⟩ (va_recv hK hP (ci := 1) rfl (q0 := 0) rfl) rfl rfl (Nat.le_of_ble_eq_true rfl) dM_move_100 ⟨Nat.zero_le _, Nat.zero_le _⟩ rfl rfl ⟨by decide, by decide⟩ (by decide) (fun H locs hP hD hS => ?_)
      have hP : va_P D vwCl (mW cJ cI cZ q (0) (upd A ri.toNatClampNeg ((A si.toNatClampNeg) + (v))) (upd B ri.toNatClampNeg (B si.toNatClampNeg)) (upd T ri.toNatClampNeg (T si.toNatClampNeg)) (upd P ri.toNatClampNeg (P si.toNatClampNeg)) (upd Y ri.toNatClampNeg (Y si.toNatClampNeg)) (ub G ri.toNatClampNeg (true))) H := hP
      have hD : va_D A9 (mW cJ cI cZ q (0) (upd A ri.toNatClampNeg ((A si.toNatClampNeg) + (v))) (upd B ri.toNatClampNeg (B si.toNatClampNeg)) (upd T ri.toNatClampNeg (T si.toNatClampNeg)) (upd P ri.toNatClampNeg (P si.toNatClampNeg)) (upd Y ri.toNatClampNeg (Y si.toNatClampNeg)) (ub G ri.toNatClampNeg (true))) := hD
      refine W.eq (g2 := F0 m 103 ls []) rfl ?_
      have e9_0 : (G si.toNatClampNeg && (decide (Y si.toNatClampNeg = 0) || decide (v = 0))) = true := by (try simp only [decide_eq_true_eq, decide_eq_false_iff_not, Decidable.not_not] at h_1); (try simp only [decide_eq_true_eq, decide_eq_false_iff_not, Decidable.not_not] at h_2); (try simp only [decide_eq_true_eq, decide_eq_false_iff_not, Decidable.not_not] at h_4); (try simp only [decide_eq_true_eq, decide_eq_false_iff_not, Decidable.not_not] at h_5); simp [h_1, h_2, h_4, h_5]
      have hP : va_P D vwCl (mW cJ cI cZ q (0) (upd A ri.toNatClampNeg ((A si.toNatClampNeg) + (v))) (upd B ri.toNatClampNeg (B si.toNatClampNeg)) (upd T ri.toNatClampNeg (T si.toNatClampNeg)) (upd P ri.toNatClampNeg (P si.toNatClampNeg)) (upd Y ri.toNatClampNeg (Y si.toNatClampNeg)) (ub G ri.toNatClampNeg ((G si.toNatClampNeg && (decide (Y si.toNatClampNeg = 0) || decide (v = 0)))))) H := by (try rw [e9_0]); first | exact hP | (simp only [uu_upd, uu_ub] at hP ⊢; exact hP)
      have hD : va_D A9 (mW cJ cI cZ q (0) (upd A ri.toNatClampNeg ((A si.toNatClampNeg) + (v))) (upd B ri.toNatClampNeg (B si.toNatClampNeg)) (upd T ri.toNatClampNeg (T si.toNatClampNeg)) (upd P ri.toNatClampNeg (P si.toNatClampNeg)) (upd Y ri.toNatClampNeg (Y si.toNatClampNeg)) (ub G ri.toNatClampNeg ((G si.toNatClampNeg && (decide (Y si.toNatClampNeg = 0) || decide (v = 0)))))) := by (try rw [e9_0]); first | exact hD | (simp only [uu_upd, uu_ub] at hD ⊢; exact hD)
      exact W.vret hx hb hr (fun t9 ht hW => ⟨rfl, by rw [ht]; exact hP, hD, hS.F ht⟩) hS.2.2 dM_move_103
    · have h_5 := bi_n h_5
      refine lv_iload_n hx hb dM_move_91 rfl (lv_at hl 3 rfl) ?_
      refine lv_if_ne (tgt := 99) hx hb dM_move_92 (by decide) (fun h_6 => ?_) (fun h_6 => ?_)
      · 
        refine lv_iconst (v := 0) hx hb dM_move_99 (by decide) ?_
        refine W.eq (g2 := F0 m 100 ls [.int (bi (false)), .int (Y si.toNatClampNeg), .int (P si.toNatClampNeg), .long (uw (T si.toNatClampNeg)), .long (uw (B si.toNatClampNeg)), .long (uw ((A si.toNatClampNeg) + (v))), .int (ri), .ref (q 0)]) rfl ?_
        refine kw_V 7 [0, 1, 2, 3, 4, 5, 6] [] (b := q 0) (As := [.int (ri), .long (uw ((A si.toNatClampNeg) + (v))), .long (uw (B si.toNatClampNeg)), .long (uw (T si.toNatClampNeg)), .int (P si.toNatClampNeg), .int (Y si.toNatClampNeg), .int (bi (false))]) (rest := []) (wc := mW cJ cI cZ q (0) A B T P Y G) (wr := []) (w1 := mW cJ cI cZ q (0) (upd A ri.toNatClampNeg ((A si.toNatClampNeg) + (v))) (upd B ri.toNatClampNeg (B si.toNatClampNeg)) (upd T ri.toNatClampNeg (T si.toNatClampNeg)) (upd P ri.toNatClampNeg (P si.toNatClampNeg)) (upd Y ri.toNatClampNeg (Y si.toNatClampNeg)) (ub G ri.toNatClampNeg (false))) hx hb hml hown hts hl.1 hP hD hS hA hK (mM_give l D cJ cI cZ q (0) A B T P Y G _ ri ((A si.toNatClampNeg) + (v)) (B si.toNatClampNeg) (T si.toNatClampNeg) (P si.toNatClampNeg) (Y si.toNatClampNeg) false hri) (gw_V w_302 w_304 w_9 w_15 w_305) (by decide) ⟨rfl, rfl⟩ ⟨Nat.le_of_ble_eq_true rfl, Nat.le_of_ble_eq_true rfl⟩ (va_recv hK hP (ci := 1) rfl (q0 := 0) rfl) rfl rfl (Nat.le_of_ble_eq_true rfl) dM_move_100 ⟨Nat.zero_le _, Nat.zero_le _⟩ rfl rfl ⟨by decide, by decide⟩ (by decide) (fun H locs hP hD hS => ?_)
        have hP : va_P D vwCl (mW cJ cI cZ q (0) (upd A ri.toNatClampNeg ((A si.toNatClampNeg) + (v))) (upd B ri.toNatClampNeg (B si.toNatClampNeg)) (upd T ri.toNatClampNeg (T si.toNatClampNeg)) (upd P ri.toNatClampNeg (P si.toNatClampNeg)) (upd Y ri.toNatClampNeg (Y si.toNatClampNeg)) (ub G ri.toNatClampNeg (false))) H := hP
        have hD : va_D A9 (mW cJ cI cZ q (0) (upd A ri.toNatClampNeg ((A si.toNatClampNeg) + (v))) (upd B ri.toNatClampNeg (B si.toNatClampNeg)) (upd T ri.toNatClampNeg (T si.toNatClampNeg)) (upd P ri.toNatClampNeg (P si.toNatClampNeg)) (upd Y ri.toNatClampNeg (Y si.toNatClampNeg)) (ub G ri.toNatClampNeg (false))) := hD
        refine W.eq (g2 := F0 m 103 ls []) rfl ?_
        have e9_0 : (G si.toNatClampNeg && (decide (Y si.toNatClampNeg = 0) || decide (v = 0))) = false := by (try simp only [decide_eq_true_eq, decide_eq_false_iff_not, Decidable.not_not] at h_1); (try simp only [decide_eq_true_eq, decide_eq_false_iff_not, Decidable.not_not] at h_2); (try simp only [decide_eq_true_eq, decide_eq_false_iff_not, Decidable.not_not] at h_4); (try simp only [decide_eq_true_eq, decide_eq_false_iff_not, Decidable.not_not] at h_5); (try simp only [decide_eq_true_eq, decide_eq_false_iff_not, Decidable.not_not] at h_6); simp [h_1, h_2, h_4, h_5, h_6]
        have hP : va_P D vwCl (mW cJ cI cZ q (0) (upd A ri.toNatClampNeg ((A si.toNatClampNeg) + (v))) (upd B ri.toNatClampNeg (B si.toNatClampNeg)) (upd T ri.toNatClampNeg (T si.toNatClampNeg)) (upd P ri.toNatClampNeg (P si.toNatClampNeg)) (upd Y ri.toNatClampNeg (Y si.toNatClampNeg)) (ub G ri.toNatClampNeg ((G si.toNatClampNeg && (decide (Y si.toNatClampNeg = 0) || decide (v = 0)))))) H := by (try rw [e9_0]); first | exact hP | (simp only [uu_upd, uu_ub] at hP ⊢; exact hP)
        have hD : va_D A9 (mW cJ cI cZ q (0) (upd A ri.toNatClampNeg ((A si.toNatClampNeg) + (v))) (upd B ri.toNatClampNeg (B si.toNatClampNeg)) (upd T ri.toNatClampNeg (T si.toNatClampNeg)) (upd P ri.toNatClampNeg (P si.toNatClampNeg)) (upd Y ri.toNatClampNeg (Y si.toNatClampNeg)) (ub G ri.toNatClampNeg ((G si.toNatClampNeg && (decide (Y si.toNatClampNeg = 0) || decide (v = 0)))))) := by (try rw [e9_0]); first | exact hD | (simp only [uu_upd, uu_ub] at hD ⊢; exact hD)
        exact W.vret hx hb hr (fun t9 ht hW => ⟨rfl, by rw [ht]; exact hP, hD, hS.F ht⟩) hS.2.2 dM_move_103
      · 
        refine lv_iconst (v := 1) hx hb dM_move_95 (by decide) ?_
        refine lv_goto (tgt := 100) hx hb dM_move_96 (by decide) ?_
        refine W.eq (g2 := F0 m 100 ls [.int (bi (true)), .int (Y si.toNatClampNeg), .int (P si.toNatClampNeg), .long (uw (T si.toNatClampNeg)), .long (uw (B si.toNatClampNeg)), .long (uw ((A si.toNatClampNeg) + (v))), .int (ri), .ref (q 0)]) rfl ?_
        refine kw_V 7 [0, 1, 2, 3, 4, 5, 6] [] (b := q 0) (As := [.int (ri), .long (uw ((A si.toNatClampNeg) + (v))), .long (uw (B si.toNatClampNeg)), .long (uw (T si.toNatClampNeg)), .int (P si.toNatClampNeg), .int (Y si.toNatClampNeg), .int (bi (true))]) (rest := []) (wc := mW cJ cI cZ q (0) A B T P Y G) (wr := []) (w1 := mW cJ cI cZ q (0) (upd A ri.toNatClampNeg ((A si.toNatClampNeg) + (v))) (upd B ri.toNatClampNeg (B si.toNatClampNeg)) (upd T ri.toNatClampNeg (T si.toNatClampNeg)) (upd P ri.toNatClampNeg (P si.toNatClampNeg)) (upd Y ri.toNatClampNeg (Y si.toNatClampNeg)) (ub G ri.toNatClampNeg (true))) hx hb hml hown hts hl.1 hP hD hS hA hK (mM_give l D cJ cI cZ q (0) A B T P Y G _ ri ((A si.toNatClampNeg) + (v)) (B si.toNatClampNeg) (T si.toNatClampNeg) (P si.toNatClampNeg) (Y si.toNatClampNeg) true hri) (gw_V w_302 w_304 w_9 w_15 w_305) (by decide) ⟨rfl, rfl⟩ ⟨Nat.le_of_ble_eq_true rfl, Nat.le_of_ble_eq_true rfl⟩ (va_recv hK hP (ci := 1) rfl (q0 := 0) rfl) rfl rfl (Nat.le_of_ble_eq_true rfl) dM_move_100 ⟨Nat.zero_le _, Nat.zero_le _⟩ rfl rfl ⟨by decide, by decide⟩ (by decide) (fun H locs hP hD hS => ?_)
        have hP : va_P D vwCl (mW cJ cI cZ q (0) (upd A ri.toNatClampNeg ((A si.toNatClampNeg) + (v))) (upd B ri.toNatClampNeg (B si.toNatClampNeg)) (upd T ri.toNatClampNeg (T si.toNatClampNeg)) (upd P ri.toNatClampNeg (P si.toNatClampNeg)) (upd Y ri.toNatClampNeg (Y si.toNatClampNeg)) (ub G ri.toNatClampNeg (true))) H := hP
        have hD : va_D A9 (mW cJ cI cZ q (0) (upd A ri.toNatClampNeg ((A si.toNatClampNeg) + (v))) (upd B ri.toNatClampNeg (B si.toNatClampNeg)) (upd T ri.toNatClampNeg (T si.toNatClampNeg)) (upd P ri.toNatClampNeg (P si.toNatClampNeg)) (upd Y ri.toNatClampNeg (Y si.toNatClampNeg)) (ub G ri.toNatClampNeg (true))) := hD
        refine W.eq (g2 := F0 m 103 ls []) rfl ?_
        have e9_0 : (G si.toNatClampNeg && (decide (Y si.toNatClampNeg = 0) || decide (v = 0))) = true := by (try simp only [decide_eq_true_eq, decide_eq_false_iff_not, Decidable.not_not] at h_1); (try simp only [decide_eq_true_eq, decide_eq_false_iff_not, Decidable.not_not] at h_2); (try simp only [decide_eq_true_eq, decide_eq_false_iff_not, Decidable.not_not] at h_4); (try simp only [decide_eq_true_eq, decide_eq_false_iff_not, Decidable.not_not] at h_5); (try simp only [decide_eq_true_eq, decide_eq_false_iff_not, Decidable.not_not] at h_6); simp [h_1, h_2, h_4, h_5, h_6]
        have hP : va_P D vwCl (mW cJ cI cZ q (0) (upd A ri.toNatClampNeg ((A si.toNatClampNeg) + (v))) (upd B ri.toNatClampNeg (B si.toNatClampNeg)) (upd T ri.toNatClampNeg (T si.toNatClampNeg)) (upd P ri.toNatClampNeg (P si.toNatClampNeg)) (upd Y ri.toNatClampNeg (Y si.toNatClampNeg)) (ub G ri.toNatClampNeg ((G si.toNatClampNeg && (decide (Y si.toNatClampNeg = 0) || decide (v = 0)))))) H := by (try rw [e9_0]); first | exact hP | (simp only [uu_upd, uu_ub] at hP ⊢; exact hP)
        have hD : va_D A9 (mW cJ cI cZ q (0) (upd A ri.toNatClampNeg ((A si.toNatClampNeg) + (v))) (upd B ri.toNatClampNeg (B si.toNatClampNeg)) (upd T ri.toNatClampNeg (T si.toNatClampNeg)) (upd P ri.toNatClampNeg (P si.toNatClampNeg)) (upd Y ri.toNatClampNeg (Y si.toNatClampNeg)) (ub G ri.toNatClampNeg ((G si.toNatClampNeg && (decide (Y si.toNatClampNeg = 0) || decide (v = 0)))))) := by (try rw [e9_0]); first | exact hD | (simp only [uu_upd, uu_ub] at hD ⊢; exact hD)
        exact W.vret hx hb hr (fun t9 ht hW => ⟨rfl, by rw [ht]; exact hP, hD, hS.F ht⟩) hS.2.2 dM_move_103

set_option maxRecDepth 100000 in
set_option maxHeartbeats 4000000 in
theorem mM_move_n (l : Launch) (D : va_G) (cJ cI cZ : ClassId) (q : Nat → Nat) (e0 : Int32) (A B T P Y : Nat → Int32) (G : Nat → Bool) (sz : Nat) (ri si v : Int32) (hbad : ¬ (vp_in ri 16 ∧ vp_in si 16)) : Met l yM_move (Cond.code yM_move cM_move 4 none :: gw) (rmk 2 0 0) (va_Pc [.ref (q 0), .int (ri), .int (si), .int (v)] (kB D vwCl (mW cJ cI cZ q (e0) A B T P Y G) (tsM cJ cI cZ) sz)) (kQ none D vwCl (mW cJ cI cZ q (1) A B T P Y G) (va_A (mW cJ cI cZ q (e0) A B T P Y G) sz)) 0 0 (va_A (mW cJ cI cZ q (e0) A B T P Y G) sz) := by
  refine Met.ofW (cc := cM_move) (maxL := 4) (ret := none) (by decide) rfl ?_
  intro p e s m args below meth c s₁ B9 hml hv
  obtain ⟨rfl, hsz, hP, hK, hD0⟩ := hv
  have hx := B9.exec
  have hb := B9.bytes
  have hr := B9.returns
  have hts := fun (w : Cond) (h : w ∈ gw) => atoms_spec (ws := _ :: gw) B9.pre w (List.mem_cons_of_mem _ h)
  have hown : s.vm.findClass RM = some m.cls := findClass_of_methodNamed B9.named
  have hlocks := B9.notSynchronized
  have hl := lv_entry ([.ref (q 0), .int (ri), .int (si), .int (v)]) (n := 4) (Nat.le_of_ble_eq_true rfl)
  rw [lg_entry_eq]
  generalize (lg_sl ([.ref (q 0), .int (ri), .int (si), .int (v)]) ++ List.replicate (4 - (lg_sl ([.ref (q 0), .int (ri), .int (si), .int (v)])).length) Slot.unset).toArray = ls at hl ⊢
  have hl : lv_has ls 4 [(0, .ref (q 0)), (1, .int (ri)), (2, .int (si)), (3, .int (v))] := hl
  subst hsz
  have hD := hD0.self (sz := s.heap.size)
  generalize hAe : va_A (mW cJ cI cZ q (e0) A B T P Y G) s.heap.size = A9 at hD ⊢
  have hA : ∀ z : Nat, s.heap.size ≤ z → A9 z := fun z h => by rw [← hAe]; exact Or.inr h
  have hS : va_S A9 s.heap s.heap [] := va_S.rf
  have hP : va_P D vwCl (mW cJ cI cZ q (e0) A B T P Y G) s.heap := hP
  refine lv_aload_n hx hb dM_move_0 rfl (lv_at hl 0 rfl) ?_
  refine lv_iconst (v := 0) hx hb dM_move_1 (by decide) ?_
  refine va_put (D := D) (ci := 1) (v := .int (0)) (ty := .int) (C := RM) (T := TM) (N := 7) hx hb hts inM tyM tyM_ok nmM hown hK hP hD hS 0 rfl rfl 0 (by decide) (hts _ w_255) (fun _ h9 => h9) rfl (by decide +kernel) rfl rfl (Nat.le_of_ble_eq_true rfl) dM_move_2 (fun H locs hP hD hS => ?_)
  have hP : va_P D vwCl (mW cJ cI cZ q (0) A B T P Y G) H := hP
  have hD : va_D A9 (mW cJ cI cZ q (0) A B T P Y G) := hD
  refine lv_aload_n hx hb dM_move_5 rfl (lv_at hl 0 rfl) ?_
  refine lv_iload_n hx hb dM_move_6 rfl (lv_at hl 1 rfl) ?_
  refine kr_S 1 (As := [.int (ri)]) (rest := [.ref (q 0)]) (r := .int (bi (gi ri))) hx hb hml hown hts hl.1 (mM_is l (ri)) tt_stb trivial (gw_S w_298 w_299 w_15 w_300) (by decide) ⟨rfl, rfl⟩ ⟨Nat.le_of_ble_eq_true rfl, Nat.le_of_ble_eq_true rfl⟩ rfl rfl (Nat.le_of_ble_eq_true rfl) dM_move_7 ⟨Nat.zero_le _, Nat.zero_le _⟩ ?_
  refine lv_if_eq (tgt := 20) hx hb dM_move_10 (by decide) (fun h_1 => ?_) (fun h_1 => ?_)
  · have h_1 := bi_0 h_1
    refine lv_iconst (v := 1) hx hb dM_move_20 (by decide) ?_
    refine lv_goto (tgt := 25) hx hb dM_move_21 (by decide) ?_
    refine lv_iconst (v := 1) hx hb dM_move_25 (by decide) ?_
    refine kw_V 2 [0, 1, 2, 3, 4, 5, 6] [] (b := q 0) (As := [.int (1), .int (1)]) (rest := []) (wc := mW cJ cI cZ q (0) A B T P Y G) (wr := []) (w1 := mW cJ cI cZ q (1) A B T P Y G) hx hb hml hown hts hl.1 hP hD hS hA hK (mM_fails_t l D cJ cI cZ q 0 A B T P Y G _ 1 (by decide)) (gw_V w_294 w_296 w_8 w_15 w_297) (by decide) ⟨rfl, rfl⟩ ⟨Nat.le_of_ble_eq_true rfl, Nat.le_of_ble_eq_true rfl⟩ (va_recv hK hP (ci := 1) rfl (q0 := 0) rfl) rfl rfl (Nat.le_of_ble_eq_true rfl) dM_move_26 ⟨Nat.zero_le _, Nat.zero_le _⟩ rfl rfl ⟨by decide, by decide⟩ (by decide) (fun H locs hP hD hS => ?_)
    have hP : va_P D vwCl (mW cJ cI cZ q (1) A B T P Y G) H := hP
    have hD : va_D A9 (mW cJ cI cZ q (1) A B T P Y G) := hD
    refine W.eq (g2 := F0 m 29 ls [.int (1)]) rfl ?_
    refine lv_if_eq (tgt := 33) hx hb dM_move_29 (by decide) (fun h_2 => absurd h_2 (by decide)) (fun h_2 => ?_)
    exact W.vret hx hb hr (fun t9 ht hW => ⟨rfl, by rw [ht]; exact hP, hD, hS.F ht⟩) hS.2.2 dM_move_32
  · have h_1 := bi_n h_1
    refine lv_iload_n hx hb dM_move_13 rfl (lv_at hl 2 rfl) ?_
    refine kr_S 1 (As := [.int (si)]) (rest := [.ref (q 0)]) (r := .int (bi (gi si))) hx hb hml hown hts hl.1 (mM_is l (si)) tt_stb trivial (gw_S w_298 w_299 w_15 w_300) (by decide) ⟨rfl, rfl⟩ ⟨Nat.le_of_ble_eq_true rfl, Nat.le_of_ble_eq_true rfl⟩ rfl rfl (Nat.le_of_ble_eq_true rfl) dM_move_14 ⟨Nat.zero_le _, Nat.zero_le _⟩ ?_
    refine lv_if_ne (tgt := 24) hx hb dM_move_17 (by decide) (fun h_3 => ?_) (fun h_3 => ?_)
    · have h_3 := bi_n h_3
      exact absurd ⟨gi_in.mp h_1, gi_in.mp h_3⟩ hbad
    · have h_3 := bi_0 h_3
      refine lv_iconst (v := 1) hx hb dM_move_20 (by decide) ?_
      refine lv_goto (tgt := 25) hx hb dM_move_21 (by decide) ?_
      refine lv_iconst (v := 1) hx hb dM_move_25 (by decide) ?_
      refine kw_V 2 [0, 1, 2, 3, 4, 5, 6] [] (b := q 0) (As := [.int (1), .int (1)]) (rest := []) (wc := mW cJ cI cZ q (0) A B T P Y G) (wr := []) (w1 := mW cJ cI cZ q (1) A B T P Y G) hx hb hml hown hts hl.1 hP hD hS hA hK (mM_fails_t l D cJ cI cZ q 0 A B T P Y G _ 1 (by decide)) (gw_V w_294 w_296 w_8 w_15 w_297) (by decide) ⟨rfl, rfl⟩ ⟨Nat.le_of_ble_eq_true rfl, Nat.le_of_ble_eq_true rfl⟩ (va_recv hK hP (ci := 1) rfl (q0 := 0) rfl) rfl rfl (Nat.le_of_ble_eq_true rfl) dM_move_26 ⟨Nat.zero_le _, Nat.zero_le _⟩ rfl rfl ⟨by decide, by decide⟩ (by decide) (fun H locs hP hD hS => ?_)
      have hP : va_P D vwCl (mW cJ cI cZ q (1) A B T P Y G) H := hP
      have hD : va_D A9 (mW cJ cI cZ q (1) A B T P Y G) := hD
      refine W.eq (g2 := F0 m 29 ls [.int (1)]) rfl ?_
      refine lv_if_eq (tgt := 33) hx hb dM_move_29 (by decide) (fun h_4 => absurd h_4 (by decide)) (fun h_4 => ?_)
      exact W.vret hx hb hr (fun t9 ht hW => ⟨rfl, by rw [ht]; exact hP, hD, hS.F ht⟩) hS.2.2 dM_move_32

set_option maxRecDepth 100000 in
set_option maxHeartbeats 4000000 in
theorem mM_narrow_y (l : Launch) (D : va_G) (cJ cI cZ : ClassId) (q : Nat → Nat) (e0 : Int32) (A B T P Y : Nat → Int32) (G : Nat → Bool) (sz : Nat) (ri si v : Int32) (hri : vp_in ri 16) (hsi : vp_in si 16) : Met l yM_narrow (Cond.code yM_narrow cM_narrow 8 (some .boolean) :: gw) (rmk 2 0 0) (va_Pc [.ref (q 0), .int (ri), .int (si), .int (v)] (kB D vwCl (mW cJ cI cZ q (e0) A B T P Y G) (tsM cJ cI cZ) sz)) (kQ (some (.int (bi (G si.toNatClampNeg && (decide (Y si.toNatClampNeg = 0) && ga_in (B si.toNatClampNeg) (T si.toNatClampNeg) (A si.toNatClampNeg) (un v)))))) D vwCl (mW cJ cI cZ q (0) (upd A ri.toNatClampNeg (A si.toNatClampNeg)) (upd B ri.toNatClampNeg (A si.toNatClampNeg)) (upd T ri.toNatClampNeg ((A si.toNatClampNeg) + (v))) (upd P ri.toNatClampNeg (P si.toNatClampNeg)) (upd Y ri.toNatClampNeg (Y si.toNatClampNeg)) (ub G ri.toNatClampNeg ((G si.toNatClampNeg && (decide (Y si.toNatClampNeg = 0) && ga_in (B si.toNatClampNeg) (T si.toNatClampNeg) (A si.toNatClampNeg) (un v)))))) (va_A (mW cJ cI cZ q (e0) A B T P Y G) sz)) 0 0 (va_A (mW cJ cI cZ q (e0) A B T P Y G) sz) := by
  refine Met.ofW (cc := cM_narrow) (maxL := 8) (ret := (some .boolean)) (by decide) rfl ?_
  intro p e s m args below meth c s₁ B9 hml hv
  obtain ⟨rfl, hsz, hP, hK, hD0⟩ := hv
  have hx := B9.exec
  have hb := B9.bytes
  have hr := B9.returns
  have hts := fun (w : Cond) (h : w ∈ gw) => atoms_spec (ws := _ :: gw) B9.pre w (List.mem_cons_of_mem _ h)
  have hown : s.vm.findClass RM = some m.cls := findClass_of_methodNamed B9.named
  have hlocks := B9.notSynchronized
  have hl := lv_entry ([.ref (q 0), .int (ri), .int (si), .int (v)]) (n := 8) (Nat.le_of_ble_eq_true rfl)
  rw [lg_entry_eq]
  generalize (lg_sl ([.ref (q 0), .int (ri), .int (si), .int (v)]) ++ List.replicate (8 - (lg_sl ([.ref (q 0), .int (ri), .int (si), .int (v)])).length) Slot.unset).toArray = ls at hl ⊢
  have hl : lv_has ls 8 [(0, .ref (q 0)), (1, .int (ri)), (2, .int (si)), (3, .int (v))] := hl
  subst hsz
  have hD := hD0.self (sz := s.heap.size)
  generalize hAe : va_A (mW cJ cI cZ q (e0) A B T P Y G) s.heap.size = A9 at hD ⊢
  have hA : ∀ z : Nat, s.heap.size ≤ z → A9 z := fun z h => by rw [← hAe]; exact Or.inr h
  have hS : va_S A9 s.heap s.heap [] := va_S.rf
  have hP : va_P D vwCl (mW cJ cI cZ q (e0) A B T P Y G) s.heap := hP
  refine lv_aload_n hx hb dM_narrow_0 rfl (lv_at hl 0 rfl) ?_
  refine lv_iconst (v := 0) hx hb dM_narrow_1 (by decide) ?_
  refine va_put (D := D) (ci := 1) (v := .int (0)) (ty := .int) (C := RM) (T := TM) (N := 7) hx hb hts inM tyM tyM_ok nmM hown hK hP hD hS 0 rfl rfl 0 (by decide) (hts _ w_255) (fun _ h9 => h9) rfl (by decide +kernel) rfl rfl (Nat.le_of_ble_eq_true rfl) dM_narrow_2 (fun H locs hP hD hS => ?_)
  have hP : va_P D vwCl (mW cJ cI cZ q (0) A B T P Y G) H := hP
  have hD : va_D A9 (mW cJ cI cZ q (0) A B T P Y G) := hD
  refine lv_aload_n hx hb dM_narrow_5 rfl (lv_at hl 0 rfl) ?_
  refine lv_iload_n hx hb dM_narrow_6 rfl (lv_at hl 1 rfl) ?_
  refine kr_S 1 (As := [.int (ri)]) (rest := [.ref (q 0)]) (r := .int (bi (gi ri))) hx hb hml hown hts hl.1 (mM_is l (ri)) tt_stb trivial (gw_S w_298 w_299 w_15 w_300) (by decide) ⟨rfl, rfl⟩ ⟨Nat.le_of_ble_eq_true rfl, Nat.le_of_ble_eq_true rfl⟩ rfl rfl (Nat.le_of_ble_eq_true rfl) dM_narrow_7 ⟨Nat.zero_le _, Nat.zero_le _⟩ ?_
  refine lv_if_eq (tgt := 20) hx hb dM_narrow_10 (by decide) (fun h_1 => absurd h_1 (gi_nz hri)) (fun h_1 => ?_)
  have h_1 := bi_n h_1
  refine lv_iload_n hx hb dM_narrow_13 rfl (lv_at hl 2 rfl) ?_
  refine kr_S 1 (As := [.int (si)]) (rest := [.ref (q 0)]) (r := .int (bi (gi si))) hx hb hml hown hts hl.1 (mM_is l (si)) tt_stb trivial (gw_S w_298 w_299 w_15 w_300) (by decide) ⟨rfl, rfl⟩ ⟨Nat.le_of_ble_eq_true rfl, Nat.le_of_ble_eq_true rfl⟩ rfl rfl (Nat.le_of_ble_eq_true rfl) dM_narrow_14 ⟨Nat.zero_le _, Nat.zero_le _⟩ ?_
  refine lv_if_ne (tgt := 24) hx hb dM_narrow_17 (by decide) (fun h_2 => ?_) (fun h_2 => absurd h_2 (gi_nz hsi))
  have h_2 := bi_n h_2
  refine lv_iconst (v := 0) hx hb dM_narrow_24 (by decide) ?_
  refine lv_iconst (v := 1) hx hb dM_narrow_25 (by decide) ?_
  refine kw_V 2 [0, 1, 2, 3, 4, 5, 6] [] (b := q 0) (As := [.int (0), .int (1)]) (rest := []) (wc := mW cJ cI cZ q (0) A B T P Y G) (wr := []) (w1 := mW cJ cI cZ q (0) A B T P Y G) hx hb hml hown hts hl.1 hP hD hS hA hK (mM_fails_f l D cJ cI cZ q 0 A B T P Y G _ 1) (gw_V w_294 w_296 w_8 w_15 w_297) (by decide) ⟨rfl, rfl⟩ ⟨Nat.le_of_ble_eq_true rfl, Nat.le_of_ble_eq_true rfl⟩ (va_recv hK hP (ci := 1) rfl (q0 := 0) rfl) rfl rfl (Nat.le_of_ble_eq_true rfl) dM_narrow_26 ⟨Nat.zero_le _, Nat.zero_le _⟩ rfl rfl ⟨by decide, by decide⟩ (by decide) (fun H locs hP hD hS => ?_)
  have hP : va_P D vwCl (mW cJ cI cZ q (0) A B T P Y G) H := hP
  have hD : va_D A9 (mW cJ cI cZ q (0) A B T P Y G) := hD
  refine W.eq (g2 := F0 m 29 ls [.int (0)]) rfl ?_
  refine lv_if_eq (tgt := 34) hx hb dM_narrow_29 (by decide) (fun h_3 => ?_) (fun h_3 => absurd (by decide) h_3)
  refine lv_aload_n hx hb dM_narrow_34 rfl (lv_at hl 0 rfl) ?_
  refine va_get (D := D) (ci := 1) (v := .ref (q 1)) (C := RM) (T := TM) (N := 7) hx hb hts inM hown hK hP 0 rfl rfl 1 (by decide) (hts _ w_256) (fun _ h9 => h9) rfl dM_narrow_35 ?_
  refine lv_iload_n hx hb dM_narrow_38 rfl (lv_at hl 2 rfl) ?_
  refine va_lald hx hb hK hP 1 0 rfl rfl hsi dM_narrow_39 ?_
  refine W.eq (g2 := F0 m 40 ls [.long (uw (A si.toNatClampNeg))]) rfl ?_
  refine lv_lstore hx hb dM_narrow_40 hl (by decide) rfl (fun ls hl => ?_)
  have hl : lv_has ls 8 [(4, .long (uw (A si.toNatClampNeg))), (0, .ref (q 0)), (1, .int (ri)), (2, .int (si)), (3, .int (v))] := hl
  refine lv_lload hx hb dM_narrow_42 (lv_at hl 0 rfl) ?_
  refine lv_iload_n hx hb dM_narrow_44 rfl (lv_at hl 4 rfl) ?_
  refine kr_S 1 (As := [.int (v)]) (rest := [.long (uw (A si.toNatClampNeg))]) (r := .long (uw (v))) hx hb hml hown hts hl.1 (mM_wide l (v)) tt_stb trivial (gw_S w_286 w_287 w_15 w_288) (by decide) ⟨rfl, rfl⟩ ⟨Nat.le_of_ble_eq_true rfl, Nat.le_of_ble_eq_true rfl⟩ rfl rfl (Nat.le_of_ble_eq_true rfl) dM_narrow_45 ⟨Nat.zero_le _, Nat.zero_le _⟩ ?_
  refine lv_ladd hx hb dM_narrow_48 ?_
  refine lv_lstore hx hb dM_narrow_49 hl (by decide) rfl (fun ls hl => ?_)
  have hl : lv_has ls 8 [(6, .long ((uw (A si.toNatClampNeg)) + (uw (v)))), (4, .long (uw (A si.toNatClampNeg))), (0, .ref (q 0)), (1, .int (ri)), (2, .int (si)), (3, .int (v))] := hl
  refine lv_aload_n hx hb dM_narrow_51 rfl (lv_at hl 2 rfl) ?_
  refine lv_iload_n hx hb dM_narrow_52 rfl (lv_at hl 3 rfl) ?_
  refine lv_lload hx hb dM_narrow_53 (lv_at hl 1 rfl) ?_
  refine lv_lload hx hb dM_narrow_55 (lv_at hl 1 rfl) ?_
  refine lv_lload hx hb dM_narrow_57 (lv_at hl 0 rfl) ?_
  refine lv_ldc2 (v := 4294967296) hx hb hown (hts _ w_289) dM_narrow_59 ?_
  refine lv_lrem hx hb dM_narrow_62 (by decide) ?_
  refine W.eq (g2 := F0 m 63 ls [.long (uw ((A si.toNatClampNeg) + (v))), .long (uw (A si.toNatClampNeg)), .long (uw (A si.toNatClampNeg)), .int (ri), .ref (q 0)]) (by rw [← uw_sum] <;> rfl) ?_
  refine lv_aload_n hx hb dM_narrow_63 rfl (lv_at hl 2 rfl) ?_
  refine va_get (D := D) (ci := 1) (v := .ref (q 4)) (C := RM) (T := TM) (N := 7) hx hb hts inM hown hK hP 0 rfl rfl 4 (by decide) (hts _ w_259) (fun _ h9 => h9) rfl dM_narrow_64 ?_
  refine lv_iload_n hx hb dM_narrow_67 rfl (lv_at hl 4 rfl) ?_
  refine va_iald hx hb hK hP 4 1 rfl rfl hsi dM_narrow_68 ?_
  refine lv_aload_n hx hb dM_narrow_69 rfl (lv_at hl 2 rfl) ?_
  refine va_get (D := D) (ci := 1) (v := .ref (q 5)) (C := RM) (T := TM) (N := 7) hx hb hts inM hown hK hP 0 rfl rfl 5 (by decide) (hts _ w_260) (fun _ h9 => h9) rfl dM_narrow_70 ?_
  refine lv_iload_n hx hb dM_narrow_73 rfl (lv_at hl 4 rfl) ?_
  refine va_iald hx hb hK hP 5 1 rfl rfl hsi dM_narrow_74 ?_
  refine lv_aload_n hx hb dM_narrow_75 rfl (lv_at hl 2 rfl) ?_
  refine va_get (D := D) (ci := 1) (v := .ref (q 6)) (C := RM) (T := TM) (N := 7) hx hb hts inM hown hK hP 0 rfl rfl 6 (by decide) (hts _ w_261) (fun _ h9 => h9) rfl dM_narrow_76 ?_
  refine lv_iload_n hx hb dM_narrow_79 rfl (lv_at hl 4 rfl) ?_
  refine va_zald hx hb hK hP 6 2 rfl rfl hsi dM_narrow_80 ?_
  refine W.eq (g2 := F0 m 81 ls [.int (bi (G si.toNatClampNeg)), .int (Y si.toNatClampNeg), .int (P si.toNatClampNeg), .long (uw ((A si.toNatClampNeg) + (v))), .long (uw (A si.toNatClampNeg)), .long (uw (A si.toNatClampNeg)), .int (ri), .ref (q 0)]) rfl ?_
  refine lv_if_eq (tgt := 132) hx hb dM_narrow_81 (by decide) (fun h_4 => ?_) (fun h_4 => ?_)
  · have h_4 := bi_0 h_4
    refine lv_iconst (v := 0) hx hb dM_narrow_132 (by decide) ?_
    refine W.eq (g2 := F0 m 133 ls [.int (bi (false)), .int (Y si.toNatClampNeg), .int (P si.toNatClampNeg), .long (uw ((A si.toNatClampNeg) + (v))), .long (uw (A si.toNatClampNeg)), .long (uw (A si.toNatClampNeg)), .int (ri), .ref (q 0)]) rfl ?_
    refine kw_V 7 [0, 1, 2, 3, 4, 5, 6] [] (b := q 0) (As := [.int (ri), .long (uw (A si.toNatClampNeg)), .long (uw (A si.toNatClampNeg)), .long (uw ((A si.toNatClampNeg) + (v))), .int (P si.toNatClampNeg), .int (Y si.toNatClampNeg), .int (bi (false))]) (rest := []) (wc := mW cJ cI cZ q (0) A B T P Y G) (wr := []) (w1 := mW cJ cI cZ q (0) (upd A ri.toNatClampNeg (A si.toNatClampNeg)) (upd B ri.toNatClampNeg (A si.toNatClampNeg)) (upd T ri.toNatClampNeg ((A si.toNatClampNeg) + (v))) (upd P ri.toNatClampNeg (P si.toNatClampNeg)) (upd Y ri.toNatClampNeg (Y si.toNatClampNeg)) (ub G ri.toNatClampNeg (false))) hx hb hml hown hts hl.1 hP hD hS hA hK (mM_give l D cJ cI cZ q (0) A B T P Y G _ ri (A si.toNatClampNeg) (A si.toNatClampNeg) ((A si.toNatClampNeg) + (v)) (P si.toNatClampNeg) (Y si.toNatClampNeg) false hri) (gw_V w_302 w_304 w_9 w_15 w_305) (by decide) ⟨rfl, rfl⟩ ⟨Nat.le_of_ble_eq_true rfl, Nat.le_of_ble_eq_true rfl⟩ (va_recv hK hP (ci := 1) rfl (q0 := 0) rfl) rfl rfl (Nat.le_of_ble_eq_true rfl) dM_narrow_133 ⟨Nat.zero_le _, Nat.zero_le _⟩ rfl rfl ⟨by decide, by decide⟩ (by decide) (fun H locs hP hD hS => ?_)
    have hP : va_P D vwCl (mW cJ cI cZ q (0) (upd A ri.toNatClampNeg (A si.toNatClampNeg)) (upd B ri.toNatClampNeg (A si.toNatClampNeg)) (upd T ri.toNatClampNeg ((A si.toNatClampNeg) + (v))) (upd P ri.toNatClampNeg (P si.toNatClampNeg)) (upd Y ri.toNatClampNeg (Y si.toNatClampNeg)) (ub G ri.toNatClampNeg (false))) H := hP
    have hD : va_D A9 (mW cJ cI cZ q (0) (upd A ri.toNatClampNeg (A si.toNatClampNeg)) (upd B ri.toNatClampNeg (A si.toNatClampNeg)) (upd T ri.toNatClampNeg ((A si.toNatClampNeg) + (v))) (upd P ri.toNatClampNeg (P si.toNatClampNeg)) (upd Y ri.toNatClampNeg (Y si.toNatClampNeg)) (ub G ri.toNatClampNeg (false))) := hD
    refine W.eq (g2 := F0 m 136 ls []) rfl ?_
    refine lv_aload_n hx hb dM_narrow_136 rfl (lv_at hl 2 rfl) ?_
    refine va_get (D := D) (ci := 1) (v := .ref (q 6)) (C := RM) (T := TM) (N := 7) hx hb hts inM hown hK hP 0 rfl rfl 6 (by decide) (hts _ w_261) (fun _ h9 => h9) rfl dM_narrow_137 ?_
    refine lv_iload_n hx hb dM_narrow_140 rfl (lv_at hl 3 rfl) ?_
    refine va_zald hx hb hK hP 6 2 rfl rfl hri dM_narrow_141 ?_
    refine W.eq (g2 := F0 m 142 ls [.int (bi (false))]) (by first | rfl | (rw [ub_s] <;> rfl)) ?_
    have e9_0 : (G si.toNatClampNeg && (decide (Y si.toNatClampNeg = 0) && ga_in (B si.toNatClampNeg) (T si.toNatClampNeg) (A si.toNatClampNeg) (un v))) = false := by (try simp only [decide_eq_true_eq, decide_eq_false_iff_not, Decidable.not_not] at h_1); (try simp only [decide_eq_true_eq, decide_eq_false_iff_not, Decidable.not_not] at h_2); (try simp only [decide_eq_true_eq, decide_eq_false_iff_not, Decidable.not_not] at h_4); unfold ga_in; simp [h_1, h_2, h_4] <;> omega
    have hP : va_P D vwCl (mW cJ cI cZ q (0) (upd A ri.toNatClampNeg (A si.toNatClampNeg)) (upd B ri.toNatClampNeg (A si.toNatClampNeg)) (upd T ri.toNatClampNeg ((A si.toNatClampNeg) + (v))) (upd P ri.toNatClampNeg (P si.toNatClampNeg)) (upd Y ri.toNatClampNeg (Y si.toNatClampNeg)) (ub G ri.toNatClampNeg ((G si.toNatClampNeg && (decide (Y si.toNatClampNeg = 0) && ga_in (B si.toNatClampNeg) (T si.toNatClampNeg) (A si.toNatClampNeg) (un v)))))) H := by (try rw [e9_0]); first | exact hP | (simp only [uu_upd, uu_ub] at hP ⊢; exact hP)
    have hD : va_D A9 (mW cJ cI cZ q (0) (upd A ri.toNatClampNeg (A si.toNatClampNeg)) (upd B ri.toNatClampNeg (A si.toNatClampNeg)) (upd T ri.toNatClampNeg ((A si.toNatClampNeg) + (v))) (upd P ri.toNatClampNeg (P si.toNatClampNeg)) (upd Y ri.toNatClampNeg (Y si.toNatClampNeg)) (ub G ri.toNatClampNeg ((G si.toNatClampNeg && (decide (Y si.toNatClampNeg = 0) && ga_in (B si.toNatClampNeg) (T si.toNatClampNeg) (A si.toNatClampNeg) (un v)))))) := by (try rw [e9_0]); first | exact hD | (simp only [uu_upd, uu_ub] at hD ⊢; exact hD)
    refine W.eq (g2 := F0 m 142 ls [.int (bi (G si.toNatClampNeg && (decide (Y si.toNatClampNeg = 0) && ga_in (B si.toNatClampNeg) (T si.toNatClampNeg) (A si.toNatClampNeg) (un v))))]) (by first | rfl | (rw [e9_0] <;> rfl)) ?_
    exact W.zret (v := bi (G si.toNatClampNeg && (decide (Y si.toNatClampNeg = 0) && ga_in (B si.toNatClampNeg) (T si.toNatClampNeg) (A si.toNatClampNeg) (un v)))) hx hb hr (bi_nar _) (fun t9 ht hW => ⟨rfl, by rw [ht]; exact hP, hD, hS.F ht⟩) hS.2.2 dM_narrow_142
  · have h_4 := bi_n h_4
    refine lv_aload_n hx hb dM_narrow_84 rfl (lv_at hl 2 rfl) ?_
    refine lv_iload_n hx hb dM_narrow_85 rfl (lv_at hl 4 rfl) ?_
    refine kr_Vw 1 (b := q 0) (As := [.int (si)]) (rest := [.int (Y si.toNatClampNeg), .int (P si.toNatClampNeg), .long (uw ((A si.toNatClampNeg) + (v))), .long (uw (A si.toNatClampNeg)), .long (uw (A si.toNatClampNeg)), .int (ri), .ref (q 0)]) (r := .int (bi (decide (¬ Y si.toNatClampNeg = 0)))) hx hb hml hown hts hl.1 (mM_isSealed l D cJ cI cZ q (0) A B T P Y G (si) hsi) rB_stb ⟨hP, hK⟩ (gw_V w_314 w_316 w_10 w_15 w_317) (by decide) ⟨rfl, rfl⟩ ⟨Nat.le_of_ble_eq_true rfl, Nat.le_of_ble_eq_true rfl⟩ (va_recv hK hP (ci := 1) rfl (q0 := 0) rfl) rfl rfl (Nat.le_of_ble_eq_true rfl) dM_narrow_86 ⟨Nat.zero_le _, Nat.zero_le _⟩ ?_
    refine lv_if_ne (tgt := 132) hx hb dM_narrow_89 (by decide) (fun h_5 => ?_) (fun h_5 => ?_)
    · have h_5 := bi_n h_5
      refine lv_iconst (v := 0) hx hb dM_narrow_132 (by decide) ?_
      refine W.eq (g2 := F0 m 133 ls [.int (bi (false)), .int (Y si.toNatClampNeg), .int (P si.toNatClampNeg), .long (uw ((A si.toNatClampNeg) + (v))), .long (uw (A si.toNatClampNeg)), .long (uw (A si.toNatClampNeg)), .int (ri), .ref (q 0)]) rfl ?_
      refine kw_V 7 [0, 1, 2, 3, 4, 5, 6] [] (b := q 0) (As := [.int (ri), .long (uw (A si.toNatClampNeg)), .long (uw (A si.toNatClampNeg)), .long (uw ((A si.toNatClampNeg) + (v))), .int (P si.toNatClampNeg), .int (Y si.toNatClampNeg), .int (bi (false))]) (rest := []) (wc := mW cJ cI cZ q (0) A B T P Y G) (wr := []) (w1 := mW cJ cI cZ q (0) (upd A ri.toNatClampNeg (A si.toNatClampNeg)) (upd B ri.toNatClampNeg (A si.toNatClampNeg)) (upd T ri.toNatClampNeg ((A si.toNatClampNeg) + (v))) (upd P ri.toNatClampNeg (P si.toNatClampNeg)) (upd Y ri.toNatClampNeg (Y si.toNatClampNeg)) (ub G ri.toNatClampNeg (false))) hx hb hml hown hts hl.1 hP hD hS hA hK (mM_give l D cJ cI cZ q (0) A B T P Y G _ ri (A si.toNatClampNeg) (A si.toNatClampNeg) ((A si.toNatClampNeg) + (v)) (P si.toNatClampNeg) (Y si.toNatClampNeg) false hri) (gw_V w_302 w_304 w_9 w_15 w_305) (by decide) ⟨rfl, rfl⟩ ⟨Nat.le_of_ble_eq_true rfl, Nat.le_of_ble_eq_true rfl⟩ (va_recv hK hP (ci := 1) rfl (q0 := 0) rfl) rfl rfl (Nat.le_of_ble_eq_true rfl) dM_narrow_133 ⟨Nat.zero_le _, Nat.zero_le _⟩ rfl rfl ⟨by decide, by decide⟩ (by decide) (fun H locs hP hD hS => ?_)
      have hP : va_P D vwCl (mW cJ cI cZ q (0) (upd A ri.toNatClampNeg (A si.toNatClampNeg)) (upd B ri.toNatClampNeg (A si.toNatClampNeg)) (upd T ri.toNatClampNeg ((A si.toNatClampNeg) + (v))) (upd P ri.toNatClampNeg (P si.toNatClampNeg)) (upd Y ri.toNatClampNeg (Y si.toNatClampNeg)) (ub G ri.toNatClampNeg (false))) H := hP
      have hD : va_D A9 (mW cJ cI cZ q (0) (upd A ri.toNatClampNeg (A si.toNatClampNeg)) (upd B ri.toNatClampNeg (A si.toNatClampNeg)) (upd T ri.toNatClampNeg ((A si.toNatClampNeg) + (v))) (upd P ri.toNatClampNeg (P si.toNatClampNeg)) (upd Y ri.toNatClampNeg (Y si.toNatClampNeg)) (ub G ri.toNatClampNeg (false))) := hD
      refine W.eq (g2 := F0 m 136 ls []) rfl ?_
      refine lv_aload_n hx hb dM_narrow_136 rfl (lv_at hl 2 rfl) ?_
      refine va_get (D := D) (ci := 1) (v := .ref (q 6)) (C := RM) (T := TM) (N := 7) hx hb hts inM hown hK hP 0 rfl rfl 6 (by decide) (hts _ w_261) (fun _ h9 => h9) rfl dM_narrow_137 ?_
      refine lv_iload_n hx hb dM_narrow_140 rfl (lv_at hl 3 rfl) ?_
      refine va_zald hx hb hK hP 6 2 rfl rfl hri dM_narrow_141 ?_
      refine W.eq (g2 := F0 m 142 ls [.int (bi (false))]) (by first | rfl | (rw [ub_s] <;> rfl)) ?_
      have e9_0 : (G si.toNatClampNeg && (decide (Y si.toNatClampNeg = 0) && ga_in (B si.toNatClampNeg) (T si.toNatClampNeg) (A si.toNatClampNeg) (un v))) = false := by (try simp only [decide_eq_true_eq, decide_eq_false_iff_not, Decidable.not_not] at h_1); (try simp only [decide_eq_true_eq, decide_eq_false_iff_not, Decidable.not_not] at h_2); (try simp only [decide_eq_true_eq, decide_eq_false_iff_not, Decidable.not_not] at h_4); (try simp only [decide_eq_true_eq, decide_eq_false_iff_not, Decidable.not_not] at h_5); unfold ga_in; simp [h_1, h_2, h_4, h_5] <;> omega
      have hP : va_P D vwCl (mW cJ cI cZ q (0) (upd A ri.toNatClampNeg (A si.toNatClampNeg)) (upd B ri.toNatClampNeg (A si.toNatClampNeg)) (upd T ri.toNatClampNeg ((A si.toNatClampNeg) + (v))) (upd P ri.toNatClampNeg (P si.toNatClampNeg)) (upd Y ri.toNatClampNeg (Y si.toNatClampNeg)) (ub G ri.toNatClampNeg ((G si.toNatClampNeg && (decide (Y si.toNatClampNeg = 0) && ga_in (B si.toNatClampNeg) (T si.toNatClampNeg) (A si.toNatClampNeg) (un v)))))) H := by (try rw [e9_0]); first | exact hP | (simp only [uu_upd, uu_ub] at hP ⊢; exact hP)
      have hD : va_D A9 (mW cJ cI cZ q (0) (upd A ri.toNatClampNeg (A si.toNatClampNeg)) (upd B ri.toNatClampNeg (A si.toNatClampNeg)) (upd T ri.toNatClampNeg ((A si.toNatClampNeg) + (v))) (upd P ri.toNatClampNeg (P si.toNatClampNeg)) (upd Y ri.toNatClampNeg (Y si.toNatClampNeg)) (ub G ri.toNatClampNeg ((G si.toNatClampNeg && (decide (Y si.toNatClampNeg = 0) && ga_in (B si.toNatClampNeg) (T si.toNatClampNeg) (A si.toNatClampNeg) (un v)))))) := by (try rw [e9_0]); first | exact hD | (simp only [uu_upd, uu_ub] at hD ⊢; exact hD)
      refine W.eq (g2 := F0 m 142 ls [.int (bi (G si.toNatClampNeg && (decide (Y si.toNatClampNeg = 0) && ga_in (B si.toNatClampNeg) (T si.toNatClampNeg) (A si.toNatClampNeg) (un v))))]) (by first | rfl | (rw [e9_0] <;> rfl)) ?_
      exact W.zret (v := bi (G si.toNatClampNeg && (decide (Y si.toNatClampNeg = 0) && ga_in (B si.toNatClampNeg) (T si.toNatClampNeg) (A si.toNatClampNeg) (un v)))) hx hb hr (bi_nar _) (fun t9 ht hW => ⟨rfl, by rw [ht]; exact hP, hD, hS.F ht⟩) hS.2.2 dM_narrow_142
    · have h_5 := bi_0 h_5
      refine lv_lload hx hb dM_narrow_92 (lv_at hl 1 rfl) ?_
      refine lv_aload_n hx hb dM_narrow_94 rfl (lv_at hl 2 rfl) ?_
      refine va_get (D := D) (ci := 1) (v := .ref (q 2)) (C := RM) (T := TM) (N := 7) hx hb hts inM hown hK hP 0 rfl rfl 2 (by decide) (hts _ w_257) (fun _ h9 => h9) rfl dM_narrow_95 ?_
      refine lv_iload_n hx hb dM_narrow_98 rfl (lv_at hl 4 rfl) ?_
      refine va_lald hx hb hK hP 2 0 rfl rfl hsi dM_narrow_99 ?_
      refine W.eq (g2 := F0 m 100 ls [.long (uw (B si.toNatClampNeg)), .long (uw (A si.toNatClampNeg)), .int (Y si.toNatClampNeg), .int (P si.toNatClampNeg), .long (uw ((A si.toNatClampNeg) + (v))), .long (uw (A si.toNatClampNeg)), .long (uw (A si.toNatClampNeg)), .int (ri), .ref (q 0)]) rfl ?_
      refine W.lcmp hx hb dM_narrow_100 ?_
      refine lv_if_lt (tgt := 132) hx hb dM_narrow_101 (by decide) (fun h_6 => ?_) (fun h_6 => ?_)
      · rw [lg_cmp_lt] at h_6
        refine lv_iconst (v := 0) hx hb dM_narrow_132 (by decide) ?_
        refine W.eq (g2 := F0 m 133 ls [.int (bi (false)), .int (Y si.toNatClampNeg), .int (P si.toNatClampNeg), .long (uw ((A si.toNatClampNeg) + (v))), .long (uw (A si.toNatClampNeg)), .long (uw (A si.toNatClampNeg)), .int (ri), .ref (q 0)]) rfl ?_
        refine kw_V 7 [0, 1, 2, 3, 4, 5, 6] [] (b := q 0) (As := [.int (ri), .long (uw (A si.toNatClampNeg)), .long (uw (A si.toNatClampNeg)), .long (uw ((A si.toNatClampNeg) + (v))), .int (P si.toNatClampNeg), .int (Y si.toNatClampNeg), .int (bi (false))]) (rest := []) (wc := mW cJ cI cZ q (0) A B T P Y G) (wr := []) (w1 := mW cJ cI cZ q (0) (upd A ri.toNatClampNeg (A si.toNatClampNeg)) (upd B ri.toNatClampNeg (A si.toNatClampNeg)) (upd T ri.toNatClampNeg ((A si.toNatClampNeg) + (v))) (upd P ri.toNatClampNeg (P si.toNatClampNeg)) (upd Y ri.toNatClampNeg (Y si.toNatClampNeg)) (ub G ri.toNatClampNeg (false))) hx hb hml hown hts hl.1 hP hD hS hA hK (mM_give l D cJ cI cZ q (0) A B T P Y G _ ri (A si.toNatClampNeg) (A si.toNatClampNeg) ((A si.toNatClampNeg) + (v)) (P si.toNatClampNeg) (Y si.toNatClampNeg) false hri) (gw_V w_302 w_304 w_9 w_15 w_305) (by decide) ⟨rfl, rfl⟩ ⟨Nat.le_of_ble_eq_true rfl, Nat.le_of_ble_eq_true rfl⟩ (va_recv hK hP (ci := 1) rfl (q0 := 0) rfl) rfl rfl (Nat.le_of_ble_eq_true rfl) dM_narrow_133 ⟨Nat.zero_le _, Nat.zero_le _⟩ rfl rfl ⟨by decide, by decide⟩ (by decide) (fun H locs hP hD hS => ?_)
        have hP : va_P D vwCl (mW cJ cI cZ q (0) (upd A ri.toNatClampNeg (A si.toNatClampNeg)) (upd B ri.toNatClampNeg (A si.toNatClampNeg)) (upd T ri.toNatClampNeg ((A si.toNatClampNeg) + (v))) (upd P ri.toNatClampNeg (P si.toNatClampNeg)) (upd Y ri.toNatClampNeg (Y si.toNatClampNeg)) (ub G ri.toNatClampNeg (false))) H := hP
        have hD : va_D A9 (mW cJ cI cZ q (0) (upd A ri.toNatClampNeg (A si.toNatClampNeg)) (upd B ri.toNatClampNeg (A si.toNatClampNeg)) (upd T ri.toNatClampNeg ((A si.toNatClampNeg) + (v))) (upd P ri.toNatClampNeg (P si.toNatClampNeg)) (upd Y ri.toNatClampNeg (Y si.toNatClampNeg)) (ub G ri.toNatClampNeg (false))) := hD
        refine W.eq (g2 := F0 m 136 ls []) rfl ?_
        refine lv_aload_n hx hb dM_narrow_136 rfl (lv_at hl 2 rfl) ?_
        refine va_get (D := D) (ci := 1) (v := .ref (q 6)) (C := RM) (T := TM) (N := 7) hx hb hts inM hown hK hP 0 rfl rfl 6 (by decide) (hts _ w_261) (fun _ h9 => h9) rfl dM_narrow_137 ?_
        refine lv_iload_n hx hb dM_narrow_140 rfl (lv_at hl 3 rfl) ?_
        refine va_zald hx hb hK hP 6 2 rfl rfl hri dM_narrow_141 ?_
        refine W.eq (g2 := F0 m 142 ls [.int (bi (false))]) (by first | rfl | (rw [ub_s] <;> rfl)) ?_
        have e9_0 : (G si.toNatClampNeg && (decide (Y si.toNatClampNeg = 0) && ga_in (B si.toNatClampNeg) (T si.toNatClampNeg) (A si.toNatClampNeg) (un v))) = false := by (try simp only [decide_eq_true_eq, decide_eq_false_iff_not, Decidable.not_not] at h_1); (try simp only [decide_eq_true_eq, decide_eq_false_iff_not, Decidable.not_not] at h_2); (try simp only [decide_eq_true_eq, decide_eq_false_iff_not, Decidable.not_not] at h_4); (try simp only [decide_eq_true_eq, decide_eq_false_iff_not, Decidable.not_not] at h_5); rw [uw_lt] at h_6; unfold ga_in; simp [h_1, h_2, h_4, h_5] <;> omega
        have hP : va_P D vwCl (mW cJ cI cZ q (0) (upd A ri.toNatClampNeg (A si.toNatClampNeg)) (upd B ri.toNatClampNeg (A si.toNatClampNeg)) (upd T ri.toNatClampNeg ((A si.toNatClampNeg) + (v))) (upd P ri.toNatClampNeg (P si.toNatClampNeg)) (upd Y ri.toNatClampNeg (Y si.toNatClampNeg)) (ub G ri.toNatClampNeg ((G si.toNatClampNeg && (decide (Y si.toNatClampNeg = 0) && ga_in (B si.toNatClampNeg) (T si.toNatClampNeg) (A si.toNatClampNeg) (un v)))))) H := by (try rw [e9_0]); first | exact hP | (simp only [uu_upd, uu_ub] at hP ⊢; exact hP)
        have hD : va_D A9 (mW cJ cI cZ q (0) (upd A ri.toNatClampNeg (A si.toNatClampNeg)) (upd B ri.toNatClampNeg (A si.toNatClampNeg)) (upd T ri.toNatClampNeg ((A si.toNatClampNeg) + (v))) (upd P ri.toNatClampNeg (P si.toNatClampNeg)) (upd Y ri.toNatClampNeg (Y si.toNatClampNeg)) (ub G ri.toNatClampNeg ((G si.toNatClampNeg && (decide (Y si.toNatClampNeg = 0) && ga_in (B si.toNatClampNeg) (T si.toNatClampNeg) (A si.toNatClampNeg) (un v)))))) := by (try rw [e9_0]); first | exact hD | (simp only [uu_upd, uu_ub] at hD ⊢; exact hD)
        refine W.eq (g2 := F0 m 142 ls [.int (bi (G si.toNatClampNeg && (decide (Y si.toNatClampNeg = 0) && ga_in (B si.toNatClampNeg) (T si.toNatClampNeg) (A si.toNatClampNeg) (un v))))]) (by first | rfl | (rw [e9_0] <;> rfl)) ?_
        exact W.zret (v := bi (G si.toNatClampNeg && (decide (Y si.toNatClampNeg = 0) && ga_in (B si.toNatClampNeg) (T si.toNatClampNeg) (A si.toNatClampNeg) (un v)))) hx hb hr (bi_nar _) (fun t9 ht hW => ⟨rfl, by rw [ht]; exact hP, hD, hS.F ht⟩) hS.2.2 dM_narrow_142
      · rw [lg_cmp_lt] at h_6
        refine lv_lload hx hb dM_narrow_104 (lv_at hl 1 rfl) ?_
        refine lv_aload_n hx hb dM_narrow_106 rfl (lv_at hl 2 rfl) ?_
        refine va_get (D := D) (ci := 1) (v := .ref (q 3)) (C := RM) (T := TM) (N := 7) hx hb hts inM hown hK hP 0 rfl rfl 3 (by decide) (hts _ w_258) (fun _ h9 => h9) rfl dM_narrow_107 ?_
        refine lv_iload_n hx hb dM_narrow_110 rfl (lv_at hl 4 rfl) ?_
        refine va_lald hx hb hK hP 3 0 rfl rfl hsi dM_narrow_111 ?_
        refine W.eq (g2 := F0 m 112 ls [.long (uw (T si.toNatClampNeg)), .long (uw (A si.toNatClampNeg)), .int (Y si.toNatClampNeg), .int (P si.toNatClampNeg), .long (uw ((A si.toNatClampNeg) + (v))), .long (uw (A si.toNatClampNeg)), .long (uw (A si.toNatClampNeg)), .int (ri), .ref (q 0)]) rfl ?_
        refine W.lcmp hx hb dM_narrow_112 ?_
        refine lv_if_gt (tgt := 132) hx hb dM_narrow_113 (by decide) (fun h_7 => ?_) (fun h_7 => ?_)
        · rw [lg_cmp_gt] at h_7
          refine lv_iconst (v := 0) hx hb dM_narrow_132 (by decide) ?_
          refine W.eq (g2 := F0 m 133 ls [.int (bi (false)), .int (Y si.toNatClampNeg), .int (P si.toNatClampNeg), .long (uw ((A si.toNatClampNeg) + (v))), .long (uw (A si.toNatClampNeg)), .long (uw (A si.toNatClampNeg)), .int (ri), .ref (q 0)]) rfl ?_
          refine kw_V 7 [0, 1, 2, 3, 4, 5, 6] [] (b := q 0) (As := [.int (ri), .long (uw (A si.toNatClampNeg)), .long (uw (A si.toNatClampNeg)), .long (uw ((A si.toNatClampNeg) + (v))), .int (P si.toNatClampNeg), .int (Y si.toNatClampNeg), .int (bi (false))]) (rest := []) (wc := mW cJ cI cZ q (0) A B T P Y G) (wr := []) (w1 := mW cJ cI cZ q (0) (upd A ri.toNatClampNeg (A si.toNatClampNeg)) (upd B ri.toNatClampNeg (A si.toNatClampNeg)) (upd T ri.toNatClampNeg ((A si.toNatClampNeg) + (v))) (upd P ri.toNatClampNeg (P si.toNatClampNeg)) (upd Y ri.toNatClampNeg (Y si.toNatClampNeg)) (ub G ri.toNatClampNeg (false))) hx hb hml hown hts hl.1 hP hD hS hA hK (mM_give l D cJ cI cZ q (0) A B T P Y G _ ri (A si.toNatClampNeg) (A si.toNatClampNeg) ((A si.toNatClampNeg) + (v)) (P si.toNatClampNeg) (Y si.toNatClampNeg) false hri) (gw_V w_302 w_304 w_9 w_15 w_305) (by decide) ⟨rfl, rfl⟩ ⟨Nat.le_of_ble_eq_true rfl, Nat.le_of_ble_eq_true rfl⟩ (va_recv hK hP (ci := 1) rfl (q0 := 0) rfl) rfl rfl (Nat.le_of_ble_eq_true rfl) dM_narrow_133 ⟨Nat.zero_le _, Nat.zero_le _⟩ rfl rfl ⟨by decide, by decide⟩ (by decide) (fun H locs hP hD hS => ?_)
          have hP : va_P D vwCl (mW cJ cI cZ q (0) (upd A ri.toNatClampNeg (A si.toNatClampNeg)) (upd B ri.toNatClampNeg (A si.toNatClampNeg)) (upd T ri.toNatClampNeg ((A si.toNatClampNeg) + (v))) (upd P ri.toNatClampNeg (P si.toNatClampNeg)) (upd Y ri.toNatClampNeg (Y si.toNatClampNeg)) (ub G ri.toNatClampNeg (false))) H := hP
          have hD : va_D A9 (mW cJ cI cZ q (0) (upd A ri.toNatClampNeg (A si.toNatClampNeg)) (upd B ri.toNatClampNeg (A si.toNatClampNeg)) (upd T ri.toNatClampNeg ((A si.toNatClampNeg) + (v))) (upd P ri.toNatClampNeg (P si.toNatClampNeg)) (upd Y ri.toNatClampNeg (Y si.toNatClampNeg)) (ub G ri.toNatClampNeg (false))) := hD
          refine W.eq (g2 := F0 m 136 ls []) rfl ?_
          refine lv_aload_n hx hb dM_narrow_136 rfl (lv_at hl 2 rfl) ?_
          refine va_get (D := D) (ci := 1) (v := .ref (q 6)) (C := RM) (T := TM) (N := 7) hx hb hts inM hown hK hP 0 rfl rfl 6 (by decide) (hts _ w_261) (fun _ h9 => h9) rfl dM_narrow_137 ?_
          refine lv_iload_n hx hb dM_narrow_140 rfl (lv_at hl 3 rfl) ?_
          refine va_zald hx hb hK hP 6 2 rfl rfl hri dM_narrow_141 ?_
          refine W.eq (g2 := F0 m 142 ls [.int (bi (false))]) (by first | rfl | (rw [ub_s] <;> rfl)) ?_
          have e9_0 : (G si.toNatClampNeg && (decide (Y si.toNatClampNeg = 0) && ga_in (B si.toNatClampNeg) (T si.toNatClampNeg) (A si.toNatClampNeg) (un v))) = false := by (try simp only [decide_eq_true_eq, decide_eq_false_iff_not, Decidable.not_not] at h_1); (try simp only [decide_eq_true_eq, decide_eq_false_iff_not, Decidable.not_not] at h_2); (try simp only [decide_eq_true_eq, decide_eq_false_iff_not, Decidable.not_not] at h_4); (try simp only [decide_eq_true_eq, decide_eq_false_iff_not, Decidable.not_not] at h_5); rw [uw_lt] at h_6; rw [uw_lt] at h_7; unfold ga_in; simp [h_1, h_2, h_4, h_5] <;> omega
          have hP : va_P D vwCl (mW cJ cI cZ q (0) (upd A ri.toNatClampNeg (A si.toNatClampNeg)) (upd B ri.toNatClampNeg (A si.toNatClampNeg)) (upd T ri.toNatClampNeg ((A si.toNatClampNeg) + (v))) (upd P ri.toNatClampNeg (P si.toNatClampNeg)) (upd Y ri.toNatClampNeg (Y si.toNatClampNeg)) (ub G ri.toNatClampNeg ((G si.toNatClampNeg && (decide (Y si.toNatClampNeg = 0) && ga_in (B si.toNatClampNeg) (T si.toNatClampNeg) (A si.toNatClampNeg) (un v)))))) H := by (try rw [e9_0]); first | exact hP | (simp only [uu_upd, uu_ub] at hP ⊢; exact hP)
          have hD : va_D A9 (mW cJ cI cZ q (0) (upd A ri.toNatClampNeg (A si.toNatClampNeg)) (upd B ri.toNatClampNeg (A si.toNatClampNeg)) (upd T ri.toNatClampNeg ((A si.toNatClampNeg) + (v))) (upd P ri.toNatClampNeg (P si.toNatClampNeg)) (upd Y ri.toNatClampNeg (Y si.toNatClampNeg)) (ub G ri.toNatClampNeg ((G si.toNatClampNeg && (decide (Y si.toNatClampNeg = 0) && ga_in (B si.toNatClampNeg) (T si.toNatClampNeg) (A si.toNatClampNeg) (un v)))))) := by (try rw [e9_0]); first | exact hD | (simp only [uu_upd, uu_ub] at hD ⊢; exact hD)
          refine W.eq (g2 := F0 m 142 ls [.int (bi (G si.toNatClampNeg && (decide (Y si.toNatClampNeg = 0) && ga_in (B si.toNatClampNeg) (T si.toNatClampNeg) (A si.toNatClampNeg) (un v))))]) (by first | rfl | (rw [e9_0] <;> rfl)) ?_
          exact W.zret (v := bi (G si.toNatClampNeg && (decide (Y si.toNatClampNeg = 0) && ga_in (B si.toNatClampNeg) (T si.toNatClampNeg) (A si.toNatClampNeg) (un v)))) hx hb hr (bi_nar _) (fun t9 ht hW => ⟨rfl, by rw [ht]; exact hP, hD, hS.F ht⟩) hS.2.2 dM_narrow_142
        · rw [lg_cmp_gt] at h_7
          refine lv_lload hx hb dM_narrow_116 (lv_at hl 0 rfl) ?_
          refine lv_aload_n hx hb dM_narrow_118 rfl (lv_at hl 2 rfl) ?_
          refine va_get (D := D) (ci := 1) (v := .ref (q 3)) (C := RM) (T := TM) (N := 7) hx hb hts inM hown hK hP 0 rfl rfl 3 (by decide) (hts _ w_258) (fun _ h9 => h9) rfl dM_narrow_119 ?_
          refine lv_iload_n hx hb dM_narrow_122 rfl (lv_at hl 4 rfl) ?_
          refine va_lald hx hb hK hP 3 0 rfl rfl hsi dM_narrow_123 ?_
          refine W.eq (g2 := F0 m 124 ls [.long (uw (T si.toNatClampNeg)), .long ((uw (A si.toNatClampNeg)) + (uw (v))), .int (Y si.toNatClampNeg), .int (P si.toNatClampNeg), .long (uw ((A si.toNatClampNeg) + (v))), .long (uw (A si.toNatClampNeg)), .long (uw (A si.toNatClampNeg)), .int (ri), .ref (q 0)]) rfl ?_
          refine W.lcmp hx hb dM_narrow_124 ?_
          refine lv_if_gt (tgt := 132) hx hb dM_narrow_125 (by decide) (fun h_8 => ?_) (fun h_8 => ?_)
          · rw [lg_cmp_gt] at h_8
            refine lv_iconst (v := 0) hx hb dM_narrow_132 (by decide) ?_
            refine W.eq (g2 := F0 m 133 ls [.int (bi (false)), .int (Y si.toNatClampNeg), .int (P si.toNatClampNeg), .long (uw ((A si.toNatClampNeg) + (v))), .long (uw (A si.toNatClampNeg)), .long (uw (A si.toNatClampNeg)), .int (ri), .ref (q 0)]) rfl ?_
            refine kw_V 7 [0, 1, 2, 3, 4, 5, 6] [] (b := q 0) (As := [.int (ri), .long (uw (A si.toNatClampNeg)), .long (uw (A si.toNatClampNeg)), .long (uw ((A si.toNatClampNeg) + (v))), .int (P si.toNatClampNeg), .int (Y si.toNatClampNeg), .int (bi (false))]) (rest := []) (wc := mW cJ cI cZ q (0) A B T P Y G) (wr := []) (w1 := mW cJ cI cZ q (0) (upd A ri.toNatClampNeg (A si.toNatClampNeg)) (upd B ri.toNatClampNeg (A si.toNatClampNeg)) (upd T ri.toNatClampNeg ((A si.toNatClampNeg) + (v))) (upd P ri.toNatClampNeg (P si.toNatClampNeg)) (upd Y ri.toNatClampNeg (Y si.toNatClampNeg)) (ub G ri.toNatClampNeg (false))) hx hb hml hown hts hl.1 hP hD hS hA hK (mM_give l D cJ cI cZ q (0) A B T P Y G _ ri (A si.toNatClampNeg) (A si.toNatClampNeg) ((A si.toNatClampNeg) + (v)) (P si.toNatClampNeg) (Y si.toNatClampNeg) false hri) (gw_V w_302 w_304 w_9 w_15 w_305) (by decide) ⟨rfl, rfl⟩ ⟨Nat.le_of_ble_eq_true rfl, Nat.le_of_ble_eq_true rfl⟩ (va_recv hK hP (ci := 1) rfl (q0 := 0) rfl) rfl rfl (Nat.le_of_ble_eq_true rfl) dM_narrow_133 ⟨Nat.zero_le _, Nat.zero_le _⟩ rfl rfl ⟨by decide, by decide⟩ (by decide) (fun H locs hP hD hS => ?_)
            have hP : va_P D vwCl (mW cJ cI cZ q (0) (upd A ri.toNatClampNeg (A si.toNatClampNeg)) (upd B ri.toNatClampNeg (A si.toNatClampNeg)) (upd T ri.toNatClampNeg ((A si.toNatClampNeg) + (v))) (upd P ri.toNatClampNeg (P si.toNatClampNeg)) (upd Y ri.toNatClampNeg (Y si.toNatClampNeg)) (ub G ri.toNatClampNeg (false))) H := hP
            have hD : va_D A9 (mW cJ cI cZ q (0) (upd A ri.toNatClampNeg (A si.toNatClampNeg)) (upd B ri.toNatClampNeg (A si.toNatClampNeg)) (upd T ri.toNatClampNeg ((A si.toNatClampNeg) + (v))) (upd P ri.toNatClampNeg (P si.toNatClampNeg)) (upd Y ri.toNatClampNeg (Y si.toNatClampNeg)) (ub G ri.toNatClampNeg (false))) := hD
            refine W.eq (g2 := F0 m 136 ls []) rfl ?_
            refine lv_aload_n hx hb dM_narrow_136 rfl (lv_at hl 2 rfl) ?_
            refine va_get (D := D) (ci := 1) (v := .ref (q 6)) (C := RM) (T := TM) (N := 7) hx hb hts inM hown hK hP 0 rfl rfl 6 (by decide) (hts _ w_261) (fun _ h9 => h9) rfl dM_narrow_137 ?_
            refine lv_iload_n hx hb dM_narrow_140 rfl (lv_at hl 3 rfl) ?_
            refine va_zald hx hb hK hP 6 2 rfl rfl hri dM_narrow_141 ?_
            refine W.eq (g2 := F0 m 142 ls [.int (bi (false))]) (by first | rfl | (rw [ub_s] <;> rfl)) ?_
            have e9_0 : (G si.toNatClampNeg && (decide (Y si.toNatClampNeg = 0) && ga_in (B si.toNatClampNeg) (T si.toNatClampNeg) (A si.toNatClampNeg) (un v))) = false := by (try simp only [decide_eq_true_eq, decide_eq_false_iff_not, Decidable.not_not] at h_1); (try simp only [decide_eq_true_eq, decide_eq_false_iff_not, Decidable.not_not] at h_2); (try simp only [decide_eq_true_eq, decide_eq_false_iff_not, Decidable.not_not] at h_4); (try simp only [decide_eq_true_eq, decide_eq_false_iff_not, Decidable.not_not] at h_5); rw [uw_lt] at h_6; rw [uw_lt] at h_7; simp only [uw, lN_add] at h_8; rw [pk_lLT (by have h91 := un_lt (A si.toNatClampNeg); have h92 := un_lt (B si.toNatClampNeg); have h93 := un_lt (T si.toNatClampNeg); have h94 := un_lt v; omega) (by have h91 := un_lt (A si.toNatClampNeg); have h92 := un_lt (B si.toNatClampNeg); have h93 := un_lt (T si.toNatClampNeg); have h94 := un_lt v; omega)] at h_8; unfold ga_in; simp [h_1, h_2, h_4, h_5] <;> omega
            have hP : va_P D vwCl (mW cJ cI cZ q (0) (upd A ri.toNatClampNeg (A si.toNatClampNeg)) (upd B ri.toNatClampNeg (A si.toNatClampNeg)) (upd T ri.toNatClampNeg ((A si.toNatClampNeg) + (v))) (upd P ri.toNatClampNeg (P si.toNatClampNeg)) (upd Y ri.toNatClampNeg (Y si.toNatClampNeg)) (ub G ri.toNatClampNeg ((G si.toNatClampNeg && (decide (Y si.toNatClampNeg = 0) && ga_in (B si.toNatClampNeg) (T si.toNatClampNeg) (A si.toNatClampNeg) (un v)))))) H := by (try rw [e9_0]); first | exact hP | (simp only [uu_upd, uu_ub] at hP ⊢; exact hP)
            have hD : va_D A9 (mW cJ cI cZ q (0) (upd A ri.toNatClampNeg (A si.toNatClampNeg)) (upd B ri.toNatClampNeg (A si.toNatClampNeg)) (upd T ri.toNatClampNeg ((A si.toNatClampNeg) + (v))) (upd P ri.toNatClampNeg (P si.toNatClampNeg)) (upd Y ri.toNatClampNeg (Y si.toNatClampNeg)) (ub G ri.toNatClampNeg ((G si.toNatClampNeg && (decide (Y si.toNatClampNeg = 0) && ga_in (B si.toNatClampNeg) (T si.toNatClampNeg) (A si.toNatClampNeg) (un v)))))) := by (try rw [e9_0]); first | exact hD | (simp only [uu_upd, uu_ub] at hD ⊢; exact hD)
            refine W.eq (g2 := F0 m 142 ls [.int (bi (G si.toNatClampNeg && (decide (Y si.toNatClampNeg = 0) && ga_in (B si.toNatClampNeg) (T si.toNatClampNeg) (A si.toNatClampNeg) (un v))))]) (by first | rfl | (rw [e9_0] <;> rfl)) ?_
            exact W.zret (v := bi (G si.toNatClampNeg && (decide (Y si.toNatClampNeg = 0) && ga_in (B si.toNatClampNeg) (T si.toNatClampNeg) (A si.toNatClampNeg) (un v)))) hx hb hr (bi_nar _) (fun t9 ht hW => ⟨rfl, by rw [ht]; exact hP, hD, hS.F ht⟩) hS.2.2 dM_narrow_142
          · rw [lg_cmp_gt] at h_8
            refine lv_iconst (v := 1) hx hb dM_narrow_128 (by decide) ?_
            refine lv_goto (tgt := 133) hx hb dM_narrow_129 (by decide) ?_
            refine W.eq (g2 := F0 m 133 ls [.int (bi (true)), .int (Y si.toNatClampNeg), .int (P si.toNatClampNeg), .long (uw ((A si.toNatClampNeg) + (v))), .long (uw (A si.toNatClampNeg)), .long (uw (A si.toNatClampNeg)), .int (ri), .ref (q 0)]) rfl ?_
            refine kw_V 7 [0, 1, 2, 3, 4, 5, 6] [] (b := q 0) (As := [.int (ri), .long (uw (A si.toNatClampNeg)), .long (uw (A si.toNatClampNeg)), .long (uw ((A si.toNatClampNeg) + (v))), .int (P si.toNatClampNeg), .int (Y si.toNatClampNeg), .int (bi (true))]) (rest := []) (wc := mW cJ cI cZ q (0) A B T P Y G) (wr := []) (w1 := mW cJ cI cZ q (0) (upd A ri.toNatClampNeg (A si.toNatClampNeg)) (upd B ri.toNatClampNeg (A si.toNatClampNeg)) (upd T ri.toNatClampNeg ((A si.toNatClampNeg) + (v))) (upd P ri.toNatClampNeg (P si.toNatClampNeg)) (upd Y ri.toNatClampNeg (Y si.toNatClampNeg)) (ub G ri.toNatClampNeg (true))) hx hb hml hown hts hl.1 hP hD hS hA hK (mM_give l D cJ cI cZ q (0) A B T P Y G _ ri (A si.toNatClampNeg) (A si.toNatClampNeg) ((A si.toNatClampNeg) + (v)) (P si.toNatClampNeg) (Y si.toNatClampNeg) true hri) (gw_V w_302 w_304 w_9 w_15 w_305) (by decide) ⟨rfl, rfl⟩ ⟨Nat.le_of_ble_eq_true rfl, Nat.le_of_ble_eq_true rfl⟩ (va_recv hK hP (ci := 1) rfl (q0 := 0) rfl) rfl rfl (Nat.le_of_ble_eq_true rfl) dM_narrow_133 ⟨Nat.zero_le _, Nat.zero_le _⟩ rfl rfl ⟨by decide, by decide⟩ (by decide) (fun H locs hP hD hS => ?_)
            have hP : va_P D vwCl (mW cJ cI cZ q (0) (upd A ri.toNatClampNeg (A si.toNatClampNeg)) (upd B ri.toNatClampNeg (A si.toNatClampNeg)) (upd T ri.toNatClampNeg ((A si.toNatClampNeg) + (v))) (upd P ri.toNatClampNeg (P si.toNatClampNeg)) (upd Y ri.toNatClampNeg (Y si.toNatClampNeg)) (ub G ri.toNatClampNeg (true))) H := hP
            have hD : va_D A9 (mW cJ cI cZ q (0) (upd A ri.toNatClampNeg (A si.toNatClampNeg)) (upd B ri.toNatClampNeg (A si.toNatClampNeg)) (upd T ri.toNatClampNeg ((A si.toNatClampNeg) + (v))) (upd P ri.toNatClampNeg (P si.toNatClampNeg)) (upd Y ri.toNatClampNeg (Y si.toNatClampNeg)) (ub G ri.toNatClampNeg (true))) := hD
            refine W.eq (g2 := F0 m 136 ls []) rfl ?_
            refine lv_aload_n hx hb dM_narrow_136 rfl (lv_at hl 2 rfl) ?_
            refine va_get (D := D) (ci := 1) (v := .ref (q 6)) (C := RM) (T := TM) (N := 7) hx hb hts inM hown hK hP 0 rfl rfl 6 (by decide) (hts _ w_261) (fun _ h9 => h9) rfl dM_narrow_137 ?_
            refine lv_iload_n hx hb dM_narrow_140 rfl (lv_at hl 3 rfl) ?_
            refine va_zald hx hb hK hP 6 2 rfl rfl hri dM_narrow_141 ?_
            refine W.eq (g2 := F0 m 142 ls [.int (bi (true))]) (by first | rfl | (rw [ub_s] <;> rfl)) ?_
            have e9_0 : (G si.toNatClampNeg && (decide (Y si.toNatClampNeg = 0) && ga_in (B si.toNatClampNeg) (T si.toNatClampNeg) (A si.toNatClampNeg) (un v))) = true := by (try simp only [decide_eq_true_eq, decide_eq_false_iff_not, Decidable.not_not] at h_1); (try simp only [decide_eq_true_eq, decide_eq_false_iff_not, Decidable.not_not] at h_2); (try simp only [decide_eq_true_eq, decide_eq_false_iff_not, Decidable.not_not] at h_4); (try simp only [decide_eq_true_eq, decide_eq_false_iff_not, Decidable.not_not] at h_5); rw [uw_lt] at h_6; rw [uw_lt] at h_7; simp only [uw, lN_add] at h_8; rw [pk_lLT (by have h91 := un_lt (A si.toNatClampNeg); have h92 := un_lt (B si.toNatClampNeg); have h93 := un_lt (T si.toNatClampNeg); have h94 := un_lt v; omega) (by have h91 := un_lt (A si.toNatClampNeg); have h92 := un_lt (B si.toNatClampNeg); have h93 := un_lt (T si.toNatClampNeg); have h94 := un_lt v; omega)] at h_8; unfold ga_in; simp [h_1, h_2, h_4, h_5] <;> omega
            have hP : va_P D vwCl (mW cJ cI cZ q (0) (upd A ri.toNatClampNeg (A si.toNatClampNeg)) (upd B ri.toNatClampNeg (A si.toNatClampNeg)) (upd T ri.toNatClampNeg ((A si.toNatClampNeg) + (v))) (upd P ri.toNatClampNeg (P si.toNatClampNeg)) (upd Y ri.toNatClampNeg (Y si.toNatClampNeg)) (ub G ri.toNatClampNeg ((G si.toNatClampNeg && (decide (Y si.toNatClampNeg = 0) && ga_in (B si.toNatClampNeg) (T si.toNatClampNeg) (A si.toNatClampNeg) (un v)))))) H := by (try rw [e9_0]); first | exact hP | (simp only [uu_upd, uu_ub] at hP ⊢; exact hP)
            have hD : va_D A9 (mW cJ cI cZ q (0) (upd A ri.toNatClampNeg (A si.toNatClampNeg)) (upd B ri.toNatClampNeg (A si.toNatClampNeg)) (upd T ri.toNatClampNeg ((A si.toNatClampNeg) + (v))) (upd P ri.toNatClampNeg (P si.toNatClampNeg)) (upd Y ri.toNatClampNeg (Y si.toNatClampNeg)) (ub G ri.toNatClampNeg ((G si.toNatClampNeg && (decide (Y si.toNatClampNeg = 0) && ga_in (B si.toNatClampNeg) (T si.toNatClampNeg) (A si.toNatClampNeg) (un v)))))) := by (try rw [e9_0]); first | exact hD | (simp only [uu_upd, uu_ub] at hD ⊢; exact hD)
            refine W.eq (g2 := F0 m 142 ls [.int (bi (G si.toNatClampNeg && (decide (Y si.toNatClampNeg = 0) && ga_in (B si.toNatClampNeg) (T si.toNatClampNeg) (A si.toNatClampNeg) (un v))))]) (by first | rfl | (rw [e9_0] <;> rfl)) ?_
            exact W.zret (v := bi (G si.toNatClampNeg && (decide (Y si.toNatClampNeg = 0) && ga_in (B si.toNatClampNeg) (T si.toNatClampNeg) (A si.toNatClampNeg) (un v)))) hx hb hr (bi_nar _) (fun t9 ht hW => ⟨rfl, by rw [ht]; exact hP, hD, hS.F ht⟩) hS.2.2 dM_narrow_142

set_option maxRecDepth 100000 in
set_option maxHeartbeats 4000000 in
theorem mM_narrow_n (l : Launch) (D : va_G) (cJ cI cZ : ClassId) (q : Nat → Nat) (e0 : Int32) (A B T P Y : Nat → Int32) (G : Nat → Bool) (sz : Nat) (ri si v : Int32) (hbad : ¬ (vp_in ri 16 ∧ vp_in si 16)) : Met l yM_narrow (Cond.code yM_narrow cM_narrow 8 (some .boolean) :: gw) (rmk 2 0 0) (va_Pc [.ref (q 0), .int (ri), .int (si), .int (v)] (kB D vwCl (mW cJ cI cZ q (e0) A B T P Y G) (tsM cJ cI cZ) sz)) (kQ (some (.int (0))) D vwCl (mW cJ cI cZ q (1) A B T P Y G) (va_A (mW cJ cI cZ q (e0) A B T P Y G) sz)) 0 0 (va_A (mW cJ cI cZ q (e0) A B T P Y G) sz) := by
  refine Met.ofW (cc := cM_narrow) (maxL := 8) (ret := (some .boolean)) (by decide) rfl ?_
  intro p e s m args below meth c s₁ B9 hml hv
  obtain ⟨rfl, hsz, hP, hK, hD0⟩ := hv
  have hx := B9.exec
  have hb := B9.bytes
  have hr := B9.returns
  have hts := fun (w : Cond) (h : w ∈ gw) => atoms_spec (ws := _ :: gw) B9.pre w (List.mem_cons_of_mem _ h)
  have hown : s.vm.findClass RM = some m.cls := findClass_of_methodNamed B9.named
  have hlocks := B9.notSynchronized
  have hl := lv_entry ([.ref (q 0), .int (ri), .int (si), .int (v)]) (n := 8) (Nat.le_of_ble_eq_true rfl)
  rw [lg_entry_eq]
  generalize (lg_sl ([.ref (q 0), .int (ri), .int (si), .int (v)]) ++ List.replicate (8 - (lg_sl ([.ref (q 0), .int (ri), .int (si), .int (v)])).length) Slot.unset).toArray = ls at hl ⊢
  have hl : lv_has ls 8 [(0, .ref (q 0)), (1, .int (ri)), (2, .int (si)), (3, .int (v))] := hl
  subst hsz
  have hD := hD0.self (sz := s.heap.size)
  generalize hAe : va_A (mW cJ cI cZ q (e0) A B T P Y G) s.heap.size = A9 at hD ⊢
  have hA : ∀ z : Nat, s.heap.size ≤ z → A9 z := fun z h => by rw [← hAe]; exact Or.inr h
  have hS : va_S A9 s.heap s.heap [] := va_S.rf
  have hP : va_P D vwCl (mW cJ cI cZ q (e0) A B T P Y G) s.heap := hP
  refine lv_aload_n hx hb dM_narrow_0 rfl (lv_at hl 0 rfl) ?_
  refine lv_iconst (v := 0) hx hb dM_narrow_1 (by decide) ?_
  refine va_put (D := D) (ci := 1) (v := .int (0)) (ty := .int) (C := RM) (T := TM) (N := 7) hx hb hts inM tyM tyM_ok nmM hown hK hP hD hS 0 rfl rfl 0 (by decide) (hts _ w_255) (fun _ h9 => h9) rfl (by decide +kernel) rfl rfl (Nat.le_of_ble_eq_true rfl) dM_narrow_2 (fun H locs hP hD hS => ?_)
  have hP : va_P D vwCl (mW cJ cI cZ q (0) A B T P Y G) H := hP
  have hD : va_D A9 (mW cJ cI cZ q (0) A B T P Y G) := hD
  refine lv_aload_n hx hb dM_narrow_5 rfl (lv_at hl 0 rfl) ?_
  refine lv_iload_n hx hb dM_narrow_6 rfl (lv_at hl 1 rfl) ?_
  refine kr_S 1 (As := [.int (ri)]) (rest := [.ref (q 0)]) (r := .int (bi (gi ri))) hx hb hml hown hts hl.1 (mM_is l (ri)) tt_stb trivial (gw_S w_298 w_299 w_15 w_300) (by decide) ⟨rfl, rfl⟩ ⟨Nat.le_of_ble_eq_true rfl, Nat.le_of_ble_eq_true rfl⟩ rfl rfl (Nat.le_of_ble_eq_true rfl) dM_narrow_7 ⟨Nat.zero_le _, Nat.zero_le _⟩ ?_
  refine lv_if_eq (tgt := 20) hx hb dM_narrow_10 (by decide) (fun h_1 => ?_) (fun h_1 => ?_)
  · have h_1 := bi_0 h_1
    refine lv_iconst (v := 1) hx hb dM_narrow_20 (by decide) ?_
    refine lv_goto (tgt := 25) hx hb dM_narrow_21 (by decide) ?_
    refine lv_iconst (v := 1) hx hb dM_narrow_25 (by decide) ?_
    refine kw_V 2 [0, 1, 2, 3, 4, 5, 6] [] (b := q 0) (As := [.int (1), .int (1)]) (rest := []) (wc := mW cJ cI cZ q (0) A B T P Y G) (wr := []) (w1 := mW cJ cI cZ q (1) A B T P Y G) hx hb hml hown hts hl.1 hP hD hS hA hK (mM_fails_t l D cJ cI cZ q 0 A B T P Y G _ 1 (by decide)) (gw_V w_294 w_296 w_8 w_15 w_297) (by decide) ⟨rfl, rfl⟩ ⟨Nat.le_of_ble_eq_true rfl, Nat.le_of_ble_eq_true rfl⟩ (va_recv hK hP (ci := 1) rfl (q0 := 0) rfl) rfl rfl (Nat.le_of_ble_eq_true rfl) dM_narrow_26 ⟨Nat.zero_le _, Nat.zero_le _⟩ rfl rfl ⟨by decide, by decide⟩ (by decide) (fun H locs hP hD hS => ?_)
    have hP : va_P D vwCl (mW cJ cI cZ q (1) A B T P Y G) H := hP
    have hD : va_D A9 (mW cJ cI cZ q (1) A B T P Y G) := hD
    refine W.eq (g2 := F0 m 29 ls [.int (1)]) rfl ?_
    refine lv_if_eq (tgt := 34) hx hb dM_narrow_29 (by decide) (fun h_2 => absurd h_2 (by decide)) (fun h_2 => ?_)
    refine lv_iconst (v := 0) hx hb dM_narrow_32 (by decide) ?_
    exact W.zret (v := 0) hx hb hr rfl (fun t9 ht hW => ⟨rfl, by rw [ht]; exact hP, hD, hS.F ht⟩) hS.2.2 dM_narrow_33
  · have h_1 := bi_n h_1
    refine lv_iload_n hx hb dM_narrow_13 rfl (lv_at hl 2 rfl) ?_
    refine kr_S 1 (As := [.int (si)]) (rest := [.ref (q 0)]) (r := .int (bi (gi si))) hx hb hml hown hts hl.1 (mM_is l (si)) tt_stb trivial (gw_S w_298 w_299 w_15 w_300) (by decide) ⟨rfl, rfl⟩ ⟨Nat.le_of_ble_eq_true rfl, Nat.le_of_ble_eq_true rfl⟩ rfl rfl (Nat.le_of_ble_eq_true rfl) dM_narrow_14 ⟨Nat.zero_le _, Nat.zero_le _⟩ ?_
    refine lv_if_ne (tgt := 24) hx hb dM_narrow_17 (by decide) (fun h_3 => ?_) (fun h_3 => ?_)
    · have h_3 := bi_n h_3
      exact absurd ⟨gi_in.mp h_1, gi_in.mp h_3⟩ hbad
    · have h_3 := bi_0 h_3
      refine lv_iconst (v := 1) hx hb dM_narrow_20 (by decide) ?_
      refine lv_goto (tgt := 25) hx hb dM_narrow_21 (by decide) ?_
      refine lv_iconst (v := 1) hx hb dM_narrow_25 (by decide) ?_
      refine kw_V 2 [0, 1, 2, 3, 4, 5, 6] [] (b := q 0) (As := [.int (1), .int (1)]) (rest := []) (wc := mW cJ cI cZ q (0) A B T P Y G) (wr := []) (w1 := mW cJ cI cZ q (1) A B T P Y G) hx hb hml hown hts hl.1 hP hD hS hA hK (mM_fails_t l D cJ cI cZ q 0 A B T P Y G _ 1 (by decide)) (gw_V w_294 w_296 w_8 w_15 w_297) (by decide) ⟨rfl, rfl⟩ ⟨Nat.le_of_ble_eq_true rfl, Nat.le_of_ble_eq_true rfl⟩ (va_recv hK hP (ci := 1) rfl (q0 := 0) rfl) rfl rfl (Nat.le_of_ble_eq_true rfl) dM_narrow_26 ⟨Nat.zero_le _, Nat.zero_le _⟩ rfl rfl ⟨by decide, by decide⟩ (by decide) (fun H locs hP hD hS => ?_)
      have hP : va_P D vwCl (mW cJ cI cZ q (1) A B T P Y G) H := hP
      have hD : va_D A9 (mW cJ cI cZ q (1) A B T P Y G) := hD
      refine W.eq (g2 := F0 m 29 ls [.int (1)]) rfl ?_
      refine lv_if_eq (tgt := 34) hx hb dM_narrow_29 (by decide) (fun h_4 => absurd h_4 (by decide)) (fun h_4 => ?_)
      refine lv_iconst (v := 0) hx hb dM_narrow_32 (by decide) ?_
      exact W.zret (v := 0) hx hb hr rfl (fun t9 ht hW => ⟨rfl, by rw [ht]; exact hP, hD, hS.F ht⟩) hS.2.2 dM_narrow_33

set_option maxRecDepth 100000 in
set_option maxHeartbeats 4000000 in
theorem mM_within_y (l : Launch) (D : va_G) (cJ cI cZ : ClassId) (q : Nat → Nat) (e0 : Int32) (A B T P Y : Nat → Int32) (G : Nat → Bool) (sz : Nat) (ri si : Int32) (hri : vp_in ri 16) (hsi : vp_in si 16) : Met l yM_within (Cond.code yM_within cM_within 3 (some .boolean) :: gw) (rmk 2 0 0) (va_Pc [.ref (q 0), .int (ri), .int (si)] (kB D vwCl (mW cJ cI cZ q (e0) A B T P Y G) (tsM cJ cI cZ) sz)) (kQ (some (.int (bi (ga_with B T P G ri.toNatClampNeg si.toNatClampNeg)))) D vwCl (mW cJ cI cZ q (0) A B T P Y G) (va_A (mW cJ cI cZ q (e0) A B T P Y G) sz)) 0 0 (va_A (mW cJ cI cZ q (e0) A B T P Y G) sz) := by
  refine Met.ofW (cc := cM_within) (maxL := 3) (ret := (some .boolean)) (by decide) rfl ?_
  intro p e s m args below meth c s₁ B9 hml hv
  obtain ⟨rfl, hsz, hP, hK, hD0⟩ := hv
  have hx := B9.exec
  have hb := B9.bytes
  have hr := B9.returns
  have hts := fun (w : Cond) (h : w ∈ gw) => atoms_spec (ws := _ :: gw) B9.pre w (List.mem_cons_of_mem _ h)
  have hown : s.vm.findClass RM = some m.cls := findClass_of_methodNamed B9.named
  have hlocks := B9.notSynchronized
  have hl := lv_entry ([.ref (q 0), .int (ri), .int (si)]) (n := 3) (Nat.le_of_ble_eq_true rfl)
  rw [lg_entry_eq]
  generalize (lg_sl ([.ref (q 0), .int (ri), .int (si)]) ++ List.replicate (3 - (lg_sl ([.ref (q 0), .int (ri), .int (si)])).length) Slot.unset).toArray = ls at hl ⊢
  have hl : lv_has ls 3 [(0, .ref (q 0)), (1, .int (ri)), (2, .int (si))] := hl
  subst hsz
  have hD := hD0.self (sz := s.heap.size)
  generalize hAe : va_A (mW cJ cI cZ q (e0) A B T P Y G) s.heap.size = A9 at hD ⊢
  have hA : ∀ z : Nat, s.heap.size ≤ z → A9 z := fun z h => by rw [← hAe]; exact Or.inr h
  have hS : va_S A9 s.heap s.heap [] := va_S.rf
  have hP : va_P D vwCl (mW cJ cI cZ q (e0) A B T P Y G) s.heap := hP
  refine lv_aload_n hx hb dM_within_0 rfl (lv_at hl 0 rfl) ?_
  refine lv_iconst (v := 0) hx hb dM_within_1 (by decide) ?_
  refine va_put (D := D) (ci := 1) (v := .int (0)) (ty := .int) (C := RM) (T := TM) (N := 7) hx hb hts inM tyM tyM_ok nmM hown hK hP hD hS 0 rfl rfl 0 (by decide) (hts _ w_255) (fun _ h9 => h9) rfl (by decide +kernel) rfl rfl (Nat.le_of_ble_eq_true rfl) dM_within_2 (fun H locs hP hD hS => ?_)
  have hP : va_P D vwCl (mW cJ cI cZ q (0) A B T P Y G) H := hP
  have hD : va_D A9 (mW cJ cI cZ q (0) A B T P Y G) := hD
  refine lv_aload_n hx hb dM_within_5 rfl (lv_at hl 0 rfl) ?_
  refine lv_iload_n hx hb dM_within_6 rfl (lv_at hl 1 rfl) ?_
  refine kr_S 1 (As := [.int (ri)]) (rest := [.ref (q 0)]) (r := .int (bi (gi ri))) hx hb hml hown hts hl.1 (mM_is l (ri)) tt_stb trivial (gw_S w_298 w_299 w_15 w_300) (by decide) ⟨rfl, rfl⟩ ⟨Nat.le_of_ble_eq_true rfl, Nat.le_of_ble_eq_true rfl⟩ rfl rfl (Nat.le_of_ble_eq_true rfl) dM_within_7 ⟨Nat.zero_le _, Nat.zero_le _⟩ ?_
  refine lv_if_eq (tgt := 20) hx hb dM_within_10 (by decide) (fun h_1 => absurd h_1 (gi_nz hri)) (fun h_1 => ?_)
  have h_1 := bi_n h_1
  refine lv_iload_n hx hb dM_within_13 rfl (lv_at hl 2 rfl) ?_
  refine kr_S 1 (As := [.int (si)]) (rest := [.ref (q 0)]) (r := .int (bi (gi si))) hx hb hml hown hts hl.1 (mM_is l (si)) tt_stb trivial (gw_S w_298 w_299 w_15 w_300) (by decide) ⟨rfl, rfl⟩ ⟨Nat.le_of_ble_eq_true rfl, Nat.le_of_ble_eq_true rfl⟩ rfl rfl (Nat.le_of_ble_eq_true rfl) dM_within_14 ⟨Nat.zero_le _, Nat.zero_le _⟩ ?_
  refine lv_if_ne (tgt := 24) hx hb dM_within_17 (by decide) (fun h_2 => ?_) (fun h_2 => absurd h_2 (gi_nz hsi))
  have h_2 := bi_n h_2
  refine lv_iconst (v := 0) hx hb dM_within_24 (by decide) ?_
  refine lv_iconst (v := 1) hx hb dM_within_25 (by decide) ?_
  refine kw_V 2 [0, 1, 2, 3, 4, 5, 6] [] (b := q 0) (As := [.int (0), .int (1)]) (rest := []) (wc := mW cJ cI cZ q (0) A B T P Y G) (wr := []) (w1 := mW cJ cI cZ q (0) A B T P Y G) hx hb hml hown hts hl.1 hP hD hS hA hK (mM_fails_f l D cJ cI cZ q 0 A B T P Y G _ 1) (gw_V w_294 w_296 w_8 w_15 w_297) (by decide) ⟨rfl, rfl⟩ ⟨Nat.le_of_ble_eq_true rfl, Nat.le_of_ble_eq_true rfl⟩ (va_recv hK hP (ci := 1) rfl (q0 := 0) rfl) rfl rfl (Nat.le_of_ble_eq_true rfl) dM_within_26 ⟨Nat.zero_le _, Nat.zero_le _⟩ rfl rfl ⟨by decide, by decide⟩ (by decide) (fun H locs hP hD hS => ?_)
  have hP : va_P D vwCl (mW cJ cI cZ q (0) A B T P Y G) H := hP
  have hD : va_D A9 (mW cJ cI cZ q (0) A B T P Y G) := hD
  refine W.eq (g2 := F0 m 29 ls [.int (0)]) rfl ?_
  refine lv_if_eq (tgt := 34) hx hb dM_within_29 (by decide) (fun h_3 => ?_) (fun h_3 => absurd (by decide) h_3)
  refine lv_aload_n hx hb dM_within_34 rfl (lv_at hl 0 rfl) ?_
  refine va_get (D := D) (ci := 1) (v := .ref (q 6)) (C := RM) (T := TM) (N := 7) hx hb hts inM hown hK hP 0 rfl rfl 6 (by decide) (hts _ w_261) (fun _ h9 => h9) rfl dM_within_35 ?_
  refine lv_iload_n hx hb dM_within_38 rfl (lv_at hl 1 rfl) ?_
  refine va_zald hx hb hK hP 6 2 rfl rfl hri dM_within_39 ?_
  refine W.eq (g2 := F0 m 40 ls [.int (bi (G ri.toNatClampNeg))]) rfl ?_
  refine lv_if_eq (tgt := 102) hx hb dM_within_40 (by decide) (fun h_4 => ?_) (fun h_4 => ?_)
  · have h_4 := bi_0 h_4
    refine lv_iconst (v := 0) hx hb dM_within_102 (by decide) ?_
    have e9 : (ga_with B T P G ri.toNatClampNeg si.toNatClampNeg) = false := by unfold ga_with; simp [h_1, h_2, h_4]
    refine W.eq (g2 := F0 m 103 ls [.int (bi (ga_with B T P G ri.toNatClampNeg si.toNatClampNeg))]) (by rw [e9]; rfl) ?_
    exact W.zret (v := bi (ga_with B T P G ri.toNatClampNeg si.toNatClampNeg)) hx hb hr (bi_nar _) (fun t9 ht hW => ⟨rfl, by rw [ht]; exact hP, hD, hS.F ht⟩) hS.2.2 dM_within_103
  · have h_4 := bi_n h_4
    refine lv_aload_n hx hb dM_within_43 rfl (lv_at hl 0 rfl) ?_
    refine va_get (D := D) (ci := 1) (v := .ref (q 6)) (C := RM) (T := TM) (N := 7) hx hb hts inM hown hK hP 0 rfl rfl 6 (by decide) (hts _ w_261) (fun _ h9 => h9) rfl dM_within_44 ?_
    refine lv_iload_n hx hb dM_within_47 rfl (lv_at hl 2 rfl) ?_
    refine va_zald hx hb hK hP 6 2 rfl rfl hsi dM_within_48 ?_
    refine W.eq (g2 := F0 m 49 ls [.int (bi (G si.toNatClampNeg))]) rfl ?_
    refine lv_if_eq (tgt := 102) hx hb dM_within_49 (by decide) (fun h_5 => ?_) (fun h_5 => ?_)
    · have h_5 := bi_0 h_5
      refine lv_iconst (v := 0) hx hb dM_within_102 (by decide) ?_
      have e9 : (ga_with B T P G ri.toNatClampNeg si.toNatClampNeg) = false := by unfold ga_with; simp [h_1, h_2, h_4, h_5]
      refine W.eq (g2 := F0 m 103 ls [.int (bi (ga_with B T P G ri.toNatClampNeg si.toNatClampNeg))]) (by rw [e9]; rfl) ?_
      exact W.zret (v := bi (ga_with B T P G ri.toNatClampNeg si.toNatClampNeg)) hx hb hr (bi_nar _) (fun t9 ht hW => ⟨rfl, by rw [ht]; exact hP, hD, hS.F ht⟩) hS.2.2 dM_within_103
    · have h_5 := bi_n h_5
      refine lv_aload_n hx hb dM_within_52 rfl (lv_at hl 0 rfl) ?_
      refine va_get (D := D) (ci := 1) (v := .ref (q 2)) (C := RM) (T := TM) (N := 7) hx hb hts inM hown hK hP 0 rfl rfl 2 (by decide) (hts _ w_257) (fun _ h9 => h9) rfl dM_within_53 ?_
      refine lv_iload_n hx hb dM_within_56 rfl (lv_at hl 1 rfl) ?_
      refine va_lald hx hb hK hP 2 0 rfl rfl hri dM_within_57 ?_
      refine W.eq (g2 := F0 m 58 ls [.long (uw (B ri.toNatClampNeg))]) rfl ?_
      refine lv_aload_n hx hb dM_within_58 rfl (lv_at hl 0 rfl) ?_
      refine va_get (D := D) (ci := 1) (v := .ref (q 2)) (C := RM) (T := TM) (N := 7) hx hb hts inM hown hK hP 0 rfl rfl 2 (by decide) (hts _ w_257) (fun _ h9 => h9) rfl dM_within_59 ?_
      refine lv_iload_n hx hb dM_within_62 rfl (lv_at hl 2 rfl) ?_
      refine va_lald hx hb hK hP 2 0 rfl rfl hsi dM_within_63 ?_
      refine W.eq (g2 := F0 m 64 ls [.long (uw (B si.toNatClampNeg)), .long (uw (B ri.toNatClampNeg))]) rfl ?_
      refine W.lcmp hx hb dM_within_64 ?_
      refine lv_if_lt (tgt := 102) hx hb dM_within_65 (by decide) (fun h_6 => ?_) (fun h_6 => ?_)
      · rw [lg_cmp_lt] at h_6
        refine lv_iconst (v := 0) hx hb dM_within_102 (by decide) ?_
        have e9 : (ga_with B T P G ri.toNatClampNeg si.toNatClampNeg) = false := by unfold ga_with; rw [uw_lt] at h_6; have h_6 := Nat.not_le.mpr h_6; simp [h_1, h_2, h_4, h_5, h_6]
        refine W.eq (g2 := F0 m 103 ls [.int (bi (ga_with B T P G ri.toNatClampNeg si.toNatClampNeg))]) (by rw [e9]; rfl) ?_
        exact W.zret (v := bi (ga_with B T P G ri.toNatClampNeg si.toNatClampNeg)) hx hb hr (bi_nar _) (fun t9 ht hW => ⟨rfl, by rw [ht]; exact hP, hD, hS.F ht⟩) hS.2.2 dM_within_103
      · rw [lg_cmp_lt] at h_6
        refine lv_aload_n hx hb dM_within_68 rfl (lv_at hl 0 rfl) ?_
        refine va_get (D := D) (ci := 1) (v := .ref (q 3)) (C := RM) (T := TM) (N := 7) hx hb hts inM hown hK hP 0 rfl rfl 3 (by decide) (hts _ w_258) (fun _ h9 => h9) rfl dM_within_69 ?_
        refine lv_iload_n hx hb dM_within_72 rfl (lv_at hl 1 rfl) ?_
        refine va_lald hx hb hK hP 3 0 rfl rfl hri dM_within_73 ?_
        refine W.eq (g2 := F0 m 74 ls [.long (uw (T ri.toNatClampNeg))]) rfl ?_
        refine lv_aload_n hx hb dM_within_74 rfl (lv_at hl 0 rfl) ?_
        refine va_get (D := D) (ci := 1) (v := .ref (q 3)) (C := RM) (T := TM) (N := 7) hx hb hts inM hown hK hP 0 rfl rfl 3 (by decide) (hts _ w_258) (fun _ h9 => h9) rfl dM_within_75 ?_
        refine lv_iload_n hx hb dM_within_78 rfl (lv_at hl 2 rfl) ?_
        refine va_lald hx hb hK hP 3 0 rfl rfl hsi dM_within_79 ?_
        refine W.eq (g2 := F0 m 80 ls [.long (uw (T si.toNatClampNeg)), .long (uw (T ri.toNatClampNeg))]) rfl ?_
        refine W.lcmp hx hb dM_within_80 ?_
        refine lv_if_gt (tgt := 102) hx hb dM_within_81 (by decide) (fun h_7 => ?_) (fun h_7 => ?_)
        · rw [lg_cmp_gt] at h_7
          refine lv_iconst (v := 0) hx hb dM_within_102 (by decide) ?_
          have e9 : (ga_with B T P G ri.toNatClampNeg si.toNatClampNeg) = false := by unfold ga_with; rw [uw_lt] at h_6; have h_6 := Nat.not_lt.mp h_6; rw [uw_lt] at h_7; have h_7 := Nat.not_le.mpr h_7; simp [h_1, h_2, h_4, h_5, h_6, h_7]
          refine W.eq (g2 := F0 m 103 ls [.int (bi (ga_with B T P G ri.toNatClampNeg si.toNatClampNeg))]) (by rw [e9]; rfl) ?_
          exact W.zret (v := bi (ga_with B T P G ri.toNatClampNeg si.toNatClampNeg)) hx hb hr (bi_nar _) (fun t9 ht hW => ⟨rfl, by rw [ht]; exact hP, hD, hS.F ht⟩) hS.2.2 dM_within_103
        · rw [lg_cmp_gt] at h_7
          refine lv_aload_n hx hb dM_within_84 rfl (lv_at hl 0 rfl) ?_
          refine lv_iload_n hx hb dM_within_85 rfl (lv_at hl 2 rfl) ?_
          refine lv_aload_n hx hb dM_within_86 rfl (lv_at hl 0 rfl) ?_
          refine va_get (D := D) (ci := 1) (v := .ref (q 4)) (C := RM) (T := TM) (N := 7) hx hb hts inM hown hK hP 0 rfl rfl 4 (by decide) (hts _ w_259) (fun _ h9 => h9) rfl dM_within_87 ?_
          refine lv_iload_n hx hb dM_within_90 rfl (lv_at hl 1 rfl) ?_
          refine va_iald hx hb hK hP 4 1 rfl rfl hri dM_within_91 ?_
          refine kr_V 2 (b := q 0) (As := [.int (si), .int (P ri.toNatClampNeg)]) (rest := []) (r := .int (bi (ga_pm (P ri.toNatClampNeg) (P si.toNatClampNeg)))) hx hb hml hown hts hl.1 (mM_may l D cJ cI cZ q (0) A B T P Y G (si) (P ri.toNatClampNeg) hsi) rB_stb ⟨hP, hK⟩ (gw_V w_330 w_332 w_11 w_15 w_333) (by decide) ⟨rfl, rfl⟩ ⟨Nat.le_of_ble_eq_true rfl, Nat.le_of_ble_eq_true rfl⟩ (va_recv hK hP (ci := 1) rfl (q0 := 0) rfl) rfl rfl (Nat.le_of_ble_eq_true rfl) dM_within_92 ⟨Nat.zero_le _, Nat.zero_le _⟩ ?_
          refine lv_if_eq (tgt := 102) hx hb dM_within_95 (by decide) (fun h_8 => ?_) (fun h_8 => ?_)
          · have h_8 := bi_0 h_8
            refine lv_iconst (v := 0) hx hb dM_within_102 (by decide) ?_
            have e9 : (ga_with B T P G ri.toNatClampNeg si.toNatClampNeg) = false := by unfold ga_with; rw [uw_lt] at h_6; have h_6 := Nat.not_lt.mp h_6; rw [uw_lt] at h_7; have h_7 := Nat.not_lt.mp h_7; simp [h_1, h_2, h_4, h_5, h_6, h_7, h_8]
            refine W.eq (g2 := F0 m 103 ls [.int (bi (ga_with B T P G ri.toNatClampNeg si.toNatClampNeg))]) (by rw [e9]; rfl) ?_
            exact W.zret (v := bi (ga_with B T P G ri.toNatClampNeg si.toNatClampNeg)) hx hb hr (bi_nar _) (fun t9 ht hW => ⟨rfl, by rw [ht]; exact hP, hD, hS.F ht⟩) hS.2.2 dM_within_103
          · have h_8 := bi_n h_8
            refine lv_iconst (v := 1) hx hb dM_within_98 (by decide) ?_
            refine lv_goto (tgt := 103) hx hb dM_within_99 (by decide) ?_
            have e9 : (ga_with B T P G ri.toNatClampNeg si.toNatClampNeg) = true := by unfold ga_with; rw [uw_lt] at h_6; have h_6 := Nat.not_lt.mp h_6; rw [uw_lt] at h_7; have h_7 := Nat.not_lt.mp h_7; simp [h_1, h_2, h_4, h_5, h_6, h_7, h_8]
            refine W.eq (g2 := F0 m 103 ls [.int (bi (ga_with B T P G ri.toNatClampNeg si.toNatClampNeg))]) (by rw [e9]; rfl) ?_
            exact W.zret (v := bi (ga_with B T P G ri.toNatClampNeg si.toNatClampNeg)) hx hb hr (bi_nar _) (fun t9 ht hW => ⟨rfl, by rw [ht]; exact hP, hD, hS.F ht⟩) hS.2.2 dM_within_103

set_option maxRecDepth 100000 in
set_option maxHeartbeats 4000000 in
theorem mM_within_n (l : Launch) (D : va_G) (cJ cI cZ : ClassId) (q : Nat → Nat) (e0 : Int32) (A B T P Y : Nat → Int32) (G : Nat → Bool) (sz : Nat) (ri si : Int32) (hbad : ¬ (vp_in ri 16 ∧ vp_in si 16)) : Met l yM_within (Cond.code yM_within cM_within 3 (some .boolean) :: gw) (rmk 2 0 0) (va_Pc [.ref (q 0), .int (ri), .int (si)] (kB D vwCl (mW cJ cI cZ q (e0) A B T P Y G) (tsM cJ cI cZ) sz)) (kQ (some (.int (0))) D vwCl (mW cJ cI cZ q (1) A B T P Y G) (va_A (mW cJ cI cZ q (e0) A B T P Y G) sz)) 0 0 (va_A (mW cJ cI cZ q (e0) A B T P Y G) sz) := by
  refine Met.ofW (cc := cM_within) (maxL := 3) (ret := (some .boolean)) (by decide) rfl ?_
  intro p e s m args below meth c s₁ B9 hml hv
  obtain ⟨rfl, hsz, hP, hK, hD0⟩ := hv
  have hx := B9.exec
  have hb := B9.bytes
  have hr := B9.returns
  have hts := fun (w : Cond) (h : w ∈ gw) => atoms_spec (ws := _ :: gw) B9.pre w (List.mem_cons_of_mem _ h)
  have hown : s.vm.findClass RM = some m.cls := findClass_of_methodNamed B9.named
  have hlocks := B9.notSynchronized
  have hl := lv_entry ([.ref (q 0), .int (ri), .int (si)]) (n := 3) (Nat.le_of_ble_eq_true rfl)
  rw [lg_entry_eq]
  generalize (lg_sl ([.ref (q 0), .int (ri), .int (si)]) ++ List.replicate (3 - (lg_sl ([.ref (q 0), .int (ri), .int (si)])).length) Slot.unset).toArray = ls at hl ⊢
  have hl : lv_has ls 3 [(0, .ref (q 0)), (1, .int (ri)), (2, .int (si))] := hl
  subst hsz
  have hD := hD0.self (sz := s.heap.size)
  generalize hAe : va_A (mW cJ cI cZ q (e0) A B T P Y G) s.heap.size = A9 at hD ⊢
  have hA : ∀ z : Nat, s.heap.size ≤ z → A9 z := fun z h => by rw [← hAe]; exact Or.inr h
  have hS : va_S A9 s.heap s.heap [] := va_S.rf
  have hP : va_P D vwCl (mW cJ cI cZ q (e0) A B T P Y G) s.heap := hP
  refine lv_aload_n hx hb dM_within_0 rfl (lv_at hl 0 rfl) ?_
  refine lv_iconst (v := 0) hx hb dM_within_1 (by decide) ?_
  refine va_put (D := D) (ci := 1) (v := .int (0)) (ty := .int) (C := RM) (T := TM) (N := 7) hx hb hts inM tyM tyM_ok nmM hown hK hP hD hS 0 rfl rfl 0 (by decide) (hts _ w_255) (fun _ h9 => h9) rfl (by decide +kernel) rfl rfl (Nat.le_of_ble_eq_true rfl) dM_within_2 (fun H locs hP hD hS => ?_)
  have hP : va_P D vwCl (mW cJ cI cZ q (0) A B T P Y G) H := hP
  have hD : va_D A9 (mW cJ cI cZ q (0) A B T P Y G) := hD
  refine lv_aload_n hx hb dM_within_5 rfl (lv_at hl 0 rfl) ?_
  refine lv_iload_n hx hb dM_within_6 rfl (lv_at hl 1 rfl) ?_
  refine kr_S 1 (As := [.int (ri)]) (rest := [.ref (q 0)]) (r := .int (bi (gi ri))) hx hb hml hown hts hl.1 (mM_is l (ri)) tt_stb trivial (gw_S w_298 w_299 w_15 w_300) (by decide) ⟨rfl, rfl⟩ ⟨Nat.le_of_ble_eq_true rfl, Nat.le_of_ble_eq_true rfl⟩ rfl rfl (Nat.le_of_ble_eq_true rfl) dM_within_7 ⟨Nat.zero_le _, Nat.zero_le _⟩ ?_
  refine lv_if_eq (tgt := 20) hx hb dM_within_10 (by decide) (fun h_1 => ?_) (fun h_1 => ?_)
  · have h_1 := bi_0 h_1
    refine lv_iconst (v := 1) hx hb dM_within_20 (by decide) ?_
    refine lv_goto (tgt := 25) hx hb dM_within_21 (by decide) ?_
    refine lv_iconst (v := 1) hx hb dM_within_25 (by decide) ?_
    refine kw_V 2 [0, 1, 2, 3, 4, 5, 6] [] (b := q 0) (As := [.int (1), .int (1)]) (rest := []) (wc := mW cJ cI cZ q (0) A B T P Y G) (wr := []) (w1 := mW cJ cI cZ q (1) A B T P Y G) hx hb hml hown hts hl.1 hP hD hS hA hK (mM_fails_t l D cJ cI cZ q 0 A B T P Y G _ 1 (by decide)) (gw_V w_294 w_296 w_8 w_15 w_297) (by decide) ⟨rfl, rfl⟩ ⟨Nat.le_of_ble_eq_true rfl, Nat.le_of_ble_eq_true rfl⟩ (va_recv hK hP (ci := 1) rfl (q0 := 0) rfl) rfl rfl (Nat.le_of_ble_eq_true rfl) dM_within_26 ⟨Nat.zero_le _, Nat.zero_le _⟩ rfl rfl ⟨by decide, by decide⟩ (by decide) (fun H locs hP hD hS => ?_)
    have hP : va_P D vwCl (mW cJ cI cZ q (1) A B T P Y G) H := hP
    have hD : va_D A9 (mW cJ cI cZ q (1) A B T P Y G) := hD
    refine W.eq (g2 := F0 m 29 ls [.int (1)]) rfl ?_
    refine lv_if_eq (tgt := 34) hx hb dM_within_29 (by decide) (fun h_2 => absurd h_2 (by decide)) (fun h_2 => ?_)
    refine lv_iconst (v := 0) hx hb dM_within_32 (by decide) ?_
    exact W.zret (v := 0) hx hb hr rfl (fun t9 ht hW => ⟨rfl, by rw [ht]; exact hP, hD, hS.F ht⟩) hS.2.2 dM_within_33
  · have h_1 := bi_n h_1
    refine lv_iload_n hx hb dM_within_13 rfl (lv_at hl 2 rfl) ?_
    refine kr_S 1 (As := [.int (si)]) (rest := [.ref (q 0)]) (r := .int (bi (gi si))) hx hb hml hown hts hl.1 (mM_is l (si)) tt_stb trivial (gw_S w_298 w_299 w_15 w_300) (by decide) ⟨rfl, rfl⟩ ⟨Nat.le_of_ble_eq_true rfl, Nat.le_of_ble_eq_true rfl⟩ rfl rfl (Nat.le_of_ble_eq_true rfl) dM_within_14 ⟨Nat.zero_le _, Nat.zero_le _⟩ ?_
    refine lv_if_ne (tgt := 24) hx hb dM_within_17 (by decide) (fun h_3 => ?_) (fun h_3 => ?_)
    · have h_3 := bi_n h_3
      exact absurd ⟨gi_in.mp h_1, gi_in.mp h_3⟩ hbad
    · have h_3 := bi_0 h_3
      refine lv_iconst (v := 1) hx hb dM_within_20 (by decide) ?_
      refine lv_goto (tgt := 25) hx hb dM_within_21 (by decide) ?_
      refine lv_iconst (v := 1) hx hb dM_within_25 (by decide) ?_
      refine kw_V 2 [0, 1, 2, 3, 4, 5, 6] [] (b := q 0) (As := [.int (1), .int (1)]) (rest := []) (wc := mW cJ cI cZ q (0) A B T P Y G) (wr := []) (w1 := mW cJ cI cZ q (1) A B T P Y G) hx hb hml hown hts hl.1 hP hD hS hA hK (mM_fails_t l D cJ cI cZ q 0 A B T P Y G _ 1 (by decide)) (gw_V w_294 w_296 w_8 w_15 w_297) (by decide) ⟨rfl, rfl⟩ ⟨Nat.le_of_ble_eq_true rfl, Nat.le_of_ble_eq_true rfl⟩ (va_recv hK hP (ci := 1) rfl (q0 := 0) rfl) rfl rfl (Nat.le_of_ble_eq_true rfl) dM_within_26 ⟨Nat.zero_le _, Nat.zero_le _⟩ rfl rfl ⟨by decide, by decide⟩ (by decide) (fun H locs hP hD hS => ?_)
      have hP : va_P D vwCl (mW cJ cI cZ q (1) A B T P Y G) H := hP
      have hD : va_D A9 (mW cJ cI cZ q (1) A B T P Y G) := hD
      refine W.eq (g2 := F0 m 29 ls [.int (1)]) rfl ?_
      refine lv_if_eq (tgt := 34) hx hb dM_within_29 (by decide) (fun h_4 => absurd h_4 (by decide)) (fun h_4 => ?_)
      refine lv_iconst (v := 0) hx hb dM_within_32 (by decide) ?_
      exact W.zret (v := 0) hx hb hr rfl (fun t9 ht hW => ⟨rfl, by rw [ht]; exact hP, hD, hS.F ht⟩) hS.2.2 dM_within_33

set_option maxRecDepth 100000 in
set_option maxHeartbeats 4000000 in
theorem mM_part_y (l : Launch) (D : va_G) (cJ cI cZ : ClassId) (q : Nat → Nat) (e0 : Int32) (A B T P Y : Nat → Int32) (G : Nat → Bool) (sz : Nat) (ri v : Int32) (hri : vp_in ri 16) (hv0 : ¬ v < 0) (hv : v ≤ 5) : Met l yM_part (Cond.code yM_part cM_part 3 (some .int) :: gw) (rmk 2 0 0) (va_Pc [.ref (q 0), .int (ri), .int (v)] (kB D vwCl (mW cJ cI cZ q (e0) A B T P Y G) (tsM cJ cI cZ) sz)) (kQ (some (.int (ga_part A B T P Y G ri.toNatClampNeg v))) D vwCl (mW cJ cI cZ q (0) A B T P Y G) (va_A (mW cJ cI cZ q (e0) A B T P Y G) sz)) 0 0 (va_A (mW cJ cI cZ q (e0) A B T P Y G) sz) := by
  refine Met.ofW (cc := cM_part) (maxL := 3) (ret := (some .int)) (by decide) rfl ?_
  intro p e s m args below meth c s₁ B9 hml hv
  obtain ⟨rfl, hsz, hP, hK, hD0⟩ := hv
  have hx := B9.exec
  have hb := B9.bytes
  have hr := B9.returns
  have hts := fun (w : Cond) (h : w ∈ gw) => atoms_spec (ws := _ :: gw) B9.pre w (List.mem_cons_of_mem _ h)
  have hown : s.vm.findClass RM = some m.cls := findClass_of_methodNamed B9.named
  have hlocks := B9.notSynchronized
  have hl := lv_entry ([.ref (q 0), .int (ri), .int (v)]) (n := 3) (Nat.le_of_ble_eq_true rfl)
  rw [lg_entry_eq]
  generalize (lg_sl ([.ref (q 0), .int (ri), .int (v)]) ++ List.replicate (3 - (lg_sl ([.ref (q 0), .int (ri), .int (v)])).length) Slot.unset).toArray = ls at hl ⊢
  have hl : lv_has ls 3 [(0, .ref (q 0)), (1, .int (ri)), (2, .int (v))] := hl
  subst hsz
  have hD := hD0.self (sz := s.heap.size)
  generalize hAe : va_A (mW cJ cI cZ q (e0) A B T P Y G) s.heap.size = A9 at hD ⊢
  have hA : ∀ z : Nat, s.heap.size ≤ z → A9 z := fun z h => by rw [← hAe]; exact Or.inr h
  have hS : va_S A9 s.heap s.heap [] := va_S.rf
  have hP : va_P D vwCl (mW cJ cI cZ q (e0) A B T P Y G) s.heap := hP
  refine lv_aload_n hx hb dM_part_0 rfl (lv_at hl 0 rfl) ?_
  refine lv_iconst (v := 0) hx hb dM_part_1 (by decide) ?_
  refine va_put (D := D) (ci := 1) (v := .int (0)) (ty := .int) (C := RM) (T := TM) (N := 7) hx hb hts inM tyM tyM_ok nmM hown hK hP hD hS 0 rfl rfl 0 (by decide) (hts _ w_255) (fun _ h9 => h9) rfl (by decide +kernel) rfl rfl (Nat.le_of_ble_eq_true rfl) dM_part_2 (fun H locs hP hD hS => ?_)
  have hP : va_P D vwCl (mW cJ cI cZ q (0) A B T P Y G) H := hP
  have hD : va_D A9 (mW cJ cI cZ q (0) A B T P Y G) := hD
  refine lv_aload_n hx hb dM_part_5 rfl (lv_at hl 0 rfl) ?_
  refine lv_iload_n hx hb dM_part_6 rfl (lv_at hl 2 rfl) ?_
  refine lv_i2l (v := (v).toInt64) hx hb dM_part_7 rfl ?_
  refine lv_lconst (v := 0) hx hb dM_part_8 (by decide) ?_
  refine lv_ldc2 (v := 5) hx hb hown (hts _ w_356) dM_part_9 ?_
  refine kr_S 3 (As := [.long ((v).toInt64), .long (0), .long (5)]) (rest := [.ref (q 0)]) (r := .int (bi (decide ((0) ≤ ((v).toInt64)) && decide (((v).toInt64) ≤ (5))))) hx hb hml hown hts hl.1 (mM_in l ((v).toInt64) (0) (5)) tt_stb trivial (gw_S w_291 w_292 w_15 w_293) (by decide) ⟨rfl, rfl⟩ ⟨Nat.le_of_ble_eq_true rfl, Nat.le_of_ble_eq_true rfl⟩ rfl rfl (Nat.le_of_ble_eq_true rfl) dM_part_12 ⟨Nat.zero_le _, Nat.zero_le _⟩ ?_
  refine lv_if_ne (tgt := 22) hx hb dM_part_15 (by decide) (fun h_1 => ?_) (fun h_1 => absurd h_1 (gp_nz (c := 5) (by decide) hv0 hv))
  have h_1 := bi_n h_1
  refine lv_iconst (v := 0) hx hb dM_part_22 (by decide) ?_
  refine lv_iconst (v := 1) hx hb dM_part_23 (by decide) ?_
  refine kw_V 2 [0, 1, 2, 3, 4, 5, 6] [] (b := q 0) (As := [.int (0), .int (1)]) (rest := []) (wc := mW cJ cI cZ q (0) A B T P Y G) (wr := []) (w1 := mW cJ cI cZ q (0) A B T P Y G) hx hb hml hown hts hl.1 hP hD hS hA hK (mM_fails_f l D cJ cI cZ q 0 A B T P Y G _ 1) (gw_V w_294 w_296 w_8 w_15 w_297) (by decide) ⟨rfl, rfl⟩ ⟨Nat.le_of_ble_eq_true rfl, Nat.le_of_ble_eq_true rfl⟩ (va_recv hK hP (ci := 1) rfl (q0 := 0) rfl) rfl rfl (Nat.le_of_ble_eq_true rfl) dM_part_24 ⟨Nat.zero_le _, Nat.zero_le _⟩ rfl rfl ⟨by decide, by decide⟩ (by decide) (fun H locs hP hD hS => ?_)
  have hP : va_P D vwCl (mW cJ cI cZ q (0) A B T P Y G) H := hP
  have hD : va_D A9 (mW cJ cI cZ q (0) A B T P Y G) := hD
  refine W.eq (g2 := F0 m 27 ls [.int (0)]) rfl ?_
  refine lv_if_ne (tgt := 50) hx hb dM_part_27 (by decide) (fun h_2 => absurd (by decide) h_2) (fun h_2 => ?_)
  refine lv_aload_n hx hb dM_part_30 rfl (lv_at hl 0 rfl) ?_
  refine lv_iload_n hx hb dM_part_31 rfl (lv_at hl 1 rfl) ?_
  refine kr_S 1 (As := [.int (ri)]) (rest := [.ref (q 0)]) (r := .int (bi (gi ri))) hx hb hml hown hts hl.1 (mM_is l (ri)) tt_stb trivial (gw_S w_298 w_299 w_15 w_300) (by decide) ⟨rfl, rfl⟩ ⟨Nat.le_of_ble_eq_true rfl, Nat.le_of_ble_eq_true rfl⟩ rfl rfl (Nat.le_of_ble_eq_true rfl) dM_part_32 ⟨Nat.zero_le _, Nat.zero_le _⟩ ?_
  refine lv_if_ne (tgt := 42) hx hb dM_part_35 (by decide) (fun h_3 => ?_) (fun h_3 => absurd h_3 (gi_nz hri))
  have h_3 := bi_n h_3
  refine lv_iconst (v := 0) hx hb dM_part_42 (by decide) ?_
  refine lv_iconst (v := 2) hx hb dM_part_43 (by decide) ?_
  refine kw_V 2 [0, 1, 2, 3, 4, 5, 6] [] (b := q 0) (As := [.int (0), .int (2)]) (rest := []) (wc := mW cJ cI cZ q (0) A B T P Y G) (wr := []) (w1 := mW cJ cI cZ q (0) A B T P Y G) hx hb hml hown hts hl.1 hP hD hS hA hK (mM_fails_f l D cJ cI cZ q 0 A B T P Y G _ 2) (gw_V w_294 w_296 w_8 w_15 w_297) (by decide) ⟨rfl, rfl⟩ ⟨Nat.le_of_ble_eq_true rfl, Nat.le_of_ble_eq_true rfl⟩ (va_recv hK hP (ci := 1) rfl (q0 := 0) rfl) rfl rfl (Nat.le_of_ble_eq_true rfl) dM_part_44 ⟨Nat.zero_le _, Nat.zero_le _⟩ rfl rfl ⟨by decide, by decide⟩ (by decide) (fun H locs hP hD hS => ?_)
  have hP : va_P D vwCl (mW cJ cI cZ q (0) A B T P Y G) H := hP
  have hD : va_D A9 (mW cJ cI cZ q (0) A B T P Y G) := hD
  refine W.eq (g2 := F0 m 47 ls [.int (0)]) rfl ?_
  refine lv_if_eq (tgt := 52) hx hb dM_part_47 (by decide) (fun h_4 => ?_) (fun h_4 => absurd (by decide) h_4)
  refine lv_iload_n hx hb dM_part_52 rfl (lv_at hl 2 rfl) ?_
  refine lv_if_ne (tgt := 66) hx hb dM_part_53 (by decide) (fun h_5 => ?_) (fun h_5 => ?_)
  · 
    refine lv_iload_n hx hb dM_part_66 rfl (lv_at hl 2 rfl) ?_
    refine lv_iconst (v := 1) hx hb dM_part_67 (by decide) ?_
    refine lv_icmp_ne (tgt := 81) hx hb dM_part_68 (by decide) (fun h_6 => ?_) (fun h_6 => ?_)
    · 
      refine lv_iload_n hx hb dM_part_81 rfl (lv_at hl 2 rfl) ?_
      refine lv_iconst (v := 2) hx hb dM_part_82 (by decide) ?_
      refine lv_icmp_ne (tgt := 96) hx hb dM_part_83 (by decide) (fun h_7 => ?_) (fun h_7 => ?_)
      · 
        refine lv_iload_n hx hb dM_part_96 rfl (lv_at hl 2 rfl) ?_
        refine lv_iconst (v := 3) hx hb dM_part_97 (by decide) ?_
        refine lv_icmp_ne (tgt := 110) hx hb dM_part_98 (by decide) (fun h_8 => ?_) (fun h_8 => ?_)
        · 
          refine lv_iload_n hx hb dM_part_110 rfl (lv_at hl 2 rfl) ?_
          refine lv_iconst (v := 4) hx hb dM_part_111 (by decide) ?_
          refine lv_icmp_ne (tgt := 124) hx hb dM_part_112 (by decide) (fun h_9 => ?_) (fun h_9 => ?_)
          · 
            refine lv_aload_n hx hb dM_part_124 rfl (lv_at hl 0 rfl) ?_
            refine va_get (D := D) (ci := 1) (v := .ref (q 6)) (C := RM) (T := TM) (N := 7) hx hb hts inM hown hK hP 0 rfl rfl 6 (by decide) (hts _ w_261) (fun _ h9 => h9) rfl dM_part_125 ?_
            refine lv_iload_n hx hb dM_part_128 rfl (lv_at hl 1 rfl) ?_
            refine va_zald hx hb hK hP 6 2 rfl rfl hri dM_part_129 ?_
            refine W.eq (g2 := F0 m 130 ls [.int (bi (G ri.toNatClampNeg))]) rfl ?_
            refine lv_if_eq (tgt := 137) hx hb dM_part_130 (by decide) (fun h_10 => ?_) (fun h_10 => ?_)
            · have h_10 := bi_0 h_10
              refine lv_iconst (v := 0) hx hb dM_part_137 (by decide) ?_
              have e9 : (ga_part A B T P Y G ri.toNatClampNeg v) = 0 := by unfold ga_part; rw [if_neg h_5, if_neg h_6, if_neg h_7, if_neg h_8, if_neg h_9]; rw [show G ri.toNatClampNeg = false from h_10]; rfl
              refine W.eq (g2 := F0 m 138 ls [.int (ga_part A B T P Y G ri.toNatClampNeg v)]) (by rw [e9] <;> rfl) ?_
              exact W.iret (v := ga_part A B T P Y G ri.toNatClampNeg v) hx hb hr (fun t9 ht hW => ⟨rfl, by rw [ht]; exact hP, hD, hS.F ht⟩) hS.2.2 dM_part_138
            · have h_10 := bi_n h_10
              refine lv_iconst (v := 1) hx hb dM_part_133 (by decide) ?_
              refine lv_goto (tgt := 138) hx hb dM_part_134 (by decide) ?_
              have e9 : (ga_part A B T P Y G ri.toNatClampNeg v) = 1 := by unfold ga_part; rw [if_neg h_5, if_neg h_6, if_neg h_7, if_neg h_8, if_neg h_9]; rw [show G ri.toNatClampNeg = true from h_10]; rfl
              refine W.eq (g2 := F0 m 138 ls [.int (ga_part A B T P Y G ri.toNatClampNeg v)]) (by rw [e9] <;> rfl) ?_
              exact W.iret (v := ga_part A B T P Y G ri.toNatClampNeg v) hx hb hr (fun t9 ht hW => ⟨rfl, by rw [ht]; exact hP, hD, hS.F ht⟩) hS.2.2 dM_part_138
          · 
            refine lv_aload_n hx hb dM_part_115 rfl (lv_at hl 0 rfl) ?_
            refine va_get (D := D) (ci := 1) (v := .ref (q 5)) (C := RM) (T := TM) (N := 7) hx hb hts inM hown hK hP 0 rfl rfl 5 (by decide) (hts _ w_260) (fun _ h9 => h9) rfl dM_part_116 ?_
            refine lv_iload_n hx hb dM_part_119 rfl (lv_at hl 1 rfl) ?_
            refine va_iald hx hb hK hP 5 1 rfl rfl hri dM_part_120 ?_
            refine lv_goto (tgt := 138) hx hb dM_part_121 (by decide) ?_
            have e9 : (ga_part A B T P Y G ri.toNatClampNeg v) = Y ri.toNatClampNeg := by unfold ga_part; rw [if_neg h_5, if_neg h_6, if_neg h_7, if_neg h_8, if_pos h_9]
            refine W.eq (g2 := F0 m 138 ls [.int (ga_part A B T P Y G ri.toNatClampNeg v)]) (by rw [e9] <;> rfl) ?_
            exact W.iret (v := ga_part A B T P Y G ri.toNatClampNeg v) hx hb hr (fun t9 ht hW => ⟨rfl, by rw [ht]; exact hP, hD, hS.F ht⟩) hS.2.2 dM_part_138
        · 
          refine lv_aload_n hx hb dM_part_101 rfl (lv_at hl 0 rfl) ?_
          refine va_get (D := D) (ci := 1) (v := .ref (q 4)) (C := RM) (T := TM) (N := 7) hx hb hts inM hown hK hP 0 rfl rfl 4 (by decide) (hts _ w_259) (fun _ h9 => h9) rfl dM_part_102 ?_
          refine lv_iload_n hx hb dM_part_105 rfl (lv_at hl 1 rfl) ?_
          refine va_iald hx hb hK hP 4 1 rfl rfl hri dM_part_106 ?_
          refine lv_goto (tgt := 138) hx hb dM_part_107 (by decide) ?_
          have e9 : (ga_part A B T P Y G ri.toNatClampNeg v) = P ri.toNatClampNeg := by unfold ga_part; rw [if_neg h_5, if_neg h_6, if_neg h_7, if_pos h_8]
          refine W.eq (g2 := F0 m 138 ls [.int (ga_part A B T P Y G ri.toNatClampNeg v)]) (by rw [e9] <;> rfl) ?_
          exact W.iret (v := ga_part A B T P Y G ri.toNatClampNeg v) hx hb hr (fun t9 ht hW => ⟨rfl, by rw [ht]; exact hP, hD, hS.F ht⟩) hS.2.2 dM_part_138
      · 
        refine lv_aload_n hx hb dM_part_86 rfl (lv_at hl 0 rfl) ?_
        refine va_get (D := D) (ci := 1) (v := .ref (q 3)) (C := RM) (T := TM) (N := 7) hx hb hts inM hown hK hP 0 rfl rfl 3 (by decide) (hts _ w_258) (fun _ h9 => h9) rfl dM_part_87 ?_
        refine lv_iload_n hx hb dM_part_90 rfl (lv_at hl 1 rfl) ?_
        refine va_lald hx hb hK hP 3 0 rfl rfl hri dM_part_91 ?_
        refine W.eq (g2 := F0 m 92 ls [.long (uw (T ri.toNatClampNeg))]) rfl ?_
        refine lv_l2i (v := T ri.toNatClampNeg) hx hb dM_part_92 (uw_i _) ?_
        refine lv_goto (tgt := 138) hx hb dM_part_93 (by decide) ?_
        have e9 : (ga_part A B T P Y G ri.toNatClampNeg v) = T ri.toNatClampNeg := by unfold ga_part; rw [if_neg h_5, if_neg h_6, if_pos h_7]
        refine W.eq (g2 := F0 m 138 ls [.int (ga_part A B T P Y G ri.toNatClampNeg v)]) (by rw [e9] <;> rfl) ?_
        exact W.iret (v := ga_part A B T P Y G ri.toNatClampNeg v) hx hb hr (fun t9 ht hW => ⟨rfl, by rw [ht]; exact hP, hD, hS.F ht⟩) hS.2.2 dM_part_138
    · 
      refine lv_aload_n hx hb dM_part_71 rfl (lv_at hl 0 rfl) ?_
      refine va_get (D := D) (ci := 1) (v := .ref (q 2)) (C := RM) (T := TM) (N := 7) hx hb hts inM hown hK hP 0 rfl rfl 2 (by decide) (hts _ w_257) (fun _ h9 => h9) rfl dM_part_72 ?_
      refine lv_iload_n hx hb dM_part_75 rfl (lv_at hl 1 rfl) ?_
      refine va_lald hx hb hK hP 2 0 rfl rfl hri dM_part_76 ?_
      refine W.eq (g2 := F0 m 77 ls [.long (uw (B ri.toNatClampNeg))]) rfl ?_
      refine lv_l2i (v := B ri.toNatClampNeg) hx hb dM_part_77 (uw_i _) ?_
      refine lv_goto (tgt := 138) hx hb dM_part_78 (by decide) ?_
      have e9 : (ga_part A B T P Y G ri.toNatClampNeg v) = B ri.toNatClampNeg := by unfold ga_part; rw [if_neg h_5, if_pos h_6]
      refine W.eq (g2 := F0 m 138 ls [.int (ga_part A B T P Y G ri.toNatClampNeg v)]) (by rw [e9] <;> rfl) ?_
      exact W.iret (v := ga_part A B T P Y G ri.toNatClampNeg v) hx hb hr (fun t9 ht hW => ⟨rfl, by rw [ht]; exact hP, hD, hS.F ht⟩) hS.2.2 dM_part_138
  · 
    refine lv_aload_n hx hb dM_part_56 rfl (lv_at hl 0 rfl) ?_
    refine va_get (D := D) (ci := 1) (v := .ref (q 1)) (C := RM) (T := TM) (N := 7) hx hb hts inM hown hK hP 0 rfl rfl 1 (by decide) (hts _ w_256) (fun _ h9 => h9) rfl dM_part_57 ?_
    refine lv_iload_n hx hb dM_part_60 rfl (lv_at hl 1 rfl) ?_
    refine va_lald hx hb hK hP 1 0 rfl rfl hri dM_part_61 ?_
    refine W.eq (g2 := F0 m 62 ls [.long (uw (A ri.toNatClampNeg))]) rfl ?_
    refine lv_l2i (v := A ri.toNatClampNeg) hx hb dM_part_62 (uw_i _) ?_
    refine lv_goto (tgt := 138) hx hb dM_part_63 (by decide) ?_
    have e9 : (ga_part A B T P Y G ri.toNatClampNeg v) = A ri.toNatClampNeg := by unfold ga_part; rw [if_pos h_5]
    refine W.eq (g2 := F0 m 138 ls [.int (ga_part A B T P Y G ri.toNatClampNeg v)]) (by rw [e9] <;> rfl) ?_
    exact W.iret (v := ga_part A B T P Y G ri.toNatClampNeg v) hx hb hr (fun t9 ht hW => ⟨rfl, by rw [ht]; exact hP, hD, hS.F ht⟩) hS.2.2 dM_part_138

set_option maxRecDepth 100000 in
set_option maxHeartbeats 4000000 in
theorem mM_part_a (l : Launch) (D : va_G) (cJ cI cZ : ClassId) (q : Nat → Nat) (e0 : Int32) (A B T P Y : Nat → Int32) (G : Nat → Bool) (sz : Nat) (ri v : Int32) (hbad : ¬ (¬ v < 0 ∧ v ≤ 5)) : Met l yM_part (Cond.code yM_part cM_part 3 (some .int) :: gw) (rmk 2 0 0) (va_Pc [.ref (q 0), .int (ri), .int (v)] (kB D vwCl (mW cJ cI cZ q (e0) A B T P Y G) (tsM cJ cI cZ) sz)) (kQ (some (.int (0))) D vwCl (mW cJ cI cZ q (1) A B T P Y G) (va_A (mW cJ cI cZ q (e0) A B T P Y G) sz)) 0 0 (va_A (mW cJ cI cZ q (e0) A B T P Y G) sz) := by
  refine Met.ofW (cc := cM_part) (maxL := 3) (ret := (some .int)) (by decide) rfl ?_
  intro p e s m args below meth c s₁ B9 hml hv
  obtain ⟨rfl, hsz, hP, hK, hD0⟩ := hv
  have hx := B9.exec
  have hb := B9.bytes
  have hr := B9.returns
  have hts := fun (w : Cond) (h : w ∈ gw) => atoms_spec (ws := _ :: gw) B9.pre w (List.mem_cons_of_mem _ h)
  have hown : s.vm.findClass RM = some m.cls := findClass_of_methodNamed B9.named
  have hlocks := B9.notSynchronized
  have hl := lv_entry ([.ref (q 0), .int (ri), .int (v)]) (n := 3) (Nat.le_of_ble_eq_true rfl)
  rw [lg_entry_eq]
  generalize (lg_sl ([.ref (q 0), .int (ri), .int (v)]) ++ List.replicate (3 - (lg_sl ([.ref (q 0), .int (ri), .int (v)])).length) Slot.unset).toArray = ls at hl ⊢
  have hl : lv_has ls 3 [(0, .ref (q 0)), (1, .int (ri)), (2, .int (v))] := hl
  subst hsz
  have hD := hD0.self (sz := s.heap.size)
  generalize hAe : va_A (mW cJ cI cZ q (e0) A B T P Y G) s.heap.size = A9 at hD ⊢
  have hA : ∀ z : Nat, s.heap.size ≤ z → A9 z := fun z h => by rw [← hAe]; exact Or.inr h
  have hS : va_S A9 s.heap s.heap [] := va_S.rf
  have hP : va_P D vwCl (mW cJ cI cZ q (e0) A B T P Y G) s.heap := hP
  refine lv_aload_n hx hb dM_part_0 rfl (lv_at hl 0 rfl) ?_
  refine lv_iconst (v := 0) hx hb dM_part_1 (by decide) ?_
  refine va_put (D := D) (ci := 1) (v := .int (0)) (ty := .int) (C := RM) (T := TM) (N := 7) hx hb hts inM tyM tyM_ok nmM hown hK hP hD hS 0 rfl rfl 0 (by decide) (hts _ w_255) (fun _ h9 => h9) rfl (by decide +kernel) rfl rfl (Nat.le_of_ble_eq_true rfl) dM_part_2 (fun H locs hP hD hS => ?_)
  have hP : va_P D vwCl (mW cJ cI cZ q (0) A B T P Y G) H := hP
  have hD : va_D A9 (mW cJ cI cZ q (0) A B T P Y G) := hD
  refine lv_aload_n hx hb dM_part_5 rfl (lv_at hl 0 rfl) ?_
  refine lv_iload_n hx hb dM_part_6 rfl (lv_at hl 2 rfl) ?_
  refine lv_i2l (v := (v).toInt64) hx hb dM_part_7 rfl ?_
  refine lv_lconst (v := 0) hx hb dM_part_8 (by decide) ?_
  refine lv_ldc2 (v := 5) hx hb hown (hts _ w_356) dM_part_9 ?_
  refine kr_S 3 (As := [.long ((v).toInt64), .long (0), .long (5)]) (rest := [.ref (q 0)]) (r := .int (bi (decide ((0) ≤ ((v).toInt64)) && decide (((v).toInt64) ≤ (5))))) hx hb hml hown hts hl.1 (mM_in l ((v).toInt64) (0) (5)) tt_stb trivial (gw_S w_291 w_292 w_15 w_293) (by decide) ⟨rfl, rfl⟩ ⟨Nat.le_of_ble_eq_true rfl, Nat.le_of_ble_eq_true rfl⟩ rfl rfl (Nat.le_of_ble_eq_true rfl) dM_part_12 ⟨Nat.zero_le _, Nat.zero_le _⟩ ?_
  refine lv_if_ne (tgt := 22) hx hb dM_part_15 (by decide) (fun h_1 => absurd (gp_z (c := 5) (by decide) hbad) h_1) (fun h_1 => ?_)
  have h_1 := bi_0 h_1
  refine lv_iconst (v := 1) hx hb dM_part_18 (by decide) ?_
  refine lv_goto (tgt := 23) hx hb dM_part_19 (by decide) ?_
  refine lv_iconst (v := 1) hx hb dM_part_23 (by decide) ?_
  refine kw_V 2 [0, 1, 2, 3, 4, 5, 6] [] (b := q 0) (As := [.int (1), .int (1)]) (rest := []) (wc := mW cJ cI cZ q (0) A B T P Y G) (wr := []) (w1 := mW cJ cI cZ q (1) A B T P Y G) hx hb hml hown hts hl.1 hP hD hS hA hK (mM_fails_t l D cJ cI cZ q 0 A B T P Y G _ 1 (by decide)) (gw_V w_294 w_296 w_8 w_15 w_297) (by decide) ⟨rfl, rfl⟩ ⟨Nat.le_of_ble_eq_true rfl, Nat.le_of_ble_eq_true rfl⟩ (va_recv hK hP (ci := 1) rfl (q0 := 0) rfl) rfl rfl (Nat.le_of_ble_eq_true rfl) dM_part_24 ⟨Nat.zero_le _, Nat.zero_le _⟩ rfl rfl ⟨by decide, by decide⟩ (by decide) (fun H locs hP hD hS => ?_)
  have hP : va_P D vwCl (mW cJ cI cZ q (1) A B T P Y G) H := hP
  have hD : va_D A9 (mW cJ cI cZ q (1) A B T P Y G) := hD
  refine W.eq (g2 := F0 m 27 ls [.int (1)]) rfl ?_
  refine lv_if_ne (tgt := 50) hx hb dM_part_27 (by decide) (fun h_2 => ?_) (fun h_2 => absurd h_2 (by decide))
  refine lv_iconst (v := 0) hx hb dM_part_50 (by decide) ?_
  exact W.iret (v := 0) hx hb hr (fun t9 ht hW => ⟨rfl, by rw [ht]; exact hP, hD, hS.F ht⟩) hS.2.2 dM_part_51

set_option maxRecDepth 100000 in
set_option maxHeartbeats 4000000 in
theorem mM_part_b (l : Launch) (D : va_G) (cJ cI cZ : ClassId) (q : Nat → Nat) (e0 : Int32) (A B T P Y : Nat → Int32) (G : Nat → Bool) (sz : Nat) (ri v : Int32) (hv0 : ¬ v < 0) (hv : v ≤ 5) (hbad : ¬ vp_in ri 16) : Met l yM_part (Cond.code yM_part cM_part 3 (some .int) :: gw) (rmk 2 0 0) (va_Pc [.ref (q 0), .int (ri), .int (v)] (kB D vwCl (mW cJ cI cZ q (e0) A B T P Y G) (tsM cJ cI cZ) sz)) (kQ (some (.int (0))) D vwCl (mW cJ cI cZ q (2) A B T P Y G) (va_A (mW cJ cI cZ q (e0) A B T P Y G) sz)) 0 0 (va_A (mW cJ cI cZ q (e0) A B T P Y G) sz) := by
  refine Met.ofW (cc := cM_part) (maxL := 3) (ret := (some .int)) (by decide) rfl ?_
  intro p e s m args below meth c s₁ B9 hml hv
  obtain ⟨rfl, hsz, hP, hK, hD0⟩ := hv
  have hx := B9.exec
  have hb := B9.bytes
  have hr := B9.returns
  have hts := fun (w : Cond) (h : w ∈ gw) => atoms_spec (ws := _ :: gw) B9.pre w (List.mem_cons_of_mem _ h)
  have hown : s.vm.findClass RM = some m.cls := findClass_of_methodNamed B9.named
  have hlocks := B9.notSynchronized
  have hl := lv_entry ([.ref (q 0), .int (ri), .int (v)]) (n := 3) (Nat.le_of_ble_eq_true rfl)
  rw [lg_entry_eq]
  generalize (lg_sl ([.ref (q 0), .int (ri), .int (v)]) ++ List.replicate (3 - (lg_sl ([.ref (q 0), .int (ri), .int (v)])).length) Slot.unset).toArray = ls at hl ⊢
  have hl : lv_has ls 3 [(0, .ref (q 0)), (1, .int (ri)), (2, .int (v))] := hl
  subst hsz
  have hD := hD0.self (sz := s.heap.size)
  generalize hAe : va_A (mW cJ cI cZ q (e0) A B T P Y G) s.heap.size = A9 at hD ⊢
  have hA : ∀ z : Nat, s.heap.size ≤ z → A9 z := fun z h => by rw [← hAe]; exact Or.inr h
  have hS : va_S A9 s.heap s.heap [] := va_S.rf
  have hP : va_P D vwCl (mW cJ cI cZ q (e0) A B T P Y G) s.heap := hP
  refine lv_aload_n hx hb dM_part_0 rfl (lv_at hl 0 rfl) ?_
  refine lv_iconst (v := 0) hx hb dM_part_1 (by decide) ?_
  refine va_put (D := D) (ci := 1) (v := .int (0)) (ty := .int) (C := RM) (T := TM) (N := 7) hx hb hts inM tyM tyM_ok nmM hown hK hP hD hS 0 rfl rfl 0 (by decide) (hts _ w_255) (fun _ h9 => h9) rfl (by decide +kernel) rfl rfl (Nat.le_of_ble_eq_true rfl) dM_part_2 (fun H locs hP hD hS => ?_)
  have hP : va_P D vwCl (mW cJ cI cZ q (0) A B T P Y G) H := hP
  have hD : va_D A9 (mW cJ cI cZ q (0) A B T P Y G) := hD
  refine lv_aload_n hx hb dM_part_5 rfl (lv_at hl 0 rfl) ?_
  refine lv_iload_n hx hb dM_part_6 rfl (lv_at hl 2 rfl) ?_
  refine lv_i2l (v := (v).toInt64) hx hb dM_part_7 rfl ?_
  refine lv_lconst (v := 0) hx hb dM_part_8 (by decide) ?_
  refine lv_ldc2 (v := 5) hx hb hown (hts _ w_356) dM_part_9 ?_
  refine kr_S 3 (As := [.long ((v).toInt64), .long (0), .long (5)]) (rest := [.ref (q 0)]) (r := .int (bi (decide ((0) ≤ ((v).toInt64)) && decide (((v).toInt64) ≤ (5))))) hx hb hml hown hts hl.1 (mM_in l ((v).toInt64) (0) (5)) tt_stb trivial (gw_S w_291 w_292 w_15 w_293) (by decide) ⟨rfl, rfl⟩ ⟨Nat.le_of_ble_eq_true rfl, Nat.le_of_ble_eq_true rfl⟩ rfl rfl (Nat.le_of_ble_eq_true rfl) dM_part_12 ⟨Nat.zero_le _, Nat.zero_le _⟩ ?_
  refine lv_if_ne (tgt := 22) hx hb dM_part_15 (by decide) (fun h_1 => ?_) (fun h_1 => absurd h_1 (gp_nz (c := 5) (by decide) hv0 hv))
  have h_1 := bi_n h_1
  refine lv_iconst (v := 0) hx hb dM_part_22 (by decide) ?_
  refine lv_iconst (v := 1) hx hb dM_part_23 (by decide) ?_
  refine kw_V 2 [0, 1, 2, 3, 4, 5, 6] [] (b := q 0) (As := [.int (0), .int (1)]) (rest := []) (wc := mW cJ cI cZ q (0) A B T P Y G) (wr := []) (w1 := mW cJ cI cZ q (0) A B T P Y G) hx hb hml hown hts hl.1 hP hD hS hA hK (mM_fails_f l D cJ cI cZ q 0 A B T P Y G _ 1) (gw_V w_294 w_296 w_8 w_15 w_297) (by decide) ⟨rfl, rfl⟩ ⟨Nat.le_of_ble_eq_true rfl, Nat.le_of_ble_eq_true rfl⟩ (va_recv hK hP (ci := 1) rfl (q0 := 0) rfl) rfl rfl (Nat.le_of_ble_eq_true rfl) dM_part_24 ⟨Nat.zero_le _, Nat.zero_le _⟩ rfl rfl ⟨by decide, by decide⟩ (by decide) (fun H locs hP hD hS => ?_)
  have hP : va_P D vwCl (mW cJ cI cZ q (0) A B T P Y G) H := hP
  have hD : va_D A9 (mW cJ cI cZ q (0) A B T P Y G) := hD
  refine W.eq (g2 := F0 m 27 ls [.int (0)]) rfl ?_
  refine lv_if_ne (tgt := 50) hx hb dM_part_27 (by decide) (fun h_2 => absurd (by decide) h_2) (fun h_2 => ?_)
  refine lv_aload_n hx hb dM_part_30 rfl (lv_at hl 0 rfl) ?_
  refine lv_iload_n hx hb dM_part_31 rfl (lv_at hl 1 rfl) ?_
  refine kr_S 1 (As := [.int (ri)]) (rest := [.ref (q 0)]) (r := .int (bi (gi ri))) hx hb hml hown hts hl.1 (mM_is l (ri)) tt_stb trivial (gw_S w_298 w_299 w_15 w_300) (by decide) ⟨rfl, rfl⟩ ⟨Nat.le_of_ble_eq_true rfl, Nat.le_of_ble_eq_true rfl⟩ rfl rfl (Nat.le_of_ble_eq_true rfl) dM_part_32 ⟨Nat.zero_le _, Nat.zero_le _⟩ ?_
  refine lv_if_ne (tgt := 42) hx hb dM_part_35 (by decide) (fun h_3 => absurd (gi_z hbad) h_3) (fun h_3 => ?_)
  have h_3 := bi_0 h_3
  refine lv_iconst (v := 1) hx hb dM_part_38 (by decide) ?_
  refine lv_goto (tgt := 43) hx hb dM_part_39 (by decide) ?_
  refine lv_iconst (v := 2) hx hb dM_part_43 (by decide) ?_
  refine kw_V 2 [0, 1, 2, 3, 4, 5, 6] [] (b := q 0) (As := [.int (1), .int (2)]) (rest := []) (wc := mW cJ cI cZ q (0) A B T P Y G) (wr := []) (w1 := mW cJ cI cZ q (2) A B T P Y G) hx hb hml hown hts hl.1 hP hD hS hA hK (mM_fails_t l D cJ cI cZ q 0 A B T P Y G _ 2 (by decide)) (gw_V w_294 w_296 w_8 w_15 w_297) (by decide) ⟨rfl, rfl⟩ ⟨Nat.le_of_ble_eq_true rfl, Nat.le_of_ble_eq_true rfl⟩ (va_recv hK hP (ci := 1) rfl (q0 := 0) rfl) rfl rfl (Nat.le_of_ble_eq_true rfl) dM_part_44 ⟨Nat.zero_le _, Nat.zero_le _⟩ rfl rfl ⟨by decide, by decide⟩ (by decide) (fun H locs hP hD hS => ?_)
  have hP : va_P D vwCl (mW cJ cI cZ q (2) A B T P Y G) H := hP
  have hD : va_D A9 (mW cJ cI cZ q (2) A B T P Y G) := hD
  refine W.eq (g2 := F0 m 47 ls [.int (1)]) rfl ?_
  refine lv_if_eq (tgt := 52) hx hb dM_part_47 (by decide) (fun h_4 => absurd h_4 (by decide)) (fun h_4 => ?_)
  refine lv_iconst (v := 0) hx hb dM_part_50 (by decide) ?_
  exact W.iret (v := 0) hx hb hr (fun t9 ht hW => ⟨rfl, by rw [ht]; exact hP, hD, hS.F ht⟩) hS.2.2 dM_part_51
end
