/-! What a throw needs of the state: tx_B; it holds from the law's start on. -/
abbrev iob : String := "java/lang/IndexOutOfBoundsException"
abbrev iae : String := "java/lang/IllegalArgumentException"
abbrev nms : List String := ["java/lang/RuntimeException", "java/lang/Exception"]
theorem tx_face {w : Cond} {a a' : Array Value} {s U : State} (hW : s.WarmedH U.vm) (h1 : w.onTables = true) (h2 : w.keepsFace = true) (h : w.before a s = true) : w.before a' U = true := by
  have h3 := Cond.before_shiftedFace (State.Shifted.of_warmed hW) w h2 h
  have h4 := Cond.onTables_vm (A := a) (A' := a') (U := s) (U' := U) U.vm w h1
  rw [h4, State.setVm_self] at h3
  exact h3
theorem tx_static {C n d : String} {a a' : Array Value} {s U : State} (hvm : s.vm.Alike U.vm) (hH : ∀ q : Nat, q < s.heap.size → U.heap[q]? = s.heap[q]?) (h : (Cond.laysStatic C n d).before a s = true) : (Cond.laysStatic C n d).before a' U = true := by
  obtain ⟨c, k, i, f, q, cell, hc, hi, hst, ha, hcell, hs, hcls, hlt, hty⟩ := Cond.laysStatic_spec h
  obtain ⟨k', hi', he⟩ := State.fieldFound?_setVm hvm hi
  have hi' : U.fieldFound? C n d = some (c, k', i, f) := hi'
  have hc' : U.vm.findClass C = some c := by rw [hvm.findClass]; exact hc
  have hcell' : U.heap[q]? = some cell := by rw [hH q (Array.getElem?_eq_some_iff.mp hcell).1]; exact hcell
  have ha' : k'.statics = some q := by rw [he]; exact ha
  have hty' : k'.staticTypes[f.slot]? = some f.type := by rw [he]; exact hty
  simp [Cond.before, Cond.holds, Cond.value, hc', hi', ha', hcell', hst, hs, hcls, hlt, hty']
theorem tx_isRef {C n d : String} {a a' : Array Value} {s U : State} (hvm : s.vm.Alike U.vm) (hH : ∀ q : Nat, q < s.heap.size → U.heap[q]? = s.heap[q]?) (hl : (Cond.laysStatic C n d).before a s = true) (h : (Cond.isRef (.static C n d)).before a s = true) : (Cond.isRef (.static C n d)).before a' U = true := by
  obtain ⟨c, k, i, f, q, cell, hc, hi, hst, ha, hcell, hs, hcls, hlt, hty⟩ := Cond.laysStatic_spec hl
  obtain ⟨k', hi', he⟩ := State.fieldFound?_setVm hvm hi
  have hi' : U.fieldFound? C n d = some (c, k', i, f) := hi'
  have hcell' : U.heap[q]? = some cell := by rw [hH q (Array.getElem?_eq_some_iff.mp hcell).1]; exact hcell
  have ha' : k'.statics = some q := by rw [he]; exact ha
  have e1 : (Term.static C n d).eval a s none [] s = cell.slots[f.slot]? := by simp [Term.eval, State.fieldNamed?, hi, hst, ha, hcell, hs]
  have e2 : (Term.static C n d).eval a' U none [] U = cell.slots[f.slot]? := by simp [Term.eval, State.fieldNamed?, hi', hst, ha', hcell', hs]
  simp only [Cond.before, Cond.holds, Cond.value, e1] at h
  simp only [Cond.before, Cond.holds, Cond.value, e2]
  exact h
def tx_kind (w : Cond) : Bool := (w.onTables && w.keepsFace) || (match w with
  | .laysStatic .. => true
  | _ => false)
def tx_us : Cond := .isRef (.static "java/lang/Throwable" "UNASSIGNED_STACK" "[Ljava/lang/StackTraceElement;")
def tx_ss : Cond := .isRef (.static "java/lang/Throwable" "SUPPRESSED_SENTINEL" "Ljava/util/List;")
def tx_B (U : State) : Prop := ∀ a : Array Value, (∀ w ∈ Bundle.ownAtoms RX 82 iob nms, w.before a U = true) ∧ (∀ w ∈ Bundle.ownAtoms RX 37 iae nms, w.before a U = true) ∧ (∀ k ∈ [35, 40, 66, 76, 80], ∃ (tx : String) (sa : Nat), vk_R RX k tx sa U) ∧ va_Nc iob iae U
theorem tx_words (w : Cond) (h : w ∈ Bundle.ownAtoms RX 82 iob nms ∨ w ∈ Bundle.ownAtoms RX 37 iae nms) : tx_kind w = true ∨ w = tx_us ∨ w = tx_ss := by
  have h1 : ∀ w ∈ Bundle.ownAtoms RX 82 iob nms, tx_kind w = true ∨ w = tx_us ∨ w = tx_ss := by decide +kernel
  have h2 : ∀ w ∈ Bundle.ownAtoms RX 37 iae nms, tx_kind w = true ∨ w = tx_us ∨ w = tx_ss := by decide +kernel
  exact h.elim (h1 w) (h2 w)
theorem tx_lays1 : Cond.laysStatic "java/lang/Throwable" "UNASSIGNED_STACK" "[Ljava/lang/StackTraceElement;" ∈ Bundle.ownAtoms RX 82 iob nms := by decide +kernel
theorem tx_lays2 : Cond.laysStatic "java/lang/Throwable" "SUPPRESSED_SENTINEL" "Ljava/util/List;" ∈ Bundle.ownAtoms RX 82 iob nms := by decide +kernel
theorem tx_B.keep {s U : State} (hB : tx_B s) (hW : s.WarmedH U.vm) (hH : ∀ q : Nat, q < s.heap.size → U.heap[q]? = s.heap[q]?) : tx_B U := by
  intro a
  obtain ⟨b1, b2, b3, b4⟩ := hB a
  have key : ∀ w, w ∈ Bundle.ownAtoms RX 82 iob nms ∨ w ∈ Bundle.ownAtoms RX 37 iae nms → w.before a s = true → w.before a U = true := by
    intro w hw h
    rcases tx_words w hw with hk | rfl | rfl
    · unfold tx_kind at hk
      rcases (Bool.or_eq_true _ _).mp hk with h1 | h1
      · obtain ⟨h2, h3⟩ := (Bool.and_eq_true _ _).mp h1
        exact tx_face hW h2 h3 h
      · split at h1
        · exact tx_static hW.alike hH h
        · cases h1
    · exact tx_isRef hW.alike hH (b1 _ tx_lays1) h
    · exact tx_isRef hW.alike hH (b1 _ tx_lays2) h
  refine ⟨fun w hw => key w (Or.inl hw) (b1 w hw), fun w hw => key w (Or.inr hw) (b2 w hw), fun k hk => ?_, va_Nc.moved hW.alike b4⟩
  obtain ⟨tx, sa, h⟩ := b3 k hk
  exact ⟨tx, sa, vk_R.warm hW h⟩
theorem tx_blind {av : List Value} : FrameBlind (va_Pc av tx_B) := fun a U g mk h => ⟨h.1, h.2.keep (State.WarmedH.refl U) (fun _ _ => rfl)⟩
theorem tx_pre {av : List Value} {s : State} {H : Heap} (hB : tx_B s) (hH : ∀ q : Nat, q < s.heap.size → H[q]? = s.heap[q]?) : ∀ U : State, U.heap = H → s.WarmedH U.vm → va_Pc av tx_B av.toArray U := fun U hU hW => ⟨rfl, hB.keep hW (fun q hq => by rw [hU]; exact hH q hq)⟩
theorem in_lt {x : Int32} (h : vp_in x 16) : x < 16 := by
  have h1 := (vp_in_iff.mp h).2
  rw [Int32.lt_iff_toInt_lt]
  have h2 : (16 : Int32).toInt = 16 := by decide
  omega
theorem in_ge {x : Int32} (h : vp_in x 16) : ¬ x < 0 := fun q => h (Or.inl q)
theorem in_no {x : Int32} (h : ¬ vp_in x 16) (h0 : ¬ x < 0) : ¬ x < 16 := fun q => h (vp_in_iff.mpr (by
  rw [Int32.lt_iff_toInt_lt] at q h0
  have h2 : (16 : Int32).toInt = 16 := by decide
  have h3 : (0 : Int32).toInt = 0 := by decide
  omega))
/-- a method without an answer that only reads -/
def kv_Q : Array Value → State → Outcome → State → Prop := fun _ st o t => o = .returned none ∧ t.heap = st.heap
section KV
variable {p : Program} {l : Launch} {e : Env} {R : Room} {s : State} {m : MethodId} {args : Array Value} {below : List Frame} {meth : Method} {c : Code} {H : Heap} {locs : List Loc} {cells slots : Nat} {Q : State → Prop}
variable {y : MethodName} {bytes cc : ByteArray} {maxL nL mc ms index : Nat} {ret : Option FieldType} {rm : Room} {own C : String} {b : Addr} {As rest st0 : List Value} {pc : Nat} {ls : Array Slot} {B : State → Prop}
theorem kr_Sv (n : Nat) (hx : p.tables.exec = Jvm.exec) (hb : c.code = cc) (hml : c.maxLocals = nL) (hown : s.vm.findClass own = some m.cls) (hts : ∀ w ∈ gw, w.before args s = true) (hl : ls.size = nL)
    (hM : Met l y (Cond.code y bytes maxL ret :: gw) rm (va_Pc As B) kv_Q 0 0 (fun _ => False)) (hst : Stb B) (hB : B ({ s with heap := H } : State)) (hG : GoodIn gw (wsS own index y (Cond.code y bytes maxL ret :: gw)))
    (hd : y.cls = own ∧ y.cls ≠ "java/lang/invoke/MethodHandle" ∧ y.cls ≠ "java/lang/invoke/VarHandle" ∧ (parseMethodDescriptor y.desc).map (fun d => d.parameters.length) = some n) (hrm : rm.cells = 0 ∧ rm.slots = 0) (hR : rm.frames + 1 ≤ R.frames ∧ 8 + (maxL + 11) + rm.locals ≤ R.locals)
    (hn : As.length = n) (hstack : st0 = As.reverse ++ rest) (hroom : (rest.map fun v => v.category).sum ≤ 8) (hdg : decode cc pc = .ok (.invokestatic index, 3)) (hc : cells ≤ R.cells ∧ slots ≤ R.slots)
    (kk : W p l e R s m args below meth c H locs cells slots Q (F0 m (pc + 3) ls rest)) : W p l e R s m args below meth c H locs cells slots Q (F0 m pc ls st0) := by
  have hr : CallRun p l e R s m args below meth c H locs cells slots 0 0 (F0 m pc ls st0) rest (kv_Q As.toArray) (fun _ => False) :=
    W.runS ⟨hx, hb, hml, hown, hts⟩ hM (cwS n hts hG rfl hrm.1 hrm.2 hd hR) ⟨kb_blind hst, kb_pre hst hB⟩ rfl hn hl hstack (lv_room hroom) hdg hc
  intro T hT X
  obtain ⟨v, st₀, t, T', L, h0, X', hL, e1, ⟨hv, hh⟩, st⟩ := hr T hT X
  cases hv
  have hnil : L = [] := List.eq_nil_iff_forall_not_mem.mpr (fun q hq => hL q hq)
  subst hnil
  rw [List.append_nil] at X'
  obtain ⟨t2, a1, b1⟩ := kk T' (by rw [e1, hh, h0]) X'
  exact ⟨t2, st t2 a1, b1⟩
end KV
