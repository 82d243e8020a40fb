/-! For the reference: a call over up to 16 words of the caller's stack; longs; bits. -/
section KM
variable {p : Program} {l : Launch} {e : Env} {R : Room} {s : State} {m : MethodId} {args : Array Value} {below : List Frame} {meth : Method} {c : Code} {H : Heap} {locs : List Loc} {cells slots : Nat} {Q : State → Prop}
variable {y : MethodName} {bytes cc : ByteArray} {maxL nL mc ms index : Nat} {ret : Option FieldType} {rm : Room} {own C : String} {b : Addr} {As rest st0 : List Value} {pc : Nat} {ls : Array Slot} {B : State → Prop} {r : Value}
theorem kr_Vw (n : Nat) (hx : p.tables.exec = Jvm.exec) (hb : c.code = cc) (hml : c.maxLocals = nL) (hown : s.vm.findClass own = some m.cls) (hts : ∀ w ∈ gw, w.before args s = true) (hl : ls.size = nL)
    (hM : Met l y (Cond.code y bytes maxL ret :: gw) rm (va_Pc (.ref b :: As) B) (k2_QcV r) 0 0 (fun _ => False)) (hst : Stb B) (hB : B ({ s with heap := H } : State)) (hG : GoodIn gw (wsV own index C y (Cond.code y bytes maxL ret :: gw)))
    (hd : y.cls = C ∧ y.cls ≠ "java/lang/invoke/MethodHandle" ∧ y.cls ≠ "java/lang/invoke/VarHandle" ∧ (parseMethodDescriptor y.desc).map (fun d => d.parameters.length) = some n) (hrm : rm.cells = 0 ∧ rm.slots = 0) (hR : rm.frames + 1 ≤ R.frames ∧ 16 + (maxL + 11) + rm.locals ≤ R.locals)
    (hrecv : ∃ cellB : Cell, H[b]? = some cellB ∧ cellB.vm.isStatics = false ∧ s.vm.findClass C = some cellB.cls) (hn : As.length = n) (hstack : st0 = As.reverse ++ .ref b :: rest) (hroom : (rest.map fun v => v.category).sum ≤ 16) (hdg : decode cc pc = .ok (.invokevirtual index, 3)) (hc : cells ≤ R.cells ∧ slots ≤ R.slots)
    (kk : W p l e R s m args below meth c H locs cells slots Q (F0 m (pc + 3) ls (r :: rest))) : W p l e R s m args below meth c H locs cells slots Q (F0 m pc ls st0) := by
  have cw : CallW R s args own C index y bytes maxL ret (Cond.code y bytes maxL ret :: gw) rm 0 0 n := cwV n hts hG rfl hrm.1 hrm.2 hd ⟨hR.1, by omega⟩
  obtain ⟨⟨hrc, hrs, hfr, hlo, hws, hcw, hcode, hini, hy, hlen, hlk⟩, hin, hse⟩ := cw
  obtain ⟨cellB, hcB, hoB, hclB⟩ := hrecv
  have hK9 : Back l R p e below s args y 3 16 (PreOf R 0 0 (va_Pc (.ref b :: As) B)) (PostOf (k2_QcV r) 0 0 (fun _ => False)) :=
    back_of (bytes := bytes) (maxL := maxL) (ret := ret) hM (kb_blind hst) hrc hrs hR.1 hR.2 hws hcw (fun a' U hW => word_at hW (Or.inl (by first | rfl | simp [Cond.onTables, Cond.keeps, Cond.steady])) hini)
  intro T hT X
  obtain ⟨v, vm₁, ⟨U', l2, c2, s2⟩, hW₁, X', ⟨g', mk, t, L, e1, e2, ⟨hv, hh⟩, h1, hL, h2, h3⟩, st⟩ := callV X hx (C := C) (bytes := bytes) (maxL := maxL) (ret := ret) hown hlk hin hse hcode hy hK9 (by rw [hT]; exact hcB) hoB hclB (g := F0 m pc ls st0) rfl (hl.trans hml.symm) (argsL := As) (rest := rest) (fun sig h => hn.trans (hlen sig h)) hstack (by show 2 * 0 + _ ≤ 16; omega) (by rw [hb]; exact hdg)
    (fun vm₁ hW₁ => ⟨hc.1, hc.2, kb_pre hst hB (T.setVm vm₁) hT hW₁⟩)
  cases hv
  dsimp only [Pt.U, Pt.locs, Pt.cells, Pt.slots] at X' e1 e2 h1 h2 h3 st
  subst h1; subst h2; subst h3
  have hnil : L = [] := List.eq_nil_iff_forall_not_mem.mpr (fun q hq => hL q hq)
  subst hnil
  rw [List.append_nil] at X'
  obtain ⟨t2, a1, b1⟩ := kk U' (by rw [e1, hh]; exact hT) X'
  exact ⟨t2, st t2 a1, b1⟩
end KM
/-- is r a grant: as the reference asks -/
def gi (r : Int32) : Bool := decide ((0 : Int64) ≤ r.toInt64) && decide (r.toInt64 ≤ 15)
theorem il_ge (v : Int32) : (0 : Int64) ≤ v.toInt64 ↔ ¬ v < 0 := by
  rw [Int64.le_iff_toInt_le, Int32.lt_iff_toInt_lt, Int32.toInt_toInt64]
  have h1 : (0 : Int64).toInt = 0 := by decide
  have h2 : (0 : Int32).toInt = 0 := by decide
  rw [h1, h2]
  omega
theorem il_le (v c : Int32) : v.toInt64 ≤ c.toInt64 ↔ v ≤ c := by
  rw [Int64.le_iff_toInt_le, Int32.le_iff_toInt_le, Int32.toInt_toInt64, Int32.toInt_toInt64]
theorem gi_in {r : Int32} : gi r = true ↔ vp_in r 16 := by
  unfold gi
  rw [Bool.and_eq_true, decide_eq_true_eq, decide_eq_true_eq, il_ge, show (15 : Int64) = (15 : Int32).toInt64 from by decide, il_le, vp_in_iff, Int32.lt_iff_toInt_lt, Int32.le_iff_toInt_le]
  have h1 : (15 : Int32).toInt = 15 := by decide
  have h2 : (0 : Int32).toInt = 0 := by decide
  rw [h1, h2]
  omega
def gp (v c : Int32) : Bool := decide ((0 : Int64) ≤ v.toInt64) && decide (v.toInt64 ≤ c.toInt64)
theorem gp_in {v c : Int32} : gp v c = true ↔ ¬ v < 0 ∧ v ≤ c := by
  unfold gp
  rw [Bool.and_eq_true, decide_eq_true_eq, decide_eq_true_eq, il_ge, il_le]
theorem pm_bits (w p : Int32) : ga_pm w p = true ↔ ∀ j, j < 32 → bt w j = true → bt p j = true := by
  unfold ga_pm
  rw [decide_eq_true_eq]
  constructor
  · intro h j hj hw
    have h1 : bt (w &&& (p ^^^ -1)) j = false := by rw [h]; exact b_0 j
    rw [b_and, b_xor, b_m1 j hj, hw] at h1
    cases hb : bt p j
    · rw [hb] at h1; cases h1
    · rfl
  · intro h
    apply b_ext
    intro j hj
    rw [b_and, b_xor, b_m1 j hj, b_0]
    cases hw : bt w j
    · rfl
    · rw [h j hj hw]; rfl
