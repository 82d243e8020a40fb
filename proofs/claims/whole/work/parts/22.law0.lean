/-! For the law: its world, a read of the script, a helper's call, what stays true of the grants. -/
abbrev lW (cI cZ cJ : ClassId) (q r : Nat → Nat) (ob : Nat) (A B T P Y : Nat → Int32) (G : Nat → Bool) (e : Int32) (A' B' T' P' Y' : Nat → Int32) (G' : Nat → Bool) (V : Nat → Int64) : va_W := [(q 0, .inr (0, [.ref (q 1), .ref (q 2), .ref (q 3), .ref (q 4), .ref (q 5), .ref (q 6)])), (q 1, .inl (cI, 16, .inl A)), (q 2, .inl (cI, 16, .inl B)), (q 3, .inl (cI, 16, .inl T)), (q 4, .inl (cI, 16, .inl P)), (q 5, .inl (cI, 16, .inl Y)), (q 6, .inl (cZ, 16, .inl (fun k => bi (G k)))), (r 0, .inr (1, [.int e, .ref (r 1), .ref (r 2), .ref (r 3), .ref (r 4), .ref (r 5), .ref (r 6)])), (r 1, .inl (cJ, 16, .inr (.inl (fun k => uw (A' k))))), (r 2, .inl (cJ, 16, .inr (.inl (fun k => uw (B' k))))), (r 3, .inl (cJ, 16, .inr (.inl (fun k => uw (T' k))))), (r 4, .inl (cI, 16, .inl P')), (r 5, .inl (cI, 16, .inl Y')), (r 6, .inl (cZ, 16, .inl (fun k => bi (G' k)))), (ob, .inl (cJ, 1, .inr (.inl V)))]
def gd (P Y : Nat → Int32) : Prop := ∀ g : Nat, g < 16 → un (P g) < 256 ∧ ¬ Y g < 0
theorem in_cl {x : Int32} (h : vp_in x 16) : x.toNatClampNeg < 16 := Nat.not_le.mp fun q => h (Or.inr q)
theorem gd_upd {P Y : Nat → Int32} {k : Nat} {p y : Int32} (h : gd P Y) (hp : un p < 256) (hy : ¬ y < 0) : gd (upd P k p) (upd Y k y) := by
  intro g hg
  unfold upd
  by_cases e : g = k
  · rw [if_pos e, if_pos e]; exact ⟨hp, hy⟩
  · rw [if_neg e, if_neg e]; exact h g hg
theorem gd_0 : gd (fun _ => 0) (fun _ => 0) := fun _ _ => ⟨show un 0 < 256 from by decide, show ¬ (0 : Int32) < 0 from by decide⟩
theorem pv_ok {v : Int32} (h0 : ¬ v < 0) (h : v ≤ 255) : un v < 256 := by
  have hu := un_int v
  have hl := un_lt v
  rw [Int32.lt_iff_toInt_lt] at h0
  rw [Int32.le_iff_toInt_le] at h
  have c1 : (0 : Int32).toInt = 0 := by decide
  have c2 : (255 : Int32).toInt = 255 := by decide
  split at hu <;> omega
theorem se_G {A B T P Y : Nat → Int32} {G : Nat → Bool} {s t : Nat} (h : ga_seal A B T P Y G s t = 0) : G s = true := by
  unfold ga_seal at h
  cases hG : G s
  · rw [if_pos (Or.inl hG)] at h; exact absurd h (by decide)
  · rfl
theorem se_A {A B T P Y : Nat → Int32} {G : Nat → Bool} {s t : Nat} (h : ga_seal A B T P Y G s t = 0) : ¬ A t < 0 := by
  unfold ga_seal at h
  intro hA
  have h1 : ¬ (1 ≤ A t ∧ A t ≤ 65535) := fun q => by
    have q1 := q.1
    rw [Int32.le_iff_toInt_le] at q1
    rw [Int32.lt_iff_toInt_lt] at hA
    have c1 : (0 : Int32).toInt = 0 := by decide
    have c2 : (1 : Int32).toInt = 1 := by decide
    omega
  by_cases h2 : G s = false ∨ G t = false
  · rw [if_pos h2] at h; exact absurd h (by decide)
  · rw [if_neg h2] at h
    by_cases h3 : ¬ Y s = 0
    · rw [if_pos h3] at h; exact absurd h (by decide)
    · rw [if_neg h3] at h
      by_cases h4 : ¬ ga_acc B T P Y G t (A t) 1 32 = 0
      · rw [if_pos h4] at h; exact h4 h
      · rw [if_neg h4, if_neg h1] at h; exact absurd h (by decide)
theorem op_G {A B T P Y : Nat → Int32} {G : Nat → Bool} {s t : Nat} (h : ga_open A B T P Y G s t = 0) : G s = true := by
  unfold ga_open at h
  cases hG : G s
  · rw [if_pos (Or.inl hG)] at h; exact absurd h (by decide)
  · rfl
theorem lw_gt {i L : Nat} (hi : i ≤ 2560) (hL : L ≤ 2560) : (nI L - 5 < nI i) ↔ L < i + 5 := by
  have h1 : (nI L - 5).toInt = (L : Int) - 5 := pk_sub_toInt (a := L) (b := 5) (by omega) (by decide)
  have h2 : (nI i).toInt = (i : Int) := nI_toInt (by omega)
  rw [Int32.lt_iff_toInt_lt, h1, h2]
  omega
section LK
variable {p : Program} {l : Launch} {e : Env} {R : Room} {s : State} {m : MethodId} {args : Array Value} {below : List Frame} {meth : Method} {c : Code} {H : Heap} {locs : List Loc} {cells slots : Nat} {Q : State → Prop}
variable {y : MethodName} {bytes cc : ByteArray} {maxL nL mc ms index : Nat} {ret9 : Option FieldType} {rm : Room} {own : String} {As rest st0 : List Value} {pc : Nat} {ls : Array Slot} {r9 : Option Value}
variable {D : va_G} {cl : List vw_C} {A0 : Nat → Prop} {ws wc wr w1 : va_W} {tyc : List (ClassId × FieldType)}
/-- script[i + k] -/
theorem la_ld {b L i : Nat} {xs : Nat → Int32} (k : Nat) {kz : Int} (hkz : Int32.ofInt kz = nI k) (hexec : p.tables.exec = Jvm.exec) (hb : c.code = cc) (hX : va_X b L xs s s.heap) (hbl : b < s.heap.size) (hbA : ¬ A0 b) (hS : va_S A0 s.heap H locs) (hl0 : ls[0]? = some (.val (.ref b))) (hl4 : ls[4]? = some (.val (.int (nI i)))) (hk : i + k < L) (hL : L ≤ 2560)
    (d0 : decode cc pc = .ok (.aload_n 0, 1)) (d1 : decode cc (pc + 1) = .ok (.iload 4, 2)) (d3 : decode cc (pc + 3) = .ok (.iconst kz, 1)) (d4 : decode cc (pc + 4) = .ok (.iadd, 1)) (d5 : decode cc (pc + 5) = .ok (.iaload, 1))
    (kk : W p l e R s m args below meth c H locs cells slots Q (F0 m (pc + 6) ls (.int (xs (i + k)) :: rest))) : W p l e R s m args below meth c H locs cells slots Q (F0 m pc ls rest) := by
  refine lv_aload_n hexec hb d0 rfl hl0 ?_
  refine lv_iload hexec hb d1 hl4 ?_
  refine lv_iconst (v := nI k) hexec hb d3 hkz ?_
  refine lv_iadd hexec hb d4 ?_
  refine W.eq (g2 := F0 m (pc + 5) ls (.int (nI (i + k)) :: .ref b :: rest)) (by rw [nI_add]) ?_
  refine va_sld hexec hb hX hbl hbA hS (vp_in_nI hk (by omega)) d5 ?_
  refine W.eq (g2 := F0 m (pc + 6) ls (.int (xs (i + k)) :: rest)) (by rw [nI_clamp (by omega)]) ?_
  exact kk
/-- a helper's call -/
theorem kw_SX {hh : List (Nat × Nat × Nat × Nat)} (n : Nat) (isC isR : List Nat) (hx : p.tables.exec = Jvm.exec) (hb : c.code = cc) (hml : c.maxLocals = nL) (hown : s.vm.findClass own = some m.cls) (hts : ∀ w ∈ gw, w.before args s = true) (hl : ls.size = nL)
    (hP : va_P D cl ws H) (hD : va_D A0 ws) (hS : va_S A0 s.heap H locs) (hA : ∀ q, s.heap.size ≤ q → A0 q) (hK : va_K D cl tyc s) (hB : tx_B s) (hH : ∀ q : Nat, q < s.heap.size → H[q]? = s.heap[q]?)
    (hM : Met l y (Cond.codeWith y bytes maxL ret9 hh :: gw) rm (va_Pc As (fun U => kB D cl wc tyc H.size U ∧ tx_B U)) (kQ r9 D cl w1 (va_A wc H.size)) mc ms (va_A wc H.size)) (hl1 : Cond.methodLink own index y ∈ gw) (hl2 : Cond.static y ∈ gw) (hl3 : Cond.initialized y.cls ∈ gw) (hl4 : Cond.codeWith y bytes maxL ret9 hh ∈ gw)
    (hd : (y.cls ≠ "java/lang/invoke/MethodHandle" ∧ y.cls ≠ "java/lang/invoke/VarHandle") ∧ (parseMethodDescriptor y.desc).map (fun d => d.parameters.length) = some n) (hrm : rm.cells = mc ∧ rm.slots = ms) (hR : rm.frames + 1 ≤ R.frames ∧ 8 + (maxL + 11) + rm.locals ≤ R.locals)
    (hn : As.length = n) (hstack : st0 = As.reverse ++ rest) (hroom : (rest.map fun v => v.category).sum ≤ 8) (hdg : decode cc pc = .ok (.invokestatic index, 3)) (hc : cells + mc ≤ R.cells ∧ slots + ms ≤ R.slots)
    (hC : isC.map (fun i => ws[i]?) = wc.map some) (hR2 : isR.map (fun i => ws[i]?) = wr.map some) (hnd : va_nd isC = true ∧ va_nd isR = true) (hdis : ∀ i ∈ isR, i ∉ isC)
    (kk : ∀ (H1 : Heap) (locs1 : List Loc), va_P D cl (wr ++ w1) H1 → va_D A0 (wr ++ w1) → va_S A0 s.heap H1 locs1 → W p l e R s m args below meth c H1 locs1 (cells + mc) (slots + ms) Q (F0 m (pc + 3) ls (r9.toList ++ rest))) : W p l e R s m args below meth c H locs cells slots Q (F0 m pc ls st0) := by
  refine kw_go (a := As.toArray) ?_ hP hD hS hA isC isR hC hR2 hnd.2 hdis kk
  intro T hT X
  have hpre : ∀ U : State, U.heap = H → s.WarmedH U.vm → va_Pc As (fun U => kB D cl wc tyc H.size U ∧ tx_B U) As.toArray U := fun U hU hW =>
    ⟨rfl, (kb_pre (av := As) kB_stb ⟨rfl, hP.sub isC (kw_fm hC), va_K.moved (Vm.Alike.refl _) hK, (hD.sub isC hnd.1 hC).weaken (fun _ _ _ _ => trivial)⟩ U hU hW).2, hB.keep hW (fun q hq => by rw [hU]; exact hH q hq)⟩
  have hbl : FrameBlind (va_Pc As (fun U => kB D cl wc tyc H.size U ∧ tx_B U)) := fun a U g mk h => ⟨h.1, kB_stb U _ rfl (Vm.Alike.refl U.vm) h.2.1, h.2.2.keep (State.WarmedH.refl U) (fun _ _ => rfl)⟩
  have hGG : GoodIn gw (Cond.codeWith y bytes maxL ret9 hh :: gw) := fun w hw => by
    rcases List.mem_cons.mp hw with rfl | hw
    · exact gw_ok hl4
    · exact gw_ok hw
  have hK9 : Back l R p e below s args y 3 8 (PreOf R mc ms (va_Pc As (fun U => kB D cl wc tyc H.size U ∧ tx_B U))) (PostOf (kQ r9 D cl w1 (va_A wc H.size)) mc ms (va_A wc H.size)) :=
    va_backW (hh := hh) (bytes := bytes) (maxL := maxL) (ret := ret9) hM hbl hrm.1 hrm.2 hR.1 hR.2 (pay_in hts hGG) List.mem_cons_self (fun a' U hW => word_at hW (Or.inl (by first | rfl | simp [Cond.onTables, Cond.keeps, Cond.steady])) (hts _ hl3))
  obtain ⟨mk, methM, cM, hnamed, hmethM, -, -, -, -, -, -, hsigM⟩ := Cond.codeWith_spec (hts _ hl4)
  obtain ⟨kP, hkP, -⟩ := className_of_methodNamed hnamed
  have hlen : As.length = methM.sig.parameters.length := by
    have h2 := hd.2
    rw [hsigM] at h2
    rw [hn]
    exact (Option.some.inj h2).symm
  obtain ⟨vm₁, X₁, hstep₁⟩ := X.invokestatic hx hown (hts _ hl1) hnamed hmethM (Cond.static_spec hnamed hmethM (hts _ hl2)) hkP (Cond.initialized_spec (findClass_of_methodNamed hnamed) hkP (hts _ hl3)) hd.1 (g := F0 m pc ls st0) rfl (argsL := As) (rest := rest) hlen hstack (by rw [hb]; exact hdg)
  obtain ⟨v, ⟨U', l2, c2, s2⟩, X', ⟨g', mk', t, L, e1, e2, hq, h1, hL, h2, h3⟩, hsteps⟩ := hK9 m meth c ⟨T.setVm vm₁, locs, cells, slots⟩ (F0 m pc ls rest) (.invokestatic index) mk As.toArray X₁ rfl (hl.trans hml.symm) (by rw [hb]; exact hdg) (lv_room hroom) (X₁.named hnamed) ⟨hc.1, hc.2, hpre (T.setVm vm₁) hT X₁.warmed⟩
  dsimp only [Pt.U, Pt.locs, Pt.cells, Pt.slots] at X' e1 e2 h1 h2 h3 hsteps
  subst h1; subst h2; subst h3
  exact ⟨v, (T.setVm vm₁).calling g' mk' As.toArray, t, U', L, hT, X', hL, e1, e2, hq, fun target h => hstep₁ _ fun acts => by rw [doInvoke_state]; exact hsteps.trans h⟩
end LK
