/-! Contracts of the law's helpers: each calls one method of GrantMath and catches what it throws. Laid by program (wip/whole/gen_l1.py). -/
abbrev oW (cI cZ cJ : ClassId) (q : Nat → Nat) (ob : Nat) (A B T P Y : Nat → Int32) (G : Nat → Bool) (V : Nat → Int64) : va_W := [(q 0, .inr (0, [.ref (q 1), .ref (q 2), .ref (q 3), .ref (q 4), .ref (q 5), .ref (q 6)])), (q 1, .inl (cI, 16, .inl A)), (q 2, .inl (cI, 16, .inl B)), (q 3, .inl (cI, 16, .inl T)), (q 4, .inl (cI, 16, .inl P)), (q 5, .inl (cI, 16, .inl Y)), (q 6, .inl (cZ, 16, .inl (fun k => bi (G k)))), (ob, .inl (cJ, 1, .inr (.inl V)))]
abbrev tsO (cI cZ cJ : ClassId) : List (ClassId × FieldType) := [(cI, .int), (cZ, .boolean), (cJ, .long)]
def bl (b : Bool) : Int64 := if b = true then 1 else 0
theorem in01 : vp_in 0 1 := vp_in_nI (n := 0) (by decide) (by decide)
set_option maxRecDepth 100000 in
set_option maxHeartbeats 4000000 in
theorem mL_root_y (l : Launch) (hst : l.stackTraces = false) (D : va_G) (cI cZ : ClassId) (q : Nat → Nat) (A B T P Y : Nat → Int32) (G : Nat → Bool) (sz : Nat) (ri b9 t9 v : Int32) (hri : vp_in ri 16) (hbt : un b9 ≤ un t9) (hv0 : ¬ v < 0) (hv : v ≤ 255) : Met l yL_root (Cond.codeWith yL_root cL_root 6 (some .int) [(0, 9, 12, 13), (0, 9, 16, 15)] :: gw) (rmk 8 1 6) (va_Pc [.ref (q 0), .int (ri), .int (b9), .int (t9), .int (v)] (fun U => kB D vwCl (xW cI cZ q A B T P Y G) (tsX cI cZ) sz U ∧ tx_B U)) (kQ (some (.int 0)) D vwCl (xW cI cZ q (upd A ri.toNatClampNeg (b9)) (upd B ri.toNatClampNeg (b9)) (upd T ri.toNatClampNeg (t9)) (upd P ri.toNatClampNeg (v)) (upd Y ri.toNatClampNeg (0)) (ub G ri.toNatClampNeg (true))) (va_A (xW cI cZ q A B T P Y G) sz)) 1 6 (va_A (xW cI cZ q A B T P Y G) sz) := by
  refine va_MetW (cc := cL_root) (maxL := 6) (ret := (some .int)) (hh := [(0, 9, 12, 13), (0, 9, 16, 15)]) (by decide) rfl ?_
  intro p e s m args below meth c s₁ B9 hml hv
  obtain ⟨rfl, ⟨hsz, hP, hK, hD0⟩, hB⟩ := hv
  have hx := B9.exec
  have hb := B9.bytes
  have hr := B9.returns
  have hts := fun (w : Cond) (h : w ∈ gw) => atoms_spec (ws := _ :: gw) B9.pre w (List.mem_cons_of_mem _ h)
  have hown : s.vm.findClass RL = some m.cls := findClass_of_methodNamed B9.named
  have hlocks := B9.notSynchronized
  have hl := lv_entry ([.ref (q 0), .int (ri), .int (b9), .int (t9), .int (v)]) (n := 6) (Nat.le_of_ble_eq_true rfl)
  rw [lg_entry_eq]
  generalize (lg_sl ([.ref (q 0), .int (ri), .int (b9), .int (t9), .int (v)]) ++ List.replicate (6 - (lg_sl ([.ref (q 0), .int (ri), .int (b9), .int (t9), .int (v)])).length) Slot.unset).toArray = ls at hl ⊢
  have hl : lv_has ls 6 [(0, .ref (q 0)), (1, .int (ri)), (2, .int (b9)), (3, .int (t9)), (4, .int (v))] := hl
  subst hsz
  have hD := hD0.self (sz := s.heap.size)
  generalize hAe : va_A (xW cI cZ q A B T P Y G) s.heap.size = A9 at hD ⊢
  have hA : ∀ z : Nat, s.heap.size ≤ z → A9 z := fun z h => by rw [← hAe]; exact Or.inr h
  have hS : va_S A9 s.heap s.heap [] := va_S.rf
  refine lv_aload_n hx hb dL_root_0 rfl (lv_at hl 0 rfl) ?_
  refine lv_iload_n hx hb dL_root_1 rfl (lv_at hl 1 rfl) ?_
  refine lv_iload_n hx hb dL_root_2 rfl (lv_at hl 2 rfl) ?_
  refine lv_iload_n hx hb dL_root_3 rfl (lv_at hl 3 rfl) ?_
  refine lv_iload hx hb dL_root_4 (lv_at hl 4 rfl) ?_
  refine kw_V 4 [0, 1, 2, 3, 4, 5, 6] [] (b := q 0) (As := [.int (ri), .int (b9), .int (t9), .int (v)]) (rest := []) (wc := xW cI cZ q A B T P Y G) (wr := []) (w1 := xW cI cZ q (upd A ri.toNatClampNeg (b9)) (upd B ri.toNatClampNeg (b9)) (upd T ri.toNatClampNeg (t9)) (upd P ri.toNatClampNeg (v)) (upd Y ri.toNatClampNeg (0)) (ub G ri.toNatClampNeg (true))) hx hb hml hown hts hl.1 hP hD hS hA (hK.sub (tys' := tsX cI cZ) [0, 1] rfl) (mX_root l D cI cZ q A B T P Y G _ ri b9 t9 v hri hbt hv0 hv) (gw_V w_79 w_80 w_81 w_14 w_82) (by decide) ⟨rfl, rfl⟩ ⟨Nat.le_of_ble_eq_true rfl, Nat.le_of_ble_eq_true rfl⟩ (va_recv hK hP (ci := 0) rfl (q0 := 0) rfl) rfl rfl (Nat.le_of_ble_eq_true rfl) dL_root_6 ⟨Nat.zero_le _, Nat.zero_le _⟩ rfl rfl ⟨by decide, by decide⟩ (by decide) (fun H locs hP hD hS => ?_)
  have hP : va_P D vwCl (xW cI cZ q (upd A ri.toNatClampNeg (b9)) (upd B ri.toNatClampNeg (b9)) (upd T ri.toNatClampNeg (t9)) (upd P ri.toNatClampNeg (v)) (upd Y ri.toNatClampNeg (0)) (ub G ri.toNatClampNeg (true))) H := hP
  have hD : va_D A9 (xW cI cZ q (upd A ri.toNatClampNeg (b9)) (upd B ri.toNatClampNeg (b9)) (upd T ri.toNatClampNeg (t9)) (upd P ri.toNatClampNeg (v)) (upd Y ri.toNatClampNeg (0)) (ub G ri.toNatClampNeg (true))) := hD
  refine W.eq (g2 := F0 m 9 ls []) rfl ?_
  refine lv_goto (tgt := 20) hx hb dL_root_9 (by decide) ?_
  refine lv_iconst (v := 0) hx hb dL_root_20 (by decide) ?_
  refine W.widen (k := 1) (n := 6) (Nat.le_of_ble_eq_true rfl) (Nat.le_of_ble_eq_true rfl) ?_
  exact W.iret (v := 0) hx hb hr (fun t9 ht hW => ⟨rfl, by rw [ht]; exact hP, hD, hS.F ht⟩) hS.2.2 dL_root_21

set_option maxRecDepth 100000 in
set_option maxHeartbeats 4000000 in
theorem mL_root_a (l : Launch) (hst : l.stackTraces = false) (D : va_G) (cI cZ : ClassId) (q : Nat → Nat) (A B T P Y : Nat → Int32) (G : Nat → Bool) (sz : Nat) (ri b9 t9 v : Int32) (hbad : ¬ (un b9 ≤ un t9 ∧ ¬ v < 0 ∧ v ≤ 255)) : Met l yL_root (Cond.codeWith yL_root cL_root 6 (some .int) [(0, 9, 12, 13), (0, 9, 16, 15)] :: gw) (rmk 8 1 6) (va_Pc [.ref (q 0), .int (ri), .int (b9), .int (t9), .int (v)] (fun U => kB D vwCl (xW cI cZ q A B T P Y G) (tsX cI cZ) sz U ∧ tx_B U)) (kQ (some (.int 1)) D vwCl (xW cI cZ q A B T P Y G) (va_A (xW cI cZ q A B T P Y G) sz)) 1 6 (va_A (xW cI cZ q A B T P Y G) sz) := by
  refine va_MetW (cc := cL_root) (maxL := 6) (ret := (some .int)) (hh := [(0, 9, 12, 13), (0, 9, 16, 15)]) (by decide) rfl ?_
  intro p e s m args below meth c s₁ B9 hml hv
  obtain ⟨rfl, ⟨hsz, hP, hK, hD0⟩, hB⟩ := hv
  have hx := B9.exec
  have hb := B9.bytes
  have hr := B9.returns
  have hts := fun (w : Cond) (h : w ∈ gw) => atoms_spec (ws := _ :: gw) B9.pre w (List.mem_cons_of_mem _ h)
  have hown : s.vm.findClass RL = some m.cls := findClass_of_methodNamed B9.named
  have hlocks := B9.notSynchronized
  have hl := lv_entry ([.ref (q 0), .int (ri), .int (b9), .int (t9), .int (v)]) (n := 6) (Nat.le_of_ble_eq_true rfl)
  rw [lg_entry_eq]
  generalize (lg_sl ([.ref (q 0), .int (ri), .int (b9), .int (t9), .int (v)]) ++ List.replicate (6 - (lg_sl ([.ref (q 0), .int (ri), .int (b9), .int (t9), .int (v)])).length) Slot.unset).toArray = ls at hl ⊢
  have hl : lv_has ls 6 [(0, .ref (q 0)), (1, .int (ri)), (2, .int (b9)), (3, .int (t9)), (4, .int (v))] := hl
  subst hsz
  have hD := hD0.self (sz := s.heap.size)
  generalize hAe : va_A (xW cI cZ q A B T P Y G) s.heap.size = A9 at hD ⊢
  have hA : ∀ z : Nat, s.heap.size ≤ z → A9 z := fun z h => by rw [← hAe]; exact Or.inr h
  have hS : va_S A9 s.heap s.heap [] := va_S.rf
  refine lv_aload_n hx hb dL_root_0 rfl (lv_at hl 0 rfl) ?_
  refine lv_iload_n hx hb dL_root_1 rfl (lv_at hl 1 rfl) ?_
  refine lv_iload_n hx hb dL_root_2 rfl (lv_at hl 2 rfl) ?_
  refine lv_iload_n hx hb dL_root_3 rfl (lv_at hl 3 rfl) ?_
  refine lv_iload hx hb dL_root_4 (lv_at hl 4 rfl) ?_
  obtain ⟨m9, meth9, c9, hn9, hm9, hc9, -, -, hex, -⟩ := Cond.codeWith_spec (atoms_spec (ws := _ :: gw) B9.pre _ List.mem_cons_self)
  cases B9.named.symm.trans hn9
  cases B9.method.symm.trans hm9
  cases (Stand.of_body B9).code.symm.trans hc9
  have hex := kt_rows _ _ hex
  refine tx_callV (C := RX) (b := q 0) (As := [.int (ri), .int (b9), .int (t9), .int (v)]) (rest := []) ⟨hx, hb, hml, hown, hts⟩ (tX_root_a l hst (q 0) ri b9 t9 v hbad) (cwV 4 hts (gw_V w_79 w_80 w_81 w_14 w_82) rfl rfl rfl (by decide) ⟨Nat.le_of_ble_eq_true rfl, Nat.le_of_ble_eq_true rfl⟩) ⟨tx_blind, (va_recv hK hP (ci := 0) rfl (q0 := 0) rfl), tx_pre hB (fun _ _ => rfl)⟩ rfl hl.1 rfl (Nat.le_of_ble_eq_true rfl) dL_root_6 ⟨Nat.le_of_ble_eq_true rfl, Nat.le_of_ble_eq_true rfl⟩ (fun z ce H hz1 hk1 h1 h2 h3 => ?_)
  refine tx_catch (E := iae) (name := iae) hown [] ⟨0, 9, 12, 13⟩ [⟨0, 9, 16, 15⟩] hex (fun z hz => nomatch hz) (by decide) (by decide) (hts _ w_77) ((hB _).2.1 (Cond.castable iae iae) (by decide +kernel)) h1 h2 h3 ?_
  have hP : va_P D vwCl (xW cI cZ q A B T P Y G) H := hP.kept (fun k9 x9 h9 => hk1 x9.1 (hP k9 x9 h9).lt)
  have hS : va_S A9 s.heap H [] := ⟨hz1, fun x9 h9 _ => hk1 x9 h9, fun _ h9 => nomatch h9⟩
  refine lv_astore hx hb dL_root_12 hl (by decide) rfl (fun ls hl => ?_)
  have hl : lv_has ls 6 [(5, .ref (z)), (0, .ref (q 0)), (1, .int (ri)), (2, .int (b9)), (3, .int (t9)), (4, .int (v))] := hl
  refine lv_iconst (v := 1) hx hb dL_root_14 (by decide) ?_
  exact W.iret (v := 1) hx hb hr (fun t9 ht hW => ⟨rfl, by rw [ht]; exact hP, hD, hS.F ht⟩) hS.2.2 dL_root_15

set_option maxRecDepth 100000 in
set_option maxHeartbeats 4000000 in
theorem mL_root_b (l : Launch) (hst : l.stackTraces = false) (D : va_G) (cI cZ : ClassId) (q : Nat → Nat) (A B T P Y : Nat → Int32) (G : Nat → Bool) (sz : Nat) (ri b9 t9 v : Int32) (hbt : un b9 ≤ un t9) (hv0 : ¬ v < 0) (hv : v ≤ 255) (hbad : ¬ vp_in ri 16) : Met l yL_root (Cond.codeWith yL_root cL_root 6 (some .int) [(0, 9, 12, 13), (0, 9, 16, 15)] :: gw) (rmk 8 1 6) (va_Pc [.ref (q 0), .int (ri), .int (b9), .int (t9), .int (v)] (fun U => kB D vwCl (xW cI cZ q A B T P Y G) (tsX cI cZ) sz U ∧ tx_B U)) (kQ (some (.int 2)) D vwCl (xW cI cZ q A B T P Y G) (va_A (xW cI cZ q A B T P Y G) sz)) 1 6 (va_A (xW cI cZ q A B T P Y G) sz) := by
  refine va_MetW (cc := cL_root) (maxL := 6) (ret := (some .int)) (hh := [(0, 9, 12, 13), (0, 9, 16, 15)]) (by decide) rfl ?_
  intro p e s m args below meth c s₁ B9 hml hv
  obtain ⟨rfl, ⟨hsz, hP, hK, hD0⟩, hB⟩ := hv
  have hx := B9.exec
  have hb := B9.bytes
  have hr := B9.returns
  have hts := fun (w : Cond) (h : w ∈ gw) => atoms_spec (ws := _ :: gw) B9.pre w (List.mem_cons_of_mem _ h)
  have hown : s.vm.findClass RL = some m.cls := findClass_of_methodNamed B9.named
  have hlocks := B9.notSynchronized
  have hl := lv_entry ([.ref (q 0), .int (ri), .int (b9), .int (t9), .int (v)]) (n := 6) (Nat.le_of_ble_eq_true rfl)
  rw [lg_entry_eq]
  generalize (lg_sl ([.ref (q 0), .int (ri), .int (b9), .int (t9), .int (v)]) ++ List.replicate (6 - (lg_sl ([.ref (q 0), .int (ri), .int (b9), .int (t9), .int (v)])).length) Slot.unset).toArray = ls at hl ⊢
  have hl : lv_has ls 6 [(0, .ref (q 0)), (1, .int (ri)), (2, .int (b9)), (3, .int (t9)), (4, .int (v))] := hl
  subst hsz
  have hD := hD0.self (sz := s.heap.size)
  generalize hAe : va_A (xW cI cZ q A B T P Y G) s.heap.size = A9 at hD ⊢
  have hA : ∀ z : Nat, s.heap.size ≤ z → A9 z := fun z h => by rw [← hAe]; exact Or.inr h
  have hS : va_S A9 s.heap s.heap [] := va_S.rf
  refine lv_aload_n hx hb dL_root_0 rfl (lv_at hl 0 rfl) ?_
  refine lv_iload_n hx hb dL_root_1 rfl (lv_at hl 1 rfl) ?_
  refine lv_iload_n hx hb dL_root_2 rfl (lv_at hl 2 rfl) ?_
  refine lv_iload_n hx hb dL_root_3 rfl (lv_at hl 3 rfl) ?_
  refine lv_iload hx hb dL_root_4 (lv_at hl 4 rfl) ?_
  obtain ⟨m9, meth9, c9, hn9, hm9, hc9, -, -, hex, -⟩ := Cond.codeWith_spec (atoms_spec (ws := _ :: gw) B9.pre _ List.mem_cons_self)
  cases B9.named.symm.trans hn9
  cases B9.method.symm.trans hm9
  cases (Stand.of_body B9).code.symm.trans hc9
  have hex := kt_rows _ _ hex
  refine tx_callV (C := RX) (b := q 0) (As := [.int (ri), .int (b9), .int (t9), .int (v)]) (rest := []) ⟨hx, hb, hml, hown, hts⟩ (tX_root_b l hst (q 0) ri b9 t9 v hbt hv0 hv hbad) (cwV 4 hts (gw_V w_79 w_80 w_81 w_14 w_82) rfl rfl rfl (by decide) ⟨Nat.le_of_ble_eq_true rfl, Nat.le_of_ble_eq_true rfl⟩) ⟨tx_blind, (va_recv hK hP (ci := 0) rfl (q0 := 0) rfl), tx_pre hB (fun _ _ => rfl)⟩ rfl hl.1 rfl (Nat.le_of_ble_eq_true rfl) dL_root_6 ⟨Nat.le_of_ble_eq_true rfl, Nat.le_of_ble_eq_true rfl⟩ (fun z ce H hz1 hk1 h1 h2 h3 => ?_)
  refine tx_catch (E := iob) (name := iob) hown [⟨0, 9, 12, 13⟩] ⟨0, 9, 16, 15⟩ [] hex (fun z hz => by rcases List.mem_cons.mp hz with rfl | hz; exact ⟨by decide, by decide, iae, (hts _ w_77), (hB #[]).2.2.2⟩; exact nomatch hz) (by decide) (by decide) (hts _ w_78) ((hB _).1 (Cond.castable iob iob) (by decide +kernel)) h1 h2 h3 ?_
  have hP : va_P D vwCl (xW cI cZ q A B T P Y G) H := hP.kept (fun k9 x9 h9 => hk1 x9.1 (hP k9 x9 h9).lt)
  have hS : va_S A9 s.heap H [] := ⟨hz1, fun x9 h9 _ => hk1 x9 h9, fun _ h9 => nomatch h9⟩
  refine lv_astore hx hb dL_root_16 hl (by decide) rfl (fun ls hl => ?_)
  have hl : lv_has ls 6 [(5, .ref (z)), (0, .ref (q 0)), (1, .int (ri)), (2, .int (b9)), (3, .int (t9)), (4, .int (v))] := hl
  refine lv_iconst (v := 2) hx hb dL_root_18 (by decide) ?_
  exact W.iret (v := 2) hx hb hr (fun t9 ht hW => ⟨rfl, by rw [ht]; exact hP, hD, hS.F ht⟩) hS.2.2 dL_root_19

set_option maxRecDepth 100000 in
set_option maxHeartbeats 4000000 in
theorem mL_number_y (l : Launch) (hst : l.stackTraces = false) (D : va_G) (cI cZ : ClassId) (q : Nat → Nat) (A B T P Y : Nat → Int32) (G : Nat → Bool) (sz : Nat) (ri v : Int32) (hri : vp_in ri 16) : Met l yL_number (Cond.codeWith yL_number cL_number 4 (some .int) [(0, 6, 9, 15)] :: gw) (rmk 8 1 6) (va_Pc [.ref (q 0), .int (ri), .int (v)] (fun U => kB D vwCl (xW cI cZ q A B T P Y G) (tsX cI cZ) sz U ∧ tx_B U)) (kQ (some (.int 0)) D vwCl (xW cI cZ q (upd A ri.toNatClampNeg (v)) (upd B ri.toNatClampNeg (0)) (upd T ri.toNatClampNeg (0)) (upd P ri.toNatClampNeg (0)) (upd Y ri.toNatClampNeg (0)) (ub G ri.toNatClampNeg (false))) (va_A (xW cI cZ q A B T P Y G) sz)) 1 6 (va_A (xW cI cZ q A B T P Y G) sz) := by
  refine va_MetW (cc := cL_number) (maxL := 4) (ret := (some .int)) (hh := [(0, 6, 9, 15)]) (by decide) rfl ?_
  intro p e s m args below meth c s₁ B9 hml hv
  obtain ⟨rfl, ⟨hsz, hP, hK, hD0⟩, hB⟩ := hv
  have hx := B9.exec
  have hb := B9.bytes
  have hr := B9.returns
  have hts := fun (w : Cond) (h : w ∈ gw) => atoms_spec (ws := _ :: gw) B9.pre w (List.mem_cons_of_mem _ h)
  have hown : s.vm.findClass RL = some m.cls := findClass_of_methodNamed B9.named
  have hlocks := B9.notSynchronized
  have hl := lv_entry ([.ref (q 0), .int (ri), .int (v)]) (n := 4) (Nat.le_of_ble_eq_true rfl)
  rw [lg_entry_eq]
  generalize (lg_sl ([.ref (q 0), .int (ri), .int (v)]) ++ List.replicate (4 - (lg_sl ([.ref (q 0), .int (ri), .int (v)])).length) Slot.unset).toArray = ls at hl ⊢
  have hl : lv_has ls 4 [(0, .ref (q 0)), (1, .int (ri)), (2, .int (v))] := hl
  subst hsz
  have hD := hD0.self (sz := s.heap.size)
  generalize hAe : va_A (xW cI cZ q A B T P Y G) s.heap.size = A9 at hD ⊢
  have hA : ∀ z : Nat, s.heap.size ≤ z → A9 z := fun z h => by rw [← hAe]; exact Or.inr h
  have hS : va_S A9 s.heap s.heap [] := va_S.rf
  refine lv_aload_n hx hb dL_number_0 rfl (lv_at hl 0 rfl) ?_
  refine lv_iload_n hx hb dL_number_1 rfl (lv_at hl 1 rfl) ?_
  refine lv_iload_n hx hb dL_number_2 rfl (lv_at hl 2 rfl) ?_
  refine kw_V 2 [0, 1, 2, 3, 4, 5, 6] [] (b := q 0) (As := [.int (ri), .int (v)]) (rest := []) (wc := xW cI cZ q A B T P Y G) (wr := []) (w1 := xW cI cZ q (upd A ri.toNatClampNeg (v)) (upd B ri.toNatClampNeg (0)) (upd T ri.toNatClampNeg (0)) (upd P ri.toNatClampNeg (0)) (upd Y ri.toNatClampNeg (0)) (ub G ri.toNatClampNeg (false))) hx hb hml hown hts hl.1 hP hD hS hA (hK.sub (tys' := tsX cI cZ) [0, 1] rfl) (mX_number l D cI cZ q A B T P Y G _ ri v hri) (gw_V w_173 w_174 w_175 w_14 w_176) (by decide) ⟨rfl, rfl⟩ ⟨Nat.le_of_ble_eq_true rfl, Nat.le_of_ble_eq_true rfl⟩ (va_recv hK hP (ci := 0) rfl (q0 := 0) rfl) rfl rfl (Nat.le_of_ble_eq_true rfl) dL_number_3 ⟨Nat.zero_le _, Nat.zero_le _⟩ rfl rfl ⟨by decide, by decide⟩ (by decide) (fun H locs hP hD hS => ?_)
  have hP : va_P D vwCl (xW cI cZ q (upd A ri.toNatClampNeg (v)) (upd B ri.toNatClampNeg (0)) (upd T ri.toNatClampNeg (0)) (upd P ri.toNatClampNeg (0)) (upd Y ri.toNatClampNeg (0)) (ub G ri.toNatClampNeg (false))) H := hP
  have hD : va_D A9 (xW cI cZ q (upd A ri.toNatClampNeg (v)) (upd B ri.toNatClampNeg (0)) (upd T ri.toNatClampNeg (0)) (upd P ri.toNatClampNeg (0)) (upd Y ri.toNatClampNeg (0)) (ub G ri.toNatClampNeg (false))) := hD
  refine W.eq (g2 := F0 m 6 ls []) rfl ?_
  refine lv_goto (tgt := 12) hx hb dL_number_6 (by decide) ?_
  refine lv_iconst (v := 0) hx hb dL_number_12 (by decide) ?_
  refine W.widen (k := 1) (n := 6) (Nat.le_of_ble_eq_true rfl) (Nat.le_of_ble_eq_true rfl) ?_
  exact W.iret (v := 0) hx hb hr (fun t9 ht hW => ⟨rfl, by rw [ht]; exact hP, hD, hS.F ht⟩) hS.2.2 dL_number_13

set_option maxRecDepth 100000 in
set_option maxHeartbeats 4000000 in
theorem mL_number_n (l : Launch) (hst : l.stackTraces = false) (D : va_G) (cI cZ : ClassId) (q : Nat → Nat) (A B T P Y : Nat → Int32) (G : Nat → Bool) (sz : Nat) (ri v : Int32) (hbad : ¬ vp_in ri 16) : Met l yL_number (Cond.codeWith yL_number cL_number 4 (some .int) [(0, 6, 9, 15)] :: gw) (rmk 8 1 6) (va_Pc [.ref (q 0), .int (ri), .int (v)] (fun U => kB D vwCl (xW cI cZ q A B T P Y G) (tsX cI cZ) sz U ∧ tx_B U)) (kQ (some (.int 1)) D vwCl (xW cI cZ q A B T P Y G) (va_A (xW cI cZ q A B T P Y G) sz)) 1 6 (va_A (xW cI cZ q A B T P Y G) sz) := by
  refine va_MetW (cc := cL_number) (maxL := 4) (ret := (some .int)) (hh := [(0, 6, 9, 15)]) (by decide) rfl ?_
  intro p e s m args below meth c s₁ B9 hml hv
  obtain ⟨rfl, ⟨hsz, hP, hK, hD0⟩, hB⟩ := hv
  have hx := B9.exec
  have hb := B9.bytes
  have hr := B9.returns
  have hts := fun (w : Cond) (h : w ∈ gw) => atoms_spec (ws := _ :: gw) B9.pre w (List.mem_cons_of_mem _ h)
  have hown : s.vm.findClass RL = some m.cls := findClass_of_methodNamed B9.named
  have hlocks := B9.notSynchronized
  have hl := lv_entry ([.ref (q 0), .int (ri), .int (v)]) (n := 4) (Nat.le_of_ble_eq_true rfl)
  rw [lg_entry_eq]
  generalize (lg_sl ([.ref (q 0), .int (ri), .int (v)]) ++ List.replicate (4 - (lg_sl ([.ref (q 0), .int (ri), .int (v)])).length) Slot.unset).toArray = ls at hl ⊢
  have hl : lv_has ls 4 [(0, .ref (q 0)), (1, .int (ri)), (2, .int (v))] := hl
  subst hsz
  have hD := hD0.self (sz := s.heap.size)
  generalize hAe : va_A (xW cI cZ q A B T P Y G) s.heap.size = A9 at hD ⊢
  have hA : ∀ z : Nat, s.heap.size ≤ z → A9 z := fun z h => by rw [← hAe]; exact Or.inr h
  have hS : va_S A9 s.heap s.heap [] := va_S.rf
  refine lv_aload_n hx hb dL_number_0 rfl (lv_at hl 0 rfl) ?_
  refine lv_iload_n hx hb dL_number_1 rfl (lv_at hl 1 rfl) ?_
  refine lv_iload_n hx hb dL_number_2 rfl (lv_at hl 2 rfl) ?_
  obtain ⟨m9, meth9, c9, hn9, hm9, hc9, -, -, hex, -⟩ := Cond.codeWith_spec (atoms_spec (ws := _ :: gw) B9.pre _ List.mem_cons_self)
  cases B9.named.symm.trans hn9
  cases B9.method.symm.trans hm9
  cases (Stand.of_body B9).code.symm.trans hc9
  have hex := kt_rows _ _ hex
  refine tx_callV (C := RX) (b := q 0) (As := [.int (ri), .int (v)]) (rest := []) ⟨hx, hb, hml, hown, hts⟩ (tX_number l hst (q 0) ri v hbad) (cwV 2 hts (gw_V w_173 w_174 w_175 w_14 w_176) rfl rfl rfl (by decide) ⟨Nat.le_of_ble_eq_true rfl, Nat.le_of_ble_eq_true rfl⟩) ⟨tx_blind, (va_recv hK hP (ci := 0) rfl (q0 := 0) rfl), tx_pre hB (fun _ _ => rfl)⟩ rfl hl.1 rfl (Nat.le_of_ble_eq_true rfl) dL_number_3 ⟨Nat.le_of_ble_eq_true rfl, Nat.le_of_ble_eq_true rfl⟩ (fun z ce H hz1 hk1 h1 h2 h3 => ?_)
  refine tx_catch (E := iob) (name := iob) hown [] ⟨0, 6, 9, 15⟩ [] hex (fun z hz => nomatch hz) (by decide) (by decide) (hts _ w_78) ((hB _).1 (Cond.castable iob iob) (by decide +kernel)) h1 h2 h3 ?_
  have hP : va_P D vwCl (xW cI cZ q A B T P Y G) H := hP.kept (fun k9 x9 h9 => hk1 x9.1 (hP k9 x9 h9).lt)
  have hS : va_S A9 s.heap H [] := ⟨hz1, fun x9 h9 _ => hk1 x9 h9, fun _ h9 => nomatch h9⟩
  refine lv_astore_n hx hb dL_number_9 rfl hl (by decide) rfl (fun ls hl => ?_)
  have hl : lv_has ls 4 [(3, .ref (z)), (0, .ref (q 0)), (1, .int (ri)), (2, .int (v))] := hl
  refine lv_iconst (v := 1) hx hb dL_number_10 (by decide) ?_
  exact W.iret (v := 1) hx hb hr (fun t9 ht hW => ⟨rfl, by rw [ht]; exact hP, hD, hS.F ht⟩) hS.2.2 dL_number_11

set_option maxRecDepth 100000 in
set_option maxHeartbeats 4000000 in
theorem mL_move_y (l : Launch) (hst : l.stackTraces = false) (D : va_G) (cI cZ : ClassId) (q : Nat → Nat) (A B T P Y : Nat → Int32) (G : Nat → Bool) (sz : Nat) (ri si v : Int32) (hri : vp_in ri 16) (hsi : vp_in si 16) : Met l yL_move (Cond.codeWith yL_move cL_move 5 (some .int) [(0, 7, 10, 15)] :: gw) (rmk 8 1 6) (va_Pc [.ref (q 0), .int (ri), .int (si), .int (v)] (fun U => kB D vwCl (xW cI cZ q A B T P Y G) (tsX cI cZ) sz U ∧ tx_B U)) (kQ (some (.int 0)) D vwCl (xW cI cZ q (upd A ri.toNatClampNeg ((A si.toNatClampNeg) + (v))) (upd B ri.toNatClampNeg (B si.toNatClampNeg)) (upd T ri.toNatClampNeg (T si.toNatClampNeg)) (upd P ri.toNatClampNeg (P si.toNatClampNeg)) (upd Y ri.toNatClampNeg (Y si.toNatClampNeg)) (ub G ri.toNatClampNeg ((G si.toNatClampNeg && (decide (Y si.toNatClampNeg = 0) || decide (v = 0)))))) (va_A (xW cI cZ q A B T P Y G) sz)) 1 6 (va_A (xW cI cZ q A B T P Y G) sz) := by
  refine va_MetW (cc := cL_move) (maxL := 5) (ret := (some .int)) (hh := [(0, 7, 10, 15)]) (by decide) rfl ?_
  intro p e s m args below meth c s₁ B9 hml hv
  obtain ⟨rfl, ⟨hsz, hP, hK, hD0⟩, hB⟩ := hv
  have hx := B9.exec
  have hb := B9.bytes
  have hr := B9.returns
  have hts := fun (w : Cond) (h : w ∈ gw) => atoms_spec (ws := _ :: gw) B9.pre w (List.mem_cons_of_mem _ h)
  have hown : s.vm.findClass RL = some m.cls := findClass_of_methodNamed B9.named
  have hlocks := B9.notSynchronized
  have hl := lv_entry ([.ref (q 0), .int (ri), .int (si), .int (v)]) (n := 5) (Nat.le_of_ble_eq_true rfl)
  rw [lg_entry_eq]
  generalize (lg_sl ([.ref (q 0), .int (ri), .int (si), .int (v)]) ++ List.replicate (5 - (lg_sl ([.ref (q 0), .int (ri), .int (si), .int (v)])).length) Slot.unset).toArray = ls at hl ⊢
  have hl : lv_has ls 5 [(0, .ref (q 0)), (1, .int (ri)), (2, .int (si)), (3, .int (v))] := hl
  subst hsz
  have hD := hD0.self (sz := s.heap.size)
  generalize hAe : va_A (xW cI cZ q A B T P Y G) s.heap.size = A9 at hD ⊢
  have hA : ∀ z : Nat, s.heap.size ≤ z → A9 z := fun z h => by rw [← hAe]; exact Or.inr h
  have hS : va_S A9 s.heap s.heap [] := va_S.rf
  refine lv_aload_n hx hb dL_move_0 rfl (lv_at hl 0 rfl) ?_
  refine lv_iload_n hx hb dL_move_1 rfl (lv_at hl 1 rfl) ?_
  refine lv_iload_n hx hb dL_move_2 rfl (lv_at hl 2 rfl) ?_
  refine lv_iload_n hx hb dL_move_3 rfl (lv_at hl 3 rfl) ?_
  refine kw_V 3 [0, 1, 2, 3, 4, 5, 6] [] (b := q 0) (As := [.int (ri), .int (si), .int (v)]) (rest := []) (wc := xW cI cZ q A B T P Y G) (wr := []) (w1 := xW cI cZ q (upd A ri.toNatClampNeg ((A si.toNatClampNeg) + (v))) (upd B ri.toNatClampNeg (B si.toNatClampNeg)) (upd T ri.toNatClampNeg (T si.toNatClampNeg)) (upd P ri.toNatClampNeg (P si.toNatClampNeg)) (upd Y ri.toNatClampNeg (Y si.toNatClampNeg)) (ub G ri.toNatClampNeg ((G si.toNatClampNeg && (decide (Y si.toNatClampNeg = 0) || decide (v = 0)))))) hx hb hml hown hts hl.1 hP hD hS hA (hK.sub (tys' := tsX cI cZ) [0, 1] rfl) (mX_move l D cI cZ q A B T P Y G _ ri si v hri hsi) (gw_V w_180 w_181 w_182 w_14 w_183) (by decide) ⟨rfl, rfl⟩ ⟨Nat.le_of_ble_eq_true rfl, Nat.le_of_ble_eq_true rfl⟩ (va_recv hK hP (ci := 0) rfl (q0 := 0) rfl) rfl rfl (Nat.le_of_ble_eq_true rfl) dL_move_4 ⟨Nat.zero_le _, Nat.zero_le _⟩ rfl rfl ⟨by decide, by decide⟩ (by decide) (fun H locs hP hD hS => ?_)
  have hP : va_P D vwCl (xW cI cZ q (upd A ri.toNatClampNeg ((A si.toNatClampNeg) + (v))) (upd B ri.toNatClampNeg (B si.toNatClampNeg)) (upd T ri.toNatClampNeg (T si.toNatClampNeg)) (upd P ri.toNatClampNeg (P si.toNatClampNeg)) (upd Y ri.toNatClampNeg (Y si.toNatClampNeg)) (ub G ri.toNatClampNeg ((G si.toNatClampNeg && (decide (Y si.toNatClampNeg = 0) || decide (v = 0)))))) H := hP
  have hD : va_D A9 (xW cI cZ q (upd A ri.toNatClampNeg ((A si.toNatClampNeg) + (v))) (upd B ri.toNatClampNeg (B si.toNatClampNeg)) (upd T ri.toNatClampNeg (T si.toNatClampNeg)) (upd P ri.toNatClampNeg (P si.toNatClampNeg)) (upd Y ri.toNatClampNeg (Y si.toNatClampNeg)) (ub G ri.toNatClampNeg ((G si.toNatClampNeg && (decide (Y si.toNatClampNeg = 0) || decide (v = 0)))))) := hD
  refine W.eq (g2 := F0 m 7 ls []) rfl ?_
  refine lv_goto (tgt := 14) hx hb dL_move_7 (by decide) ?_
  refine lv_iconst (v := 0) hx hb dL_move_14 (by decide) ?_
  refine W.widen (k := 1) (n := 6) (Nat.le_of_ble_eq_true rfl) (Nat.le_of_ble_eq_true rfl) ?_
  exact W.iret (v := 0) hx hb hr (fun t9 ht hW => ⟨rfl, by rw [ht]; exact hP, hD, hS.F ht⟩) hS.2.2 dL_move_15

set_option maxRecDepth 100000 in
set_option maxHeartbeats 4000000 in
theorem mL_move_n (l : Launch) (hst : l.stackTraces = false) (D : va_G) (cI cZ : ClassId) (q : Nat → Nat) (A B T P Y : Nat → Int32) (G : Nat → Bool) (sz : Nat) (ri si v : Int32) (hbad : ¬ (vp_in ri 16 ∧ vp_in si 16)) : Met l yL_move (Cond.codeWith yL_move cL_move 5 (some .int) [(0, 7, 10, 15)] :: gw) (rmk 8 1 6) (va_Pc [.ref (q 0), .int (ri), .int (si), .int (v)] (fun U => kB D vwCl (xW cI cZ q A B T P Y G) (tsX cI cZ) sz U ∧ tx_B U)) (kQ (some (.int 1)) D vwCl (xW cI cZ q A B T P Y G) (va_A (xW cI cZ q A B T P Y G) sz)) 1 6 (va_A (xW cI cZ q A B T P Y G) sz) := by
  refine va_MetW (cc := cL_move) (maxL := 5) (ret := (some .int)) (hh := [(0, 7, 10, 15)]) (by decide) rfl ?_
  intro p e s m args below meth c s₁ B9 hml hv
  obtain ⟨rfl, ⟨hsz, hP, hK, hD0⟩, hB⟩ := hv
  have hx := B9.exec
  have hb := B9.bytes
  have hr := B9.returns
  have hts := fun (w : Cond) (h : w ∈ gw) => atoms_spec (ws := _ :: gw) B9.pre w (List.mem_cons_of_mem _ h)
  have hown : s.vm.findClass RL = some m.cls := findClass_of_methodNamed B9.named
  have hlocks := B9.notSynchronized
  have hl := lv_entry ([.ref (q 0), .int (ri), .int (si), .int (v)]) (n := 5) (Nat.le_of_ble_eq_true rfl)
  rw [lg_entry_eq]
  generalize (lg_sl ([.ref (q 0), .int (ri), .int (si), .int (v)]) ++ List.replicate (5 - (lg_sl ([.ref (q 0), .int (ri), .int (si), .int (v)])).length) Slot.unset).toArray = ls at hl ⊢
  have hl : lv_has ls 5 [(0, .ref (q 0)), (1, .int (ri)), (2, .int (si)), (3, .int (v))] := hl
  subst hsz
  have hD := hD0.self (sz := s.heap.size)
  generalize hAe : va_A (xW cI cZ q A B T P Y G) s.heap.size = A9 at hD ⊢
  have hA : ∀ z : Nat, s.heap.size ≤ z → A9 z := fun z h => by rw [← hAe]; exact Or.inr h
  have hS : va_S A9 s.heap s.heap [] := va_S.rf
  refine lv_aload_n hx hb dL_move_0 rfl (lv_at hl 0 rfl) ?_
  refine lv_iload_n hx hb dL_move_1 rfl (lv_at hl 1 rfl) ?_
  refine lv_iload_n hx hb dL_move_2 rfl (lv_at hl 2 rfl) ?_
  refine lv_iload_n hx hb dL_move_3 rfl (lv_at hl 3 rfl) ?_
  obtain ⟨m9, meth9, c9, hn9, hm9, hc9, -, -, hex, -⟩ := Cond.codeWith_spec (atoms_spec (ws := _ :: gw) B9.pre _ List.mem_cons_self)
  cases B9.named.symm.trans hn9
  cases B9.method.symm.trans hm9
  cases (Stand.of_body B9).code.symm.trans hc9
  have hex := kt_rows _ _ hex
  refine tx_callV (C := RX) (b := q 0) (As := [.int (ri), .int (si), .int (v)]) (rest := []) ⟨hx, hb, hml, hown, hts⟩ (tX_move l hst (q 0) ri si v hbad) (cwV 3 hts (gw_V w_180 w_181 w_182 w_14 w_183) rfl rfl rfl (by decide) ⟨Nat.le_of_ble_eq_true rfl, Nat.le_of_ble_eq_true rfl⟩) ⟨tx_blind, (va_recv hK hP (ci := 0) rfl (q0 := 0) rfl), tx_pre hB (fun _ _ => rfl)⟩ rfl hl.1 rfl (Nat.le_of_ble_eq_true rfl) dL_move_4 ⟨Nat.le_of_ble_eq_true rfl, Nat.le_of_ble_eq_true rfl⟩ (fun z ce H hz1 hk1 h1 h2 h3 => ?_)
  refine tx_catch (E := iob) (name := iob) hown [] ⟨0, 7, 10, 15⟩ [] hex (fun z hz => nomatch hz) (by decide) (by decide) (hts _ w_78) ((hB _).1 (Cond.castable iob iob) (by decide +kernel)) h1 h2 h3 ?_
  have hP : va_P D vwCl (xW cI cZ q A B T P Y G) H := hP.kept (fun k9 x9 h9 => hk1 x9.1 (hP k9 x9 h9).lt)
  have hS : va_S A9 s.heap H [] := ⟨hz1, fun x9 h9 _ => hk1 x9 h9, fun _ h9 => nomatch h9⟩
  refine lv_astore hx hb dL_move_10 hl (by decide) rfl (fun ls hl => ?_)
  have hl : lv_has ls 5 [(4, .ref (z)), (0, .ref (q 0)), (1, .int (ri)), (2, .int (si)), (3, .int (v))] := hl
  refine lv_iconst (v := 1) hx hb dL_move_12 (by decide) ?_
  exact W.iret (v := 1) hx hb hr (fun t9 ht hW => ⟨rfl, by rw [ht]; exact hP, hD, hS.F ht⟩) hS.2.2 dL_move_13

set_option maxRecDepth 100000 in
set_option maxHeartbeats 4000000 in
theorem mL_narrow_y (l : Launch) (hst : l.stackTraces = false) (D : va_G) (cI cZ cJ : ClassId) (q : Nat → Nat) (ob : Nat) (A B T P Y : Nat → Int32) (G : Nat → Bool) (V : Nat → Int64) (sz : Nat) (ri si v : Int32) (hri : vp_in ri 16) (hsi : vp_in si 16) : Met l yL_narrow (Cond.codeWith yL_narrow cL_narrow 6 (some .int) [(0, 19, 22, 15)] :: gw) (rmk 8 1 6) (va_Pc [.ref (q 0), .int (ri), .int (si), .int (v), .ref (ob)] (fun U => kB D vwCl (oW cI cZ cJ q ob A B T P Y G V) (tsO cI cZ cJ) sz U ∧ tx_B U)) (kQ (some (.int 0)) D vwCl (oW cI cZ cJ q ob (upd A ri.toNatClampNeg (A si.toNatClampNeg)) (upd B ri.toNatClampNeg (A si.toNatClampNeg)) (upd T ri.toNatClampNeg ((A si.toNatClampNeg) + (v))) (upd P ri.toNatClampNeg (P si.toNatClampNeg)) (upd Y ri.toNatClampNeg (Y si.toNatClampNeg)) (ub G ri.toNatClampNeg ((G si.toNatClampNeg && (decide (Y si.toNatClampNeg = 0) && ga_in (B si.toNatClampNeg) (T si.toNatClampNeg) (A si.toNatClampNeg) (un v))))) (vp_updL V 0 (bl (G si.toNatClampNeg && (decide (Y si.toNatClampNeg = 0) && ga_in (B si.toNatClampNeg) (T si.toNatClampNeg) (A si.toNatClampNeg) (un v)))))) (va_A (oW cI cZ cJ q ob A B T P Y G V) sz)) 1 6 (va_A (oW cI cZ cJ q ob A B T P Y G V) sz) := by
  refine va_MetW (cc := cL_narrow) (maxL := 6) (ret := (some .int)) (hh := [(0, 19, 22, 15)]) (by decide) rfl ?_
  intro p e s m args below meth c s₁ B9 hml hv
  obtain ⟨rfl, ⟨hsz, hP, hK, hD0⟩, hB⟩ := hv
  have hx := B9.exec
  have hb := B9.bytes
  have hr := B9.returns
  have hts := fun (w : Cond) (h : w ∈ gw) => atoms_spec (ws := _ :: gw) B9.pre w (List.mem_cons_of_mem _ h)
  have hown : s.vm.findClass RL = some m.cls := findClass_of_methodNamed B9.named
  have hlocks := B9.notSynchronized
  have hl := lv_entry ([.ref (q 0), .int (ri), .int (si), .int (v), .ref (ob)]) (n := 6) (Nat.le_of_ble_eq_true rfl)
  rw [lg_entry_eq]
  generalize (lg_sl ([.ref (q 0), .int (ri), .int (si), .int (v), .ref (ob)]) ++ List.replicate (6 - (lg_sl ([.ref (q 0), .int (ri), .int (si), .int (v), .ref (ob)])).length) Slot.unset).toArray = ls at hl ⊢
  have hl : lv_has ls 6 [(0, .ref (q 0)), (1, .int (ri)), (2, .int (si)), (3, .int (v)), (4, .ref (ob))] := hl
  subst hsz
  have hD := hD0.self (sz := s.heap.size)
  generalize hAe : va_A (oW cI cZ cJ q ob A B T P Y G V) s.heap.size = A9 at hD ⊢
  have hA : ∀ z : Nat, s.heap.size ≤ z → A9 z := fun z h => by rw [← hAe]; exact Or.inr h
  have hS : va_S A9 s.heap s.heap [] := va_S.rf
  refine lv_aload hx hb dL_narrow_0 (lv_at hl 4 rfl) ?_
  refine lv_iconst (v := 0) hx hb dL_narrow_2 (by decide) ?_
  refine lv_aload_n hx hb dL_narrow_3 rfl (lv_at hl 0 rfl) ?_
  refine lv_iload_n hx hb dL_narrow_4 rfl (lv_at hl 1 rfl) ?_
  refine lv_iload_n hx hb dL_narrow_5 rfl (lv_at hl 2 rfl) ?_
  refine lv_iload_n hx hb dL_narrow_6 rfl (lv_at hl 3 rfl) ?_
  refine kw_V 3 [0, 1, 2, 3, 4, 5, 6] [7] (b := q 0) (As := [.int (ri), .int (si), .int (v)]) (rest := [.int (0), .ref (ob)]) (wc := xW cI cZ q A B T P Y G) (wr := [(ob, .inl (cJ, 1, .inr (.inl V)))]) (w1 := xW cI cZ q (upd A ri.toNatClampNeg (A si.toNatClampNeg)) (upd B ri.toNatClampNeg (A si.toNatClampNeg)) (upd T ri.toNatClampNeg ((A si.toNatClampNeg) + (v))) (upd P ri.toNatClampNeg (P si.toNatClampNeg)) (upd Y ri.toNatClampNeg (Y si.toNatClampNeg)) (ub G ri.toNatClampNeg ((G si.toNatClampNeg && (decide (Y si.toNatClampNeg = 0) && ga_in (B si.toNatClampNeg) (T si.toNatClampNeg) (A si.toNatClampNeg) (un v)))))) hx hb hml hown hts hl.1 hP hD hS hA (hK.sub (tys' := tsX cI cZ) [0, 1] rfl) (mX_narrow l D cI cZ q A B T P Y G _ ri si v hri hsi) (gw_V w_191 w_192 w_193 w_14 w_194) (by decide) ⟨rfl, rfl⟩ ⟨Nat.le_of_ble_eq_true rfl, Nat.le_of_ble_eq_true rfl⟩ (va_recv hK hP (ci := 0) rfl (q0 := 0) rfl) rfl rfl (Nat.le_of_ble_eq_true rfl) dL_narrow_7 ⟨Nat.zero_le _, Nat.zero_le _⟩ rfl rfl ⟨by decide, by decide⟩ (by decide) (fun H locs hP hD hS => ?_)
  have hP : va_P D vwCl (oW cI cZ cJ q ob (upd A ri.toNatClampNeg (A si.toNatClampNeg)) (upd B ri.toNatClampNeg (A si.toNatClampNeg)) (upd T ri.toNatClampNeg ((A si.toNatClampNeg) + (v))) (upd P ri.toNatClampNeg (P si.toNatClampNeg)) (upd Y ri.toNatClampNeg (Y si.toNatClampNeg)) (ub G ri.toNatClampNeg ((G si.toNatClampNeg && (decide (Y si.toNatClampNeg = 0) && ga_in (B si.toNatClampNeg) (T si.toNatClampNeg) (A si.toNatClampNeg) (un v))))) V) H := hP.sub [1, 2, 3, 4, 5, 6, 7, 0] rfl
  have hD : va_D A9 (oW cI cZ cJ q ob (upd A ri.toNatClampNeg (A si.toNatClampNeg)) (upd B ri.toNatClampNeg (A si.toNatClampNeg)) (upd T ri.toNatClampNeg ((A si.toNatClampNeg) + (v))) (upd P ri.toNatClampNeg (P si.toNatClampNeg)) (upd Y ri.toNatClampNeg (Y si.toNatClampNeg)) (ub G ri.toNatClampNeg ((G si.toNatClampNeg && (decide (Y si.toNatClampNeg = 0) && ga_in (B si.toNatClampNeg) (T si.toNatClampNeg) (A si.toNatClampNeg) (un v))))) V) := hD.sub [1, 2, 3, 4, 5, 6, 7, 0] (by decide) rfl
  refine W.eq (g2 := F0 m 10 ls [.int (bi (G si.toNatClampNeg && (decide (Y si.toNatClampNeg = 0) && ga_in (B si.toNatClampNeg) (T si.toNatClampNeg) (A si.toNatClampNeg) (un v)))), .int (0), .ref (ob)]) rfl ?_
  refine lv_if_eq (tgt := 17) hx hb dL_narrow_10 (by decide) (fun h_1 => ?_) (fun h_1 => ?_)
  · have h_1 := bi_0 h_1
    refine lv_lconst (v := 0) hx hb dL_narrow_17 (by decide) ?_
    refine va_last hx hb hK hP hD hS 7 2 rfl rfl in01 dL_narrow_18 (fun H locs hP hD hS => ?_)
    have hP : va_P D vwCl (oW cI cZ cJ q ob (upd A ri.toNatClampNeg (A si.toNatClampNeg)) (upd B ri.toNatClampNeg (A si.toNatClampNeg)) (upd T ri.toNatClampNeg ((A si.toNatClampNeg) + (v))) (upd P ri.toNatClampNeg (P si.toNatClampNeg)) (upd Y ri.toNatClampNeg (Y si.toNatClampNeg)) (ub G ri.toNatClampNeg ((G si.toNatClampNeg && (decide (Y si.toNatClampNeg = 0) && ga_in (B si.toNatClampNeg) (T si.toNatClampNeg) (A si.toNatClampNeg) (un v))))) (vp_updL V 0 (0))) H := hP
    have hD : va_D A9 (oW cI cZ cJ q ob (upd A ri.toNatClampNeg (A si.toNatClampNeg)) (upd B ri.toNatClampNeg (A si.toNatClampNeg)) (upd T ri.toNatClampNeg ((A si.toNatClampNeg) + (v))) (upd P ri.toNatClampNeg (P si.toNatClampNeg)) (upd Y ri.toNatClampNeg (Y si.toNatClampNeg)) (ub G ri.toNatClampNeg ((G si.toNatClampNeg && (decide (Y si.toNatClampNeg = 0) && ga_in (B si.toNatClampNeg) (T si.toNatClampNeg) (A si.toNatClampNeg) (un v))))) (vp_updL V 0 (0))) := hD
    have e9 : bl (G si.toNatClampNeg && (decide (Y si.toNatClampNeg = 0) && ga_in (B si.toNatClampNeg) (T si.toNatClampNeg) (A si.toNatClampNeg) (un v))) = 0 := by rw [h_1]; rfl
    rw [← e9] at hP hD
    refine W.eq (g2 := F0 m 19 ls []) rfl ?_
    refine lv_goto (tgt := 26) hx hb dL_narrow_19 (by decide) ?_
    refine lv_iconst (v := 0) hx hb dL_narrow_26 (by decide) ?_
    refine W.widen (k := 1) (n := 6) (Nat.le_of_ble_eq_true rfl) (Nat.le_of_ble_eq_true rfl) ?_
    exact W.iret (v := 0) hx hb hr (fun t9 ht hW => ⟨rfl, by rw [ht]; exact hP, hD, hS.F ht⟩) hS.2.2 dL_narrow_27
  · have h_1 := bi_n h_1
    refine lv_lconst (v := 1) hx hb dL_narrow_13 (by decide) ?_
    refine lv_goto (tgt := 18) hx hb dL_narrow_14 (by decide) ?_
    refine va_last hx hb hK hP hD hS 7 2 rfl rfl in01 dL_narrow_18 (fun H locs hP hD hS => ?_)
    have hP : va_P D vwCl (oW cI cZ cJ q ob (upd A ri.toNatClampNeg (A si.toNatClampNeg)) (upd B ri.toNatClampNeg (A si.toNatClampNeg)) (upd T ri.toNatClampNeg ((A si.toNatClampNeg) + (v))) (upd P ri.toNatClampNeg (P si.toNatClampNeg)) (upd Y ri.toNatClampNeg (Y si.toNatClampNeg)) (ub G ri.toNatClampNeg ((G si.toNatClampNeg && (decide (Y si.toNatClampNeg = 0) && ga_in (B si.toNatClampNeg) (T si.toNatClampNeg) (A si.toNatClampNeg) (un v))))) (vp_updL V 0 (1))) H := hP
    have hD : va_D A9 (oW cI cZ cJ q ob (upd A ri.toNatClampNeg (A si.toNatClampNeg)) (upd B ri.toNatClampNeg (A si.toNatClampNeg)) (upd T ri.toNatClampNeg ((A si.toNatClampNeg) + (v))) (upd P ri.toNatClampNeg (P si.toNatClampNeg)) (upd Y ri.toNatClampNeg (Y si.toNatClampNeg)) (ub G ri.toNatClampNeg ((G si.toNatClampNeg && (decide (Y si.toNatClampNeg = 0) && ga_in (B si.toNatClampNeg) (T si.toNatClampNeg) (A si.toNatClampNeg) (un v))))) (vp_updL V 0 (1))) := hD
    have e9 : bl (G si.toNatClampNeg && (decide (Y si.toNatClampNeg = 0) && ga_in (B si.toNatClampNeg) (T si.toNatClampNeg) (A si.toNatClampNeg) (un v))) = 1 := by rw [h_1]; rfl
    rw [← e9] at hP hD
    refine W.eq (g2 := F0 m 19 ls []) rfl ?_
    refine lv_goto (tgt := 26) hx hb dL_narrow_19 (by decide) ?_
    refine lv_iconst (v := 0) hx hb dL_narrow_26 (by decide) ?_
    refine W.widen (k := 1) (n := 6) (Nat.le_of_ble_eq_true rfl) (Nat.le_of_ble_eq_true rfl) ?_
    exact W.iret (v := 0) hx hb hr (fun t9 ht hW => ⟨rfl, by rw [ht]; exact hP, hD, hS.F ht⟩) hS.2.2 dL_narrow_27

set_option maxRecDepth 100000 in
set_option maxHeartbeats 4000000 in
theorem mL_narrow_n (l : Launch) (hst : l.stackTraces = false) (D : va_G) (cI cZ cJ : ClassId) (q : Nat → Nat) (ob : Nat) (A B T P Y : Nat → Int32) (G : Nat → Bool) (V : Nat → Int64) (sz : Nat) (ri si v : Int32) (hbad : ¬ (vp_in ri 16 ∧ vp_in si 16)) : Met l yL_narrow (Cond.codeWith yL_narrow cL_narrow 6 (some .int) [(0, 19, 22, 15)] :: gw) (rmk 8 1 6) (va_Pc [.ref (q 0), .int (ri), .int (si), .int (v), .ref (ob)] (fun U => kB D vwCl (oW cI cZ cJ q ob A B T P Y G V) (tsO cI cZ cJ) sz U ∧ tx_B U)) (kQ (some (.int 1)) D vwCl (oW cI cZ cJ q ob A B T P Y G V) (va_A (oW cI cZ cJ q ob A B T P Y G V) sz)) 1 6 (va_A (oW cI cZ cJ q ob A B T P Y G V) sz) := by
  refine va_MetW (cc := cL_narrow) (maxL := 6) (ret := (some .int)) (hh := [(0, 19, 22, 15)]) (by decide) rfl ?_
  intro p e s m args below meth c s₁ B9 hml hv
  obtain ⟨rfl, ⟨hsz, hP, hK, hD0⟩, hB⟩ := hv
  have hx := B9.exec
  have hb := B9.bytes
  have hr := B9.returns
  have hts := fun (w : Cond) (h : w ∈ gw) => atoms_spec (ws := _ :: gw) B9.pre w (List.mem_cons_of_mem _ h)
  have hown : s.vm.findClass RL = some m.cls := findClass_of_methodNamed B9.named
  have hlocks := B9.notSynchronized
  have hl := lv_entry ([.ref (q 0), .int (ri), .int (si), .int (v), .ref (ob)]) (n := 6) (Nat.le_of_ble_eq_true rfl)
  rw [lg_entry_eq]
  generalize (lg_sl ([.ref (q 0), .int (ri), .int (si), .int (v), .ref (ob)]) ++ List.replicate (6 - (lg_sl ([.ref (q 0), .int (ri), .int (si), .int (v), .ref (ob)])).length) Slot.unset).toArray = ls at hl ⊢
  have hl : lv_has ls 6 [(0, .ref (q 0)), (1, .int (ri)), (2, .int (si)), (3, .int (v)), (4, .ref (ob))] := hl
  subst hsz
  have hD := hD0.self (sz := s.heap.size)
  generalize hAe : va_A (oW cI cZ cJ q ob A B T P Y G V) s.heap.size = A9 at hD ⊢
  have hA : ∀ z : Nat, s.heap.size ≤ z → A9 z := fun z h => by rw [← hAe]; exact Or.inr h
  have hS : va_S A9 s.heap s.heap [] := va_S.rf
  refine lv_aload hx hb dL_narrow_0 (lv_at hl 4 rfl) ?_
  refine lv_iconst (v := 0) hx hb dL_narrow_2 (by decide) ?_
  refine lv_aload_n hx hb dL_narrow_3 rfl (lv_at hl 0 rfl) ?_
  refine lv_iload_n hx hb dL_narrow_4 rfl (lv_at hl 1 rfl) ?_
  refine lv_iload_n hx hb dL_narrow_5 rfl (lv_at hl 2 rfl) ?_
  refine lv_iload_n hx hb dL_narrow_6 rfl (lv_at hl 3 rfl) ?_
  obtain ⟨m9, meth9, c9, hn9, hm9, hc9, -, -, hex, -⟩ := Cond.codeWith_spec (atoms_spec (ws := _ :: gw) B9.pre _ List.mem_cons_self)
  cases B9.named.symm.trans hn9
  cases B9.method.symm.trans hm9
  cases (Stand.of_body B9).code.symm.trans hc9
  have hex := kt_rows _ _ hex
  refine tx_callV (C := RX) (b := q 0) (As := [.int (ri), .int (si), .int (v)]) (rest := [.int (0), .ref (ob)]) ⟨hx, hb, hml, hown, hts⟩ (tX_narrow l hst (q 0) ri si v hbad) (cwV 3 hts (gw_V w_191 w_192 w_193 w_14 w_194) rfl rfl rfl (by decide) ⟨Nat.le_of_ble_eq_true rfl, Nat.le_of_ble_eq_true rfl⟩) ⟨tx_blind, (va_recv hK hP (ci := 0) rfl (q0 := 0) rfl), tx_pre hB (fun _ _ => rfl)⟩ rfl hl.1 rfl (Nat.le_of_ble_eq_true rfl) dL_narrow_7 ⟨Nat.le_of_ble_eq_true rfl, Nat.le_of_ble_eq_true rfl⟩ (fun z ce H hz1 hk1 h1 h2 h3 => ?_)
  refine tx_catch (E := iob) (name := iob) hown [] ⟨0, 19, 22, 15⟩ [] hex (fun z hz => nomatch hz) (by decide) (by decide) (hts _ w_78) ((hB _).1 (Cond.castable iob iob) (by decide +kernel)) h1 h2 h3 ?_
  have hP : va_P D vwCl (oW cI cZ cJ q ob A B T P Y G V) H := hP.kept (fun k9 x9 h9 => hk1 x9.1 (hP k9 x9 h9).lt)
  have hS : va_S A9 s.heap H [] := ⟨hz1, fun x9 h9 _ => hk1 x9 h9, fun _ h9 => nomatch h9⟩
  refine lv_astore hx hb dL_narrow_22 hl (by decide) rfl (fun ls hl => ?_)
  have hl : lv_has ls 6 [(5, .ref (z)), (0, .ref (q 0)), (1, .int (ri)), (2, .int (si)), (3, .int (v)), (4, .ref (ob))] := hl
  refine lv_iconst (v := 1) hx hb dL_narrow_24 (by decide) ?_
  exact W.iret (v := 1) hx hb hr (fun t9 ht hW => ⟨rfl, by rw [ht]; exact hP, hD, hS.F ht⟩) hS.2.2 dL_narrow_25

set_option maxRecDepth 100000 in
set_option maxHeartbeats 4000000 in
theorem mL_restrict_y (l : Launch) (hst : l.stackTraces = false) (D : va_G) (cI cZ cJ : ClassId) (q : Nat → Nat) (ob : Nat) (A B T P Y : Nat → Int32) (G : Nat → Bool) (V : Nat → Int64) (sz : Nat) (ri si v : Int32) (hri : vp_in ri 16) (hsi : vp_in si 16) : Met l yL_restrict (Cond.codeWith yL_restrict cL_restrict 6 (some .int) [(0, 19, 22, 15)] :: gw) (rmk 8 1 6) (va_Pc [.ref (q 0), .int (ri), .int (si), .int (v), .ref (ob)] (fun U => kB D vwCl (oW cI cZ cJ q ob A B T P Y G V) (tsO cI cZ cJ) sz U ∧ tx_B U)) (kQ (some (.int 0)) D vwCl (oW cI cZ cJ q ob (upd A ri.toNatClampNeg (A si.toNatClampNeg)) (upd B ri.toNatClampNeg (B si.toNatClampNeg)) (upd T ri.toNatClampNeg (T si.toNatClampNeg)) (upd P ri.toNatClampNeg ((P si.toNatClampNeg) &&& (v))) (upd Y ri.toNatClampNeg (Y si.toNatClampNeg)) (ub G ri.toNatClampNeg ((G si.toNatClampNeg && (decide (Y si.toNatClampNeg = 0) || decide ((P si.toNatClampNeg) &&& (v) = P si.toNatClampNeg))))) (vp_updL V 0 (bl (G si.toNatClampNeg && (decide (Y si.toNatClampNeg = 0) || decide ((P si.toNatClampNeg) &&& (v) = P si.toNatClampNeg)))))) (va_A (oW cI cZ cJ q ob A B T P Y G V) sz)) 1 6 (va_A (oW cI cZ cJ q ob A B T P Y G V) sz) := by
  refine va_MetW (cc := cL_restrict) (maxL := 6) (ret := (some .int)) (hh := [(0, 19, 22, 15)]) (by decide) rfl ?_
  intro p e s m args below meth c s₁ B9 hml hv
  obtain ⟨rfl, ⟨hsz, hP, hK, hD0⟩, hB⟩ := hv
  have hx := B9.exec
  have hb := B9.bytes
  have hr := B9.returns
  have hts := fun (w : Cond) (h : w ∈ gw) => atoms_spec (ws := _ :: gw) B9.pre w (List.mem_cons_of_mem _ h)
  have hown : s.vm.findClass RL = some m.cls := findClass_of_methodNamed B9.named
  have hlocks := B9.notSynchronized
  have hl := lv_entry ([.ref (q 0), .int (ri), .int (si), .int (v), .ref (ob)]) (n := 6) (Nat.le_of_ble_eq_true rfl)
  rw [lg_entry_eq]
  generalize (lg_sl ([.ref (q 0), .int (ri), .int (si), .int (v), .ref (ob)]) ++ List.replicate (6 - (lg_sl ([.ref (q 0), .int (ri), .int (si), .int (v), .ref (ob)])).length) Slot.unset).toArray = ls at hl ⊢
  have hl : lv_has ls 6 [(0, .ref (q 0)), (1, .int (ri)), (2, .int (si)), (3, .int (v)), (4, .ref (ob))] := hl
  subst hsz
  have hD := hD0.self (sz := s.heap.size)
  generalize hAe : va_A (oW cI cZ cJ q ob A B T P Y G V) s.heap.size = A9 at hD ⊢
  have hA : ∀ z : Nat, s.heap.size ≤ z → A9 z := fun z h => by rw [← hAe]; exact Or.inr h
  have hS : va_S A9 s.heap s.heap [] := va_S.rf
  refine lv_aload hx hb dL_restrict_0 (lv_at hl 4 rfl) ?_
  refine lv_iconst (v := 0) hx hb dL_restrict_2 (by decide) ?_
  refine lv_aload_n hx hb dL_restrict_3 rfl (lv_at hl 0 rfl) ?_
  refine lv_iload_n hx hb dL_restrict_4 rfl (lv_at hl 1 rfl) ?_
  refine lv_iload_n hx hb dL_restrict_5 rfl (lv_at hl 2 rfl) ?_
  refine lv_iload_n hx hb dL_restrict_6 rfl (lv_at hl 3 rfl) ?_
  refine kw_V 3 [0, 1, 2, 3, 4, 5, 6] [7] (b := q 0) (As := [.int (ri), .int (si), .int (v)]) (rest := [.int (0), .ref (ob)]) (wc := xW cI cZ q A B T P Y G) (wr := [(ob, .inl (cJ, 1, .inr (.inl V)))]) (w1 := xW cI cZ q (upd A ri.toNatClampNeg (A si.toNatClampNeg)) (upd B ri.toNatClampNeg (B si.toNatClampNeg)) (upd T ri.toNatClampNeg (T si.toNatClampNeg)) (upd P ri.toNatClampNeg ((P si.toNatClampNeg) &&& (v))) (upd Y ri.toNatClampNeg (Y si.toNatClampNeg)) (ub G ri.toNatClampNeg ((G si.toNatClampNeg && (decide (Y si.toNatClampNeg = 0) || decide ((P si.toNatClampNeg) &&& (v) = P si.toNatClampNeg)))))) hx hb hml hown hts hl.1 hP hD hS hA (hK.sub (tys' := tsX cI cZ) [0, 1] rfl) (mX_restrict l D cI cZ q A B T P Y G _ ri si v hri hsi) (gw_V w_198 w_199 w_200 w_14 w_201) (by decide) ⟨rfl, rfl⟩ ⟨Nat.le_of_ble_eq_true rfl, Nat.le_of_ble_eq_true rfl⟩ (va_recv hK hP (ci := 0) rfl (q0 := 0) rfl) rfl rfl (Nat.le_of_ble_eq_true rfl) dL_restrict_7 ⟨Nat.zero_le _, Nat.zero_le _⟩ rfl rfl ⟨by decide, by decide⟩ (by decide) (fun H locs hP hD hS => ?_)
  have hP : va_P D vwCl (oW cI cZ cJ q ob (upd A ri.toNatClampNeg (A si.toNatClampNeg)) (upd B ri.toNatClampNeg (B si.toNatClampNeg)) (upd T ri.toNatClampNeg (T si.toNatClampNeg)) (upd P ri.toNatClampNeg ((P si.toNatClampNeg) &&& (v))) (upd Y ri.toNatClampNeg (Y si.toNatClampNeg)) (ub G ri.toNatClampNeg ((G si.toNatClampNeg && (decide (Y si.toNatClampNeg = 0) || decide ((P si.toNatClampNeg) &&& (v) = P si.toNatClampNeg))))) V) H := hP.sub [1, 2, 3, 4, 5, 6, 7, 0] rfl
  have hD : va_D A9 (oW cI cZ cJ q ob (upd A ri.toNatClampNeg (A si.toNatClampNeg)) (upd B ri.toNatClampNeg (B si.toNatClampNeg)) (upd T ri.toNatClampNeg (T si.toNatClampNeg)) (upd P ri.toNatClampNeg ((P si.toNatClampNeg) &&& (v))) (upd Y ri.toNatClampNeg (Y si.toNatClampNeg)) (ub G ri.toNatClampNeg ((G si.toNatClampNeg && (decide (Y si.toNatClampNeg = 0) || decide ((P si.toNatClampNeg) &&& (v) = P si.toNatClampNeg))))) V) := hD.sub [1, 2, 3, 4, 5, 6, 7, 0] (by decide) rfl
  refine W.eq (g2 := F0 m 10 ls [.int (bi (G si.toNatClampNeg && (decide (Y si.toNatClampNeg = 0) || decide ((P si.toNatClampNeg) &&& (v) = P si.toNatClampNeg)))), .int (0), .ref (ob)]) rfl ?_
  refine lv_if_eq (tgt := 17) hx hb dL_restrict_10 (by decide) (fun h_1 => ?_) (fun h_1 => ?_)
  · have h_1 := bi_0 h_1
    refine lv_lconst (v := 0) hx hb dL_restrict_17 (by decide) ?_
    refine va_last hx hb hK hP hD hS 7 2 rfl rfl in01 dL_restrict_18 (fun H locs hP hD hS => ?_)
    have hP : va_P D vwCl (oW cI cZ cJ q ob (upd A ri.toNatClampNeg (A si.toNatClampNeg)) (upd B ri.toNatClampNeg (B si.toNatClampNeg)) (upd T ri.toNatClampNeg (T si.toNatClampNeg)) (upd P ri.toNatClampNeg ((P si.toNatClampNeg) &&& (v))) (upd Y ri.toNatClampNeg (Y si.toNatClampNeg)) (ub G ri.toNatClampNeg ((G si.toNatClampNeg && (decide (Y si.toNatClampNeg = 0) || decide ((P si.toNatClampNeg) &&& (v) = P si.toNatClampNeg))))) (vp_updL V 0 (0))) H := hP
    have hD : va_D A9 (oW cI cZ cJ q ob (upd A ri.toNatClampNeg (A si.toNatClampNeg)) (upd B ri.toNatClampNeg (B si.toNatClampNeg)) (upd T ri.toNatClampNeg (T si.toNatClampNeg)) (upd P ri.toNatClampNeg ((P si.toNatClampNeg) &&& (v))) (upd Y ri.toNatClampNeg (Y si.toNatClampNeg)) (ub G ri.toNatClampNeg ((G si.toNatClampNeg && (decide (Y si.toNatClampNeg = 0) || decide ((P si.toNatClampNeg) &&& (v) = P si.toNatClampNeg))))) (vp_updL V 0 (0))) := hD
    have e9 : bl (G si.toNatClampNeg && (decide (Y si.toNatClampNeg = 0) || decide ((P si.toNatClampNeg) &&& (v) = P si.toNatClampNeg))) = 0 := by rw [h_1]; rfl
    rw [← e9] at hP hD
    refine W.eq (g2 := F0 m 19 ls []) rfl ?_
    refine lv_goto (tgt := 26) hx hb dL_restrict_19 (by decide) ?_
    refine lv_iconst (v := 0) hx hb dL_restrict_26 (by decide) ?_
    refine W.widen (k := 1) (n := 6) (Nat.le_of_ble_eq_true rfl) (Nat.le_of_ble_eq_true rfl) ?_
    exact W.iret (v := 0) hx hb hr (fun t9 ht hW => ⟨rfl, by rw [ht]; exact hP, hD, hS.F ht⟩) hS.2.2 dL_restrict_27
  · have h_1 := bi_n h_1
    refine lv_lconst (v := 1) hx hb dL_restrict_13 (by decide) ?_
    refine lv_goto (tgt := 18) hx hb dL_restrict_14 (by decide) ?_
    refine va_last hx hb hK hP hD hS 7 2 rfl rfl in01 dL_restrict_18 (fun H locs hP hD hS => ?_)
    have hP : va_P D vwCl (oW cI cZ cJ q ob (upd A ri.toNatClampNeg (A si.toNatClampNeg)) (upd B ri.toNatClampNeg (B si.toNatClampNeg)) (upd T ri.toNatClampNeg (T si.toNatClampNeg)) (upd P ri.toNatClampNeg ((P si.toNatClampNeg) &&& (v))) (upd Y ri.toNatClampNeg (Y si.toNatClampNeg)) (ub G ri.toNatClampNeg ((G si.toNatClampNeg && (decide (Y si.toNatClampNeg = 0) || decide ((P si.toNatClampNeg) &&& (v) = P si.toNatClampNeg))))) (vp_updL V 0 (1))) H := hP
    have hD : va_D A9 (oW cI cZ cJ q ob (upd A ri.toNatClampNeg (A si.toNatClampNeg)) (upd B ri.toNatClampNeg (B si.toNatClampNeg)) (upd T ri.toNatClampNeg (T si.toNatClampNeg)) (upd P ri.toNatClampNeg ((P si.toNatClampNeg) &&& (v))) (upd Y ri.toNatClampNeg (Y si.toNatClampNeg)) (ub G ri.toNatClampNeg ((G si.toNatClampNeg && (decide (Y si.toNatClampNeg = 0) || decide ((P si.toNatClampNeg) &&& (v) = P si.toNatClampNeg))))) (vp_updL V 0 (1))) := hD
    have e9 : bl (G si.toNatClampNeg && (decide (Y si.toNatClampNeg = 0) || decide ((P si.toNatClampNeg) &&& (v) = P si.toNatClampNeg))) = 1 := by rw [h_1]; rfl
    rw [← e9] at hP hD
    refine W.eq (g2 := F0 m 19 ls []) rfl ?_
    refine lv_goto (tgt := 26) hx hb dL_restrict_19 (by decide) ?_
    refine lv_iconst (v := 0) hx hb dL_restrict_26 (by decide) ?_
    refine W.widen (k := 1) (n := 6) (Nat.le_of_ble_eq_true rfl) (Nat.le_of_ble_eq_true rfl) ?_
    exact W.iret (v := 0) hx hb hr (fun t9 ht hW => ⟨rfl, by rw [ht]; exact hP, hD, hS.F ht⟩) hS.2.2 dL_restrict_27

set_option maxRecDepth 100000 in
set_option maxHeartbeats 4000000 in
theorem mL_restrict_n (l : Launch) (hst : l.stackTraces = false) (D : va_G) (cI cZ cJ : ClassId) (q : Nat → Nat) (ob : Nat) (A B T P Y : Nat → Int32) (G : Nat → Bool) (V : Nat → Int64) (sz : Nat) (ri si v : Int32) (hbad : ¬ (vp_in ri 16 ∧ vp_in si 16)) : Met l yL_restrict (Cond.codeWith yL_restrict cL_restrict 6 (some .int) [(0, 19, 22, 15)] :: gw) (rmk 8 1 6) (va_Pc [.ref (q 0), .int (ri), .int (si), .int (v), .ref (ob)] (fun U => kB D vwCl (oW cI cZ cJ q ob A B T P Y G V) (tsO cI cZ cJ) sz U ∧ tx_B U)) (kQ (some (.int 1)) D vwCl (oW cI cZ cJ q ob A B T P Y G V) (va_A (oW cI cZ cJ q ob A B T P Y G V) sz)) 1 6 (va_A (oW cI cZ cJ q ob A B T P Y G V) sz) := by
  refine va_MetW (cc := cL_restrict) (maxL := 6) (ret := (some .int)) (hh := [(0, 19, 22, 15)]) (by decide) rfl ?_
  intro p e s m args below meth c s₁ B9 hml hv
  obtain ⟨rfl, ⟨hsz, hP, hK, hD0⟩, hB⟩ := hv
  have hx := B9.exec
  have hb := B9.bytes
  have hr := B9.returns
  have hts := fun (w : Cond) (h : w ∈ gw) => atoms_spec (ws := _ :: gw) B9.pre w (List.mem_cons_of_mem _ h)
  have hown : s.vm.findClass RL = some m.cls := findClass_of_methodNamed B9.named
  have hlocks := B9.notSynchronized
  have hl := lv_entry ([.ref (q 0), .int (ri), .int (si), .int (v), .ref (ob)]) (n := 6) (Nat.le_of_ble_eq_true rfl)
  rw [lg_entry_eq]
  generalize (lg_sl ([.ref (q 0), .int (ri), .int (si), .int (v), .ref (ob)]) ++ List.replicate (6 - (lg_sl ([.ref (q 0), .int (ri), .int (si), .int (v), .ref (ob)])).length) Slot.unset).toArray = ls at hl ⊢
  have hl : lv_has ls 6 [(0, .ref (q 0)), (1, .int (ri)), (2, .int (si)), (3, .int (v)), (4, .ref (ob))] := hl
  subst hsz
  have hD := hD0.self (sz := s.heap.size)
  generalize hAe : va_A (oW cI cZ cJ q ob A B T P Y G V) s.heap.size = A9 at hD ⊢
  have hA : ∀ z : Nat, s.heap.size ≤ z → A9 z := fun z h => by rw [← hAe]; exact Or.inr h
  have hS : va_S A9 s.heap s.heap [] := va_S.rf
  refine lv_aload hx hb dL_restrict_0 (lv_at hl 4 rfl) ?_
  refine lv_iconst (v := 0) hx hb dL_restrict_2 (by decide) ?_
  refine lv_aload_n hx hb dL_restrict_3 rfl (lv_at hl 0 rfl) ?_
  refine lv_iload_n hx hb dL_restrict_4 rfl (lv_at hl 1 rfl) ?_
  refine lv_iload_n hx hb dL_restrict_5 rfl (lv_at hl 2 rfl) ?_
  refine lv_iload_n hx hb dL_restrict_6 rfl (lv_at hl 3 rfl) ?_
  obtain ⟨m9, meth9, c9, hn9, hm9, hc9, -, -, hex, -⟩ := Cond.codeWith_spec (atoms_spec (ws := _ :: gw) B9.pre _ List.mem_cons_self)
  cases B9.named.symm.trans hn9
  cases B9.method.symm.trans hm9
  cases (Stand.of_body B9).code.symm.trans hc9
  have hex := kt_rows _ _ hex
  refine tx_callV (C := RX) (b := q 0) (As := [.int (ri), .int (si), .int (v)]) (rest := [.int (0), .ref (ob)]) ⟨hx, hb, hml, hown, hts⟩ (tX_restrict l hst (q 0) ri si v hbad) (cwV 3 hts (gw_V w_198 w_199 w_200 w_14 w_201) rfl rfl rfl (by decide) ⟨Nat.le_of_ble_eq_true rfl, Nat.le_of_ble_eq_true rfl⟩) ⟨tx_blind, (va_recv hK hP (ci := 0) rfl (q0 := 0) rfl), tx_pre hB (fun _ _ => rfl)⟩ rfl hl.1 rfl (Nat.le_of_ble_eq_true rfl) dL_restrict_7 ⟨Nat.le_of_ble_eq_true rfl, Nat.le_of_ble_eq_true rfl⟩ (fun z ce H hz1 hk1 h1 h2 h3 => ?_)
  refine tx_catch (E := iob) (name := iob) hown [] ⟨0, 19, 22, 15⟩ [] hex (fun z hz => nomatch hz) (by decide) (by decide) (hts _ w_78) ((hB _).1 (Cond.castable iob iob) (by decide +kernel)) h1 h2 h3 ?_
  have hP : va_P D vwCl (oW cI cZ cJ q ob A B T P Y G V) H := hP.kept (fun k9 x9 h9 => hk1 x9.1 (hP k9 x9 h9).lt)
  have hS : va_S A9 s.heap H [] := ⟨hz1, fun x9 h9 _ => hk1 x9 h9, fun _ h9 => nomatch h9⟩
  refine lv_astore hx hb dL_restrict_22 hl (by decide) rfl (fun ls hl => ?_)
  have hl : lv_has ls 6 [(5, .ref (z)), (0, .ref (q 0)), (1, .int (ri)), (2, .int (si)), (3, .int (v)), (4, .ref (ob))] := hl
  refine lv_iconst (v := 1) hx hb dL_restrict_24 (by decide) ?_
  exact W.iret (v := 1) hx hb hr (fun t9 ht hW => ⟨rfl, by rw [ht]; exact hP, hD, hS.F ht⟩) hS.2.2 dL_restrict_25

set_option maxRecDepth 100000 in
set_option maxHeartbeats 4000000 in
theorem mL_seal_y (l : Launch) (hst : l.stackTraces = false) (D : va_G) (cI cZ cJ : ClassId) (q : Nat → Nat) (ob : Nat) (A B T P Y : Nat → Int32) (G : Nat → Bool) (V : Nat → Int64) (sz : Nat) (ri si ti : Int32) (hri : vp_in ri 16) (hsi : vp_in si 16) (hti : vp_in ti 16) (h0 : ga_seal A B T P Y G si.toNatClampNeg ti.toNatClampNeg = 0) : Met l yL_seal (Cond.codeWith yL_seal cL_seal 6 (some .int) [(0, 12, 15, 15)] :: gw) (rmk 8 1 6) (va_Pc [.ref (q 0), .int (ri), .int (si), .int (ti), .ref (ob)] (fun U => kB D vwCl (oW cI cZ cJ q ob A B T P Y G V) (tsO cI cZ cJ) sz U ∧ tx_B U)) (kQ (some (.int 0)) D vwCl (oW cI cZ cJ q ob (upd A ri.toNatClampNeg (A si.toNatClampNeg)) (upd B ri.toNatClampNeg (B si.toNatClampNeg)) (upd T ri.toNatClampNeg (T si.toNatClampNeg)) (upd P ri.toNatClampNeg (P si.toNatClampNeg)) (upd Y ri.toNatClampNeg (A ti.toNatClampNeg)) (ub G ri.toNatClampNeg (G si.toNatClampNeg)) (vp_updL V 0 ((0 : Int32).toInt64))) (va_A (oW cI cZ cJ q ob A B T P Y G V) sz)) 1 6 (va_A (oW cI cZ cJ q ob A B T P Y G V) sz) := by
  refine va_MetW (cc := cL_seal) (maxL := 6) (ret := (some .int)) (hh := [(0, 12, 15, 15)]) (by decide) rfl ?_
  intro p e s m args below meth c s₁ B9 hml hv
  obtain ⟨rfl, ⟨hsz, hP, hK, hD0⟩, hB⟩ := hv
  have hx := B9.exec
  have hb := B9.bytes
  have hr := B9.returns
  have hts := fun (w : Cond) (h : w ∈ gw) => atoms_spec (ws := _ :: gw) B9.pre w (List.mem_cons_of_mem _ h)
  have hown : s.vm.findClass RL = some m.cls := findClass_of_methodNamed B9.named
  have hlocks := B9.notSynchronized
  have hl := lv_entry ([.ref (q 0), .int (ri), .int (si), .int (ti), .ref (ob)]) (n := 6) (Nat.le_of_ble_eq_true rfl)
  rw [lg_entry_eq]
  generalize (lg_sl ([.ref (q 0), .int (ri), .int (si), .int (ti), .ref (ob)]) ++ List.replicate (6 - (lg_sl ([.ref (q 0), .int (ri), .int (si), .int (ti), .ref (ob)])).length) Slot.unset).toArray = ls at hl ⊢
  have hl : lv_has ls 6 [(0, .ref (q 0)), (1, .int (ri)), (2, .int (si)), (3, .int (ti)), (4, .ref (ob))] := hl
  subst hsz
  have hD := hD0.self (sz := s.heap.size)
  generalize hAe : va_A (oW cI cZ cJ q ob A B T P Y G V) s.heap.size = A9 at hD ⊢
  have hA : ∀ z : Nat, s.heap.size ≤ z → A9 z := fun z h => by rw [← hAe]; exact Or.inr h
  have hS : va_S A9 s.heap s.heap [] := va_S.rf
  refine lv_aload hx hb dL_seal_0 (lv_at hl 4 rfl) ?_
  refine lv_iconst (v := 0) hx hb dL_seal_2 (by decide) ?_
  refine lv_aload_n hx hb dL_seal_3 rfl (lv_at hl 0 rfl) ?_
  refine lv_iload_n hx hb dL_seal_4 rfl (lv_at hl 1 rfl) ?_
  refine lv_iload_n hx hb dL_seal_5 rfl (lv_at hl 2 rfl) ?_
  refine lv_iload_n hx hb dL_seal_6 rfl (lv_at hl 3 rfl) ?_
  refine kw_V 3 [0, 1, 2, 3, 4, 5, 6] [7] (b := q 0) (As := [.int (ri), .int (si), .int (ti)]) (rest := [.int (0), .ref (ob)]) (wc := xW cI cZ q A B T P Y G) (wr := [(ob, .inl (cJ, 1, .inr (.inl V)))]) (w1 := xW cI cZ q (upd A ri.toNatClampNeg (A si.toNatClampNeg)) (upd B ri.toNatClampNeg (B si.toNatClampNeg)) (upd T ri.toNatClampNeg (T si.toNatClampNeg)) (upd P ri.toNatClampNeg (P si.toNatClampNeg)) (upd Y ri.toNatClampNeg (A ti.toNatClampNeg)) (ub G ri.toNatClampNeg (G si.toNatClampNeg))) hx hb hml hown hts hl.1 hP hD hS hA (hK.sub (tys' := tsX cI cZ) [0, 1] rfl) (mX_seal_y l D cI cZ q A B T P Y G _ ri si ti hri hsi hti h0) (gw_V w_205 w_206 w_207 w_14 w_208) (by decide) ⟨rfl, rfl⟩ ⟨Nat.le_of_ble_eq_true rfl, Nat.le_of_ble_eq_true rfl⟩ (va_recv hK hP (ci := 0) rfl (q0 := 0) rfl) rfl rfl (Nat.le_of_ble_eq_true rfl) dL_seal_7 ⟨Nat.zero_le _, Nat.zero_le _⟩ rfl rfl ⟨by decide, by decide⟩ (by decide) (fun H locs hP hD hS => ?_)
  have hP : va_P D vwCl (oW cI cZ cJ q ob (upd A ri.toNatClampNeg (A si.toNatClampNeg)) (upd B ri.toNatClampNeg (B si.toNatClampNeg)) (upd T ri.toNatClampNeg (T si.toNatClampNeg)) (upd P ri.toNatClampNeg (P si.toNatClampNeg)) (upd Y ri.toNatClampNeg (A ti.toNatClampNeg)) (ub G ri.toNatClampNeg (G si.toNatClampNeg)) V) H := hP.sub [1, 2, 3, 4, 5, 6, 7, 0] rfl
  have hD : va_D A9 (oW cI cZ cJ q ob (upd A ri.toNatClampNeg (A si.toNatClampNeg)) (upd B ri.toNatClampNeg (B si.toNatClampNeg)) (upd T ri.toNatClampNeg (T si.toNatClampNeg)) (upd P ri.toNatClampNeg (P si.toNatClampNeg)) (upd Y ri.toNatClampNeg (A ti.toNatClampNeg)) (ub G ri.toNatClampNeg (G si.toNatClampNeg)) V) := hD.sub [1, 2, 3, 4, 5, 6, 7, 0] (by decide) rfl
  refine W.eq (g2 := F0 m 10 ls [.int (0), .int (0), .ref (ob)]) rfl ?_
  refine lv_i2l (v := (0 : Int32).toInt64) hx hb dL_seal_10 rfl ?_
  refine va_last hx hb hK hP hD hS 7 2 rfl rfl in01 dL_seal_11 (fun H locs hP hD hS => ?_)
  have hP : va_P D vwCl (oW cI cZ cJ q ob (upd A ri.toNatClampNeg (A si.toNatClampNeg)) (upd B ri.toNatClampNeg (B si.toNatClampNeg)) (upd T ri.toNatClampNeg (T si.toNatClampNeg)) (upd P ri.toNatClampNeg (P si.toNatClampNeg)) (upd Y ri.toNatClampNeg (A ti.toNatClampNeg)) (ub G ri.toNatClampNeg (G si.toNatClampNeg)) (vp_updL V 0 ((0 : Int32).toInt64))) H := hP
  have hD : va_D A9 (oW cI cZ cJ q ob (upd A ri.toNatClampNeg (A si.toNatClampNeg)) (upd B ri.toNatClampNeg (B si.toNatClampNeg)) (upd T ri.toNatClampNeg (T si.toNatClampNeg)) (upd P ri.toNatClampNeg (P si.toNatClampNeg)) (upd Y ri.toNatClampNeg (A ti.toNatClampNeg)) (ub G ri.toNatClampNeg (G si.toNatClampNeg)) (vp_updL V 0 ((0 : Int32).toInt64))) := hD
  refine W.eq (g2 := F0 m 12 ls []) rfl ?_
  refine lv_goto (tgt := 19) hx hb dL_seal_12 (by decide) ?_
  refine lv_iconst (v := 0) hx hb dL_seal_19 (by decide) ?_
  refine W.widen (k := 1) (n := 6) (Nat.le_of_ble_eq_true rfl) (Nat.le_of_ble_eq_true rfl) ?_
  exact W.iret (v := 0) hx hb hr (fun t9 ht hW => ⟨rfl, by rw [ht]; exact hP, hD, hS.F ht⟩) hS.2.2 dL_seal_20

set_option maxRecDepth 100000 in
set_option maxHeartbeats 4000000 in
theorem mL_seal_z (l : Launch) (hst : l.stackTraces = false) (D : va_G) (cI cZ cJ : ClassId) (q : Nat → Nat) (ob : Nat) (A B T P Y : Nat → Int32) (G : Nat → Bool) (V : Nat → Int64) (sz : Nat) (ri si ti : Int32) (hri : vp_in ri 16) (hsi : vp_in si 16) (hti : vp_in ti 16) (h0 : ¬ ga_seal A B T P Y G si.toNatClampNeg ti.toNatClampNeg = 0) : Met l yL_seal (Cond.codeWith yL_seal cL_seal 6 (some .int) [(0, 12, 15, 15)] :: gw) (rmk 8 1 6) (va_Pc [.ref (q 0), .int (ri), .int (si), .int (ti), .ref (ob)] (fun U => kB D vwCl (oW cI cZ cJ q ob A B T P Y G V) (tsO cI cZ cJ) sz U ∧ tx_B U)) (kQ (some (.int 0)) D vwCl (oW cI cZ cJ q ob A B T P Y G (vp_updL V 0 ((ga_seal A B T P Y G si.toNatClampNeg ti.toNatClampNeg).toInt64))) (va_A (oW cI cZ cJ q ob A B T P Y G V) sz)) 1 6 (va_A (oW cI cZ cJ q ob A B T P Y G V) sz) := by
  refine va_MetW (cc := cL_seal) (maxL := 6) (ret := (some .int)) (hh := [(0, 12, 15, 15)]) (by decide) rfl ?_
  intro p e s m args below meth c s₁ B9 hml hv
  obtain ⟨rfl, ⟨hsz, hP, hK, hD0⟩, hB⟩ := hv
  have hx := B9.exec
  have hb := B9.bytes
  have hr := B9.returns
  have hts := fun (w : Cond) (h : w ∈ gw) => atoms_spec (ws := _ :: gw) B9.pre w (List.mem_cons_of_mem _ h)
  have hown : s.vm.findClass RL = some m.cls := findClass_of_methodNamed B9.named
  have hlocks := B9.notSynchronized
  have hl := lv_entry ([.ref (q 0), .int (ri), .int (si), .int (ti), .ref (ob)]) (n := 6) (Nat.le_of_ble_eq_true rfl)
  rw [lg_entry_eq]
  generalize (lg_sl ([.ref (q 0), .int (ri), .int (si), .int (ti), .ref (ob)]) ++ List.replicate (6 - (lg_sl ([.ref (q 0), .int (ri), .int (si), .int (ti), .ref (ob)])).length) Slot.unset).toArray = ls at hl ⊢
  have hl : lv_has ls 6 [(0, .ref (q 0)), (1, .int (ri)), (2, .int (si)), (3, .int (ti)), (4, .ref (ob))] := hl
  subst hsz
  have hD := hD0.self (sz := s.heap.size)
  generalize hAe : va_A (oW cI cZ cJ q ob A B T P Y G V) s.heap.size = A9 at hD ⊢
  have hA : ∀ z : Nat, s.heap.size ≤ z → A9 z := fun z h => by rw [← hAe]; exact Or.inr h
  have hS : va_S A9 s.heap s.heap [] := va_S.rf
  refine lv_aload hx hb dL_seal_0 (lv_at hl 4 rfl) ?_
  refine lv_iconst (v := 0) hx hb dL_seal_2 (by decide) ?_
  refine lv_aload_n hx hb dL_seal_3 rfl (lv_at hl 0 rfl) ?_
  refine lv_iload_n hx hb dL_seal_4 rfl (lv_at hl 1 rfl) ?_
  refine lv_iload_n hx hb dL_seal_5 rfl (lv_at hl 2 rfl) ?_
  refine lv_iload_n hx hb dL_seal_6 rfl (lv_at hl 3 rfl) ?_
  refine kw_V 3 [0, 1, 2, 3, 4, 5, 6] [7] (b := q 0) (As := [.int (ri), .int (si), .int (ti)]) (rest := [.int (0), .ref (ob)]) (wc := xW cI cZ q A B T P Y G) (wr := [(ob, .inl (cJ, 1, .inr (.inl V)))]) (w1 := xW cI cZ q A B T P Y G) hx hb hml hown hts hl.1 hP hD hS hA (hK.sub (tys' := tsX cI cZ) [0, 1] rfl) (mX_seal_n l D cI cZ q A B T P Y G _ ri si ti hri hsi hti h0) (gw_V w_205 w_206 w_207 w_14 w_208) (by decide) ⟨rfl, rfl⟩ ⟨Nat.le_of_ble_eq_true rfl, Nat.le_of_ble_eq_true rfl⟩ (va_recv hK hP (ci := 0) rfl (q0 := 0) rfl) rfl rfl (Nat.le_of_ble_eq_true rfl) dL_seal_7 ⟨Nat.zero_le _, Nat.zero_le _⟩ rfl rfl ⟨by decide, by decide⟩ (by decide) (fun H locs hP hD hS => ?_)
  have hP : va_P D vwCl (oW cI cZ cJ q ob A B T P Y G V) H := hP.sub [1, 2, 3, 4, 5, 6, 7, 0] rfl
  have hD : va_D A9 (oW cI cZ cJ q ob A B T P Y G V) := hD.sub [1, 2, 3, 4, 5, 6, 7, 0] (by decide) rfl
  refine W.eq (g2 := F0 m 10 ls [.int (ga_seal A B T P Y G si.toNatClampNeg ti.toNatClampNeg), .int (0), .ref (ob)]) rfl ?_
  refine lv_i2l (v := (ga_seal A B T P Y G si.toNatClampNeg ti.toNatClampNeg).toInt64) hx hb dL_seal_10 rfl ?_
  refine va_last hx hb hK hP hD hS 7 2 rfl rfl in01 dL_seal_11 (fun H locs hP hD hS => ?_)
  have hP : va_P D vwCl (oW cI cZ cJ q ob A B T P Y G (vp_updL V 0 ((ga_seal A B T P Y G si.toNatClampNeg ti.toNatClampNeg).toInt64))) H := hP
  have hD : va_D A9 (oW cI cZ cJ q ob A B T P Y G (vp_updL V 0 ((ga_seal A B T P Y G si.toNatClampNeg ti.toNatClampNeg).toInt64))) := hD
  refine W.eq (g2 := F0 m 12 ls []) rfl ?_
  refine lv_goto (tgt := 19) hx hb dL_seal_12 (by decide) ?_
  refine lv_iconst (v := 0) hx hb dL_seal_19 (by decide) ?_
  refine W.widen (k := 1) (n := 6) (Nat.le_of_ble_eq_true rfl) (Nat.le_of_ble_eq_true rfl) ?_
  exact W.iret (v := 0) hx hb hr (fun t9 ht hW => ⟨rfl, by rw [ht]; exact hP, hD, hS.F ht⟩) hS.2.2 dL_seal_20

set_option maxRecDepth 100000 in
set_option maxHeartbeats 4000000 in
theorem mL_seal_n (l : Launch) (hst : l.stackTraces = false) (D : va_G) (cI cZ cJ : ClassId) (q : Nat → Nat) (ob : Nat) (A B T P Y : Nat → Int32) (G : Nat → Bool) (V : Nat → Int64) (sz : Nat) (ri si ti : Int32) (hbad : ¬ (vp_in ri 16 ∧ vp_in si 16 ∧ vp_in ti 16)) : Met l yL_seal (Cond.codeWith yL_seal cL_seal 6 (some .int) [(0, 12, 15, 15)] :: gw) (rmk 8 1 6) (va_Pc [.ref (q 0), .int (ri), .int (si), .int (ti), .ref (ob)] (fun U => kB D vwCl (oW cI cZ cJ q ob A B T P Y G V) (tsO cI cZ cJ) sz U ∧ tx_B U)) (kQ (some (.int 1)) D vwCl (oW cI cZ cJ q ob A B T P Y G V) (va_A (oW cI cZ cJ q ob A B T P Y G V) sz)) 1 6 (va_A (oW cI cZ cJ q ob A B T P Y G V) sz) := by
  refine va_MetW (cc := cL_seal) (maxL := 6) (ret := (some .int)) (hh := [(0, 12, 15, 15)]) (by decide) rfl ?_
  intro p e s m args below meth c s₁ B9 hml hv
  obtain ⟨rfl, ⟨hsz, hP, hK, hD0⟩, hB⟩ := hv
  have hx := B9.exec
  have hb := B9.bytes
  have hr := B9.returns
  have hts := fun (w : Cond) (h : w ∈ gw) => atoms_spec (ws := _ :: gw) B9.pre w (List.mem_cons_of_mem _ h)
  have hown : s.vm.findClass RL = some m.cls := findClass_of_methodNamed B9.named
  have hlocks := B9.notSynchronized
  have hl := lv_entry ([.ref (q 0), .int (ri), .int (si), .int (ti), .ref (ob)]) (n := 6) (Nat.le_of_ble_eq_true rfl)
  rw [lg_entry_eq]
  generalize (lg_sl ([.ref (q 0), .int (ri), .int (si), .int (ti), .ref (ob)]) ++ List.replicate (6 - (lg_sl ([.ref (q 0), .int (ri), .int (si), .int (ti), .ref (ob)])).length) Slot.unset).toArray = ls at hl ⊢
  have hl : lv_has ls 6 [(0, .ref (q 0)), (1, .int (ri)), (2, .int (si)), (3, .int (ti)), (4, .ref (ob))] := hl
  subst hsz
  have hD := hD0.self (sz := s.heap.size)
  generalize hAe : va_A (oW cI cZ cJ q ob A B T P Y G V) s.heap.size = A9 at hD ⊢
  have hA : ∀ z : Nat, s.heap.size ≤ z → A9 z := fun z h => by rw [← hAe]; exact Or.inr h
  have hS : va_S A9 s.heap s.heap [] := va_S.rf
  refine lv_aload hx hb dL_seal_0 (lv_at hl 4 rfl) ?_
  refine lv_iconst (v := 0) hx hb dL_seal_2 (by decide) ?_
  refine lv_aload_n hx hb dL_seal_3 rfl (lv_at hl 0 rfl) ?_
  refine lv_iload_n hx hb dL_seal_4 rfl (lv_at hl 1 rfl) ?_
  refine lv_iload_n hx hb dL_seal_5 rfl (lv_at hl 2 rfl) ?_
  refine lv_iload_n hx hb dL_seal_6 rfl (lv_at hl 3 rfl) ?_
  obtain ⟨m9, meth9, c9, hn9, hm9, hc9, -, -, hex, -⟩ := Cond.codeWith_spec (atoms_spec (ws := _ :: gw) B9.pre _ List.mem_cons_self)
  cases B9.named.symm.trans hn9
  cases B9.method.symm.trans hm9
  cases (Stand.of_body B9).code.symm.trans hc9
  have hex := kt_rows _ _ hex
  refine tx_callV (C := RX) (b := q 0) (As := [.int (ri), .int (si), .int (ti)]) (rest := [.int (0), .ref (ob)]) ⟨hx, hb, hml, hown, hts⟩ (tX_seal l hst (q 0) ri si ti hbad) (cwV 3 hts (gw_V w_205 w_206 w_207 w_14 w_208) rfl rfl rfl (by decide) ⟨Nat.le_of_ble_eq_true rfl, Nat.le_of_ble_eq_true rfl⟩) ⟨tx_blind, (va_recv hK hP (ci := 0) rfl (q0 := 0) rfl), tx_pre hB (fun _ _ => rfl)⟩ rfl hl.1 rfl (Nat.le_of_ble_eq_true rfl) dL_seal_7 ⟨Nat.le_of_ble_eq_true rfl, Nat.le_of_ble_eq_true rfl⟩ (fun z ce H hz1 hk1 h1 h2 h3 => ?_)
  refine tx_catch (E := iob) (name := iob) hown [] ⟨0, 12, 15, 15⟩ [] hex (fun z hz => nomatch hz) (by decide) (by decide) (hts _ w_78) ((hB _).1 (Cond.castable iob iob) (by decide +kernel)) h1 h2 h3 ?_
  have hP : va_P D vwCl (oW cI cZ cJ q ob A B T P Y G V) H := hP.kept (fun k9 x9 h9 => hk1 x9.1 (hP k9 x9 h9).lt)
  have hS : va_S A9 s.heap H [] := ⟨hz1, fun x9 h9 _ => hk1 x9 h9, fun _ h9 => nomatch h9⟩
  refine lv_astore hx hb dL_seal_15 hl (by decide) rfl (fun ls hl => ?_)
  have hl : lv_has ls 6 [(5, .ref (z)), (0, .ref (q 0)), (1, .int (ri)), (2, .int (si)), (3, .int (ti)), (4, .ref (ob))] := hl
  refine lv_iconst (v := 1) hx hb dL_seal_17 (by decide) ?_
  exact W.iret (v := 1) hx hb hr (fun t9 ht hW => ⟨rfl, by rw [ht]; exact hP, hD, hS.F ht⟩) hS.2.2 dL_seal_18

set_option maxRecDepth 100000 in
set_option maxHeartbeats 4000000 in
theorem mL_unseal_y (l : Launch) (hst : l.stackTraces = false) (D : va_G) (cI cZ cJ : ClassId) (q : Nat → Nat) (ob : Nat) (A B T P Y : Nat → Int32) (G : Nat → Bool) (V : Nat → Int64) (sz : Nat) (ri si ti : Int32) (hri : vp_in ri 16) (hsi : vp_in si 16) (hti : vp_in ti 16) (h0 : ga_open A B T P Y G si.toNatClampNeg ti.toNatClampNeg = 0) : Met l yL_unseal (Cond.codeWith yL_unseal cL_unseal 6 (some .int) [(0, 12, 15, 15)] :: gw) (rmk 8 1 6) (va_Pc [.ref (q 0), .int (ri), .int (si), .int (ti), .ref (ob)] (fun U => kB D vwCl (oW cI cZ cJ q ob A B T P Y G V) (tsO cI cZ cJ) sz U ∧ tx_B U)) (kQ (some (.int 0)) D vwCl (oW cI cZ cJ q ob (upd A ri.toNatClampNeg (A si.toNatClampNeg)) (upd B ri.toNatClampNeg (B si.toNatClampNeg)) (upd T ri.toNatClampNeg (T si.toNatClampNeg)) (upd P ri.toNatClampNeg (P si.toNatClampNeg)) (upd Y ri.toNatClampNeg (0)) (ub G ri.toNatClampNeg (G si.toNatClampNeg)) (vp_updL V 0 ((0 : Int32).toInt64))) (va_A (oW cI cZ cJ q ob A B T P Y G V) sz)) 1 6 (va_A (oW cI cZ cJ q ob A B T P Y G V) sz) := by
  refine va_MetW (cc := cL_unseal) (maxL := 6) (ret := (some .int)) (hh := [(0, 12, 15, 15)]) (by decide) rfl ?_
  intro p e s m args below meth c s₁ B9 hml hv
  obtain ⟨rfl, ⟨hsz, hP, hK, hD0⟩, hB⟩ := hv
  have hx := B9.exec
  have hb := B9.bytes
  have hr := B9.returns
  have hts := fun (w : Cond) (h : w ∈ gw) => atoms_spec (ws := _ :: gw) B9.pre w (List.mem_cons_of_mem _ h)
  have hown : s.vm.findClass RL = some m.cls := findClass_of_methodNamed B9.named
  have hlocks := B9.notSynchronized
  have hl := lv_entry ([.ref (q 0), .int (ri), .int (si), .int (ti), .ref (ob)]) (n := 6) (Nat.le_of_ble_eq_true rfl)
  rw [lg_entry_eq]
  generalize (lg_sl ([.ref (q 0), .int (ri), .int (si), .int (ti), .ref (ob)]) ++ List.replicate (6 - (lg_sl ([.ref (q 0), .int (ri), .int (si), .int (ti), .ref (ob)])).length) Slot.unset).toArray = ls at hl ⊢
  have hl : lv_has ls 6 [(0, .ref (q 0)), (1, .int (ri)), (2, .int (si)), (3, .int (ti)), (4, .ref (ob))] := hl
  subst hsz
  have hD := hD0.self (sz := s.heap.size)
  generalize hAe : va_A (oW cI cZ cJ q ob A B T P Y G V) s.heap.size = A9 at hD ⊢
  have hA : ∀ z : Nat, s.heap.size ≤ z → A9 z := fun z h => by rw [← hAe]; exact Or.inr h
  have hS : va_S A9 s.heap s.heap [] := va_S.rf
  refine lv_aload hx hb dL_unseal_0 (lv_at hl 4 rfl) ?_
  refine lv_iconst (v := 0) hx hb dL_unseal_2 (by decide) ?_
  refine lv_aload_n hx hb dL_unseal_3 rfl (lv_at hl 0 rfl) ?_
  refine lv_iload_n hx hb dL_unseal_4 rfl (lv_at hl 1 rfl) ?_
  refine lv_iload_n hx hb dL_unseal_5 rfl (lv_at hl 2 rfl) ?_
  refine lv_iload_n hx hb dL_unseal_6 rfl (lv_at hl 3 rfl) ?_
  refine kw_V 3 [0, 1, 2, 3, 4, 5, 6] [7] (b := q 0) (As := [.int (ri), .int (si), .int (ti)]) (rest := [.int (0), .ref (ob)]) (wc := xW cI cZ q A B T P Y G) (wr := [(ob, .inl (cJ, 1, .inr (.inl V)))]) (w1 := xW cI cZ q (upd A ri.toNatClampNeg (A si.toNatClampNeg)) (upd B ri.toNatClampNeg (B si.toNatClampNeg)) (upd T ri.toNatClampNeg (T si.toNatClampNeg)) (upd P ri.toNatClampNeg (P si.toNatClampNeg)) (upd Y ri.toNatClampNeg (0)) (ub G ri.toNatClampNeg (G si.toNatClampNeg))) hx hb hml hown hts hl.1 hP hD hS hA (hK.sub (tys' := tsX cI cZ) [0, 1] rfl) (mX_unseal_y l D cI cZ q A B T P Y G _ ri si ti hri hsi hti h0) (gw_V w_217 w_218 w_219 w_14 w_220) (by decide) ⟨rfl, rfl⟩ ⟨Nat.le_of_ble_eq_true rfl, Nat.le_of_ble_eq_true rfl⟩ (va_recv hK hP (ci := 0) rfl (q0 := 0) rfl) rfl rfl (Nat.le_of_ble_eq_true rfl) dL_unseal_7 ⟨Nat.zero_le _, Nat.zero_le _⟩ rfl rfl ⟨by decide, by decide⟩ (by decide) (fun H locs hP hD hS => ?_)
  have hP : va_P D vwCl (oW cI cZ cJ q ob (upd A ri.toNatClampNeg (A si.toNatClampNeg)) (upd B ri.toNatClampNeg (B si.toNatClampNeg)) (upd T ri.toNatClampNeg (T si.toNatClampNeg)) (upd P ri.toNatClampNeg (P si.toNatClampNeg)) (upd Y ri.toNatClampNeg (0)) (ub G ri.toNatClampNeg (G si.toNatClampNeg)) V) H := hP.sub [1, 2, 3, 4, 5, 6, 7, 0] rfl
  have hD : va_D A9 (oW cI cZ cJ q ob (upd A ri.toNatClampNeg (A si.toNatClampNeg)) (upd B ri.toNatClampNeg (B si.toNatClampNeg)) (upd T ri.toNatClampNeg (T si.toNatClampNeg)) (upd P ri.toNatClampNeg (P si.toNatClampNeg)) (upd Y ri.toNatClampNeg (0)) (ub G ri.toNatClampNeg (G si.toNatClampNeg)) V) := hD.sub [1, 2, 3, 4, 5, 6, 7, 0] (by decide) rfl
  refine W.eq (g2 := F0 m 10 ls [.int (0), .int (0), .ref (ob)]) rfl ?_
  refine lv_i2l (v := (0 : Int32).toInt64) hx hb dL_unseal_10 rfl ?_
  refine va_last hx hb hK hP hD hS 7 2 rfl rfl in01 dL_unseal_11 (fun H locs hP hD hS => ?_)
  have hP : va_P D vwCl (oW cI cZ cJ q ob (upd A ri.toNatClampNeg (A si.toNatClampNeg)) (upd B ri.toNatClampNeg (B si.toNatClampNeg)) (upd T ri.toNatClampNeg (T si.toNatClampNeg)) (upd P ri.toNatClampNeg (P si.toNatClampNeg)) (upd Y ri.toNatClampNeg (0)) (ub G ri.toNatClampNeg (G si.toNatClampNeg)) (vp_updL V 0 ((0 : Int32).toInt64))) H := hP
  have hD : va_D A9 (oW cI cZ cJ q ob (upd A ri.toNatClampNeg (A si.toNatClampNeg)) (upd B ri.toNatClampNeg (B si.toNatClampNeg)) (upd T ri.toNatClampNeg (T si.toNatClampNeg)) (upd P ri.toNatClampNeg (P si.toNatClampNeg)) (upd Y ri.toNatClampNeg (0)) (ub G ri.toNatClampNeg (G si.toNatClampNeg)) (vp_updL V 0 ((0 : Int32).toInt64))) := hD
  refine W.eq (g2 := F0 m 12 ls []) rfl ?_
  refine lv_goto (tgt := 19) hx hb dL_unseal_12 (by decide) ?_
  refine lv_iconst (v := 0) hx hb dL_unseal_19 (by decide) ?_
  refine W.widen (k := 1) (n := 6) (Nat.le_of_ble_eq_true rfl) (Nat.le_of_ble_eq_true rfl) ?_
  exact W.iret (v := 0) hx hb hr (fun t9 ht hW => ⟨rfl, by rw [ht]; exact hP, hD, hS.F ht⟩) hS.2.2 dL_unseal_20

set_option maxRecDepth 100000 in
set_option maxHeartbeats 4000000 in
theorem mL_unseal_z (l : Launch) (hst : l.stackTraces = false) (D : va_G) (cI cZ cJ : ClassId) (q : Nat → Nat) (ob : Nat) (A B T P Y : Nat → Int32) (G : Nat → Bool) (V : Nat → Int64) (sz : Nat) (ri si ti : Int32) (hri : vp_in ri 16) (hsi : vp_in si 16) (hti : vp_in ti 16) (h0 : ¬ ga_open A B T P Y G si.toNatClampNeg ti.toNatClampNeg = 0) : Met l yL_unseal (Cond.codeWith yL_unseal cL_unseal 6 (some .int) [(0, 12, 15, 15)] :: gw) (rmk 8 1 6) (va_Pc [.ref (q 0), .int (ri), .int (si), .int (ti), .ref (ob)] (fun U => kB D vwCl (oW cI cZ cJ q ob A B T P Y G V) (tsO cI cZ cJ) sz U ∧ tx_B U)) (kQ (some (.int 0)) D vwCl (oW cI cZ cJ q ob A B T P Y G (vp_updL V 0 ((ga_open A B T P Y G si.toNatClampNeg ti.toNatClampNeg).toInt64))) (va_A (oW cI cZ cJ q ob A B T P Y G V) sz)) 1 6 (va_A (oW cI cZ cJ q ob A B T P Y G V) sz) := by
  refine va_MetW (cc := cL_unseal) (maxL := 6) (ret := (some .int)) (hh := [(0, 12, 15, 15)]) (by decide) rfl ?_
  intro p e s m args below meth c s₁ B9 hml hv
  obtain ⟨rfl, ⟨hsz, hP, hK, hD0⟩, hB⟩ := hv
  have hx := B9.exec
  have hb := B9.bytes
  have hr := B9.returns
  have hts := fun (w : Cond) (h : w ∈ gw) => atoms_spec (ws := _ :: gw) B9.pre w (List.mem_cons_of_mem _ h)
  have hown : s.vm.findClass RL = some m.cls := findClass_of_methodNamed B9.named
  have hlocks := B9.notSynchronized
  have hl := lv_entry ([.ref (q 0), .int (ri), .int (si), .int (ti), .ref (ob)]) (n := 6) (Nat.le_of_ble_eq_true rfl)
  rw [lg_entry_eq]
  generalize (lg_sl ([.ref (q 0), .int (ri), .int (si), .int (ti), .ref (ob)]) ++ List.replicate (6 - (lg_sl ([.ref (q 0), .int (ri), .int (si), .int (ti), .ref (ob)])).length) Slot.unset).toArray = ls at hl ⊢
  have hl : lv_has ls 6 [(0, .ref (q 0)), (1, .int (ri)), (2, .int (si)), (3, .int (ti)), (4, .ref (ob))] := hl
  subst hsz
  have hD := hD0.self (sz := s.heap.size)
  generalize hAe : va_A (oW cI cZ cJ q ob A B T P Y G V) s.heap.size = A9 at hD ⊢
  have hA : ∀ z : Nat, s.heap.size ≤ z → A9 z := fun z h => by rw [← hAe]; exact Or.inr h
  have hS : va_S A9 s.heap s.heap [] := va_S.rf
  refine lv_aload hx hb dL_unseal_0 (lv_at hl 4 rfl) ?_
  refine lv_iconst (v := 0) hx hb dL_unseal_2 (by decide) ?_
  refine lv_aload_n hx hb dL_unseal_3 rfl (lv_at hl 0 rfl) ?_
  refine lv_iload_n hx hb dL_unseal_4 rfl (lv_at hl 1 rfl) ?_
  refine lv_iload_n hx hb dL_unseal_5 rfl (lv_at hl 2 rfl) ?_
  refine lv_iload_n hx hb dL_unseal_6 rfl (lv_at hl 3 rfl) ?_
  refine kw_V 3 [0, 1, 2, 3, 4, 5, 6] [7] (b := q 0) (As := [.int (ri), .int (si), .int (ti)]) (rest := [.int (0), .ref (ob)]) (wc := xW cI cZ q A B T P Y G) (wr := [(ob, .inl (cJ, 1, .inr (.inl V)))]) (w1 := xW cI cZ q A B T P Y G) hx hb hml hown hts hl.1 hP hD hS hA (hK.sub (tys' := tsX cI cZ) [0, 1] rfl) (mX_unseal_n l D cI cZ q A B T P Y G _ ri si ti hri hsi hti h0) (gw_V w_217 w_218 w_219 w_14 w_220) (by decide) ⟨rfl, rfl⟩ ⟨Nat.le_of_ble_eq_true rfl, Nat.le_of_ble_eq_true rfl⟩ (va_recv hK hP (ci := 0) rfl (q0 := 0) rfl) rfl rfl (Nat.le_of_ble_eq_true rfl) dL_unseal_7 ⟨Nat.zero_le _, Nat.zero_le _⟩ rfl rfl ⟨by decide, by decide⟩ (by decide) (fun H locs hP hD hS => ?_)
  have hP : va_P D vwCl (oW cI cZ cJ q ob A B T P Y G V) H := hP.sub [1, 2, 3, 4, 5, 6, 7, 0] rfl
  have hD : va_D A9 (oW cI cZ cJ q ob A B T P Y G V) := hD.sub [1, 2, 3, 4, 5, 6, 7, 0] (by decide) rfl
  refine W.eq (g2 := F0 m 10 ls [.int (ga_open A B T P Y G si.toNatClampNeg ti.toNatClampNeg), .int (0), .ref (ob)]) rfl ?_
  refine lv_i2l (v := (ga_open A B T P Y G si.toNatClampNeg ti.toNatClampNeg).toInt64) hx hb dL_unseal_10 rfl ?_
  refine va_last hx hb hK hP hD hS 7 2 rfl rfl in01 dL_unseal_11 (fun H locs hP hD hS => ?_)
  have hP : va_P D vwCl (oW cI cZ cJ q ob A B T P Y G (vp_updL V 0 ((ga_open A B T P Y G si.toNatClampNeg ti.toNatClampNeg).toInt64))) H := hP
  have hD : va_D A9 (oW cI cZ cJ q ob A B T P Y G (vp_updL V 0 ((ga_open A B T P Y G si.toNatClampNeg ti.toNatClampNeg).toInt64))) := hD
  refine W.eq (g2 := F0 m 12 ls []) rfl ?_
  refine lv_goto (tgt := 19) hx hb dL_unseal_12 (by decide) ?_
  refine lv_iconst (v := 0) hx hb dL_unseal_19 (by decide) ?_
  refine W.widen (k := 1) (n := 6) (Nat.le_of_ble_eq_true rfl) (Nat.le_of_ble_eq_true rfl) ?_
  exact W.iret (v := 0) hx hb hr (fun t9 ht hW => ⟨rfl, by rw [ht]; exact hP, hD, hS.F ht⟩) hS.2.2 dL_unseal_20

set_option maxRecDepth 100000 in
set_option maxHeartbeats 4000000 in
theorem mL_unseal_n (l : Launch) (hst : l.stackTraces = false) (D : va_G) (cI cZ cJ : ClassId) (q : Nat → Nat) (ob : Nat) (A B T P Y : Nat → Int32) (G : Nat → Bool) (V : Nat → Int64) (sz : Nat) (ri si ti : Int32) (hbad : ¬ (vp_in ri 16 ∧ vp_in si 16 ∧ vp_in ti 16)) : Met l yL_unseal (Cond.codeWith yL_unseal cL_unseal 6 (some .int) [(0, 12, 15, 15)] :: gw) (rmk 8 1 6) (va_Pc [.ref (q 0), .int (ri), .int (si), .int (ti), .ref (ob)] (fun U => kB D vwCl (oW cI cZ cJ q ob A B T P Y G V) (tsO cI cZ cJ) sz U ∧ tx_B U)) (kQ (some (.int 1)) D vwCl (oW cI cZ cJ q ob A B T P Y G V) (va_A (oW cI cZ cJ q ob A B T P Y G V) sz)) 1 6 (va_A (oW cI cZ cJ q ob A B T P Y G V) sz) := by
  refine va_MetW (cc := cL_unseal) (maxL := 6) (ret := (some .int)) (hh := [(0, 12, 15, 15)]) (by decide) rfl ?_
  intro p e s m args below meth c s₁ B9 hml hv
  obtain ⟨rfl, ⟨hsz, hP, hK, hD0⟩, hB⟩ := hv
  have hx := B9.exec
  have hb := B9.bytes
  have hr := B9.returns
  have hts := fun (w : Cond) (h : w ∈ gw) => atoms_spec (ws := _ :: gw) B9.pre w (List.mem_cons_of_mem _ h)
  have hown : s.vm.findClass RL = some m.cls := findClass_of_methodNamed B9.named
  have hlocks := B9.notSynchronized
  have hl := lv_entry ([.ref (q 0), .int (ri), .int (si), .int (ti), .ref (ob)]) (n := 6) (Nat.le_of_ble_eq_true rfl)
  rw [lg_entry_eq]
  generalize (lg_sl ([.ref (q 0), .int (ri), .int (si), .int (ti), .ref (ob)]) ++ List.replicate (6 - (lg_sl ([.ref (q 0), .int (ri), .int (si), .int (ti), .ref (ob)])).length) Slot.unset).toArray = ls at hl ⊢
  have hl : lv_has ls 6 [(0, .ref (q 0)), (1, .int (ri)), (2, .int (si)), (3, .int (ti)), (4, .ref (ob))] := hl
  subst hsz
  have hD := hD0.self (sz := s.heap.size)
  generalize hAe : va_A (oW cI cZ cJ q ob A B T P Y G V) s.heap.size = A9 at hD ⊢
  have hA : ∀ z : Nat, s.heap.size ≤ z → A9 z := fun z h => by rw [← hAe]; exact Or.inr h
  have hS : va_S A9 s.heap s.heap [] := va_S.rf
  refine lv_aload hx hb dL_unseal_0 (lv_at hl 4 rfl) ?_
  refine lv_iconst (v := 0) hx hb dL_unseal_2 (by decide) ?_
  refine lv_aload_n hx hb dL_unseal_3 rfl (lv_at hl 0 rfl) ?_
  refine lv_iload_n hx hb dL_unseal_4 rfl (lv_at hl 1 rfl) ?_
  refine lv_iload_n hx hb dL_unseal_5 rfl (lv_at hl 2 rfl) ?_
  refine lv_iload_n hx hb dL_unseal_6 rfl (lv_at hl 3 rfl) ?_
  obtain ⟨m9, meth9, c9, hn9, hm9, hc9, -, -, hex, -⟩ := Cond.codeWith_spec (atoms_spec (ws := _ :: gw) B9.pre _ List.mem_cons_self)
  cases B9.named.symm.trans hn9
  cases B9.method.symm.trans hm9
  cases (Stand.of_body B9).code.symm.trans hc9
  have hex := kt_rows _ _ hex
  refine tx_callV (C := RX) (b := q 0) (As := [.int (ri), .int (si), .int (ti)]) (rest := [.int (0), .ref (ob)]) ⟨hx, hb, hml, hown, hts⟩ (tX_unseal l hst (q 0) ri si ti hbad) (cwV 3 hts (gw_V w_217 w_218 w_219 w_14 w_220) rfl rfl rfl (by decide) ⟨Nat.le_of_ble_eq_true rfl, Nat.le_of_ble_eq_true rfl⟩) ⟨tx_blind, (va_recv hK hP (ci := 0) rfl (q0 := 0) rfl), tx_pre hB (fun _ _ => rfl)⟩ rfl hl.1 rfl (Nat.le_of_ble_eq_true rfl) dL_unseal_7 ⟨Nat.le_of_ble_eq_true rfl, Nat.le_of_ble_eq_true rfl⟩ (fun z ce H hz1 hk1 h1 h2 h3 => ?_)
  refine tx_catch (E := iob) (name := iob) hown [] ⟨0, 12, 15, 15⟩ [] hex (fun z hz => nomatch hz) (by decide) (by decide) (hts _ w_78) ((hB _).1 (Cond.castable iob iob) (by decide +kernel)) h1 h2 h3 ?_
  have hP : va_P D vwCl (oW cI cZ cJ q ob A B T P Y G V) H := hP.kept (fun k9 x9 h9 => hk1 x9.1 (hP k9 x9 h9).lt)
  have hS : va_S A9 s.heap H [] := ⟨hz1, fun x9 h9 _ => hk1 x9 h9, fun _ h9 => nomatch h9⟩
  refine lv_astore hx hb dL_unseal_15 hl (by decide) rfl (fun ls hl => ?_)
  have hl : lv_has ls 6 [(5, .ref (z)), (0, .ref (q 0)), (1, .int (ri)), (2, .int (si)), (3, .int (ti)), (4, .ref (ob))] := hl
  refine lv_iconst (v := 1) hx hb dL_unseal_17 (by decide) ?_
  exact W.iret (v := 1) hx hb hr (fun t9 ht hW => ⟨rfl, by rw [ht]; exact hP, hD, hS.F ht⟩) hS.2.2 dL_unseal_18

set_option maxRecDepth 100000 in
set_option maxHeartbeats 4000000 in
theorem mL_allows_y (l : Launch) (hst : l.stackTraces = false) (D : va_G) (cI cZ cJ : ClassId) (q : Nat → Nat) (ob : Nat) (A B T P Y : Nat → Int32) (G : Nat → Bool) (V : Nat → Int64) (sz : Nat) (ri by9 : Int32) (n : Nat) (w : Int32) (hri : vp_in ri 16) (hn : n ≤ 65536) : Met l yL_allows (Cond.codeWith yL_allows cL_allows 7 (some .int) [(0, 14, 17, 13), (0, 14, 21, 15)] :: gw) (rmk 8 1 6) (va_Pc [.ref (q 0), .int (ri), .int (by9), .int (nI n), .int (w), .ref (ob)] (fun U => kB D vwCl (oW cI cZ cJ q ob A B T P Y G V) (tsO cI cZ cJ) sz U ∧ tx_B U)) (kQ (some (.int 0)) D vwCl (oW cI cZ cJ q ob A B T P Y G (vp_updL V 0 ((ga_acc B T P Y G ri.toNatClampNeg ((A ri.toNatClampNeg) + (by9)) n w).toInt64))) (va_A (oW cI cZ cJ q ob A B T P Y G V) sz)) 1 6 (va_A (oW cI cZ cJ q ob A B T P Y G V) sz) := by
  refine va_MetW (cc := cL_allows) (maxL := 7) (ret := (some .int)) (hh := [(0, 14, 17, 13), (0, 14, 21, 15)]) (by decide) rfl ?_
  intro p e s m args below meth c s₁ B9 hml hv
  obtain ⟨rfl, ⟨hsz, hP, hK, hD0⟩, hB⟩ := hv
  have hx := B9.exec
  have hb := B9.bytes
  have hr := B9.returns
  have hts := fun (w : Cond) (h : w ∈ gw) => atoms_spec (ws := _ :: gw) B9.pre w (List.mem_cons_of_mem _ h)
  have hown : s.vm.findClass RL = some m.cls := findClass_of_methodNamed B9.named
  have hlocks := B9.notSynchronized
  have hl := lv_entry ([.ref (q 0), .int (ri), .int (by9), .int (nI n), .int (w), .ref (ob)]) (n := 7) (Nat.le_of_ble_eq_true rfl)
  rw [lg_entry_eq]
  generalize (lg_sl ([.ref (q 0), .int (ri), .int (by9), .int (nI n), .int (w), .ref (ob)]) ++ List.replicate (7 - (lg_sl ([.ref (q 0), .int (ri), .int (by9), .int (nI n), .int (w), .ref (ob)])).length) Slot.unset).toArray = ls at hl ⊢
  have hl : lv_has ls 7 [(0, .ref (q 0)), (1, .int (ri)), (2, .int (by9)), (3, .int (nI n)), (4, .int (w)), (5, .ref (ob))] := hl
  subst hsz
  have hD := hD0.self (sz := s.heap.size)
  generalize hAe : va_A (oW cI cZ cJ q ob A B T P Y G V) s.heap.size = A9 at hD ⊢
  have hA : ∀ z : Nat, s.heap.size ≤ z → A9 z := fun z h => by rw [← hAe]; exact Or.inr h
  have hS : va_S A9 s.heap s.heap [] := va_S.rf
  refine lv_aload hx hb dL_allows_0 (lv_at hl 5 rfl) ?_
  refine lv_iconst (v := 0) hx hb dL_allows_2 (by decide) ?_
  refine lv_aload_n hx hb dL_allows_3 rfl (lv_at hl 0 rfl) ?_
  refine lv_iload_n hx hb dL_allows_4 rfl (lv_at hl 1 rfl) ?_
  refine lv_iload_n hx hb dL_allows_5 rfl (lv_at hl 2 rfl) ?_
  refine lv_iload_n hx hb dL_allows_6 rfl (lv_at hl 3 rfl) ?_
  refine lv_iload hx hb dL_allows_7 (lv_at hl 4 rfl) ?_
  refine kr_V 4 (b := q 0) (As := [.int (ri), .int (by9), .int (nI n), .int (w)]) (rest := [.int (0), .ref (ob)]) (r := .int (ga_acc B T P Y G ri.toNatClampNeg ((A ri.toNatClampNeg) + (by9)) n w)) hx hb hml hown hts hl.1 (mX_allows l D cI cZ q A B T P Y G ri by9 n w hri hn) rB_stb ⟨hP.sub (ws' := xW cI cZ q A B T P Y G) [0, 1, 2, 3, 4, 5, 6] rfl, (hK.sub (tys' := tsX cI cZ) [0, 1] rfl)⟩ (gw_V w_228 w_229 w_230 w_14 w_231) (by decide) ⟨rfl, rfl⟩ ⟨Nat.le_of_ble_eq_true rfl, Nat.le_of_ble_eq_true rfl⟩ (va_recv hK hP (ci := 0) rfl (q0 := 0) rfl) rfl rfl (Nat.le_of_ble_eq_true rfl) dL_allows_9 ⟨Nat.zero_le _, Nat.zero_le _⟩ ?_
  refine W.eq (g2 := F0 m 12 ls [.int (ga_acc B T P Y G ri.toNatClampNeg ((A ri.toNatClampNeg) + (by9)) n w), .int (0), .ref (ob)]) rfl ?_
  refine lv_i2l (v := (ga_acc B T P Y G ri.toNatClampNeg ((A ri.toNatClampNeg) + (by9)) n w).toInt64) hx hb dL_allows_12 rfl ?_
  refine va_last hx hb hK hP hD hS 7 2 rfl rfl in01 dL_allows_13 (fun H locs hP hD hS => ?_)
  have hP : va_P D vwCl (oW cI cZ cJ q ob A B T P Y G (vp_updL V 0 ((ga_acc B T P Y G ri.toNatClampNeg ((A ri.toNatClampNeg) + (by9)) n w).toInt64))) H := hP
  have hD : va_D A9 (oW cI cZ cJ q ob A B T P Y G (vp_updL V 0 ((ga_acc B T P Y G ri.toNatClampNeg ((A ri.toNatClampNeg) + (by9)) n w).toInt64))) := hD
  refine W.eq (g2 := F0 m 14 ls []) rfl ?_
  refine lv_goto (tgt := 25) hx hb dL_allows_14 (by decide) ?_
  refine lv_iconst (v := 0) hx hb dL_allows_25 (by decide) ?_
  refine W.widen (k := 1) (n := 6) (Nat.le_of_ble_eq_true rfl) (Nat.le_of_ble_eq_true rfl) ?_
  exact W.iret (v := 0) hx hb hr (fun t9 ht hW => ⟨rfl, by rw [ht]; exact hP, hD, hS.F ht⟩) hS.2.2 dL_allows_26

set_option maxRecDepth 100000 in
set_option maxHeartbeats 4000000 in
theorem mL_allows_a (l : Launch) (hst : l.stackTraces = false) (D : va_G) (cI cZ cJ : ClassId) (q : Nat → Nat) (ob : Nat) (A B T P Y : Nat → Int32) (G : Nat → Bool) (V : Nat → Int64) (sz : Nat) (ri by9 v w : Int32) (hbad : ¬ (¬ v < 0 ∧ v ≤ 65536)) : Met l yL_allows (Cond.codeWith yL_allows cL_allows 7 (some .int) [(0, 14, 17, 13), (0, 14, 21, 15)] :: gw) (rmk 8 1 6) (va_Pc [.ref (q 0), .int (ri), .int (by9), .int (v), .int (w), .ref (ob)] (fun U => kB D vwCl (oW cI cZ cJ q ob A B T P Y G V) (tsO cI cZ cJ) sz U ∧ tx_B U)) (kQ (some (.int 1)) D vwCl (oW cI cZ cJ q ob A B T P Y G V) (va_A (oW cI cZ cJ q ob A B T P Y G V) sz)) 1 6 (va_A (oW cI cZ cJ q ob A B T P Y G V) sz) := by
  refine va_MetW (cc := cL_allows) (maxL := 7) (ret := (some .int)) (hh := [(0, 14, 17, 13), (0, 14, 21, 15)]) (by decide) rfl ?_
  intro p e s m args below meth c s₁ B9 hml hv
  obtain ⟨rfl, ⟨hsz, hP, hK, hD0⟩, hB⟩ := hv
  have hx := B9.exec
  have hb := B9.bytes
  have hr := B9.returns
  have hts := fun (w : Cond) (h : w ∈ gw) => atoms_spec (ws := _ :: gw) B9.pre w (List.mem_cons_of_mem _ h)
  have hown : s.vm.findClass RL = some m.cls := findClass_of_methodNamed B9.named
  have hlocks := B9.notSynchronized
  have hl := lv_entry ([.ref (q 0), .int (ri), .int (by9), .int (v), .int (w), .ref (ob)]) (n := 7) (Nat.le_of_ble_eq_true rfl)
  rw [lg_entry_eq]
  generalize (lg_sl ([.ref (q 0), .int (ri), .int (by9), .int (v), .int (w), .ref (ob)]) ++ List.replicate (7 - (lg_sl ([.ref (q 0), .int (ri), .int (by9), .int (v), .int (w), .ref (ob)])).length) Slot.unset).toArray = ls at hl ⊢
  have hl : lv_has ls 7 [(0, .ref (q 0)), (1, .int (ri)), (2, .int (by9)), (3, .int (v)), (4, .int (w)), (5, .ref (ob))] := hl
  subst hsz
  have hD := hD0.self (sz := s.heap.size)
  generalize hAe : va_A (oW cI cZ cJ q ob A B T P Y G V) s.heap.size = A9 at hD ⊢
  have hA : ∀ z : Nat, s.heap.size ≤ z → A9 z := fun z h => by rw [← hAe]; exact Or.inr h
  have hS : va_S A9 s.heap s.heap [] := va_S.rf
  refine lv_aload hx hb dL_allows_0 (lv_at hl 5 rfl) ?_
  refine lv_iconst (v := 0) hx hb dL_allows_2 (by decide) ?_
  refine lv_aload_n hx hb dL_allows_3 rfl (lv_at hl 0 rfl) ?_
  refine lv_iload_n hx hb dL_allows_4 rfl (lv_at hl 1 rfl) ?_
  refine lv_iload_n hx hb dL_allows_5 rfl (lv_at hl 2 rfl) ?_
  refine lv_iload_n hx hb dL_allows_6 rfl (lv_at hl 3 rfl) ?_
  refine lv_iload hx hb dL_allows_7 (lv_at hl 4 rfl) ?_
  obtain ⟨m9, meth9, c9, hn9, hm9, hc9, -, -, hex, -⟩ := Cond.codeWith_spec (atoms_spec (ws := _ :: gw) B9.pre _ List.mem_cons_self)
  cases B9.named.symm.trans hn9
  cases B9.method.symm.trans hm9
  cases (Stand.of_body B9).code.symm.trans hc9
  have hex := kt_rows _ _ hex
  refine tx_callV (C := RX) (b := q 0) (As := [.int (ri), .int (by9), .int (v), .int (w)]) (rest := [.int (0), .ref (ob)]) ⟨hx, hb, hml, hown, hts⟩ (tX_allows_a l hst (q 0) ri by9 v w hbad) (cwV 4 hts (gw_V w_228 w_229 w_230 w_14 w_231) rfl rfl rfl (by decide) ⟨Nat.le_of_ble_eq_true rfl, Nat.le_of_ble_eq_true rfl⟩) ⟨tx_blind, (va_recv hK hP (ci := 0) rfl (q0 := 0) rfl), tx_pre hB (fun _ _ => rfl)⟩ rfl hl.1 rfl (Nat.le_of_ble_eq_true rfl) dL_allows_9 ⟨Nat.le_of_ble_eq_true rfl, Nat.le_of_ble_eq_true rfl⟩ (fun z ce H hz1 hk1 h1 h2 h3 => ?_)
  refine tx_catch (E := iae) (name := iae) hown [] ⟨0, 14, 17, 13⟩ [⟨0, 14, 21, 15⟩] hex (fun z hz => nomatch hz) (by decide) (by decide) (hts _ w_77) ((hB _).2.1 (Cond.castable iae iae) (by decide +kernel)) h1 h2 h3 ?_
  have hP : va_P D vwCl (oW cI cZ cJ q ob A B T P Y G V) H := hP.kept (fun k9 x9 h9 => hk1 x9.1 (hP k9 x9 h9).lt)
  have hS : va_S A9 s.heap H [] := ⟨hz1, fun x9 h9 _ => hk1 x9 h9, fun _ h9 => nomatch h9⟩
  refine lv_astore hx hb dL_allows_17 hl (by decide) rfl (fun ls hl => ?_)
  have hl : lv_has ls 7 [(6, .ref (z)), (0, .ref (q 0)), (1, .int (ri)), (2, .int (by9)), (3, .int (v)), (4, .int (w)), (5, .ref (ob))] := hl
  refine lv_iconst (v := 1) hx hb dL_allows_19 (by decide) ?_
  exact W.iret (v := 1) hx hb hr (fun t9 ht hW => ⟨rfl, by rw [ht]; exact hP, hD, hS.F ht⟩) hS.2.2 dL_allows_20

set_option maxRecDepth 100000 in
set_option maxHeartbeats 4000000 in
theorem mL_allows_b (l : Launch) (hst : l.stackTraces = false) (D : va_G) (cI cZ cJ : ClassId) (q : Nat → Nat) (ob : Nat) (A B T P Y : Nat → Int32) (G : Nat → Bool) (V : Nat → Int64) (sz : Nat) (ri by9 v w : Int32) (hv0 : ¬ v < 0) (hv : v ≤ 65536) (hbad : ¬ vp_in ri 16) : Met l yL_allows (Cond.codeWith yL_allows cL_allows 7 (some .int) [(0, 14, 17, 13), (0, 14, 21, 15)] :: gw) (rmk 8 1 6) (va_Pc [.ref (q 0), .int (ri), .int (by9), .int (v), .int (w), .ref (ob)] (fun U => kB D vwCl (oW cI cZ cJ q ob A B T P Y G V) (tsO cI cZ cJ) sz U ∧ tx_B U)) (kQ (some (.int 2)) D vwCl (oW cI cZ cJ q ob A B T P Y G V) (va_A (oW cI cZ cJ q ob A B T P Y G V) sz)) 1 6 (va_A (oW cI cZ cJ q ob A B T P Y G V) sz) := by
  refine va_MetW (cc := cL_allows) (maxL := 7) (ret := (some .int)) (hh := [(0, 14, 17, 13), (0, 14, 21, 15)]) (by decide) rfl ?_
  intro p e s m args below meth c s₁ B9 hml hv
  obtain ⟨rfl, ⟨hsz, hP, hK, hD0⟩, hB⟩ := hv
  have hx := B9.exec
  have hb := B9.bytes
  have hr := B9.returns
  have hts := fun (w : Cond) (h : w ∈ gw) => atoms_spec (ws := _ :: gw) B9.pre w (List.mem_cons_of_mem _ h)
  have hown : s.vm.findClass RL = some m.cls := findClass_of_methodNamed B9.named
  have hlocks := B9.notSynchronized
  have hl := lv_entry ([.ref (q 0), .int (ri), .int (by9), .int (v), .int (w), .ref (ob)]) (n := 7) (Nat.le_of_ble_eq_true rfl)
  rw [lg_entry_eq]
  generalize (lg_sl ([.ref (q 0), .int (ri), .int (by9), .int (v), .int (w), .ref (ob)]) ++ List.replicate (7 - (lg_sl ([.ref (q 0), .int (ri), .int (by9), .int (v), .int (w), .ref (ob)])).length) Slot.unset).toArray = ls at hl ⊢
  have hl : lv_has ls 7 [(0, .ref (q 0)), (1, .int (ri)), (2, .int (by9)), (3, .int (v)), (4, .int (w)), (5, .ref (ob))] := hl
  subst hsz
  have hD := hD0.self (sz := s.heap.size)
  generalize hAe : va_A (oW cI cZ cJ q ob A B T P Y G V) s.heap.size = A9 at hD ⊢
  have hA : ∀ z : Nat, s.heap.size ≤ z → A9 z := fun z h => by rw [← hAe]; exact Or.inr h
  have hS : va_S A9 s.heap s.heap [] := va_S.rf
  refine lv_aload hx hb dL_allows_0 (lv_at hl 5 rfl) ?_
  refine lv_iconst (v := 0) hx hb dL_allows_2 (by decide) ?_
  refine lv_aload_n hx hb dL_allows_3 rfl (lv_at hl 0 rfl) ?_
  refine lv_iload_n hx hb dL_allows_4 rfl (lv_at hl 1 rfl) ?_
  refine lv_iload_n hx hb dL_allows_5 rfl (lv_at hl 2 rfl) ?_
  refine lv_iload_n hx hb dL_allows_6 rfl (lv_at hl 3 rfl) ?_
  refine lv_iload hx hb dL_allows_7 (lv_at hl 4 rfl) ?_
  obtain ⟨m9, meth9, c9, hn9, hm9, hc9, -, -, hex, -⟩ := Cond.codeWith_spec (atoms_spec (ws := _ :: gw) B9.pre _ List.mem_cons_self)
  cases B9.named.symm.trans hn9
  cases B9.method.symm.trans hm9
  cases (Stand.of_body B9).code.symm.trans hc9
  have hex := kt_rows _ _ hex
  refine tx_callV (C := RX) (b := q 0) (As := [.int (ri), .int (by9), .int (v), .int (w)]) (rest := [.int (0), .ref (ob)]) ⟨hx, hb, hml, hown, hts⟩ (tX_allows_b l hst (q 0) ri by9 v w hv0 hv hbad) (cwV 4 hts (gw_V w_228 w_229 w_230 w_14 w_231) rfl rfl rfl (by decide) ⟨Nat.le_of_ble_eq_true rfl, Nat.le_of_ble_eq_true rfl⟩) ⟨tx_blind, (va_recv hK hP (ci := 0) rfl (q0 := 0) rfl), tx_pre hB (fun _ _ => rfl)⟩ rfl hl.1 rfl (Nat.le_of_ble_eq_true rfl) dL_allows_9 ⟨Nat.le_of_ble_eq_true rfl, Nat.le_of_ble_eq_true rfl⟩ (fun z ce H hz1 hk1 h1 h2 h3 => ?_)
  refine tx_catch (E := iob) (name := iob) hown [⟨0, 14, 17, 13⟩] ⟨0, 14, 21, 15⟩ [] hex (fun z hz => by rcases List.mem_cons.mp hz with rfl | hz; exact ⟨by decide, by decide, iae, (hts _ w_77), (hB #[]).2.2.2⟩; exact nomatch hz) (by decide) (by decide) (hts _ w_78) ((hB _).1 (Cond.castable iob iob) (by decide +kernel)) h1 h2 h3 ?_
  have hP : va_P D vwCl (oW cI cZ cJ q ob A B T P Y G V) H := hP.kept (fun k9 x9 h9 => hk1 x9.1 (hP k9 x9 h9).lt)
  have hS : va_S A9 s.heap H [] := ⟨hz1, fun x9 h9 _ => hk1 x9 h9, fun _ h9 => nomatch h9⟩
  refine lv_astore hx hb dL_allows_21 hl (by decide) rfl (fun ls hl => ?_)
  have hl : lv_has ls 7 [(6, .ref (z)), (0, .ref (q 0)), (1, .int (ri)), (2, .int (by9)), (3, .int (v)), (4, .int (w)), (5, .ref (ob))] := hl
  refine lv_iconst (v := 2) hx hb dL_allows_23 (by decide) ?_
  exact W.iret (v := 2) hx hb hr (fun t9 ht hW => ⟨rfl, by rw [ht]; exact hP, hD, hS.F ht⟩) hS.2.2 dL_allows_24

set_option maxRecDepth 100000 in
set_option maxHeartbeats 4000000 in
theorem mL_within_y (l : Launch) (hst : l.stackTraces = false) (D : va_G) (cI cZ cJ : ClassId) (q : Nat → Nat) (ob : Nat) (A B T P Y : Nat → Int32) (G : Nat → Bool) (V : Nat → Int64) (sz : Nat) (ri si : Int32) (hri : vp_in ri 16) (hsi : vp_in si 16) : Met l yL_within (Cond.codeWith yL_within cL_within 5 (some .int) [(0, 17, 20, 15)] :: gw) (rmk 8 1 6) (va_Pc [.ref (q 0), .int (ri), .int (si), .ref (ob)] (fun U => kB D vwCl (oW cI cZ cJ q ob A B T P Y G V) (tsO cI cZ cJ) sz U ∧ tx_B U)) (kQ (some (.int 0)) D vwCl (oW cI cZ cJ q ob A B T P Y G (vp_updL V 0 (bl (ga_with B T P G ri.toNatClampNeg si.toNatClampNeg)))) (va_A (oW cI cZ cJ q ob A B T P Y G V) sz)) 1 6 (va_A (oW cI cZ cJ q ob A B T P Y G V) sz) := by
  refine va_MetW (cc := cL_within) (maxL := 5) (ret := (some .int)) (hh := [(0, 17, 20, 15)]) (by decide) rfl ?_
  intro p e s m args below meth c s₁ B9 hml hv
  obtain ⟨rfl, ⟨hsz, hP, hK, hD0⟩, hB⟩ := hv
  have hx := B9.exec
  have hb := B9.bytes
  have hr := B9.returns
  have hts := fun (w : Cond) (h : w ∈ gw) => atoms_spec (ws := _ :: gw) B9.pre w (List.mem_cons_of_mem _ h)
  have hown : s.vm.findClass RL = some m.cls := findClass_of_methodNamed B9.named
  have hlocks := B9.notSynchronized
  have hl := lv_entry ([.ref (q 0), .int (ri), .int (si), .ref (ob)]) (n := 5) (Nat.le_of_ble_eq_true rfl)
  rw [lg_entry_eq]
  generalize (lg_sl ([.ref (q 0), .int (ri), .int (si), .ref (ob)]) ++ List.replicate (5 - (lg_sl ([.ref (q 0), .int (ri), .int (si), .ref (ob)])).length) Slot.unset).toArray = ls at hl ⊢
  have hl : lv_has ls 5 [(0, .ref (q 0)), (1, .int (ri)), (2, .int (si)), (3, .ref (ob))] := hl
  subst hsz
  have hD := hD0.self (sz := s.heap.size)
  generalize hAe : va_A (oW cI cZ cJ q ob A B T P Y G V) s.heap.size = A9 at hD ⊢
  have hA : ∀ z : Nat, s.heap.size ≤ z → A9 z := fun z h => by rw [← hAe]; exact Or.inr h
  have hS : va_S A9 s.heap s.heap [] := va_S.rf
  refine lv_aload_n hx hb dL_within_0 rfl (lv_at hl 3 rfl) ?_
  refine lv_iconst (v := 0) hx hb dL_within_1 (by decide) ?_
  refine lv_aload_n hx hb dL_within_2 rfl (lv_at hl 0 rfl) ?_
  refine lv_iload_n hx hb dL_within_3 rfl (lv_at hl 1 rfl) ?_
  refine lv_iload_n hx hb dL_within_4 rfl (lv_at hl 2 rfl) ?_
  refine kr_V 2 (b := q 0) (As := [.int (ri), .int (si)]) (rest := [.int (0), .ref (ob)]) (r := .int (bi (ga_with B T P G ri.toNatClampNeg si.toNatClampNeg))) hx hb hml hown hts hl.1 (mX_within l D cI cZ q A B T P Y G ri si hri hsi) rB_stb ⟨hP.sub (ws' := xW cI cZ q A B T P Y G) [0, 1, 2, 3, 4, 5, 6] rfl, (hK.sub (tys' := tsX cI cZ) [0, 1] rfl)⟩ (gw_V w_237 w_238 w_239 w_14 w_240) (by decide) ⟨rfl, rfl⟩ ⟨Nat.le_of_ble_eq_true rfl, Nat.le_of_ble_eq_true rfl⟩ (va_recv hK hP (ci := 0) rfl (q0 := 0) rfl) rfl rfl (Nat.le_of_ble_eq_true rfl) dL_within_5 ⟨Nat.zero_le _, Nat.zero_le _⟩ ?_
  refine W.eq (g2 := F0 m 8 ls [.int (bi (ga_with B T P G ri.toNatClampNeg si.toNatClampNeg)), .int (0), .ref (ob)]) rfl ?_
  refine lv_if_eq (tgt := 15) hx hb dL_within_8 (by decide) (fun h_1 => ?_) (fun h_1 => ?_)
  · have h_1 := bi_0 h_1
    refine lv_lconst (v := 0) hx hb dL_within_15 (by decide) ?_
    refine va_last hx hb hK hP hD hS 7 2 rfl rfl in01 dL_within_16 (fun H locs hP hD hS => ?_)
    have hP : va_P D vwCl (oW cI cZ cJ q ob A B T P Y G (vp_updL V 0 (0))) H := hP
    have hD : va_D A9 (oW cI cZ cJ q ob A B T P Y G (vp_updL V 0 (0))) := hD
    have e9 : bl (ga_with B T P G ri.toNatClampNeg si.toNatClampNeg) = 0 := by rw [h_1]; rfl
    rw [← e9] at hP hD
    refine W.eq (g2 := F0 m 17 ls []) rfl ?_
    refine lv_goto (tgt := 24) hx hb dL_within_17 (by decide) ?_
    refine lv_iconst (v := 0) hx hb dL_within_24 (by decide) ?_
    refine W.widen (k := 1) (n := 6) (Nat.le_of_ble_eq_true rfl) (Nat.le_of_ble_eq_true rfl) ?_
    exact W.iret (v := 0) hx hb hr (fun t9 ht hW => ⟨rfl, by rw [ht]; exact hP, hD, hS.F ht⟩) hS.2.2 dL_within_25
  · have h_1 := bi_n h_1
    refine lv_lconst (v := 1) hx hb dL_within_11 (by decide) ?_
    refine lv_goto (tgt := 16) hx hb dL_within_12 (by decide) ?_
    refine va_last hx hb hK hP hD hS 7 2 rfl rfl in01 dL_within_16 (fun H locs hP hD hS => ?_)
    have hP : va_P D vwCl (oW cI cZ cJ q ob A B T P Y G (vp_updL V 0 (1))) H := hP
    have hD : va_D A9 (oW cI cZ cJ q ob A B T P Y G (vp_updL V 0 (1))) := hD
    have e9 : bl (ga_with B T P G ri.toNatClampNeg si.toNatClampNeg) = 1 := by rw [h_1]; rfl
    rw [← e9] at hP hD
    refine W.eq (g2 := F0 m 17 ls []) rfl ?_
    refine lv_goto (tgt := 24) hx hb dL_within_17 (by decide) ?_
    refine lv_iconst (v := 0) hx hb dL_within_24 (by decide) ?_
    refine W.widen (k := 1) (n := 6) (Nat.le_of_ble_eq_true rfl) (Nat.le_of_ble_eq_true rfl) ?_
    exact W.iret (v := 0) hx hb hr (fun t9 ht hW => ⟨rfl, by rw [ht]; exact hP, hD, hS.F ht⟩) hS.2.2 dL_within_25

set_option maxRecDepth 100000 in
set_option maxHeartbeats 4000000 in
theorem mL_within_n (l : Launch) (hst : l.stackTraces = false) (D : va_G) (cI cZ cJ : ClassId) (q : Nat → Nat) (ob : Nat) (A B T P Y : Nat → Int32) (G : Nat → Bool) (V : Nat → Int64) (sz : Nat) (ri si : Int32) (hbad : ¬ (vp_in ri 16 ∧ vp_in si 16)) : Met l yL_within (Cond.codeWith yL_within cL_within 5 (some .int) [(0, 17, 20, 15)] :: gw) (rmk 8 1 6) (va_Pc [.ref (q 0), .int (ri), .int (si), .ref (ob)] (fun U => kB D vwCl (oW cI cZ cJ q ob A B T P Y G V) (tsO cI cZ cJ) sz U ∧ tx_B U)) (kQ (some (.int 1)) D vwCl (oW cI cZ cJ q ob A B T P Y G V) (va_A (oW cI cZ cJ q ob A B T P Y G V) sz)) 1 6 (va_A (oW cI cZ cJ q ob A B T P Y G V) sz) := by
  refine va_MetW (cc := cL_within) (maxL := 5) (ret := (some .int)) (hh := [(0, 17, 20, 15)]) (by decide) rfl ?_
  intro p e s m args below meth c s₁ B9 hml hv
  obtain ⟨rfl, ⟨hsz, hP, hK, hD0⟩, hB⟩ := hv
  have hx := B9.exec
  have hb := B9.bytes
  have hr := B9.returns
  have hts := fun (w : Cond) (h : w ∈ gw) => atoms_spec (ws := _ :: gw) B9.pre w (List.mem_cons_of_mem _ h)
  have hown : s.vm.findClass RL = some m.cls := findClass_of_methodNamed B9.named
  have hlocks := B9.notSynchronized
  have hl := lv_entry ([.ref (q 0), .int (ri), .int (si), .ref (ob)]) (n := 5) (Nat.le_of_ble_eq_true rfl)
  rw [lg_entry_eq]
  generalize (lg_sl ([.ref (q 0), .int (ri), .int (si), .ref (ob)]) ++ List.replicate (5 - (lg_sl ([.ref (q 0), .int (ri), .int (si), .ref (ob)])).length) Slot.unset).toArray = ls at hl ⊢
  have hl : lv_has ls 5 [(0, .ref (q 0)), (1, .int (ri)), (2, .int (si)), (3, .ref (ob))] := hl
  subst hsz
  have hD := hD0.self (sz := s.heap.size)
  generalize hAe : va_A (oW cI cZ cJ q ob A B T P Y G V) s.heap.size = A9 at hD ⊢
  have hA : ∀ z : Nat, s.heap.size ≤ z → A9 z := fun z h => by rw [← hAe]; exact Or.inr h
  have hS : va_S A9 s.heap s.heap [] := va_S.rf
  refine lv_aload_n hx hb dL_within_0 rfl (lv_at hl 3 rfl) ?_
  refine lv_iconst (v := 0) hx hb dL_within_1 (by decide) ?_
  refine lv_aload_n hx hb dL_within_2 rfl (lv_at hl 0 rfl) ?_
  refine lv_iload_n hx hb dL_within_3 rfl (lv_at hl 1 rfl) ?_
  refine lv_iload_n hx hb dL_within_4 rfl (lv_at hl 2 rfl) ?_
  obtain ⟨m9, meth9, c9, hn9, hm9, hc9, -, -, hex, -⟩ := Cond.codeWith_spec (atoms_spec (ws := _ :: gw) B9.pre _ List.mem_cons_self)
  cases B9.named.symm.trans hn9
  cases B9.method.symm.trans hm9
  cases (Stand.of_body B9).code.symm.trans hc9
  have hex := kt_rows _ _ hex
  refine tx_callV (C := RX) (b := q 0) (As := [.int (ri), .int (si)]) (rest := [.int (0), .ref (ob)]) ⟨hx, hb, hml, hown, hts⟩ (tX_within l hst (q 0) ri si hbad) (cwV 2 hts (gw_V w_237 w_238 w_239 w_14 w_240) rfl rfl rfl (by decide) ⟨Nat.le_of_ble_eq_true rfl, Nat.le_of_ble_eq_true rfl⟩) ⟨tx_blind, (va_recv hK hP (ci := 0) rfl (q0 := 0) rfl), tx_pre hB (fun _ _ => rfl)⟩ rfl hl.1 rfl (Nat.le_of_ble_eq_true rfl) dL_within_5 ⟨Nat.le_of_ble_eq_true rfl, Nat.le_of_ble_eq_true rfl⟩ (fun z ce H hz1 hk1 h1 h2 h3 => ?_)
  refine tx_catch (E := iob) (name := iob) hown [] ⟨0, 17, 20, 15⟩ [] hex (fun z hz => nomatch hz) (by decide) (by decide) (hts _ w_78) ((hB _).1 (Cond.castable iob iob) (by decide +kernel)) h1 h2 h3 ?_
  have hP : va_P D vwCl (oW cI cZ cJ q ob A B T P Y G V) H := hP.kept (fun k9 x9 h9 => hk1 x9.1 (hP k9 x9 h9).lt)
  have hS : va_S A9 s.heap H [] := ⟨hz1, fun x9 h9 _ => hk1 x9 h9, fun _ h9 => nomatch h9⟩
  refine lv_astore hx hb dL_within_20 hl (by decide) rfl (fun ls hl => ?_)
  have hl : lv_has ls 5 [(4, .ref (z)), (0, .ref (q 0)), (1, .int (ri)), (2, .int (si)), (3, .ref (ob))] := hl
  refine lv_iconst (v := 1) hx hb dL_within_22 (by decide) ?_
  exact W.iret (v := 1) hx hb hr (fun t9 ht hW => ⟨rfl, by rw [ht]; exact hP, hD, hS.F ht⟩) hS.2.2 dL_within_23

set_option maxRecDepth 100000 in
set_option maxHeartbeats 4000000 in
theorem mL_part_y (l : Launch) (hst : l.stackTraces = false) (D : va_G) (cI cZ cJ : ClassId) (q : Nat → Nat) (ob : Nat) (A B T P Y : Nat → Int32) (G : Nat → Bool) (V : Nat → Int64) (sz : Nat) (ri : Int32) (j : Nat) (hri : vp_in ri 16) (hj : j < 6) : Met l yL_part (Cond.codeWith yL_part cL_part 5 (some .int) [(0, 10, 13, 13), (0, 10, 17, 15)] :: gw) (rmk 8 1 6) (va_Pc [.ref (q 0), .int (ri), .int (nI j), .ref (ob)] (fun U => kB D vwCl (oW cI cZ cJ q ob A B T P Y G V) (tsO cI cZ cJ) sz U ∧ tx_B U)) (kQ (some (.int 0)) D vwCl (oW cI cZ cJ q ob A B T P Y G (vp_updL V 0 ((ga_part A B T P Y G ri.toNatClampNeg (nI j)).toInt64))) (va_A (oW cI cZ cJ q ob A B T P Y G V) sz)) 1 6 (va_A (oW cI cZ cJ q ob A B T P Y G V) sz) := by
  refine va_MetW (cc := cL_part) (maxL := 5) (ret := (some .int)) (hh := [(0, 10, 13, 13), (0, 10, 17, 15)]) (by decide) rfl ?_
  intro p e s m args below meth c s₁ B9 hml hv
  obtain ⟨rfl, ⟨hsz, hP, hK, hD0⟩, hB⟩ := hv
  have hx := B9.exec
  have hb := B9.bytes
  have hr := B9.returns
  have hts := fun (w : Cond) (h : w ∈ gw) => atoms_spec (ws := _ :: gw) B9.pre w (List.mem_cons_of_mem _ h)
  have hown : s.vm.findClass RL = some m.cls := findClass_of_methodNamed B9.named
  have hlocks := B9.notSynchronized
  have hl := lv_entry ([.ref (q 0), .int (ri), .int (nI j), .ref (ob)]) (n := 5) (Nat.le_of_ble_eq_true rfl)
  rw [lg_entry_eq]
  generalize (lg_sl ([.ref (q 0), .int (ri), .int (nI j), .ref (ob)]) ++ List.replicate (5 - (lg_sl ([.ref (q 0), .int (ri), .int (nI j), .ref (ob)])).length) Slot.unset).toArray = ls at hl ⊢
  have hl : lv_has ls 5 [(0, .ref (q 0)), (1, .int (ri)), (2, .int (nI j)), (3, .ref (ob))] := hl
  subst hsz
  have hD := hD0.self (sz := s.heap.size)
  generalize hAe : va_A (oW cI cZ cJ q ob A B T P Y G V) s.heap.size = A9 at hD ⊢
  have hA : ∀ z : Nat, s.heap.size ≤ z → A9 z := fun z h => by rw [← hAe]; exact Or.inr h
  have hS : va_S A9 s.heap s.heap [] := va_S.rf
  refine lv_aload_n hx hb dL_part_0 rfl (lv_at hl 3 rfl) ?_
  refine lv_iconst (v := 0) hx hb dL_part_1 (by decide) ?_
  refine lv_aload_n hx hb dL_part_2 rfl (lv_at hl 0 rfl) ?_
  refine lv_iload_n hx hb dL_part_3 rfl (lv_at hl 1 rfl) ?_
  refine lv_iload_n hx hb dL_part_4 rfl (lv_at hl 2 rfl) ?_
  refine kr_V 2 (b := q 0) (As := [.int (ri), .int (nI j)]) (rest := [.int (0), .ref (ob)]) (r := .int (ga_part A B T P Y G ri.toNatClampNeg (nI j))) hx hb hml hown hts hl.1 (mX_part l D cI cZ q A B T P Y G ri j hri hj) rB_stb ⟨hP.sub (ws' := xW cI cZ q A B T P Y G) [0, 1, 2, 3, 4, 5, 6] rfl, (hK.sub (tys' := tsX cI cZ) [0, 1] rfl)⟩ (gw_V w_244 w_245 w_246 w_14 w_247) (by decide) ⟨rfl, rfl⟩ ⟨Nat.le_of_ble_eq_true rfl, Nat.le_of_ble_eq_true rfl⟩ (va_recv hK hP (ci := 0) rfl (q0 := 0) rfl) rfl rfl (Nat.le_of_ble_eq_true rfl) dL_part_5 ⟨Nat.zero_le _, Nat.zero_le _⟩ ?_
  refine W.eq (g2 := F0 m 8 ls [.int (ga_part A B T P Y G ri.toNatClampNeg (nI j)), .int (0), .ref (ob)]) rfl ?_
  refine lv_i2l (v := (ga_part A B T P Y G ri.toNatClampNeg (nI j)).toInt64) hx hb dL_part_8 rfl ?_
  refine va_last hx hb hK hP hD hS 7 2 rfl rfl in01 dL_part_9 (fun H locs hP hD hS => ?_)
  have hP : va_P D vwCl (oW cI cZ cJ q ob A B T P Y G (vp_updL V 0 ((ga_part A B T P Y G ri.toNatClampNeg (nI j)).toInt64))) H := hP
  have hD : va_D A9 (oW cI cZ cJ q ob A B T P Y G (vp_updL V 0 ((ga_part A B T P Y G ri.toNatClampNeg (nI j)).toInt64))) := hD
  refine W.eq (g2 := F0 m 10 ls []) rfl ?_
  refine lv_goto (tgt := 21) hx hb dL_part_10 (by decide) ?_
  refine lv_iconst (v := 0) hx hb dL_part_21 (by decide) ?_
  refine W.widen (k := 1) (n := 6) (Nat.le_of_ble_eq_true rfl) (Nat.le_of_ble_eq_true rfl) ?_
  exact W.iret (v := 0) hx hb hr (fun t9 ht hW => ⟨rfl, by rw [ht]; exact hP, hD, hS.F ht⟩) hS.2.2 dL_part_22

set_option maxRecDepth 100000 in
set_option maxHeartbeats 4000000 in
theorem mL_part_a (l : Launch) (hst : l.stackTraces = false) (D : va_G) (cI cZ cJ : ClassId) (q : Nat → Nat) (ob : Nat) (A B T P Y : Nat → Int32) (G : Nat → Bool) (V : Nat → Int64) (sz : Nat) (ri v : Int32) (hbad : ¬ (¬ v < 0 ∧ v ≤ 5)) : Met l yL_part (Cond.codeWith yL_part cL_part 5 (some .int) [(0, 10, 13, 13), (0, 10, 17, 15)] :: gw) (rmk 8 1 6) (va_Pc [.ref (q 0), .int (ri), .int (v), .ref (ob)] (fun U => kB D vwCl (oW cI cZ cJ q ob A B T P Y G V) (tsO cI cZ cJ) sz U ∧ tx_B U)) (kQ (some (.int 1)) D vwCl (oW cI cZ cJ q ob A B T P Y G V) (va_A (oW cI cZ cJ q ob A B T P Y G V) sz)) 1 6 (va_A (oW cI cZ cJ q ob A B T P Y G V) sz) := by
  refine va_MetW (cc := cL_part) (maxL := 5) (ret := (some .int)) (hh := [(0, 10, 13, 13), (0, 10, 17, 15)]) (by decide) rfl ?_
  intro p e s m args below meth c s₁ B9 hml hv
  obtain ⟨rfl, ⟨hsz, hP, hK, hD0⟩, hB⟩ := hv
  have hx := B9.exec
  have hb := B9.bytes
  have hr := B9.returns
  have hts := fun (w : Cond) (h : w ∈ gw) => atoms_spec (ws := _ :: gw) B9.pre w (List.mem_cons_of_mem _ h)
  have hown : s.vm.findClass RL = some m.cls := findClass_of_methodNamed B9.named
  have hlocks := B9.notSynchronized
  have hl := lv_entry ([.ref (q 0), .int (ri), .int (v), .ref (ob)]) (n := 5) (Nat.le_of_ble_eq_true rfl)
  rw [lg_entry_eq]
  generalize (lg_sl ([.ref (q 0), .int (ri), .int (v), .ref (ob)]) ++ List.replicate (5 - (lg_sl ([.ref (q 0), .int (ri), .int (v), .ref (ob)])).length) Slot.unset).toArray = ls at hl ⊢
  have hl : lv_has ls 5 [(0, .ref (q 0)), (1, .int (ri)), (2, .int (v)), (3, .ref (ob))] := hl
  subst hsz
  have hD := hD0.self (sz := s.heap.size)
  generalize hAe : va_A (oW cI cZ cJ q ob A B T P Y G V) s.heap.size = A9 at hD ⊢
  have hA : ∀ z : Nat, s.heap.size ≤ z → A9 z := fun z h => by rw [← hAe]; exact Or.inr h
  have hS : va_S A9 s.heap s.heap [] := va_S.rf
  refine lv_aload_n hx hb dL_part_0 rfl (lv_at hl 3 rfl) ?_
  refine lv_iconst (v := 0) hx hb dL_part_1 (by decide) ?_
  refine lv_aload_n hx hb dL_part_2 rfl (lv_at hl 0 rfl) ?_
  refine lv_iload_n hx hb dL_part_3 rfl (lv_at hl 1 rfl) ?_
  refine lv_iload_n hx hb dL_part_4 rfl (lv_at hl 2 rfl) ?_
  obtain ⟨m9, meth9, c9, hn9, hm9, hc9, -, -, hex, -⟩ := Cond.codeWith_spec (atoms_spec (ws := _ :: gw) B9.pre _ List.mem_cons_self)
  cases B9.named.symm.trans hn9
  cases B9.method.symm.trans hm9
  cases (Stand.of_body B9).code.symm.trans hc9
  have hex := kt_rows _ _ hex
  refine tx_callV (C := RX) (b := q 0) (As := [.int (ri), .int (v)]) (rest := [.int (0), .ref (ob)]) ⟨hx, hb, hml, hown, hts⟩ (tX_part_a l hst (q 0) ri v hbad) (cwV 2 hts (gw_V w_244 w_245 w_246 w_14 w_247) rfl rfl rfl (by decide) ⟨Nat.le_of_ble_eq_true rfl, Nat.le_of_ble_eq_true rfl⟩) ⟨tx_blind, (va_recv hK hP (ci := 0) rfl (q0 := 0) rfl), tx_pre hB (fun _ _ => rfl)⟩ rfl hl.1 rfl (Nat.le_of_ble_eq_true rfl) dL_part_5 ⟨Nat.le_of_ble_eq_true rfl, Nat.le_of_ble_eq_true rfl⟩ (fun z ce H hz1 hk1 h1 h2 h3 => ?_)
  refine tx_catch (E := iae) (name := iae) hown [] ⟨0, 10, 13, 13⟩ [⟨0, 10, 17, 15⟩] hex (fun z hz => nomatch hz) (by decide) (by decide) (hts _ w_77) ((hB _).2.1 (Cond.castable iae iae) (by decide +kernel)) h1 h2 h3 ?_
  have hP : va_P D vwCl (oW cI cZ cJ q ob A B T P Y G V) H := hP.kept (fun k9 x9 h9 => hk1 x9.1 (hP k9 x9 h9).lt)
  have hS : va_S A9 s.heap H [] := ⟨hz1, fun x9 h9 _ => hk1 x9 h9, fun _ h9 => nomatch h9⟩
  refine lv_astore hx hb dL_part_13 hl (by decide) rfl (fun ls hl => ?_)
  have hl : lv_has ls 5 [(4, .ref (z)), (0, .ref (q 0)), (1, .int (ri)), (2, .int (v)), (3, .ref (ob))] := hl
  refine lv_iconst (v := 1) hx hb dL_part_15 (by decide) ?_
  exact W.iret (v := 1) hx hb hr (fun t9 ht hW => ⟨rfl, by rw [ht]; exact hP, hD, hS.F ht⟩) hS.2.2 dL_part_16

set_option maxRecDepth 100000 in
set_option maxHeartbeats 4000000 in
theorem mL_part_b (l : Launch) (hst : l.stackTraces = false) (D : va_G) (cI cZ cJ : ClassId) (q : Nat → Nat) (ob : Nat) (A B T P Y : Nat → Int32) (G : Nat → Bool) (V : Nat → Int64) (sz : Nat) (ri v : Int32) (hv0 : ¬ v < 0) (hv : v ≤ 5) (hbad : ¬ vp_in ri 16) : Met l yL_part (Cond.codeWith yL_part cL_part 5 (some .int) [(0, 10, 13, 13), (0, 10, 17, 15)] :: gw) (rmk 8 1 6) (va_Pc [.ref (q 0), .int (ri), .int (v), .ref (ob)] (fun U => kB D vwCl (oW cI cZ cJ q ob A B T P Y G V) (tsO cI cZ cJ) sz U ∧ tx_B U)) (kQ (some (.int 2)) D vwCl (oW cI cZ cJ q ob A B T P Y G V) (va_A (oW cI cZ cJ q ob A B T P Y G V) sz)) 1 6 (va_A (oW cI cZ cJ q ob A B T P Y G V) sz) := by
  refine va_MetW (cc := cL_part) (maxL := 5) (ret := (some .int)) (hh := [(0, 10, 13, 13), (0, 10, 17, 15)]) (by decide) rfl ?_
  intro p e s m args below meth c s₁ B9 hml hv
  obtain ⟨rfl, ⟨hsz, hP, hK, hD0⟩, hB⟩ := hv
  have hx := B9.exec
  have hb := B9.bytes
  have hr := B9.returns
  have hts := fun (w : Cond) (h : w ∈ gw) => atoms_spec (ws := _ :: gw) B9.pre w (List.mem_cons_of_mem _ h)
  have hown : s.vm.findClass RL = some m.cls := findClass_of_methodNamed B9.named
  have hlocks := B9.notSynchronized
  have hl := lv_entry ([.ref (q 0), .int (ri), .int (v), .ref (ob)]) (n := 5) (Nat.le_of_ble_eq_true rfl)
  rw [lg_entry_eq]
  generalize (lg_sl ([.ref (q 0), .int (ri), .int (v), .ref (ob)]) ++ List.replicate (5 - (lg_sl ([.ref (q 0), .int (ri), .int (v), .ref (ob)])).length) Slot.unset).toArray = ls at hl ⊢
  have hl : lv_has ls 5 [(0, .ref (q 0)), (1, .int (ri)), (2, .int (v)), (3, .ref (ob))] := hl
  subst hsz
  have hD := hD0.self (sz := s.heap.size)
  generalize hAe : va_A (oW cI cZ cJ q ob A B T P Y G V) s.heap.size = A9 at hD ⊢
  have hA : ∀ z : Nat, s.heap.size ≤ z → A9 z := fun z h => by rw [← hAe]; exact Or.inr h
  have hS : va_S A9 s.heap s.heap [] := va_S.rf
  refine lv_aload_n hx hb dL_part_0 rfl (lv_at hl 3 rfl) ?_
  refine lv_iconst (v := 0) hx hb dL_part_1 (by decide) ?_
  refine lv_aload_n hx hb dL_part_2 rfl (lv_at hl 0 rfl) ?_
  refine lv_iload_n hx hb dL_part_3 rfl (lv_at hl 1 rfl) ?_
  refine lv_iload_n hx hb dL_part_4 rfl (lv_at hl 2 rfl) ?_
  obtain ⟨m9, meth9, c9, hn9, hm9, hc9, -, -, hex, -⟩ := Cond.codeWith_spec (atoms_spec (ws := _ :: gw) B9.pre _ List.mem_cons_self)
  cases B9.named.symm.trans hn9
  cases B9.method.symm.trans hm9
  cases (Stand.of_body B9).code.symm.trans hc9
  have hex := kt_rows _ _ hex
  refine tx_callV (C := RX) (b := q 0) (As := [.int (ri), .int (v)]) (rest := [.int (0), .ref (ob)]) ⟨hx, hb, hml, hown, hts⟩ (tX_part_b l hst (q 0) ri v hv0 hv hbad) (cwV 2 hts (gw_V w_244 w_245 w_246 w_14 w_247) rfl rfl rfl (by decide) ⟨Nat.le_of_ble_eq_true rfl, Nat.le_of_ble_eq_true rfl⟩) ⟨tx_blind, (va_recv hK hP (ci := 0) rfl (q0 := 0) rfl), tx_pre hB (fun _ _ => rfl)⟩ rfl hl.1 rfl (Nat.le_of_ble_eq_true rfl) dL_part_5 ⟨Nat.le_of_ble_eq_true rfl, Nat.le_of_ble_eq_true rfl⟩ (fun z ce H hz1 hk1 h1 h2 h3 => ?_)
  refine tx_catch (E := iob) (name := iob) hown [⟨0, 10, 13, 13⟩] ⟨0, 10, 17, 15⟩ [] hex (fun z hz => by rcases List.mem_cons.mp hz with rfl | hz; exact ⟨by decide, by decide, iae, (hts _ w_77), (hB #[]).2.2.2⟩; exact nomatch hz) (by decide) (by decide) (hts _ w_78) ((hB _).1 (Cond.castable iob iob) (by decide +kernel)) h1 h2 h3 ?_
  have hP : va_P D vwCl (oW cI cZ cJ q ob A B T P Y G V) H := hP.kept (fun k9 x9 h9 => hk1 x9.1 (hP k9 x9 h9).lt)
  have hS : va_S A9 s.heap H [] := ⟨hz1, fun x9 h9 _ => hk1 x9 h9, fun _ h9 => nomatch h9⟩
  refine lv_astore hx hb dL_part_17 hl (by decide) rfl (fun ls hl => ?_)
  have hl : lv_has ls 5 [(4, .ref (z)), (0, .ref (q 0)), (1, .int (ri)), (2, .int (v)), (3, .ref (ob))] := hl
  refine lv_iconst (v := 2) hx hb dL_part_19 (by decide) ?_
  exact W.iret (v := 2) hx hb hr (fun t9 ht hW => ⟨rfl, by rw [ht]; exact hP, hD, hS.F ht⟩) hS.2.2 dL_part_20

