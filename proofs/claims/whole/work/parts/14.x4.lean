/-! Contracts of GrantMath: the methods that write; what root, allows and part throw. Laid by program (wip/whole/gen_x4.py). -/
set_option maxRecDepth 100000 in
set_option maxHeartbeats 4000000 in
theorem mX_copy (l : Launch) (D : va_G) (cI cZ : ClassId) (q : Nat → Nat) (A B T P Y : Nat → Int32) (G : Nat → Bool) (sz : Nat) (ri si : Int32) (hri : vp_in ri 16) (hsi : vp_in si 16) : Met l yX_copy (Cond.code yX_copy cX_copy 3 none :: gw) (rmk 0 0 0) (va_Pc [.ref (q 0), .int (ri), .int (si)] (kB D vwCl (xW cI cZ q A B T P Y G) (tsX cI cZ) sz)) (kQ none D vwCl (xW cI cZ q (upd A ri.toNatClampNeg (A si.toNatClampNeg)) (upd B ri.toNatClampNeg (B si.toNatClampNeg)) (upd T ri.toNatClampNeg (T si.toNatClampNeg)) (upd P ri.toNatClampNeg (P si.toNatClampNeg)) (upd Y ri.toNatClampNeg (Y si.toNatClampNeg)) (ub G ri.toNatClampNeg (G si.toNatClampNeg))) (va_A (xW cI cZ q A B T P Y G) sz)) 0 0 (va_A (xW cI cZ q A B T P Y G) sz) := by
  refine Met.ofW (cc := cX_copy) (maxL := 3) (ret := none) (by decide) rfl ?_
  intro p e s m args below meth c s₁ B9 hml hv
  obtain ⟨rfl, hsz, hP, hK, hD0⟩ := hv
  have hx := B9.exec
  have hb := B9.bytes
  have hr := B9.returns
  have hts := fun (w : Cond) (h : w ∈ gw) => atoms_spec (ws := _ :: gw) B9.pre w (List.mem_cons_of_mem _ h)
  have hown : s.vm.findClass RX = some m.cls := findClass_of_methodNamed B9.named
  have hlocks := B9.notSynchronized
  have hl := lv_entry ([.ref (q 0), .int (ri), .int (si)]) (n := 3) (Nat.le_of_ble_eq_true rfl)
  rw [lg_entry_eq]
  generalize (lg_sl ([.ref (q 0), .int (ri), .int (si)]) ++ List.replicate (3 - (lg_sl ([.ref (q 0), .int (ri), .int (si)])).length) Slot.unset).toArray = ls at hl ⊢
  have hl : lv_has ls 3 [(0, .ref (q 0)), (1, .int (ri)), (2, .int (si))] := hl
  subst hsz
  have hD := hD0.self (sz := s.heap.size)
  generalize hAe : va_A (xW cI cZ q A B T P Y G) s.heap.size = A9 at hD ⊢
  have hA : ∀ z : Nat, s.heap.size ≤ z → A9 z := fun z h => by rw [← hAe]; exact Or.inr h
  have hS : va_S A9 s.heap s.heap [] := va_S.rf
  have hP : va_P D vwCl (xW cI cZ q A B T P Y G) s.heap := hP
  refine lv_aload_n hx hb dX_copy_0 rfl (lv_at hl 0 rfl) ?_
  refine va_get (D := D) (ci := 0) (v := .ref (q 1)) (C := RX) (T := TX) (N := 6) hx hb hts inX hown hK hP 0 rfl rfl 0 (by decide) (hts _ w_29) (fun _ h9 => h9) rfl dX_copy_1 ?_
  refine lv_iload_n hx hb dX_copy_4 rfl (lv_at hl 1 rfl) ?_
  refine lv_aload_n hx hb dX_copy_5 rfl (lv_at hl 0 rfl) ?_
  refine va_get (D := D) (ci := 0) (v := .ref (q 1)) (C := RX) (T := TX) (N := 6) hx hb hts inX hown hK hP 0 rfl rfl 0 (by decide) (hts _ w_29) (fun _ h9 => h9) rfl dX_copy_6 ?_
  refine lv_iload_n hx hb dX_copy_9 rfl (lv_at hl 2 rfl) ?_
  refine va_iald hx hb hK hP 1 0 rfl rfl hsi dX_copy_10 ?_
  refine va_iast hx hb hK hP hD hS 1 0 rfl rfl hri dX_copy_11 (fun H locs hP hD hS => ?_)
  have hP : va_P D vwCl (xW cI cZ q (upd A ri.toNatClampNeg (A si.toNatClampNeg)) B T P Y G) H := hP
  have hD : va_D A9 (xW cI cZ q (upd A ri.toNatClampNeg (A si.toNatClampNeg)) B T P Y G) := hD
  refine lv_aload_n hx hb dX_copy_12 rfl (lv_at hl 0 rfl) ?_
  refine va_get (D := D) (ci := 0) (v := .ref (q 2)) (C := RX) (T := TX) (N := 6) hx hb hts inX hown hK hP 0 rfl rfl 1 (by decide) (hts _ w_30) (fun _ h9 => h9) rfl dX_copy_13 ?_
  refine lv_iload_n hx hb dX_copy_16 rfl (lv_at hl 1 rfl) ?_
  refine lv_aload_n hx hb dX_copy_17 rfl (lv_at hl 0 rfl) ?_
  refine va_get (D := D) (ci := 0) (v := .ref (q 2)) (C := RX) (T := TX) (N := 6) hx hb hts inX hown hK hP 0 rfl rfl 1 (by decide) (hts _ w_30) (fun _ h9 => h9) rfl dX_copy_18 ?_
  refine lv_iload_n hx hb dX_copy_21 rfl (lv_at hl 2 rfl) ?_
  refine va_iald hx hb hK hP 2 0 rfl rfl hsi dX_copy_22 ?_
  refine va_iast hx hb hK hP hD hS 2 0 rfl rfl hri dX_copy_23 (fun H locs hP hD hS => ?_)
  have hP : va_P D vwCl (xW cI cZ q (upd A ri.toNatClampNeg (A si.toNatClampNeg)) (upd B ri.toNatClampNeg (B si.toNatClampNeg)) T P Y G) H := hP
  have hD : va_D A9 (xW cI cZ q (upd A ri.toNatClampNeg (A si.toNatClampNeg)) (upd B ri.toNatClampNeg (B si.toNatClampNeg)) T P Y G) := hD
  refine lv_aload_n hx hb dX_copy_24 rfl (lv_at hl 0 rfl) ?_
  refine va_get (D := D) (ci := 0) (v := .ref (q 3)) (C := RX) (T := TX) (N := 6) hx hb hts inX hown hK hP 0 rfl rfl 2 (by decide) (hts _ w_31) (fun _ h9 => h9) rfl dX_copy_25 ?_
  refine lv_iload_n hx hb dX_copy_28 rfl (lv_at hl 1 rfl) ?_
  refine lv_aload_n hx hb dX_copy_29 rfl (lv_at hl 0 rfl) ?_
  refine va_get (D := D) (ci := 0) (v := .ref (q 3)) (C := RX) (T := TX) (N := 6) hx hb hts inX hown hK hP 0 rfl rfl 2 (by decide) (hts _ w_31) (fun _ h9 => h9) rfl dX_copy_30 ?_
  refine lv_iload_n hx hb dX_copy_33 rfl (lv_at hl 2 rfl) ?_
  refine va_iald hx hb hK hP 3 0 rfl rfl hsi dX_copy_34 ?_
  refine va_iast hx hb hK hP hD hS 3 0 rfl rfl hri dX_copy_35 (fun H locs hP hD hS => ?_)
  have hP : va_P D vwCl (xW cI cZ q (upd A ri.toNatClampNeg (A si.toNatClampNeg)) (upd B ri.toNatClampNeg (B si.toNatClampNeg)) (upd T ri.toNatClampNeg (T si.toNatClampNeg)) P Y G) H := hP
  have hD : va_D A9 (xW cI cZ q (upd A ri.toNatClampNeg (A si.toNatClampNeg)) (upd B ri.toNatClampNeg (B si.toNatClampNeg)) (upd T ri.toNatClampNeg (T si.toNatClampNeg)) P Y G) := hD
  refine lv_aload_n hx hb dX_copy_36 rfl (lv_at hl 0 rfl) ?_
  refine va_get (D := D) (ci := 0) (v := .ref (q 4)) (C := RX) (T := TX) (N := 6) hx hb hts inX hown hK hP 0 rfl rfl 3 (by decide) (hts _ w_32) (fun _ h9 => h9) rfl dX_copy_37 ?_
  refine lv_iload_n hx hb dX_copy_40 rfl (lv_at hl 1 rfl) ?_
  refine lv_aload_n hx hb dX_copy_41 rfl (lv_at hl 0 rfl) ?_
  refine va_get (D := D) (ci := 0) (v := .ref (q 4)) (C := RX) (T := TX) (N := 6) hx hb hts inX hown hK hP 0 rfl rfl 3 (by decide) (hts _ w_32) (fun _ h9 => h9) rfl dX_copy_42 ?_
  refine lv_iload_n hx hb dX_copy_45 rfl (lv_at hl 2 rfl) ?_
  refine va_iald hx hb hK hP 4 0 rfl rfl hsi dX_copy_46 ?_
  refine va_iast hx hb hK hP hD hS 4 0 rfl rfl hri dX_copy_47 (fun H locs hP hD hS => ?_)
  have hP : va_P D vwCl (xW cI cZ q (upd A ri.toNatClampNeg (A si.toNatClampNeg)) (upd B ri.toNatClampNeg (B si.toNatClampNeg)) (upd T ri.toNatClampNeg (T si.toNatClampNeg)) (upd P ri.toNatClampNeg (P si.toNatClampNeg)) Y G) H := hP
  have hD : va_D A9 (xW cI cZ q (upd A ri.toNatClampNeg (A si.toNatClampNeg)) (upd B ri.toNatClampNeg (B si.toNatClampNeg)) (upd T ri.toNatClampNeg (T si.toNatClampNeg)) (upd P ri.toNatClampNeg (P si.toNatClampNeg)) Y G) := hD
  refine lv_aload_n hx hb dX_copy_48 rfl (lv_at hl 0 rfl) ?_
  refine va_get (D := D) (ci := 0) (v := .ref (q 5)) (C := RX) (T := TX) (N := 6) hx hb hts inX hown hK hP 0 rfl rfl 4 (by decide) (hts _ w_33) (fun _ h9 => h9) rfl dX_copy_49 ?_
  refine lv_iload_n hx hb dX_copy_52 rfl (lv_at hl 1 rfl) ?_
  refine lv_aload_n hx hb dX_copy_53 rfl (lv_at hl 0 rfl) ?_
  refine va_get (D := D) (ci := 0) (v := .ref (q 5)) (C := RX) (T := TX) (N := 6) hx hb hts inX hown hK hP 0 rfl rfl 4 (by decide) (hts _ w_33) (fun _ h9 => h9) rfl dX_copy_54 ?_
  refine lv_iload_n hx hb dX_copy_57 rfl (lv_at hl 2 rfl) ?_
  refine va_iald hx hb hK hP 5 0 rfl rfl hsi dX_copy_58 ?_
  refine va_iast hx hb hK hP hD hS 5 0 rfl rfl hri dX_copy_59 (fun H locs hP hD hS => ?_)
  have hP : va_P D vwCl (xW cI cZ q (upd A ri.toNatClampNeg (A si.toNatClampNeg)) (upd B ri.toNatClampNeg (B si.toNatClampNeg)) (upd T ri.toNatClampNeg (T si.toNatClampNeg)) (upd P ri.toNatClampNeg (P si.toNatClampNeg)) (upd Y ri.toNatClampNeg (Y si.toNatClampNeg)) G) H := hP
  have hD : va_D A9 (xW cI cZ q (upd A ri.toNatClampNeg (A si.toNatClampNeg)) (upd B ri.toNatClampNeg (B si.toNatClampNeg)) (upd T ri.toNatClampNeg (T si.toNatClampNeg)) (upd P ri.toNatClampNeg (P si.toNatClampNeg)) (upd Y ri.toNatClampNeg (Y si.toNatClampNeg)) G) := hD
  refine lv_aload_n hx hb dX_copy_60 rfl (lv_at hl 0 rfl) ?_
  refine va_get (D := D) (ci := 0) (v := .ref (q 6)) (C := RX) (T := TX) (N := 6) hx hb hts inX hown hK hP 0 rfl rfl 5 (by decide) (hts _ w_34) (fun _ h9 => h9) rfl dX_copy_61 ?_
  refine lv_iload_n hx hb dX_copy_64 rfl (lv_at hl 1 rfl) ?_
  refine lv_aload_n hx hb dX_copy_65 rfl (lv_at hl 0 rfl) ?_
  refine va_get (D := D) (ci := 0) (v := .ref (q 6)) (C := RX) (T := TX) (N := 6) hx hb hts inX hown hK hP 0 rfl rfl 5 (by decide) (hts _ w_34) (fun _ h9 => h9) rfl dX_copy_66 ?_
  refine lv_iload_n hx hb dX_copy_69 rfl (lv_at hl 2 rfl) ?_
  refine va_zald hx hb hK hP 6 1 rfl rfl hsi dX_copy_70 ?_
  refine W.eq (g2 := F0 m 71 ls [.int (bi (G si.toNatClampNeg)), .int (ri), .ref (q 6)]) rfl ?_
  refine va_zast hx hb hK hP hD hS 6 1 rfl rfl hri dX_copy_71 (fun H locs hP hD hS => ?_)
  have hP : va_P D vwCl (xW cI cZ q (upd A ri.toNatClampNeg (A si.toNatClampNeg)) (upd B ri.toNatClampNeg (B si.toNatClampNeg)) (upd T ri.toNatClampNeg (T si.toNatClampNeg)) (upd P ri.toNatClampNeg (P si.toNatClampNeg)) (upd Y ri.toNatClampNeg (Y si.toNatClampNeg)) (ub G ri.toNatClampNeg (G si.toNatClampNeg))) H := by rw [ub_upd] at hP; exact hP
  have hD : va_D A9 (xW cI cZ q (upd A ri.toNatClampNeg (A si.toNatClampNeg)) (upd B ri.toNatClampNeg (B si.toNatClampNeg)) (upd T ri.toNatClampNeg (T si.toNatClampNeg)) (upd P ri.toNatClampNeg (P si.toNatClampNeg)) (upd Y ri.toNatClampNeg (Y si.toNatClampNeg)) (ub G ri.toNatClampNeg (G si.toNatClampNeg))) := by rw [ub_upd] at hD; exact hD
  exact W.vret hx hb hr (fun t9 ht hW => ⟨rfl, by rw [ht]; exact hP, hD, hS.F ht⟩) hS.2.2 dX_copy_72

set_option maxRecDepth 100000 in
set_option maxHeartbeats 4000000 in
theorem mX_number (l : Launch) (D : va_G) (cI cZ : ClassId) (q : Nat → Nat) (A B T P Y : Nat → Int32) (G : Nat → Bool) (sz : Nat) (ri v : Int32) (hri : vp_in ri 16) : Met l yX_number (Cond.code yX_number cX_number 3 none :: gw) (rmk 1 0 0) (va_Pc [.ref (q 0), .int (ri), .int (v)] (kB D vwCl (xW cI cZ q A B T P Y G) (tsX cI cZ) sz)) (kQ none D vwCl (xW cI cZ q (upd A ri.toNatClampNeg (v)) (upd B ri.toNatClampNeg (0)) (upd T ri.toNatClampNeg (0)) (upd P ri.toNatClampNeg (0)) (upd Y ri.toNatClampNeg (0)) (ub G ri.toNatClampNeg (false))) (va_A (xW cI cZ q A B T P Y G) sz)) 0 0 (va_A (xW cI cZ q A B T P Y G) sz) := by
  refine Met.ofW (cc := cX_number) (maxL := 3) (ret := none) (by decide) rfl ?_
  intro p e s m args below meth c s₁ B9 hml hv
  obtain ⟨rfl, hsz, hP, hK, hD0⟩ := hv
  have hx := B9.exec
  have hb := B9.bytes
  have hr := B9.returns
  have hts := fun (w : Cond) (h : w ∈ gw) => atoms_spec (ws := _ :: gw) B9.pre w (List.mem_cons_of_mem _ h)
  have hown : s.vm.findClass RX = some m.cls := findClass_of_methodNamed B9.named
  have hlocks := B9.notSynchronized
  have hl := lv_entry ([.ref (q 0), .int (ri), .int (v)]) (n := 3) (Nat.le_of_ble_eq_true rfl)
  rw [lg_entry_eq]
  generalize (lg_sl ([.ref (q 0), .int (ri), .int (v)]) ++ List.replicate (3 - (lg_sl ([.ref (q 0), .int (ri), .int (v)])).length) Slot.unset).toArray = ls at hl ⊢
  have hl : lv_has ls 3 [(0, .ref (q 0)), (1, .int (ri)), (2, .int (v))] := hl
  subst hsz
  have hD := hD0.self (sz := s.heap.size)
  generalize hAe : va_A (xW cI cZ q A B T P Y G) s.heap.size = A9 at hD ⊢
  have hA : ∀ z : Nat, s.heap.size ≤ z → A9 z := fun z h => by rw [← hAe]; exact Or.inr h
  have hS : va_S A9 s.heap s.heap [] := va_S.rf
  have hP : va_P D vwCl (xW cI cZ q A B T P Y G) s.heap := hP
  refine lv_iload_n hx hb dX_number_0 rfl (lv_at hl 1 rfl) ?_
  refine kr_Sv 1 (As := [.int (ri)]) (rest := []) hx hb hml hown hts hl.1 (mX_requireGrant l (ri) hri) tt_stb trivial (gw_S w_151 w_152 w_14 w_153) (by decide) ⟨rfl, rfl⟩ ⟨Nat.le_of_ble_eq_true rfl, Nat.le_of_ble_eq_true rfl⟩ rfl rfl (Nat.le_of_ble_eq_true rfl) dX_number_1 ⟨Nat.zero_le _, Nat.zero_le _⟩ ?_
  refine lv_aload_n hx hb dX_number_4 rfl (lv_at hl 0 rfl) ?_
  refine va_get (D := D) (ci := 0) (v := .ref (q 1)) (C := RX) (T := TX) (N := 6) hx hb hts inX hown hK hP 0 rfl rfl 0 (by decide) (hts _ w_29) (fun _ h9 => h9) rfl dX_number_5 ?_
  refine lv_iload_n hx hb dX_number_8 rfl (lv_at hl 1 rfl) ?_
  refine lv_iload_n hx hb dX_number_9 rfl (lv_at hl 2 rfl) ?_
  refine va_iast hx hb hK hP hD hS 1 0 rfl rfl hri dX_number_10 (fun H locs hP hD hS => ?_)
  have hP : va_P D vwCl (xW cI cZ q (upd A ri.toNatClampNeg (v)) B T P Y G) H := hP
  have hD : va_D A9 (xW cI cZ q (upd A ri.toNatClampNeg (v)) B T P Y G) := hD
  refine lv_aload_n hx hb dX_number_11 rfl (lv_at hl 0 rfl) ?_
  refine va_get (D := D) (ci := 0) (v := .ref (q 2)) (C := RX) (T := TX) (N := 6) hx hb hts inX hown hK hP 0 rfl rfl 1 (by decide) (hts _ w_30) (fun _ h9 => h9) rfl dX_number_12 ?_
  refine lv_iload_n hx hb dX_number_15 rfl (lv_at hl 1 rfl) ?_
  refine lv_iconst (v := 0) hx hb dX_number_16 (by decide) ?_
  refine va_iast hx hb hK hP hD hS 2 0 rfl rfl hri dX_number_17 (fun H locs hP hD hS => ?_)
  have hP : va_P D vwCl (xW cI cZ q (upd A ri.toNatClampNeg (v)) (upd B ri.toNatClampNeg (0)) T P Y G) H := hP
  have hD : va_D A9 (xW cI cZ q (upd A ri.toNatClampNeg (v)) (upd B ri.toNatClampNeg (0)) T P Y G) := hD
  refine lv_aload_n hx hb dX_number_18 rfl (lv_at hl 0 rfl) ?_
  refine va_get (D := D) (ci := 0) (v := .ref (q 3)) (C := RX) (T := TX) (N := 6) hx hb hts inX hown hK hP 0 rfl rfl 2 (by decide) (hts _ w_31) (fun _ h9 => h9) rfl dX_number_19 ?_
  refine lv_iload_n hx hb dX_number_22 rfl (lv_at hl 1 rfl) ?_
  refine lv_iconst (v := 0) hx hb dX_number_23 (by decide) ?_
  refine va_iast hx hb hK hP hD hS 3 0 rfl rfl hri dX_number_24 (fun H locs hP hD hS => ?_)
  have hP : va_P D vwCl (xW cI cZ q (upd A ri.toNatClampNeg (v)) (upd B ri.toNatClampNeg (0)) (upd T ri.toNatClampNeg (0)) P Y G) H := hP
  have hD : va_D A9 (xW cI cZ q (upd A ri.toNatClampNeg (v)) (upd B ri.toNatClampNeg (0)) (upd T ri.toNatClampNeg (0)) P Y G) := hD
  refine lv_aload_n hx hb dX_number_25 rfl (lv_at hl 0 rfl) ?_
  refine va_get (D := D) (ci := 0) (v := .ref (q 4)) (C := RX) (T := TX) (N := 6) hx hb hts inX hown hK hP 0 rfl rfl 3 (by decide) (hts _ w_32) (fun _ h9 => h9) rfl dX_number_26 ?_
  refine lv_iload_n hx hb dX_number_29 rfl (lv_at hl 1 rfl) ?_
  refine lv_iconst (v := 0) hx hb dX_number_30 (by decide) ?_
  refine va_iast hx hb hK hP hD hS 4 0 rfl rfl hri dX_number_31 (fun H locs hP hD hS => ?_)
  have hP : va_P D vwCl (xW cI cZ q (upd A ri.toNatClampNeg (v)) (upd B ri.toNatClampNeg (0)) (upd T ri.toNatClampNeg (0)) (upd P ri.toNatClampNeg (0)) Y G) H := hP
  have hD : va_D A9 (xW cI cZ q (upd A ri.toNatClampNeg (v)) (upd B ri.toNatClampNeg (0)) (upd T ri.toNatClampNeg (0)) (upd P ri.toNatClampNeg (0)) Y G) := hD
  refine lv_aload_n hx hb dX_number_32 rfl (lv_at hl 0 rfl) ?_
  refine va_get (D := D) (ci := 0) (v := .ref (q 5)) (C := RX) (T := TX) (N := 6) hx hb hts inX hown hK hP 0 rfl rfl 4 (by decide) (hts _ w_33) (fun _ h9 => h9) rfl dX_number_33 ?_
  refine lv_iload_n hx hb dX_number_36 rfl (lv_at hl 1 rfl) ?_
  refine lv_iconst (v := 0) hx hb dX_number_37 (by decide) ?_
  refine va_iast hx hb hK hP hD hS 5 0 rfl rfl hri dX_number_38 (fun H locs hP hD hS => ?_)
  have hP : va_P D vwCl (xW cI cZ q (upd A ri.toNatClampNeg (v)) (upd B ri.toNatClampNeg (0)) (upd T ri.toNatClampNeg (0)) (upd P ri.toNatClampNeg (0)) (upd Y ri.toNatClampNeg (0)) G) H := hP
  have hD : va_D A9 (xW cI cZ q (upd A ri.toNatClampNeg (v)) (upd B ri.toNatClampNeg (0)) (upd T ri.toNatClampNeg (0)) (upd P ri.toNatClampNeg (0)) (upd Y ri.toNatClampNeg (0)) G) := hD
  refine lv_aload_n hx hb dX_number_39 rfl (lv_at hl 0 rfl) ?_
  refine va_get (D := D) (ci := 0) (v := .ref (q 6)) (C := RX) (T := TX) (N := 6) hx hb hts inX hown hK hP 0 rfl rfl 5 (by decide) (hts _ w_34) (fun _ h9 => h9) rfl dX_number_40 ?_
  refine lv_iload_n hx hb dX_number_43 rfl (lv_at hl 1 rfl) ?_
  refine lv_iconst (v := 0) hx hb dX_number_44 (by decide) ?_
  refine W.eq (g2 := F0 m 45 ls [.int (bi false), .int (ri), .ref (q 6)]) rfl ?_
  refine va_zast hx hb hK hP hD hS 6 1 rfl rfl hri dX_number_45 (fun H locs hP hD hS => ?_)
  have hP : va_P D vwCl (xW cI cZ q (upd A ri.toNatClampNeg (v)) (upd B ri.toNatClampNeg (0)) (upd T ri.toNatClampNeg (0)) (upd P ri.toNatClampNeg (0)) (upd Y ri.toNatClampNeg (0)) (ub G ri.toNatClampNeg (false))) H := by rw [ub_upd] at hP; exact hP
  have hD : va_D A9 (xW cI cZ q (upd A ri.toNatClampNeg (v)) (upd B ri.toNatClampNeg (0)) (upd T ri.toNatClampNeg (0)) (upd P ri.toNatClampNeg (0)) (upd Y ri.toNatClampNeg (0)) (ub G ri.toNatClampNeg (false))) := by rw [ub_upd] at hD; exact hD
  exact W.vret hx hb hr (fun t9 ht hW => ⟨rfl, by rw [ht]; exact hP, hD, hS.F ht⟩) hS.2.2 dX_number_46

set_option maxRecDepth 100000 in
set_option maxHeartbeats 4000000 in
theorem mX_root (l : Launch) (D : va_G) (cI cZ : ClassId) (q : Nat → Nat) (A B T P Y : Nat → Int32) (G : Nat → Bool) (sz : Nat) (ri b9 t9 v : Int32) (hri : vp_in ri 16) (hbt : un b9 ≤ un t9) (hv0 : ¬ v < 0) (hv : v ≤ 255) : Met l yX_root (Cond.code yX_root cX_root 5 none :: gw) (rmk 1 0 0) (va_Pc [.ref (q 0), .int (ri), .int (b9), .int (t9), .int (v)] (kB D vwCl (xW cI cZ q A B T P Y G) (tsX cI cZ) sz)) (kQ none D vwCl (xW cI cZ q (upd A ri.toNatClampNeg (b9)) (upd B ri.toNatClampNeg (b9)) (upd T ri.toNatClampNeg (t9)) (upd P ri.toNatClampNeg (v)) (upd Y ri.toNatClampNeg (0)) (ub G ri.toNatClampNeg (true))) (va_A (xW cI cZ q A B T P Y G) sz)) 0 0 (va_A (xW cI cZ q A B T P Y G) sz) := by
  refine Met.ofW (cc := cX_root) (maxL := 5) (ret := none) (by decide) rfl ?_
  intro p e s m args below meth c s₁ B9 hml hv
  obtain ⟨rfl, hsz, hP, hK, hD0⟩ := hv
  have hx := B9.exec
  have hb := B9.bytes
  have hr := B9.returns
  have hts := fun (w : Cond) (h : w ∈ gw) => atoms_spec (ws := _ :: gw) B9.pre w (List.mem_cons_of_mem _ h)
  have hown : s.vm.findClass RX = some m.cls := findClass_of_methodNamed B9.named
  have hlocks := B9.notSynchronized
  have hl := lv_entry ([.ref (q 0), .int (ri), .int (b9), .int (t9), .int (v)]) (n := 5) (Nat.le_of_ble_eq_true rfl)
  rw [lg_entry_eq]
  generalize (lg_sl ([.ref (q 0), .int (ri), .int (b9), .int (t9), .int (v)]) ++ List.replicate (5 - (lg_sl ([.ref (q 0), .int (ri), .int (b9), .int (t9), .int (v)])).length) Slot.unset).toArray = ls at hl ⊢
  have hl : lv_has ls 5 [(0, .ref (q 0)), (1, .int (ri)), (2, .int (b9)), (3, .int (t9)), (4, .int (v))] := hl
  subst hsz
  have hD := hD0.self (sz := s.heap.size)
  generalize hAe : va_A (xW cI cZ q A B T P Y G) s.heap.size = A9 at hD ⊢
  have hA : ∀ z : Nat, s.heap.size ≤ z → A9 z := fun z h => by rw [← hAe]; exact Or.inr h
  have hS : va_S A9 s.heap s.heap [] := va_S.rf
  have hP : va_P D vwCl (xW cI cZ q A B T P Y G) s.heap := hP
  refine lv_iload_n hx hb dX_root_0 rfl (lv_at hl 2 rfl) ?_
  refine kr_S 1 (As := [.int (b9)]) (rest := []) (r := .long (uw (b9))) hx hb hml hown hts hl.1 (mX_unsigned l (b9)) tt_stb trivial (gw_S w_70 w_71 w_14 w_72) (by decide) ⟨rfl, rfl⟩ ⟨Nat.le_of_ble_eq_true rfl, Nat.le_of_ble_eq_true rfl⟩ rfl rfl (Nat.le_of_ble_eq_true rfl) dX_root_1 ⟨Nat.zero_le _, Nat.zero_le _⟩ ?_
  refine lv_iload_n hx hb dX_root_4 rfl (lv_at hl 3 rfl) ?_
  refine kr_S 1 (As := [.int (t9)]) (rest := [.long (uw (b9))]) (r := .long (uw (t9))) hx hb hml hown hts hl.1 (mX_unsigned l (t9)) tt_stb trivial (gw_S w_70 w_71 w_14 w_72) (by decide) ⟨rfl, rfl⟩ ⟨Nat.le_of_ble_eq_true rfl, Nat.le_of_ble_eq_true rfl⟩ rfl rfl (Nat.le_of_ble_eq_true rfl) dX_root_5 ⟨Nat.zero_le _, Nat.zero_le _⟩ ?_
  refine W.lcmp hx hb dX_root_8 ?_
  refine lv_if_le (tgt := 22) hx hb dX_root_9 (by decide) (fun h_1 => ?_) (fun h_1 => absurd ((lg_cmp_le _ _).mpr ((uw_le _ _).mpr hbt)) h_1)
  rw [lg_cmp_le] at h_1
  refine lv_iload hx hb dX_root_22 (lv_at hl 4 rfl) ?_
  refine lv_if_lt (tgt := 35) hx hb dX_root_24 (by decide) (fun h_2 => absurd h_2 hv0) (fun h_2 => ?_)
  refine lv_iload hx hb dX_root_27 (lv_at hl 4 rfl) ?_
  refine lv_sipush (v := 255) hx hb dX_root_29 (by decide) ?_
  refine lv_icmp_le (tgt := 45) hx hb dX_root_32 (by decide) (fun h_3 => ?_) (fun h_3 => absurd hv h_3)
  refine lv_iload_n hx hb dX_root_45 rfl (lv_at hl 1 rfl) ?_
  refine kr_Sv 1 (As := [.int (ri)]) (rest := []) hx hb hml hown hts hl.1 (mX_requireGrant l (ri) hri) tt_stb trivial (gw_S w_151 w_152 w_14 w_153) (by decide) ⟨rfl, rfl⟩ ⟨Nat.le_of_ble_eq_true rfl, Nat.le_of_ble_eq_true rfl⟩ rfl rfl (Nat.le_of_ble_eq_true rfl) dX_root_46 ⟨Nat.zero_le _, Nat.zero_le _⟩ ?_
  refine lv_aload_n hx hb dX_root_49 rfl (lv_at hl 0 rfl) ?_
  refine va_get (D := D) (ci := 0) (v := .ref (q 1)) (C := RX) (T := TX) (N := 6) hx hb hts inX hown hK hP 0 rfl rfl 0 (by decide) (hts _ w_29) (fun _ h9 => h9) rfl dX_root_50 ?_
  refine lv_iload_n hx hb dX_root_53 rfl (lv_at hl 1 rfl) ?_
  refine lv_iload_n hx hb dX_root_54 rfl (lv_at hl 2 rfl) ?_
  refine va_iast hx hb hK hP hD hS 1 0 rfl rfl hri dX_root_55 (fun H locs hP hD hS => ?_)
  have hP : va_P D vwCl (xW cI cZ q (upd A ri.toNatClampNeg (b9)) B T P Y G) H := hP
  have hD : va_D A9 (xW cI cZ q (upd A ri.toNatClampNeg (b9)) B T P Y G) := hD
  refine lv_aload_n hx hb dX_root_56 rfl (lv_at hl 0 rfl) ?_
  refine va_get (D := D) (ci := 0) (v := .ref (q 2)) (C := RX) (T := TX) (N := 6) hx hb hts inX hown hK hP 0 rfl rfl 1 (by decide) (hts _ w_30) (fun _ h9 => h9) rfl dX_root_57 ?_
  refine lv_iload_n hx hb dX_root_60 rfl (lv_at hl 1 rfl) ?_
  refine lv_iload_n hx hb dX_root_61 rfl (lv_at hl 2 rfl) ?_
  refine va_iast hx hb hK hP hD hS 2 0 rfl rfl hri dX_root_62 (fun H locs hP hD hS => ?_)
  have hP : va_P D vwCl (xW cI cZ q (upd A ri.toNatClampNeg (b9)) (upd B ri.toNatClampNeg (b9)) T P Y G) H := hP
  have hD : va_D A9 (xW cI cZ q (upd A ri.toNatClampNeg (b9)) (upd B ri.toNatClampNeg (b9)) T P Y G) := hD
  refine lv_aload_n hx hb dX_root_63 rfl (lv_at hl 0 rfl) ?_
  refine va_get (D := D) (ci := 0) (v := .ref (q 3)) (C := RX) (T := TX) (N := 6) hx hb hts inX hown hK hP 0 rfl rfl 2 (by decide) (hts _ w_31) (fun _ h9 => h9) rfl dX_root_64 ?_
  refine lv_iload_n hx hb dX_root_67 rfl (lv_at hl 1 rfl) ?_
  refine lv_iload_n hx hb dX_root_68 rfl (lv_at hl 3 rfl) ?_
  refine va_iast hx hb hK hP hD hS 3 0 rfl rfl hri dX_root_69 (fun H locs hP hD hS => ?_)
  have hP : va_P D vwCl (xW cI cZ q (upd A ri.toNatClampNeg (b9)) (upd B ri.toNatClampNeg (b9)) (upd T ri.toNatClampNeg (t9)) P Y G) H := hP
  have hD : va_D A9 (xW cI cZ q (upd A ri.toNatClampNeg (b9)) (upd B ri.toNatClampNeg (b9)) (upd T ri.toNatClampNeg (t9)) P Y G) := hD
  refine lv_aload_n hx hb dX_root_70 rfl (lv_at hl 0 rfl) ?_
  refine va_get (D := D) (ci := 0) (v := .ref (q 4)) (C := RX) (T := TX) (N := 6) hx hb hts inX hown hK hP 0 rfl rfl 3 (by decide) (hts _ w_32) (fun _ h9 => h9) rfl dX_root_71 ?_
  refine lv_iload_n hx hb dX_root_74 rfl (lv_at hl 1 rfl) ?_
  refine lv_iload hx hb dX_root_75 (lv_at hl 4 rfl) ?_
  refine va_iast hx hb hK hP hD hS 4 0 rfl rfl hri dX_root_77 (fun H locs hP hD hS => ?_)
  have hP : va_P D vwCl (xW cI cZ q (upd A ri.toNatClampNeg (b9)) (upd B ri.toNatClampNeg (b9)) (upd T ri.toNatClampNeg (t9)) (upd P ri.toNatClampNeg (v)) Y G) H := hP
  have hD : va_D A9 (xW cI cZ q (upd A ri.toNatClampNeg (b9)) (upd B ri.toNatClampNeg (b9)) (upd T ri.toNatClampNeg (t9)) (upd P ri.toNatClampNeg (v)) Y G) := hD
  refine lv_aload_n hx hb dX_root_78 rfl (lv_at hl 0 rfl) ?_
  refine va_get (D := D) (ci := 0) (v := .ref (q 5)) (C := RX) (T := TX) (N := 6) hx hb hts inX hown hK hP 0 rfl rfl 4 (by decide) (hts _ w_33) (fun _ h9 => h9) rfl dX_root_79 ?_
  refine lv_iload_n hx hb dX_root_82 rfl (lv_at hl 1 rfl) ?_
  refine lv_iconst (v := 0) hx hb dX_root_83 (by decide) ?_
  refine va_iast hx hb hK hP hD hS 5 0 rfl rfl hri dX_root_84 (fun H locs hP hD hS => ?_)
  have hP : va_P D vwCl (xW cI cZ q (upd A ri.toNatClampNeg (b9)) (upd B ri.toNatClampNeg (b9)) (upd T ri.toNatClampNeg (t9)) (upd P ri.toNatClampNeg (v)) (upd Y ri.toNatClampNeg (0)) G) H := hP
  have hD : va_D A9 (xW cI cZ q (upd A ri.toNatClampNeg (b9)) (upd B ri.toNatClampNeg (b9)) (upd T ri.toNatClampNeg (t9)) (upd P ri.toNatClampNeg (v)) (upd Y ri.toNatClampNeg (0)) G) := hD
  refine lv_aload_n hx hb dX_root_85 rfl (lv_at hl 0 rfl) ?_
  refine va_get (D := D) (ci := 0) (v := .ref (q 6)) (C := RX) (T := TX) (N := 6) hx hb hts inX hown hK hP 0 rfl rfl 5 (by decide) (hts _ w_34) (fun _ h9 => h9) rfl dX_root_86 ?_
  refine lv_iload_n hx hb dX_root_89 rfl (lv_at hl 1 rfl) ?_
  refine lv_iconst (v := 1) hx hb dX_root_90 (by decide) ?_
  refine W.eq (g2 := F0 m 91 ls [.int (bi true), .int (ri), .ref (q 6)]) rfl ?_
  refine va_zast hx hb hK hP hD hS 6 1 rfl rfl hri dX_root_91 (fun H locs hP hD hS => ?_)
  have hP : va_P D vwCl (xW cI cZ q (upd A ri.toNatClampNeg (b9)) (upd B ri.toNatClampNeg (b9)) (upd T ri.toNatClampNeg (t9)) (upd P ri.toNatClampNeg (v)) (upd Y ri.toNatClampNeg (0)) (ub G ri.toNatClampNeg (true))) H := by rw [ub_upd] at hP; exact hP
  have hD : va_D A9 (xW cI cZ q (upd A ri.toNatClampNeg (b9)) (upd B ri.toNatClampNeg (b9)) (upd T ri.toNatClampNeg (t9)) (upd P ri.toNatClampNeg (v)) (upd Y ri.toNatClampNeg (0)) (ub G ri.toNatClampNeg (true))) := by rw [ub_upd] at hD; exact hD
  exact W.vret hx hb hr (fun t9 ht hW => ⟨rfl, by rw [ht]; exact hP, hD, hS.F ht⟩) hS.2.2 dX_root_92

set_option maxRecDepth 100000 in
set_option maxHeartbeats 4000000 in
theorem mX_move (l : Launch) (D : va_G) (cI cZ : ClassId) (q : Nat → Nat) (A B T P Y : Nat → Int32) (G : Nat → Bool) (sz : Nat) (ri si v : Int32) (hri : vp_in ri 16) (hsi : vp_in si 16) : Met l yX_move (Cond.code yX_move cX_move 5 none :: gw) (rmk 1 0 0) (va_Pc [.ref (q 0), .int (ri), .int (si), .int (v)] (kB D vwCl (xW cI cZ q A B T P Y G) (tsX cI cZ) sz)) (kQ none D vwCl (xW cI cZ q (upd A ri.toNatClampNeg ((A si.toNatClampNeg) + (v))) (upd B ri.toNatClampNeg (B si.toNatClampNeg)) (upd T ri.toNatClampNeg (T si.toNatClampNeg)) (upd P ri.toNatClampNeg (P si.toNatClampNeg)) (upd Y ri.toNatClampNeg (Y si.toNatClampNeg)) (ub G ri.toNatClampNeg ((G si.toNatClampNeg && (decide (Y si.toNatClampNeg = 0) || decide (v = 0)))))) (va_A (xW cI cZ q A B T P Y G) sz)) 0 0 (va_A (xW cI cZ q A B T P Y G) sz) := by
  refine Met.ofW (cc := cX_move) (maxL := 5) (ret := none) (by decide) rfl ?_
  intro p e s m args below meth c s₁ B9 hml hv
  obtain ⟨rfl, hsz, hP, hK, hD0⟩ := hv
  have hx := B9.exec
  have hb := B9.bytes
  have hr := B9.returns
  have hts := fun (w : Cond) (h : w ∈ gw) => atoms_spec (ws := _ :: gw) B9.pre w (List.mem_cons_of_mem _ h)
  have hown : s.vm.findClass RX = some m.cls := findClass_of_methodNamed B9.named
  have hlocks := B9.notSynchronized
  have hl := lv_entry ([.ref (q 0), .int (ri), .int (si), .int (v)]) (n := 5) (Nat.le_of_ble_eq_true rfl)
  rw [lg_entry_eq]
  generalize (lg_sl ([.ref (q 0), .int (ri), .int (si), .int (v)]) ++ List.replicate (5 - (lg_sl ([.ref (q 0), .int (ri), .int (si), .int (v)])).length) Slot.unset).toArray = ls at hl ⊢
  have hl : lv_has ls 5 [(0, .ref (q 0)), (1, .int (ri)), (2, .int (si)), (3, .int (v))] := hl
  subst hsz
  have hD := hD0.self (sz := s.heap.size)
  generalize hAe : va_A (xW cI cZ q A B T P Y G) s.heap.size = A9 at hD ⊢
  have hA : ∀ z : Nat, s.heap.size ≤ z → A9 z := fun z h => by rw [← hAe]; exact Or.inr h
  have hS : va_S A9 s.heap s.heap [] := va_S.rf
  have hP : va_P D vwCl (xW cI cZ q A B T P Y G) s.heap := hP
  refine lv_iload_n hx hb dX_move_0 rfl (lv_at hl 1 rfl) ?_
  refine kr_Sv 1 (As := [.int (ri)]) (rest := []) hx hb hml hown hts hl.1 (mX_requireGrant l (ri) hri) tt_stb trivial (gw_S w_151 w_152 w_14 w_153) (by decide) ⟨rfl, rfl⟩ ⟨Nat.le_of_ble_eq_true rfl, Nat.le_of_ble_eq_true rfl⟩ rfl rfl (Nat.le_of_ble_eq_true rfl) dX_move_1 ⟨Nat.zero_le _, Nat.zero_le _⟩ ?_
  refine lv_iload_n hx hb dX_move_4 rfl (lv_at hl 2 rfl) ?_
  refine kr_Sv 1 (As := [.int (si)]) (rest := []) hx hb hml hown hts hl.1 (mX_requireGrant l (si) hsi) tt_stb trivial (gw_S w_151 w_152 w_14 w_153) (by decide) ⟨rfl, rfl⟩ ⟨Nat.le_of_ble_eq_true rfl, Nat.le_of_ble_eq_true rfl⟩ rfl rfl (Nat.le_of_ble_eq_true rfl) dX_move_5 ⟨Nat.zero_le _, Nat.zero_le _⟩ ?_
  refine lv_aload_n hx hb dX_move_8 rfl (lv_at hl 0 rfl) ?_
  refine lv_iload_n hx hb dX_move_9 rfl (lv_at hl 2 rfl) ?_
  refine kr_V 1 (b := q 0) (As := [.int (si)]) (rest := []) (r := .int (bi (decide (¬ Y si.toNatClampNeg = 0)))) hx hb hml hown hts hl.1 (mX_isSealed l D cI cZ q A B T P Y G (si) hsi) rB_stb ⟨hP, hK⟩ (gw_V w_58 w_60 w_1 w_14 w_61) (by decide) ⟨rfl, rfl⟩ ⟨Nat.le_of_ble_eq_true rfl, Nat.le_of_ble_eq_true rfl⟩ (va_recv hK hP (ci := 0) rfl (q0 := 0) rfl) rfl rfl (Nat.le_of_ble_eq_true rfl) dX_move_10 ⟨Nat.zero_le _, Nat.zero_le _⟩ ?_
  refine lv_if_eq (tgt := 20) hx hb dX_move_13 (by decide) (fun h_1 => ?_) (fun h_1 => ?_)
  · have h_1 := bi_0 h_1
    refine lv_iconst (v := 1) hx hb dX_move_20 (by decide) ?_
    refine lv_goto (tgt := 25) hx hb dX_move_21 (by decide) ?_
    refine lv_istore hx hb dX_move_25 hl (by decide) rfl (fun ls hl => ?_)
    have hl : lv_has ls 5 [(4, .int (1)), (0, .ref (q 0)), (1, .int (ri)), (2, .int (si)), (3, .int (v))] := hl
    refine lv_aload_n hx hb dX_move_27 rfl (lv_at hl 1 rfl) ?_
    refine lv_iload_n hx hb dX_move_28 rfl (lv_at hl 2 rfl) ?_
    refine lv_iload_n hx hb dX_move_29 rfl (lv_at hl 3 rfl) ?_
    refine kw_V 2 [0, 1, 2, 3, 4, 5, 6] [] (b := q 0) (As := [.int (ri), .int (si)]) (rest := []) (wc := xW cI cZ q A B T P Y G) (wr := []) (w1 := xW cI cZ q (upd A ri.toNatClampNeg (A si.toNatClampNeg)) (upd B ri.toNatClampNeg (B si.toNatClampNeg)) (upd T ri.toNatClampNeg (T si.toNatClampNeg)) (upd P ri.toNatClampNeg (P si.toNatClampNeg)) (upd Y ri.toNatClampNeg (Y si.toNatClampNeg)) (ub G ri.toNatClampNeg (G si.toNatClampNeg))) hx hb hml hown hts hl.1 hP hD hS hA hK (mX_copy l D cI cZ q A B T P Y G _ ri si hri hsi) (gw_V w_184 w_186 w_5 w_14 w_187) (by decide) ⟨rfl, rfl⟩ ⟨Nat.le_of_ble_eq_true rfl, Nat.le_of_ble_eq_true rfl⟩ (va_recv hK hP (ci := 0) rfl (q0 := 0) rfl) rfl rfl (Nat.le_of_ble_eq_true rfl) dX_move_30 ⟨Nat.zero_le _, Nat.zero_le _⟩ rfl rfl ⟨by decide, by decide⟩ (by decide) (fun H locs hP hD hS => ?_)
    have hP : va_P D vwCl (xW cI cZ q (upd A ri.toNatClampNeg (A si.toNatClampNeg)) (upd B ri.toNatClampNeg (B si.toNatClampNeg)) (upd T ri.toNatClampNeg (T si.toNatClampNeg)) (upd P ri.toNatClampNeg (P si.toNatClampNeg)) (upd Y ri.toNatClampNeg (Y si.toNatClampNeg)) (ub G ri.toNatClampNeg (G si.toNatClampNeg))) H := hP
    have hD : va_D A9 (xW cI cZ q (upd A ri.toNatClampNeg (A si.toNatClampNeg)) (upd B ri.toNatClampNeg (B si.toNatClampNeg)) (upd T ri.toNatClampNeg (T si.toNatClampNeg)) (upd P ri.toNatClampNeg (P si.toNatClampNeg)) (upd Y ri.toNatClampNeg (Y si.toNatClampNeg)) (ub G ri.toNatClampNeg (G si.toNatClampNeg))) := hD
    refine W.eq (g2 := F0 m 33 ls []) rfl ?_
    refine lv_aload_n hx hb dX_move_33 rfl (lv_at hl 1 rfl) ?_
    refine va_get (D := D) (ci := 0) (v := .ref (q 1)) (C := RX) (T := TX) (N := 6) hx hb hts inX hown hK hP 0 rfl rfl 0 (by decide) (hts _ w_29) (fun _ h9 => h9) rfl dX_move_34 ?_
    refine lv_iload_n hx hb dX_move_37 rfl (lv_at hl 2 rfl) ?_
    refine lv_dup2_11 hx hb dX_move_38 rfl rfl ?_
    refine va_iald hx hb hK hP 1 0 rfl rfl hri dX_move_39 ?_
    refine W.eq (g2 := F0 m 40 ls [.int (A si.toNatClampNeg), .int (ri), .ref (q 1)]) (by first | rfl | (rw [pk_us] <;> rfl)) ?_
    refine lv_iload_n hx hb dX_move_40 rfl (lv_at hl 4 rfl) ?_
    refine lv_iadd hx hb dX_move_41 ?_
    refine va_iast hx hb hK hP hD hS 1 0 rfl rfl hri dX_move_42 (fun H locs hP hD hS => ?_)
    have hP : va_P D vwCl (xW cI cZ q (upd (upd A ri.toNatClampNeg (A si.toNatClampNeg)) ri.toNatClampNeg ((A si.toNatClampNeg) + (v))) (upd B ri.toNatClampNeg (B si.toNatClampNeg)) (upd T ri.toNatClampNeg (T si.toNatClampNeg)) (upd P ri.toNatClampNeg (P si.toNatClampNeg)) (upd Y ri.toNatClampNeg (Y si.toNatClampNeg)) (ub G ri.toNatClampNeg (G si.toNatClampNeg))) H := hP
    have hD : va_D A9 (xW cI cZ q (upd (upd A ri.toNatClampNeg (A si.toNatClampNeg)) ri.toNatClampNeg ((A si.toNatClampNeg) + (v))) (upd B ri.toNatClampNeg (B si.toNatClampNeg)) (upd T ri.toNatClampNeg (T si.toNatClampNeg)) (upd P ri.toNatClampNeg (P si.toNatClampNeg)) (upd Y ri.toNatClampNeg (Y si.toNatClampNeg)) (ub G ri.toNatClampNeg (G si.toNatClampNeg))) := hD
    refine lv_aload_n hx hb dX_move_43 rfl (lv_at hl 1 rfl) ?_
    refine va_get (D := D) (ci := 0) (v := .ref (q 6)) (C := RX) (T := TX) (N := 6) hx hb hts inX hown hK hP 0 rfl rfl 5 (by decide) (hts _ w_34) (fun _ h9 => h9) rfl dX_move_44 ?_
    refine lv_iload_n hx hb dX_move_47 rfl (lv_at hl 2 rfl) ?_
    refine lv_aload_n hx hb dX_move_48 rfl (lv_at hl 1 rfl) ?_
    refine va_get (D := D) (ci := 0) (v := .ref (q 6)) (C := RX) (T := TX) (N := 6) hx hb hts inX hown hK hP 0 rfl rfl 5 (by decide) (hts _ w_34) (fun _ h9 => h9) rfl dX_move_49 ?_
    refine lv_iload_n hx hb dX_move_52 rfl (lv_at hl 2 rfl) ?_
    refine va_zald hx hb hK hP 6 1 rfl rfl hri dX_move_53 ?_
    refine W.eq (g2 := F0 m 54 ls [.int (bi (G si.toNatClampNeg)), .int (ri), .ref (q 6)]) (by first | rfl | (rw [ub_s] <;> rfl)) ?_
    refine lv_if_eq (tgt := 66) hx hb dX_move_54 (by decide) (fun h_2 => ?_) (fun h_2 => ?_)
    · have h_2 := bi_0 h_2
      refine lv_iconst (v := 0) hx hb dX_move_66 (by decide) ?_
      refine W.eq (g2 := F0 m 67 ls [.int (bi false), .int (ri), .ref (q 6)]) rfl ?_
      refine va_zast hx hb hK hP hD hS 6 1 rfl rfl hri dX_move_67 (fun H locs hP hD hS => ?_)
      have hP : va_P D vwCl (xW cI cZ q (upd (upd A ri.toNatClampNeg (A si.toNatClampNeg)) ri.toNatClampNeg ((A si.toNatClampNeg) + (v))) (upd B ri.toNatClampNeg (B si.toNatClampNeg)) (upd T ri.toNatClampNeg (T si.toNatClampNeg)) (upd P ri.toNatClampNeg (P si.toNatClampNeg)) (upd Y ri.toNatClampNeg (Y si.toNatClampNeg)) (ub (ub G ri.toNatClampNeg (G si.toNatClampNeg)) ri.toNatClampNeg (false))) H := by rw [ub_upd] at hP; exact hP
      have hD : va_D A9 (xW cI cZ q (upd (upd A ri.toNatClampNeg (A si.toNatClampNeg)) ri.toNatClampNeg ((A si.toNatClampNeg) + (v))) (upd B ri.toNatClampNeg (B si.toNatClampNeg)) (upd T ri.toNatClampNeg (T si.toNatClampNeg)) (upd P ri.toNatClampNeg (P si.toNatClampNeg)) (upd Y ri.toNatClampNeg (Y si.toNatClampNeg)) (ub (ub G ri.toNatClampNeg (G si.toNatClampNeg)) ri.toNatClampNeg (false))) := by rw [ub_upd] at hD; exact hD
      have e9_0 : (G si.toNatClampNeg && (decide (Y si.toNatClampNeg = 0) || decide (v = 0))) = false := by (try simp only [decide_eq_true_eq, decide_eq_false_iff_not, Decidable.not_not] at h_1); (try simp only [decide_eq_true_eq, decide_eq_false_iff_not, Decidable.not_not] at h_2); simp [h_1, h_2]
      have hP : va_P D vwCl (xW cI cZ q (upd A ri.toNatClampNeg ((A si.toNatClampNeg) + (v))) (upd B ri.toNatClampNeg (B si.toNatClampNeg)) (upd T ri.toNatClampNeg (T si.toNatClampNeg)) (upd P ri.toNatClampNeg (P si.toNatClampNeg)) (upd Y ri.toNatClampNeg (Y si.toNatClampNeg)) (ub G ri.toNatClampNeg ((G si.toNatClampNeg && (decide (Y si.toNatClampNeg = 0) || decide (v = 0)))))) H := by (try rw [e9_0]); first | exact hP | (simp only [uu_upd, uu_ub] at hP ⊢; exact hP)
      have hD : va_D A9 (xW cI cZ q (upd A ri.toNatClampNeg ((A si.toNatClampNeg) + (v))) (upd B ri.toNatClampNeg (B si.toNatClampNeg)) (upd T ri.toNatClampNeg (T si.toNatClampNeg)) (upd P ri.toNatClampNeg (P si.toNatClampNeg)) (upd Y ri.toNatClampNeg (Y si.toNatClampNeg)) (ub G ri.toNatClampNeg ((G si.toNatClampNeg && (decide (Y si.toNatClampNeg = 0) || decide (v = 0)))))) := by (try rw [e9_0]); first | exact hD | (simp only [uu_upd, uu_ub] at hD ⊢; exact hD)
      exact W.vret hx hb hr (fun t9 ht hW => ⟨rfl, by rw [ht]; exact hP, hD, hS.F ht⟩) hS.2.2 dX_move_68
    · have h_2 := bi_n h_2
      refine lv_iload hx hb dX_move_57 (lv_at hl 0 rfl) ?_
      refine lv_if_eq (tgt := 66) hx hb dX_move_59 (by decide) (fun h_3 => absurd h_3 (by decide)) (fun h_3 => ?_)
      refine lv_iconst (v := 1) hx hb dX_move_62 (by decide) ?_
      refine lv_goto (tgt := 67) hx hb dX_move_63 (by decide) ?_
      refine W.eq (g2 := F0 m 67 ls [.int (bi true), .int (ri), .ref (q 6)]) rfl ?_
      refine va_zast hx hb hK hP hD hS 6 1 rfl rfl hri dX_move_67 (fun H locs hP hD hS => ?_)
      have hP : va_P D vwCl (xW cI cZ q (upd (upd A ri.toNatClampNeg (A si.toNatClampNeg)) ri.toNatClampNeg ((A si.toNatClampNeg) + (v))) (upd B ri.toNatClampNeg (B si.toNatClampNeg)) (upd T ri.toNatClampNeg (T si.toNatClampNeg)) (upd P ri.toNatClampNeg (P si.toNatClampNeg)) (upd Y ri.toNatClampNeg (Y si.toNatClampNeg)) (ub (ub G ri.toNatClampNeg (G si.toNatClampNeg)) ri.toNatClampNeg (true))) H := by rw [ub_upd] at hP; exact hP
      have hD : va_D A9 (xW cI cZ q (upd (upd A ri.toNatClampNeg (A si.toNatClampNeg)) ri.toNatClampNeg ((A si.toNatClampNeg) + (v))) (upd B ri.toNatClampNeg (B si.toNatClampNeg)) (upd T ri.toNatClampNeg (T si.toNatClampNeg)) (upd P ri.toNatClampNeg (P si.toNatClampNeg)) (upd Y ri.toNatClampNeg (Y si.toNatClampNeg)) (ub (ub G ri.toNatClampNeg (G si.toNatClampNeg)) ri.toNatClampNeg (true))) := by rw [ub_upd] at hD; exact hD
      have e9_0 : (G si.toNatClampNeg && (decide (Y si.toNatClampNeg = 0) || decide (v = 0))) = true := by (try simp only [decide_eq_true_eq, decide_eq_false_iff_not, Decidable.not_not] at h_1); (try simp only [decide_eq_true_eq, decide_eq_false_iff_not, Decidable.not_not] at h_2); simp [h_1, h_2]
      have hP : va_P D vwCl (xW cI cZ q (upd A ri.toNatClampNeg ((A si.toNatClampNeg) + (v))) (upd B ri.toNatClampNeg (B si.toNatClampNeg)) (upd T ri.toNatClampNeg (T si.toNatClampNeg)) (upd P ri.toNatClampNeg (P si.toNatClampNeg)) (upd Y ri.toNatClampNeg (Y si.toNatClampNeg)) (ub G ri.toNatClampNeg ((G si.toNatClampNeg && (decide (Y si.toNatClampNeg = 0) || decide (v = 0)))))) H := by (try rw [e9_0]); first | exact hP | (simp only [uu_upd, uu_ub] at hP ⊢; exact hP)
      have hD : va_D A9 (xW cI cZ q (upd A ri.toNatClampNeg ((A si.toNatClampNeg) + (v))) (upd B ri.toNatClampNeg (B si.toNatClampNeg)) (upd T ri.toNatClampNeg (T si.toNatClampNeg)) (upd P ri.toNatClampNeg (P si.toNatClampNeg)) (upd Y ri.toNatClampNeg (Y si.toNatClampNeg)) (ub G ri.toNatClampNeg ((G si.toNatClampNeg && (decide (Y si.toNatClampNeg = 0) || decide (v = 0)))))) := by (try rw [e9_0]); first | exact hD | (simp only [uu_upd, uu_ub] at hD ⊢; exact hD)
      exact W.vret hx hb hr (fun t9 ht hW => ⟨rfl, by rw [ht]; exact hP, hD, hS.F ht⟩) hS.2.2 dX_move_68
  · have h_1 := bi_n h_1
    refine lv_iload_n hx hb dX_move_16 rfl (lv_at hl 3 rfl) ?_
    refine lv_if_ne (tgt := 24) hx hb dX_move_17 (by decide) (fun h_4 => ?_) (fun h_4 => ?_)
    · 
      refine lv_iconst (v := 0) hx hb dX_move_24 (by decide) ?_
      refine lv_istore hx hb dX_move_25 hl (by decide) rfl (fun ls hl => ?_)
      have hl : lv_has ls 5 [(4, .int (0)), (0, .ref (q 0)), (1, .int (ri)), (2, .int (si)), (3, .int (v))] := hl
      refine lv_aload_n hx hb dX_move_27 rfl (lv_at hl 1 rfl) ?_
      refine lv_iload_n hx hb dX_move_28 rfl (lv_at hl 2 rfl) ?_
      refine lv_iload_n hx hb dX_move_29 rfl (lv_at hl 3 rfl) ?_
      refine kw_V 2 [0, 1, 2, 3, 4, 5, 6] [] (b := q 0) (As := [.int (ri), .int (si)]) (rest := []) (wc := xW cI cZ q A B T P Y G) (wr := []) (w1 := xW cI cZ q (upd A ri.toNatClampNeg (A si.toNatClampNeg)) (upd B ri.toNatClampNeg (B si.toNatClampNeg)) (upd T ri.toNatClampNeg (T si.toNatClampNeg)) (upd P ri.toNatClampNeg (P si.toNatClampNeg)) (upd Y ri.toNatClampNeg (Y si.toNatClampNeg)) (ub G ri.toNatClampNeg (G si.toNatClampNeg))) hx hb hml hown hts hl.1 hP hD hS hA hK (mX_copy l D cI cZ q A B T P Y G _ ri si hri hsi) (gw_V w_184 w_186 w_5 w_14 w_187) (by decide) ⟨rfl, rfl⟩ ⟨Nat.le_of_ble_eq_true rfl, Nat.le_of_ble_eq_true rfl⟩ (va_recv hK hP (ci := 0) rfl (q0 := 0) rfl) rfl rfl (Nat.le_of_ble_eq_true rfl) dX_move_30 ⟨Nat.zero_le _, Nat.zero_le _⟩ rfl rfl ⟨by decide, by decide⟩ (by decide) (fun H locs hP hD hS => ?_)
      have hP : va_P D vwCl (xW cI cZ q (upd A ri.toNatClampNeg (A si.toNatClampNeg)) (upd B ri.toNatClampNeg (B si.toNatClampNeg)) (upd T ri.toNatClampNeg (T si.toNatClampNeg)) (upd P ri.toNatClampNeg (P si.toNatClampNeg)) (upd Y ri.toNatClampNeg (Y si.toNatClampNeg)) (ub G ri.toNatClampNeg (G si.toNatClampNeg))) H := hP
      have hD : va_D A9 (xW cI cZ q (upd A ri.toNatClampNeg (A si.toNatClampNeg)) (upd B ri.toNatClampNeg (B si.toNatClampNeg)) (upd T ri.toNatClampNeg (T si.toNatClampNeg)) (upd P ri.toNatClampNeg (P si.toNatClampNeg)) (upd Y ri.toNatClampNeg (Y si.toNatClampNeg)) (ub G ri.toNatClampNeg (G si.toNatClampNeg))) := hD
      refine W.eq (g2 := F0 m 33 ls []) rfl ?_
      refine lv_aload_n hx hb dX_move_33 rfl (lv_at hl 1 rfl) ?_
      refine va_get (D := D) (ci := 0) (v := .ref (q 1)) (C := RX) (T := TX) (N := 6) hx hb hts inX hown hK hP 0 rfl rfl 0 (by decide) (hts _ w_29) (fun _ h9 => h9) rfl dX_move_34 ?_
      refine lv_iload_n hx hb dX_move_37 rfl (lv_at hl 2 rfl) ?_
      refine lv_dup2_11 hx hb dX_move_38 rfl rfl ?_
      refine va_iald hx hb hK hP 1 0 rfl rfl hri dX_move_39 ?_
      refine W.eq (g2 := F0 m 40 ls [.int (A si.toNatClampNeg), .int (ri), .ref (q 1)]) (by first | rfl | (rw [pk_us] <;> rfl)) ?_
      refine lv_iload_n hx hb dX_move_40 rfl (lv_at hl 4 rfl) ?_
      refine lv_iadd hx hb dX_move_41 ?_
      refine va_iast hx hb hK hP hD hS 1 0 rfl rfl hri dX_move_42 (fun H locs hP hD hS => ?_)
      have hP : va_P D vwCl (xW cI cZ q (upd (upd A ri.toNatClampNeg (A si.toNatClampNeg)) ri.toNatClampNeg ((A si.toNatClampNeg) + (v))) (upd B ri.toNatClampNeg (B si.toNatClampNeg)) (upd T ri.toNatClampNeg (T si.toNatClampNeg)) (upd P ri.toNatClampNeg (P si.toNatClampNeg)) (upd Y ri.toNatClampNeg (Y si.toNatClampNeg)) (ub G ri.toNatClampNeg (G si.toNatClampNeg))) H := hP
      have hD : va_D A9 (xW cI cZ q (upd (upd A ri.toNatClampNeg (A si.toNatClampNeg)) ri.toNatClampNeg ((A si.toNatClampNeg) + (v))) (upd B ri.toNatClampNeg (B si.toNatClampNeg)) (upd T ri.toNatClampNeg (T si.toNatClampNeg)) (upd P ri.toNatClampNeg (P si.toNatClampNeg)) (upd Y ri.toNatClampNeg (Y si.toNatClampNeg)) (ub G ri.toNatClampNeg (G si.toNatClampNeg))) := hD
      refine lv_aload_n hx hb dX_move_43 rfl (lv_at hl 1 rfl) ?_
      refine va_get (D := D) (ci := 0) (v := .ref (q 6)) (C := RX) (T := TX) (N := 6) hx hb hts inX hown hK hP 0 rfl rfl 5 (by decide) (hts _ w_34) (fun _ h9 => h9) rfl dX_move_44 ?_
      refine lv_iload_n hx hb dX_move_47 rfl (lv_at hl 2 rfl) ?_
      refine lv_aload_n hx hb dX_move_48 rfl (lv_at hl 1 rfl) ?_
      refine va_get (D := D) (ci := 0) (v := .ref (q 6)) (C := RX) (T := TX) (N := 6) hx hb hts inX hown hK hP 0 rfl rfl 5 (by decide) (hts _ w_34) (fun _ h9 => h9) rfl dX_move_49 ?_
      refine lv_iload_n hx hb dX_move_52 rfl (lv_at hl 2 rfl) ?_
      refine va_zald hx hb hK hP 6 1 rfl rfl hri dX_move_53 ?_
      refine W.eq (g2 := F0 m 54 ls [.int (bi (G si.toNatClampNeg)), .int (ri), .ref (q 6)]) (by first | rfl | (rw [ub_s] <;> rfl)) ?_
      refine lv_if_eq (tgt := 66) hx hb dX_move_54 (by decide) (fun h_5 => ?_) (fun h_5 => ?_)
      · have h_5 := bi_0 h_5
        refine lv_iconst (v := 0) hx hb dX_move_66 (by decide) ?_
        refine W.eq (g2 := F0 m 67 ls [.int (bi false), .int (ri), .ref (q 6)]) rfl ?_
        refine va_zast hx hb hK hP hD hS 6 1 rfl rfl hri dX_move_67 (fun H locs hP hD hS => ?_)
        have hP : va_P D vwCl (xW cI cZ q (upd (upd A ri.toNatClampNeg (A si.toNatClampNeg)) ri.toNatClampNeg ((A si.toNatClampNeg) + (v))) (upd B ri.toNatClampNeg (B si.toNatClampNeg)) (upd T ri.toNatClampNeg (T si.toNatClampNeg)) (upd P ri.toNatClampNeg (P si.toNatClampNeg)) (upd Y ri.toNatClampNeg (Y si.toNatClampNeg)) (ub (ub G ri.toNatClampNeg (G si.toNatClampNeg)) ri.toNatClampNeg (false))) H := by rw [ub_upd] at hP; exact hP
        have hD : va_D A9 (xW cI cZ q (upd (upd A ri.toNatClampNeg (A si.toNatClampNeg)) ri.toNatClampNeg ((A si.toNatClampNeg) + (v))) (upd B ri.toNatClampNeg (B si.toNatClampNeg)) (upd T ri.toNatClampNeg (T si.toNatClampNeg)) (upd P ri.toNatClampNeg (P si.toNatClampNeg)) (upd Y ri.toNatClampNeg (Y si.toNatClampNeg)) (ub (ub G ri.toNatClampNeg (G si.toNatClampNeg)) ri.toNatClampNeg (false))) := by rw [ub_upd] at hD; exact hD
        have e9_0 : (G si.toNatClampNeg && (decide (Y si.toNatClampNeg = 0) || decide (v = 0))) = false := by (try simp only [decide_eq_true_eq, decide_eq_false_iff_not, Decidable.not_not] at h_1); (try simp only [decide_eq_true_eq, decide_eq_false_iff_not, Decidable.not_not] at h_4); (try simp only [decide_eq_true_eq, decide_eq_false_iff_not, Decidable.not_not] at h_5); simp [h_1, h_4, h_5]
        have hP : va_P D vwCl (xW cI cZ q (upd A ri.toNatClampNeg ((A si.toNatClampNeg) + (v))) (upd B ri.toNatClampNeg (B si.toNatClampNeg)) (upd T ri.toNatClampNeg (T si.toNatClampNeg)) (upd P ri.toNatClampNeg (P si.toNatClampNeg)) (upd Y ri.toNatClampNeg (Y si.toNatClampNeg)) (ub G ri.toNatClampNeg ((G si.toNatClampNeg && (decide (Y si.toNatClampNeg = 0) || decide (v = 0)))))) H := by (try rw [e9_0]); first | exact hP | (simp only [uu_upd, uu_ub] at hP ⊢; exact hP)
        have hD : va_D A9 (xW cI cZ q (upd A ri.toNatClampNeg ((A si.toNatClampNeg) + (v))) (upd B ri.toNatClampNeg (B si.toNatClampNeg)) (upd T ri.toNatClampNeg (T si.toNatClampNeg)) (upd P ri.toNatClampNeg (P si.toNatClampNeg)) (upd Y ri.toNatClampNeg (Y si.toNatClampNeg)) (ub G ri.toNatClampNeg ((G si.toNatClampNeg && (decide (Y si.toNatClampNeg = 0) || decide (v = 0)))))) := by (try rw [e9_0]); first | exact hD | (simp only [uu_upd, uu_ub] at hD ⊢; exact hD)
        exact W.vret hx hb hr (fun t9 ht hW => ⟨rfl, by rw [ht]; exact hP, hD, hS.F ht⟩) hS.2.2 dX_move_68
      · have h_5 := bi_n h_5
        refine lv_iload hx hb dX_move_57 (lv_at hl 0 rfl) ?_
        refine lv_if_eq (tgt := 66) hx hb dX_move_59 (by decide) (fun h_6 => ?_) (fun h_6 => absurd (by decide) h_6)
        refine lv_iconst (v := 0) hx hb dX_move_66 (by decide) ?_
        refine W.eq (g2 := F0 m 67 ls [.int (bi false), .int (ri), .ref (q 6)]) rfl ?_
        refine va_zast hx hb hK hP hD hS 6 1 rfl rfl hri dX_move_67 (fun H locs hP hD hS => ?_)
        have hP : va_P D vwCl (xW cI cZ q (upd (upd A ri.toNatClampNeg (A si.toNatClampNeg)) ri.toNatClampNeg ((A si.toNatClampNeg) + (v))) (upd B ri.toNatClampNeg (B si.toNatClampNeg)) (upd T ri.toNatClampNeg (T si.toNatClampNeg)) (upd P ri.toNatClampNeg (P si.toNatClampNeg)) (upd Y ri.toNatClampNeg (Y si.toNatClampNeg)) (ub (ub G ri.toNatClampNeg (G si.toNatClampNeg)) ri.toNatClampNeg (false))) H := by rw [ub_upd] at hP; exact hP
        have hD : va_D A9 (xW cI cZ q (upd (upd A ri.toNatClampNeg (A si.toNatClampNeg)) ri.toNatClampNeg ((A si.toNatClampNeg) + (v))) (upd B ri.toNatClampNeg (B si.toNatClampNeg)) (upd T ri.toNatClampNeg (T si.toNatClampNeg)) (upd P ri.toNatClampNeg (P si.toNatClampNeg)) (upd Y ri.toNatClampNeg (Y si.toNatClampNeg)) (ub (ub G ri.toNatClampNeg (G si.toNatClampNeg)) ri.toNatClampNeg (false))) := by rw [ub_upd] at hD; exact hD
        have e9_0 : (G si.toNatClampNeg && (decide (Y si.toNatClampNeg = 0) || decide (v = 0))) = false := by (try simp only [decide_eq_true_eq, decide_eq_false_iff_not, Decidable.not_not] at h_1); (try simp only [decide_eq_true_eq, decide_eq_false_iff_not, Decidable.not_not] at h_4); (try simp only [decide_eq_true_eq, decide_eq_false_iff_not, Decidable.not_not] at h_5); simp [h_1, h_4, h_5]
        have hP : va_P D vwCl (xW cI cZ q (upd A ri.toNatClampNeg ((A si.toNatClampNeg) + (v))) (upd B ri.toNatClampNeg (B si.toNatClampNeg)) (upd T ri.toNatClampNeg (T si.toNatClampNeg)) (upd P ri.toNatClampNeg (P si.toNatClampNeg)) (upd Y ri.toNatClampNeg (Y si.toNatClampNeg)) (ub G ri.toNatClampNeg ((G si.toNatClampNeg && (decide (Y si.toNatClampNeg = 0) || decide (v = 0)))))) H := by (try rw [e9_0]); first | exact hP | (simp only [uu_upd, uu_ub] at hP ⊢; exact hP)
        have hD : va_D A9 (xW cI cZ q (upd A ri.toNatClampNeg ((A si.toNatClampNeg) + (v))) (upd B ri.toNatClampNeg (B si.toNatClampNeg)) (upd T ri.toNatClampNeg (T si.toNatClampNeg)) (upd P ri.toNatClampNeg (P si.toNatClampNeg)) (upd Y ri.toNatClampNeg (Y si.toNatClampNeg)) (ub G ri.toNatClampNeg ((G si.toNatClampNeg && (decide (Y si.toNatClampNeg = 0) || decide (v = 0)))))) := by (try rw [e9_0]); first | exact hD | (simp only [uu_upd, uu_ub] at hD ⊢; exact hD)
        exact W.vret hx hb hr (fun t9 ht hW => ⟨rfl, by rw [ht]; exact hP, hD, hS.F ht⟩) hS.2.2 dX_move_68
    · 
      refine lv_iconst (v := 1) hx hb dX_move_20 (by decide) ?_
      refine lv_goto (tgt := 25) hx hb dX_move_21 (by decide) ?_
      refine lv_istore hx hb dX_move_25 hl (by decide) rfl (fun ls hl => ?_)
      have hl : lv_has ls 5 [(4, .int (1)), (0, .ref (q 0)), (1, .int (ri)), (2, .int (si)), (3, .int (v))] := hl
      refine lv_aload_n hx hb dX_move_27 rfl (lv_at hl 1 rfl) ?_
      refine lv_iload_n hx hb dX_move_28 rfl (lv_at hl 2 rfl) ?_
      refine lv_iload_n hx hb dX_move_29 rfl (lv_at hl 3 rfl) ?_
      refine kw_V 2 [0, 1, 2, 3, 4, 5, 6] [] (b := q 0) (As := [.int (ri), .int (si)]) (rest := []) (wc := xW cI cZ q A B T P Y G) (wr := []) (w1 := xW cI cZ q (upd A ri.toNatClampNeg (A si.toNatClampNeg)) (upd B ri.toNatClampNeg (B si.toNatClampNeg)) (upd T ri.toNatClampNeg (T si.toNatClampNeg)) (upd P ri.toNatClampNeg (P si.toNatClampNeg)) (upd Y ri.toNatClampNeg (Y si.toNatClampNeg)) (ub G ri.toNatClampNeg (G si.toNatClampNeg))) hx hb hml hown hts hl.1 hP hD hS hA hK (mX_copy l D cI cZ q A B T P Y G _ ri si hri hsi) (gw_V w_184 w_186 w_5 w_14 w_187) (by decide) ⟨rfl, rfl⟩ ⟨Nat.le_of_ble_eq_true rfl, Nat.le_of_ble_eq_true rfl⟩ (va_recv hK hP (ci := 0) rfl (q0 := 0) rfl) rfl rfl (Nat.le_of_ble_eq_true rfl) dX_move_30 ⟨Nat.zero_le _, Nat.zero_le _⟩ rfl rfl ⟨by decide, by decide⟩ (by decide) (fun H locs hP hD hS => ?_)
      have hP : va_P D vwCl (xW cI cZ q (upd A ri.toNatClampNeg (A si.toNatClampNeg)) (upd B ri.toNatClampNeg (B si.toNatClampNeg)) (upd T ri.toNatClampNeg (T si.toNatClampNeg)) (upd P ri.toNatClampNeg (P si.toNatClampNeg)) (upd Y ri.toNatClampNeg (Y si.toNatClampNeg)) (ub G ri.toNatClampNeg (G si.toNatClampNeg))) H := hP
      have hD : va_D A9 (xW cI cZ q (upd A ri.toNatClampNeg (A si.toNatClampNeg)) (upd B ri.toNatClampNeg (B si.toNatClampNeg)) (upd T ri.toNatClampNeg (T si.toNatClampNeg)) (upd P ri.toNatClampNeg (P si.toNatClampNeg)) (upd Y ri.toNatClampNeg (Y si.toNatClampNeg)) (ub G ri.toNatClampNeg (G si.toNatClampNeg))) := hD
      refine W.eq (g2 := F0 m 33 ls []) rfl ?_
      refine lv_aload_n hx hb dX_move_33 rfl (lv_at hl 1 rfl) ?_
      refine va_get (D := D) (ci := 0) (v := .ref (q 1)) (C := RX) (T := TX) (N := 6) hx hb hts inX hown hK hP 0 rfl rfl 0 (by decide) (hts _ w_29) (fun _ h9 => h9) rfl dX_move_34 ?_
      refine lv_iload_n hx hb dX_move_37 rfl (lv_at hl 2 rfl) ?_
      refine lv_dup2_11 hx hb dX_move_38 rfl rfl ?_
      refine va_iald hx hb hK hP 1 0 rfl rfl hri dX_move_39 ?_
      refine W.eq (g2 := F0 m 40 ls [.int (A si.toNatClampNeg), .int (ri), .ref (q 1)]) (by first | rfl | (rw [pk_us] <;> rfl)) ?_
      refine lv_iload_n hx hb dX_move_40 rfl (lv_at hl 4 rfl) ?_
      refine lv_iadd hx hb dX_move_41 ?_
      refine va_iast hx hb hK hP hD hS 1 0 rfl rfl hri dX_move_42 (fun H locs hP hD hS => ?_)
      have hP : va_P D vwCl (xW cI cZ q (upd (upd A ri.toNatClampNeg (A si.toNatClampNeg)) ri.toNatClampNeg ((A si.toNatClampNeg) + (v))) (upd B ri.toNatClampNeg (B si.toNatClampNeg)) (upd T ri.toNatClampNeg (T si.toNatClampNeg)) (upd P ri.toNatClampNeg (P si.toNatClampNeg)) (upd Y ri.toNatClampNeg (Y si.toNatClampNeg)) (ub G ri.toNatClampNeg (G si.toNatClampNeg))) H := hP
      have hD : va_D A9 (xW cI cZ q (upd (upd A ri.toNatClampNeg (A si.toNatClampNeg)) ri.toNatClampNeg ((A si.toNatClampNeg) + (v))) (upd B ri.toNatClampNeg (B si.toNatClampNeg)) (upd T ri.toNatClampNeg (T si.toNatClampNeg)) (upd P ri.toNatClampNeg (P si.toNatClampNeg)) (upd Y ri.toNatClampNeg (Y si.toNatClampNeg)) (ub G ri.toNatClampNeg (G si.toNatClampNeg))) := hD
      refine lv_aload_n hx hb dX_move_43 rfl (lv_at hl 1 rfl) ?_
      refine va_get (D := D) (ci := 0) (v := .ref (q 6)) (C := RX) (T := TX) (N := 6) hx hb hts inX hown hK hP 0 rfl rfl 5 (by decide) (hts _ w_34) (fun _ h9 => h9) rfl dX_move_44 ?_
      refine lv_iload_n hx hb dX_move_47 rfl (lv_at hl 2 rfl) ?_
      refine lv_aload_n hx hb dX_move_48 rfl (lv_at hl 1 rfl) ?_
      refine va_get (D := D) (ci := 0) (v := .ref (q 6)) (C := RX) (T := TX) (N := 6) hx hb hts inX hown hK hP 0 rfl rfl 5 (by decide) (hts _ w_34) (fun _ h9 => h9) rfl dX_move_49 ?_
      refine lv_iload_n hx hb dX_move_52 rfl (lv_at hl 2 rfl) ?_
      refine va_zald hx hb hK hP 6 1 rfl rfl hri dX_move_53 ?_
      refine W.eq (g2 := F0 m 54 ls [.int (bi (G si.toNatClampNeg)), .int (ri), .ref (q 6)]) (by first | rfl | (rw [ub_s] <;> rfl)) ?_
      refine lv_if_eq (tgt := 66) hx hb dX_move_54 (by decide) (fun h_7 => ?_) (fun h_7 => ?_)
      · have h_7 := bi_0 h_7
        refine lv_iconst (v := 0) hx hb dX_move_66 (by decide) ?_
        refine W.eq (g2 := F0 m 67 ls [.int (bi false), .int (ri), .ref (q 6)]) rfl ?_
        refine va_zast hx hb hK hP hD hS 6 1 rfl rfl hri dX_move_67 (fun H locs hP hD hS => ?_)
        have hP : va_P D vwCl (xW cI cZ q (upd (upd A ri.toNatClampNeg (A si.toNatClampNeg)) ri.toNatClampNeg ((A si.toNatClampNeg) + (v))) (upd B ri.toNatClampNeg (B si.toNatClampNeg)) (upd T ri.toNatClampNeg (T si.toNatClampNeg)) (upd P ri.toNatClampNeg (P si.toNatClampNeg)) (upd Y ri.toNatClampNeg (Y si.toNatClampNeg)) (ub (ub G ri.toNatClampNeg (G si.toNatClampNeg)) ri.toNatClampNeg (false))) H := by rw [ub_upd] at hP; exact hP
        have hD : va_D A9 (xW cI cZ q (upd (upd A ri.toNatClampNeg (A si.toNatClampNeg)) ri.toNatClampNeg ((A si.toNatClampNeg) + (v))) (upd B ri.toNatClampNeg (B si.toNatClampNeg)) (upd T ri.toNatClampNeg (T si.toNatClampNeg)) (upd P ri.toNatClampNeg (P si.toNatClampNeg)) (upd Y ri.toNatClampNeg (Y si.toNatClampNeg)) (ub (ub G ri.toNatClampNeg (G si.toNatClampNeg)) ri.toNatClampNeg (false))) := by rw [ub_upd] at hD; exact hD
        have e9_0 : (G si.toNatClampNeg && (decide (Y si.toNatClampNeg = 0) || decide (v = 0))) = false := by (try simp only [decide_eq_true_eq, decide_eq_false_iff_not, Decidable.not_not] at h_1); (try simp only [decide_eq_true_eq, decide_eq_false_iff_not, Decidable.not_not] at h_4); (try simp only [decide_eq_true_eq, decide_eq_false_iff_not, Decidable.not_not] at h_7); simp [h_1, h_4, h_7]
        have hP : va_P D vwCl (xW cI cZ q (upd A ri.toNatClampNeg ((A si.toNatClampNeg) + (v))) (upd B ri.toNatClampNeg (B si.toNatClampNeg)) (upd T ri.toNatClampNeg (T si.toNatClampNeg)) (upd P ri.toNatClampNeg (P si.toNatClampNeg)) (upd Y ri.toNatClampNeg (Y si.toNatClampNeg)) (ub G ri.toNatClampNeg ((G si.toNatClampNeg && (decide (Y si.toNatClampNeg = 0) || decide (v = 0)))))) H := by (try rw [e9_0]); first | exact hP | (simp only [uu_upd, uu_ub] at hP ⊢; exact hP)
        have hD : va_D A9 (xW cI cZ q (upd A ri.toNatClampNeg ((A si.toNatClampNeg) + (v))) (upd B ri.toNatClampNeg (B si.toNatClampNeg)) (upd T ri.toNatClampNeg (T si.toNatClampNeg)) (upd P ri.toNatClampNeg (P si.toNatClampNeg)) (upd Y ri.toNatClampNeg (Y si.toNatClampNeg)) (ub G ri.toNatClampNeg ((G si.toNatClampNeg && (decide (Y si.toNatClampNeg = 0) || decide (v = 0)))))) := by (try rw [e9_0]); first | exact hD | (simp only [uu_upd, uu_ub] at hD ⊢; exact hD)
        exact W.vret hx hb hr (fun t9 ht hW => ⟨rfl, by rw [ht]; exact hP, hD, hS.F ht⟩) hS.2.2 dX_move_68
      · have h_7 := bi_n h_7
        refine lv_iload hx hb dX_move_57 (lv_at hl 0 rfl) ?_
        refine lv_if_eq (tgt := 66) hx hb dX_move_59 (by decide) (fun h_8 => absurd h_8 (by decide)) (fun h_8 => ?_)
        refine lv_iconst (v := 1) hx hb dX_move_62 (by decide) ?_
        refine lv_goto (tgt := 67) hx hb dX_move_63 (by decide) ?_
        refine W.eq (g2 := F0 m 67 ls [.int (bi true), .int (ri), .ref (q 6)]) rfl ?_
        refine va_zast hx hb hK hP hD hS 6 1 rfl rfl hri dX_move_67 (fun H locs hP hD hS => ?_)
        have hP : va_P D vwCl (xW cI cZ q (upd (upd A ri.toNatClampNeg (A si.toNatClampNeg)) ri.toNatClampNeg ((A si.toNatClampNeg) + (v))) (upd B ri.toNatClampNeg (B si.toNatClampNeg)) (upd T ri.toNatClampNeg (T si.toNatClampNeg)) (upd P ri.toNatClampNeg (P si.toNatClampNeg)) (upd Y ri.toNatClampNeg (Y si.toNatClampNeg)) (ub (ub G ri.toNatClampNeg (G si.toNatClampNeg)) ri.toNatClampNeg (true))) H := by rw [ub_upd] at hP; exact hP
        have hD : va_D A9 (xW cI cZ q (upd (upd A ri.toNatClampNeg (A si.toNatClampNeg)) ri.toNatClampNeg ((A si.toNatClampNeg) + (v))) (upd B ri.toNatClampNeg (B si.toNatClampNeg)) (upd T ri.toNatClampNeg (T si.toNatClampNeg)) (upd P ri.toNatClampNeg (P si.toNatClampNeg)) (upd Y ri.toNatClampNeg (Y si.toNatClampNeg)) (ub (ub G ri.toNatClampNeg (G si.toNatClampNeg)) ri.toNatClampNeg (true))) := by rw [ub_upd] at hD; exact hD
        have e9_0 : (G si.toNatClampNeg && (decide (Y si.toNatClampNeg = 0) || decide (v = 0))) = true := by (try simp only [decide_eq_true_eq, decide_eq_false_iff_not, Decidable.not_not] at h_1); (try simp only [decide_eq_true_eq, decide_eq_false_iff_not, Decidable.not_not] at h_4); (try simp only [decide_eq_true_eq, decide_eq_false_iff_not, Decidable.not_not] at h_7); simp [h_1, h_4, h_7]
        have hP : va_P D vwCl (xW cI cZ q (upd A ri.toNatClampNeg ((A si.toNatClampNeg) + (v))) (upd B ri.toNatClampNeg (B si.toNatClampNeg)) (upd T ri.toNatClampNeg (T si.toNatClampNeg)) (upd P ri.toNatClampNeg (P si.toNatClampNeg)) (upd Y ri.toNatClampNeg (Y si.toNatClampNeg)) (ub G ri.toNatClampNeg ((G si.toNatClampNeg && (decide (Y si.toNatClampNeg = 0) || decide (v = 0)))))) H := by (try rw [e9_0]); first | exact hP | (simp only [uu_upd, uu_ub] at hP ⊢; exact hP)
        have hD : va_D A9 (xW cI cZ q (upd A ri.toNatClampNeg ((A si.toNatClampNeg) + (v))) (upd B ri.toNatClampNeg (B si.toNatClampNeg)) (upd T ri.toNatClampNeg (T si.toNatClampNeg)) (upd P ri.toNatClampNeg (P si.toNatClampNeg)) (upd Y ri.toNatClampNeg (Y si.toNatClampNeg)) (ub G ri.toNatClampNeg ((G si.toNatClampNeg && (decide (Y si.toNatClampNeg = 0) || decide (v = 0)))))) := by (try rw [e9_0]); first | exact hD | (simp only [uu_upd, uu_ub] at hD ⊢; exact hD)
        exact W.vret hx hb hr (fun t9 ht hW => ⟨rfl, by rw [ht]; exact hP, hD, hS.F ht⟩) hS.2.2 dX_move_68

set_option maxRecDepth 100000 in
set_option maxHeartbeats 4000000 in
theorem mX_narrow (l : Launch) (D : va_G) (cI cZ : ClassId) (q : Nat → Nat) (A B T P Y : Nat → Int32) (G : Nat → Bool) (sz : Nat) (ri si v : Int32) (hri : vp_in ri 16) (hsi : vp_in si 16) : Met l yX_narrow (Cond.code yX_narrow cX_narrow 5 (some .boolean) :: gw) (rmk 2 0 0) (va_Pc [.ref (q 0), .int (ri), .int (si), .int (v)] (kB D vwCl (xW cI cZ q A B T P Y G) (tsX cI cZ) sz)) (kQ (some (.int (bi (G si.toNatClampNeg && (decide (Y si.toNatClampNeg = 0) && ga_in (B si.toNatClampNeg) (T si.toNatClampNeg) (A si.toNatClampNeg) (un v)))))) D vwCl (xW cI cZ q (upd A ri.toNatClampNeg (A si.toNatClampNeg)) (upd B ri.toNatClampNeg (A si.toNatClampNeg)) (upd T ri.toNatClampNeg ((A si.toNatClampNeg) + (v))) (upd P ri.toNatClampNeg (P si.toNatClampNeg)) (upd Y ri.toNatClampNeg (Y si.toNatClampNeg)) (ub G ri.toNatClampNeg ((G si.toNatClampNeg && (decide (Y si.toNatClampNeg = 0) && ga_in (B si.toNatClampNeg) (T si.toNatClampNeg) (A si.toNatClampNeg) (un v)))))) (va_A (xW cI cZ q A B T P Y G) sz)) 0 0 (va_A (xW cI cZ q A B T P Y G) sz) := by
  refine Met.ofW (cc := cX_narrow) (maxL := 5) (ret := (some .boolean)) (by decide) rfl ?_
  intro p e s m args below meth c s₁ B9 hml hv
  obtain ⟨rfl, hsz, hP, hK, hD0⟩ := hv
  have hx := B9.exec
  have hb := B9.bytes
  have hr := B9.returns
  have hts := fun (w : Cond) (h : w ∈ gw) => atoms_spec (ws := _ :: gw) B9.pre w (List.mem_cons_of_mem _ h)
  have hown : s.vm.findClass RX = some m.cls := findClass_of_methodNamed B9.named
  have hlocks := B9.notSynchronized
  have hl := lv_entry ([.ref (q 0), .int (ri), .int (si), .int (v)]) (n := 5) (Nat.le_of_ble_eq_true rfl)
  rw [lg_entry_eq]
  generalize (lg_sl ([.ref (q 0), .int (ri), .int (si), .int (v)]) ++ List.replicate (5 - (lg_sl ([.ref (q 0), .int (ri), .int (si), .int (v)])).length) Slot.unset).toArray = ls at hl ⊢
  have hl : lv_has ls 5 [(0, .ref (q 0)), (1, .int (ri)), (2, .int (si)), (3, .int (v))] := hl
  subst hsz
  have hD := hD0.self (sz := s.heap.size)
  generalize hAe : va_A (xW cI cZ q A B T P Y G) s.heap.size = A9 at hD ⊢
  have hA : ∀ z : Nat, s.heap.size ≤ z → A9 z := fun z h => by rw [← hAe]; exact Or.inr h
  have hS : va_S A9 s.heap s.heap [] := va_S.rf
  have hP : va_P D vwCl (xW cI cZ q A B T P Y G) s.heap := hP
  refine lv_iload_n hx hb dX_narrow_0 rfl (lv_at hl 1 rfl) ?_
  refine kr_Sv 1 (As := [.int (ri)]) (rest := []) hx hb hml hown hts hl.1 (mX_requireGrant l (ri) hri) tt_stb trivial (gw_S w_151 w_152 w_14 w_153) (by decide) ⟨rfl, rfl⟩ ⟨Nat.le_of_ble_eq_true rfl, Nat.le_of_ble_eq_true rfl⟩ rfl rfl (Nat.le_of_ble_eq_true rfl) dX_narrow_1 ⟨Nat.zero_le _, Nat.zero_le _⟩ ?_
  refine lv_iload_n hx hb dX_narrow_4 rfl (lv_at hl 2 rfl) ?_
  refine kr_Sv 1 (As := [.int (si)]) (rest := []) hx hb hml hown hts hl.1 (mX_requireGrant l (si) hsi) tt_stb trivial (gw_S w_151 w_152 w_14 w_153) (by decide) ⟨rfl, rfl⟩ ⟨Nat.le_of_ble_eq_true rfl, Nat.le_of_ble_eq_true rfl⟩ rfl rfl (Nat.le_of_ble_eq_true rfl) dX_narrow_5 ⟨Nat.zero_le _, Nat.zero_le _⟩ ?_
  refine lv_aload_n hx hb dX_narrow_8 rfl (lv_at hl 0 rfl) ?_
  refine lv_iload_n hx hb dX_narrow_9 rfl (lv_at hl 2 rfl) ?_
  refine kr_V 1 (b := q 0) (As := [.int (si)]) (rest := []) (r := .int (bi (decide (¬ Y si.toNatClampNeg = 0)))) hx hb hml hown hts hl.1 (mX_isSealed l D cI cZ q A B T P Y G (si) hsi) rB_stb ⟨hP, hK⟩ (gw_V w_58 w_60 w_1 w_14 w_61) (by decide) ⟨rfl, rfl⟩ ⟨Nat.le_of_ble_eq_true rfl, Nat.le_of_ble_eq_true rfl⟩ (va_recv hK hP (ci := 0) rfl (q0 := 0) rfl) rfl rfl (Nat.le_of_ble_eq_true rfl) dX_narrow_10 ⟨Nat.zero_le _, Nat.zero_le _⟩ ?_
  refine lv_if_ne (tgt := 38) hx hb dX_narrow_13 (by decide) (fun h_1 => ?_) (fun h_1 => ?_)
  · have h_1 := bi_n h_1
    refine lv_iconst (v := 0) hx hb dX_narrow_38 (by decide) ?_
    refine lv_istore hx hb dX_narrow_39 hl (by decide) rfl (fun ls hl => ?_)
    have hl : lv_has ls 5 [(4, .int (0)), (0, .ref (q 0)), (1, .int (ri)), (2, .int (si)), (3, .int (v))] := hl
    refine lv_aload_n hx hb dX_narrow_41 rfl (lv_at hl 1 rfl) ?_
    refine lv_iload_n hx hb dX_narrow_42 rfl (lv_at hl 2 rfl) ?_
    refine lv_iload_n hx hb dX_narrow_43 rfl (lv_at hl 3 rfl) ?_
    refine kw_V 2 [0, 1, 2, 3, 4, 5, 6] [] (b := q 0) (As := [.int (ri), .int (si)]) (rest := []) (wc := xW cI cZ q A B T P Y G) (wr := []) (w1 := xW cI cZ q (upd A ri.toNatClampNeg (A si.toNatClampNeg)) (upd B ri.toNatClampNeg (B si.toNatClampNeg)) (upd T ri.toNatClampNeg (T si.toNatClampNeg)) (upd P ri.toNatClampNeg (P si.toNatClampNeg)) (upd Y ri.toNatClampNeg (Y si.toNatClampNeg)) (ub G ri.toNatClampNeg (G si.toNatClampNeg))) hx hb hml hown hts hl.1 hP hD hS hA hK (mX_copy l D cI cZ q A B T P Y G _ ri si hri hsi) (gw_V w_184 w_186 w_5 w_14 w_187) (by decide) ⟨rfl, rfl⟩ ⟨Nat.le_of_ble_eq_true rfl, Nat.le_of_ble_eq_true rfl⟩ (va_recv hK hP (ci := 0) rfl (q0 := 0) rfl) rfl rfl (Nat.le_of_ble_eq_true rfl) dX_narrow_44 ⟨Nat.zero_le _, Nat.zero_le _⟩ rfl rfl ⟨by decide, by decide⟩ (by decide) (fun H locs hP hD hS => ?_)
    have hP : va_P D vwCl (xW cI cZ q (upd A ri.toNatClampNeg (A si.toNatClampNeg)) (upd B ri.toNatClampNeg (B si.toNatClampNeg)) (upd T ri.toNatClampNeg (T si.toNatClampNeg)) (upd P ri.toNatClampNeg (P si.toNatClampNeg)) (upd Y ri.toNatClampNeg (Y si.toNatClampNeg)) (ub G ri.toNatClampNeg (G si.toNatClampNeg))) H := hP
    have hD : va_D A9 (xW cI cZ q (upd A ri.toNatClampNeg (A si.toNatClampNeg)) (upd B ri.toNatClampNeg (B si.toNatClampNeg)) (upd T ri.toNatClampNeg (T si.toNatClampNeg)) (upd P ri.toNatClampNeg (P si.toNatClampNeg)) (upd Y ri.toNatClampNeg (Y si.toNatClampNeg)) (ub G ri.toNatClampNeg (G si.toNatClampNeg))) := hD
    refine W.eq (g2 := F0 m 47 ls []) rfl ?_
    refine lv_aload_n hx hb dX_narrow_47 rfl (lv_at hl 1 rfl) ?_
    refine va_get (D := D) (ci := 0) (v := .ref (q 2)) (C := RX) (T := TX) (N := 6) hx hb hts inX hown hK hP 0 rfl rfl 1 (by decide) (hts _ w_30) (fun _ h9 => h9) rfl dX_narrow_48 ?_
    refine lv_iload_n hx hb dX_narrow_51 rfl (lv_at hl 2 rfl) ?_
    refine lv_aload_n hx hb dX_narrow_52 rfl (lv_at hl 1 rfl) ?_
    refine va_get (D := D) (ci := 0) (v := .ref (q 1)) (C := RX) (T := TX) (N := 6) hx hb hts inX hown hK hP 0 rfl rfl 0 (by decide) (hts _ w_29) (fun _ h9 => h9) rfl dX_narrow_53 ?_
    refine lv_iload_n hx hb dX_narrow_56 rfl (lv_at hl 2 rfl) ?_
    refine va_iald hx hb hK hP 1 0 rfl rfl hri dX_narrow_57 ?_
    refine W.eq (g2 := F0 m 58 ls [.int (A si.toNatClampNeg), .int (ri), .ref (q 2)]) (by first | rfl | (rw [pk_us] <;> rfl)) ?_
    refine va_iast hx hb hK hP hD hS 2 0 rfl rfl hri dX_narrow_58 (fun H locs hP hD hS => ?_)
    have hP : va_P D vwCl (xW cI cZ q (upd A ri.toNatClampNeg (A si.toNatClampNeg)) (upd (upd B ri.toNatClampNeg (B si.toNatClampNeg)) ri.toNatClampNeg (A si.toNatClampNeg)) (upd T ri.toNatClampNeg (T si.toNatClampNeg)) (upd P ri.toNatClampNeg (P si.toNatClampNeg)) (upd Y ri.toNatClampNeg (Y si.toNatClampNeg)) (ub G ri.toNatClampNeg (G si.toNatClampNeg))) H := hP
    have hD : va_D A9 (xW cI cZ q (upd A ri.toNatClampNeg (A si.toNatClampNeg)) (upd (upd B ri.toNatClampNeg (B si.toNatClampNeg)) ri.toNatClampNeg (A si.toNatClampNeg)) (upd T ri.toNatClampNeg (T si.toNatClampNeg)) (upd P ri.toNatClampNeg (P si.toNatClampNeg)) (upd Y ri.toNatClampNeg (Y si.toNatClampNeg)) (ub G ri.toNatClampNeg (G si.toNatClampNeg))) := hD
    refine lv_aload_n hx hb dX_narrow_59 rfl (lv_at hl 1 rfl) ?_
    refine va_get (D := D) (ci := 0) (v := .ref (q 3)) (C := RX) (T := TX) (N := 6) hx hb hts inX hown hK hP 0 rfl rfl 2 (by decide) (hts _ w_31) (fun _ h9 => h9) rfl dX_narrow_60 ?_
    refine lv_iload_n hx hb dX_narrow_63 rfl (lv_at hl 2 rfl) ?_
    refine lv_aload_n hx hb dX_narrow_64 rfl (lv_at hl 1 rfl) ?_
    refine va_get (D := D) (ci := 0) (v := .ref (q 1)) (C := RX) (T := TX) (N := 6) hx hb hts inX hown hK hP 0 rfl rfl 0 (by decide) (hts _ w_29) (fun _ h9 => h9) rfl dX_narrow_65 ?_
    refine lv_iload_n hx hb dX_narrow_68 rfl (lv_at hl 2 rfl) ?_
    refine va_iald hx hb hK hP 1 0 rfl rfl hri dX_narrow_69 ?_
    refine W.eq (g2 := F0 m 70 ls [.int (A si.toNatClampNeg), .int (ri), .ref (q 3)]) (by first | rfl | (rw [pk_us] <;> rfl)) ?_
    refine lv_iload_n hx hb dX_narrow_70 rfl (lv_at hl 4 rfl) ?_
    refine lv_iadd hx hb dX_narrow_71 ?_
    refine va_iast hx hb hK hP hD hS 3 0 rfl rfl hri dX_narrow_72 (fun H locs hP hD hS => ?_)
    have hP : va_P D vwCl (xW cI cZ q (upd A ri.toNatClampNeg (A si.toNatClampNeg)) (upd (upd B ri.toNatClampNeg (B si.toNatClampNeg)) ri.toNatClampNeg (A si.toNatClampNeg)) (upd (upd T ri.toNatClampNeg (T si.toNatClampNeg)) ri.toNatClampNeg ((A si.toNatClampNeg) + (v))) (upd P ri.toNatClampNeg (P si.toNatClampNeg)) (upd Y ri.toNatClampNeg (Y si.toNatClampNeg)) (ub G ri.toNatClampNeg (G si.toNatClampNeg))) H := hP
    have hD : va_D A9 (xW cI cZ q (upd A ri.toNatClampNeg (A si.toNatClampNeg)) (upd (upd B ri.toNatClampNeg (B si.toNatClampNeg)) ri.toNatClampNeg (A si.toNatClampNeg)) (upd (upd T ri.toNatClampNeg (T si.toNatClampNeg)) ri.toNatClampNeg ((A si.toNatClampNeg) + (v))) (upd P ri.toNatClampNeg (P si.toNatClampNeg)) (upd Y ri.toNatClampNeg (Y si.toNatClampNeg)) (ub G ri.toNatClampNeg (G si.toNatClampNeg))) := hD
    refine lv_aload_n hx hb dX_narrow_73 rfl (lv_at hl 1 rfl) ?_
    refine va_get (D := D) (ci := 0) (v := .ref (q 6)) (C := RX) (T := TX) (N := 6) hx hb hts inX hown hK hP 0 rfl rfl 5 (by decide) (hts _ w_34) (fun _ h9 => h9) rfl dX_narrow_74 ?_
    refine lv_iload_n hx hb dX_narrow_77 rfl (lv_at hl 2 rfl) ?_
    refine lv_aload_n hx hb dX_narrow_78 rfl (lv_at hl 1 rfl) ?_
    refine va_get (D := D) (ci := 0) (v := .ref (q 6)) (C := RX) (T := TX) (N := 6) hx hb hts inX hown hK hP 0 rfl rfl 5 (by decide) (hts _ w_34) (fun _ h9 => h9) rfl dX_narrow_79 ?_
    refine lv_iload_n hx hb dX_narrow_82 rfl (lv_at hl 2 rfl) ?_
    refine va_zald hx hb hK hP 6 1 rfl rfl hri dX_narrow_83 ?_
    refine W.eq (g2 := F0 m 84 ls [.int (bi (G si.toNatClampNeg)), .int (ri), .ref (q 6)]) (by first | rfl | (rw [ub_s] <;> rfl)) ?_
    refine lv_if_eq (tgt := 96) hx hb dX_narrow_84 (by decide) (fun h_2 => ?_) (fun h_2 => ?_)
    · have h_2 := bi_0 h_2
      refine lv_iconst (v := 0) hx hb dX_narrow_96 (by decide) ?_
      refine W.eq (g2 := F0 m 97 ls [.int (bi false), .int (ri), .ref (q 6)]) rfl ?_
      refine va_zast hx hb hK hP hD hS 6 1 rfl rfl hri dX_narrow_97 (fun H locs hP hD hS => ?_)
      have hP : va_P D vwCl (xW cI cZ q (upd A ri.toNatClampNeg (A si.toNatClampNeg)) (upd (upd B ri.toNatClampNeg (B si.toNatClampNeg)) ri.toNatClampNeg (A si.toNatClampNeg)) (upd (upd T ri.toNatClampNeg (T si.toNatClampNeg)) ri.toNatClampNeg ((A si.toNatClampNeg) + (v))) (upd P ri.toNatClampNeg (P si.toNatClampNeg)) (upd Y ri.toNatClampNeg (Y si.toNatClampNeg)) (ub (ub G ri.toNatClampNeg (G si.toNatClampNeg)) ri.toNatClampNeg (false))) H := by rw [ub_upd] at hP; exact hP
      have hD : va_D A9 (xW cI cZ q (upd A ri.toNatClampNeg (A si.toNatClampNeg)) (upd (upd B ri.toNatClampNeg (B si.toNatClampNeg)) ri.toNatClampNeg (A si.toNatClampNeg)) (upd (upd T ri.toNatClampNeg (T si.toNatClampNeg)) ri.toNatClampNeg ((A si.toNatClampNeg) + (v))) (upd P ri.toNatClampNeg (P si.toNatClampNeg)) (upd Y ri.toNatClampNeg (Y si.toNatClampNeg)) (ub (ub G ri.toNatClampNeg (G si.toNatClampNeg)) ri.toNatClampNeg (false))) := by rw [ub_upd] at hD; exact hD
      refine lv_aload_n hx hb dX_narrow_98 rfl (lv_at hl 1 rfl) ?_
      refine va_get (D := D) (ci := 0) (v := .ref (q 6)) (C := RX) (T := TX) (N := 6) hx hb hts inX hown hK hP 0 rfl rfl 5 (by decide) (hts _ w_34) (fun _ h9 => h9) rfl dX_narrow_99 ?_
      refine lv_iload_n hx hb dX_narrow_102 rfl (lv_at hl 2 rfl) ?_
      refine va_zald hx hb hK hP 6 1 rfl rfl hri dX_narrow_103 ?_
      refine W.eq (g2 := F0 m 104 ls [.int (bi (false))]) (by first | rfl | (rw [ub_s] <;> rfl)) ?_
      have e9_0 : (G si.toNatClampNeg && (decide (Y si.toNatClampNeg = 0) && ga_in (B si.toNatClampNeg) (T si.toNatClampNeg) (A si.toNatClampNeg) (un v))) = false := by (try simp only [decide_eq_true_eq, decide_eq_false_iff_not, Decidable.not_not] at h_1); (try simp only [decide_eq_true_eq, decide_eq_false_iff_not, Decidable.not_not] at h_2); simp [h_1, h_2]
      have hP : va_P D vwCl (xW cI cZ q (upd A ri.toNatClampNeg (A si.toNatClampNeg)) (upd B ri.toNatClampNeg (A si.toNatClampNeg)) (upd T ri.toNatClampNeg ((A si.toNatClampNeg) + (v))) (upd P ri.toNatClampNeg (P si.toNatClampNeg)) (upd Y ri.toNatClampNeg (Y si.toNatClampNeg)) (ub G ri.toNatClampNeg ((G si.toNatClampNeg && (decide (Y si.toNatClampNeg = 0) && ga_in (B si.toNatClampNeg) (T si.toNatClampNeg) (A si.toNatClampNeg) (un v)))))) H := by (try rw [e9_0]); first | exact hP | (simp only [uu_upd, uu_ub] at hP ⊢; exact hP)
      have hD : va_D A9 (xW cI cZ q (upd A ri.toNatClampNeg (A si.toNatClampNeg)) (upd B ri.toNatClampNeg (A si.toNatClampNeg)) (upd T ri.toNatClampNeg ((A si.toNatClampNeg) + (v))) (upd P ri.toNatClampNeg (P si.toNatClampNeg)) (upd Y ri.toNatClampNeg (Y si.toNatClampNeg)) (ub G ri.toNatClampNeg ((G si.toNatClampNeg && (decide (Y si.toNatClampNeg = 0) && ga_in (B si.toNatClampNeg) (T si.toNatClampNeg) (A si.toNatClampNeg) (un v)))))) := by (try rw [e9_0]); first | exact hD | (simp only [uu_upd, uu_ub] at hD ⊢; exact hD)
      refine W.eq (g2 := F0 m 104 ls [.int (bi (G si.toNatClampNeg && (decide (Y si.toNatClampNeg = 0) && ga_in (B si.toNatClampNeg) (T si.toNatClampNeg) (A si.toNatClampNeg) (un v))))]) (by first | rfl | (rw [e9_0] <;> rfl)) ?_
      exact W.zret (v := bi (G si.toNatClampNeg && (decide (Y si.toNatClampNeg = 0) && ga_in (B si.toNatClampNeg) (T si.toNatClampNeg) (A si.toNatClampNeg) (un v)))) hx hb hr (bi_nar _) (fun t9 ht hW => ⟨rfl, by rw [ht]; exact hP, hD, hS.F ht⟩) hS.2.2 dX_narrow_104
    · have h_2 := bi_n h_2
      refine lv_iload hx hb dX_narrow_87 (lv_at hl 0 rfl) ?_
      refine lv_if_eq (tgt := 96) hx hb dX_narrow_89 (by decide) (fun h_3 => ?_) (fun h_3 => absurd (by decide) h_3)
      refine lv_iconst (v := 0) hx hb dX_narrow_96 (by decide) ?_
      refine W.eq (g2 := F0 m 97 ls [.int (bi false), .int (ri), .ref (q 6)]) rfl ?_
      refine va_zast hx hb hK hP hD hS 6 1 rfl rfl hri dX_narrow_97 (fun H locs hP hD hS => ?_)
      have hP : va_P D vwCl (xW cI cZ q (upd A ri.toNatClampNeg (A si.toNatClampNeg)) (upd (upd B ri.toNatClampNeg (B si.toNatClampNeg)) ri.toNatClampNeg (A si.toNatClampNeg)) (upd (upd T ri.toNatClampNeg (T si.toNatClampNeg)) ri.toNatClampNeg ((A si.toNatClampNeg) + (v))) (upd P ri.toNatClampNeg (P si.toNatClampNeg)) (upd Y ri.toNatClampNeg (Y si.toNatClampNeg)) (ub (ub G ri.toNatClampNeg (G si.toNatClampNeg)) ri.toNatClampNeg (false))) H := by rw [ub_upd] at hP; exact hP
      have hD : va_D A9 (xW cI cZ q (upd A ri.toNatClampNeg (A si.toNatClampNeg)) (upd (upd B ri.toNatClampNeg (B si.toNatClampNeg)) ri.toNatClampNeg (A si.toNatClampNeg)) (upd (upd T ri.toNatClampNeg (T si.toNatClampNeg)) ri.toNatClampNeg ((A si.toNatClampNeg) + (v))) (upd P ri.toNatClampNeg (P si.toNatClampNeg)) (upd Y ri.toNatClampNeg (Y si.toNatClampNeg)) (ub (ub G ri.toNatClampNeg (G si.toNatClampNeg)) ri.toNatClampNeg (false))) := by rw [ub_upd] at hD; exact hD
      refine lv_aload_n hx hb dX_narrow_98 rfl (lv_at hl 1 rfl) ?_
      refine va_get (D := D) (ci := 0) (v := .ref (q 6)) (C := RX) (T := TX) (N := 6) hx hb hts inX hown hK hP 0 rfl rfl 5 (by decide) (hts _ w_34) (fun _ h9 => h9) rfl dX_narrow_99 ?_
      refine lv_iload_n hx hb dX_narrow_102 rfl (lv_at hl 2 rfl) ?_
      refine va_zald hx hb hK hP 6 1 rfl rfl hri dX_narrow_103 ?_
      refine W.eq (g2 := F0 m 104 ls [.int (bi (false))]) (by first | rfl | (rw [ub_s] <;> rfl)) ?_
      have e9_0 : (G si.toNatClampNeg && (decide (Y si.toNatClampNeg = 0) && ga_in (B si.toNatClampNeg) (T si.toNatClampNeg) (A si.toNatClampNeg) (un v))) = false := by (try simp only [decide_eq_true_eq, decide_eq_false_iff_not, Decidable.not_not] at h_1); (try simp only [decide_eq_true_eq, decide_eq_false_iff_not, Decidable.not_not] at h_2); simp [h_1, h_2]
      have hP : va_P D vwCl (xW cI cZ q (upd A ri.toNatClampNeg (A si.toNatClampNeg)) (upd B ri.toNatClampNeg (A si.toNatClampNeg)) (upd T ri.toNatClampNeg ((A si.toNatClampNeg) + (v))) (upd P ri.toNatClampNeg (P si.toNatClampNeg)) (upd Y ri.toNatClampNeg (Y si.toNatClampNeg)) (ub G ri.toNatClampNeg ((G si.toNatClampNeg && (decide (Y si.toNatClampNeg = 0) && ga_in (B si.toNatClampNeg) (T si.toNatClampNeg) (A si.toNatClampNeg) (un v)))))) H := by (try rw [e9_0]); first | exact hP | (simp only [uu_upd, uu_ub] at hP ⊢; exact hP)
      have hD : va_D A9 (xW cI cZ q (upd A ri.toNatClampNeg (A si.toNatClampNeg)) (upd B ri.toNatClampNeg (A si.toNatClampNeg)) (upd T ri.toNatClampNeg ((A si.toNatClampNeg) + (v))) (upd P ri.toNatClampNeg (P si.toNatClampNeg)) (upd Y ri.toNatClampNeg (Y si.toNatClampNeg)) (ub G ri.toNatClampNeg ((G si.toNatClampNeg && (decide (Y si.toNatClampNeg = 0) && ga_in (B si.toNatClampNeg) (T si.toNatClampNeg) (A si.toNatClampNeg) (un v)))))) := by (try rw [e9_0]); first | exact hD | (simp only [uu_upd, uu_ub] at hD ⊢; exact hD)
      refine W.eq (g2 := F0 m 104 ls [.int (bi (G si.toNatClampNeg && (decide (Y si.toNatClampNeg = 0) && ga_in (B si.toNatClampNeg) (T si.toNatClampNeg) (A si.toNatClampNeg) (un v))))]) (by first | rfl | (rw [e9_0] <;> rfl)) ?_
      exact W.zret (v := bi (G si.toNatClampNeg && (decide (Y si.toNatClampNeg = 0) && ga_in (B si.toNatClampNeg) (T si.toNatClampNeg) (A si.toNatClampNeg) (un v)))) hx hb hr (bi_nar _) (fun t9 ht hW => ⟨rfl, by rw [ht]; exact hP, hD, hS.F ht⟩) hS.2.2 dX_narrow_104
  · have h_1 := bi_0 h_1
    refine lv_aload_n hx hb dX_narrow_16 rfl (lv_at hl 0 rfl) ?_
    refine lv_iload_n hx hb dX_narrow_17 rfl (lv_at hl 2 rfl) ?_
    refine lv_aload_n hx hb dX_narrow_18 rfl (lv_at hl 0 rfl) ?_
    refine va_get (D := D) (ci := 0) (v := .ref (q 1)) (C := RX) (T := TX) (N := 6) hx hb hts inX hown hK hP 0 rfl rfl 0 (by decide) (hts _ w_29) (fun _ h9 => h9) rfl dX_narrow_19 ?_
    refine lv_iload_n hx hb dX_narrow_22 rfl (lv_at hl 2 rfl) ?_
    refine va_iald hx hb hK hP 1 0 rfl rfl hsi dX_narrow_23 ?_
    refine lv_iload_n hx hb dX_narrow_24 rfl (lv_at hl 3 rfl) ?_
    refine kr_S 1 (As := [.int (v)]) (rest := [.int (A si.toNatClampNeg), .int (si), .ref (q 0)]) (r := .long (uw (v))) hx hb hml hown hts hl.1 (mX_unsigned l (v)) tt_stb trivial (gw_S w_70 w_71 w_14 w_72) (by decide) ⟨rfl, rfl⟩ ⟨Nat.le_of_ble_eq_true rfl, Nat.le_of_ble_eq_true rfl⟩ rfl rfl (Nat.le_of_ble_eq_true rfl) dX_narrow_25 ⟨Nat.zero_le _, Nat.zero_le _⟩ ?_
    refine kr_V 3 (b := q 0) (As := [.int (si), .int (A si.toNatClampNeg), .long (uw (v))]) (rest := []) (r := .int (bi (ga_in (B si.toNatClampNeg) (T si.toNatClampNeg) (A si.toNatClampNeg) (un v)))) hx hb hml hown hts hl.1 (mX_isInBounds l D cI cZ q A B T P Y G (si) (A si.toNatClampNeg) (un v) hsi (Nat.lt_trans (un_lt v) (by decide))) rB_stb ⟨hP, hK⟩ (gw_V w_66 w_68 w_3 w_14 w_69) (by decide) ⟨rfl, rfl⟩ ⟨Nat.le_of_ble_eq_true rfl, Nat.le_of_ble_eq_true rfl⟩ (va_recv hK hP (ci := 0) rfl (q0 := 0) rfl) rfl rfl (Nat.le_of_ble_eq_true rfl) dX_narrow_28 ⟨Nat.zero_le _, Nat.zero_le _⟩ ?_
    refine lv_if_eq (tgt := 38) hx hb dX_narrow_31 (by decide) (fun h_4 => ?_) (fun h_4 => ?_)
    · have h_4 := bi_0 h_4
      refine lv_iconst (v := 0) hx hb dX_narrow_38 (by decide) ?_
      refine lv_istore hx hb dX_narrow_39 hl (by decide) rfl (fun ls hl => ?_)
      have hl : lv_has ls 5 [(4, .int (0)), (0, .ref (q 0)), (1, .int (ri)), (2, .int (si)), (3, .int (v))] := hl
      refine lv_aload_n hx hb dX_narrow_41 rfl (lv_at hl 1 rfl) ?_
      refine lv_iload_n hx hb dX_narrow_42 rfl (lv_at hl 2 rfl) ?_
      refine lv_iload_n hx hb dX_narrow_43 rfl (lv_at hl 3 rfl) ?_
      refine kw_V 2 [0, 1, 2, 3, 4, 5, 6] [] (b := q 0) (As := [.int (ri), .int (si)]) (rest := []) (wc := xW cI cZ q A B T P Y G) (wr := []) (w1 := xW cI cZ q (upd A ri.toNatClampNeg (A si.toNatClampNeg)) (upd B ri.toNatClampNeg (B si.toNatClampNeg)) (upd T ri.toNatClampNeg (T si.toNatClampNeg)) (upd P ri.toNatClampNeg (P si.toNatClampNeg)) (upd Y ri.toNatClampNeg (Y si.toNatClampNeg)) (ub G ri.toNatClampNeg (G si.toNatClampNeg))) hx hb hml hown hts hl.1 hP hD hS hA hK (mX_copy l D cI cZ q A B T P Y G _ ri si hri hsi) (gw_V w_184 w_186 w_5 w_14 w_187) (by decide) ⟨rfl, rfl⟩ ⟨Nat.le_of_ble_eq_true rfl, Nat.le_of_ble_eq_true rfl⟩ (va_recv hK hP (ci := 0) rfl (q0 := 0) rfl) rfl rfl (Nat.le_of_ble_eq_true rfl) dX_narrow_44 ⟨Nat.zero_le _, Nat.zero_le _⟩ rfl rfl ⟨by decide, by decide⟩ (by decide) (fun H locs hP hD hS => ?_)
      have hP : va_P D vwCl (xW cI cZ q (upd A ri.toNatClampNeg (A si.toNatClampNeg)) (upd B ri.toNatClampNeg (B si.toNatClampNeg)) (upd T ri.toNatClampNeg (T si.toNatClampNeg)) (upd P ri.toNatClampNeg (P si.toNatClampNeg)) (upd Y ri.toNatClampNeg (Y si.toNatClampNeg)) (ub G ri.toNatClampNeg (G si.toNatClampNeg))) H := hP
      have hD : va_D A9 (xW cI cZ q (upd A ri.toNatClampNeg (A si.toNatClampNeg)) (upd B ri.toNatClampNeg (B si.toNatClampNeg)) (upd T ri.toNatClampNeg (T si.toNatClampNeg)) (upd P ri.toNatClampNeg (P si.toNatClampNeg)) (upd Y ri.toNatClampNeg (Y si.toNatClampNeg)) (ub G ri.toNatClampNeg (G si.toNatClampNeg))) := hD
      refine W.eq (g2 := F0 m 47 ls []) rfl ?_
      refine lv_aload_n hx hb dX_narrow_47 rfl (lv_at hl 1 rfl) ?_
      refine va_get (D := D) (ci := 0) (v := .ref (q 2)) (C := RX) (T := TX) (N := 6) hx hb hts inX hown hK hP 0 rfl rfl 1 (by decide) (hts _ w_30) (fun _ h9 => h9) rfl dX_narrow_48 ?_
      refine lv_iload_n hx hb dX_narrow_51 rfl (lv_at hl 2 rfl) ?_
      refine lv_aload_n hx hb dX_narrow_52 rfl (lv_at hl 1 rfl) ?_
      refine va_get (D := D) (ci := 0) (v := .ref (q 1)) (C := RX) (T := TX) (N := 6) hx hb hts inX hown hK hP 0 rfl rfl 0 (by decide) (hts _ w_29) (fun _ h9 => h9) rfl dX_narrow_53 ?_
      refine lv_iload_n hx hb dX_narrow_56 rfl (lv_at hl 2 rfl) ?_
      refine va_iald hx hb hK hP 1 0 rfl rfl hri dX_narrow_57 ?_
      refine W.eq (g2 := F0 m 58 ls [.int (A si.toNatClampNeg), .int (ri), .ref (q 2)]) (by first | rfl | (rw [pk_us] <;> rfl)) ?_
      refine va_iast hx hb hK hP hD hS 2 0 rfl rfl hri dX_narrow_58 (fun H locs hP hD hS => ?_)
      have hP : va_P D vwCl (xW cI cZ q (upd A ri.toNatClampNeg (A si.toNatClampNeg)) (upd (upd B ri.toNatClampNeg (B si.toNatClampNeg)) ri.toNatClampNeg (A si.toNatClampNeg)) (upd T ri.toNatClampNeg (T si.toNatClampNeg)) (upd P ri.toNatClampNeg (P si.toNatClampNeg)) (upd Y ri.toNatClampNeg (Y si.toNatClampNeg)) (ub G ri.toNatClampNeg (G si.toNatClampNeg))) H := hP
      have hD : va_D A9 (xW cI cZ q (upd A ri.toNatClampNeg (A si.toNatClampNeg)) (upd (upd B ri.toNatClampNeg (B si.toNatClampNeg)) ri.toNatClampNeg (A si.toNatClampNeg)) (upd T ri.toNatClampNeg (T si.toNatClampNeg)) (upd P ri.toNatClampNeg (P si.toNatClampNeg)) (upd Y ri.toNatClampNeg (Y si.toNatClampNeg)) (ub G ri.toNatClampNeg (G si.toNatClampNeg))) := hD
      refine lv_aload_n hx hb dX_narrow_59 rfl (lv_at hl 1 rfl) ?_
      refine va_get (D := D) (ci := 0) (v := .ref (q 3)) (C := RX) (T := TX) (N := 6) hx hb hts inX hown hK hP 0 rfl rfl 2 (by decide) (hts _ w_31) (fun _ h9 => h9) rfl dX_narrow_60 ?_
      refine lv_iload_n hx hb dX_narrow_63 rfl (lv_at hl 2 rfl) ?_
      refine lv_aload_n hx hb dX_narrow_64 rfl (lv_at hl 1 rfl) ?_
      refine va_get (D := D) (ci := 0) (v := .ref (q 1)) (C := RX) (T := TX) (N := 6) hx hb hts inX hown hK hP 0 rfl rfl 0 (by decide) (hts _ w_29) (fun _ h9 => h9) rfl dX_narrow_65 ?_
      refine lv_iload_n hx hb dX_narrow_68 rfl (lv_at hl 2 rfl) ?_
      refine va_iald hx hb hK hP 1 0 rfl rfl hri dX_narrow_69 ?_
      refine W.eq (g2 := F0 m 70 ls [.int (A si.toNatClampNeg), .int (ri), .ref (q 3)]) (by first | rfl | (rw [pk_us] <;> rfl)) ?_
      refine lv_iload_n hx hb dX_narrow_70 rfl (lv_at hl 4 rfl) ?_
      refine lv_iadd hx hb dX_narrow_71 ?_
      refine va_iast hx hb hK hP hD hS 3 0 rfl rfl hri dX_narrow_72 (fun H locs hP hD hS => ?_)
      have hP : va_P D vwCl (xW cI cZ q (upd A ri.toNatClampNeg (A si.toNatClampNeg)) (upd (upd B ri.toNatClampNeg (B si.toNatClampNeg)) ri.toNatClampNeg (A si.toNatClampNeg)) (upd (upd T ri.toNatClampNeg (T si.toNatClampNeg)) ri.toNatClampNeg ((A si.toNatClampNeg) + (v))) (upd P ri.toNatClampNeg (P si.toNatClampNeg)) (upd Y ri.toNatClampNeg (Y si.toNatClampNeg)) (ub G ri.toNatClampNeg (G si.toNatClampNeg))) H := hP
      have hD : va_D A9 (xW cI cZ q (upd A ri.toNatClampNeg (A si.toNatClampNeg)) (upd (upd B ri.toNatClampNeg (B si.toNatClampNeg)) ri.toNatClampNeg (A si.toNatClampNeg)) (upd (upd T ri.toNatClampNeg (T si.toNatClampNeg)) ri.toNatClampNeg ((A si.toNatClampNeg) + (v))) (upd P ri.toNatClampNeg (P si.toNatClampNeg)) (upd Y ri.toNatClampNeg (Y si.toNatClampNeg)) (ub G ri.toNatClampNeg (G si.toNatClampNeg))) := hD
      refine lv_aload_n hx hb dX_narrow_73 rfl (lv_at hl 1 rfl) ?_
      refine va_get (D := D) (ci := 0) (v := .ref (q 6)) (C := RX) (T := TX) (N := 6) hx hb hts inX hown hK hP 0 rfl rfl 5 (by decide) (hts _ w_34) (fun _ h9 => h9) rfl dX_narrow_74 ?_
      refine lv_iload_n hx hb dX_narrow_77 rfl (lv_at hl 2 rfl) ?_
      refine lv_aload_n hx hb dX_narrow_78 rfl (lv_at hl 1 rfl) ?_
      refine va_get (D := D) (ci := 0) (v := .ref (q 6)) (C := RX) (T := TX) (N := 6) hx hb hts inX hown hK hP 0 rfl rfl 5 (by decide) (hts _ w_34) (fun _ h9 => h9) rfl dX_narrow_79 ?_
      refine lv_iload_n hx hb dX_narrow_82 rfl (lv_at hl 2 rfl) ?_
      refine va_zald hx hb hK hP 6 1 rfl rfl hri dX_narrow_83 ?_
      refine W.eq (g2 := F0 m 84 ls [.int (bi (G si.toNatClampNeg)), .int (ri), .ref (q 6)]) (by first | rfl | (rw [ub_s] <;> rfl)) ?_
      refine lv_if_eq (tgt := 96) hx hb dX_narrow_84 (by decide) (fun h_5 => ?_) (fun h_5 => ?_)
      · have h_5 := bi_0 h_5
        refine lv_iconst (v := 0) hx hb dX_narrow_96 (by decide) ?_
        refine W.eq (g2 := F0 m 97 ls [.int (bi false), .int (ri), .ref (q 6)]) rfl ?_
        refine va_zast hx hb hK hP hD hS 6 1 rfl rfl hri dX_narrow_97 (fun H locs hP hD hS => ?_)
        have hP : va_P D vwCl (xW cI cZ q (upd A ri.toNatClampNeg (A si.toNatClampNeg)) (upd (upd B ri.toNatClampNeg (B si.toNatClampNeg)) ri.toNatClampNeg (A si.toNatClampNeg)) (upd (upd T ri.toNatClampNeg (T si.toNatClampNeg)) ri.toNatClampNeg ((A si.toNatClampNeg) + (v))) (upd P ri.toNatClampNeg (P si.toNatClampNeg)) (upd Y ri.toNatClampNeg (Y si.toNatClampNeg)) (ub (ub G ri.toNatClampNeg (G si.toNatClampNeg)) ri.toNatClampNeg (false))) H := by rw [ub_upd] at hP; exact hP
        have hD : va_D A9 (xW cI cZ q (upd A ri.toNatClampNeg (A si.toNatClampNeg)) (upd (upd B ri.toNatClampNeg (B si.toNatClampNeg)) ri.toNatClampNeg (A si.toNatClampNeg)) (upd (upd T ri.toNatClampNeg (T si.toNatClampNeg)) ri.toNatClampNeg ((A si.toNatClampNeg) + (v))) (upd P ri.toNatClampNeg (P si.toNatClampNeg)) (upd Y ri.toNatClampNeg (Y si.toNatClampNeg)) (ub (ub G ri.toNatClampNeg (G si.toNatClampNeg)) ri.toNatClampNeg (false))) := by rw [ub_upd] at hD; exact hD
        refine lv_aload_n hx hb dX_narrow_98 rfl (lv_at hl 1 rfl) ?_
        refine va_get (D := D) (ci := 0) (v := .ref (q 6)) (C := RX) (T := TX) (N := 6) hx hb hts inX hown hK hP 0 rfl rfl 5 (by decide) (hts _ w_34) (fun _ h9 => h9) rfl dX_narrow_99 ?_
        refine lv_iload_n hx hb dX_narrow_102 rfl (lv_at hl 2 rfl) ?_
        refine va_zald hx hb hK hP 6 1 rfl rfl hri dX_narrow_103 ?_
        refine W.eq (g2 := F0 m 104 ls [.int (bi (false))]) (by first | rfl | (rw [ub_s] <;> rfl)) ?_
        have e9_0 : (G si.toNatClampNeg && (decide (Y si.toNatClampNeg = 0) && ga_in (B si.toNatClampNeg) (T si.toNatClampNeg) (A si.toNatClampNeg) (un v))) = false := by (try simp only [decide_eq_true_eq, decide_eq_false_iff_not, Decidable.not_not] at h_1); (try simp only [decide_eq_true_eq, decide_eq_false_iff_not, Decidable.not_not] at h_4); (try simp only [decide_eq_true_eq, decide_eq_false_iff_not, Decidable.not_not] at h_5); simp [h_1, h_4, h_5]
        have hP : va_P D vwCl (xW cI cZ q (upd A ri.toNatClampNeg (A si.toNatClampNeg)) (upd B ri.toNatClampNeg (A si.toNatClampNeg)) (upd T ri.toNatClampNeg ((A si.toNatClampNeg) + (v))) (upd P ri.toNatClampNeg (P si.toNatClampNeg)) (upd Y ri.toNatClampNeg (Y si.toNatClampNeg)) (ub G ri.toNatClampNeg ((G si.toNatClampNeg && (decide (Y si.toNatClampNeg = 0) && ga_in (B si.toNatClampNeg) (T si.toNatClampNeg) (A si.toNatClampNeg) (un v)))))) H := by (try rw [e9_0]); first | exact hP | (simp only [uu_upd, uu_ub] at hP ⊢; exact hP)
        have hD : va_D A9 (xW cI cZ q (upd A ri.toNatClampNeg (A si.toNatClampNeg)) (upd B ri.toNatClampNeg (A si.toNatClampNeg)) (upd T ri.toNatClampNeg ((A si.toNatClampNeg) + (v))) (upd P ri.toNatClampNeg (P si.toNatClampNeg)) (upd Y ri.toNatClampNeg (Y si.toNatClampNeg)) (ub G ri.toNatClampNeg ((G si.toNatClampNeg && (decide (Y si.toNatClampNeg = 0) && ga_in (B si.toNatClampNeg) (T si.toNatClampNeg) (A si.toNatClampNeg) (un v)))))) := by (try rw [e9_0]); first | exact hD | (simp only [uu_upd, uu_ub] at hD ⊢; exact hD)
        refine W.eq (g2 := F0 m 104 ls [.int (bi (G si.toNatClampNeg && (decide (Y si.toNatClampNeg = 0) && ga_in (B si.toNatClampNeg) (T si.toNatClampNeg) (A si.toNatClampNeg) (un v))))]) (by first | rfl | (rw [e9_0] <;> rfl)) ?_
        exact W.zret (v := bi (G si.toNatClampNeg && (decide (Y si.toNatClampNeg = 0) && ga_in (B si.toNatClampNeg) (T si.toNatClampNeg) (A si.toNatClampNeg) (un v)))) hx hb hr (bi_nar _) (fun t9 ht hW => ⟨rfl, by rw [ht]; exact hP, hD, hS.F ht⟩) hS.2.2 dX_narrow_104
      · have h_5 := bi_n h_5
        refine lv_iload hx hb dX_narrow_87 (lv_at hl 0 rfl) ?_
        refine lv_if_eq (tgt := 96) hx hb dX_narrow_89 (by decide) (fun h_6 => ?_) (fun h_6 => absurd (by decide) h_6)
        refine lv_iconst (v := 0) hx hb dX_narrow_96 (by decide) ?_
        refine W.eq (g2 := F0 m 97 ls [.int (bi false), .int (ri), .ref (q 6)]) rfl ?_
        refine va_zast hx hb hK hP hD hS 6 1 rfl rfl hri dX_narrow_97 (fun H locs hP hD hS => ?_)
        have hP : va_P D vwCl (xW cI cZ q (upd A ri.toNatClampNeg (A si.toNatClampNeg)) (upd (upd B ri.toNatClampNeg (B si.toNatClampNeg)) ri.toNatClampNeg (A si.toNatClampNeg)) (upd (upd T ri.toNatClampNeg (T si.toNatClampNeg)) ri.toNatClampNeg ((A si.toNatClampNeg) + (v))) (upd P ri.toNatClampNeg (P si.toNatClampNeg)) (upd Y ri.toNatClampNeg (Y si.toNatClampNeg)) (ub (ub G ri.toNatClampNeg (G si.toNatClampNeg)) ri.toNatClampNeg (false))) H := by rw [ub_upd] at hP; exact hP
        have hD : va_D A9 (xW cI cZ q (upd A ri.toNatClampNeg (A si.toNatClampNeg)) (upd (upd B ri.toNatClampNeg (B si.toNatClampNeg)) ri.toNatClampNeg (A si.toNatClampNeg)) (upd (upd T ri.toNatClampNeg (T si.toNatClampNeg)) ri.toNatClampNeg ((A si.toNatClampNeg) + (v))) (upd P ri.toNatClampNeg (P si.toNatClampNeg)) (upd Y ri.toNatClampNeg (Y si.toNatClampNeg)) (ub (ub G ri.toNatClampNeg (G si.toNatClampNeg)) ri.toNatClampNeg (false))) := by rw [ub_upd] at hD; exact hD
        refine lv_aload_n hx hb dX_narrow_98 rfl (lv_at hl 1 rfl) ?_
        refine va_get (D := D) (ci := 0) (v := .ref (q 6)) (C := RX) (T := TX) (N := 6) hx hb hts inX hown hK hP 0 rfl rfl 5 (by decide) (hts _ w_34) (fun _ h9 => h9) rfl dX_narrow_99 ?_
        refine lv_iload_n hx hb dX_narrow_102 rfl (lv_at hl 2 rfl) ?_
        refine va_zald hx hb hK hP 6 1 rfl rfl hri dX_narrow_103 ?_
        refine W.eq (g2 := F0 m 104 ls [.int (bi (false))]) (by first | rfl | (rw [ub_s] <;> rfl)) ?_
        have e9_0 : (G si.toNatClampNeg && (decide (Y si.toNatClampNeg = 0) && ga_in (B si.toNatClampNeg) (T si.toNatClampNeg) (A si.toNatClampNeg) (un v))) = false := by (try simp only [decide_eq_true_eq, decide_eq_false_iff_not, Decidable.not_not] at h_1); (try simp only [decide_eq_true_eq, decide_eq_false_iff_not, Decidable.not_not] at h_4); (try simp only [decide_eq_true_eq, decide_eq_false_iff_not, Decidable.not_not] at h_5); simp [h_1, h_4, h_5]
        have hP : va_P D vwCl (xW cI cZ q (upd A ri.toNatClampNeg (A si.toNatClampNeg)) (upd B ri.toNatClampNeg (A si.toNatClampNeg)) (upd T ri.toNatClampNeg ((A si.toNatClampNeg) + (v))) (upd P ri.toNatClampNeg (P si.toNatClampNeg)) (upd Y ri.toNatClampNeg (Y si.toNatClampNeg)) (ub G ri.toNatClampNeg ((G si.toNatClampNeg && (decide (Y si.toNatClampNeg = 0) && ga_in (B si.toNatClampNeg) (T si.toNatClampNeg) (A si.toNatClampNeg) (un v)))))) H := by (try rw [e9_0]); first | exact hP | (simp only [uu_upd, uu_ub] at hP ⊢; exact hP)
        have hD : va_D A9 (xW cI cZ q (upd A ri.toNatClampNeg (A si.toNatClampNeg)) (upd B ri.toNatClampNeg (A si.toNatClampNeg)) (upd T ri.toNatClampNeg ((A si.toNatClampNeg) + (v))) (upd P ri.toNatClampNeg (P si.toNatClampNeg)) (upd Y ri.toNatClampNeg (Y si.toNatClampNeg)) (ub G ri.toNatClampNeg ((G si.toNatClampNeg && (decide (Y si.toNatClampNeg = 0) && ga_in (B si.toNatClampNeg) (T si.toNatClampNeg) (A si.toNatClampNeg) (un v)))))) := by (try rw [e9_0]); first | exact hD | (simp only [uu_upd, uu_ub] at hD ⊢; exact hD)
        refine W.eq (g2 := F0 m 104 ls [.int (bi (G si.toNatClampNeg && (decide (Y si.toNatClampNeg = 0) && ga_in (B si.toNatClampNeg) (T si.toNatClampNeg) (A si.toNatClampNeg) (un v))))]) (by first | rfl | (rw [e9_0] <;> rfl)) ?_
        exact W.zret (v := bi (G si.toNatClampNeg && (decide (Y si.toNatClampNeg = 0) && ga_in (B si.toNatClampNeg) (T si.toNatClampNeg) (A si.toNatClampNeg) (un v)))) hx hb hr (bi_nar _) (fun t9 ht hW => ⟨rfl, by rw [ht]; exact hP, hD, hS.F ht⟩) hS.2.2 dX_narrow_104
    · have h_4 := bi_n h_4
      refine lv_iconst (v := 1) hx hb dX_narrow_34 (by decide) ?_
      refine lv_goto (tgt := 39) hx hb dX_narrow_35 (by decide) ?_
      refine lv_istore hx hb dX_narrow_39 hl (by decide) rfl (fun ls hl => ?_)
      have hl : lv_has ls 5 [(4, .int (1)), (0, .ref (q 0)), (1, .int (ri)), (2, .int (si)), (3, .int (v))] := hl
      refine lv_aload_n hx hb dX_narrow_41 rfl (lv_at hl 1 rfl) ?_
      refine lv_iload_n hx hb dX_narrow_42 rfl (lv_at hl 2 rfl) ?_
      refine lv_iload_n hx hb dX_narrow_43 rfl (lv_at hl 3 rfl) ?_
      refine kw_V 2 [0, 1, 2, 3, 4, 5, 6] [] (b := q 0) (As := [.int (ri), .int (si)]) (rest := []) (wc := xW cI cZ q A B T P Y G) (wr := []) (w1 := xW cI cZ q (upd A ri.toNatClampNeg (A si.toNatClampNeg)) (upd B ri.toNatClampNeg (B si.toNatClampNeg)) (upd T ri.toNatClampNeg (T si.toNatClampNeg)) (upd P ri.toNatClampNeg (P si.toNatClampNeg)) (upd Y ri.toNatClampNeg (Y si.toNatClampNeg)) (ub G ri.toNatClampNeg (G si.toNatClampNeg))) hx hb hml hown hts hl.1 hP hD hS hA hK (mX_copy l D cI cZ q A B T P Y G _ ri si hri hsi) (gw_V w_184 w_186 w_5 w_14 w_187) (by decide) ⟨rfl, rfl⟩ ⟨Nat.le_of_ble_eq_true rfl, Nat.le_of_ble_eq_true rfl⟩ (va_recv hK hP (ci := 0) rfl (q0 := 0) rfl) rfl rfl (Nat.le_of_ble_eq_true rfl) dX_narrow_44 ⟨Nat.zero_le _, Nat.zero_le _⟩ rfl rfl ⟨by decide, by decide⟩ (by decide) (fun H locs hP hD hS => ?_)
      have hP : va_P D vwCl (xW cI cZ q (upd A ri.toNatClampNeg (A si.toNatClampNeg)) (upd B ri.toNatClampNeg (B si.toNatClampNeg)) (upd T ri.toNatClampNeg (T si.toNatClampNeg)) (upd P ri.toNatClampNeg (P si.toNatClampNeg)) (upd Y ri.toNatClampNeg (Y si.toNatClampNeg)) (ub G ri.toNatClampNeg (G si.toNatClampNeg))) H := hP
      have hD : va_D A9 (xW cI cZ q (upd A ri.toNatClampNeg (A si.toNatClampNeg)) (upd B ri.toNatClampNeg (B si.toNatClampNeg)) (upd T ri.toNatClampNeg (T si.toNatClampNeg)) (upd P ri.toNatClampNeg (P si.toNatClampNeg)) (upd Y ri.toNatClampNeg (Y si.toNatClampNeg)) (ub G ri.toNatClampNeg (G si.toNatClampNeg))) := hD
      refine W.eq (g2 := F0 m 47 ls []) rfl ?_
      refine lv_aload_n hx hb dX_narrow_47 rfl (lv_at hl 1 rfl) ?_
      refine va_get (D := D) (ci := 0) (v := .ref (q 2)) (C := RX) (T := TX) (N := 6) hx hb hts inX hown hK hP 0 rfl rfl 1 (by decide) (hts _ w_30) (fun _ h9 => h9) rfl dX_narrow_48 ?_
      refine lv_iload_n hx hb dX_narrow_51 rfl (lv_at hl 2 rfl) ?_
      refine lv_aload_n hx hb dX_narrow_52 rfl (lv_at hl 1 rfl) ?_
      refine va_get (D := D) (ci := 0) (v := .ref (q 1)) (C := RX) (T := TX) (N := 6) hx hb hts inX hown hK hP 0 rfl rfl 0 (by decide) (hts _ w_29) (fun _ h9 => h9) rfl dX_narrow_53 ?_
      refine lv_iload_n hx hb dX_narrow_56 rfl (lv_at hl 2 rfl) ?_
      refine va_iald hx hb hK hP 1 0 rfl rfl hri dX_narrow_57 ?_
      refine W.eq (g2 := F0 m 58 ls [.int (A si.toNatClampNeg), .int (ri), .ref (q 2)]) (by first | rfl | (rw [pk_us] <;> rfl)) ?_
      refine va_iast hx hb hK hP hD hS 2 0 rfl rfl hri dX_narrow_58 (fun H locs hP hD hS => ?_)
      have hP : va_P D vwCl (xW cI cZ q (upd A ri.toNatClampNeg (A si.toNatClampNeg)) (upd (upd B ri.toNatClampNeg (B si.toNatClampNeg)) ri.toNatClampNeg (A si.toNatClampNeg)) (upd T ri.toNatClampNeg (T si.toNatClampNeg)) (upd P ri.toNatClampNeg (P si.toNatClampNeg)) (upd Y ri.toNatClampNeg (Y si.toNatClampNeg)) (ub G ri.toNatClampNeg (G si.toNatClampNeg))) H := hP
      have hD : va_D A9 (xW cI cZ q (upd A ri.toNatClampNeg (A si.toNatClampNeg)) (upd (upd B ri.toNatClampNeg (B si.toNatClampNeg)) ri.toNatClampNeg (A si.toNatClampNeg)) (upd T ri.toNatClampNeg (T si.toNatClampNeg)) (upd P ri.toNatClampNeg (P si.toNatClampNeg)) (upd Y ri.toNatClampNeg (Y si.toNatClampNeg)) (ub G ri.toNatClampNeg (G si.toNatClampNeg))) := hD
      refine lv_aload_n hx hb dX_narrow_59 rfl (lv_at hl 1 rfl) ?_
      refine va_get (D := D) (ci := 0) (v := .ref (q 3)) (C := RX) (T := TX) (N := 6) hx hb hts inX hown hK hP 0 rfl rfl 2 (by decide) (hts _ w_31) (fun _ h9 => h9) rfl dX_narrow_60 ?_
      refine lv_iload_n hx hb dX_narrow_63 rfl (lv_at hl 2 rfl) ?_
      refine lv_aload_n hx hb dX_narrow_64 rfl (lv_at hl 1 rfl) ?_
      refine va_get (D := D) (ci := 0) (v := .ref (q 1)) (C := RX) (T := TX) (N := 6) hx hb hts inX hown hK hP 0 rfl rfl 0 (by decide) (hts _ w_29) (fun _ h9 => h9) rfl dX_narrow_65 ?_
      refine lv_iload_n hx hb dX_narrow_68 rfl (lv_at hl 2 rfl) ?_
      refine va_iald hx hb hK hP 1 0 rfl rfl hri dX_narrow_69 ?_
      refine W.eq (g2 := F0 m 70 ls [.int (A si.toNatClampNeg), .int (ri), .ref (q 3)]) (by first | rfl | (rw [pk_us] <;> rfl)) ?_
      refine lv_iload_n hx hb dX_narrow_70 rfl (lv_at hl 4 rfl) ?_
      refine lv_iadd hx hb dX_narrow_71 ?_
      refine va_iast hx hb hK hP hD hS 3 0 rfl rfl hri dX_narrow_72 (fun H locs hP hD hS => ?_)
      have hP : va_P D vwCl (xW cI cZ q (upd A ri.toNatClampNeg (A si.toNatClampNeg)) (upd (upd B ri.toNatClampNeg (B si.toNatClampNeg)) ri.toNatClampNeg (A si.toNatClampNeg)) (upd (upd T ri.toNatClampNeg (T si.toNatClampNeg)) ri.toNatClampNeg ((A si.toNatClampNeg) + (v))) (upd P ri.toNatClampNeg (P si.toNatClampNeg)) (upd Y ri.toNatClampNeg (Y si.toNatClampNeg)) (ub G ri.toNatClampNeg (G si.toNatClampNeg))) H := hP
      have hD : va_D A9 (xW cI cZ q (upd A ri.toNatClampNeg (A si.toNatClampNeg)) (upd (upd B ri.toNatClampNeg (B si.toNatClampNeg)) ri.toNatClampNeg (A si.toNatClampNeg)) (upd (upd T ri.toNatClampNeg (T si.toNatClampNeg)) ri.toNatClampNeg ((A si.toNatClampNeg) + (v))) (upd P ri.toNatClampNeg (P si.toNatClampNeg)) (upd Y ri.toNatClampNeg (Y si.toNatClampNeg)) (ub G ri.toNatClampNeg (G si.toNatClampNeg))) := hD
      refine lv_aload_n hx hb dX_narrow_73 rfl (lv_at hl 1 rfl) ?_
      refine va_get (D := D) (ci := 0) (v := .ref (q 6)) (C := RX) (T := TX) (N := 6) hx hb hts inX hown hK hP 0 rfl rfl 5 (by decide) (hts _ w_34) (fun _ h9 => h9) rfl dX_narrow_74 ?_
      refine lv_iload_n hx hb dX_narrow_77 rfl (lv_at hl 2 rfl) ?_
      refine lv_aload_n hx hb dX_narrow_78 rfl (lv_at hl 1 rfl) ?_
      refine va_get (D := D) (ci := 0) (v := .ref (q 6)) (C := RX) (T := TX) (N := 6) hx hb hts inX hown hK hP 0 rfl rfl 5 (by decide) (hts _ w_34) (fun _ h9 => h9) rfl dX_narrow_79 ?_
      refine lv_iload_n hx hb dX_narrow_82 rfl (lv_at hl 2 rfl) ?_
      refine va_zald hx hb hK hP 6 1 rfl rfl hri dX_narrow_83 ?_
      refine W.eq (g2 := F0 m 84 ls [.int (bi (G si.toNatClampNeg)), .int (ri), .ref (q 6)]) (by first | rfl | (rw [ub_s] <;> rfl)) ?_
      refine lv_if_eq (tgt := 96) hx hb dX_narrow_84 (by decide) (fun h_7 => ?_) (fun h_7 => ?_)
      · have h_7 := bi_0 h_7
        refine lv_iconst (v := 0) hx hb dX_narrow_96 (by decide) ?_
        refine W.eq (g2 := F0 m 97 ls [.int (bi false), .int (ri), .ref (q 6)]) rfl ?_
        refine va_zast hx hb hK hP hD hS 6 1 rfl rfl hri dX_narrow_97 (fun H locs hP hD hS => ?_)
        have hP : va_P D vwCl (xW cI cZ q (upd A ri.toNatClampNeg (A si.toNatClampNeg)) (upd (upd B ri.toNatClampNeg (B si.toNatClampNeg)) ri.toNatClampNeg (A si.toNatClampNeg)) (upd (upd T ri.toNatClampNeg (T si.toNatClampNeg)) ri.toNatClampNeg ((A si.toNatClampNeg) + (v))) (upd P ri.toNatClampNeg (P si.toNatClampNeg)) (upd Y ri.toNatClampNeg (Y si.toNatClampNeg)) (ub (ub G ri.toNatClampNeg (G si.toNatClampNeg)) ri.toNatClampNeg (false))) H := by rw [ub_upd] at hP; exact hP
        have hD : va_D A9 (xW cI cZ q (upd A ri.toNatClampNeg (A si.toNatClampNeg)) (upd (upd B ri.toNatClampNeg (B si.toNatClampNeg)) ri.toNatClampNeg (A si.toNatClampNeg)) (upd (upd T ri.toNatClampNeg (T si.toNatClampNeg)) ri.toNatClampNeg ((A si.toNatClampNeg) + (v))) (upd P ri.toNatClampNeg (P si.toNatClampNeg)) (upd Y ri.toNatClampNeg (Y si.toNatClampNeg)) (ub (ub G ri.toNatClampNeg (G si.toNatClampNeg)) ri.toNatClampNeg (false))) := by rw [ub_upd] at hD; exact hD
        refine lv_aload_n hx hb dX_narrow_98 rfl (lv_at hl 1 rfl) ?_
        refine va_get (D := D) (ci := 0) (v := .ref (q 6)) (C := RX) (T := TX) (N := 6) hx hb hts inX hown hK hP 0 rfl rfl 5 (by decide) (hts _ w_34) (fun _ h9 => h9) rfl dX_narrow_99 ?_
        refine lv_iload_n hx hb dX_narrow_102 rfl (lv_at hl 2 rfl) ?_
        refine va_zald hx hb hK hP 6 1 rfl rfl hri dX_narrow_103 ?_
        refine W.eq (g2 := F0 m 104 ls [.int (bi (false))]) (by first | rfl | (rw [ub_s] <;> rfl)) ?_
        have e9_0 : (G si.toNatClampNeg && (decide (Y si.toNatClampNeg = 0) && ga_in (B si.toNatClampNeg) (T si.toNatClampNeg) (A si.toNatClampNeg) (un v))) = false := by (try simp only [decide_eq_true_eq, decide_eq_false_iff_not, Decidable.not_not] at h_1); (try simp only [decide_eq_true_eq, decide_eq_false_iff_not, Decidable.not_not] at h_4); (try simp only [decide_eq_true_eq, decide_eq_false_iff_not, Decidable.not_not] at h_7); simp [h_1, h_4, h_7]
        have hP : va_P D vwCl (xW cI cZ q (upd A ri.toNatClampNeg (A si.toNatClampNeg)) (upd B ri.toNatClampNeg (A si.toNatClampNeg)) (upd T ri.toNatClampNeg ((A si.toNatClampNeg) + (v))) (upd P ri.toNatClampNeg (P si.toNatClampNeg)) (upd Y ri.toNatClampNeg (Y si.toNatClampNeg)) (ub G ri.toNatClampNeg ((G si.toNatClampNeg && (decide (Y si.toNatClampNeg = 0) && ga_in (B si.toNatClampNeg) (T si.toNatClampNeg) (A si.toNatClampNeg) (un v)))))) H := by (try rw [e9_0]); first | exact hP | (simp only [uu_upd, uu_ub] at hP ⊢; exact hP)
        have hD : va_D A9 (xW cI cZ q (upd A ri.toNatClampNeg (A si.toNatClampNeg)) (upd B ri.toNatClampNeg (A si.toNatClampNeg)) (upd T ri.toNatClampNeg ((A si.toNatClampNeg) + (v))) (upd P ri.toNatClampNeg (P si.toNatClampNeg)) (upd Y ri.toNatClampNeg (Y si.toNatClampNeg)) (ub G ri.toNatClampNeg ((G si.toNatClampNeg && (decide (Y si.toNatClampNeg = 0) && ga_in (B si.toNatClampNeg) (T si.toNatClampNeg) (A si.toNatClampNeg) (un v)))))) := by (try rw [e9_0]); first | exact hD | (simp only [uu_upd, uu_ub] at hD ⊢; exact hD)
        refine W.eq (g2 := F0 m 104 ls [.int (bi (G si.toNatClampNeg && (decide (Y si.toNatClampNeg = 0) && ga_in (B si.toNatClampNeg) (T si.toNatClampNeg) (A si.toNatClampNeg) (un v))))]) (by first | rfl | (rw [e9_0] <;> rfl)) ?_
        exact W.zret (v := bi (G si.toNatClampNeg && (decide (Y si.toNatClampNeg = 0) && ga_in (B si.toNatClampNeg) (T si.toNatClampNeg) (A si.toNatClampNeg) (un v)))) hx hb hr (bi_nar _) (fun t9 ht hW => ⟨rfl, by rw [ht]; exact hP, hD, hS.F ht⟩) hS.2.2 dX_narrow_104
      · have h_7 := bi_n h_7
        refine lv_iload hx hb dX_narrow_87 (lv_at hl 0 rfl) ?_
        refine lv_if_eq (tgt := 96) hx hb dX_narrow_89 (by decide) (fun h_8 => absurd h_8 (by decide)) (fun h_8 => ?_)
        refine lv_iconst (v := 1) hx hb dX_narrow_92 (by decide) ?_
        refine lv_goto (tgt := 97) hx hb dX_narrow_93 (by decide) ?_
        refine W.eq (g2 := F0 m 97 ls [.int (bi true), .int (ri), .ref (q 6)]) rfl ?_
        refine va_zast hx hb hK hP hD hS 6 1 rfl rfl hri dX_narrow_97 (fun H locs hP hD hS => ?_)
        have hP : va_P D vwCl (xW cI cZ q (upd A ri.toNatClampNeg (A si.toNatClampNeg)) (upd (upd B ri.toNatClampNeg (B si.toNatClampNeg)) ri.toNatClampNeg (A si.toNatClampNeg)) (upd (upd T ri.toNatClampNeg (T si.toNatClampNeg)) ri.toNatClampNeg ((A si.toNatClampNeg) + (v))) (upd P ri.toNatClampNeg (P si.toNatClampNeg)) (upd Y ri.toNatClampNeg (Y si.toNatClampNeg)) (ub (ub G ri.toNatClampNeg (G si.toNatClampNeg)) ri.toNatClampNeg (true))) H := by rw [ub_upd] at hP; exact hP
        have hD : va_D A9 (xW cI cZ q (upd A ri.toNatClampNeg (A si.toNatClampNeg)) (upd (upd B ri.toNatClampNeg (B si.toNatClampNeg)) ri.toNatClampNeg (A si.toNatClampNeg)) (upd (upd T ri.toNatClampNeg (T si.toNatClampNeg)) ri.toNatClampNeg ((A si.toNatClampNeg) + (v))) (upd P ri.toNatClampNeg (P si.toNatClampNeg)) (upd Y ri.toNatClampNeg (Y si.toNatClampNeg)) (ub (ub G ri.toNatClampNeg (G si.toNatClampNeg)) ri.toNatClampNeg (true))) := by rw [ub_upd] at hD; exact hD
        refine lv_aload_n hx hb dX_narrow_98 rfl (lv_at hl 1 rfl) ?_
        refine va_get (D := D) (ci := 0) (v := .ref (q 6)) (C := RX) (T := TX) (N := 6) hx hb hts inX hown hK hP 0 rfl rfl 5 (by decide) (hts _ w_34) (fun _ h9 => h9) rfl dX_narrow_99 ?_
        refine lv_iload_n hx hb dX_narrow_102 rfl (lv_at hl 2 rfl) ?_
        refine va_zald hx hb hK hP 6 1 rfl rfl hri dX_narrow_103 ?_
        refine W.eq (g2 := F0 m 104 ls [.int (bi (true))]) (by first | rfl | (rw [ub_s] <;> rfl)) ?_
        have e9_0 : (G si.toNatClampNeg && (decide (Y si.toNatClampNeg = 0) && ga_in (B si.toNatClampNeg) (T si.toNatClampNeg) (A si.toNatClampNeg) (un v))) = true := by (try simp only [decide_eq_true_eq, decide_eq_false_iff_not, Decidable.not_not] at h_1); (try simp only [decide_eq_true_eq, decide_eq_false_iff_not, Decidable.not_not] at h_4); (try simp only [decide_eq_true_eq, decide_eq_false_iff_not, Decidable.not_not] at h_7); simp [h_1, h_4, h_7]
        have hP : va_P D vwCl (xW cI cZ q (upd A ri.toNatClampNeg (A si.toNatClampNeg)) (upd B ri.toNatClampNeg (A si.toNatClampNeg)) (upd T ri.toNatClampNeg ((A si.toNatClampNeg) + (v))) (upd P ri.toNatClampNeg (P si.toNatClampNeg)) (upd Y ri.toNatClampNeg (Y si.toNatClampNeg)) (ub G ri.toNatClampNeg ((G si.toNatClampNeg && (decide (Y si.toNatClampNeg = 0) && ga_in (B si.toNatClampNeg) (T si.toNatClampNeg) (A si.toNatClampNeg) (un v)))))) H := by (try rw [e9_0]); first | exact hP | (simp only [uu_upd, uu_ub] at hP ⊢; exact hP)
        have hD : va_D A9 (xW cI cZ q (upd A ri.toNatClampNeg (A si.toNatClampNeg)) (upd B ri.toNatClampNeg (A si.toNatClampNeg)) (upd T ri.toNatClampNeg ((A si.toNatClampNeg) + (v))) (upd P ri.toNatClampNeg (P si.toNatClampNeg)) (upd Y ri.toNatClampNeg (Y si.toNatClampNeg)) (ub G ri.toNatClampNeg ((G si.toNatClampNeg && (decide (Y si.toNatClampNeg = 0) && ga_in (B si.toNatClampNeg) (T si.toNatClampNeg) (A si.toNatClampNeg) (un v)))))) := by (try rw [e9_0]); first | exact hD | (simp only [uu_upd, uu_ub] at hD ⊢; exact hD)
        refine W.eq (g2 := F0 m 104 ls [.int (bi (G si.toNatClampNeg && (decide (Y si.toNatClampNeg = 0) && ga_in (B si.toNatClampNeg) (T si.toNatClampNeg) (A si.toNatClampNeg) (un v))))]) (by first | rfl | (rw [e9_0] <;> rfl)) ?_
        exact W.zret (v := bi (G si.toNatClampNeg && (decide (Y si.toNatClampNeg = 0) && ga_in (B si.toNatClampNeg) (T si.toNatClampNeg) (A si.toNatClampNeg) (un v)))) hx hb hr (bi_nar _) (fun t9 ht hW => ⟨rfl, by rw [ht]; exact hP, hD, hS.F ht⟩) hS.2.2 dX_narrow_104

set_option maxRecDepth 100000 in
set_option maxHeartbeats 4000000 in
theorem mX_restrict (l : Launch) (D : va_G) (cI cZ : ClassId) (q : Nat → Nat) (A B T P Y : Nat → Int32) (G : Nat → Bool) (sz : Nat) (ri si v : Int32) (hri : vp_in ri 16) (hsi : vp_in si 16) : Met l yX_restrict (Cond.code yX_restrict cX_restrict 6 (some .boolean) :: gw) (rmk 1 0 0) (va_Pc [.ref (q 0), .int (ri), .int (si), .int (v)] (kB D vwCl (xW cI cZ q A B T P Y G) (tsX cI cZ) sz)) (kQ (some (.int (bi (G si.toNatClampNeg && (decide (Y si.toNatClampNeg = 0) || decide ((P si.toNatClampNeg) &&& (v) = P si.toNatClampNeg)))))) D vwCl (xW cI cZ q (upd A ri.toNatClampNeg (A si.toNatClampNeg)) (upd B ri.toNatClampNeg (B si.toNatClampNeg)) (upd T ri.toNatClampNeg (T si.toNatClampNeg)) (upd P ri.toNatClampNeg ((P si.toNatClampNeg) &&& (v))) (upd Y ri.toNatClampNeg (Y si.toNatClampNeg)) (ub G ri.toNatClampNeg ((G si.toNatClampNeg && (decide (Y si.toNatClampNeg = 0) || decide ((P si.toNatClampNeg) &&& (v) = P si.toNatClampNeg)))))) (va_A (xW cI cZ q A B T P Y G) sz)) 0 0 (va_A (xW cI cZ q A B T P Y G) sz) := by
  refine Met.ofW (cc := cX_restrict) (maxL := 6) (ret := (some .boolean)) (by decide) rfl ?_
  intro p e s m args below meth c s₁ B9 hml hv
  obtain ⟨rfl, hsz, hP, hK, hD0⟩ := hv
  have hx := B9.exec
  have hb := B9.bytes
  have hr := B9.returns
  have hts := fun (w : Cond) (h : w ∈ gw) => atoms_spec (ws := _ :: gw) B9.pre w (List.mem_cons_of_mem _ h)
  have hown : s.vm.findClass RX = some m.cls := findClass_of_methodNamed B9.named
  have hlocks := B9.notSynchronized
  have hl := lv_entry ([.ref (q 0), .int (ri), .int (si), .int (v)]) (n := 6) (Nat.le_of_ble_eq_true rfl)
  rw [lg_entry_eq]
  generalize (lg_sl ([.ref (q 0), .int (ri), .int (si), .int (v)]) ++ List.replicate (6 - (lg_sl ([.ref (q 0), .int (ri), .int (si), .int (v)])).length) Slot.unset).toArray = ls at hl ⊢
  have hl : lv_has ls 6 [(0, .ref (q 0)), (1, .int (ri)), (2, .int (si)), (3, .int (v))] := hl
  subst hsz
  have hD := hD0.self (sz := s.heap.size)
  generalize hAe : va_A (xW cI cZ q A B T P Y G) s.heap.size = A9 at hD ⊢
  have hA : ∀ z : Nat, s.heap.size ≤ z → A9 z := fun z h => by rw [← hAe]; exact Or.inr h
  have hS : va_S A9 s.heap s.heap [] := va_S.rf
  have hP : va_P D vwCl (xW cI cZ q A B T P Y G) s.heap := hP
  refine lv_iload_n hx hb dX_restrict_0 rfl (lv_at hl 1 rfl) ?_
  refine kr_Sv 1 (As := [.int (ri)]) (rest := []) hx hb hml hown hts hl.1 (mX_requireGrant l (ri) hri) tt_stb trivial (gw_S w_151 w_152 w_14 w_153) (by decide) ⟨rfl, rfl⟩ ⟨Nat.le_of_ble_eq_true rfl, Nat.le_of_ble_eq_true rfl⟩ rfl rfl (Nat.le_of_ble_eq_true rfl) dX_restrict_1 ⟨Nat.zero_le _, Nat.zero_le _⟩ ?_
  refine lv_iload_n hx hb dX_restrict_4 rfl (lv_at hl 2 rfl) ?_
  refine kr_Sv 1 (As := [.int (si)]) (rest := []) hx hb hml hown hts hl.1 (mX_requireGrant l (si) hsi) tt_stb trivial (gw_S w_151 w_152 w_14 w_153) (by decide) ⟨rfl, rfl⟩ ⟨Nat.le_of_ble_eq_true rfl, Nat.le_of_ble_eq_true rfl⟩ rfl rfl (Nat.le_of_ble_eq_true rfl) dX_restrict_5 ⟨Nat.zero_le _, Nat.zero_le _⟩ ?_
  refine lv_aload_n hx hb dX_restrict_8 rfl (lv_at hl 0 rfl) ?_
  refine va_get (D := D) (ci := 0) (v := .ref (q 4)) (C := RX) (T := TX) (N := 6) hx hb hts inX hown hK hP 0 rfl rfl 3 (by decide) (hts _ w_32) (fun _ h9 => h9) rfl dX_restrict_9 ?_
  refine lv_iload_n hx hb dX_restrict_12 rfl (lv_at hl 2 rfl) ?_
  refine va_iald hx hb hK hP 4 0 rfl rfl hsi dX_restrict_13 ?_
  refine lv_iload_n hx hb dX_restrict_14 rfl (lv_at hl 3 rfl) ?_
  refine lv_iand hx hb dX_restrict_15 ?_
  refine lv_istore hx hb dX_restrict_16 hl (by decide) rfl (fun ls hl => ?_)
  have hl : lv_has ls 6 [(4, .int ((P si.toNatClampNeg) &&& (v))), (0, .ref (q 0)), (1, .int (ri)), (2, .int (si)), (3, .int (v))] := hl
  refine lv_aload_n hx hb dX_restrict_18 rfl (lv_at hl 1 rfl) ?_
  refine lv_iload_n hx hb dX_restrict_19 rfl (lv_at hl 3 rfl) ?_
  refine kr_V 1 (b := q 0) (As := [.int (si)]) (rest := []) (r := .int (bi (decide (¬ Y si.toNatClampNeg = 0)))) hx hb hml hown hts hl.1 (mX_isSealed l D cI cZ q A B T P Y G (si) hsi) rB_stb ⟨hP, hK⟩ (gw_V w_58 w_60 w_1 w_14 w_61) (by decide) ⟨rfl, rfl⟩ ⟨Nat.le_of_ble_eq_true rfl, Nat.le_of_ble_eq_true rfl⟩ (va_recv hK hP (ci := 0) rfl (q0 := 0) rfl) rfl rfl (Nat.le_of_ble_eq_true rfl) dX_restrict_20 ⟨Nat.zero_le _, Nat.zero_le _⟩ ?_
  refine lv_if_eq (tgt := 37) hx hb dX_restrict_23 (by decide) (fun h_1 => ?_) (fun h_1 => ?_)
  · have h_1 := bi_0 h_1
    refine lv_iconst (v := 1) hx hb dX_restrict_37 (by decide) ?_
    refine lv_goto (tgt := 42) hx hb dX_restrict_38 (by decide) ?_
    refine lv_istore hx hb dX_restrict_42 hl (by decide) rfl (fun ls hl => ?_)
    have hl : lv_has ls 6 [(5, .int (1)), (4, .int ((P si.toNatClampNeg) &&& (v))), (0, .ref (q 0)), (1, .int (ri)), (2, .int (si)), (3, .int (v))] := hl
    refine lv_aload_n hx hb dX_restrict_44 rfl (lv_at hl 2 rfl) ?_
    refine lv_iload_n hx hb dX_restrict_45 rfl (lv_at hl 3 rfl) ?_
    refine lv_iload_n hx hb dX_restrict_46 rfl (lv_at hl 4 rfl) ?_
    refine kw_V 2 [0, 1, 2, 3, 4, 5, 6] [] (b := q 0) (As := [.int (ri), .int (si)]) (rest := []) (wc := xW cI cZ q A B T P Y G) (wr := []) (w1 := xW cI cZ q (upd A ri.toNatClampNeg (A si.toNatClampNeg)) (upd B ri.toNatClampNeg (B si.toNatClampNeg)) (upd T ri.toNatClampNeg (T si.toNatClampNeg)) (upd P ri.toNatClampNeg (P si.toNatClampNeg)) (upd Y ri.toNatClampNeg (Y si.toNatClampNeg)) (ub G ri.toNatClampNeg (G si.toNatClampNeg))) hx hb hml hown hts hl.1 hP hD hS hA hK (mX_copy l D cI cZ q A B T P Y G _ ri si hri hsi) (gw_V w_184 w_186 w_5 w_14 w_187) (by decide) ⟨rfl, rfl⟩ ⟨Nat.le_of_ble_eq_true rfl, Nat.le_of_ble_eq_true rfl⟩ (va_recv hK hP (ci := 0) rfl (q0 := 0) rfl) rfl rfl (Nat.le_of_ble_eq_true rfl) dX_restrict_47 ⟨Nat.zero_le _, Nat.zero_le _⟩ rfl rfl ⟨by decide, by decide⟩ (by decide) (fun H locs hP hD hS => ?_)
    have hP : va_P D vwCl (xW cI cZ q (upd A ri.toNatClampNeg (A si.toNatClampNeg)) (upd B ri.toNatClampNeg (B si.toNatClampNeg)) (upd T ri.toNatClampNeg (T si.toNatClampNeg)) (upd P ri.toNatClampNeg (P si.toNatClampNeg)) (upd Y ri.toNatClampNeg (Y si.toNatClampNeg)) (ub G ri.toNatClampNeg (G si.toNatClampNeg))) H := hP
    have hD : va_D A9 (xW cI cZ q (upd A ri.toNatClampNeg (A si.toNatClampNeg)) (upd B ri.toNatClampNeg (B si.toNatClampNeg)) (upd T ri.toNatClampNeg (T si.toNatClampNeg)) (upd P ri.toNatClampNeg (P si.toNatClampNeg)) (upd Y ri.toNatClampNeg (Y si.toNatClampNeg)) (ub G ri.toNatClampNeg (G si.toNatClampNeg))) := hD
    refine W.eq (g2 := F0 m 50 ls []) rfl ?_
    refine lv_aload_n hx hb dX_restrict_50 rfl (lv_at hl 2 rfl) ?_
    refine va_get (D := D) (ci := 0) (v := .ref (q 4)) (C := RX) (T := TX) (N := 6) hx hb hts inX hown hK hP 0 rfl rfl 3 (by decide) (hts _ w_32) (fun _ h9 => h9) rfl dX_restrict_51 ?_
    refine lv_iload_n hx hb dX_restrict_54 rfl (lv_at hl 3 rfl) ?_
    refine lv_iload hx hb dX_restrict_55 (lv_at hl 1 rfl) ?_
    refine va_iast hx hb hK hP hD hS 4 0 rfl rfl hri dX_restrict_57 (fun H locs hP hD hS => ?_)
    have hP : va_P D vwCl (xW cI cZ q (upd A ri.toNatClampNeg (A si.toNatClampNeg)) (upd B ri.toNatClampNeg (B si.toNatClampNeg)) (upd T ri.toNatClampNeg (T si.toNatClampNeg)) (upd (upd P ri.toNatClampNeg (P si.toNatClampNeg)) ri.toNatClampNeg ((P si.toNatClampNeg) &&& (v))) (upd Y ri.toNatClampNeg (Y si.toNatClampNeg)) (ub G ri.toNatClampNeg (G si.toNatClampNeg))) H := hP
    have hD : va_D A9 (xW cI cZ q (upd A ri.toNatClampNeg (A si.toNatClampNeg)) (upd B ri.toNatClampNeg (B si.toNatClampNeg)) (upd T ri.toNatClampNeg (T si.toNatClampNeg)) (upd (upd P ri.toNatClampNeg (P si.toNatClampNeg)) ri.toNatClampNeg ((P si.toNatClampNeg) &&& (v))) (upd Y ri.toNatClampNeg (Y si.toNatClampNeg)) (ub G ri.toNatClampNeg (G si.toNatClampNeg))) := hD
    refine lv_aload_n hx hb dX_restrict_58 rfl (lv_at hl 2 rfl) ?_
    refine va_get (D := D) (ci := 0) (v := .ref (q 6)) (C := RX) (T := TX) (N := 6) hx hb hts inX hown hK hP 0 rfl rfl 5 (by decide) (hts _ w_34) (fun _ h9 => h9) rfl dX_restrict_59 ?_
    refine lv_iload_n hx hb dX_restrict_62 rfl (lv_at hl 3 rfl) ?_
    refine lv_aload_n hx hb dX_restrict_63 rfl (lv_at hl 2 rfl) ?_
    refine va_get (D := D) (ci := 0) (v := .ref (q 6)) (C := RX) (T := TX) (N := 6) hx hb hts inX hown hK hP 0 rfl rfl 5 (by decide) (hts _ w_34) (fun _ h9 => h9) rfl dX_restrict_64 ?_
    refine lv_iload_n hx hb dX_restrict_67 rfl (lv_at hl 3 rfl) ?_
    refine va_zald hx hb hK hP 6 1 rfl rfl hri dX_restrict_68 ?_
    refine W.eq (g2 := F0 m 69 ls [.int (bi (G si.toNatClampNeg)), .int (ri), .ref (q 6)]) (by first | rfl | (rw [ub_s] <;> rfl)) ?_
    refine lv_if_eq (tgt := 81) hx hb dX_restrict_69 (by decide) (fun h_2 => ?_) (fun h_2 => ?_)
    · have h_2 := bi_0 h_2
      refine lv_iconst (v := 0) hx hb dX_restrict_81 (by decide) ?_
      refine W.eq (g2 := F0 m 82 ls [.int (bi false), .int (ri), .ref (q 6)]) rfl ?_
      refine va_zast hx hb hK hP hD hS 6 1 rfl rfl hri dX_restrict_82 (fun H locs hP hD hS => ?_)
      have hP : va_P D vwCl (xW cI cZ q (upd A ri.toNatClampNeg (A si.toNatClampNeg)) (upd B ri.toNatClampNeg (B si.toNatClampNeg)) (upd T ri.toNatClampNeg (T si.toNatClampNeg)) (upd (upd P ri.toNatClampNeg (P si.toNatClampNeg)) ri.toNatClampNeg ((P si.toNatClampNeg) &&& (v))) (upd Y ri.toNatClampNeg (Y si.toNatClampNeg)) (ub (ub G ri.toNatClampNeg (G si.toNatClampNeg)) ri.toNatClampNeg (false))) H := by rw [ub_upd] at hP; exact hP
      have hD : va_D A9 (xW cI cZ q (upd A ri.toNatClampNeg (A si.toNatClampNeg)) (upd B ri.toNatClampNeg (B si.toNatClampNeg)) (upd T ri.toNatClampNeg (T si.toNatClampNeg)) (upd (upd P ri.toNatClampNeg (P si.toNatClampNeg)) ri.toNatClampNeg ((P si.toNatClampNeg) &&& (v))) (upd Y ri.toNatClampNeg (Y si.toNatClampNeg)) (ub (ub G ri.toNatClampNeg (G si.toNatClampNeg)) ri.toNatClampNeg (false))) := by rw [ub_upd] at hD; exact hD
      refine lv_aload_n hx hb dX_restrict_83 rfl (lv_at hl 2 rfl) ?_
      refine va_get (D := D) (ci := 0) (v := .ref (q 6)) (C := RX) (T := TX) (N := 6) hx hb hts inX hown hK hP 0 rfl rfl 5 (by decide) (hts _ w_34) (fun _ h9 => h9) rfl dX_restrict_84 ?_
      refine lv_iload_n hx hb dX_restrict_87 rfl (lv_at hl 3 rfl) ?_
      refine va_zald hx hb hK hP 6 1 rfl rfl hri dX_restrict_88 ?_
      refine W.eq (g2 := F0 m 89 ls [.int (bi (false))]) (by first | rfl | (rw [ub_s] <;> rfl)) ?_
      have e9_0 : (G si.toNatClampNeg && (decide (Y si.toNatClampNeg = 0) || decide ((P si.toNatClampNeg) &&& (v) = P si.toNatClampNeg))) = false := by (try simp only [decide_eq_true_eq, decide_eq_false_iff_not, Decidable.not_not] at h_1); (try simp only [decide_eq_true_eq, decide_eq_false_iff_not, Decidable.not_not] at h_2); simp [h_1, h_2]
      have hP : va_P D vwCl (xW cI cZ q (upd A ri.toNatClampNeg (A si.toNatClampNeg)) (upd B ri.toNatClampNeg (B si.toNatClampNeg)) (upd T ri.toNatClampNeg (T si.toNatClampNeg)) (upd P ri.toNatClampNeg ((P si.toNatClampNeg) &&& (v))) (upd Y ri.toNatClampNeg (Y si.toNatClampNeg)) (ub G ri.toNatClampNeg ((G si.toNatClampNeg && (decide (Y si.toNatClampNeg = 0) || decide ((P si.toNatClampNeg) &&& (v) = P si.toNatClampNeg)))))) H := by (try rw [e9_0]); first | exact hP | (simp only [uu_upd, uu_ub] at hP ⊢; exact hP)
      have hD : va_D A9 (xW cI cZ q (upd A ri.toNatClampNeg (A si.toNatClampNeg)) (upd B ri.toNatClampNeg (B si.toNatClampNeg)) (upd T ri.toNatClampNeg (T si.toNatClampNeg)) (upd P ri.toNatClampNeg ((P si.toNatClampNeg) &&& (v))) (upd Y ri.toNatClampNeg (Y si.toNatClampNeg)) (ub G ri.toNatClampNeg ((G si.toNatClampNeg && (decide (Y si.toNatClampNeg = 0) || decide ((P si.toNatClampNeg) &&& (v) = P si.toNatClampNeg)))))) := by (try rw [e9_0]); first | exact hD | (simp only [uu_upd, uu_ub] at hD ⊢; exact hD)
      refine W.eq (g2 := F0 m 89 ls [.int (bi (G si.toNatClampNeg && (decide (Y si.toNatClampNeg = 0) || decide ((P si.toNatClampNeg) &&& (v) = P si.toNatClampNeg))))]) (by first | rfl | (rw [e9_0] <;> rfl)) ?_
      exact W.zret (v := bi (G si.toNatClampNeg && (decide (Y si.toNatClampNeg = 0) || decide ((P si.toNatClampNeg) &&& (v) = P si.toNatClampNeg)))) hx hb hr (bi_nar _) (fun t9 ht hW => ⟨rfl, by rw [ht]; exact hP, hD, hS.F ht⟩) hS.2.2 dX_restrict_89
    · have h_2 := bi_n h_2
      refine lv_iload hx hb dX_restrict_72 (lv_at hl 0 rfl) ?_
      refine lv_if_eq (tgt := 81) hx hb dX_restrict_74 (by decide) (fun h_3 => absurd h_3 (by decide)) (fun h_3 => ?_)
      refine lv_iconst (v := 1) hx hb dX_restrict_77 (by decide) ?_
      refine lv_goto (tgt := 82) hx hb dX_restrict_78 (by decide) ?_
      refine W.eq (g2 := F0 m 82 ls [.int (bi true), .int (ri), .ref (q 6)]) rfl ?_
      refine va_zast hx hb hK hP hD hS 6 1 rfl rfl hri dX_restrict_82 (fun H locs hP hD hS => ?_)
      have hP : va_P D vwCl (xW cI cZ q (upd A ri.toNatClampNeg (A si.toNatClampNeg)) (upd B ri.toNatClampNeg (B si.toNatClampNeg)) (upd T ri.toNatClampNeg (T si.toNatClampNeg)) (upd (upd P ri.toNatClampNeg (P si.toNatClampNeg)) ri.toNatClampNeg ((P si.toNatClampNeg) &&& (v))) (upd Y ri.toNatClampNeg (Y si.toNatClampNeg)) (ub (ub G ri.toNatClampNeg (G si.toNatClampNeg)) ri.toNatClampNeg (true))) H := by rw [ub_upd] at hP; exact hP
      have hD : va_D A9 (xW cI cZ q (upd A ri.toNatClampNeg (A si.toNatClampNeg)) (upd B ri.toNatClampNeg (B si.toNatClampNeg)) (upd T ri.toNatClampNeg (T si.toNatClampNeg)) (upd (upd P ri.toNatClampNeg (P si.toNatClampNeg)) ri.toNatClampNeg ((P si.toNatClampNeg) &&& (v))) (upd Y ri.toNatClampNeg (Y si.toNatClampNeg)) (ub (ub G ri.toNatClampNeg (G si.toNatClampNeg)) ri.toNatClampNeg (true))) := by rw [ub_upd] at hD; exact hD
      refine lv_aload_n hx hb dX_restrict_83 rfl (lv_at hl 2 rfl) ?_
      refine va_get (D := D) (ci := 0) (v := .ref (q 6)) (C := RX) (T := TX) (N := 6) hx hb hts inX hown hK hP 0 rfl rfl 5 (by decide) (hts _ w_34) (fun _ h9 => h9) rfl dX_restrict_84 ?_
      refine lv_iload_n hx hb dX_restrict_87 rfl (lv_at hl 3 rfl) ?_
      refine va_zald hx hb hK hP 6 1 rfl rfl hri dX_restrict_88 ?_
      refine W.eq (g2 := F0 m 89 ls [.int (bi (true))]) (by first | rfl | (rw [ub_s] <;> rfl)) ?_
      have e9_0 : (G si.toNatClampNeg && (decide (Y si.toNatClampNeg = 0) || decide ((P si.toNatClampNeg) &&& (v) = P si.toNatClampNeg))) = true := by (try simp only [decide_eq_true_eq, decide_eq_false_iff_not, Decidable.not_not] at h_1); (try simp only [decide_eq_true_eq, decide_eq_false_iff_not, Decidable.not_not] at h_2); simp [h_1, h_2]
      have hP : va_P D vwCl (xW cI cZ q (upd A ri.toNatClampNeg (A si.toNatClampNeg)) (upd B ri.toNatClampNeg (B si.toNatClampNeg)) (upd T ri.toNatClampNeg (T si.toNatClampNeg)) (upd P ri.toNatClampNeg ((P si.toNatClampNeg) &&& (v))) (upd Y ri.toNatClampNeg (Y si.toNatClampNeg)) (ub G ri.toNatClampNeg ((G si.toNatClampNeg && (decide (Y si.toNatClampNeg = 0) || decide ((P si.toNatClampNeg) &&& (v) = P si.toNatClampNeg)))))) H := by (try rw [e9_0]); first | exact hP | (simp only [uu_upd, uu_ub] at hP ⊢; exact hP)
      have hD : va_D A9 (xW cI cZ q (upd A ri.toNatClampNeg (A si.toNatClampNeg)) (upd B ri.toNatClampNeg (B si.toNatClampNeg)) (upd T ri.toNatClampNeg (T si.toNatClampNeg)) (upd P ri.toNatClampNeg ((P si.toNatClampNeg) &&& (v))) (upd Y ri.toNatClampNeg (Y si.toNatClampNeg)) (ub G ri.toNatClampNeg ((G si.toNatClampNeg && (decide (Y si.toNatClampNeg = 0) || decide ((P si.toNatClampNeg) &&& (v) = P si.toNatClampNeg)))))) := by (try rw [e9_0]); first | exact hD | (simp only [uu_upd, uu_ub] at hD ⊢; exact hD)
      refine W.eq (g2 := F0 m 89 ls [.int (bi (G si.toNatClampNeg && (decide (Y si.toNatClampNeg = 0) || decide ((P si.toNatClampNeg) &&& (v) = P si.toNatClampNeg))))]) (by first | rfl | (rw [e9_0] <;> rfl)) ?_
      exact W.zret (v := bi (G si.toNatClampNeg && (decide (Y si.toNatClampNeg = 0) || decide ((P si.toNatClampNeg) &&& (v) = P si.toNatClampNeg)))) hx hb hr (bi_nar _) (fun t9 ht hW => ⟨rfl, by rw [ht]; exact hP, hD, hS.F ht⟩) hS.2.2 dX_restrict_89
  · have h_1 := bi_n h_1
    refine lv_iload hx hb dX_restrict_26 (lv_at hl 0 rfl) ?_
    refine lv_aload_n hx hb dX_restrict_28 rfl (lv_at hl 1 rfl) ?_
    refine va_get (D := D) (ci := 0) (v := .ref (q 4)) (C := RX) (T := TX) (N := 6) hx hb hts inX hown hK hP 0 rfl rfl 3 (by decide) (hts _ w_32) (fun _ h9 => h9) rfl dX_restrict_29 ?_
    refine lv_iload_n hx hb dX_restrict_32 rfl (lv_at hl 3 rfl) ?_
    refine va_iald hx hb hK hP 4 0 rfl rfl hsi dX_restrict_33 ?_
    refine lv_icmp_ne (tgt := 41) hx hb dX_restrict_34 (by decide) (fun h_4 => ?_) (fun h_4 => ?_)
    · 
      refine lv_iconst (v := 0) hx hb dX_restrict_41 (by decide) ?_
      refine lv_istore hx hb dX_restrict_42 hl (by decide) rfl (fun ls hl => ?_)
      have hl : lv_has ls 6 [(5, .int (0)), (4, .int ((P si.toNatClampNeg) &&& (v))), (0, .ref (q 0)), (1, .int (ri)), (2, .int (si)), (3, .int (v))] := hl
      refine lv_aload_n hx hb dX_restrict_44 rfl (lv_at hl 2 rfl) ?_
      refine lv_iload_n hx hb dX_restrict_45 rfl (lv_at hl 3 rfl) ?_
      refine lv_iload_n hx hb dX_restrict_46 rfl (lv_at hl 4 rfl) ?_
      refine kw_V 2 [0, 1, 2, 3, 4, 5, 6] [] (b := q 0) (As := [.int (ri), .int (si)]) (rest := []) (wc := xW cI cZ q A B T P Y G) (wr := []) (w1 := xW cI cZ q (upd A ri.toNatClampNeg (A si.toNatClampNeg)) (upd B ri.toNatClampNeg (B si.toNatClampNeg)) (upd T ri.toNatClampNeg (T si.toNatClampNeg)) (upd P ri.toNatClampNeg (P si.toNatClampNeg)) (upd Y ri.toNatClampNeg (Y si.toNatClampNeg)) (ub G ri.toNatClampNeg (G si.toNatClampNeg))) hx hb hml hown hts hl.1 hP hD hS hA hK (mX_copy l D cI cZ q A B T P Y G _ ri si hri hsi) (gw_V w_184 w_186 w_5 w_14 w_187) (by decide) ⟨rfl, rfl⟩ ⟨Nat.le_of_ble_eq_true rfl, Nat.le_of_ble_eq_true rfl⟩ (va_recv hK hP (ci := 0) rfl (q0 := 0) rfl) rfl rfl (Nat.le_of_ble_eq_true rfl) dX_restrict_47 ⟨Nat.zero_le _, Nat.zero_le _⟩ rfl rfl ⟨by decide, by decide⟩ (by decide) (fun H locs hP hD hS => ?_)
      have hP : va_P D vwCl (xW cI cZ q (upd A ri.toNatClampNeg (A si.toNatClampNeg)) (upd B ri.toNatClampNeg (B si.toNatClampNeg)) (upd T ri.toNatClampNeg (T si.toNatClampNeg)) (upd P ri.toNatClampNeg (P si.toNatClampNeg)) (upd Y ri.toNatClampNeg (Y si.toNatClampNeg)) (ub G ri.toNatClampNeg (G si.toNatClampNeg))) H := hP
      have hD : va_D A9 (xW cI cZ q (upd A ri.toNatClampNeg (A si.toNatClampNeg)) (upd B ri.toNatClampNeg (B si.toNatClampNeg)) (upd T ri.toNatClampNeg (T si.toNatClampNeg)) (upd P ri.toNatClampNeg (P si.toNatClampNeg)) (upd Y ri.toNatClampNeg (Y si.toNatClampNeg)) (ub G ri.toNatClampNeg (G si.toNatClampNeg))) := hD
      refine W.eq (g2 := F0 m 50 ls []) rfl ?_
      refine lv_aload_n hx hb dX_restrict_50 rfl (lv_at hl 2 rfl) ?_
      refine va_get (D := D) (ci := 0) (v := .ref (q 4)) (C := RX) (T := TX) (N := 6) hx hb hts inX hown hK hP 0 rfl rfl 3 (by decide) (hts _ w_32) (fun _ h9 => h9) rfl dX_restrict_51 ?_
      refine lv_iload_n hx hb dX_restrict_54 rfl (lv_at hl 3 rfl) ?_
      refine lv_iload hx hb dX_restrict_55 (lv_at hl 1 rfl) ?_
      refine va_iast hx hb hK hP hD hS 4 0 rfl rfl hri dX_restrict_57 (fun H locs hP hD hS => ?_)
      have hP : va_P D vwCl (xW cI cZ q (upd A ri.toNatClampNeg (A si.toNatClampNeg)) (upd B ri.toNatClampNeg (B si.toNatClampNeg)) (upd T ri.toNatClampNeg (T si.toNatClampNeg)) (upd (upd P ri.toNatClampNeg (P si.toNatClampNeg)) ri.toNatClampNeg ((P si.toNatClampNeg) &&& (v))) (upd Y ri.toNatClampNeg (Y si.toNatClampNeg)) (ub G ri.toNatClampNeg (G si.toNatClampNeg))) H := hP
      have hD : va_D A9 (xW cI cZ q (upd A ri.toNatClampNeg (A si.toNatClampNeg)) (upd B ri.toNatClampNeg (B si.toNatClampNeg)) (upd T ri.toNatClampNeg (T si.toNatClampNeg)) (upd (upd P ri.toNatClampNeg (P si.toNatClampNeg)) ri.toNatClampNeg ((P si.toNatClampNeg) &&& (v))) (upd Y ri.toNatClampNeg (Y si.toNatClampNeg)) (ub G ri.toNatClampNeg (G si.toNatClampNeg))) := hD
      refine lv_aload_n hx hb dX_restrict_58 rfl (lv_at hl 2 rfl) ?_
      refine va_get (D := D) (ci := 0) (v := .ref (q 6)) (C := RX) (T := TX) (N := 6) hx hb hts inX hown hK hP 0 rfl rfl 5 (by decide) (hts _ w_34) (fun _ h9 => h9) rfl dX_restrict_59 ?_
      refine lv_iload_n hx hb dX_restrict_62 rfl (lv_at hl 3 rfl) ?_
      refine lv_aload_n hx hb dX_restrict_63 rfl (lv_at hl 2 rfl) ?_
      refine va_get (D := D) (ci := 0) (v := .ref (q 6)) (C := RX) (T := TX) (N := 6) hx hb hts inX hown hK hP 0 rfl rfl 5 (by decide) (hts _ w_34) (fun _ h9 => h9) rfl dX_restrict_64 ?_
      refine lv_iload_n hx hb dX_restrict_67 rfl (lv_at hl 3 rfl) ?_
      refine va_zald hx hb hK hP 6 1 rfl rfl hri dX_restrict_68 ?_
      refine W.eq (g2 := F0 m 69 ls [.int (bi (G si.toNatClampNeg)), .int (ri), .ref (q 6)]) (by first | rfl | (rw [ub_s] <;> rfl)) ?_
      refine lv_if_eq (tgt := 81) hx hb dX_restrict_69 (by decide) (fun h_5 => ?_) (fun h_5 => ?_)
      · have h_5 := bi_0 h_5
        refine lv_iconst (v := 0) hx hb dX_restrict_81 (by decide) ?_
        refine W.eq (g2 := F0 m 82 ls [.int (bi false), .int (ri), .ref (q 6)]) rfl ?_
        refine va_zast hx hb hK hP hD hS 6 1 rfl rfl hri dX_restrict_82 (fun H locs hP hD hS => ?_)
        have hP : va_P D vwCl (xW cI cZ q (upd A ri.toNatClampNeg (A si.toNatClampNeg)) (upd B ri.toNatClampNeg (B si.toNatClampNeg)) (upd T ri.toNatClampNeg (T si.toNatClampNeg)) (upd (upd P ri.toNatClampNeg (P si.toNatClampNeg)) ri.toNatClampNeg ((P si.toNatClampNeg) &&& (v))) (upd Y ri.toNatClampNeg (Y si.toNatClampNeg)) (ub (ub G ri.toNatClampNeg (G si.toNatClampNeg)) ri.toNatClampNeg (false))) H := by rw [ub_upd] at hP; exact hP
        have hD : va_D A9 (xW cI cZ q (upd A ri.toNatClampNeg (A si.toNatClampNeg)) (upd B ri.toNatClampNeg (B si.toNatClampNeg)) (upd T ri.toNatClampNeg (T si.toNatClampNeg)) (upd (upd P ri.toNatClampNeg (P si.toNatClampNeg)) ri.toNatClampNeg ((P si.toNatClampNeg) &&& (v))) (upd Y ri.toNatClampNeg (Y si.toNatClampNeg)) (ub (ub G ri.toNatClampNeg (G si.toNatClampNeg)) ri.toNatClampNeg (false))) := by rw [ub_upd] at hD; exact hD
        refine lv_aload_n hx hb dX_restrict_83 rfl (lv_at hl 2 rfl) ?_
        refine va_get (D := D) (ci := 0) (v := .ref (q 6)) (C := RX) (T := TX) (N := 6) hx hb hts inX hown hK hP 0 rfl rfl 5 (by decide) (hts _ w_34) (fun _ h9 => h9) rfl dX_restrict_84 ?_
        refine lv_iload_n hx hb dX_restrict_87 rfl (lv_at hl 3 rfl) ?_
        refine va_zald hx hb hK hP 6 1 rfl rfl hri dX_restrict_88 ?_
        refine W.eq (g2 := F0 m 89 ls [.int (bi (false))]) (by first | rfl | (rw [ub_s] <;> rfl)) ?_
        have e9_0 : (G si.toNatClampNeg && (decide (Y si.toNatClampNeg = 0) || decide ((P si.toNatClampNeg) &&& (v) = P si.toNatClampNeg))) = false := by (try simp only [decide_eq_true_eq, decide_eq_false_iff_not, Decidable.not_not] at h_1); (try simp only [decide_eq_true_eq, decide_eq_false_iff_not, Decidable.not_not] at h_4); (try simp only [decide_eq_true_eq, decide_eq_false_iff_not, Decidable.not_not] at h_5); simp [h_1, h_4, h_5]
        have hP : va_P D vwCl (xW cI cZ q (upd A ri.toNatClampNeg (A si.toNatClampNeg)) (upd B ri.toNatClampNeg (B si.toNatClampNeg)) (upd T ri.toNatClampNeg (T si.toNatClampNeg)) (upd P ri.toNatClampNeg ((P si.toNatClampNeg) &&& (v))) (upd Y ri.toNatClampNeg (Y si.toNatClampNeg)) (ub G ri.toNatClampNeg ((G si.toNatClampNeg && (decide (Y si.toNatClampNeg = 0) || decide ((P si.toNatClampNeg) &&& (v) = P si.toNatClampNeg)))))) H := by (try rw [e9_0]); first | exact hP | (simp only [uu_upd, uu_ub] at hP ⊢; exact hP)
        have hD : va_D A9 (xW cI cZ q (upd A ri.toNatClampNeg (A si.toNatClampNeg)) (upd B ri.toNatClampNeg (B si.toNatClampNeg)) (upd T ri.toNatClampNeg (T si.toNatClampNeg)) (upd P ri.toNatClampNeg ((P si.toNatClampNeg) &&& (v))) (upd Y ri.toNatClampNeg (Y si.toNatClampNeg)) (ub G ri.toNatClampNeg ((G si.toNatClampNeg && (decide (Y si.toNatClampNeg = 0) || decide ((P si.toNatClampNeg) &&& (v) = P si.toNatClampNeg)))))) := by (try rw [e9_0]); first | exact hD | (simp only [uu_upd, uu_ub] at hD ⊢; exact hD)
        refine W.eq (g2 := F0 m 89 ls [.int (bi (G si.toNatClampNeg && (decide (Y si.toNatClampNeg = 0) || decide ((P si.toNatClampNeg) &&& (v) = P si.toNatClampNeg))))]) (by first | rfl | (rw [e9_0] <;> rfl)) ?_
        exact W.zret (v := bi (G si.toNatClampNeg && (decide (Y si.toNatClampNeg = 0) || decide ((P si.toNatClampNeg) &&& (v) = P si.toNatClampNeg)))) hx hb hr (bi_nar _) (fun t9 ht hW => ⟨rfl, by rw [ht]; exact hP, hD, hS.F ht⟩) hS.2.2 dX_restrict_89
      · have h_5 := bi_n h_5
        refine lv_iload hx hb dX_restrict_72 (lv_at hl 0 rfl) ?_
        refine lv_if_eq (tgt := 81) hx hb dX_restrict_74 (by decide) (fun h_6 => ?_) (fun h_6 => absurd (by decide) h_6)
        refine lv_iconst (v := 0) hx hb dX_restrict_81 (by decide) ?_
        refine W.eq (g2 := F0 m 82 ls [.int (bi false), .int (ri), .ref (q 6)]) rfl ?_
        refine va_zast hx hb hK hP hD hS 6 1 rfl rfl hri dX_restrict_82 (fun H locs hP hD hS => ?_)
        have hP : va_P D vwCl (xW cI cZ q (upd A ri.toNatClampNeg (A si.toNatClampNeg)) (upd B ri.toNatClampNeg (B si.toNatClampNeg)) (upd T ri.toNatClampNeg (T si.toNatClampNeg)) (upd (upd P ri.toNatClampNeg (P si.toNatClampNeg)) ri.toNatClampNeg ((P si.toNatClampNeg) &&& (v))) (upd Y ri.toNatClampNeg (Y si.toNatClampNeg)) (ub (ub G ri.toNatClampNeg (G si.toNatClampNeg)) ri.toNatClampNeg (false))) H := by rw [ub_upd] at hP; exact hP
        have hD : va_D A9 (xW cI cZ q (upd A ri.toNatClampNeg (A si.toNatClampNeg)) (upd B ri.toNatClampNeg (B si.toNatClampNeg)) (upd T ri.toNatClampNeg (T si.toNatClampNeg)) (upd (upd P ri.toNatClampNeg (P si.toNatClampNeg)) ri.toNatClampNeg ((P si.toNatClampNeg) &&& (v))) (upd Y ri.toNatClampNeg (Y si.toNatClampNeg)) (ub (ub G ri.toNatClampNeg (G si.toNatClampNeg)) ri.toNatClampNeg (false))) := by rw [ub_upd] at hD; exact hD
        refine lv_aload_n hx hb dX_restrict_83 rfl (lv_at hl 2 rfl) ?_
        refine va_get (D := D) (ci := 0) (v := .ref (q 6)) (C := RX) (T := TX) (N := 6) hx hb hts inX hown hK hP 0 rfl rfl 5 (by decide) (hts _ w_34) (fun _ h9 => h9) rfl dX_restrict_84 ?_
        refine lv_iload_n hx hb dX_restrict_87 rfl (lv_at hl 3 rfl) ?_
        refine va_zald hx hb hK hP 6 1 rfl rfl hri dX_restrict_88 ?_
        refine W.eq (g2 := F0 m 89 ls [.int (bi (false))]) (by first | rfl | (rw [ub_s] <;> rfl)) ?_
        have e9_0 : (G si.toNatClampNeg && (decide (Y si.toNatClampNeg = 0) || decide ((P si.toNatClampNeg) &&& (v) = P si.toNatClampNeg))) = false := by (try simp only [decide_eq_true_eq, decide_eq_false_iff_not, Decidable.not_not] at h_1); (try simp only [decide_eq_true_eq, decide_eq_false_iff_not, Decidable.not_not] at h_4); (try simp only [decide_eq_true_eq, decide_eq_false_iff_not, Decidable.not_not] at h_5); simp [h_1, h_4, h_5]
        have hP : va_P D vwCl (xW cI cZ q (upd A ri.toNatClampNeg (A si.toNatClampNeg)) (upd B ri.toNatClampNeg (B si.toNatClampNeg)) (upd T ri.toNatClampNeg (T si.toNatClampNeg)) (upd P ri.toNatClampNeg ((P si.toNatClampNeg) &&& (v))) (upd Y ri.toNatClampNeg (Y si.toNatClampNeg)) (ub G ri.toNatClampNeg ((G si.toNatClampNeg && (decide (Y si.toNatClampNeg = 0) || decide ((P si.toNatClampNeg) &&& (v) = P si.toNatClampNeg)))))) H := by (try rw [e9_0]); first | exact hP | (simp only [uu_upd, uu_ub] at hP ⊢; exact hP)
        have hD : va_D A9 (xW cI cZ q (upd A ri.toNatClampNeg (A si.toNatClampNeg)) (upd B ri.toNatClampNeg (B si.toNatClampNeg)) (upd T ri.toNatClampNeg (T si.toNatClampNeg)) (upd P ri.toNatClampNeg ((P si.toNatClampNeg) &&& (v))) (upd Y ri.toNatClampNeg (Y si.toNatClampNeg)) (ub G ri.toNatClampNeg ((G si.toNatClampNeg && (decide (Y si.toNatClampNeg = 0) || decide ((P si.toNatClampNeg) &&& (v) = P si.toNatClampNeg)))))) := by (try rw [e9_0]); first | exact hD | (simp only [uu_upd, uu_ub] at hD ⊢; exact hD)
        refine W.eq (g2 := F0 m 89 ls [.int (bi (G si.toNatClampNeg && (decide (Y si.toNatClampNeg = 0) || decide ((P si.toNatClampNeg) &&& (v) = P si.toNatClampNeg))))]) (by first | rfl | (rw [e9_0] <;> rfl)) ?_
        exact W.zret (v := bi (G si.toNatClampNeg && (decide (Y si.toNatClampNeg = 0) || decide ((P si.toNatClampNeg) &&& (v) = P si.toNatClampNeg)))) hx hb hr (bi_nar _) (fun t9 ht hW => ⟨rfl, by rw [ht]; exact hP, hD, hS.F ht⟩) hS.2.2 dX_restrict_89
    · 
      refine lv_iconst (v := 1) hx hb dX_restrict_37 (by decide) ?_
      refine lv_goto (tgt := 42) hx hb dX_restrict_38 (by decide) ?_
      refine lv_istore hx hb dX_restrict_42 hl (by decide) rfl (fun ls hl => ?_)
      have hl : lv_has ls 6 [(5, .int (1)), (4, .int ((P si.toNatClampNeg) &&& (v))), (0, .ref (q 0)), (1, .int (ri)), (2, .int (si)), (3, .int (v))] := hl
      refine lv_aload_n hx hb dX_restrict_44 rfl (lv_at hl 2 rfl) ?_
      refine lv_iload_n hx hb dX_restrict_45 rfl (lv_at hl 3 rfl) ?_
      refine lv_iload_n hx hb dX_restrict_46 rfl (lv_at hl 4 rfl) ?_
      refine kw_V 2 [0, 1, 2, 3, 4, 5, 6] [] (b := q 0) (As := [.int (ri), .int (si)]) (rest := []) (wc := xW cI cZ q A B T P Y G) (wr := []) (w1 := xW cI cZ q (upd A ri.toNatClampNeg (A si.toNatClampNeg)) (upd B ri.toNatClampNeg (B si.toNatClampNeg)) (upd T ri.toNatClampNeg (T si.toNatClampNeg)) (upd P ri.toNatClampNeg (P si.toNatClampNeg)) (upd Y ri.toNatClampNeg (Y si.toNatClampNeg)) (ub G ri.toNatClampNeg (G si.toNatClampNeg))) hx hb hml hown hts hl.1 hP hD hS hA hK (mX_copy l D cI cZ q A B T P Y G _ ri si hri hsi) (gw_V w_184 w_186 w_5 w_14 w_187) (by decide) ⟨rfl, rfl⟩ ⟨Nat.le_of_ble_eq_true rfl, Nat.le_of_ble_eq_true rfl⟩ (va_recv hK hP (ci := 0) rfl (q0 := 0) rfl) rfl rfl (Nat.le_of_ble_eq_true rfl) dX_restrict_47 ⟨Nat.zero_le _, Nat.zero_le _⟩ rfl rfl ⟨by decide, by decide⟩ (by decide) (fun H locs hP hD hS => ?_)
      have hP : va_P D vwCl (xW cI cZ q (upd A ri.toNatClampNeg (A si.toNatClampNeg)) (upd B ri.toNatClampNeg (B si.toNatClampNeg)) (upd T ri.toNatClampNeg (T si.toNatClampNeg)) (upd P ri.toNatClampNeg (P si.toNatClampNeg)) (upd Y ri.toNatClampNeg (Y si.toNatClampNeg)) (ub G ri.toNatClampNeg (G si.toNatClampNeg))) H := hP
      have hD : va_D A9 (xW cI cZ q (upd A ri.toNatClampNeg (A si.toNatClampNeg)) (upd B ri.toNatClampNeg (B si.toNatClampNeg)) (upd T ri.toNatClampNeg (T si.toNatClampNeg)) (upd P ri.toNatClampNeg (P si.toNatClampNeg)) (upd Y ri.toNatClampNeg (Y si.toNatClampNeg)) (ub G ri.toNatClampNeg (G si.toNatClampNeg))) := hD
      refine W.eq (g2 := F0 m 50 ls []) rfl ?_
      refine lv_aload_n hx hb dX_restrict_50 rfl (lv_at hl 2 rfl) ?_
      refine va_get (D := D) (ci := 0) (v := .ref (q 4)) (C := RX) (T := TX) (N := 6) hx hb hts inX hown hK hP 0 rfl rfl 3 (by decide) (hts _ w_32) (fun _ h9 => h9) rfl dX_restrict_51 ?_
      refine lv_iload_n hx hb dX_restrict_54 rfl (lv_at hl 3 rfl) ?_
      refine lv_iload hx hb dX_restrict_55 (lv_at hl 1 rfl) ?_
      refine va_iast hx hb hK hP hD hS 4 0 rfl rfl hri dX_restrict_57 (fun H locs hP hD hS => ?_)
      have hP : va_P D vwCl (xW cI cZ q (upd A ri.toNatClampNeg (A si.toNatClampNeg)) (upd B ri.toNatClampNeg (B si.toNatClampNeg)) (upd T ri.toNatClampNeg (T si.toNatClampNeg)) (upd (upd P ri.toNatClampNeg (P si.toNatClampNeg)) ri.toNatClampNeg ((P si.toNatClampNeg) &&& (v))) (upd Y ri.toNatClampNeg (Y si.toNatClampNeg)) (ub G ri.toNatClampNeg (G si.toNatClampNeg))) H := hP
      have hD : va_D A9 (xW cI cZ q (upd A ri.toNatClampNeg (A si.toNatClampNeg)) (upd B ri.toNatClampNeg (B si.toNatClampNeg)) (upd T ri.toNatClampNeg (T si.toNatClampNeg)) (upd (upd P ri.toNatClampNeg (P si.toNatClampNeg)) ri.toNatClampNeg ((P si.toNatClampNeg) &&& (v))) (upd Y ri.toNatClampNeg (Y si.toNatClampNeg)) (ub G ri.toNatClampNeg (G si.toNatClampNeg))) := hD
      refine lv_aload_n hx hb dX_restrict_58 rfl (lv_at hl 2 rfl) ?_
      refine va_get (D := D) (ci := 0) (v := .ref (q 6)) (C := RX) (T := TX) (N := 6) hx hb hts inX hown hK hP 0 rfl rfl 5 (by decide) (hts _ w_34) (fun _ h9 => h9) rfl dX_restrict_59 ?_
      refine lv_iload_n hx hb dX_restrict_62 rfl (lv_at hl 3 rfl) ?_
      refine lv_aload_n hx hb dX_restrict_63 rfl (lv_at hl 2 rfl) ?_
      refine va_get (D := D) (ci := 0) (v := .ref (q 6)) (C := RX) (T := TX) (N := 6) hx hb hts inX hown hK hP 0 rfl rfl 5 (by decide) (hts _ w_34) (fun _ h9 => h9) rfl dX_restrict_64 ?_
      refine lv_iload_n hx hb dX_restrict_67 rfl (lv_at hl 3 rfl) ?_
      refine va_zald hx hb hK hP 6 1 rfl rfl hri dX_restrict_68 ?_
      refine W.eq (g2 := F0 m 69 ls [.int (bi (G si.toNatClampNeg)), .int (ri), .ref (q 6)]) (by first | rfl | (rw [ub_s] <;> rfl)) ?_
      refine lv_if_eq (tgt := 81) hx hb dX_restrict_69 (by decide) (fun h_7 => ?_) (fun h_7 => ?_)
      · have h_7 := bi_0 h_7
        refine lv_iconst (v := 0) hx hb dX_restrict_81 (by decide) ?_
        refine W.eq (g2 := F0 m 82 ls [.int (bi false), .int (ri), .ref (q 6)]) rfl ?_
        refine va_zast hx hb hK hP hD hS 6 1 rfl rfl hri dX_restrict_82 (fun H locs hP hD hS => ?_)
        have hP : va_P D vwCl (xW cI cZ q (upd A ri.toNatClampNeg (A si.toNatClampNeg)) (upd B ri.toNatClampNeg (B si.toNatClampNeg)) (upd T ri.toNatClampNeg (T si.toNatClampNeg)) (upd (upd P ri.toNatClampNeg (P si.toNatClampNeg)) ri.toNatClampNeg ((P si.toNatClampNeg) &&& (v))) (upd Y ri.toNatClampNeg (Y si.toNatClampNeg)) (ub (ub G ri.toNatClampNeg (G si.toNatClampNeg)) ri.toNatClampNeg (false))) H := by rw [ub_upd] at hP; exact hP
        have hD : va_D A9 (xW cI cZ q (upd A ri.toNatClampNeg (A si.toNatClampNeg)) (upd B ri.toNatClampNeg (B si.toNatClampNeg)) (upd T ri.toNatClampNeg (T si.toNatClampNeg)) (upd (upd P ri.toNatClampNeg (P si.toNatClampNeg)) ri.toNatClampNeg ((P si.toNatClampNeg) &&& (v))) (upd Y ri.toNatClampNeg (Y si.toNatClampNeg)) (ub (ub G ri.toNatClampNeg (G si.toNatClampNeg)) ri.toNatClampNeg (false))) := by rw [ub_upd] at hD; exact hD
        refine lv_aload_n hx hb dX_restrict_83 rfl (lv_at hl 2 rfl) ?_
        refine va_get (D := D) (ci := 0) (v := .ref (q 6)) (C := RX) (T := TX) (N := 6) hx hb hts inX hown hK hP 0 rfl rfl 5 (by decide) (hts _ w_34) (fun _ h9 => h9) rfl dX_restrict_84 ?_
        refine lv_iload_n hx hb dX_restrict_87 rfl (lv_at hl 3 rfl) ?_
        refine va_zald hx hb hK hP 6 1 rfl rfl hri dX_restrict_88 ?_
        refine W.eq (g2 := F0 m 89 ls [.int (bi (false))]) (by first | rfl | (rw [ub_s] <;> rfl)) ?_
        have e9_0 : (G si.toNatClampNeg && (decide (Y si.toNatClampNeg = 0) || decide ((P si.toNatClampNeg) &&& (v) = P si.toNatClampNeg))) = false := by (try simp only [decide_eq_true_eq, decide_eq_false_iff_not, Decidable.not_not] at h_1); (try simp only [decide_eq_true_eq, decide_eq_false_iff_not, Decidable.not_not] at h_4); (try simp only [decide_eq_true_eq, decide_eq_false_iff_not, Decidable.not_not] at h_7); simp [h_1, h_4, h_7]
        have hP : va_P D vwCl (xW cI cZ q (upd A ri.toNatClampNeg (A si.toNatClampNeg)) (upd B ri.toNatClampNeg (B si.toNatClampNeg)) (upd T ri.toNatClampNeg (T si.toNatClampNeg)) (upd P ri.toNatClampNeg ((P si.toNatClampNeg) &&& (v))) (upd Y ri.toNatClampNeg (Y si.toNatClampNeg)) (ub G ri.toNatClampNeg ((G si.toNatClampNeg && (decide (Y si.toNatClampNeg = 0) || decide ((P si.toNatClampNeg) &&& (v) = P si.toNatClampNeg)))))) H := by (try rw [e9_0]); first | exact hP | (simp only [uu_upd, uu_ub] at hP ⊢; exact hP)
        have hD : va_D A9 (xW cI cZ q (upd A ri.toNatClampNeg (A si.toNatClampNeg)) (upd B ri.toNatClampNeg (B si.toNatClampNeg)) (upd T ri.toNatClampNeg (T si.toNatClampNeg)) (upd P ri.toNatClampNeg ((P si.toNatClampNeg) &&& (v))) (upd Y ri.toNatClampNeg (Y si.toNatClampNeg)) (ub G ri.toNatClampNeg ((G si.toNatClampNeg && (decide (Y si.toNatClampNeg = 0) || decide ((P si.toNatClampNeg) &&& (v) = P si.toNatClampNeg)))))) := by (try rw [e9_0]); first | exact hD | (simp only [uu_upd, uu_ub] at hD ⊢; exact hD)
        refine W.eq (g2 := F0 m 89 ls [.int (bi (G si.toNatClampNeg && (decide (Y si.toNatClampNeg = 0) || decide ((P si.toNatClampNeg) &&& (v) = P si.toNatClampNeg))))]) (by first | rfl | (rw [e9_0] <;> rfl)) ?_
        exact W.zret (v := bi (G si.toNatClampNeg && (decide (Y si.toNatClampNeg = 0) || decide ((P si.toNatClampNeg) &&& (v) = P si.toNatClampNeg)))) hx hb hr (bi_nar _) (fun t9 ht hW => ⟨rfl, by rw [ht]; exact hP, hD, hS.F ht⟩) hS.2.2 dX_restrict_89
      · have h_7 := bi_n h_7
        refine lv_iload hx hb dX_restrict_72 (lv_at hl 0 rfl) ?_
        refine lv_if_eq (tgt := 81) hx hb dX_restrict_74 (by decide) (fun h_8 => absurd h_8 (by decide)) (fun h_8 => ?_)
        refine lv_iconst (v := 1) hx hb dX_restrict_77 (by decide) ?_
        refine lv_goto (tgt := 82) hx hb dX_restrict_78 (by decide) ?_
        refine W.eq (g2 := F0 m 82 ls [.int (bi true), .int (ri), .ref (q 6)]) rfl ?_
        refine va_zast hx hb hK hP hD hS 6 1 rfl rfl hri dX_restrict_82 (fun H locs hP hD hS => ?_)
        have hP : va_P D vwCl (xW cI cZ q (upd A ri.toNatClampNeg (A si.toNatClampNeg)) (upd B ri.toNatClampNeg (B si.toNatClampNeg)) (upd T ri.toNatClampNeg (T si.toNatClampNeg)) (upd (upd P ri.toNatClampNeg (P si.toNatClampNeg)) ri.toNatClampNeg ((P si.toNatClampNeg) &&& (v))) (upd Y ri.toNatClampNeg (Y si.toNatClampNeg)) (ub (ub G ri.toNatClampNeg (G si.toNatClampNeg)) ri.toNatClampNeg (true))) H := by rw [ub_upd] at hP; exact hP
        have hD : va_D A9 (xW cI cZ q (upd A ri.toNatClampNeg (A si.toNatClampNeg)) (upd B ri.toNatClampNeg (B si.toNatClampNeg)) (upd T ri.toNatClampNeg (T si.toNatClampNeg)) (upd (upd P ri.toNatClampNeg (P si.toNatClampNeg)) ri.toNatClampNeg ((P si.toNatClampNeg) &&& (v))) (upd Y ri.toNatClampNeg (Y si.toNatClampNeg)) (ub (ub G ri.toNatClampNeg (G si.toNatClampNeg)) ri.toNatClampNeg (true))) := by rw [ub_upd] at hD; exact hD
        refine lv_aload_n hx hb dX_restrict_83 rfl (lv_at hl 2 rfl) ?_
        refine va_get (D := D) (ci := 0) (v := .ref (q 6)) (C := RX) (T := TX) (N := 6) hx hb hts inX hown hK hP 0 rfl rfl 5 (by decide) (hts _ w_34) (fun _ h9 => h9) rfl dX_restrict_84 ?_
        refine lv_iload_n hx hb dX_restrict_87 rfl (lv_at hl 3 rfl) ?_
        refine va_zald hx hb hK hP 6 1 rfl rfl hri dX_restrict_88 ?_
        refine W.eq (g2 := F0 m 89 ls [.int (bi (true))]) (by first | rfl | (rw [ub_s] <;> rfl)) ?_
        have e9_0 : (G si.toNatClampNeg && (decide (Y si.toNatClampNeg = 0) || decide ((P si.toNatClampNeg) &&& (v) = P si.toNatClampNeg))) = true := by (try simp only [decide_eq_true_eq, decide_eq_false_iff_not, Decidable.not_not] at h_1); (try simp only [decide_eq_true_eq, decide_eq_false_iff_not, Decidable.not_not] at h_4); (try simp only [decide_eq_true_eq, decide_eq_false_iff_not, Decidable.not_not] at h_7); simp [h_1, h_4, h_7]
        have hP : va_P D vwCl (xW cI cZ q (upd A ri.toNatClampNeg (A si.toNatClampNeg)) (upd B ri.toNatClampNeg (B si.toNatClampNeg)) (upd T ri.toNatClampNeg (T si.toNatClampNeg)) (upd P ri.toNatClampNeg ((P si.toNatClampNeg) &&& (v))) (upd Y ri.toNatClampNeg (Y si.toNatClampNeg)) (ub G ri.toNatClampNeg ((G si.toNatClampNeg && (decide (Y si.toNatClampNeg = 0) || decide ((P si.toNatClampNeg) &&& (v) = P si.toNatClampNeg)))))) H := by (try rw [e9_0]); first | exact hP | (simp only [uu_upd, uu_ub] at hP ⊢; exact hP)
        have hD : va_D A9 (xW cI cZ q (upd A ri.toNatClampNeg (A si.toNatClampNeg)) (upd B ri.toNatClampNeg (B si.toNatClampNeg)) (upd T ri.toNatClampNeg (T si.toNatClampNeg)) (upd P ri.toNatClampNeg ((P si.toNatClampNeg) &&& (v))) (upd Y ri.toNatClampNeg (Y si.toNatClampNeg)) (ub G ri.toNatClampNeg ((G si.toNatClampNeg && (decide (Y si.toNatClampNeg = 0) || decide ((P si.toNatClampNeg) &&& (v) = P si.toNatClampNeg)))))) := by (try rw [e9_0]); first | exact hD | (simp only [uu_upd, uu_ub] at hD ⊢; exact hD)
        refine W.eq (g2 := F0 m 89 ls [.int (bi (G si.toNatClampNeg && (decide (Y si.toNatClampNeg = 0) || decide ((P si.toNatClampNeg) &&& (v) = P si.toNatClampNeg))))]) (by first | rfl | (rw [e9_0] <;> rfl)) ?_
        exact W.zret (v := bi (G si.toNatClampNeg && (decide (Y si.toNatClampNeg = 0) || decide ((P si.toNatClampNeg) &&& (v) = P si.toNatClampNeg)))) hx hb hr (bi_nar _) (fun t9 ht hW => ⟨rfl, by rw [ht]; exact hP, hD, hS.F ht⟩) hS.2.2 dX_restrict_89

set_option maxRecDepth 100000 in
set_option maxHeartbeats 4000000 in
theorem mX_seal_y (l : Launch) (D : va_G) (cI cZ : ClassId) (q : Nat → Nat) (A B T P Y : Nat → Int32) (G : Nat → Bool) (sz : Nat) (ri si ti : Int32) (hri : vp_in ri 16) (hsi : vp_in si 16) (hti : vp_in ti 16) (h0 : ga_seal A B T P Y G si.toNatClampNeg ti.toNatClampNeg = 0) : Met l yX_seal (Cond.code yX_seal cX_seal 6 (some .int) :: gw) (rmk 4 0 0) (va_Pc [.ref (q 0), .int (ri), .int (si), .int (ti)] (kB D vwCl (xW cI cZ q A B T P Y G) (tsX cI cZ) sz)) (kQ (some (.int (0))) D vwCl (xW cI cZ q (upd A ri.toNatClampNeg (A si.toNatClampNeg)) (upd B ri.toNatClampNeg (B si.toNatClampNeg)) (upd T ri.toNatClampNeg (T si.toNatClampNeg)) (upd P ri.toNatClampNeg (P si.toNatClampNeg)) (upd Y ri.toNatClampNeg (A ti.toNatClampNeg)) (ub G ri.toNatClampNeg (G si.toNatClampNeg))) (va_A (xW cI cZ q A B T P Y G) sz)) 0 0 (va_A (xW cI cZ q A B T P Y G) sz) := by
  refine Met.ofW (cc := cX_seal) (maxL := 6) (ret := (some .int)) (by decide) rfl ?_
  intro p e s m args below meth c s₁ B9 hml hv
  obtain ⟨rfl, hsz, hP, hK, hD0⟩ := hv
  have hx := B9.exec
  have hb := B9.bytes
  have hr := B9.returns
  have hts := fun (w : Cond) (h : w ∈ gw) => atoms_spec (ws := _ :: gw) B9.pre w (List.mem_cons_of_mem _ h)
  have hown : s.vm.findClass RX = some m.cls := findClass_of_methodNamed B9.named
  have hlocks := B9.notSynchronized
  have hl := lv_entry ([.ref (q 0), .int (ri), .int (si), .int (ti)]) (n := 6) (Nat.le_of_ble_eq_true rfl)
  rw [lg_entry_eq]
  generalize (lg_sl ([.ref (q 0), .int (ri), .int (si), .int (ti)]) ++ List.replicate (6 - (lg_sl ([.ref (q 0), .int (ri), .int (si), .int (ti)])).length) Slot.unset).toArray = ls at hl ⊢
  have hl : lv_has ls 6 [(0, .ref (q 0)), (1, .int (ri)), (2, .int (si)), (3, .int (ti))] := hl
  subst hsz
  have hD := hD0.self (sz := s.heap.size)
  generalize hAe : va_A (xW cI cZ q A B T P Y G) s.heap.size = A9 at hD ⊢
  have hA : ∀ z : Nat, s.heap.size ≤ z → A9 z := fun z h => by rw [← hAe]; exact Or.inr h
  have hS : va_S A9 s.heap s.heap [] := va_S.rf
  have hP : va_P D vwCl (xW cI cZ q A B T P Y G) s.heap := hP
  refine lv_iload_n hx hb dX_seal_0 rfl (lv_at hl 1 rfl) ?_
  refine kr_Sv 1 (As := [.int (ri)]) (rest := []) hx hb hml hown hts hl.1 (mX_requireGrant l (ri) hri) tt_stb trivial (gw_S w_151 w_152 w_14 w_153) (by decide) ⟨rfl, rfl⟩ ⟨Nat.le_of_ble_eq_true rfl, Nat.le_of_ble_eq_true rfl⟩ rfl rfl (Nat.le_of_ble_eq_true rfl) dX_seal_1 ⟨Nat.zero_le _, Nat.zero_le _⟩ ?_
  refine lv_iload_n hx hb dX_seal_4 rfl (lv_at hl 2 rfl) ?_
  refine kr_Sv 1 (As := [.int (si)]) (rest := []) hx hb hml hown hts hl.1 (mX_requireGrant l (si) hsi) tt_stb trivial (gw_S w_151 w_152 w_14 w_153) (by decide) ⟨rfl, rfl⟩ ⟨Nat.le_of_ble_eq_true rfl, Nat.le_of_ble_eq_true rfl⟩ rfl rfl (Nat.le_of_ble_eq_true rfl) dX_seal_5 ⟨Nat.zero_le _, Nat.zero_le _⟩ ?_
  refine lv_iload_n hx hb dX_seal_8 rfl (lv_at hl 3 rfl) ?_
  refine kr_Sv 1 (As := [.int (ti)]) (rest := []) hx hb hml hown hts hl.1 (mX_requireGrant l (ti) hti) tt_stb trivial (gw_S w_151 w_152 w_14 w_153) (by decide) ⟨rfl, rfl⟩ ⟨Nat.le_of_ble_eq_true rfl, Nat.le_of_ble_eq_true rfl⟩ rfl rfl (Nat.le_of_ble_eq_true rfl) dX_seal_9 ⟨Nat.zero_le _, Nat.zero_le _⟩ ?_
  refine lv_aload_n hx hb dX_seal_12 rfl (lv_at hl 0 rfl) ?_
  refine lv_iload_n hx hb dX_seal_13 rfl (lv_at hl 2 rfl) ?_
  refine lv_iload_n hx hb dX_seal_14 rfl (lv_at hl 3 rfl) ?_
  refine kr_V 2 (b := q 0) (As := [.int (si), .int (ti)]) (rest := []) (r := .int (ga_seal A B T P Y G si.toNatClampNeg ti.toNatClampNeg)) hx hb hml hown hts hl.1 (mX_sealingCause l D cI cZ q A B T P Y G si ti hsi hti) rB_stb ⟨hP, hK⟩ (gw_V w_209 w_211 w_6 w_14 w_212) (by decide) ⟨rfl, rfl⟩ ⟨Nat.le_of_ble_eq_true rfl, Nat.le_of_ble_eq_true rfl⟩ (va_recv hK hP (ci := 0) rfl (q0 := 0) rfl) rfl rfl (Nat.le_of_ble_eq_true rfl) dX_seal_15 ⟨Nat.zero_le _, Nat.zero_le _⟩ ?_
  refine lv_istore hx hb dX_seal_18 hl (by decide) rfl (fun ls hl => ?_)
  have hl : lv_has ls 6 [(4, .int (ga_seal A B T P Y G si.toNatClampNeg ti.toNatClampNeg)), (0, .ref (q 0)), (1, .int (ri)), (2, .int (si)), (3, .int (ti))] := hl
  refine lv_iload hx hb dX_seal_20 (lv_at hl 0 rfl) ?_
  refine lv_if_ne (tgt := 47) hx hb dX_seal_22 (by decide) (fun h_1 => absurd h0 h_1) (fun h_1 => ?_)
  refine lv_aload_n hx hb dX_seal_25 rfl (lv_at hl 1 rfl) ?_
  refine va_get (D := D) (ci := 0) (v := .ref (q 1)) (C := RX) (T := TX) (N := 6) hx hb hts inX hown hK hP 0 rfl rfl 0 (by decide) (hts _ w_29) (fun _ h9 => h9) rfl dX_seal_26 ?_
  refine lv_iload_n hx hb dX_seal_29 rfl (lv_at hl 4 rfl) ?_
  refine va_iald hx hb hK hP 1 0 rfl rfl hti dX_seal_30 ?_
  refine lv_istore hx hb dX_seal_31 hl (by decide) rfl (fun ls hl => ?_)
  have hl : lv_has ls 6 [(5, .int (A ti.toNatClampNeg)), (4, .int (ga_seal A B T P Y G si.toNatClampNeg ti.toNatClampNeg)), (0, .ref (q 0)), (1, .int (ri)), (2, .int (si)), (3, .int (ti))] := hl
  refine lv_aload_n hx hb dX_seal_33 rfl (lv_at hl 2 rfl) ?_
  refine lv_iload_n hx hb dX_seal_34 rfl (lv_at hl 3 rfl) ?_
  refine lv_iload_n hx hb dX_seal_35 rfl (lv_at hl 4 rfl) ?_
  refine kw_V 2 [0, 1, 2, 3, 4, 5, 6] [] (b := q 0) (As := [.int (ri), .int (si)]) (rest := []) (wc := xW cI cZ q A B T P Y G) (wr := []) (w1 := xW cI cZ q (upd A ri.toNatClampNeg (A si.toNatClampNeg)) (upd B ri.toNatClampNeg (B si.toNatClampNeg)) (upd T ri.toNatClampNeg (T si.toNatClampNeg)) (upd P ri.toNatClampNeg (P si.toNatClampNeg)) (upd Y ri.toNatClampNeg (Y si.toNatClampNeg)) (ub G ri.toNatClampNeg (G si.toNatClampNeg))) hx hb hml hown hts hl.1 hP hD hS hA hK (mX_copy l D cI cZ q A B T P Y G _ ri si hri hsi) (gw_V w_184 w_186 w_5 w_14 w_187) (by decide) ⟨rfl, rfl⟩ ⟨Nat.le_of_ble_eq_true rfl, Nat.le_of_ble_eq_true rfl⟩ (va_recv hK hP (ci := 0) rfl (q0 := 0) rfl) rfl rfl (Nat.le_of_ble_eq_true rfl) dX_seal_36 ⟨Nat.zero_le _, Nat.zero_le _⟩ rfl rfl ⟨by decide, by decide⟩ (by decide) (fun H locs hP hD hS => ?_)
  have hP : va_P D vwCl (xW cI cZ q (upd A ri.toNatClampNeg (A si.toNatClampNeg)) (upd B ri.toNatClampNeg (B si.toNatClampNeg)) (upd T ri.toNatClampNeg (T si.toNatClampNeg)) (upd P ri.toNatClampNeg (P si.toNatClampNeg)) (upd Y ri.toNatClampNeg (Y si.toNatClampNeg)) (ub G ri.toNatClampNeg (G si.toNatClampNeg))) H := hP
  have hD : va_D A9 (xW cI cZ q (upd A ri.toNatClampNeg (A si.toNatClampNeg)) (upd B ri.toNatClampNeg (B si.toNatClampNeg)) (upd T ri.toNatClampNeg (T si.toNatClampNeg)) (upd P ri.toNatClampNeg (P si.toNatClampNeg)) (upd Y ri.toNatClampNeg (Y si.toNatClampNeg)) (ub G ri.toNatClampNeg (G si.toNatClampNeg))) := hD
  refine W.eq (g2 := F0 m 39 ls []) rfl ?_
  refine lv_aload_n hx hb dX_seal_39 rfl (lv_at hl 2 rfl) ?_
  refine va_get (D := D) (ci := 0) (v := .ref (q 5)) (C := RX) (T := TX) (N := 6) hx hb hts inX hown hK hP 0 rfl rfl 4 (by decide) (hts _ w_33) (fun _ h9 => h9) rfl dX_seal_40 ?_
  refine lv_iload_n hx hb dX_seal_43 rfl (lv_at hl 3 rfl) ?_
  refine lv_iload hx hb dX_seal_44 (lv_at hl 0 rfl) ?_
  refine va_iast hx hb hK hP hD hS 5 0 rfl rfl hri dX_seal_46 (fun H locs hP hD hS => ?_)
  have hP : va_P D vwCl (xW cI cZ q (upd A ri.toNatClampNeg (A si.toNatClampNeg)) (upd B ri.toNatClampNeg (B si.toNatClampNeg)) (upd T ri.toNatClampNeg (T si.toNatClampNeg)) (upd P ri.toNatClampNeg (P si.toNatClampNeg)) (upd (upd Y ri.toNatClampNeg (Y si.toNatClampNeg)) ri.toNatClampNeg (A ti.toNatClampNeg)) (ub G ri.toNatClampNeg (G si.toNatClampNeg))) H := hP
  have hD : va_D A9 (xW cI cZ q (upd A ri.toNatClampNeg (A si.toNatClampNeg)) (upd B ri.toNatClampNeg (B si.toNatClampNeg)) (upd T ri.toNatClampNeg (T si.toNatClampNeg)) (upd P ri.toNatClampNeg (P si.toNatClampNeg)) (upd (upd Y ri.toNatClampNeg (Y si.toNatClampNeg)) ri.toNatClampNeg (A ti.toNatClampNeg)) (ub G ri.toNatClampNeg (G si.toNatClampNeg))) := hD
  refine lv_iload hx hb dX_seal_47 (lv_at hl 1 rfl) ?_
  have e9_0 : ga_seal A B T P Y G si.toNatClampNeg ti.toNatClampNeg = 0 := by exact h0
  have hP : va_P D vwCl (xW cI cZ q (upd A ri.toNatClampNeg (A si.toNatClampNeg)) (upd B ri.toNatClampNeg (B si.toNatClampNeg)) (upd T ri.toNatClampNeg (T si.toNatClampNeg)) (upd P ri.toNatClampNeg (P si.toNatClampNeg)) (upd Y ri.toNatClampNeg (A ti.toNatClampNeg)) (ub G ri.toNatClampNeg (G si.toNatClampNeg))) H := by (try rw [e9_0]); first | exact hP | (simp only [uu_upd, uu_ub] at hP ⊢; exact hP)
  have hD : va_D A9 (xW cI cZ q (upd A ri.toNatClampNeg (A si.toNatClampNeg)) (upd B ri.toNatClampNeg (B si.toNatClampNeg)) (upd T ri.toNatClampNeg (T si.toNatClampNeg)) (upd P ri.toNatClampNeg (P si.toNatClampNeg)) (upd Y ri.toNatClampNeg (A ti.toNatClampNeg)) (ub G ri.toNatClampNeg (G si.toNatClampNeg))) := by (try rw [e9_0]); first | exact hD | (simp only [uu_upd, uu_ub] at hD ⊢; exact hD)
  refine W.eq (g2 := F0 m 49 ls [.int (0)]) (by first | rfl | (rw [e9_0] <;> rfl)) ?_
  exact W.iret (v := 0) hx hb hr (fun t9 ht hW => ⟨rfl, by rw [ht]; exact hP, hD, hS.F ht⟩) hS.2.2 dX_seal_49

set_option maxRecDepth 100000 in
set_option maxHeartbeats 4000000 in
theorem mX_seal_n (l : Launch) (D : va_G) (cI cZ : ClassId) (q : Nat → Nat) (A B T P Y : Nat → Int32) (G : Nat → Bool) (sz : Nat) (ri si ti : Int32) (hri : vp_in ri 16) (hsi : vp_in si 16) (hti : vp_in ti 16) (h0 : ¬ ga_seal A B T P Y G si.toNatClampNeg ti.toNatClampNeg = 0) : Met l yX_seal (Cond.code yX_seal cX_seal 6 (some .int) :: gw) (rmk 4 0 0) (va_Pc [.ref (q 0), .int (ri), .int (si), .int (ti)] (kB D vwCl (xW cI cZ q A B T P Y G) (tsX cI cZ) sz)) (kQ (some (.int (ga_seal A B T P Y G si.toNatClampNeg ti.toNatClampNeg))) D vwCl (xW cI cZ q A B T P Y G) (va_A (xW cI cZ q A B T P Y G) sz)) 0 0 (va_A (xW cI cZ q A B T P Y G) sz) := by
  refine Met.ofW (cc := cX_seal) (maxL := 6) (ret := (some .int)) (by decide) rfl ?_
  intro p e s m args below meth c s₁ B9 hml hv
  obtain ⟨rfl, hsz, hP, hK, hD0⟩ := hv
  have hx := B9.exec
  have hb := B9.bytes
  have hr := B9.returns
  have hts := fun (w : Cond) (h : w ∈ gw) => atoms_spec (ws := _ :: gw) B9.pre w (List.mem_cons_of_mem _ h)
  have hown : s.vm.findClass RX = some m.cls := findClass_of_methodNamed B9.named
  have hlocks := B9.notSynchronized
  have hl := lv_entry ([.ref (q 0), .int (ri), .int (si), .int (ti)]) (n := 6) (Nat.le_of_ble_eq_true rfl)
  rw [lg_entry_eq]
  generalize (lg_sl ([.ref (q 0), .int (ri), .int (si), .int (ti)]) ++ List.replicate (6 - (lg_sl ([.ref (q 0), .int (ri), .int (si), .int (ti)])).length) Slot.unset).toArray = ls at hl ⊢
  have hl : lv_has ls 6 [(0, .ref (q 0)), (1, .int (ri)), (2, .int (si)), (3, .int (ti))] := hl
  subst hsz
  have hD := hD0.self (sz := s.heap.size)
  generalize hAe : va_A (xW cI cZ q A B T P Y G) s.heap.size = A9 at hD ⊢
  have hA : ∀ z : Nat, s.heap.size ≤ z → A9 z := fun z h => by rw [← hAe]; exact Or.inr h
  have hS : va_S A9 s.heap s.heap [] := va_S.rf
  have hP : va_P D vwCl (xW cI cZ q A B T P Y G) s.heap := hP
  refine lv_iload_n hx hb dX_seal_0 rfl (lv_at hl 1 rfl) ?_
  refine kr_Sv 1 (As := [.int (ri)]) (rest := []) hx hb hml hown hts hl.1 (mX_requireGrant l (ri) hri) tt_stb trivial (gw_S w_151 w_152 w_14 w_153) (by decide) ⟨rfl, rfl⟩ ⟨Nat.le_of_ble_eq_true rfl, Nat.le_of_ble_eq_true rfl⟩ rfl rfl (Nat.le_of_ble_eq_true rfl) dX_seal_1 ⟨Nat.zero_le _, Nat.zero_le _⟩ ?_
  refine lv_iload_n hx hb dX_seal_4 rfl (lv_at hl 2 rfl) ?_
  refine kr_Sv 1 (As := [.int (si)]) (rest := []) hx hb hml hown hts hl.1 (mX_requireGrant l (si) hsi) tt_stb trivial (gw_S w_151 w_152 w_14 w_153) (by decide) ⟨rfl, rfl⟩ ⟨Nat.le_of_ble_eq_true rfl, Nat.le_of_ble_eq_true rfl⟩ rfl rfl (Nat.le_of_ble_eq_true rfl) dX_seal_5 ⟨Nat.zero_le _, Nat.zero_le _⟩ ?_
  refine lv_iload_n hx hb dX_seal_8 rfl (lv_at hl 3 rfl) ?_
  refine kr_Sv 1 (As := [.int (ti)]) (rest := []) hx hb hml hown hts hl.1 (mX_requireGrant l (ti) hti) tt_stb trivial (gw_S w_151 w_152 w_14 w_153) (by decide) ⟨rfl, rfl⟩ ⟨Nat.le_of_ble_eq_true rfl, Nat.le_of_ble_eq_true rfl⟩ rfl rfl (Nat.le_of_ble_eq_true rfl) dX_seal_9 ⟨Nat.zero_le _, Nat.zero_le _⟩ ?_
  refine lv_aload_n hx hb dX_seal_12 rfl (lv_at hl 0 rfl) ?_
  refine lv_iload_n hx hb dX_seal_13 rfl (lv_at hl 2 rfl) ?_
  refine lv_iload_n hx hb dX_seal_14 rfl (lv_at hl 3 rfl) ?_
  refine kr_V 2 (b := q 0) (As := [.int (si), .int (ti)]) (rest := []) (r := .int (ga_seal A B T P Y G si.toNatClampNeg ti.toNatClampNeg)) hx hb hml hown hts hl.1 (mX_sealingCause l D cI cZ q A B T P Y G si ti hsi hti) rB_stb ⟨hP, hK⟩ (gw_V w_209 w_211 w_6 w_14 w_212) (by decide) ⟨rfl, rfl⟩ ⟨Nat.le_of_ble_eq_true rfl, Nat.le_of_ble_eq_true rfl⟩ (va_recv hK hP (ci := 0) rfl (q0 := 0) rfl) rfl rfl (Nat.le_of_ble_eq_true rfl) dX_seal_15 ⟨Nat.zero_le _, Nat.zero_le _⟩ ?_
  refine lv_istore hx hb dX_seal_18 hl (by decide) rfl (fun ls hl => ?_)
  have hl : lv_has ls 6 [(4, .int (ga_seal A B T P Y G si.toNatClampNeg ti.toNatClampNeg)), (0, .ref (q 0)), (1, .int (ri)), (2, .int (si)), (3, .int (ti))] := hl
  refine lv_iload hx hb dX_seal_20 (lv_at hl 0 rfl) ?_
  refine lv_if_ne (tgt := 47) hx hb dX_seal_22 (by decide) (fun h_1 => ?_) (fun h_1 => absurd h_1 h0)
  refine lv_iload hx hb dX_seal_47 (lv_at hl 0 rfl) ?_
  exact W.iret (v := ga_seal A B T P Y G si.toNatClampNeg ti.toNatClampNeg) hx hb hr (fun t9 ht hW => ⟨rfl, by rw [ht]; exact hP, hD, hS.F ht⟩) hS.2.2 dX_seal_49

set_option maxRecDepth 100000 in
set_option maxHeartbeats 4000000 in
theorem mX_unseal_y (l : Launch) (D : va_G) (cI cZ : ClassId) (q : Nat → Nat) (A B T P Y : Nat → Int32) (G : Nat → Bool) (sz : Nat) (ri si ti : Int32) (hri : vp_in ri 16) (hsi : vp_in si 16) (hti : vp_in ti 16) (h0 : ga_open A B T P Y G si.toNatClampNeg ti.toNatClampNeg = 0) : Met l yX_unseal (Cond.code yX_unseal cX_unseal 5 (some .int) :: gw) (rmk 4 0 0) (va_Pc [.ref (q 0), .int (ri), .int (si), .int (ti)] (kB D vwCl (xW cI cZ q A B T P Y G) (tsX cI cZ) sz)) (kQ (some (.int (0))) D vwCl (xW cI cZ q (upd A ri.toNatClampNeg (A si.toNatClampNeg)) (upd B ri.toNatClampNeg (B si.toNatClampNeg)) (upd T ri.toNatClampNeg (T si.toNatClampNeg)) (upd P ri.toNatClampNeg (P si.toNatClampNeg)) (upd Y ri.toNatClampNeg (0)) (ub G ri.toNatClampNeg (G si.toNatClampNeg))) (va_A (xW cI cZ q A B T P Y G) sz)) 0 0 (va_A (xW cI cZ q A B T P Y G) sz) := by
  refine Met.ofW (cc := cX_unseal) (maxL := 5) (ret := (some .int)) (by decide) rfl ?_
  intro p e s m args below meth c s₁ B9 hml hv
  obtain ⟨rfl, hsz, hP, hK, hD0⟩ := hv
  have hx := B9.exec
  have hb := B9.bytes
  have hr := B9.returns
  have hts := fun (w : Cond) (h : w ∈ gw) => atoms_spec (ws := _ :: gw) B9.pre w (List.mem_cons_of_mem _ h)
  have hown : s.vm.findClass RX = some m.cls := findClass_of_methodNamed B9.named
  have hlocks := B9.notSynchronized
  have hl := lv_entry ([.ref (q 0), .int (ri), .int (si), .int (ti)]) (n := 5) (Nat.le_of_ble_eq_true rfl)
  rw [lg_entry_eq]
  generalize (lg_sl ([.ref (q 0), .int (ri), .int (si), .int (ti)]) ++ List.replicate (5 - (lg_sl ([.ref (q 0), .int (ri), .int (si), .int (ti)])).length) Slot.unset).toArray = ls at hl ⊢
  have hl : lv_has ls 5 [(0, .ref (q 0)), (1, .int (ri)), (2, .int (si)), (3, .int (ti))] := hl
  subst hsz
  have hD := hD0.self (sz := s.heap.size)
  generalize hAe : va_A (xW cI cZ q A B T P Y G) s.heap.size = A9 at hD ⊢
  have hA : ∀ z : Nat, s.heap.size ≤ z → A9 z := fun z h => by rw [← hAe]; exact Or.inr h
  have hS : va_S A9 s.heap s.heap [] := va_S.rf
  have hP : va_P D vwCl (xW cI cZ q A B T P Y G) s.heap := hP
  refine lv_iload_n hx hb dX_unseal_0 rfl (lv_at hl 1 rfl) ?_
  refine kr_Sv 1 (As := [.int (ri)]) (rest := []) hx hb hml hown hts hl.1 (mX_requireGrant l (ri) hri) tt_stb trivial (gw_S w_151 w_152 w_14 w_153) (by decide) ⟨rfl, rfl⟩ ⟨Nat.le_of_ble_eq_true rfl, Nat.le_of_ble_eq_true rfl⟩ rfl rfl (Nat.le_of_ble_eq_true rfl) dX_unseal_1 ⟨Nat.zero_le _, Nat.zero_le _⟩ ?_
  refine lv_iload_n hx hb dX_unseal_4 rfl (lv_at hl 2 rfl) ?_
  refine kr_Sv 1 (As := [.int (si)]) (rest := []) hx hb hml hown hts hl.1 (mX_requireGrant l (si) hsi) tt_stb trivial (gw_S w_151 w_152 w_14 w_153) (by decide) ⟨rfl, rfl⟩ ⟨Nat.le_of_ble_eq_true rfl, Nat.le_of_ble_eq_true rfl⟩ rfl rfl (Nat.le_of_ble_eq_true rfl) dX_unseal_5 ⟨Nat.zero_le _, Nat.zero_le _⟩ ?_
  refine lv_iload_n hx hb dX_unseal_8 rfl (lv_at hl 3 rfl) ?_
  refine kr_Sv 1 (As := [.int (ti)]) (rest := []) hx hb hml hown hts hl.1 (mX_requireGrant l (ti) hti) tt_stb trivial (gw_S w_151 w_152 w_14 w_153) (by decide) ⟨rfl, rfl⟩ ⟨Nat.le_of_ble_eq_true rfl, Nat.le_of_ble_eq_true rfl⟩ rfl rfl (Nat.le_of_ble_eq_true rfl) dX_unseal_9 ⟨Nat.zero_le _, Nat.zero_le _⟩ ?_
  refine lv_aload_n hx hb dX_unseal_12 rfl (lv_at hl 0 rfl) ?_
  refine lv_iload_n hx hb dX_unseal_13 rfl (lv_at hl 2 rfl) ?_
  refine lv_iload_n hx hb dX_unseal_14 rfl (lv_at hl 3 rfl) ?_
  refine kr_V 2 (b := q 0) (As := [.int (si), .int (ti)]) (rest := []) (r := .int (ga_open A B T P Y G si.toNatClampNeg ti.toNatClampNeg)) hx hb hml hown hts hl.1 (mX_unsealingCause l D cI cZ q A B T P Y G si ti hsi hti) rB_stb ⟨hP, hK⟩ (gw_V w_221 w_223 w_7 w_14 w_224) (by decide) ⟨rfl, rfl⟩ ⟨Nat.le_of_ble_eq_true rfl, Nat.le_of_ble_eq_true rfl⟩ (va_recv hK hP (ci := 0) rfl (q0 := 0) rfl) rfl rfl (Nat.le_of_ble_eq_true rfl) dX_unseal_15 ⟨Nat.zero_le _, Nat.zero_le _⟩ ?_
  refine lv_istore hx hb dX_unseal_18 hl (by decide) rfl (fun ls hl => ?_)
  have hl : lv_has ls 5 [(4, .int (ga_open A B T P Y G si.toNatClampNeg ti.toNatClampNeg)), (0, .ref (q 0)), (1, .int (ri)), (2, .int (si)), (3, .int (ti))] := hl
  refine lv_iload hx hb dX_unseal_20 (lv_at hl 0 rfl) ?_
  refine lv_if_ne (tgt := 38) hx hb dX_unseal_22 (by decide) (fun h_1 => absurd h0 h_1) (fun h_1 => ?_)
  refine lv_aload_n hx hb dX_unseal_25 rfl (lv_at hl 1 rfl) ?_
  refine lv_iload_n hx hb dX_unseal_26 rfl (lv_at hl 2 rfl) ?_
  refine lv_iload_n hx hb dX_unseal_27 rfl (lv_at hl 3 rfl) ?_
  refine kw_V 2 [0, 1, 2, 3, 4, 5, 6] [] (b := q 0) (As := [.int (ri), .int (si)]) (rest := []) (wc := xW cI cZ q A B T P Y G) (wr := []) (w1 := xW cI cZ q (upd A ri.toNatClampNeg (A si.toNatClampNeg)) (upd B ri.toNatClampNeg (B si.toNatClampNeg)) (upd T ri.toNatClampNeg (T si.toNatClampNeg)) (upd P ri.toNatClampNeg (P si.toNatClampNeg)) (upd Y ri.toNatClampNeg (Y si.toNatClampNeg)) (ub G ri.toNatClampNeg (G si.toNatClampNeg))) hx hb hml hown hts hl.1 hP hD hS hA hK (mX_copy l D cI cZ q A B T P Y G _ ri si hri hsi) (gw_V w_184 w_186 w_5 w_14 w_187) (by decide) ⟨rfl, rfl⟩ ⟨Nat.le_of_ble_eq_true rfl, Nat.le_of_ble_eq_true rfl⟩ (va_recv hK hP (ci := 0) rfl (q0 := 0) rfl) rfl rfl (Nat.le_of_ble_eq_true rfl) dX_unseal_28 ⟨Nat.zero_le _, Nat.zero_le _⟩ rfl rfl ⟨by decide, by decide⟩ (by decide) (fun H locs hP hD hS => ?_)
  have hP : va_P D vwCl (xW cI cZ q (upd A ri.toNatClampNeg (A si.toNatClampNeg)) (upd B ri.toNatClampNeg (B si.toNatClampNeg)) (upd T ri.toNatClampNeg (T si.toNatClampNeg)) (upd P ri.toNatClampNeg (P si.toNatClampNeg)) (upd Y ri.toNatClampNeg (Y si.toNatClampNeg)) (ub G ri.toNatClampNeg (G si.toNatClampNeg))) H := hP
  have hD : va_D A9 (xW cI cZ q (upd A ri.toNatClampNeg (A si.toNatClampNeg)) (upd B ri.toNatClampNeg (B si.toNatClampNeg)) (upd T ri.toNatClampNeg (T si.toNatClampNeg)) (upd P ri.toNatClampNeg (P si.toNatClampNeg)) (upd Y ri.toNatClampNeg (Y si.toNatClampNeg)) (ub G ri.toNatClampNeg (G si.toNatClampNeg))) := hD
  refine W.eq (g2 := F0 m 31 ls []) rfl ?_
  refine lv_aload_n hx hb dX_unseal_31 rfl (lv_at hl 1 rfl) ?_
  refine va_get (D := D) (ci := 0) (v := .ref (q 5)) (C := RX) (T := TX) (N := 6) hx hb hts inX hown hK hP 0 rfl rfl 4 (by decide) (hts _ w_33) (fun _ h9 => h9) rfl dX_unseal_32 ?_
  refine lv_iload_n hx hb dX_unseal_35 rfl (lv_at hl 2 rfl) ?_
  refine lv_iconst (v := 0) hx hb dX_unseal_36 (by decide) ?_
  refine va_iast hx hb hK hP hD hS 5 0 rfl rfl hri dX_unseal_37 (fun H locs hP hD hS => ?_)
  have hP : va_P D vwCl (xW cI cZ q (upd A ri.toNatClampNeg (A si.toNatClampNeg)) (upd B ri.toNatClampNeg (B si.toNatClampNeg)) (upd T ri.toNatClampNeg (T si.toNatClampNeg)) (upd P ri.toNatClampNeg (P si.toNatClampNeg)) (upd (upd Y ri.toNatClampNeg (Y si.toNatClampNeg)) ri.toNatClampNeg (0)) (ub G ri.toNatClampNeg (G si.toNatClampNeg))) H := hP
  have hD : va_D A9 (xW cI cZ q (upd A ri.toNatClampNeg (A si.toNatClampNeg)) (upd B ri.toNatClampNeg (B si.toNatClampNeg)) (upd T ri.toNatClampNeg (T si.toNatClampNeg)) (upd P ri.toNatClampNeg (P si.toNatClampNeg)) (upd (upd Y ri.toNatClampNeg (Y si.toNatClampNeg)) ri.toNatClampNeg (0)) (ub G ri.toNatClampNeg (G si.toNatClampNeg))) := hD
  refine lv_iload hx hb dX_unseal_38 (lv_at hl 0 rfl) ?_
  have e9_0 : ga_open A B T P Y G si.toNatClampNeg ti.toNatClampNeg = 0 := by exact h0
  have hP : va_P D vwCl (xW cI cZ q (upd A ri.toNatClampNeg (A si.toNatClampNeg)) (upd B ri.toNatClampNeg (B si.toNatClampNeg)) (upd T ri.toNatClampNeg (T si.toNatClampNeg)) (upd P ri.toNatClampNeg (P si.toNatClampNeg)) (upd Y ri.toNatClampNeg (0)) (ub G ri.toNatClampNeg (G si.toNatClampNeg))) H := by (try rw [e9_0]); first | exact hP | (simp only [uu_upd, uu_ub] at hP ⊢; exact hP)
  have hD : va_D A9 (xW cI cZ q (upd A ri.toNatClampNeg (A si.toNatClampNeg)) (upd B ri.toNatClampNeg (B si.toNatClampNeg)) (upd T ri.toNatClampNeg (T si.toNatClampNeg)) (upd P ri.toNatClampNeg (P si.toNatClampNeg)) (upd Y ri.toNatClampNeg (0)) (ub G ri.toNatClampNeg (G si.toNatClampNeg))) := by (try rw [e9_0]); first | exact hD | (simp only [uu_upd, uu_ub] at hD ⊢; exact hD)
  refine W.eq (g2 := F0 m 40 ls [.int (0)]) (by first | rfl | (rw [e9_0] <;> rfl)) ?_
  exact W.iret (v := 0) hx hb hr (fun t9 ht hW => ⟨rfl, by rw [ht]; exact hP, hD, hS.F ht⟩) hS.2.2 dX_unseal_40

set_option maxRecDepth 100000 in
set_option maxHeartbeats 4000000 in
theorem mX_unseal_n (l : Launch) (D : va_G) (cI cZ : ClassId) (q : Nat → Nat) (A B T P Y : Nat → Int32) (G : Nat → Bool) (sz : Nat) (ri si ti : Int32) (hri : vp_in ri 16) (hsi : vp_in si 16) (hti : vp_in ti 16) (h0 : ¬ ga_open A B T P Y G si.toNatClampNeg ti.toNatClampNeg = 0) : Met l yX_unseal (Cond.code yX_unseal cX_unseal 5 (some .int) :: gw) (rmk 4 0 0) (va_Pc [.ref (q 0), .int (ri), .int (si), .int (ti)] (kB D vwCl (xW cI cZ q A B T P Y G) (tsX cI cZ) sz)) (kQ (some (.int (ga_open A B T P Y G si.toNatClampNeg ti.toNatClampNeg))) D vwCl (xW cI cZ q A B T P Y G) (va_A (xW cI cZ q A B T P Y G) sz)) 0 0 (va_A (xW cI cZ q A B T P Y G) sz) := by
  refine Met.ofW (cc := cX_unseal) (maxL := 5) (ret := (some .int)) (by decide) rfl ?_
  intro p e s m args below meth c s₁ B9 hml hv
  obtain ⟨rfl, hsz, hP, hK, hD0⟩ := hv
  have hx := B9.exec
  have hb := B9.bytes
  have hr := B9.returns
  have hts := fun (w : Cond) (h : w ∈ gw) => atoms_spec (ws := _ :: gw) B9.pre w (List.mem_cons_of_mem _ h)
  have hown : s.vm.findClass RX = some m.cls := findClass_of_methodNamed B9.named
  have hlocks := B9.notSynchronized
  have hl := lv_entry ([.ref (q 0), .int (ri), .int (si), .int (ti)]) (n := 5) (Nat.le_of_ble_eq_true rfl)
  rw [lg_entry_eq]
  generalize (lg_sl ([.ref (q 0), .int (ri), .int (si), .int (ti)]) ++ List.replicate (5 - (lg_sl ([.ref (q 0), .int (ri), .int (si), .int (ti)])).length) Slot.unset).toArray = ls at hl ⊢
  have hl : lv_has ls 5 [(0, .ref (q 0)), (1, .int (ri)), (2, .int (si)), (3, .int (ti))] := hl
  subst hsz
  have hD := hD0.self (sz := s.heap.size)
  generalize hAe : va_A (xW cI cZ q A B T P Y G) s.heap.size = A9 at hD ⊢
  have hA : ∀ z : Nat, s.heap.size ≤ z → A9 z := fun z h => by rw [← hAe]; exact Or.inr h
  have hS : va_S A9 s.heap s.heap [] := va_S.rf
  have hP : va_P D vwCl (xW cI cZ q A B T P Y G) s.heap := hP
  refine lv_iload_n hx hb dX_unseal_0 rfl (lv_at hl 1 rfl) ?_
  refine kr_Sv 1 (As := [.int (ri)]) (rest := []) hx hb hml hown hts hl.1 (mX_requireGrant l (ri) hri) tt_stb trivial (gw_S w_151 w_152 w_14 w_153) (by decide) ⟨rfl, rfl⟩ ⟨Nat.le_of_ble_eq_true rfl, Nat.le_of_ble_eq_true rfl⟩ rfl rfl (Nat.le_of_ble_eq_true rfl) dX_unseal_1 ⟨Nat.zero_le _, Nat.zero_le _⟩ ?_
  refine lv_iload_n hx hb dX_unseal_4 rfl (lv_at hl 2 rfl) ?_
  refine kr_Sv 1 (As := [.int (si)]) (rest := []) hx hb hml hown hts hl.1 (mX_requireGrant l (si) hsi) tt_stb trivial (gw_S w_151 w_152 w_14 w_153) (by decide) ⟨rfl, rfl⟩ ⟨Nat.le_of_ble_eq_true rfl, Nat.le_of_ble_eq_true rfl⟩ rfl rfl (Nat.le_of_ble_eq_true rfl) dX_unseal_5 ⟨Nat.zero_le _, Nat.zero_le _⟩ ?_
  refine lv_iload_n hx hb dX_unseal_8 rfl (lv_at hl 3 rfl) ?_
  refine kr_Sv 1 (As := [.int (ti)]) (rest := []) hx hb hml hown hts hl.1 (mX_requireGrant l (ti) hti) tt_stb trivial (gw_S w_151 w_152 w_14 w_153) (by decide) ⟨rfl, rfl⟩ ⟨Nat.le_of_ble_eq_true rfl, Nat.le_of_ble_eq_true rfl⟩ rfl rfl (Nat.le_of_ble_eq_true rfl) dX_unseal_9 ⟨Nat.zero_le _, Nat.zero_le _⟩ ?_
  refine lv_aload_n hx hb dX_unseal_12 rfl (lv_at hl 0 rfl) ?_
  refine lv_iload_n hx hb dX_unseal_13 rfl (lv_at hl 2 rfl) ?_
  refine lv_iload_n hx hb dX_unseal_14 rfl (lv_at hl 3 rfl) ?_
  refine kr_V 2 (b := q 0) (As := [.int (si), .int (ti)]) (rest := []) (r := .int (ga_open A B T P Y G si.toNatClampNeg ti.toNatClampNeg)) hx hb hml hown hts hl.1 (mX_unsealingCause l D cI cZ q A B T P Y G si ti hsi hti) rB_stb ⟨hP, hK⟩ (gw_V w_221 w_223 w_7 w_14 w_224) (by decide) ⟨rfl, rfl⟩ ⟨Nat.le_of_ble_eq_true rfl, Nat.le_of_ble_eq_true rfl⟩ (va_recv hK hP (ci := 0) rfl (q0 := 0) rfl) rfl rfl (Nat.le_of_ble_eq_true rfl) dX_unseal_15 ⟨Nat.zero_le _, Nat.zero_le _⟩ ?_
  refine lv_istore hx hb dX_unseal_18 hl (by decide) rfl (fun ls hl => ?_)
  have hl : lv_has ls 5 [(4, .int (ga_open A B T P Y G si.toNatClampNeg ti.toNatClampNeg)), (0, .ref (q 0)), (1, .int (ri)), (2, .int (si)), (3, .int (ti))] := hl
  refine lv_iload hx hb dX_unseal_20 (lv_at hl 0 rfl) ?_
  refine lv_if_ne (tgt := 38) hx hb dX_unseal_22 (by decide) (fun h_1 => ?_) (fun h_1 => absurd h_1 h0)
  refine lv_iload hx hb dX_unseal_38 (lv_at hl 0 rfl) ?_
  exact W.iret (v := ga_open A B T P Y G si.toNatClampNeg ti.toNatClampNeg) hx hb hr (fun t9 ht hW => ⟨rfl, by rw [ht]; exact hP, hD, hS.F ht⟩) hS.2.2 dX_unseal_40

set_option maxRecDepth 100000 in
set_option maxHeartbeats 4000000 in
theorem tX_allows_a (l : Launch) (hst : l.stackTraces = false) (q9 : Nat) (ri by9 v w : Int32) (hbad : ¬ (¬ v < 0 ∧ v ≤ 65536)) : tx_Thr l yX_allows (Cond.code yX_allows cX_allows 5 (some .int) :: gw) (rmk 7 1 6) (va_Pc [.ref (q9), .int (ri), .int (by9), .int (v), .int (w)] tx_B) iae 1 6 := by
  refine tx_of (cc := cX_allows) (maxL := 5) (ret := (some .int)) (by decide) rfl ?_
  intro p e s m args below meth c s₁ B9 hml hne hv
  obtain ⟨rfl, hB⟩ := hv
  have hx := B9.exec
  have hb := B9.bytes
  have hts := fun (w : Cond) (h : w ∈ gw) => atoms_spec (ws := _ :: gw) B9.pre w (List.mem_cons_of_mem _ h)
  have hown : s.vm.findClass RX = some m.cls := findClass_of_methodNamed B9.named
  have hlocks := B9.notSynchronized
  have hl := lv_entry ([.ref (q9), .int (ri), .int (by9), .int (v), .int (w)]) (n := 5) (Nat.le_of_ble_eq_true rfl)
  rw [lg_entry_eq]
  generalize (lg_sl ([.ref (q9), .int (ri), .int (by9), .int (v), .int (w)]) ++ List.replicate (5 - (lg_sl ([.ref (q9), .int (ri), .int (by9), .int (v), .int (w)])).length) Slot.unset).toArray = ls at hl ⊢
  have hl : lv_has ls 5 [(0, .ref (q9)), (1, .int (ri)), (2, .int (by9)), (3, .int (v)), (4, .int (w))] := hl
  refine lv_iload_n hx hb dX_allows_0 rfl (lv_at hl 3 rfl) ?_
  refine lv_if_lt (tgt := 10) hx hb dX_allows_1 (by decide) (fun h_1 => ?_) (fun h_1 => ?_)
  · 
    obtain ⟨tx, sa, hstr⟩ := (hB #[]).2.2.1 66 (by decide)
    exact tx_throw (cls := iae) (names := nms) hx hb hst hown (by decide +kernel) (by decide +kernel) (hts _ w_83) (hts _ w_19) hstr (hB _).2.1 (hl.1.trans hml.symm) dX_allows_10 dX_allows_13 dX_allows_14 dX_allows_16 dX_allows_19 hne (Nat.le_of_ble_eq_true rfl) (Nat.le_of_ble_eq_true rfl) (Nat.le_of_ble_eq_true rfl) (Nat.le_of_ble_eq_true rfl) hlocks
  · 
    refine lv_iload_n hx hb dX_allows_4 rfl (lv_at hl 3 rfl) ?_
    refine lv_ldc (v := 65536) hx hb hown (hts _ w_232) dX_allows_5 ?_
    refine lv_icmp_le (tgt := 20) hx hb dX_allows_7 (by decide) (fun h_2 => absurd h_2 (fun h9 => hbad ⟨h_1, h9⟩)) (fun h_2 => ?_)
    obtain ⟨tx, sa, hstr⟩ := (hB #[]).2.2.1 66 (by decide)
    exact tx_throw (cls := iae) (names := nms) hx hb hst hown (by decide +kernel) (by decide +kernel) (hts _ w_83) (hts _ w_19) hstr (hB _).2.1 (hl.1.trans hml.symm) dX_allows_10 dX_allows_13 dX_allows_14 dX_allows_16 dX_allows_19 hne (Nat.le_of_ble_eq_true rfl) (Nat.le_of_ble_eq_true rfl) (Nat.le_of_ble_eq_true rfl) (Nat.le_of_ble_eq_true rfl) hlocks

set_option maxRecDepth 100000 in
set_option maxHeartbeats 4000000 in
theorem tX_allows_b (l : Launch) (hst : l.stackTraces = false) (q9 : Nat) (ri by9 v w : Int32) (hv0 : ¬ v < 0) (hv : v ≤ 65536) (hbad : ¬ vp_in ri 16) : tx_Thr l yX_allows (Cond.code yX_allows cX_allows 5 (some .int) :: gw) (rmk 7 1 6) (va_Pc [.ref (q9), .int (ri), .int (by9), .int (v), .int (w)] tx_B) iob 1 6 := by
  refine tx_of (cc := cX_allows) (maxL := 5) (ret := (some .int)) (by decide) rfl ?_
  intro p e s m args below meth c s₁ B9 hml hne hv
  obtain ⟨rfl, hB⟩ := hv
  have hx := B9.exec
  have hb := B9.bytes
  have hts := fun (w : Cond) (h : w ∈ gw) => atoms_spec (ws := _ :: gw) B9.pre w (List.mem_cons_of_mem _ h)
  have hown : s.vm.findClass RX = some m.cls := findClass_of_methodNamed B9.named
  have hlocks := B9.notSynchronized
  have hl := lv_entry ([.ref (q9), .int (ri), .int (by9), .int (v), .int (w)]) (n := 5) (Nat.le_of_ble_eq_true rfl)
  rw [lg_entry_eq]
  generalize (lg_sl ([.ref (q9), .int (ri), .int (by9), .int (v), .int (w)]) ++ List.replicate (5 - (lg_sl ([.ref (q9), .int (ri), .int (by9), .int (v), .int (w)])).length) Slot.unset).toArray = ls at hl ⊢
  have hl : lv_has ls 5 [(0, .ref (q9)), (1, .int (ri)), (2, .int (by9)), (3, .int (v)), (4, .int (w))] := hl
  refine lv_iload_n hx hb dX_allows_0 rfl (lv_at hl 3 rfl) ?_
  refine lv_if_lt (tgt := 10) hx hb dX_allows_1 (by decide) (fun h_1 => absurd h_1 hv0) (fun h_1 => ?_)
  refine lv_iload_n hx hb dX_allows_4 rfl (lv_at hl 3 rfl) ?_
  refine lv_ldc (v := 65536) hx hb hown (hts _ w_232) dX_allows_5 ?_
  refine lv_icmp_le (tgt := 20) hx hb dX_allows_7 (by decide) (fun h_2 => ?_) (fun h_2 => absurd hv h_2)
  refine lv_iload_n hx hb dX_allows_20 rfl (lv_at hl 1 rfl) ?_
  by_cases hi_ri : vp_in ri 16
  rotate_left
  · exact tx_callS (As := [.int (ri)]) (rest := []) ⟨hx, hb, hml, hown, hts⟩ (tX_requireGrant l hst (ri) hi_ri) (cwS 1 hts (gw_S w_151 w_152 w_14 w_153) rfl rfl rfl (by decide) ⟨Nat.le_of_ble_eq_true rfl, Nat.le_of_ble_eq_true rfl⟩) ⟨tx_blind, tx_pre hB (fun _ _ => rfl)⟩ rfl hl.1 rfl (Nat.le_of_ble_eq_true rfl) dX_allows_21 ⟨Nat.le_of_ble_eq_true rfl, Nat.le_of_ble_eq_true rfl⟩ (fun z ce H1 _ _ h1 h2 h3 => tx_leave rfl rfl rfl hne hlocks h1 h2 h3 (Nat.le_refl _) (Nat.le_refl _))
  refine kr_Sv 1 (As := [.int (ri)]) (rest := []) hx hb hml hown hts hl.1 (mX_requireGrant l (ri) hi_ri) tt_stb trivial (gw_S w_151 w_152 w_14 w_153) (by decide) ⟨rfl, rfl⟩ ⟨Nat.le_of_ble_eq_true rfl, Nat.le_of_ble_eq_true rfl⟩ rfl rfl (Nat.le_of_ble_eq_true rfl) dX_allows_21 ⟨Nat.zero_le _, Nat.zero_le _⟩ ?_
  exact absurd hi_ri hbad

set_option maxRecDepth 100000 in
set_option maxHeartbeats 4000000 in
theorem tX_part_a (l : Launch) (hst : l.stackTraces = false) (q9 : Nat) (ri v : Int32) (hbad : ¬ (¬ v < 0 ∧ v ≤ 5)) : tx_Thr l yX_part (Cond.code yX_part cX_part 3 (some .int) :: gw) (rmk 7 1 6) (va_Pc [.ref (q9), .int (ri), .int (v)] tx_B) iae 1 6 := by
  refine tx_of (cc := cX_part) (maxL := 3) (ret := (some .int)) (by decide) rfl ?_
  intro p e s m args below meth c s₁ B9 hml hne hv
  obtain ⟨rfl, hB⟩ := hv
  have hx := B9.exec
  have hb := B9.bytes
  have hts := fun (w : Cond) (h : w ∈ gw) => atoms_spec (ws := _ :: gw) B9.pre w (List.mem_cons_of_mem _ h)
  have hown : s.vm.findClass RX = some m.cls := findClass_of_methodNamed B9.named
  have hlocks := B9.notSynchronized
  have hl := lv_entry ([.ref (q9), .int (ri), .int (v)]) (n := 3) (Nat.le_of_ble_eq_true rfl)
  rw [lg_entry_eq]
  generalize (lg_sl ([.ref (q9), .int (ri), .int (v)]) ++ List.replicate (3 - (lg_sl ([.ref (q9), .int (ri), .int (v)])).length) Slot.unset).toArray = ls at hl ⊢
  have hl : lv_has ls 3 [(0, .ref (q9)), (1, .int (ri)), (2, .int (v))] := hl
  refine lv_iload_n hx hb dX_part_0 rfl (lv_at hl 2 rfl) ?_
  refine lv_if_lt (tgt := 9) hx hb dX_part_1 (by decide) (fun h_1 => ?_) (fun h_1 => ?_)
  · 
    obtain ⟨tx, sa, hstr⟩ := (hB #[]).2.2.1 76 (by decide)
    exact tx_throw (cls := iae) (names := nms) hx hb hst hown (by decide +kernel) (by decide +kernel) (hts _ w_83) (hts _ w_19) hstr (hB _).2.1 (hl.1.trans hml.symm) dX_part_9 dX_part_12 dX_part_13 dX_part_15 dX_part_18 hne (Nat.le_of_ble_eq_true rfl) (Nat.le_of_ble_eq_true rfl) (Nat.le_of_ble_eq_true rfl) (Nat.le_of_ble_eq_true rfl) hlocks
  · 
    refine lv_iload_n hx hb dX_part_4 rfl (lv_at hl 2 rfl) ?_
    refine lv_iconst (v := 5) hx hb dX_part_5 (by decide) ?_
    refine lv_icmp_le (tgt := 19) hx hb dX_part_6 (by decide) (fun h_2 => absurd h_2 (fun h9 => hbad ⟨h_1, h9⟩)) (fun h_2 => ?_)
    obtain ⟨tx, sa, hstr⟩ := (hB #[]).2.2.1 76 (by decide)
    exact tx_throw (cls := iae) (names := nms) hx hb hst hown (by decide +kernel) (by decide +kernel) (hts _ w_83) (hts _ w_19) hstr (hB _).2.1 (hl.1.trans hml.symm) dX_part_9 dX_part_12 dX_part_13 dX_part_15 dX_part_18 hne (Nat.le_of_ble_eq_true rfl) (Nat.le_of_ble_eq_true rfl) (Nat.le_of_ble_eq_true rfl) (Nat.le_of_ble_eq_true rfl) hlocks

set_option maxRecDepth 100000 in
set_option maxHeartbeats 4000000 in
theorem tX_part_b (l : Launch) (hst : l.stackTraces = false) (q9 : Nat) (ri v : Int32) (hv0 : ¬ v < 0) (hv : v ≤ 5) (hbad : ¬ vp_in ri 16) : tx_Thr l yX_part (Cond.code yX_part cX_part 3 (some .int) :: gw) (rmk 7 1 6) (va_Pc [.ref (q9), .int (ri), .int (v)] tx_B) iob 1 6 := by
  refine tx_of (cc := cX_part) (maxL := 3) (ret := (some .int)) (by decide) rfl ?_
  intro p e s m args below meth c s₁ B9 hml hne hv
  obtain ⟨rfl, hB⟩ := hv
  have hx := B9.exec
  have hb := B9.bytes
  have hts := fun (w : Cond) (h : w ∈ gw) => atoms_spec (ws := _ :: gw) B9.pre w (List.mem_cons_of_mem _ h)
  have hown : s.vm.findClass RX = some m.cls := findClass_of_methodNamed B9.named
  have hlocks := B9.notSynchronized
  have hl := lv_entry ([.ref (q9), .int (ri), .int (v)]) (n := 3) (Nat.le_of_ble_eq_true rfl)
  rw [lg_entry_eq]
  generalize (lg_sl ([.ref (q9), .int (ri), .int (v)]) ++ List.replicate (3 - (lg_sl ([.ref (q9), .int (ri), .int (v)])).length) Slot.unset).toArray = ls at hl ⊢
  have hl : lv_has ls 3 [(0, .ref (q9)), (1, .int (ri)), (2, .int (v))] := hl
  refine lv_iload_n hx hb dX_part_0 rfl (lv_at hl 2 rfl) ?_
  refine lv_if_lt (tgt := 9) hx hb dX_part_1 (by decide) (fun h_1 => absurd h_1 hv0) (fun h_1 => ?_)
  refine lv_iload_n hx hb dX_part_4 rfl (lv_at hl 2 rfl) ?_
  refine lv_iconst (v := 5) hx hb dX_part_5 (by decide) ?_
  refine lv_icmp_le (tgt := 19) hx hb dX_part_6 (by decide) (fun h_2 => ?_) (fun h_2 => absurd hv h_2)
  refine lv_iload_n hx hb dX_part_19 rfl (lv_at hl 1 rfl) ?_
  by_cases hi_ri : vp_in ri 16
  rotate_left
  · exact tx_callS (As := [.int (ri)]) (rest := []) ⟨hx, hb, hml, hown, hts⟩ (tX_requireGrant l hst (ri) hi_ri) (cwS 1 hts (gw_S w_151 w_152 w_14 w_153) rfl rfl rfl (by decide) ⟨Nat.le_of_ble_eq_true rfl, Nat.le_of_ble_eq_true rfl⟩) ⟨tx_blind, tx_pre hB (fun _ _ => rfl)⟩ rfl hl.1 rfl (Nat.le_of_ble_eq_true rfl) dX_part_20 ⟨Nat.le_of_ble_eq_true rfl, Nat.le_of_ble_eq_true rfl⟩ (fun z ce H1 _ _ h1 h2 h3 => tx_leave rfl rfl rfl hne hlocks h1 h2 h3 (Nat.le_refl _) (Nat.le_refl _))
  refine kr_Sv 1 (As := [.int (ri)]) (rest := []) hx hb hml hown hts hl.1 (mX_requireGrant l (ri) hi_ri) tt_stb trivial (gw_S w_151 w_152 w_14 w_153) (by decide) ⟨rfl, rfl⟩ ⟨Nat.le_of_ble_eq_true rfl, Nat.le_of_ble_eq_true rfl⟩ rfl rfl (Nat.le_of_ble_eq_true rfl) dX_part_20 ⟨Nat.zero_le _, Nat.zero_le _⟩ ?_
  exact absurd hi_ri hbad

set_option maxRecDepth 100000 in
set_option maxHeartbeats 4000000 in
theorem tX_root_a (l : Launch) (hst : l.stackTraces = false) (q9 : Nat) (ri b9 t9 v : Int32) (hbad : ¬ (un b9 ≤ un t9 ∧ ¬ v < 0 ∧ v ≤ 255)) : tx_Thr l yX_root (Cond.code yX_root cX_root 5 none :: gw) (rmk 7 1 6) (va_Pc [.ref (q9), .int (ri), .int (b9), .int (t9), .int (v)] tx_B) iae 1 6 := by
  refine tx_of (cc := cX_root) (maxL := 5) (ret := none) (by decide) rfl ?_
  intro p e s m args below meth c s₁ B9 hml hne hv
  obtain ⟨rfl, hB⟩ := hv
  have hx := B9.exec
  have hb := B9.bytes
  have hts := fun (w : Cond) (h : w ∈ gw) => atoms_spec (ws := _ :: gw) B9.pre w (List.mem_cons_of_mem _ h)
  have hown : s.vm.findClass RX = some m.cls := findClass_of_methodNamed B9.named
  have hlocks := B9.notSynchronized
  have hl := lv_entry ([.ref (q9), .int (ri), .int (b9), .int (t9), .int (v)]) (n := 5) (Nat.le_of_ble_eq_true rfl)
  rw [lg_entry_eq]
  generalize (lg_sl ([.ref (q9), .int (ri), .int (b9), .int (t9), .int (v)]) ++ List.replicate (5 - (lg_sl ([.ref (q9), .int (ri), .int (b9), .int (t9), .int (v)])).length) Slot.unset).toArray = ls at hl ⊢
  have hl : lv_has ls 5 [(0, .ref (q9)), (1, .int (ri)), (2, .int (b9)), (3, .int (t9)), (4, .int (v))] := hl
  refine lv_iload_n hx hb dX_root_0 rfl (lv_at hl 2 rfl) ?_
  refine kr_S 1 (As := [.int (b9)]) (rest := []) (r := .long (uw (b9))) hx hb hml hown hts hl.1 (mX_unsigned l (b9)) tt_stb trivial (gw_S w_70 w_71 w_14 w_72) (by decide) ⟨rfl, rfl⟩ ⟨Nat.le_of_ble_eq_true rfl, Nat.le_of_ble_eq_true rfl⟩ rfl rfl (Nat.le_of_ble_eq_true rfl) dX_root_1 ⟨Nat.zero_le _, Nat.zero_le _⟩ ?_
  refine lv_iload_n hx hb dX_root_4 rfl (lv_at hl 3 rfl) ?_
  refine kr_S 1 (As := [.int (t9)]) (rest := [.long (uw (b9))]) (r := .long (uw (t9))) hx hb hml hown hts hl.1 (mX_unsigned l (t9)) tt_stb trivial (gw_S w_70 w_71 w_14 w_72) (by decide) ⟨rfl, rfl⟩ ⟨Nat.le_of_ble_eq_true rfl, Nat.le_of_ble_eq_true rfl⟩ rfl rfl (Nat.le_of_ble_eq_true rfl) dX_root_5 ⟨Nat.zero_le _, Nat.zero_le _⟩ ?_
  refine W.lcmp hx hb dX_root_8 ?_
  refine lv_if_le (tgt := 22) hx hb dX_root_9 (by decide) (fun h_1 => ?_) (fun h_1 => ?_)
  · rw [lg_cmp_le] at h_1
    refine lv_iload hx hb dX_root_22 (lv_at hl 4 rfl) ?_
    refine lv_if_lt (tgt := 35) hx hb dX_root_24 (by decide) (fun h_2 => ?_) (fun h_2 => ?_)
    · 
      obtain ⟨tx, sa, hstr⟩ := (hB #[]).2.2.1 40 (by decide)
      exact tx_throw (cls := iae) (names := nms) hx hb hst hown (by decide +kernel) (by decide +kernel) (hts _ w_83) (hts _ w_19) hstr (hB _).2.1 (hl.1.trans hml.symm) dX_root_35 dX_root_38 dX_root_39 dX_root_41 dX_root_44 hne (Nat.le_of_ble_eq_true rfl) (Nat.le_of_ble_eq_true rfl) (Nat.le_of_ble_eq_true rfl) (Nat.le_of_ble_eq_true rfl) hlocks
    · 
      refine lv_iload hx hb dX_root_27 (lv_at hl 4 rfl) ?_
      refine lv_sipush (v := 255) hx hb dX_root_29 (by decide) ?_
      refine lv_icmp_le (tgt := 45) hx hb dX_root_32 (by decide) (fun h_3 => absurd h_3 (fun h9 => hbad ⟨(uw_le _ _).mp h_1, h_2, h9⟩)) (fun h_3 => ?_)
      obtain ⟨tx, sa, hstr⟩ := (hB #[]).2.2.1 40 (by decide)
      exact tx_throw (cls := iae) (names := nms) hx hb hst hown (by decide +kernel) (by decide +kernel) (hts _ w_83) (hts _ w_19) hstr (hB _).2.1 (hl.1.trans hml.symm) dX_root_35 dX_root_38 dX_root_39 dX_root_41 dX_root_44 hne (Nat.le_of_ble_eq_true rfl) (Nat.le_of_ble_eq_true rfl) (Nat.le_of_ble_eq_true rfl) (Nat.le_of_ble_eq_true rfl) hlocks
  · rw [lg_cmp_le] at h_1
    obtain ⟨tx, sa, hstr⟩ := (hB #[]).2.2.1 35 (by decide)
    exact tx_throw (cls := iae) (names := nms) hx hb hst hown (by decide +kernel) (by decide +kernel) (hts _ w_83) (hts _ w_19) hstr (hB _).2.1 (hl.1.trans hml.symm) dX_root_12 dX_root_15 dX_root_16 dX_root_18 dX_root_21 hne (Nat.le_of_ble_eq_true rfl) (Nat.le_of_ble_eq_true rfl) (Nat.le_of_ble_eq_true rfl) (Nat.le_of_ble_eq_true rfl) hlocks

set_option maxRecDepth 100000 in
set_option maxHeartbeats 4000000 in
theorem tX_root_b (l : Launch) (hst : l.stackTraces = false) (q9 : Nat) (ri b9 t9 v : Int32) (hbt : un b9 ≤ un t9) (hv0 : ¬ v < 0) (hv : v ≤ 255) (hbad : ¬ vp_in ri 16) : tx_Thr l yX_root (Cond.code yX_root cX_root 5 none :: gw) (rmk 7 1 6) (va_Pc [.ref (q9), .int (ri), .int (b9), .int (t9), .int (v)] tx_B) iob 1 6 := by
  refine tx_of (cc := cX_root) (maxL := 5) (ret := none) (by decide) rfl ?_
  intro p e s m args below meth c s₁ B9 hml hne hv
  obtain ⟨rfl, hB⟩ := hv
  have hx := B9.exec
  have hb := B9.bytes
  have hts := fun (w : Cond) (h : w ∈ gw) => atoms_spec (ws := _ :: gw) B9.pre w (List.mem_cons_of_mem _ h)
  have hown : s.vm.findClass RX = some m.cls := findClass_of_methodNamed B9.named
  have hlocks := B9.notSynchronized
  have hl := lv_entry ([.ref (q9), .int (ri), .int (b9), .int (t9), .int (v)]) (n := 5) (Nat.le_of_ble_eq_true rfl)
  rw [lg_entry_eq]
  generalize (lg_sl ([.ref (q9), .int (ri), .int (b9), .int (t9), .int (v)]) ++ List.replicate (5 - (lg_sl ([.ref (q9), .int (ri), .int (b9), .int (t9), .int (v)])).length) Slot.unset).toArray = ls at hl ⊢
  have hl : lv_has ls 5 [(0, .ref (q9)), (1, .int (ri)), (2, .int (b9)), (3, .int (t9)), (4, .int (v))] := hl
  refine lv_iload_n hx hb dX_root_0 rfl (lv_at hl 2 rfl) ?_
  refine kr_S 1 (As := [.int (b9)]) (rest := []) (r := .long (uw (b9))) hx hb hml hown hts hl.1 (mX_unsigned l (b9)) tt_stb trivial (gw_S w_70 w_71 w_14 w_72) (by decide) ⟨rfl, rfl⟩ ⟨Nat.le_of_ble_eq_true rfl, Nat.le_of_ble_eq_true rfl⟩ rfl rfl (Nat.le_of_ble_eq_true rfl) dX_root_1 ⟨Nat.zero_le _, Nat.zero_le _⟩ ?_
  refine lv_iload_n hx hb dX_root_4 rfl (lv_at hl 3 rfl) ?_
  refine kr_S 1 (As := [.int (t9)]) (rest := [.long (uw (b9))]) (r := .long (uw (t9))) hx hb hml hown hts hl.1 (mX_unsigned l (t9)) tt_stb trivial (gw_S w_70 w_71 w_14 w_72) (by decide) ⟨rfl, rfl⟩ ⟨Nat.le_of_ble_eq_true rfl, Nat.le_of_ble_eq_true rfl⟩ rfl rfl (Nat.le_of_ble_eq_true rfl) dX_root_5 ⟨Nat.zero_le _, Nat.zero_le _⟩ ?_
  refine W.lcmp hx hb dX_root_8 ?_
  refine lv_if_le (tgt := 22) hx hb dX_root_9 (by decide) (fun h_1 => ?_) (fun h_1 => absurd ((lg_cmp_le _ _).mpr ((uw_le _ _).mpr hbt)) h_1)
  rw [lg_cmp_le] at h_1
  refine lv_iload hx hb dX_root_22 (lv_at hl 4 rfl) ?_
  refine lv_if_lt (tgt := 35) hx hb dX_root_24 (by decide) (fun h_2 => absurd h_2 hv0) (fun h_2 => ?_)
  refine lv_iload hx hb dX_root_27 (lv_at hl 4 rfl) ?_
  refine lv_sipush (v := 255) hx hb dX_root_29 (by decide) ?_
  refine lv_icmp_le (tgt := 45) hx hb dX_root_32 (by decide) (fun h_3 => ?_) (fun h_3 => absurd hv h_3)
  refine lv_iload_n hx hb dX_root_45 rfl (lv_at hl 1 rfl) ?_
  by_cases hi_ri : vp_in ri 16
  rotate_left
  · exact tx_callS (As := [.int (ri)]) (rest := []) ⟨hx, hb, hml, hown, hts⟩ (tX_requireGrant l hst (ri) hi_ri) (cwS 1 hts (gw_S w_151 w_152 w_14 w_153) rfl rfl rfl (by decide) ⟨Nat.le_of_ble_eq_true rfl, Nat.le_of_ble_eq_true rfl⟩) ⟨tx_blind, tx_pre hB (fun _ _ => rfl)⟩ rfl hl.1 rfl (Nat.le_of_ble_eq_true rfl) dX_root_46 ⟨Nat.le_of_ble_eq_true rfl, Nat.le_of_ble_eq_true rfl⟩ (fun z ce H1 _ _ h1 h2 h3 => tx_leave rfl rfl rfl hne hlocks h1 h2 h3 (Nat.le_refl _) (Nat.le_refl _))
  refine kr_Sv 1 (As := [.int (ri)]) (rest := []) hx hb hml hown hts hl.1 (mX_requireGrant l (ri) hi_ri) tt_stb trivial (gw_S w_151 w_152 w_14 w_153) (by decide) ⟨rfl, rfl⟩ ⟨Nat.le_of_ble_eq_true rfl, Nat.le_of_ble_eq_true rfl⟩ rfl rfl (Nat.le_of_ble_eq_true rfl) dX_root_46 ⟨Nat.zero_le _, Nat.zero_le _⟩ ?_
  exact absurd hi_ri hbad

