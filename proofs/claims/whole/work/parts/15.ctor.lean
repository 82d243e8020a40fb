/-! The two constructors. Laid by program (wip/whole/gen_ctor.py). -/
set_option maxRecDepth 100000 in
set_option maxHeartbeats 4000000 in
theorem mX_init (l : Launch) (D : va_G) (h0 sz : Nat) : Met l yX_init (Cond.code yX_init cX_init 1 none :: gw) (rmk 1 6 96) (va_Pc [.ref h0] (fun U => U.heap.size = sz ∧ va_P D vwCl [(h0, .inr (0, [.null, .null, .null, .null, .null, .null]))] U.heap ∧ va_K D vwCl [] U ∧ va_D (fun _ => True) [(h0, .inr (0, [.null, .null, .null, .null, .null, .null]))])) (va_Qv (fun u : (Nat → Nat) × ClassId × ClassId => u.1 0 = h0) (fun u t => va_P D vwCl (xW u.2.1 u.2.2 u.1 (fun _ => 0) (fun _ => 0) (fun _ => 0) (fun _ => 0) (fun _ => 0) (fun _ => false)) t.heap ∧ va_K D vwCl (tsX u.2.1 u.2.2) t ∧ va_D (va_A [(h0, .inr (0, [.null, .null, .null, .null, .null, .null]))] sz) (xW u.2.1 u.2.2 u.1 (fun _ => 0) (fun _ => 0) (fun _ => 0) (fun _ => 0) (fun _ => 0) (fun _ => false))) (va_A [(h0, .inr (0, [.null, .null, .null, .null, .null, .null]))] sz)) 6 96 (va_A [(h0, .inr (0, [.null, .null, .null, .null, .null, .null]))] sz) := by
  refine Met.ofW (cc := cX_init) (maxL := 1) (ret := none) (by decide) rfl ?_
  intro p e s m args below meth c s₁ B9 hml hv
  obtain ⟨rfl, hsz, hP, hK, hD0⟩ := hv
  have hx := B9.exec
  have hb := B9.bytes
  have hr := B9.returns
  have hts := fun (w : Cond) (h : w ∈ gw) => atoms_spec (ws := _ :: gw) B9.pre w (List.mem_cons_of_mem _ h)
  have hown : s.vm.findClass RX = some m.cls := findClass_of_methodNamed B9.named
  have hlocks := B9.notSynchronized
  have hl := lv_entry ([.ref (h0)]) (n := 1) (Nat.le_of_ble_eq_true rfl)
  rw [lg_entry_eq]
  generalize (lg_sl ([.ref (h0)]) ++ List.replicate (1 - (lg_sl ([.ref (h0)])).length) Slot.unset).toArray = ls at hl ⊢
  have hl : lv_has ls 1 [(0, .ref (h0))] := hl
  have hin : meth.name = "<init>" := (name_of_methodNamed B9.named B9.method).1
  subst hsz
  have hD := hD0.self (sz := s.heap.size)
  generalize hAe : va_A [(h0, .inr (0, [.null, .null, .null, .null, .null, .null]))] s.heap.size = A9 at hD ⊢
  have hA : ∀ z : Nat, s.heap.size ≤ z → A9 z := fun z h => by rw [← hAe]; exact Or.inr h
  have hS : va_S A9 s.heap s.heap [] := va_S.rf
  refine lv_aload_n hx hb dX_init_0 rfl (lv_at hl 0 rfl) ?_
  refine W.objInit hx hb hown (hts _ w_26) (hts _ w_27) (hts _ w_28) rfl (by rw [hml]; exact hl.1) rfl dX_init_1 (Nat.le_of_ble_eq_true rfl) (Nat.le_of_ble_eq_true rfl) ?_
  refine W.eq (g2 := F0 m 4 ls []) rfl ?_
  refine lv_aload_n hx hb dX_init_4 rfl (lv_at hl 0 rfl) ?_
  refine lv_bipush (v := 16) hx hb dX_init_5 (by decide) ?_
  refine va_newa (atype := .int) (ty := .int) (a0 := (16, .inl (fun _ => 0))) (N' := 16) hx hb (hts _ w_48) rfl hK hP hD hS hA (fun _ => rfl) (by decide) (by decide) (by decide) (Nat.le_of_ble_eq_true rfl) (Nat.le_of_ble_eq_true rfl) dX_init_7 (fun a0 c0 H hK hP hD hS => ?_)
  have hP : va_P D vwCl [(h0, .inr (0, [.null, .null, .null, .null, .null, .null])), (a0, .inl (c0, 16, .inl (fun _ => 0)))] H := hP
  have hD : va_D A9 [(h0, .inr (0, [.null, .null, .null, .null, .null, .null])), (a0, .inl (c0, 16, .inl (fun _ => 0)))] := hD
  have hK : va_K D vwCl [(c0, .int)] s := hK
  refine W.eq (g2 := F0 m 9 ls [.ref a0, .ref h0]) rfl ?_
  refine va_putF (D := D) (ci := 0) (v := .ref a0) (ty := .array .int) (C := RX) (T := TX) (N := 6) hx hb hts inX tyX tyX_ok nmX hown hK hP hD hS 0 rfl rfl 0 (by decide) (hts _ w_29) (fun _ h9 => h9) rfl hin rfl (by decide +kernel) rfl rfl (Nat.le_of_ble_eq_true rfl) dX_init_9 (fun H locs hP hD hS => ?_)
  have hP : va_P D vwCl [(h0, .inr (0, [.ref a0, .null, .null, .null, .null, .null])), (a0, .inl (c0, 16, .inl (fun _ => 0)))] H := hP
  have hD : va_D A9 [(h0, .inr (0, [.ref a0, .null, .null, .null, .null, .null])), (a0, .inl (c0, 16, .inl (fun _ => 0)))] := hD
  refine lv_aload_n hx hb dX_init_12 rfl (lv_at hl 0 rfl) ?_
  refine lv_bipush (v := 16) hx hb dX_init_13 (by decide) ?_
  refine va_newa (atype := .int) (ty := .int) (a0 := (16, .inl (fun _ => 0))) (N' := 16) hx hb (hts _ w_48) rfl hK hP hD hS hA (fun _ => rfl) (by decide) (by decide) (by decide) (Nat.le_of_ble_eq_true rfl) (Nat.le_of_ble_eq_true rfl) dX_init_15 (fun a1 c1 H hK hP hD hS => ?_)
  have hP : va_P D vwCl [(h0, .inr (0, [.ref a0, .null, .null, .null, .null, .null])), (a0, .inl (c0, 16, .inl (fun _ => 0))), (a1, .inl (c1, 16, .inl (fun _ => 0)))] H := hP
  have hD : va_D A9 [(h0, .inr (0, [.ref a0, .null, .null, .null, .null, .null])), (a0, .inl (c0, 16, .inl (fun _ => 0))), (a1, .inl (c1, 16, .inl (fun _ => 0)))] := hD
  have hK : va_K D vwCl [(c0, .int), (c1, .int)] s := hK
  refine W.eq (g2 := F0 m 17 ls [.ref a1, .ref h0]) rfl ?_
  refine va_putF (D := D) (ci := 0) (v := .ref a1) (ty := .array .int) (C := RX) (T := TX) (N := 6) hx hb hts inX tyX tyX_ok nmX hown hK hP hD hS 0 rfl rfl 1 (by decide) (hts _ w_30) (fun _ h9 => h9) rfl hin rfl (by decide +kernel) rfl rfl (Nat.le_of_ble_eq_true rfl) dX_init_17 (fun H locs hP hD hS => ?_)
  have hP : va_P D vwCl [(h0, .inr (0, [.ref a0, .ref a1, .null, .null, .null, .null])), (a0, .inl (c0, 16, .inl (fun _ => 0))), (a1, .inl (c1, 16, .inl (fun _ => 0)))] H := hP
  have hD : va_D A9 [(h0, .inr (0, [.ref a0, .ref a1, .null, .null, .null, .null])), (a0, .inl (c0, 16, .inl (fun _ => 0))), (a1, .inl (c1, 16, .inl (fun _ => 0)))] := hD
  refine lv_aload_n hx hb dX_init_20 rfl (lv_at hl 0 rfl) ?_
  refine lv_bipush (v := 16) hx hb dX_init_21 (by decide) ?_
  refine va_newa (atype := .int) (ty := .int) (a0 := (16, .inl (fun _ => 0))) (N' := 16) hx hb (hts _ w_48) rfl hK hP hD hS hA (fun _ => rfl) (by decide) (by decide) (by decide) (Nat.le_of_ble_eq_true rfl) (Nat.le_of_ble_eq_true rfl) dX_init_23 (fun a2 c2 H hK hP hD hS => ?_)
  have hP : va_P D vwCl [(h0, .inr (0, [.ref a0, .ref a1, .null, .null, .null, .null])), (a0, .inl (c0, 16, .inl (fun _ => 0))), (a1, .inl (c1, 16, .inl (fun _ => 0))), (a2, .inl (c2, 16, .inl (fun _ => 0)))] H := hP
  have hD : va_D A9 [(h0, .inr (0, [.ref a0, .ref a1, .null, .null, .null, .null])), (a0, .inl (c0, 16, .inl (fun _ => 0))), (a1, .inl (c1, 16, .inl (fun _ => 0))), (a2, .inl (c2, 16, .inl (fun _ => 0)))] := hD
  have hK : va_K D vwCl [(c0, .int), (c1, .int), (c2, .int)] s := hK
  refine W.eq (g2 := F0 m 25 ls [.ref a2, .ref h0]) rfl ?_
  refine va_putF (D := D) (ci := 0) (v := .ref a2) (ty := .array .int) (C := RX) (T := TX) (N := 6) hx hb hts inX tyX tyX_ok nmX hown hK hP hD hS 0 rfl rfl 2 (by decide) (hts _ w_31) (fun _ h9 => h9) rfl hin rfl (by decide +kernel) rfl rfl (Nat.le_of_ble_eq_true rfl) dX_init_25 (fun H locs hP hD hS => ?_)
  have hP : va_P D vwCl [(h0, .inr (0, [.ref a0, .ref a1, .ref a2, .null, .null, .null])), (a0, .inl (c0, 16, .inl (fun _ => 0))), (a1, .inl (c1, 16, .inl (fun _ => 0))), (a2, .inl (c2, 16, .inl (fun _ => 0)))] H := hP
  have hD : va_D A9 [(h0, .inr (0, [.ref a0, .ref a1, .ref a2, .null, .null, .null])), (a0, .inl (c0, 16, .inl (fun _ => 0))), (a1, .inl (c1, 16, .inl (fun _ => 0))), (a2, .inl (c2, 16, .inl (fun _ => 0)))] := hD
  refine lv_aload_n hx hb dX_init_28 rfl (lv_at hl 0 rfl) ?_
  refine lv_bipush (v := 16) hx hb dX_init_29 (by decide) ?_
  refine va_newa (atype := .int) (ty := .int) (a0 := (16, .inl (fun _ => 0))) (N' := 16) hx hb (hts _ w_48) rfl hK hP hD hS hA (fun _ => rfl) (by decide) (by decide) (by decide) (Nat.le_of_ble_eq_true rfl) (Nat.le_of_ble_eq_true rfl) dX_init_31 (fun a3 c3 H hK hP hD hS => ?_)
  have hP : va_P D vwCl [(h0, .inr (0, [.ref a0, .ref a1, .ref a2, .null, .null, .null])), (a0, .inl (c0, 16, .inl (fun _ => 0))), (a1, .inl (c1, 16, .inl (fun _ => 0))), (a2, .inl (c2, 16, .inl (fun _ => 0))), (a3, .inl (c3, 16, .inl (fun _ => 0)))] H := hP
  have hD : va_D A9 [(h0, .inr (0, [.ref a0, .ref a1, .ref a2, .null, .null, .null])), (a0, .inl (c0, 16, .inl (fun _ => 0))), (a1, .inl (c1, 16, .inl (fun _ => 0))), (a2, .inl (c2, 16, .inl (fun _ => 0))), (a3, .inl (c3, 16, .inl (fun _ => 0)))] := hD
  have hK : va_K D vwCl [(c0, .int), (c1, .int), (c2, .int), (c3, .int)] s := hK
  refine W.eq (g2 := F0 m 33 ls [.ref a3, .ref h0]) rfl ?_
  refine va_putF (D := D) (ci := 0) (v := .ref a3) (ty := .array .int) (C := RX) (T := TX) (N := 6) hx hb hts inX tyX tyX_ok nmX hown hK hP hD hS 0 rfl rfl 3 (by decide) (hts _ w_32) (fun _ h9 => h9) rfl hin rfl (by decide +kernel) rfl rfl (Nat.le_of_ble_eq_true rfl) dX_init_33 (fun H locs hP hD hS => ?_)
  have hP : va_P D vwCl [(h0, .inr (0, [.ref a0, .ref a1, .ref a2, .ref a3, .null, .null])), (a0, .inl (c0, 16, .inl (fun _ => 0))), (a1, .inl (c1, 16, .inl (fun _ => 0))), (a2, .inl (c2, 16, .inl (fun _ => 0))), (a3, .inl (c3, 16, .inl (fun _ => 0)))] H := hP
  have hD : va_D A9 [(h0, .inr (0, [.ref a0, .ref a1, .ref a2, .ref a3, .null, .null])), (a0, .inl (c0, 16, .inl (fun _ => 0))), (a1, .inl (c1, 16, .inl (fun _ => 0))), (a2, .inl (c2, 16, .inl (fun _ => 0))), (a3, .inl (c3, 16, .inl (fun _ => 0)))] := hD
  refine lv_aload_n hx hb dX_init_36 rfl (lv_at hl 0 rfl) ?_
  refine lv_bipush (v := 16) hx hb dX_init_37 (by decide) ?_
  refine va_newa (atype := .int) (ty := .int) (a0 := (16, .inl (fun _ => 0))) (N' := 16) hx hb (hts _ w_48) rfl hK hP hD hS hA (fun _ => rfl) (by decide) (by decide) (by decide) (Nat.le_of_ble_eq_true rfl) (Nat.le_of_ble_eq_true rfl) dX_init_39 (fun a4 c4 H hK hP hD hS => ?_)
  have hP : va_P D vwCl [(h0, .inr (0, [.ref a0, .ref a1, .ref a2, .ref a3, .null, .null])), (a0, .inl (c0, 16, .inl (fun _ => 0))), (a1, .inl (c1, 16, .inl (fun _ => 0))), (a2, .inl (c2, 16, .inl (fun _ => 0))), (a3, .inl (c3, 16, .inl (fun _ => 0))), (a4, .inl (c4, 16, .inl (fun _ => 0)))] H := hP
  have hD : va_D A9 [(h0, .inr (0, [.ref a0, .ref a1, .ref a2, .ref a3, .null, .null])), (a0, .inl (c0, 16, .inl (fun _ => 0))), (a1, .inl (c1, 16, .inl (fun _ => 0))), (a2, .inl (c2, 16, .inl (fun _ => 0))), (a3, .inl (c3, 16, .inl (fun _ => 0))), (a4, .inl (c4, 16, .inl (fun _ => 0)))] := hD
  have hK : va_K D vwCl [(c0, .int), (c1, .int), (c2, .int), (c3, .int), (c4, .int)] s := hK
  refine W.eq (g2 := F0 m 41 ls [.ref a4, .ref h0]) rfl ?_
  refine va_putF (D := D) (ci := 0) (v := .ref a4) (ty := .array .int) (C := RX) (T := TX) (N := 6) hx hb hts inX tyX tyX_ok nmX hown hK hP hD hS 0 rfl rfl 4 (by decide) (hts _ w_33) (fun _ h9 => h9) rfl hin rfl (by decide +kernel) rfl rfl (Nat.le_of_ble_eq_true rfl) dX_init_41 (fun H locs hP hD hS => ?_)
  have hP : va_P D vwCl [(h0, .inr (0, [.ref a0, .ref a1, .ref a2, .ref a3, .ref a4, .null])), (a0, .inl (c0, 16, .inl (fun _ => 0))), (a1, .inl (c1, 16, .inl (fun _ => 0))), (a2, .inl (c2, 16, .inl (fun _ => 0))), (a3, .inl (c3, 16, .inl (fun _ => 0))), (a4, .inl (c4, 16, .inl (fun _ => 0)))] H := hP
  have hD : va_D A9 [(h0, .inr (0, [.ref a0, .ref a1, .ref a2, .ref a3, .ref a4, .null])), (a0, .inl (c0, 16, .inl (fun _ => 0))), (a1, .inl (c1, 16, .inl (fun _ => 0))), (a2, .inl (c2, 16, .inl (fun _ => 0))), (a3, .inl (c3, 16, .inl (fun _ => 0))), (a4, .inl (c4, 16, .inl (fun _ => 0)))] := hD
  refine lv_aload_n hx hb dX_init_44 rfl (lv_at hl 0 rfl) ?_
  refine lv_bipush (v := 16) hx hb dX_init_45 (by decide) ?_
  refine va_newa (atype := .boolean) (ty := .boolean) (a0 := (16, .inl (fun _ => 0))) (N' := 16) hx hb (hts _ w_49) rfl hK hP hD hS hA (fun _ => rfl) (by decide) (by decide) (by decide) (Nat.le_of_ble_eq_true rfl) (Nat.le_of_ble_eq_true rfl) dX_init_47 (fun a5 c5 H hK hP hD hS => ?_)
  have hP : va_P D vwCl [(h0, .inr (0, [.ref a0, .ref a1, .ref a2, .ref a3, .ref a4, .null])), (a0, .inl (c0, 16, .inl (fun _ => 0))), (a1, .inl (c1, 16, .inl (fun _ => 0))), (a2, .inl (c2, 16, .inl (fun _ => 0))), (a3, .inl (c3, 16, .inl (fun _ => 0))), (a4, .inl (c4, 16, .inl (fun _ => 0))), (a5, .inl (c5, 16, .inl (fun _ => 0)))] H := hP
  have hD : va_D A9 [(h0, .inr (0, [.ref a0, .ref a1, .ref a2, .ref a3, .ref a4, .null])), (a0, .inl (c0, 16, .inl (fun _ => 0))), (a1, .inl (c1, 16, .inl (fun _ => 0))), (a2, .inl (c2, 16, .inl (fun _ => 0))), (a3, .inl (c3, 16, .inl (fun _ => 0))), (a4, .inl (c4, 16, .inl (fun _ => 0))), (a5, .inl (c5, 16, .inl (fun _ => 0)))] := hD
  have hK : va_K D vwCl [(c0, .int), (c1, .int), (c2, .int), (c3, .int), (c4, .int), (c5, .boolean)] s := hK
  refine W.eq (g2 := F0 m 49 ls [.ref a5, .ref h0]) rfl ?_
  refine va_putF (D := D) (ci := 0) (v := .ref a5) (ty := .array .boolean) (C := RX) (T := TX) (N := 6) hx hb hts inX tyX tyX_ok nmX hown hK hP hD hS 0 rfl rfl 5 (by decide) (hts _ w_34) (fun _ h9 => h9) rfl hin rfl (by decide +kernel) rfl rfl (Nat.le_of_ble_eq_true rfl) dX_init_49 (fun H locs hP hD hS => ?_)
  have hP : va_P D vwCl [(h0, .inr (0, [.ref a0, .ref a1, .ref a2, .ref a3, .ref a4, .ref a5])), (a0, .inl (c0, 16, .inl (fun _ => 0))), (a1, .inl (c1, 16, .inl (fun _ => 0))), (a2, .inl (c2, 16, .inl (fun _ => 0))), (a3, .inl (c3, 16, .inl (fun _ => 0))), (a4, .inl (c4, 16, .inl (fun _ => 0))), (a5, .inl (c5, 16, .inl (fun _ => 0)))] H := hP
  have hD : va_D A9 [(h0, .inr (0, [.ref a0, .ref a1, .ref a2, .ref a3, .ref a4, .ref a5])), (a0, .inl (c0, 16, .inl (fun _ => 0))), (a1, .inl (c1, 16, .inl (fun _ => 0))), (a2, .inl (c2, 16, .inl (fun _ => 0))), (a3, .inl (c3, 16, .inl (fun _ => 0))), (a4, .inl (c4, 16, .inl (fun _ => 0))), (a5, .inl (c5, 16, .inl (fun _ => 0)))] := hD
  obtain rfl : c0 = c1 := Option.some.inj ((va_nm_int (hK.2 0 _ rfl).2).symm.trans (va_nm_int (hK.2 1 _ rfl).2))
  obtain rfl : c0 = c2 := Option.some.inj ((va_nm_int (hK.2 0 _ rfl).2).symm.trans (va_nm_int (hK.2 2 _ rfl).2))
  obtain rfl : c0 = c3 := Option.some.inj ((va_nm_int (hK.2 0 _ rfl).2).symm.trans (va_nm_int (hK.2 3 _ rfl).2))
  obtain rfl : c0 = c4 := Option.some.inj ((va_nm_int (hK.2 0 _ rfl).2).symm.trans (va_nm_int (hK.2 4 _ rfl).2))
  have hK := hK.sub (tys' := [(c0, .int), (c5, .boolean)]) [0, 5] rfl
  refine W.widen (k := 6) (n := 96) (Nat.le_of_ble_eq_true rfl) (Nat.le_of_ble_eq_true rfl) ?_
  exact W.vret hx hb hr (fun t9 ht hW => ⟨⟨(fun k => match k with | 0 => h0 | 1 => a0 | 2 => a1 | 3 => a2 | 4 => a3 | 5 => a4 | _ => a5, c0, c5), rfl, rfl, by rw [ht]; exact hP, va_K.moved hW.alike hK, hD⟩, hS.F ht⟩) hS.2.2 dX_init_52

set_option maxRecDepth 100000 in
set_option maxHeartbeats 4000000 in
theorem mM_init (l : Launch) (D : va_G) (h0 sz : Nat) : Met l yM_init (Cond.code yM_init cM_init 1 none :: gw) (rmk 1 6 96) (va_Pc [.ref h0] (fun U => U.heap.size = sz ∧ va_P D vwCl [(h0, .inr (1, [.int 0, .null, .null, .null, .null, .null, .null]))] U.heap ∧ va_K D vwCl [] U ∧ va_D (fun _ => True) [(h0, .inr (1, [.int 0, .null, .null, .null, .null, .null, .null]))])) (va_Qv (fun u : (Nat → Nat) × ClassId × ClassId × ClassId => u.1 0 = h0) (fun u t => va_P D vwCl (mW u.2.1 u.2.2.1 u.2.2.2 u.1 0 (fun _ => 0) (fun _ => 0) (fun _ => 0) (fun _ => 0) (fun _ => 0) (fun _ => false)) t.heap ∧ va_K D vwCl (tsM u.2.1 u.2.2.1 u.2.2.2) t ∧ va_D (va_A [(h0, .inr (1, [.int 0, .null, .null, .null, .null, .null, .null]))] sz) (mW u.2.1 u.2.2.1 u.2.2.2 u.1 0 (fun _ => 0) (fun _ => 0) (fun _ => 0) (fun _ => 0) (fun _ => 0) (fun _ => false))) (va_A [(h0, .inr (1, [.int 0, .null, .null, .null, .null, .null, .null]))] sz)) 6 96 (va_A [(h0, .inr (1, [.int 0, .null, .null, .null, .null, .null, .null]))] sz) := by
  refine Met.ofW (cc := cM_init) (maxL := 1) (ret := none) (by decide) rfl ?_
  intro p e s m args below meth c s₁ B9 hml hv
  obtain ⟨rfl, hsz, hP, hK, hD0⟩ := hv
  have hx := B9.exec
  have hb := B9.bytes
  have hr := B9.returns
  have hts := fun (w : Cond) (h : w ∈ gw) => atoms_spec (ws := _ :: gw) B9.pre w (List.mem_cons_of_mem _ h)
  have hown : s.vm.findClass RM = some m.cls := findClass_of_methodNamed B9.named
  have hlocks := B9.notSynchronized
  have hl := lv_entry ([.ref (h0)]) (n := 1) (Nat.le_of_ble_eq_true rfl)
  rw [lg_entry_eq]
  generalize (lg_sl ([.ref (h0)]) ++ List.replicate (1 - (lg_sl ([.ref (h0)])).length) Slot.unset).toArray = ls at hl ⊢
  have hl : lv_has ls 1 [(0, .ref (h0))] := hl
  have hin : meth.name = "<init>" := (name_of_methodNamed B9.named B9.method).1
  subst hsz
  have hD := hD0.self (sz := s.heap.size)
  generalize hAe : va_A [(h0, .inr (1, [.int 0, .null, .null, .null, .null, .null, .null]))] s.heap.size = A9 at hD ⊢
  have hA : ∀ z : Nat, s.heap.size ≤ z → A9 z := fun z h => by rw [← hAe]; exact Or.inr h
  have hS : va_S A9 s.heap s.heap [] := va_S.rf
  refine lv_aload_n hx hb dM_init_0 rfl (lv_at hl 0 rfl) ?_
  refine W.objInit hx hb hown (hts _ w_254) (hts _ w_27) (hts _ w_28) rfl (by rw [hml]; exact hl.1) rfl dM_init_1 (Nat.le_of_ble_eq_true rfl) (Nat.le_of_ble_eq_true rfl) ?_
  refine W.eq (g2 := F0 m 4 ls []) rfl ?_
  refine lv_aload_n hx hb dM_init_4 rfl (lv_at hl 0 rfl) ?_
  refine lv_bipush (v := 16) hx hb dM_init_5 (by decide) ?_
  refine va_newa (atype := .long) (ty := .long) (a0 := (16, .inr (.inl (fun _ => 0)))) (N' := 16) hx hb (hts _ w_277) rfl hK hP hD hS hA (fun _ => rfl) (by decide) (by decide) (by decide) (Nat.le_of_ble_eq_true rfl) (Nat.le_of_ble_eq_true rfl) dM_init_7 (fun a0 c0 H hK hP hD hS => ?_)
  have hP : va_P D vwCl [(h0, .inr (1, [.int 0, .null, .null, .null, .null, .null, .null])), (a0, .inl (c0, 16, .inr (.inl (fun _ => 0))))] H := hP
  have hD : va_D A9 [(h0, .inr (1, [.int 0, .null, .null, .null, .null, .null, .null])), (a0, .inl (c0, 16, .inr (.inl (fun _ => 0))))] := hD
  have hK : va_K D vwCl [(c0, .long)] s := hK
  refine W.eq (g2 := F0 m 9 ls [.ref a0, .ref h0]) rfl ?_
  refine va_putF (D := D) (ci := 1) (v := .ref a0) (ty := .array .long) (C := RM) (T := TM) (N := 7) hx hb hts inM tyM tyM_ok nmM hown hK hP hD hS 0 rfl rfl 1 (by decide) (hts _ w_256) (fun _ h9 => h9) rfl hin rfl (by decide +kernel) rfl rfl (Nat.le_of_ble_eq_true rfl) dM_init_9 (fun H locs hP hD hS => ?_)
  have hP : va_P D vwCl [(h0, .inr (1, [.int 0, .ref a0, .null, .null, .null, .null, .null])), (a0, .inl (c0, 16, .inr (.inl (fun _ => 0))))] H := hP
  have hD : va_D A9 [(h0, .inr (1, [.int 0, .ref a0, .null, .null, .null, .null, .null])), (a0, .inl (c0, 16, .inr (.inl (fun _ => 0))))] := hD
  refine lv_aload_n hx hb dM_init_12 rfl (lv_at hl 0 rfl) ?_
  refine lv_bipush (v := 16) hx hb dM_init_13 (by decide) ?_
  refine va_newa (atype := .long) (ty := .long) (a0 := (16, .inr (.inl (fun _ => 0)))) (N' := 16) hx hb (hts _ w_277) rfl hK hP hD hS hA (fun _ => rfl) (by decide) (by decide) (by decide) (Nat.le_of_ble_eq_true rfl) (Nat.le_of_ble_eq_true rfl) dM_init_15 (fun a1 c1 H hK hP hD hS => ?_)
  have hP : va_P D vwCl [(h0, .inr (1, [.int 0, .ref a0, .null, .null, .null, .null, .null])), (a0, .inl (c0, 16, .inr (.inl (fun _ => 0)))), (a1, .inl (c1, 16, .inr (.inl (fun _ => 0))))] H := hP
  have hD : va_D A9 [(h0, .inr (1, [.int 0, .ref a0, .null, .null, .null, .null, .null])), (a0, .inl (c0, 16, .inr (.inl (fun _ => 0)))), (a1, .inl (c1, 16, .inr (.inl (fun _ => 0))))] := hD
  have hK : va_K D vwCl [(c0, .long), (c1, .long)] s := hK
  refine W.eq (g2 := F0 m 17 ls [.ref a1, .ref h0]) rfl ?_
  refine va_putF (D := D) (ci := 1) (v := .ref a1) (ty := .array .long) (C := RM) (T := TM) (N := 7) hx hb hts inM tyM tyM_ok nmM hown hK hP hD hS 0 rfl rfl 2 (by decide) (hts _ w_257) (fun _ h9 => h9) rfl hin rfl (by decide +kernel) rfl rfl (Nat.le_of_ble_eq_true rfl) dM_init_17 (fun H locs hP hD hS => ?_)
  have hP : va_P D vwCl [(h0, .inr (1, [.int 0, .ref a0, .ref a1, .null, .null, .null, .null])), (a0, .inl (c0, 16, .inr (.inl (fun _ => 0)))), (a1, .inl (c1, 16, .inr (.inl (fun _ => 0))))] H := hP
  have hD : va_D A9 [(h0, .inr (1, [.int 0, .ref a0, .ref a1, .null, .null, .null, .null])), (a0, .inl (c0, 16, .inr (.inl (fun _ => 0)))), (a1, .inl (c1, 16, .inr (.inl (fun _ => 0))))] := hD
  refine lv_aload_n hx hb dM_init_20 rfl (lv_at hl 0 rfl) ?_
  refine lv_bipush (v := 16) hx hb dM_init_21 (by decide) ?_
  refine va_newa (atype := .long) (ty := .long) (a0 := (16, .inr (.inl (fun _ => 0)))) (N' := 16) hx hb (hts _ w_277) rfl hK hP hD hS hA (fun _ => rfl) (by decide) (by decide) (by decide) (Nat.le_of_ble_eq_true rfl) (Nat.le_of_ble_eq_true rfl) dM_init_23 (fun a2 c2 H hK hP hD hS => ?_)
  have hP : va_P D vwCl [(h0, .inr (1, [.int 0, .ref a0, .ref a1, .null, .null, .null, .null])), (a0, .inl (c0, 16, .inr (.inl (fun _ => 0)))), (a1, .inl (c1, 16, .inr (.inl (fun _ => 0)))), (a2, .inl (c2, 16, .inr (.inl (fun _ => 0))))] H := hP
  have hD : va_D A9 [(h0, .inr (1, [.int 0, .ref a0, .ref a1, .null, .null, .null, .null])), (a0, .inl (c0, 16, .inr (.inl (fun _ => 0)))), (a1, .inl (c1, 16, .inr (.inl (fun _ => 0)))), (a2, .inl (c2, 16, .inr (.inl (fun _ => 0))))] := hD
  have hK : va_K D vwCl [(c0, .long), (c1, .long), (c2, .long)] s := hK
  refine W.eq (g2 := F0 m 25 ls [.ref a2, .ref h0]) rfl ?_
  refine va_putF (D := D) (ci := 1) (v := .ref a2) (ty := .array .long) (C := RM) (T := TM) (N := 7) hx hb hts inM tyM tyM_ok nmM hown hK hP hD hS 0 rfl rfl 3 (by decide) (hts _ w_258) (fun _ h9 => h9) rfl hin rfl (by decide +kernel) rfl rfl (Nat.le_of_ble_eq_true rfl) dM_init_25 (fun H locs hP hD hS => ?_)
  have hP : va_P D vwCl [(h0, .inr (1, [.int 0, .ref a0, .ref a1, .ref a2, .null, .null, .null])), (a0, .inl (c0, 16, .inr (.inl (fun _ => 0)))), (a1, .inl (c1, 16, .inr (.inl (fun _ => 0)))), (a2, .inl (c2, 16, .inr (.inl (fun _ => 0))))] H := hP
  have hD : va_D A9 [(h0, .inr (1, [.int 0, .ref a0, .ref a1, .ref a2, .null, .null, .null])), (a0, .inl (c0, 16, .inr (.inl (fun _ => 0)))), (a1, .inl (c1, 16, .inr (.inl (fun _ => 0)))), (a2, .inl (c2, 16, .inr (.inl (fun _ => 0))))] := hD
  refine lv_aload_n hx hb dM_init_28 rfl (lv_at hl 0 rfl) ?_
  refine lv_bipush (v := 16) hx hb dM_init_29 (by decide) ?_
  refine va_newa (atype := .int) (ty := .int) (a0 := (16, .inl (fun _ => 0))) (N' := 16) hx hb (hts _ w_48) rfl hK hP hD hS hA (fun _ => rfl) (by decide) (by decide) (by decide) (Nat.le_of_ble_eq_true rfl) (Nat.le_of_ble_eq_true rfl) dM_init_31 (fun a3 c3 H hK hP hD hS => ?_)
  have hP : va_P D vwCl [(h0, .inr (1, [.int 0, .ref a0, .ref a1, .ref a2, .null, .null, .null])), (a0, .inl (c0, 16, .inr (.inl (fun _ => 0)))), (a1, .inl (c1, 16, .inr (.inl (fun _ => 0)))), (a2, .inl (c2, 16, .inr (.inl (fun _ => 0)))), (a3, .inl (c3, 16, .inl (fun _ => 0)))] H := hP
  have hD : va_D A9 [(h0, .inr (1, [.int 0, .ref a0, .ref a1, .ref a2, .null, .null, .null])), (a0, .inl (c0, 16, .inr (.inl (fun _ => 0)))), (a1, .inl (c1, 16, .inr (.inl (fun _ => 0)))), (a2, .inl (c2, 16, .inr (.inl (fun _ => 0)))), (a3, .inl (c3, 16, .inl (fun _ => 0)))] := hD
  have hK : va_K D vwCl [(c0, .long), (c1, .long), (c2, .long), (c3, .int)] s := hK
  refine W.eq (g2 := F0 m 33 ls [.ref a3, .ref h0]) rfl ?_
  refine va_putF (D := D) (ci := 1) (v := .ref a3) (ty := .array .int) (C := RM) (T := TM) (N := 7) hx hb hts inM tyM tyM_ok nmM hown hK hP hD hS 0 rfl rfl 4 (by decide) (hts _ w_259) (fun _ h9 => h9) rfl hin rfl (by decide +kernel) rfl rfl (Nat.le_of_ble_eq_true rfl) dM_init_33 (fun H locs hP hD hS => ?_)
  have hP : va_P D vwCl [(h0, .inr (1, [.int 0, .ref a0, .ref a1, .ref a2, .ref a3, .null, .null])), (a0, .inl (c0, 16, .inr (.inl (fun _ => 0)))), (a1, .inl (c1, 16, .inr (.inl (fun _ => 0)))), (a2, .inl (c2, 16, .inr (.inl (fun _ => 0)))), (a3, .inl (c3, 16, .inl (fun _ => 0)))] H := hP
  have hD : va_D A9 [(h0, .inr (1, [.int 0, .ref a0, .ref a1, .ref a2, .ref a3, .null, .null])), (a0, .inl (c0, 16, .inr (.inl (fun _ => 0)))), (a1, .inl (c1, 16, .inr (.inl (fun _ => 0)))), (a2, .inl (c2, 16, .inr (.inl (fun _ => 0)))), (a3, .inl (c3, 16, .inl (fun _ => 0)))] := hD
  refine lv_aload_n hx hb dM_init_36 rfl (lv_at hl 0 rfl) ?_
  refine lv_bipush (v := 16) hx hb dM_init_37 (by decide) ?_
  refine va_newa (atype := .int) (ty := .int) (a0 := (16, .inl (fun _ => 0))) (N' := 16) hx hb (hts _ w_48) rfl hK hP hD hS hA (fun _ => rfl) (by decide) (by decide) (by decide) (Nat.le_of_ble_eq_true rfl) (Nat.le_of_ble_eq_true rfl) dM_init_39 (fun a4 c4 H hK hP hD hS => ?_)
  have hP : va_P D vwCl [(h0, .inr (1, [.int 0, .ref a0, .ref a1, .ref a2, .ref a3, .null, .null])), (a0, .inl (c0, 16, .inr (.inl (fun _ => 0)))), (a1, .inl (c1, 16, .inr (.inl (fun _ => 0)))), (a2, .inl (c2, 16, .inr (.inl (fun _ => 0)))), (a3, .inl (c3, 16, .inl (fun _ => 0))), (a4, .inl (c4, 16, .inl (fun _ => 0)))] H := hP
  have hD : va_D A9 [(h0, .inr (1, [.int 0, .ref a0, .ref a1, .ref a2, .ref a3, .null, .null])), (a0, .inl (c0, 16, .inr (.inl (fun _ => 0)))), (a1, .inl (c1, 16, .inr (.inl (fun _ => 0)))), (a2, .inl (c2, 16, .inr (.inl (fun _ => 0)))), (a3, .inl (c3, 16, .inl (fun _ => 0))), (a4, .inl (c4, 16, .inl (fun _ => 0)))] := hD
  have hK : va_K D vwCl [(c0, .long), (c1, .long), (c2, .long), (c3, .int), (c4, .int)] s := hK
  refine W.eq (g2 := F0 m 41 ls [.ref a4, .ref h0]) rfl ?_
  refine va_putF (D := D) (ci := 1) (v := .ref a4) (ty := .array .int) (C := RM) (T := TM) (N := 7) hx hb hts inM tyM tyM_ok nmM hown hK hP hD hS 0 rfl rfl 5 (by decide) (hts _ w_260) (fun _ h9 => h9) rfl hin rfl (by decide +kernel) rfl rfl (Nat.le_of_ble_eq_true rfl) dM_init_41 (fun H locs hP hD hS => ?_)
  have hP : va_P D vwCl [(h0, .inr (1, [.int 0, .ref a0, .ref a1, .ref a2, .ref a3, .ref a4, .null])), (a0, .inl (c0, 16, .inr (.inl (fun _ => 0)))), (a1, .inl (c1, 16, .inr (.inl (fun _ => 0)))), (a2, .inl (c2, 16, .inr (.inl (fun _ => 0)))), (a3, .inl (c3, 16, .inl (fun _ => 0))), (a4, .inl (c4, 16, .inl (fun _ => 0)))] H := hP
  have hD : va_D A9 [(h0, .inr (1, [.int 0, .ref a0, .ref a1, .ref a2, .ref a3, .ref a4, .null])), (a0, .inl (c0, 16, .inr (.inl (fun _ => 0)))), (a1, .inl (c1, 16, .inr (.inl (fun _ => 0)))), (a2, .inl (c2, 16, .inr (.inl (fun _ => 0)))), (a3, .inl (c3, 16, .inl (fun _ => 0))), (a4, .inl (c4, 16, .inl (fun _ => 0)))] := hD
  refine lv_aload_n hx hb dM_init_44 rfl (lv_at hl 0 rfl) ?_
  refine lv_bipush (v := 16) hx hb dM_init_45 (by decide) ?_
  refine va_newa (atype := .boolean) (ty := .boolean) (a0 := (16, .inl (fun _ => 0))) (N' := 16) hx hb (hts _ w_49) rfl hK hP hD hS hA (fun _ => rfl) (by decide) (by decide) (by decide) (Nat.le_of_ble_eq_true rfl) (Nat.le_of_ble_eq_true rfl) dM_init_47 (fun a5 c5 H hK hP hD hS => ?_)
  have hP : va_P D vwCl [(h0, .inr (1, [.int 0, .ref a0, .ref a1, .ref a2, .ref a3, .ref a4, .null])), (a0, .inl (c0, 16, .inr (.inl (fun _ => 0)))), (a1, .inl (c1, 16, .inr (.inl (fun _ => 0)))), (a2, .inl (c2, 16, .inr (.inl (fun _ => 0)))), (a3, .inl (c3, 16, .inl (fun _ => 0))), (a4, .inl (c4, 16, .inl (fun _ => 0))), (a5, .inl (c5, 16, .inl (fun _ => 0)))] H := hP
  have hD : va_D A9 [(h0, .inr (1, [.int 0, .ref a0, .ref a1, .ref a2, .ref a3, .ref a4, .null])), (a0, .inl (c0, 16, .inr (.inl (fun _ => 0)))), (a1, .inl (c1, 16, .inr (.inl (fun _ => 0)))), (a2, .inl (c2, 16, .inr (.inl (fun _ => 0)))), (a3, .inl (c3, 16, .inl (fun _ => 0))), (a4, .inl (c4, 16, .inl (fun _ => 0))), (a5, .inl (c5, 16, .inl (fun _ => 0)))] := hD
  have hK : va_K D vwCl [(c0, .long), (c1, .long), (c2, .long), (c3, .int), (c4, .int), (c5, .boolean)] s := hK
  refine W.eq (g2 := F0 m 49 ls [.ref a5, .ref h0]) rfl ?_
  refine va_putF (D := D) (ci := 1) (v := .ref a5) (ty := .array .boolean) (C := RM) (T := TM) (N := 7) hx hb hts inM tyM tyM_ok nmM hown hK hP hD hS 0 rfl rfl 6 (by decide) (hts _ w_261) (fun _ h9 => h9) rfl hin rfl (by decide +kernel) rfl rfl (Nat.le_of_ble_eq_true rfl) dM_init_49 (fun H locs hP hD hS => ?_)
  have hP : va_P D vwCl [(h0, .inr (1, [.int 0, .ref a0, .ref a1, .ref a2, .ref a3, .ref a4, .ref a5])), (a0, .inl (c0, 16, .inr (.inl (fun _ => 0)))), (a1, .inl (c1, 16, .inr (.inl (fun _ => 0)))), (a2, .inl (c2, 16, .inr (.inl (fun _ => 0)))), (a3, .inl (c3, 16, .inl (fun _ => 0))), (a4, .inl (c4, 16, .inl (fun _ => 0))), (a5, .inl (c5, 16, .inl (fun _ => 0)))] H := hP
  have hD : va_D A9 [(h0, .inr (1, [.int 0, .ref a0, .ref a1, .ref a2, .ref a3, .ref a4, .ref a5])), (a0, .inl (c0, 16, .inr (.inl (fun _ => 0)))), (a1, .inl (c1, 16, .inr (.inl (fun _ => 0)))), (a2, .inl (c2, 16, .inr (.inl (fun _ => 0)))), (a3, .inl (c3, 16, .inl (fun _ => 0))), (a4, .inl (c4, 16, .inl (fun _ => 0))), (a5, .inl (c5, 16, .inl (fun _ => 0)))] := hD
  obtain rfl : c0 = c1 := Option.some.inj ((va_nm_long (hK.2 0 _ rfl).2).symm.trans (va_nm_long (hK.2 1 _ rfl).2))
  obtain rfl : c0 = c2 := Option.some.inj ((va_nm_long (hK.2 0 _ rfl).2).symm.trans (va_nm_long (hK.2 2 _ rfl).2))
  obtain rfl : c3 = c4 := Option.some.inj ((va_nm_int (hK.2 3 _ rfl).2).symm.trans (va_nm_int (hK.2 4 _ rfl).2))
  have hK := hK.sub (tys' := [(c0, .long), (c3, .int), (c5, .boolean)]) [0, 3, 5] rfl
  refine W.widen (k := 6) (n := 96) (Nat.le_of_ble_eq_true rfl) (Nat.le_of_ble_eq_true rfl) ?_
  exact W.vret hx hb hr (fun t9 ht hW => ⟨⟨(fun k => match k with | 0 => h0 | 1 => a0 | 2 => a1 | 3 => a2 | 4 => a3 | 5 => a4 | _ => a5, c0, c3, c5), rfl, rfl, by rw [ht]; exact hP, va_K.moved hW.alike hK, hD⟩, hS.F ht⟩) hS.2.2 dM_init_52

