/-! Contracts of the reference: root, number, move, narrow, within, part, allows. Laid by program (wip/whole/gen_m2.py). -/
set_option maxRecDepth 100000 in
set_option maxHeartbeats 4000000 in
theorem mM_number_y (l : Launch) (D : va_G) (cJ cI cZ : ClassId) (q : Nat → Nat) (e0 : Int32) (A B T P Y : Nat → Int32) (G : Nat → Bool) (sz : Nat) (ri v : Int32) (hri : vp_in ri 16) : Met l yM_number (Cond.code yM_number cM_number 3 none :: gw) (rmk 2 0 0) (va_Pc [.ref (q 0), .int (ri), .int (v)] (kB D vwCl (mW cJ cI cZ q (e0) A B T P Y G) (tsM cJ cI cZ) sz)) (kQ none D vwCl (mW cJ cI cZ q (0) (upd A ri.toNatClampNeg (v)) (upd B ri.toNatClampNeg (0)) (upd T ri.toNatClampNeg (0)) (upd P ri.toNatClampNeg (0)) (upd Y ri.toNatClampNeg (0)) (ub G ri.toNatClampNeg (false))) (va_A (mW cJ cI cZ q (e0) A B T P Y G) sz)) 0 0 (va_A (mW cJ cI cZ q (e0) A B T P Y G) sz) := by
  refine Met.ofW (cc := cM_number) (maxL := 3) (ret := none) (by decide) rfl ?_
  intro p e s m args below meth c s₁ B9 hml hv
  obtain ⟨rfl, hsz, hP, hK, hD0⟩ := hv
  have hx := B9.exec
  have hb := B9.bytes
  have hr := B9.returns
  have hts := fun (w : Cond) (h : w ∈ gw) => atoms_spec (ws := _ :: gw) B9.pre w (List.mem_cons_of_mem _ h)
  have hown : s.vm.findClass RM = some m.cls := findClass_of_methodNamed B9.named
  have hlocks := B9.notSynchronized
  have hl := lv_entry ([.ref (q 0), .int (ri), .int (v)]) (n := 3) (Nat.le_of_ble_eq_true rfl)
  rw [lg_entry_eq]
  generalize (lg_sl ([.ref (q 0), .int (ri), .int (v)]) ++ List.replicate (3 - (lg_sl ([.ref (q 0), .int (ri), .int (v)])).length) Slot.unset).toArray = ls at hl ⊢
  have hl : lv_has ls 3 [(0, .ref (q 0)), (1, .int (ri)), (2, .int (v))] := hl
  subst hsz
  have hD := hD0.self (sz := s.heap.size)
  generalize hAe : va_A (mW cJ cI cZ q (e0) A B T P Y G) s.heap.size = A9 at hD ⊢
  have hA : ∀ z : Nat, s.heap.size ≤ z → A9 z := fun z h => by rw [← hAe]; exact Or.inr h
  have hS : va_S A9 s.heap s.heap [] := va_S.rf
  have hP : va_P D vwCl (mW cJ cI cZ q (e0) A B T P Y G) s.heap := hP
  refine lv_aload_n hx hb dM_number_0 rfl (lv_at hl 0 rfl) ?_
  refine lv_iconst (v := 0) hx hb dM_number_1 (by decide) ?_
  refine va_put (D := D) (ci := 1) (v := .int (0)) (ty := .int) (C := RM) (T := TM) (N := 7) hx hb hts inM tyM tyM_ok nmM hown hK hP hD hS 0 rfl rfl 0 (by decide) (hts _ w_255) (fun _ h9 => h9) rfl (by decide +kernel) rfl rfl (Nat.le_of_ble_eq_true rfl) dM_number_2 (fun H locs hP hD hS => ?_)
  have hP : va_P D vwCl (mW cJ cI cZ q (0) A B T P Y G) H := hP
  have hD : va_D A9 (mW cJ cI cZ q (0) A B T P Y G) := hD
  refine lv_aload_n hx hb dM_number_5 rfl (lv_at hl 0 rfl) ?_
  refine lv_iload_n hx hb dM_number_6 rfl (lv_at hl 1 rfl) ?_
  refine kr_S 1 (As := [.int (ri)]) (rest := [.ref (q 0)]) (r := .int (bi (gi ri))) hx hb hml hown hts hl.1 (mM_is l (ri)) tt_stb trivial (gw_S w_298 w_299 w_15 w_300) (by decide) ⟨rfl, rfl⟩ ⟨Nat.le_of_ble_eq_true rfl, Nat.le_of_ble_eq_true rfl⟩ rfl rfl (Nat.le_of_ble_eq_true rfl) dM_number_7 ⟨Nat.zero_le _, Nat.zero_le _⟩ ?_
  refine lv_if_ne (tgt := 17) hx hb dM_number_10 (by decide) (fun h_1 => ?_) (fun h_1 => absurd h_1 (gi_nz hri))
  have h_1 := bi_n h_1
  refine lv_iconst (v := 0) hx hb dM_number_17 (by decide) ?_
  refine lv_iconst (v := 1) hx hb dM_number_18 (by decide) ?_
  refine kw_V 2 [0, 1, 2, 3, 4, 5, 6] [] (b := q 0) (As := [.int (0), .int (1)]) (rest := []) (wc := mW cJ cI cZ q (0) A B T P Y G) (wr := []) (w1 := mW cJ cI cZ q (0) A B T P Y G) hx hb hml hown hts hl.1 hP hD hS hA hK (mM_fails_f l D cJ cI cZ q 0 A B T P Y G _ 1) (gw_V w_294 w_296 w_8 w_15 w_297) (by decide) ⟨rfl, rfl⟩ ⟨Nat.le_of_ble_eq_true rfl, Nat.le_of_ble_eq_true rfl⟩ (va_recv hK hP (ci := 1) rfl (q0 := 0) rfl) rfl rfl (Nat.le_of_ble_eq_true rfl) dM_number_19 ⟨Nat.zero_le _, Nat.zero_le _⟩ rfl rfl ⟨by decide, by decide⟩ (by decide) (fun H locs hP hD hS => ?_)
  have hP : va_P D vwCl (mW cJ cI cZ q (0) A B T P Y G) H := hP
  have hD : va_D A9 (mW cJ cI cZ q (0) A B T P Y G) := hD
  refine W.eq (g2 := F0 m 22 ls [.int (0)]) rfl ?_
  refine lv_if_eq (tgt := 26) hx hb dM_number_22 (by decide) (fun h_2 => ?_) (fun h_2 => absurd (by decide) h_2)
  refine lv_aload_n hx hb dM_number_26 rfl (lv_at hl 0 rfl) ?_
  refine lv_iload_n hx hb dM_number_27 rfl (lv_at hl 1 rfl) ?_
  refine lv_iload_n hx hb dM_number_28 rfl (lv_at hl 2 rfl) ?_
  refine kr_S 1 (As := [.int (v)]) (rest := [.int (ri), .ref (q 0)]) (r := .long (uw (v))) hx hb hml hown hts hl.1 (mM_wide l (v)) tt_stb trivial (gw_S w_286 w_287 w_15 w_288) (by decide) ⟨rfl, rfl⟩ ⟨Nat.le_of_ble_eq_true rfl, Nat.le_of_ble_eq_true rfl⟩ rfl rfl (Nat.le_of_ble_eq_true rfl) dM_number_29 ⟨Nat.zero_le _, Nat.zero_le _⟩ ?_
  refine lv_lconst (v := 0) hx hb dM_number_32 (by decide) ?_
  refine lv_lconst (v := 0) hx hb dM_number_33 (by decide) ?_
  refine lv_iconst (v := 0) hx hb dM_number_34 (by decide) ?_
  refine lv_iconst (v := 0) hx hb dM_number_35 (by decide) ?_
  refine lv_iconst (v := 0) hx hb dM_number_36 (by decide) ?_
  refine W.eq (g2 := F0 m 37 ls [.int (bi (false)), .int (0), .int (0), .long (uw (0)), .long (uw (0)), .long (uw (v)), .int (ri), .ref (q 0)]) rfl ?_
  refine kw_V 7 [0, 1, 2, 3, 4, 5, 6] [] (b := q 0) (As := [.int (ri), .long (uw (v)), .long (uw (0)), .long (uw (0)), .int (0), .int (0), .int (bi (false))]) (rest := []) (wc := mW cJ cI cZ q (0) A B T P Y G) (wr := []) (w1 := mW cJ cI cZ q (0) (upd A ri.toNatClampNeg (v)) (upd B ri.toNatClampNeg (0)) (upd T ri.toNatClampNeg (0)) (upd P ri.toNatClampNeg (0)) (upd Y ri.toNatClampNeg (0)) (ub G ri.toNatClampNeg (false))) hx hb hml hown hts hl.1 hP hD hS hA hK (mM_give l D cJ cI cZ q (0) A B T P Y G _ ri (v) (0) (0) (0) (0) false hri) (gw_V w_302 w_304 w_9 w_15 w_305) (by decide) ⟨rfl, rfl⟩ ⟨Nat.le_of_ble_eq_true rfl, Nat.le_of_ble_eq_true rfl⟩ (va_recv hK hP (ci := 1) rfl (q0 := 0) rfl) rfl rfl (Nat.le_of_ble_eq_true rfl) dM_number_37 ⟨Nat.zero_le _, Nat.zero_le _⟩ rfl rfl ⟨by decide, by decide⟩ (by decide) (fun H locs hP hD hS => ?_)
  have hP : va_P D vwCl (mW cJ cI cZ q (0) (upd A ri.toNatClampNeg (v)) (upd B ri.toNatClampNeg (0)) (upd T ri.toNatClampNeg (0)) (upd P ri.toNatClampNeg (0)) (upd Y ri.toNatClampNeg (0)) (ub G ri.toNatClampNeg (false))) H := hP
  have hD : va_D A9 (mW cJ cI cZ q (0) (upd A ri.toNatClampNeg (v)) (upd B ri.toNatClampNeg (0)) (upd T ri.toNatClampNeg (0)) (upd P ri.toNatClampNeg (0)) (upd Y ri.toNatClampNeg (0)) (ub G ri.toNatClampNeg (false))) := hD
  refine W.eq (g2 := F0 m 40 ls []) rfl ?_
  exact W.vret hx hb hr (fun t9 ht hW => ⟨rfl, by rw [ht]; exact hP, hD, hS.F ht⟩) hS.2.2 dM_number_40

set_option maxRecDepth 100000 in
set_option maxHeartbeats 4000000 in
theorem mM_number_n (l : Launch) (D : va_G) (cJ cI cZ : ClassId) (q : Nat → Nat) (e0 : Int32) (A B T P Y : Nat → Int32) (G : Nat → Bool) (sz : Nat) (ri v : Int32) (hbad : ¬ vp_in ri 16) : Met l yM_number (Cond.code yM_number cM_number 3 none :: gw) (rmk 2 0 0) (va_Pc [.ref (q 0), .int (ri), .int (v)] (kB D vwCl (mW cJ cI cZ q (e0) A B T P Y G) (tsM cJ cI cZ) sz)) (kQ none D vwCl (mW cJ cI cZ q (1) A B T P Y G) (va_A (mW cJ cI cZ q (e0) A B T P Y G) sz)) 0 0 (va_A (mW cJ cI cZ q (e0) A B T P Y G) sz) := by
  refine Met.ofW (cc := cM_number) (maxL := 3) (ret := none) (by decide) rfl ?_
  intro p e s m args below meth c s₁ B9 hml hv
  obtain ⟨rfl, hsz, hP, hK, hD0⟩ := hv
  have hx := B9.exec
  have hb := B9.bytes
  have hr := B9.returns
  have hts := fun (w : Cond) (h : w ∈ gw) => atoms_spec (ws := _ :: gw) B9.pre w (List.mem_cons_of_mem _ h)
  have hown : s.vm.findClass RM = some m.cls := findClass_of_methodNamed B9.named
  have hlocks := B9.notSynchronized
  have hl := lv_entry ([.ref (q 0), .int (ri), .int (v)]) (n := 3) (Nat.le_of_ble_eq_true rfl)
  rw [lg_entry_eq]
  generalize (lg_sl ([.ref (q 0), .int (ri), .int (v)]) ++ List.replicate (3 - (lg_sl ([.ref (q 0), .int (ri), .int (v)])).length) Slot.unset).toArray = ls at hl ⊢
  have hl : lv_has ls 3 [(0, .ref (q 0)), (1, .int (ri)), (2, .int (v))] := hl
  subst hsz
  have hD := hD0.self (sz := s.heap.size)
  generalize hAe : va_A (mW cJ cI cZ q (e0) A B T P Y G) s.heap.size = A9 at hD ⊢
  have hA : ∀ z : Nat, s.heap.size ≤ z → A9 z := fun z h => by rw [← hAe]; exact Or.inr h
  have hS : va_S A9 s.heap s.heap [] := va_S.rf
  have hP : va_P D vwCl (mW cJ cI cZ q (e0) A B T P Y G) s.heap := hP
  refine lv_aload_n hx hb dM_number_0 rfl (lv_at hl 0 rfl) ?_
  refine lv_iconst (v := 0) hx hb dM_number_1 (by decide) ?_
  refine va_put (D := D) (ci := 1) (v := .int (0)) (ty := .int) (C := RM) (T := TM) (N := 7) hx hb hts inM tyM tyM_ok nmM hown hK hP hD hS 0 rfl rfl 0 (by decide) (hts _ w_255) (fun _ h9 => h9) rfl (by decide +kernel) rfl rfl (Nat.le_of_ble_eq_true rfl) dM_number_2 (fun H locs hP hD hS => ?_)
  have hP : va_P D vwCl (mW cJ cI cZ q (0) A B T P Y G) H := hP
  have hD : va_D A9 (mW cJ cI cZ q (0) A B T P Y G) := hD
  refine lv_aload_n hx hb dM_number_5 rfl (lv_at hl 0 rfl) ?_
  refine lv_iload_n hx hb dM_number_6 rfl (lv_at hl 1 rfl) ?_
  refine kr_S 1 (As := [.int (ri)]) (rest := [.ref (q 0)]) (r := .int (bi (gi ri))) hx hb hml hown hts hl.1 (mM_is l (ri)) tt_stb trivial (gw_S w_298 w_299 w_15 w_300) (by decide) ⟨rfl, rfl⟩ ⟨Nat.le_of_ble_eq_true rfl, Nat.le_of_ble_eq_true rfl⟩ rfl rfl (Nat.le_of_ble_eq_true rfl) dM_number_7 ⟨Nat.zero_le _, Nat.zero_le _⟩ ?_
  refine lv_if_ne (tgt := 17) hx hb dM_number_10 (by decide) (fun h_1 => ?_) (fun h_1 => ?_)
  · have h_1 := bi_n h_1
    exact absurd (gi_in.mp h_1) hbad
  · have h_1 := bi_0 h_1
    refine lv_iconst (v := 1) hx hb dM_number_13 (by decide) ?_
    refine lv_goto (tgt := 18) hx hb dM_number_14 (by decide) ?_
    refine lv_iconst (v := 1) hx hb dM_number_18 (by decide) ?_
    refine kw_V 2 [0, 1, 2, 3, 4, 5, 6] [] (b := q 0) (As := [.int (1), .int (1)]) (rest := []) (wc := mW cJ cI cZ q (0) A B T P Y G) (wr := []) (w1 := mW cJ cI cZ q (1) A B T P Y G) hx hb hml hown hts hl.1 hP hD hS hA hK (mM_fails_t l D cJ cI cZ q 0 A B T P Y G _ 1 (by decide)) (gw_V w_294 w_296 w_8 w_15 w_297) (by decide) ⟨rfl, rfl⟩ ⟨Nat.le_of_ble_eq_true rfl, Nat.le_of_ble_eq_true rfl⟩ (va_recv hK hP (ci := 1) rfl (q0 := 0) rfl) rfl rfl (Nat.le_of_ble_eq_true rfl) dM_number_19 ⟨Nat.zero_le _, Nat.zero_le _⟩ rfl rfl ⟨by decide, by decide⟩ (by decide) (fun H locs hP hD hS => ?_)
    have hP : va_P D vwCl (mW cJ cI cZ q (1) A B T P Y G) H := hP
    have hD : va_D A9 (mW cJ cI cZ q (1) A B T P Y G) := hD
    refine W.eq (g2 := F0 m 22 ls [.int (1)]) rfl ?_
    refine lv_if_eq (tgt := 26) hx hb dM_number_22 (by decide) (fun h_2 => absurd h_2 (by decide)) (fun h_2 => ?_)
    exact W.vret hx hb hr (fun t9 ht hW => ⟨rfl, by rw [ht]; exact hP, hD, hS.F ht⟩) hS.2.2 dM_number_25

set_option maxRecDepth 100000 in
set_option maxHeartbeats 4000000 in
theorem mM_root_y (l : Launch) (D : va_G) (cJ cI cZ : ClassId) (q : Nat → Nat) (e0 : Int32) (A B T P Y : Nat → Int32) (G : Nat → Bool) (sz : Nat) (ri b9 t9 v : Int32) (hri : vp_in ri 16) (hbt : un b9 ≤ un t9) (hv0 : ¬ v < 0) (hv : v ≤ 255) : Met l yM_root (Cond.code yM_root cM_root 5 none :: gw) (rmk 2 0 0) (va_Pc [.ref (q 0), .int (ri), .int (b9), .int (t9), .int (v)] (kB D vwCl (mW cJ cI cZ q (e0) A B T P Y G) (tsM cJ cI cZ) sz)) (kQ none D vwCl (mW cJ cI cZ q (0) (upd A ri.toNatClampNeg (b9)) (upd B ri.toNatClampNeg (b9)) (upd T ri.toNatClampNeg (t9)) (upd P ri.toNatClampNeg (v)) (upd Y ri.toNatClampNeg (0)) (ub G ri.toNatClampNeg (true))) (va_A (mW cJ cI cZ q (e0) A B T P Y G) sz)) 0 0 (va_A (mW cJ cI cZ q (e0) A B T P Y G) sz) := by
  refine Met.ofW (cc := cM_root) (maxL := 5) (ret := none) (by decide) rfl ?_
  intro p e s m args below meth c s₁ B9 hml hv
  obtain ⟨rfl, hsz, hP, hK, hD0⟩ := hv
  have hx := B9.exec
  have hb := B9.bytes
  have hr := B9.returns
  have hts := fun (w : Cond) (h : w ∈ gw) => atoms_spec (ws := _ :: gw) B9.pre w (List.mem_cons_of_mem _ h)
  have hown : s.vm.findClass RM = some m.cls := findClass_of_methodNamed B9.named
  have hlocks := B9.notSynchronized
  have hl := lv_entry ([.ref (q 0), .int (ri), .int (b9), .int (t9), .int (v)]) (n := 5) (Nat.le_of_ble_eq_true rfl)
  rw [lg_entry_eq]
  generalize (lg_sl ([.ref (q 0), .int (ri), .int (b9), .int (t9), .int (v)]) ++ List.replicate (5 - (lg_sl ([.ref (q 0), .int (ri), .int (b9), .int (t9), .int (v)])).length) Slot.unset).toArray = ls at hl ⊢
  have hl : lv_has ls 5 [(0, .ref (q 0)), (1, .int (ri)), (2, .int (b9)), (3, .int (t9)), (4, .int (v))] := hl
  subst hsz
  have hD := hD0.self (sz := s.heap.size)
  generalize hAe : va_A (mW cJ cI cZ q (e0) A B T P Y G) s.heap.size = A9 at hD ⊢
  have hA : ∀ z : Nat, s.heap.size ≤ z → A9 z := fun z h => by rw [← hAe]; exact Or.inr h
  have hS : va_S A9 s.heap s.heap [] := va_S.rf
  have hP : va_P D vwCl (mW cJ cI cZ q (e0) A B T P Y G) s.heap := hP
  refine lv_aload_n hx hb dM_root_0 rfl (lv_at hl 0 rfl) ?_
  refine lv_iconst (v := 0) hx hb dM_root_1 (by decide) ?_
  refine va_put (D := D) (ci := 1) (v := .int (0)) (ty := .int) (C := RM) (T := TM) (N := 7) hx hb hts inM tyM tyM_ok nmM hown hK hP hD hS 0 rfl rfl 0 (by decide) (hts _ w_255) (fun _ h9 => h9) rfl (by decide +kernel) rfl rfl (Nat.le_of_ble_eq_true rfl) dM_root_2 (fun H locs hP hD hS => ?_)
  have hP : va_P D vwCl (mW cJ cI cZ q (0) A B T P Y G) H := hP
  have hD : va_D A9 (mW cJ cI cZ q (0) A B T P Y G) := hD
  refine lv_aload_n hx hb dM_root_5 rfl (lv_at hl 0 rfl) ?_
  refine lv_iload_n hx hb dM_root_6 rfl (lv_at hl 2 rfl) ?_
  refine kr_S 1 (As := [.int (b9)]) (rest := [.ref (q 0)]) (r := .long (uw (b9))) hx hb hml hown hts hl.1 (mM_wide l (b9)) tt_stb trivial (gw_S w_286 w_287 w_15 w_288) (by decide) ⟨rfl, rfl⟩ ⟨Nat.le_of_ble_eq_true rfl, Nat.le_of_ble_eq_true rfl⟩ rfl rfl (Nat.le_of_ble_eq_true rfl) dM_root_7 ⟨Nat.zero_le _, Nat.zero_le _⟩ ?_
  refine lv_iload_n hx hb dM_root_10 rfl (lv_at hl 3 rfl) ?_
  refine kr_S 1 (As := [.int (t9)]) (rest := [.long (uw (b9)), .ref (q 0)]) (r := .long (uw (t9))) hx hb hml hown hts hl.1 (mM_wide l (t9)) tt_stb trivial (gw_S w_286 w_287 w_15 w_288) (by decide) ⟨rfl, rfl⟩ ⟨Nat.le_of_ble_eq_true rfl, Nat.le_of_ble_eq_true rfl⟩ rfl rfl (Nat.le_of_ble_eq_true rfl) dM_root_11 ⟨Nat.zero_le _, Nat.zero_le _⟩ ?_
  refine W.lcmp hx hb dM_root_14 ?_
  refine lv_if_gt (tgt := 31) hx hb dM_root_15 (by decide) (fun h_1 => absurd h_1 (fun h9 => absurd ((lg_cmp_gt _ _).mp h9) (fun h8 => absurd ((uw_lt _ _).mp h8) (Nat.not_lt.mpr hbt)))) (fun h_1 => ?_)
  rw [lg_cmp_gt] at h_1
  refine lv_iload hx hb dM_root_18 (lv_at hl 4 rfl) ?_
  refine lv_i2l (v := (v).toInt64) hx hb dM_root_20 rfl ?_
  refine lv_lconst (v := 0) hx hb dM_root_21 (by decide) ?_
  refine lv_ldc2 (v := 255) hx hb hown (hts _ w_290) dM_root_22 ?_
  refine kr_S 3 (As := [.long ((v).toInt64), .long (0), .long (255)]) (rest := [.ref (q 0)]) (r := .int (bi (decide ((0) ≤ ((v).toInt64)) && decide (((v).toInt64) ≤ (255))))) hx hb hml hown hts hl.1 (mM_in l ((v).toInt64) (0) (255)) tt_stb trivial (gw_S w_291 w_292 w_15 w_293) (by decide) ⟨rfl, rfl⟩ ⟨Nat.le_of_ble_eq_true rfl, Nat.le_of_ble_eq_true rfl⟩ rfl rfl (Nat.le_of_ble_eq_true rfl) dM_root_25 ⟨Nat.zero_le _, Nat.zero_le _⟩ ?_
  refine lv_if_ne (tgt := 35) hx hb dM_root_28 (by decide) (fun h_2 => ?_) (fun h_2 => absurd h_2 (gp_nz (c := 255) (by decide) hv0 hv))
  have h_2 := bi_n h_2
  refine lv_iconst (v := 0) hx hb dM_root_35 (by decide) ?_
  refine lv_iconst (v := 1) hx hb dM_root_36 (by decide) ?_
  refine kw_V 2 [0, 1, 2, 3, 4, 5, 6] [] (b := q 0) (As := [.int (0), .int (1)]) (rest := []) (wc := mW cJ cI cZ q (0) A B T P Y G) (wr := []) (w1 := mW cJ cI cZ q (0) A B T P Y G) hx hb hml hown hts hl.1 hP hD hS hA hK (mM_fails_f l D cJ cI cZ q 0 A B T P Y G _ 1) (gw_V w_294 w_296 w_8 w_15 w_297) (by decide) ⟨rfl, rfl⟩ ⟨Nat.le_of_ble_eq_true rfl, Nat.le_of_ble_eq_true rfl⟩ (va_recv hK hP (ci := 1) rfl (q0 := 0) rfl) rfl rfl (Nat.le_of_ble_eq_true rfl) dM_root_37 ⟨Nat.zero_le _, Nat.zero_le _⟩ rfl rfl ⟨by decide, by decide⟩ (by decide) (fun H locs hP hD hS => ?_)
  have hP : va_P D vwCl (mW cJ cI cZ q (0) A B T P Y G) H := hP
  have hD : va_D A9 (mW cJ cI cZ q (0) A B T P Y G) := hD
  refine W.eq (g2 := F0 m 40 ls [.int (0)]) rfl ?_
  refine lv_if_ne (tgt := 63) hx hb dM_root_40 (by decide) (fun h_3 => absurd (by decide) h_3) (fun h_3 => ?_)
  refine lv_aload_n hx hb dM_root_43 rfl (lv_at hl 0 rfl) ?_
  refine lv_iload_n hx hb dM_root_44 rfl (lv_at hl 1 rfl) ?_
  refine kr_S 1 (As := [.int (ri)]) (rest := [.ref (q 0)]) (r := .int (bi (gi ri))) hx hb hml hown hts hl.1 (mM_is l (ri)) tt_stb trivial (gw_S w_298 w_299 w_15 w_300) (by decide) ⟨rfl, rfl⟩ ⟨Nat.le_of_ble_eq_true rfl, Nat.le_of_ble_eq_true rfl⟩ rfl rfl (Nat.le_of_ble_eq_true rfl) dM_root_45 ⟨Nat.zero_le _, Nat.zero_le _⟩ ?_
  refine lv_if_ne (tgt := 55) hx hb dM_root_48 (by decide) (fun h_4 => ?_) (fun h_4 => absurd h_4 (gi_nz hri))
  have h_4 := bi_n h_4
  refine lv_iconst (v := 0) hx hb dM_root_55 (by decide) ?_
  refine lv_iconst (v := 2) hx hb dM_root_56 (by decide) ?_
  refine kw_V 2 [0, 1, 2, 3, 4, 5, 6] [] (b := q 0) (As := [.int (0), .int (2)]) (rest := []) (wc := mW cJ cI cZ q (0) A B T P Y G) (wr := []) (w1 := mW cJ cI cZ q (0) A B T P Y G) hx hb hml hown hts hl.1 hP hD hS hA hK (mM_fails_f l D cJ cI cZ q 0 A B T P Y G _ 2) (gw_V w_294 w_296 w_8 w_15 w_297) (by decide) ⟨rfl, rfl⟩ ⟨Nat.le_of_ble_eq_true rfl, Nat.le_of_ble_eq_true rfl⟩ (va_recv hK hP (ci := 1) rfl (q0 := 0) rfl) rfl rfl (Nat.le_of_ble_eq_true rfl) dM_root_57 ⟨Nat.zero_le _, Nat.zero_le _⟩ rfl rfl ⟨by decide, by decide⟩ (by decide) (fun H locs hP hD hS => ?_)
  have hP : va_P D vwCl (mW cJ cI cZ q (0) A B T P Y G) H := hP
  have hD : va_D A9 (mW cJ cI cZ q (0) A B T P Y G) := hD
  refine W.eq (g2 := F0 m 60 ls [.int (0)]) rfl ?_
  refine lv_if_eq (tgt := 64) hx hb dM_root_60 (by decide) (fun h_5 => ?_) (fun h_5 => absurd (by decide) h_5)
  refine lv_aload_n hx hb dM_root_64 rfl (lv_at hl 0 rfl) ?_
  refine lv_iload_n hx hb dM_root_65 rfl (lv_at hl 1 rfl) ?_
  refine lv_iload_n hx hb dM_root_66 rfl (lv_at hl 2 rfl) ?_
  refine kr_S 1 (As := [.int (b9)]) (rest := [.int (ri), .ref (q 0)]) (r := .long (uw (b9))) hx hb hml hown hts hl.1 (mM_wide l (b9)) tt_stb trivial (gw_S w_286 w_287 w_15 w_288) (by decide) ⟨rfl, rfl⟩ ⟨Nat.le_of_ble_eq_true rfl, Nat.le_of_ble_eq_true rfl⟩ rfl rfl (Nat.le_of_ble_eq_true rfl) dM_root_67 ⟨Nat.zero_le _, Nat.zero_le _⟩ ?_
  refine lv_iload_n hx hb dM_root_70 rfl (lv_at hl 2 rfl) ?_
  refine kr_S 1 (As := [.int (b9)]) (rest := [.long (uw (b9)), .int (ri), .ref (q 0)]) (r := .long (uw (b9))) hx hb hml hown hts hl.1 (mM_wide l (b9)) tt_stb trivial (gw_S w_286 w_287 w_15 w_288) (by decide) ⟨rfl, rfl⟩ ⟨Nat.le_of_ble_eq_true rfl, Nat.le_of_ble_eq_true rfl⟩ rfl rfl (Nat.le_of_ble_eq_true rfl) dM_root_71 ⟨Nat.zero_le _, Nat.zero_le _⟩ ?_
  refine lv_iload_n hx hb dM_root_74 rfl (lv_at hl 3 rfl) ?_
  refine kr_S 1 (As := [.int (t9)]) (rest := [.long (uw (b9)), .long (uw (b9)), .int (ri), .ref (q 0)]) (r := .long (uw (t9))) hx hb hml hown hts hl.1 (mM_wide l (t9)) tt_stb trivial (gw_S w_286 w_287 w_15 w_288) (by decide) ⟨rfl, rfl⟩ ⟨Nat.le_of_ble_eq_true rfl, Nat.le_of_ble_eq_true rfl⟩ rfl rfl (Nat.le_of_ble_eq_true rfl) dM_root_75 ⟨Nat.zero_le _, Nat.zero_le _⟩ ?_
  refine lv_iload hx hb dM_root_78 (lv_at hl 4 rfl) ?_
  refine lv_iconst (v := 0) hx hb dM_root_80 (by decide) ?_
  refine lv_iconst (v := 1) hx hb dM_root_81 (by decide) ?_
  refine W.eq (g2 := F0 m 82 ls [.int (bi (true)), .int (0), .int (v), .long (uw (t9)), .long (uw (b9)), .long (uw (b9)), .int (ri), .ref (q 0)]) rfl ?_
  refine kw_V 7 [0, 1, 2, 3, 4, 5, 6] [] (b := q 0) (As := [.int (ri), .long (uw (b9)), .long (uw (b9)), .long (uw (t9)), .int (v), .int (0), .int (bi (true))]) (rest := []) (wc := mW cJ cI cZ q (0) A B T P Y G) (wr := []) (w1 := mW cJ cI cZ q (0) (upd A ri.toNatClampNeg (b9)) (upd B ri.toNatClampNeg (b9)) (upd T ri.toNatClampNeg (t9)) (upd P ri.toNatClampNeg (v)) (upd Y ri.toNatClampNeg (0)) (ub G ri.toNatClampNeg (true))) hx hb hml hown hts hl.1 hP hD hS hA hK (mM_give l D cJ cI cZ q (0) A B T P Y G _ ri (b9) (b9) (t9) (v) (0) true hri) (gw_V w_302 w_304 w_9 w_15 w_305) (by decide) ⟨rfl, rfl⟩ ⟨Nat.le_of_ble_eq_true rfl, Nat.le_of_ble_eq_true rfl⟩ (va_recv hK hP (ci := 1) rfl (q0 := 0) rfl) rfl rfl (Nat.le_of_ble_eq_true rfl) dM_root_82 ⟨Nat.zero_le _, Nat.zero_le _⟩ rfl rfl ⟨by decide, by decide⟩ (by decide) (fun H locs hP hD hS => ?_)
  have hP : va_P D vwCl (mW cJ cI cZ q (0) (upd A ri.toNatClampNeg (b9)) (upd B ri.toNatClampNeg (b9)) (upd T ri.toNatClampNeg (t9)) (upd P ri.toNatClampNeg (v)) (upd Y ri.toNatClampNeg (0)) (ub G ri.toNatClampNeg (true))) H := hP
  have hD : va_D A9 (mW cJ cI cZ q (0) (upd A ri.toNatClampNeg (b9)) (upd B ri.toNatClampNeg (b9)) (upd T ri.toNatClampNeg (t9)) (upd P ri.toNatClampNeg (v)) (upd Y ri.toNatClampNeg (0)) (ub G ri.toNatClampNeg (true))) := hD
  refine W.eq (g2 := F0 m 85 ls []) rfl ?_
  exact W.vret hx hb hr (fun t9 ht hW => ⟨rfl, by rw [ht]; exact hP, hD, hS.F ht⟩) hS.2.2 dM_root_85

set_option maxRecDepth 100000 in
set_option maxHeartbeats 4000000 in
theorem mM_root_a (l : Launch) (D : va_G) (cJ cI cZ : ClassId) (q : Nat → Nat) (e0 : Int32) (A B T P Y : Nat → Int32) (G : Nat → Bool) (sz : Nat) (ri b9 t9 v : Int32) (hbad : ¬ (un b9 ≤ un t9 ∧ ¬ v < 0 ∧ v ≤ 255)) : Met l yM_root (Cond.code yM_root cM_root 5 none :: gw) (rmk 2 0 0) (va_Pc [.ref (q 0), .int (ri), .int (b9), .int (t9), .int (v)] (kB D vwCl (mW cJ cI cZ q (e0) A B T P Y G) (tsM cJ cI cZ) sz)) (kQ none D vwCl (mW cJ cI cZ q (1) A B T P Y G) (va_A (mW cJ cI cZ q (e0) A B T P Y G) sz)) 0 0 (va_A (mW cJ cI cZ q (e0) A B T P Y G) sz) := by
  refine Met.ofW (cc := cM_root) (maxL := 5) (ret := none) (by decide) rfl ?_
  intro p e s m args below meth c s₁ B9 hml hv
  obtain ⟨rfl, hsz, hP, hK, hD0⟩ := hv
  have hx := B9.exec
  have hb := B9.bytes
  have hr := B9.returns
  have hts := fun (w : Cond) (h : w ∈ gw) => atoms_spec (ws := _ :: gw) B9.pre w (List.mem_cons_of_mem _ h)
  have hown : s.vm.findClass RM = some m.cls := findClass_of_methodNamed B9.named
  have hlocks := B9.notSynchronized
  have hl := lv_entry ([.ref (q 0), .int (ri), .int (b9), .int (t9), .int (v)]) (n := 5) (Nat.le_of_ble_eq_true rfl)
  rw [lg_entry_eq]
  generalize (lg_sl ([.ref (q 0), .int (ri), .int (b9), .int (t9), .int (v)]) ++ List.replicate (5 - (lg_sl ([.ref (q 0), .int (ri), .int (b9), .int (t9), .int (v)])).length) Slot.unset).toArray = ls at hl ⊢
  have hl : lv_has ls 5 [(0, .ref (q 0)), (1, .int (ri)), (2, .int (b9)), (3, .int (t9)), (4, .int (v))] := hl
  subst hsz
  have hD := hD0.self (sz := s.heap.size)
  generalize hAe : va_A (mW cJ cI cZ q (e0) A B T P Y G) s.heap.size = A9 at hD ⊢
  have hA : ∀ z : Nat, s.heap.size ≤ z → A9 z := fun z h => by rw [← hAe]; exact Or.inr h
  have hS : va_S A9 s.heap s.heap [] := va_S.rf
  have hP : va_P D vwCl (mW cJ cI cZ q (e0) A B T P Y G) s.heap := hP
  refine lv_aload_n hx hb dM_root_0 rfl (lv_at hl 0 rfl) ?_
  refine lv_iconst (v := 0) hx hb dM_root_1 (by decide) ?_
  refine va_put (D := D) (ci := 1) (v := .int (0)) (ty := .int) (C := RM) (T := TM) (N := 7) hx hb hts inM tyM tyM_ok nmM hown hK hP hD hS 0 rfl rfl 0 (by decide) (hts _ w_255) (fun _ h9 => h9) rfl (by decide +kernel) rfl rfl (Nat.le_of_ble_eq_true rfl) dM_root_2 (fun H locs hP hD hS => ?_)
  have hP : va_P D vwCl (mW cJ cI cZ q (0) A B T P Y G) H := hP
  have hD : va_D A9 (mW cJ cI cZ q (0) A B T P Y G) := hD
  refine lv_aload_n hx hb dM_root_5 rfl (lv_at hl 0 rfl) ?_
  refine lv_iload_n hx hb dM_root_6 rfl (lv_at hl 2 rfl) ?_
  refine kr_S 1 (As := [.int (b9)]) (rest := [.ref (q 0)]) (r := .long (uw (b9))) hx hb hml hown hts hl.1 (mM_wide l (b9)) tt_stb trivial (gw_S w_286 w_287 w_15 w_288) (by decide) ⟨rfl, rfl⟩ ⟨Nat.le_of_ble_eq_true rfl, Nat.le_of_ble_eq_true rfl⟩ rfl rfl (Nat.le_of_ble_eq_true rfl) dM_root_7 ⟨Nat.zero_le _, Nat.zero_le _⟩ ?_
  refine lv_iload_n hx hb dM_root_10 rfl (lv_at hl 3 rfl) ?_
  refine kr_S 1 (As := [.int (t9)]) (rest := [.long (uw (b9)), .ref (q 0)]) (r := .long (uw (t9))) hx hb hml hown hts hl.1 (mM_wide l (t9)) tt_stb trivial (gw_S w_286 w_287 w_15 w_288) (by decide) ⟨rfl, rfl⟩ ⟨Nat.le_of_ble_eq_true rfl, Nat.le_of_ble_eq_true rfl⟩ rfl rfl (Nat.le_of_ble_eq_true rfl) dM_root_11 ⟨Nat.zero_le _, Nat.zero_le _⟩ ?_
  refine W.lcmp hx hb dM_root_14 ?_
  refine lv_if_gt (tgt := 31) hx hb dM_root_15 (by decide) (fun h_1 => ?_) (fun h_1 => ?_)
  · rw [lg_cmp_gt] at h_1
    refine lv_iconst (v := 1) hx hb dM_root_31 (by decide) ?_
    refine lv_goto (tgt := 36) hx hb dM_root_32 (by decide) ?_
    refine lv_iconst (v := 1) hx hb dM_root_36 (by decide) ?_
    refine kw_V 2 [0, 1, 2, 3, 4, 5, 6] [] (b := q 0) (As := [.int (1), .int (1)]) (rest := []) (wc := mW cJ cI cZ q (0) A B T P Y G) (wr := []) (w1 := mW cJ cI cZ q (1) A B T P Y G) hx hb hml hown hts hl.1 hP hD hS hA hK (mM_fails_t l D cJ cI cZ q 0 A B T P Y G _ 1 (by decide)) (gw_V w_294 w_296 w_8 w_15 w_297) (by decide) ⟨rfl, rfl⟩ ⟨Nat.le_of_ble_eq_true rfl, Nat.le_of_ble_eq_true rfl⟩ (va_recv hK hP (ci := 1) rfl (q0 := 0) rfl) rfl rfl (Nat.le_of_ble_eq_true rfl) dM_root_37 ⟨Nat.zero_le _, Nat.zero_le _⟩ rfl rfl ⟨by decide, by decide⟩ (by decide) (fun H locs hP hD hS => ?_)
    have hP : va_P D vwCl (mW cJ cI cZ q (1) A B T P Y G) H := hP
    have hD : va_D A9 (mW cJ cI cZ q (1) A B T P Y G) := hD
    refine W.eq (g2 := F0 m 40 ls [.int (1)]) rfl ?_
    refine lv_if_ne (tgt := 63) hx hb dM_root_40 (by decide) (fun h_2 => ?_) (fun h_2 => absurd h_2 (by decide))
    exact W.vret hx hb hr (fun t9 ht hW => ⟨rfl, by rw [ht]; exact hP, hD, hS.F ht⟩) hS.2.2 dM_root_63
  · rw [lg_cmp_gt] at h_1
    refine lv_iload hx hb dM_root_18 (lv_at hl 4 rfl) ?_
    refine lv_i2l (v := (v).toInt64) hx hb dM_root_20 rfl ?_
    refine lv_lconst (v := 0) hx hb dM_root_21 (by decide) ?_
    refine lv_ldc2 (v := 255) hx hb hown (hts _ w_290) dM_root_22 ?_
    refine kr_S 3 (As := [.long ((v).toInt64), .long (0), .long (255)]) (rest := [.ref (q 0)]) (r := .int (bi (decide ((0) ≤ ((v).toInt64)) && decide (((v).toInt64) ≤ (255))))) hx hb hml hown hts hl.1 (mM_in l ((v).toInt64) (0) (255)) tt_stb trivial (gw_S w_291 w_292 w_15 w_293) (by decide) ⟨rfl, rfl⟩ ⟨Nat.le_of_ble_eq_true rfl, Nat.le_of_ble_eq_true rfl⟩ rfl rfl (Nat.le_of_ble_eq_true rfl) dM_root_25 ⟨Nat.zero_le _, Nat.zero_le _⟩ ?_
    refine lv_if_ne (tgt := 35) hx hb dM_root_28 (by decide) (fun h_3 => ?_) (fun h_3 => ?_)
    · have h_3 := bi_n h_3
      exact absurd ⟨Nat.not_lt.mp (fun h9 => h_1 ((uw_lt _ _).mpr h9)), gp_y (c := 255) (by decide) h_3⟩ hbad
    · have h_3 := bi_0 h_3
      refine lv_iconst (v := 1) hx hb dM_root_31 (by decide) ?_
      refine lv_goto (tgt := 36) hx hb dM_root_32 (by decide) ?_
      refine lv_iconst (v := 1) hx hb dM_root_36 (by decide) ?_
      refine kw_V 2 [0, 1, 2, 3, 4, 5, 6] [] (b := q 0) (As := [.int (1), .int (1)]) (rest := []) (wc := mW cJ cI cZ q (0) A B T P Y G) (wr := []) (w1 := mW cJ cI cZ q (1) A B T P Y G) hx hb hml hown hts hl.1 hP hD hS hA hK (mM_fails_t l D cJ cI cZ q 0 A B T P Y G _ 1 (by decide)) (gw_V w_294 w_296 w_8 w_15 w_297) (by decide) ⟨rfl, rfl⟩ ⟨Nat.le_of_ble_eq_true rfl, Nat.le_of_ble_eq_true rfl⟩ (va_recv hK hP (ci := 1) rfl (q0 := 0) rfl) rfl rfl (Nat.le_of_ble_eq_true rfl) dM_root_37 ⟨Nat.zero_le _, Nat.zero_le _⟩ rfl rfl ⟨by decide, by decide⟩ (by decide) (fun H locs hP hD hS => ?_)
      have hP : va_P D vwCl (mW cJ cI cZ q (1) A B T P Y G) H := hP
      have hD : va_D A9 (mW cJ cI cZ q (1) A B T P Y G) := hD
      refine W.eq (g2 := F0 m 40 ls [.int (1)]) rfl ?_
      refine lv_if_ne (tgt := 63) hx hb dM_root_40 (by decide) (fun h_4 => ?_) (fun h_4 => absurd h_4 (by decide))
      exact W.vret hx hb hr (fun t9 ht hW => ⟨rfl, by rw [ht]; exact hP, hD, hS.F ht⟩) hS.2.2 dM_root_63

set_option maxRecDepth 100000 in
set_option maxHeartbeats 4000000 in
theorem mM_root_b (l : Launch) (D : va_G) (cJ cI cZ : ClassId) (q : Nat → Nat) (e0 : Int32) (A B T P Y : Nat → Int32) (G : Nat → Bool) (sz : Nat) (ri b9 t9 v : Int32) (hbt : un b9 ≤ un t9) (hv0 : ¬ v < 0) (hv : v ≤ 255) (hbad : ¬ vp_in ri 16) : Met l yM_root (Cond.code yM_root cM_root 5 none :: gw) (rmk 2 0 0) (va_Pc [.ref (q 0), .int (ri), .int (b9), .int (t9), .int (v)] (kB D vwCl (mW cJ cI cZ q (e0) A B T P Y G) (tsM cJ cI cZ) sz)) (kQ none D vwCl (mW cJ cI cZ q (2) A B T P Y G) (va_A (mW cJ cI cZ q (e0) A B T P Y G) sz)) 0 0 (va_A (mW cJ cI cZ q (e0) A B T P Y G) sz) := by
  refine Met.ofW (cc := cM_root) (maxL := 5) (ret := none) (by decide) rfl ?_
  intro p e s m args below meth c s₁ B9 hml hv
  obtain ⟨rfl, hsz, hP, hK, hD0⟩ := hv
  have hx := B9.exec
  have hb := B9.bytes
  have hr := B9.returns
  have hts := fun (w : Cond) (h : w ∈ gw) => atoms_spec (ws := _ :: gw) B9.pre w (List.mem_cons_of_mem _ h)
  have hown : s.vm.findClass RM = some m.cls := findClass_of_methodNamed B9.named
  have hlocks := B9.notSynchronized
  have hl := lv_entry ([.ref (q 0), .int (ri), .int (b9), .int (t9), .int (v)]) (n := 5) (Nat.le_of_ble_eq_true rfl)
  rw [lg_entry_eq]
  generalize (lg_sl ([.ref (q 0), .int (ri), .int (b9), .int (t9), .int (v)]) ++ List.replicate (5 - (lg_sl ([.ref (q 0), .int (ri), .int (b9), .int (t9), .int (v)])).length) Slot.unset).toArray = ls at hl ⊢
  have hl : lv_has ls 5 [(0, .ref (q 0)), (1, .int (ri)), (2, .int (b9)), (3, .int (t9)), (4, .int (v))] := hl
  subst hsz
  have hD := hD0.self (sz := s.heap.size)
  generalize hAe : va_A (mW cJ cI cZ q (e0) A B T P Y G) s.heap.size = A9 at hD ⊢
  have hA : ∀ z : Nat, s.heap.size ≤ z → A9 z := fun z h => by rw [← hAe]; exact Or.inr h
  have hS : va_S A9 s.heap s.heap [] := va_S.rf
  have hP : va_P D vwCl (mW cJ cI cZ q (e0) A B T P Y G) s.heap := hP
  refine lv_aload_n hx hb dM_root_0 rfl (lv_at hl 0 rfl) ?_
  refine lv_iconst (v := 0) hx hb dM_root_1 (by decide) ?_
  refine va_put (D := D) (ci := 1) (v := .int (0)) (ty := .int) (C := RM) (T := TM) (N := 7) hx hb hts inM tyM tyM_ok nmM hown hK hP hD hS 0 rfl rfl 0 (by decide) (hts _ w_255) (fun _ h9 => h9) rfl (by decide +kernel) rfl rfl (Nat.le_of_ble_eq_true rfl) dM_root_2 (fun H locs hP hD hS => ?_)
  have hP : va_P D vwCl (mW cJ cI cZ q (0) A B T P Y G) H := hP
  have hD : va_D A9 (mW cJ cI cZ q (0) A B T P Y G) := hD
  refine lv_aload_n hx hb dM_root_5 rfl (lv_at hl 0 rfl) ?_
  refine lv_iload_n hx hb dM_root_6 rfl (lv_at hl 2 rfl) ?_
  refine kr_S 1 (As := [.int (b9)]) (rest := [.ref (q 0)]) (r := .long (uw (b9))) hx hb hml hown hts hl.1 (mM_wide l (b9)) tt_stb trivial (gw_S w_286 w_287 w_15 w_288) (by decide) ⟨rfl, rfl⟩ ⟨Nat.le_of_ble_eq_true rfl, Nat.le_of_ble_eq_true rfl⟩ rfl rfl (Nat.le_of_ble_eq_true rfl) dM_root_7 ⟨Nat.zero_le _, Nat.zero_le _⟩ ?_
  refine lv_iload_n hx hb dM_root_10 rfl (lv_at hl 3 rfl) ?_
  refine kr_S 1 (As := [.int (t9)]) (rest := [.long (uw (b9)), .ref (q 0)]) (r := .long (uw (t9))) hx hb hml hown hts hl.1 (mM_wide l (t9)) tt_stb trivial (gw_S w_286 w_287 w_15 w_288) (by decide) ⟨rfl, rfl⟩ ⟨Nat.le_of_ble_eq_true rfl, Nat.le_of_ble_eq_true rfl⟩ rfl rfl (Nat.le_of_ble_eq_true rfl) dM_root_11 ⟨Nat.zero_le _, Nat.zero_le _⟩ ?_
  refine W.lcmp hx hb dM_root_14 ?_
  refine lv_if_gt (tgt := 31) hx hb dM_root_15 (by decide) (fun h_1 => absurd h_1 (fun h9 => absurd ((lg_cmp_gt _ _).mp h9) (fun h8 => absurd ((uw_lt _ _).mp h8) (Nat.not_lt.mpr hbt)))) (fun h_1 => ?_)
  rw [lg_cmp_gt] at h_1
  refine lv_iload hx hb dM_root_18 (lv_at hl 4 rfl) ?_
  refine lv_i2l (v := (v).toInt64) hx hb dM_root_20 rfl ?_
  refine lv_lconst (v := 0) hx hb dM_root_21 (by decide) ?_
  refine lv_ldc2 (v := 255) hx hb hown (hts _ w_290) dM_root_22 ?_
  refine kr_S 3 (As := [.long ((v).toInt64), .long (0), .long (255)]) (rest := [.ref (q 0)]) (r := .int (bi (decide ((0) ≤ ((v).toInt64)) && decide (((v).toInt64) ≤ (255))))) hx hb hml hown hts hl.1 (mM_in l ((v).toInt64) (0) (255)) tt_stb trivial (gw_S w_291 w_292 w_15 w_293) (by decide) ⟨rfl, rfl⟩ ⟨Nat.le_of_ble_eq_true rfl, Nat.le_of_ble_eq_true rfl⟩ rfl rfl (Nat.le_of_ble_eq_true rfl) dM_root_25 ⟨Nat.zero_le _, Nat.zero_le _⟩ ?_
  refine lv_if_ne (tgt := 35) hx hb dM_root_28 (by decide) (fun h_2 => ?_) (fun h_2 => absurd h_2 (gp_nz (c := 255) (by decide) hv0 hv))
  have h_2 := bi_n h_2
  refine lv_iconst (v := 0) hx hb dM_root_35 (by decide) ?_
  refine lv_iconst (v := 1) hx hb dM_root_36 (by decide) ?_
  refine kw_V 2 [0, 1, 2, 3, 4, 5, 6] [] (b := q 0) (As := [.int (0), .int (1)]) (rest := []) (wc := mW cJ cI cZ q (0) A B T P Y G) (wr := []) (w1 := mW cJ cI cZ q (0) A B T P Y G) hx hb hml hown hts hl.1 hP hD hS hA hK (mM_fails_f l D cJ cI cZ q 0 A B T P Y G _ 1) (gw_V w_294 w_296 w_8 w_15 w_297) (by decide) ⟨rfl, rfl⟩ ⟨Nat.le_of_ble_eq_true rfl, Nat.le_of_ble_eq_true rfl⟩ (va_recv hK hP (ci := 1) rfl (q0 := 0) rfl) rfl rfl (Nat.le_of_ble_eq_true rfl) dM_root_37 ⟨Nat.zero_le _, Nat.zero_le _⟩ rfl rfl ⟨by decide, by decide⟩ (by decide) (fun H locs hP hD hS => ?_)
  have hP : va_P D vwCl (mW cJ cI cZ q (0) A B T P Y G) H := hP
  have hD : va_D A9 (mW cJ cI cZ q (0) A B T P Y G) := hD
  refine W.eq (g2 := F0 m 40 ls [.int (0)]) rfl ?_
  refine lv_if_ne (tgt := 63) hx hb dM_root_40 (by decide) (fun h_3 => absurd (by decide) h_3) (fun h_3 => ?_)
  refine lv_aload_n hx hb dM_root_43 rfl (lv_at hl 0 rfl) ?_
  refine lv_iload_n hx hb dM_root_44 rfl (lv_at hl 1 rfl) ?_
  refine kr_S 1 (As := [.int (ri)]) (rest := [.ref (q 0)]) (r := .int (bi (gi ri))) hx hb hml hown hts hl.1 (mM_is l (ri)) tt_stb trivial (gw_S w_298 w_299 w_15 w_300) (by decide) ⟨rfl, rfl⟩ ⟨Nat.le_of_ble_eq_true rfl, Nat.le_of_ble_eq_true rfl⟩ rfl rfl (Nat.le_of_ble_eq_true rfl) dM_root_45 ⟨Nat.zero_le _, Nat.zero_le _⟩ ?_
  refine lv_if_ne (tgt := 55) hx hb dM_root_48 (by decide) (fun h_4 => absurd (gi_z hbad) h_4) (fun h_4 => ?_)
  have h_4 := bi_0 h_4
  refine lv_iconst (v := 1) hx hb dM_root_51 (by decide) ?_
  refine lv_goto (tgt := 56) hx hb dM_root_52 (by decide) ?_
  refine lv_iconst (v := 2) hx hb dM_root_56 (by decide) ?_
  refine kw_V 2 [0, 1, 2, 3, 4, 5, 6] [] (b := q 0) (As := [.int (1), .int (2)]) (rest := []) (wc := mW cJ cI cZ q (0) A B T P Y G) (wr := []) (w1 := mW cJ cI cZ q (2) A B T P Y G) hx hb hml hown hts hl.1 hP hD hS hA hK (mM_fails_t l D cJ cI cZ q 0 A B T P Y G _ 2 (by decide)) (gw_V w_294 w_296 w_8 w_15 w_297) (by decide) ⟨rfl, rfl⟩ ⟨Nat.le_of_ble_eq_true rfl, Nat.le_of_ble_eq_true rfl⟩ (va_recv hK hP (ci := 1) rfl (q0 := 0) rfl) rfl rfl (Nat.le_of_ble_eq_true rfl) dM_root_57 ⟨Nat.zero_le _, Nat.zero_le _⟩ rfl rfl ⟨by decide, by decide⟩ (by decide) (fun H locs hP hD hS => ?_)
  have hP : va_P D vwCl (mW cJ cI cZ q (2) A B T P Y G) H := hP
  have hD : va_D A9 (mW cJ cI cZ q (2) A B T P Y G) := hD
  refine W.eq (g2 := F0 m 60 ls [.int (1)]) rfl ?_
  refine lv_if_eq (tgt := 64) hx hb dM_root_60 (by decide) (fun h_5 => absurd h_5 (by decide)) (fun h_5 => ?_)
  exact W.vret hx hb hr (fun t9 ht hW => ⟨rfl, by rw [ht]; exact hP, hD, hS.F ht⟩) hS.2.2 dM_root_63

set_option maxRecDepth 100000 in
set_option maxHeartbeats 4000000 in
theorem mM_move_y (l : Launch) (D : va_G) (cJ cI cZ : ClassId) (q : Nat → Nat) (e0 : Int32) (A B T P Y : Nat → Int32) (G : Nat → Bool) (sz : Nat) (ri si v : Int32) (hri : vp_in ri 16) (hsi : vp_in si 16) : Met l yM_move (Cond.code yM_move cM_move 4 none :: gw) (rmk 2 0 0) (va_Pc [.ref (q 0), .int (ri), .int (si), .int (v)] (kB D vwCl (mW cJ cI cZ q (e0) A B T P Y G) (tsM cJ cI cZ) sz)) (kQ none D vwCl (mW cJ cI cZ q (0) (upd A ri.toNatClampNeg ((A si.toNatClampNeg) + (v))) (upd B ri.toNatClampNeg (B si.toNatClampNeg)) (upd T ri.toNatClampNeg (T si.toNatClampNeg)) (upd P ri.toNatClampNeg (P si.toNatClampNeg)) (upd Y ri.toNatClampNeg (Y si.toNatClampNeg)) (ub G ri.toNatClampNeg ((G si.toNatClampNeg && (decide (Y si.toNatClampNeg = 0) || decide (v = 0)))))) (va_A (mW cJ cI cZ q (e0) A B T P Y G) sz)) 0 0 (va_A (mW cJ cI cZ q (e0) A B T P Y G) sz) := by
  refine Met.ofW (cc := cM_move) (maxL := 4) (ret := none) (by decide) rfl ?_
  intro p e s m args below meth c s₁ B9 hml hv
  obtain ⟨rfl, hsz, hP, hK, hD0⟩ := hv
  have hx := B9.exec
  have hb := B9.bytes
  have hr := B9.returns
  have hts := fun (w : Cond) (h : w ∈ gw) => atoms_spec (ws := _ :: gw) B9.pre w (List.mem_cons_of_mem _ h)
  have hown : s.vm.findClass RM = some m.cls := findClass_of_methodNamed B9.named
  have hlocks := B9.notSynchronized
  have hl := lv_entry ([.ref (q 0), .int (ri), .int (si), .int (v)]) (n := 4) (Nat.le_of_ble_eq_true rfl)
  rw [lg_entry_eq]
  generalize (lg_sl ([.ref (q 0), .int (ri), .int (si), .int (v)]) ++ List.replicate (4 - (lg_sl ([.ref (q 0), .int (ri), .int (si), .int (v)])).length) Slot.unset).toArray = ls at hl ⊢
  have hl : lv_has ls 4 [(0, .ref (q 0)), (1, .int (ri)), (2, .int (si)), (3, .int (v))] := hl
  subst hsz
  have hD := hD0.self (sz := s.heap.size)
  generalize hAe : va_A (mW cJ cI cZ q (e0) A B T P Y G) s.heap.size = A9 at hD ⊢
  have hA : ∀ z : Nat, s.heap.size ≤ z → A9 z := fun z h => by rw [← hAe]; exact Or.inr h
  have hS : va_S A9 s.heap s.heap [] := va_S.rf
  have hP : va_P D vwCl (mW cJ cI cZ q (e0) A B T P Y G) s.heap := hP
  refine lv_aload_n hx hb dM_move_0 rfl (lv_at hl 0 rfl) ?_
  refine lv_iconst (v := 0) hx hb dM_move_1 (by decide) ?_
  refine va_put (D := D) (ci := 1) (v := .int (0)) (ty := .int) (C := RM) (T := TM) (N := 7) hx hb hts inM tyM tyM_ok nmM hown hK hP hD hS 0 rfl rfl 0 (by decide) (hts _ w_255) (fun _ h9 => h9) rfl (by decide +kernel) rfl rfl (Nat.le_of_ble_eq_true rfl) dM_move_2 (fun H locs hP hD hS => ?_)
  have hP : va_P D vwCl (mW cJ cI cZ q (0) A B T P Y G) H := hP
  have hD : va_D A9 (mW cJ cI cZ q (0) A B T P Y G) := hD
  refine lv_aload_n hx hb dM_move_5 rfl (lv_at hl 0 rfl) ?_
  refine lv_iload_n hx hb dM_move_6 rfl (lv_at hl 1 rfl) ?_
  refine kr_S 1 (As := [.int (ri)]) (rest := [.ref (q 0)]) (r := .int (bi (gi ri))) hx hb hml hown hts hl.1 (mM_is l (ri)) tt_stb trivial (gw_S w_298 w_299 w_15 w_300) (by decide) ⟨rfl, rfl⟩ ⟨Nat.le_of_ble_eq_true rfl, Nat.le_of_ble_eq_true rfl⟩ rfl rfl (Nat.le_of_ble_eq_true rfl) dM_move_7 ⟨Nat.zero_le _, Nat.zero_le _⟩ ?_
  refine lv_if_eq (tgt := 20) hx hb dM_move_10 (by decide) (fun h_1 => absurd h_1 (gi_nz hri)) (fun h_1 => ?_)
  have h_1 := bi_n h_1
  refine lv_iload_n hx hb dM_move_13 rfl (lv_at hl 2 rfl) ?_
  refine kr_S 1 (As := [.int (si)]) (rest := [.ref (q 0)]) (r := .int (bi (gi si))) hx hb hml hown hts hl.1 (mM_is l (si)) tt_stb trivial (gw_S w_298 w_299 w_15 w_300) (by decide) ⟨rfl, rfl⟩ ⟨Nat.le_of_ble_eq_true rfl, Nat.le_of_ble_eq_true rfl⟩ rfl rfl (Nat.le_of_ble_eq_true rfl) dM_move_14 ⟨Nat.zero_le _, Nat.zero_le _⟩ ?_
  refine lv_if_ne (tgt := 24) hx hb dM_move_17 (by decide) (fun h_2 => ?_) (fun h_2 => absurd h_2 (gi_nz hsi))
  have h_2 := bi_n h_2
  refine lv_iconst (v := 0) hx hb dM_move_24 (by decide) ?_
  refine lv_iconst (v := 1) hx hb dM_move_25 (by decide) ?_
  refine kw_V 2 [0, 1, 2, 3, 4, 5, 6] [] (b := q 0) (As := [.int (0), .int (1)]) (rest := []) (wc := mW cJ cI cZ q (0) A B T P Y G) (wr := []) (w1 := mW cJ cI cZ q (0) A B T P Y G) hx hb hml hown hts hl.1 hP hD hS hA hK (mM_fails_f l D cJ cI cZ q 0 A B T P Y G _ 1) (gw_V w_294 w_296 w_8 w_15 w_297) (by decide) ⟨rfl, rfl⟩ ⟨Nat.le_of_ble_eq_true rfl, Nat.le_of_ble_eq_true rfl⟩ (va_recv hK hP (ci := 1) rfl (q0 := 0) rfl) rfl rfl (Nat.le_of_ble_eq_true rfl) dM_move_26 ⟨Nat.zero_le _, Nat.zero_le _⟩ rfl rfl ⟨by decide, by decide⟩ (by decide) (fun H locs hP hD hS => ?_)
  have hP : va_P D vwCl (mW cJ cI cZ q (0) A B T P Y G) H := hP
  have hD : va_D A9 (mW cJ cI cZ q (0) A B T P Y G) := hD
  refine W.eq (g2 := F0 m 29 ls [.int (0)]) rfl ?_
  refine lv_if_eq (tgt := 33) hx hb dM_move_29 (by decide) (fun h_3 => ?_) (fun h_3 => absurd (by decide) h_3)
  refine lv_aload_n hx hb dM_move_33 rfl (lv_at hl 0 rfl) ?_
  refine lv_iload_n hx hb dM_move_34 rfl (lv_at hl 1 rfl) ?_
  refine lv_aload_n hx hb dM_move_35 rfl (lv_at hl 0 rfl) ?_
  refine va_get (D := D) (ci := 1) (v := .ref (q 1)) (C := RM) (T := TM) (N := 7) hx hb hts inM hown hK hP 0 rfl rfl 1 (by decide) (hts _ w_256) (fun _ h9 => h9) rfl dM_move_36 ?_
  refine lv_iload_n hx hb dM_move_39 rfl (lv_at hl 2 rfl) ?_
  refine va_lald hx hb hK hP 1 0 rfl rfl hsi dM_move_40 ?_
  refine W.eq (g2 := F0 m 41 ls [.long (uw (A si.toNatClampNeg)), .int (ri), .ref (q 0)]) rfl ?_
  refine lv_iload_n hx hb dM_move_41 rfl (lv_at hl 3 rfl) ?_
  refine kr_S 1 (As := [.int (v)]) (rest := [.long (uw (A si.toNatClampNeg)), .int (ri), .ref (q 0)]) (r := .long (uw (v))) hx hb hml hown hts hl.1 (mM_wide l (v)) tt_stb trivial (gw_S w_286 w_287 w_15 w_288) (by decide) ⟨rfl, rfl⟩ ⟨Nat.le_of_ble_eq_true rfl, Nat.le_of_ble_eq_true rfl⟩ rfl rfl (Nat.le_of_ble_eq_true rfl) dM_move_42 ⟨Nat.zero_le _, Nat.zero_le _⟩ ?_
  refine lv_ladd hx hb dM_move_45 ?_
  refine lv_ldc2 (v := 4294967296) hx hb hown (hts _ w_289) dM_move_46 ?_
  refine lv_lrem hx hb dM_move_49 (by decide) ?_
  refine W.eq (g2 := F0 m 50 ls [.long (uw ((A si.toNatClampNeg) + (v))), .int (ri), .ref (q 0)]) (by rw [← uw_sum] <;> rfl) ?_
  refine lv_aload_n hx hb dM_move_50 rfl (lv_at hl 0 rfl) ?_
  refine va_get (D := D) (ci := 1) (v := .ref (q 2)) (C := RM) (T := TM) (N := 7) hx hb hts inM hown hK hP 0 rfl rfl 2 (by decide) (hts _ w_257) (fun _ h9 => h9) rfl dM_move_51 ?_
  refine lv_iload_n hx hb dM_move_54 rfl (lv_at hl 2 rfl) ?_
  refine va_lald hx hb hK hP 2 0 rfl rfl hsi dM_move_55 ?_
  refine W.eq (g2 := F0 m 56 ls [.long (uw (B si.toNatClampNeg)), .long (uw ((A si.toNatClampNeg) + (v))), .int (ri), .ref (q 0)]) rfl ?_
  refine lv_aload_n hx hb dM_move_56 rfl (lv_at hl 0 rfl) ?_
  refine va_get (D := D) (ci := 1) (v := .ref (q 3)) (C := RM) (T := TM) (N := 7) hx hb hts inM hown hK hP 0 rfl rfl 3 (by decide) (hts _ w_258) (fun _ h9 => h9) rfl dM_move_57 ?_
  refine lv_iload_n hx hb dM_move_60 rfl (lv_at hl 2 rfl) ?_
  refine va_lald hx hb hK hP 3 0 rfl rfl hsi dM_move_61 ?_
  refine W.eq (g2 := F0 m 62 ls [.long (uw (T si.toNatClampNeg)), .long (uw (B si.toNatClampNeg)), .long (uw ((A si.toNatClampNeg) + (v))), .int (ri), .ref (q 0)]) rfl ?_
  refine lv_aload_n hx hb dM_move_62 rfl (lv_at hl 0 rfl) ?_
  refine va_get (D := D) (ci := 1) (v := .ref (q 4)) (C := RM) (T := TM) (N := 7) hx hb hts inM hown hK hP 0 rfl rfl 4 (by decide) (hts _ w_259) (fun _ h9 => h9) rfl dM_move_63 ?_
  refine lv_iload_n hx hb dM_move_66 rfl (lv_at hl 2 rfl) ?_
  refine va_iald hx hb hK hP 4 1 rfl rfl hsi dM_move_67 ?_
  refine lv_aload_n hx hb dM_move_68 rfl (lv_at hl 0 rfl) ?_
  refine va_get (D := D) (ci := 1) (v := .ref (q 5)) (C := RM) (T := TM) (N := 7) hx hb hts inM hown hK hP 0 rfl rfl 5 (by decide) (hts _ w_260) (fun _ h9 => h9) rfl dM_move_69 ?_
  refine lv_iload_n hx hb dM_move_72 rfl (lv_at hl 2 rfl) ?_
  refine va_iald hx hb hK hP 5 1 rfl rfl hsi dM_move_73 ?_
  refine lv_aload_n hx hb dM_move_74 rfl (lv_at hl 0 rfl) ?_
  refine va_get (D := D) (ci := 1) (v := .ref (q 6)) (C := RM) (T := TM) (N := 7) hx hb hts inM hown hK hP 0 rfl rfl 6 (by decide) (hts _ w_261) (fun _ h9 => h9) rfl dM_move_75 ?_
  refine lv_iload_n hx hb dM_move_78 rfl (lv_at hl 2 rfl) ?_
  refine va_zald hx hb hK hP 6 2 rfl rfl hsi dM_move_79 ?_
  refine W.eq (g2 := F0 m 80 ls [.int (bi (G si.toNatClampNeg)), .int (Y si.toNatClampNeg), .int (P si.toNatClampNeg), .long (uw (T si.toNatClampNeg)), .long (uw (B si.toNatClampNeg)), .long (uw ((A si.toNatClampNeg) + (v))), .int (ri), .ref (q 0)]) rfl ?_
  refine lv_if_eq (tgt := 99) hx hb dM_move_80 (by decide) (fun h_4 => ?_) (fun h_4 => ?_)
  · have h_4 := bi_0 h_4
    refine lv_iconst (v := 0) hx hb dM_move_99 (by decide) ?_
    refine W.eq (g2 := F0 m 100 ls [.int (bi (false)), .int (Y si.toNatClampNeg), .int (P si.toNatClampNeg), .long (uw (T si.toNatClampNeg)), .long (uw (B si.toNatClampNeg)), .long (uw ((A si.toNatClampNeg) + (v))), .int (ri), .ref (q 0)]) rfl ?_
    refine kw_V 7 [0, 1, 2, 3, 4, 5, 6] [] (b := q 0) (As := [.int (ri), .long (uw ((A si.toNatClampNeg) + (v))), .long (uw (B si.toNatClampNeg)), .long (uw (T si.toNatClampNeg)), .int (P si.toNatClampNeg), .int (Y si.toNatClampNeg), .int (bi (false))]) (rest := []) (wc := mW cJ cI cZ q (0) A B T P Y G) (wr := []) (w1 := mW cJ cI cZ q (0) (upd A ri.toNatClampNeg ((A si.toNatClampNeg) + (v))) (upd B ri.toNatClampNeg (B si.toNatClampNeg)) (upd T ri.toNatClampNeg (T si.toNatClampNeg)) (upd P ri.toNatClampNeg (P si.toNatClampNeg)) (upd Y ri.toNatClampNeg (Y si.toNatClampNeg)) (ub G ri.toNatClampNeg (false))) hx hb hml hown hts hl.1 hP hD hS hA hK (mM_give l D cJ cI cZ q (0) A B T P Y G _ ri ((A si.toNatClampNeg) + (v)) (B si.toNatClampNeg) (T si.toNatClampNeg) (P si.toNatClampNeg) (Y si.toNatClampNeg) false hri) (gw_V w_302 w_304 w_9 w_15 w_305) (by decide) ⟨rfl, rfl⟩ ⟨Nat.le_of_ble_eq_true rfl, Nat.le_of_ble_eq_true rfl⟩ (va_recv hK hP (ci := 1) rfl (q0 := 0) rfl) rfl rfl (Nat.le_of_ble_eq_true rfl) dM_move_100 ⟨Nat.zero_le _, Nat.zero_le _⟩ rfl rfl ⟨by decide, by decide⟩ (by decide) (fun H locs hP hD hS => ?_)
    have hP : va_P D vwCl (mW cJ cI cZ q (0) (upd A ri.toNatClampNeg ((A si.toNatClampNeg) + (v))) (upd B ri.toNatClampNeg (B si.toNatClampNeg)) (upd T ri.toNatClampNeg (T si.toNatClampNeg)) (upd P ri.toNatClampNeg (P si.toNatClampNeg)) (upd Y ri.toNatClampNeg (Y si.toNatClampNeg)) (ub G ri.toNatClampNeg (false))) H := hP
    have hD : va_D A9 (mW cJ cI cZ q (0) (upd A ri.toNatClampNeg ((A si.toNatClampNeg) + (v))) (upd B ri.toNatClampNeg (B si.toNatClampNeg)) (upd T ri.toNatClampNeg (T si.toNatClampNeg)) (upd P ri.toNatClampNeg (P si.toNatClampNeg)) (upd Y ri.toNatClampNeg (Y si.toNatClampNeg)) (ub G ri.toNatClampNeg (false))) := hD
    refine W.eq (g2 := F0 m 103 ls []) rfl ?_
    have e9_0 : (G si.toNatClampNeg && (decide (Y si.toNatClampNeg = 0) || decide (v = 0))) = false := by (try simp only [decide_eq_true_eq, decide_eq_false_iff_not, Decidable.not_not] at h_1); (try simp only [decide_eq_true_eq, decide_eq_false_iff_not, Decidable.not_not] at h_2); (try simp only [decide_eq_true_eq, decide_eq_false_iff_not, Decidable.not_not] at h_4); simp [h_1, h_2, h_4]
    have hP : va_P D vwCl (mW cJ cI cZ q (0) (upd A ri.toNatClampNeg ((A si.toNatClampNeg) + (v))) (upd B ri.toNatClampNeg (B si.toNatClampNeg)) (upd T ri.toNatClampNeg (T si.toNatClampNeg)) (upd P ri.toNatClampNeg (P si.toNatClampNeg)) (upd Y ri.toNatClampNeg (Y si.toNatClampNeg)) (ub G ri.toNatClampNeg ((G si.toNatClampNeg && (decide (Y si.toNatClampNeg = 0) || decide (v = 0)))))) H := by (try rw [e9_0]); first | exact hP | (simp only [uu_upd, uu_ub] at hP ⊢; exact hP)
    have hD : va_D A9 (mW cJ cI cZ q (0) (upd A ri.toNatClampNeg ((A si.toNatClampNeg) + (v))) (upd B ri.toNatClampNeg (B si.toNatClampNeg)) (upd T ri.toNatClampNeg (T si.toNatClampNeg)) (upd P ri.toNatClampNeg (P si.toNatClampNeg)) (upd Y ri.toNatClampNeg (Y si.toNatClampNeg)) (ub G ri.toNatClampNeg ((G si.toNatClampNeg && (decide (Y si.toNatClampNeg = 0) || decide (v = 0)))))) := by (try rw [e9_0]); first | exact hD | (simp only [uu_upd, uu_ub] at hD ⊢; exact hD)
    exact W.vret hx hb hr (fun t9 ht hW => ⟨rfl, by rw [ht]; exact hP, hD, hS.F ht⟩) hS.2.2 dM_move_103
  · have h_4 := bi_n h_4
    refine lv_aload_n hx hb dM_move_83 rfl (lv_at hl 0 rfl) ?_
    refine lv_iload_n hx hb dM_move_84 rfl (lv_at hl 2 rfl) ?_
    refine kr_Vw 1 (b := q 0) (As := [.int (si)]) (rest := [.int (Y si.toNatClampNeg), .int (P si.toNatClampNeg), .long (uw (T si.toNatClampNeg)), .long (uw (B si.toNatClampNeg)), .long (uw ((A si.toNatClampNeg) + (v))), .int (ri), .ref (q 0)]) (r := .int (bi (decide (¬ Y si.toNatClampNeg = 0)))) hx hb hml hown hts hl.1 (mM_isSealed l D cJ cI cZ q (0) A B T P Y G (si) hsi) rB_stb ⟨hP, hK⟩ (gw_V w_314 w_316 w_10 w_15 w_317) (by decide) ⟨rfl, rfl⟩ ⟨Nat.le_of_ble_eq_true rfl, Nat.le_of_ble_eq_true rfl⟩ (va_recv hK hP (ci := 1) rfl (q0 := 0) rfl) rfl rfl (Nat.le_of_ble_eq_true rfl) dM_move_85 ⟨Nat.zero_le _, Nat.zero_le _⟩ ?_
    refine lv_if_eq (tgt := 95) hx hb dM_move_88 (by decide) (fun h_5 => ?_) (fun h_5 => ?_)
    · have h_5 := bi_0 h_5
      refine lv_iconst (v := 1) hx hb dM_move_95 (by decide) ?_
      refine lv_goto (tgt := 100) hx hb dM_move_96 (by decide) ?_
      refine W.eq (g2 := F0 m 100 ls [.int (bi (true)), .int (Y si.toNatClampNeg), .int (P si.toNatClampNeg), .long (uw (T si.toNatClampNeg)), .long (uw (B si.toNatClampNeg)), .long (uw ((A si.toNatClampNeg) + (v))), .int (ri), .ref (q 0)]) rfl ?_
      refine kw_V 7 [0, 1, 2, 3, 4, 5, 6] [] (b := q 0) (As := [.int (ri), .long (uw ((A si.toNatClampNeg) + (v))), .long (uw (B si.toNatClampNeg)), .long (uw (T si.toNatClampNeg)), .int (P si.toNatClampNeg), .int (Y si.toNatClampNeg), .int (bi (true))]) (rest := []) (wc := mW cJ cI cZ q (0) A B T P Y G) (wr := []) (w1 := mW cJ cI cZ q (0) (upd A ri.toNatClampNeg ((A si.toNatClampNeg) + (v))) (upd B ri.toNatClampNeg (B si.toNatClampNeg)) (upd T ri.toNatClampNeg (T si.toNatClampNeg)) (upd P ri.toNatClampNeg (P si.toNatClampNeg)) (upd Y ri.toNatClampNeg (Y si.toNatClampNeg)) (ub G ri.toNatClampNeg (true))) hx hb hml hown hts hl.1 hP hD hS hA hK (mM_give l D cJ cI cZ q (0) A B T P Y G _ ri ((A si.toNatClampNeg) + (v)) (B si.toNatClampNeg) (T si.toNatClampNeg) (P si.toNatClampNeg) (Y si.toNatClampNeg) true hri) (gw_V w_302 w_304 w_9 w_15 w_305) (by decide) ⟨rfl, rfl⟩ ⟨Nat.le_of_ble_eq_true rfl, Nat.le_of_ble_eq_true rfl⟩ (va_recv hK hP (ci := 1) rfl (q0 := 0) rfl) rfl rfl (Nat.le_of_ble_eq_true rfl) dM_move_100 ⟨Nat.zero_le _, Nat.zero_le _⟩ rfl rfl ⟨by decide, by decide⟩ (by decide) (fun H locs hP hD hS => ?_)
      have hP : va_P D vwCl (mW cJ cI cZ q (0) (upd A ri.toNatClampNeg ((A si.toNatClampNeg) + (v))) (upd B ri.toNatClampNeg (B si.toNatClampNeg)) (upd T ri.toNatClampNeg (T si.toNatClampNeg)) (upd P ri.toNatClampNeg (P si.toNatClampNeg)) (upd Y ri.toNatClampNeg (Y si.toNatClampNeg)) (ub G ri.toNatClampNeg (true))) H := hP
      have hD : va_D A9 (mW cJ cI cZ q (0) (upd A ri.toNatClampNeg ((A si.toNatClampNeg) + (v))) (upd B ri.toNatClampNeg (B si.toNatClampNeg)) (upd T ri.toNatClampNeg (T si.toNatClampNeg)) (upd P ri.toNatClampNeg (P si.toNatClampNeg)) (upd Y ri.toNatClampNeg (Y si.toNatClampNeg)) (ub G ri.toNatClampNeg (true))) := hD
      refine W.eq (g2 := F0 m 103 ls []) rfl ?_
      have e9_0 : (G si.toNatClampNeg && (decide (Y si.toNatClampNeg = 0) || decide (v = 0))) = true := by (try simp only [decide_eq_true_eq, decide_eq_false_iff_not, Decidable.not_not] at h_1); (try simp only [decide_eq_true_eq, decide_eq_false_iff_not, Decidable.not_not] at h_2); (try simp only [decide_eq_true_eq, decide_eq_false_iff_not, Decidable.not_not] at h_4); (try simp only [decide_eq_true_eq, decide_eq_false_iff_not, Decidable.not_not] at h_5); simp [h_1, h_2, h_4, h_5]
      have hP : va_P D vwCl (mW cJ cI cZ q (0) (upd A ri.toNatClampNeg ((A si.toNatClampNeg) + (v))) (upd B ri.toNatClampNeg (B si.toNatClampNeg)) (upd T ri.toNatClampNeg (T si.toNatClampNeg)) (upd P ri.toNatClampNeg (P si.toNatClampNeg)) (upd Y ri.toNatClampNeg (Y si.toNatClampNeg)) (ub G ri.toNatClampNeg ((G si.toNatClampNeg && (decide (Y si.toNatClampNeg = 0) || decide (v = 0)))))) H := by (try rw [e9_0]); first | exact hP | (simp only [uu_upd, uu_ub] at hP ⊢; exact hP)
      have hD : va_D A9 (mW cJ cI cZ q (0) (upd A ri.toNatClampNeg ((A si.toNatClampNeg) + (v))) (upd B ri.toNatClampNeg (B si.toNatClampNeg)) (upd T ri.toNatClampNeg (T si.toNatClampNeg)) (upd P ri.toNatClampNeg (P si.toNatClampNeg)) (upd Y ri.toNatClampNeg (Y si.toNatClampNeg)) (ub G ri.toNatClampNeg ((G si.toNatClampNeg && (decide (Y si.toNatClampNeg = 0) || decide (v = 0)))))) := by (try rw [e9_0]); first | exact hD | (simp only [uu_upd, uu_ub] at hD ⊢; exact hD)
      exact W.vret hx hb hr (fun t9 ht hW => ⟨rfl, by rw [ht]; exact hP, hD, hS.F ht⟩) hS.2.2 dM_move_103
    · have h_5 := bi_n h_5
      refine lv_iload_n hx hb dM_move_91 rfl (lv_at hl 3 rfl) ?_
      refine lv_if_ne (tgt := 99) hx hb dM_move_92 (by decide) (fun h_6 => ?_) (fun h_6 => ?_)
      · 
        refine lv_iconst (v := 0) hx hb dM_move_99 (by decide) ?_
        refine W.eq (g2 := F0 m 100 ls [.int (bi (false)), .int (Y si.toNatClampNeg), .int (P si.toNatClampNeg), .long (uw (T si.toNatClampNeg)), .long (uw (B si.toNatClampNeg)), .long (uw ((A si.toNatClampNeg) + (v))), .int (ri), .ref (q 0)]) rfl ?_
        refine kw_V 7 [0, 1, 2, 3, 4, 5, 6] [] (b := q 0) (As := [.int (ri), .long (uw ((A si.toNatClampNeg) + (v))), .long (uw (B si.toNatClampNeg)), .long (uw (T si.toNatClampNeg)), .int (P si.toNatClampNeg), .int (Y si.toNatClampNeg), .int (bi (false))]) (rest := []) (wc := mW cJ cI cZ q (0) A B T P Y G) (wr := []) (w1 := mW cJ cI cZ q (0) (upd A ri.toNatClampNeg ((A si.toNatClampNeg) + (v))) (upd B ri.toNatClampNeg (B si.toNatClampNeg)) (upd T ri.toNatClampNeg (T si.toNatClampNeg)) (upd P ri.toNatClampNeg (P si.toNatClampNeg)) (upd Y ri.toNatClampNeg (Y si.toNatClampNeg)) (ub G ri.toNatClampNeg (false))) hx hb hml hown hts hl.1 hP hD hS hA hK (mM_give l D cJ cI cZ q (0) A B T P Y G _ ri ((A si.toNatClampNeg) + (v)) (B si.toNatClampNeg) (T si.toNatClampNeg) (P si.toNatClampNeg) (Y si.toNatClampNeg) false hri) (gw_V w_302 w_304 w_9 w_15 w_305) (by decide) ⟨rfl, rfl⟩ ⟨Nat.le_of_ble_eq_true rfl, Nat.le_of_ble_eq_true rfl⟩ (va_recv hK hP (ci := 1) rfl (q0 := 0) rfl) rfl rfl (Nat.le_of_ble_eq_true rfl) dM_move_100 ⟨Nat.zero_le _, Nat.zero_le _⟩ rfl rfl ⟨by decide, by decide⟩ (by decide) (fun H locs hP hD hS => ?_)
        have hP : va_P D vwCl (mW cJ cI cZ q (0) (upd A ri.toNatClampNeg ((A si.toNatClampNeg) + (v))) (upd B ri.toNatClampNeg (B si.toNatClampNeg)) (upd T ri.toNatClampNeg (T si.toNatClampNeg)) (upd P ri.toNatClampNeg (P si.toNatClampNeg)) (upd Y ri.toNatClampNeg (Y si.toNatClampNeg)) (ub G ri.toNatClampNeg (false))) H := hP
        have hD : va_D A9 (mW cJ cI cZ q (0) (upd A ri.toNatClampNeg ((A si.toNatClampNeg) + (v))) (upd B ri.toNatClampNeg (B si.toNatClampNeg)) (upd T ri.toNatClampNeg (T si.toNatClampNeg)) (upd P ri.toNatClampNeg (P si.toNatClampNeg)) (upd Y ri.toNatClampNeg (Y si.toNatClampNeg)) (ub G ri.toNatClampNeg (false))) := hD
        refine W.eq (g2 := F0 m 103 ls []) rfl ?_
        have e9_0 : (G si.toNatClampNeg && (decide (Y si.toNatClampNeg = 0) || decide (v = 0))) = false := by (try simp only [decide_eq_true_eq, decide_eq_false_iff_not, Decidable.not_not] at h_1); (try simp only [decide_eq_true_eq, decide_eq_false_iff_not, Decidable.not_not] at h_2); (try simp only [decide_eq_true_eq, decide_eq_false_iff_not, Decidable.not_not] at h_4); (try simp only [decide_eq_true_eq, decide_eq_false_iff_not, Decidable.not_not] at h_5); (try simp only [decide_eq_true_eq, decide_eq_false_iff_not, Decidable.not_not] at h_6); simp [h_1, h_2, h_4, h_5, h_6]
        have hP : va_P D vwCl (mW cJ cI cZ q (0) (upd A ri.toNatClampNeg ((A si.toNatClampNeg) + (v))) (upd B ri.toNatClampNeg (B si.toNatClampNeg)) (upd T ri.toNatClampNeg (T si.toNatClampNeg)) (upd P ri.toNatClampNeg (P si.toNatClampNeg)) (upd Y ri.toNatClampNeg (Y si.toNatClampNeg)) (ub G ri.toNatClampNeg ((G si.toNatClampNeg && (decide (Y si.toNatClampNeg = 0) || decide (v = 0)))))) H := by (try rw [e9_0]); first | exact hP | (simp only [uu_upd, uu_ub] at hP ⊢; exact hP)
        have hD : va_D A9 (mW cJ cI cZ q (0) (upd A ri.toNatClampNeg ((A si.toNatClampNeg) + (v))) (upd B ri.toNatClampNeg (B si.toNatClampNeg)) (upd T ri.toNatClampNeg (T si.toNatClampNeg)) (upd P ri.toNatClampNeg (P si.toNatClampNeg)) (upd Y ri.toNatClampNeg (Y si.toNatClampNeg)) (ub G ri.toNatClampNeg ((G si.toNatClampNeg && (decide (Y si.toNatClampNeg = 0) || decide (v = 0)))))) := by (try rw [e9_0]); first | exact hD | (simp only [uu_upd, uu_ub] at hD ⊢; exact hD)
        exact W.vret hx hb hr (fun t9 ht hW => ⟨rfl, by rw [ht]; exact hP, hD, hS.F ht⟩) hS.2.2 dM_move_103
      · 
        refine lv_iconst (v := 1) hx hb dM_move_95 (by decide) ?_
        refine lv_goto (tgt := 100) hx hb dM_move_96 (by decide) ?_
        refine W.eq (g2 := F0 m 100 ls [.int (bi (true)), .int (Y si.toNatClampNeg), .int (P si.toNatClampNeg), .long (uw (T si.toNatClampNeg)), .long (uw (B si.toNatClampNeg)), .long (uw ((A si.toNatClampNeg) + (v))), .int (ri), .ref (q 0)]) rfl ?_
        refine kw_V 7 [0, 1, 2, 3, 4, 5, 6] [] (b := q 0) (As := [.int (ri), .long (uw ((A si.toNatClampNeg) + (v))), .long (uw (B si.toNatClampNeg)), .long (uw (T si.toNatClampNeg)), .int (P si.toNatClampNeg), .int (Y si.toNatClampNeg), .int (bi (true))]) (rest := []) (wc := mW cJ cI cZ q (0) A B T P Y G) (wr := []) (w1 := mW cJ cI cZ q (0) (upd A ri.toNatClampNeg ((A si.toNatClampNeg) + (v))) (upd B ri.toNatClampNeg (B si.toNatClampNeg)) (upd T ri.toNatClampNeg (T si.toNatClampNeg)) (upd P ri.toNatClampNeg (P si.toNatClampNeg)) (upd Y ri.toNatClampNeg (Y si.toNatClampNeg)) (ub G ri.toNatClampNeg (true))) hx hb hml hown hts hl.1 hP hD hS hA hK (mM_give l D cJ cI cZ q (0) A B T P Y G _ ri ((A si.toNatClampNeg) + (v)) (B si.toNatClampNeg) (T si.toNatClampNeg) (P si.toNatClampNeg) (Y si.toNatClampNeg) true hri) (gw_V w_302 w_304 w_9 w_15 w_305) (by decide) ⟨rfl, rfl⟩ ⟨Nat.le_of_ble_eq_true rfl, Nat.le_of_ble_eq_true rfl⟩ (va_recv hK hP (ci := 1) rfl (q0 := 0) rfl) rfl rfl (Nat.le_of_ble_eq_true rfl) dM_move_100 ⟨Nat.zero_le _, Nat.zero_le _⟩ rfl rfl ⟨by decide, by decide⟩ (by decide) (fun H locs hP hD hS => ?_)
        have hP : va_P D vwCl (mW cJ cI cZ q (0) (upd A ri.toNatClampNeg ((A si.toNatClampNeg) + (v))) (upd B ri.toNatClampNeg (B si.toNatClampNeg)) (upd T ri.toNatClampNeg (T si.toNatClampNeg)) (upd P ri.toNatClampNeg (P si.toNatClampNeg)) (upd Y ri.toNatClampNeg (Y si.toNatClampNeg)) (ub G ri.toNatClampNeg (true))) H := hP
        have hD : va_D A9 (mW cJ cI cZ q (0) (upd A ri.toNatClampNeg ((A si.toNatClampNeg) + (v))) (upd B ri.toNatClampNeg (B si.toNatClampNeg)) (upd T ri.toNatClampNeg (T si.toNatClampNeg)) (upd P ri.toNatClampNeg (P si.toNatClampNeg)) (upd Y ri.toNatClampNeg (Y si.toNatClampNeg)) (ub G ri.toNatClampNeg (true))) := hD
        refine W.eq (g2 := F0 m 103 ls []) rfl ?_
        have e9_0 : (G si.toNatClampNeg && (decide (Y si.toNatClampNeg = 0) || decide (v = 0))) = true := by (try simp only [decide_eq_true_eq, decide_eq_false_iff_not, Decidable.not_not] at h_1); (try simp only [decide_eq_true_eq, decide_eq_false_iff_not, Decidable.not_not] at h_2); (try simp only [decide_eq_true_eq, decide_eq_false_iff_not, Decidable.not_not] at h_4); (try simp only [decide_eq_true_eq, decide_eq_false_iff_not, Decidable.not_not] at h_5); (try simp only [decide_eq_true_eq, decide_eq_false_iff_not, Decidable.not_not] at h_6); simp [h_1, h_2, h_4, h_5, h_6]
        have hP : va_P D vwCl (mW cJ cI cZ q (0) (upd A ri.toNatClampNeg ((A si.toNatClampNeg) + (v))) (upd B ri.toNatClampNeg (B si.toNatClampNeg)) (upd T ri.toNatClampNeg (T si.toNatClampNeg)) (upd P ri.toNatClampNeg (P si.toNatClampNeg)) (upd Y ri.toNatClampNeg (Y si.toNatClampNeg)) (ub G ri.toNatClampNeg ((G si.toNatClampNeg && (decide (Y si.toNatClampNeg = 0) || decide (v = 0)))))) H := by (try rw [e9_0]); first | exact hP | (simp only [uu_upd, uu_ub] at hP ⊢; exact hP)
        have hD : va_D A9 (mW cJ cI cZ q (0) (upd A ri.toNatClampNeg ((A si.toNatClampNeg) + (v))) (upd B ri.toNatClampNeg (B si.toNatClampNeg)) (upd T ri.toNatClampNeg (T si.toNatClampNeg)) (upd P ri.toNatClampNeg (P si.toNatClampNeg)) (upd Y ri.toNatClampNeg (Y si.toNatClampNeg)) (ub G ri.toNatClampNeg ((G si.toNatClampNeg && (decide (Y si.toNatClampNeg = 0) || decide (v = 0)))))) := by (try rw [e9_0]); first | exact hD | (simp only [uu_upd, uu_ub] at hD ⊢; exact hD)
        exact W.vret hx hb hr (fun t9 ht hW => ⟨rfl, by rw [ht]; exact hP, hD, hS.F ht⟩) hS.2.2 dM_move_103

set_option maxRecDepth 100000 in
set_option maxHeartbeats 4000000 in
theorem mM_move_n (l : Launch) (D : va_G) (cJ cI cZ : ClassId) (q : Nat → Nat) (e0 : Int32) (A B T P Y : Nat → Int32) (G : Nat → Bool) (sz : Nat) (ri si v : Int32) (hbad : ¬ (vp_in ri 16 ∧ vp_in si 16)) : Met l yM_move (Cond.code yM_move cM_move 4 none :: gw) (rmk 2 0 0) (va_Pc [.ref (q 0), .int (ri), .int (si), .int (v)] (kB D vwCl (mW cJ cI cZ q (e0) A B T P Y G) (tsM cJ cI cZ) sz)) (kQ none D vwCl (mW cJ cI cZ q (1) A B T P Y G) (va_A (mW cJ cI cZ q (e0) A B T P Y G) sz)) 0 0 (va_A (mW cJ cI cZ q (e0) A B T P Y G) sz) := by
  refine Met.ofW (cc := cM_move) (maxL := 4) (ret := none) (by decide) rfl ?_
  intro p e s m args below meth c s₁ B9 hml hv
  obtain ⟨rfl, hsz, hP, hK, hD0⟩ := hv
  have hx := B9.exec
  have hb := B9.bytes
  have hr := B9.returns
  have hts := fun (w : Cond) (h : w ∈ gw) => atoms_spec (ws := _ :: gw) B9.pre w (List.mem_cons_of_mem _ h)
  have hown : s.vm.findClass RM = some m.cls := findClass_of_methodNamed B9.named
  have hlocks := B9.notSynchronized
  have hl := lv_entry ([.ref (q 0), .int (ri), .int (si), .int (v)]) (n := 4) (Nat.le_of_ble_eq_true rfl)
  rw [lg_entry_eq]
  generalize (lg_sl ([.ref (q 0), .int (ri), .int (si), .int (v)]) ++ List.replicate (4 - (lg_sl ([.ref (q 0), .int (ri), .int (si), .int (v)])).length) Slot.unset).toArray = ls at hl ⊢
  have hl : lv_has ls 4 [(0, .ref (q 0)), (1, .int (ri)), (2, .int (si)), (3, .int (v))] := hl
  subst hsz
  have hD := hD0.self (sz := s.heap.size)
  generalize hAe : va_A (mW cJ cI cZ q (e0) A B T P Y G) s.heap.size = A9 at hD ⊢
  have hA : ∀ z : Nat, s.heap.size ≤ z → A9 z := fun z h => by rw [← hAe]; exact Or.inr h
  have hS : va_S A9 s.heap s.heap [] := va_S.rf
  have hP : va_P D vwCl (mW cJ cI cZ q (e0) A B T P Y G) s.heap := hP
  refine lv_aload_n hx hb dM_move_0 rfl (lv_at hl 0 rfl) ?_
  refine lv_iconst (v := 0) hx hb dM_move_1 (by decide) ?_
  refine va_put (D := D) (ci := 1) (v := .int (0)) (ty := .int) (C := RM) (T := TM) (N := 7) hx hb hts inM tyM tyM_ok nmM hown hK hP hD hS 0 rfl rfl 0 (by decide) (hts _ w_255) (fun _ h9 => h9) rfl (by decide +kernel) rfl rfl (Nat.le_of_ble_eq_true rfl) dM_move_2 (fun H locs hP hD hS => ?_)
  have hP : va_P D vwCl (mW cJ cI cZ q (0) A B T P Y G) H := hP
  have hD : va_D A9 (mW cJ cI cZ q (0) A B T P Y G) := hD
  refine lv_aload_n hx hb dM_move_5 rfl (lv_at hl 0 rfl) ?_
  refine lv_iload_n hx hb dM_move_6 rfl (lv_at hl 1 rfl) ?_
  refine kr_S 1 (As := [.int (ri)]) (rest := [.ref (q 0)]) (r := .int (bi (gi ri))) hx hb hml hown hts hl.1 (mM_is l (ri)) tt_stb trivial (gw_S w_298 w_299 w_15 w_300) (by decide) ⟨rfl, rfl⟩ ⟨Nat.le_of_ble_eq_true rfl, Nat.le_of_ble_eq_true rfl⟩ rfl rfl (Nat.le_of_ble_eq_true rfl) dM_move_7 ⟨Nat.zero_le _, Nat.zero_le _⟩ ?_
  refine lv_if_eq (tgt := 20) hx hb dM_move_10 (by decide) (fun h_1 => ?_) (fun h_1 => ?_)
  · have h_1 := bi_0 h_1
    refine lv_iconst (v := 1) hx hb dM_move_20 (by decide) ?_
    refine lv_goto (tgt := 25) hx hb dM_move_21 (by decide) ?_
    refine lv_iconst (v := 1) hx hb dM_move_25 (by decide) ?_
    refine kw_V 2 [0, 1, 2, 3, 4, 5, 6] [] (b := q 0) (As := [.int (1), .int (1)]) (rest := []) (wc := mW cJ cI cZ q (0) A B T P Y G) (wr := []) (w1 := mW cJ cI cZ q (1) A B T P Y G) hx hb hml hown hts hl.1 hP hD hS hA hK (mM_fails_t l D cJ cI cZ q 0 A B T P Y G _ 1 (by decide)) (gw_V w_294 w_296 w_8 w_15 w_297) (by decide) ⟨rfl, rfl⟩ ⟨Nat.le_of_ble_eq_true rfl, Nat.le_of_ble_eq_true rfl⟩ (va_recv hK hP (ci := 1) rfl (q0 := 0) rfl) rfl rfl (Nat.le_of_ble_eq_true rfl) dM_move_26 ⟨Nat.zero_le _, Nat.zero_le _⟩ rfl rfl ⟨by decide, by decide⟩ (by decide) (fun H locs hP hD hS => ?_)
    have hP : va_P D vwCl (mW cJ cI cZ q (1) A B T P Y G) H := hP
    have hD : va_D A9 (mW cJ cI cZ q (1) A B T P Y G) := hD
    refine W.eq (g2 := F0 m 29 ls [.int (1)]) rfl ?_
    refine lv_if_eq (tgt := 33) hx hb dM_move_29 (by decide) (fun h_2 => absurd h_2 (by decide)) (fun h_2 => ?_)
    exact W.vret hx hb hr (fun t9 ht hW => ⟨rfl, by rw [ht]; exact hP, hD, hS.F ht⟩) hS.2.2 dM_move_32
  · have h_1 := bi_n h_1
    refine lv_iload_n hx hb dM_move_13 rfl (lv_at hl 2 rfl) ?_
    refine kr_S 1 (As := [.int (si)]) (rest := [.ref (q 0)]) (r := .int (bi (gi si))) hx hb hml hown hts hl.1 (mM_is l (si)) tt_stb trivial (gw_S w_298 w_299 w_15 w_300) (by decide) ⟨rfl, rfl⟩ ⟨Nat.le_of_ble_eq_true rfl, Nat.le_of_ble_eq_true rfl⟩ rfl rfl (Nat.le_of_ble_eq_true rfl) dM_move_14 ⟨Nat.zero_le _, Nat.zero_le _⟩ ?_
    refine lv_if_ne (tgt := 24) hx hb dM_move_17 (by decide) (fun h_3 => ?_) (fun h_3 => ?_)
    · have h_3 := bi_n h_3
      exact absurd ⟨gi_in.mp h_1, gi_in.mp h_3⟩ hbad
    · have h_3 := bi_0 h_3
      refine lv_iconst (v := 1) hx hb dM_move_20 (by decide) ?_
      refine lv_goto (tgt := 25) hx hb dM_move_21 (by decide) ?_
      refine lv_iconst (v := 1) hx hb dM_move_25 (by decide) ?_
      refine kw_V 2 [0, 1, 2, 3, 4, 5, 6] [] (b := q 0) (As := [.int (1), .int (1)]) (rest := []) (wc := mW cJ cI cZ q (0) A B T P Y G) (wr := []) (w1 := mW cJ cI cZ q (1) A B T P Y G) hx hb hml hown hts hl.1 hP hD hS hA hK (mM_fails_t l D cJ cI cZ q 0 A B T P Y G _ 1 (by decide)) (gw_V w_294 w_296 w_8 w_15 w_297) (by decide) ⟨rfl, rfl⟩ ⟨Nat.le_of_ble_eq_true rfl, Nat.le_of_ble_eq_true rfl⟩ (va_recv hK hP (ci := 1) rfl (q0 := 0) rfl) rfl rfl (Nat.le_of_ble_eq_true rfl) dM_move_26 ⟨Nat.zero_le _, Nat.zero_le _⟩ rfl rfl ⟨by decide, by decide⟩ (by decide) (fun H locs hP hD hS => ?_)
      have hP : va_P D vwCl (mW cJ cI cZ q (1) A B T P Y G) H := hP
      have hD : va_D A9 (mW cJ cI cZ q (1) A B T P Y G) := hD
      refine W.eq (g2 := F0 m 29 ls [.int (1)]) rfl ?_
      refine lv_if_eq (tgt := 33) hx hb dM_move_29 (by decide) (fun h_4 => absurd h_4 (by decide)) (fun h_4 => ?_)
      exact W.vret hx hb hr (fun t9 ht hW => ⟨rfl, by rw [ht]; exact hP, hD, hS.F ht⟩) hS.2.2 dM_move_32

set_option maxRecDepth 100000 in
set_option maxHeartbeats 4000000 in
theorem mM_narrow_y (l : Launch) (D : va_G) (cJ cI cZ : ClassId) (q : Nat → Nat) (e0 : Int32) (A B T P Y : Nat → Int32) (G : Nat → Bool) (sz : Nat) (ri si v : Int32) (hri : vp_in ri 16) (hsi : vp_in si 16) : Met l yM_narrow (Cond.code yM_narrow cM_narrow 8 (some .boolean) :: gw) (rmk 2 0 0) (va_Pc [.ref (q 0), .int (ri), .int (si), .int (v)] (kB D vwCl (mW cJ cI cZ q (e0) A B T P Y G) (tsM cJ cI cZ) sz)) (kQ (some (.int (bi (G si.toNatClampNeg && (decide (Y si.toNatClampNeg = 0) && ga_in (B si.toNatClampNeg) (T si.toNatClampNeg) (A si.toNatClampNeg) (un v)))))) D vwCl (mW cJ cI cZ q (0) (upd A ri.toNatClampNeg (A si.toNatClampNeg)) (upd B ri.toNatClampNeg (A si.toNatClampNeg)) (upd T ri.toNatClampNeg ((A si.toNatClampNeg) + (v))) (upd P ri.toNatClampNeg (P si.toNatClampNeg)) (upd Y ri.toNatClampNeg (Y si.toNatClampNeg)) (ub G ri.toNatClampNeg ((G si.toNatClampNeg && (decide (Y si.toNatClampNeg = 0) && ga_in (B si.toNatClampNeg) (T si.toNatClampNeg) (A si.toNatClampNeg) (un v)))))) (va_A (mW cJ cI cZ q (e0) A B T P Y G) sz)) 0 0 (va_A (mW cJ cI cZ q (e0) A B T P Y G) sz) := by
  refine Met.ofW (cc := cM_narrow) (maxL := 8) (ret := (some .boolean)) (by decide) rfl ?_
  intro p e s m args below meth c s₁ B9 hml hv
  obtain ⟨rfl, hsz, hP, hK, hD0⟩ := hv
  have hx := B9.exec
  have hb := B9.bytes
  have hr := B9.returns
  have hts := fun (w : Cond) (h : w ∈ gw) => atoms_spec (ws := _ :: gw) B9.pre w (List.mem_cons_of_mem _ h)
  have hown : s.vm.findClass RM = some m.cls := findClass_of_methodNamed B9.named
  have hlocks := B9.notSynchronized
  have hl := lv_entry ([.ref (q 0), .int (ri), .int (si), .int (v)]) (n := 8) (Nat.le_of_ble_eq_true rfl)
  rw [lg_entry_eq]
  generalize (lg_sl ([.ref (q 0), .int (ri), .int (si), .int (v)]) ++ List.replicate (8 - (lg_sl ([.ref (q 0), .int (ri), .int (si), .int (v)])).length) Slot.unset).toArray = ls at hl ⊢
  have hl : lv_has ls 8 [(0, .ref (q 0)), (1, .int (ri)), (2, .int (si)), (3, .int (v))] := hl
  subst hsz
  have hD := hD0.self (sz := s.heap.size)
  generalize hAe : va_A (mW cJ cI cZ q (e0) A B T P Y G) s.heap.size = A9 at hD ⊢
  have hA : ∀ z : Nat, s.heap.size ≤ z → A9 z := fun z h => by rw [← hAe]; exact Or.inr h
  have hS : va_S A9 s.heap s.heap [] := va_S.rf
  have hP : va_P D vwCl (mW cJ cI cZ q (e0) A B T P Y G) s.heap := hP
  refine lv_aload_n hx hb dM_narrow_0 rfl (lv_at hl 0 rfl) ?_
  refine lv_iconst (v := 0) hx hb dM_narrow_1 (by decide) ?_
  refine va_put (D := D) (ci := 1) (v := .int (0)) (ty := .int) (C := RM) (T := TM) (N := 7) hx hb hts inM tyM tyM_ok nmM hown hK hP hD hS 0 rfl rfl 0 (by decide) (hts _ w_255) (fun _ h9 => h9) rfl (by decide +kernel) rfl rfl (Nat.le_of_ble_eq_true rfl) dM_narrow_2 (fun H locs hP hD hS => ?_)
  have hP : va_P D vwCl (mW cJ cI cZ q (0) A B T P Y G) H := hP
  have hD : va_D A9 (mW cJ cI cZ q (0) A B T P Y G) := hD
  refine lv_aload_n hx hb dM_narrow_5 rfl (lv_at hl 0 rfl) ?_
  refine lv_iload_n hx hb dM_narrow_6 rfl (lv_at hl 1 rfl) ?_
  refine kr_S 1 (As := [.int (ri)]) (rest := [.ref (q 0)]) (r := .int (bi (gi ri))) hx hb hml hown hts hl.1 (mM_is l (ri)) tt_stb trivial (gw_S w_298 w_299 w_15 w_300) (by decide) ⟨rfl, rfl⟩ ⟨Nat.le_of_ble_eq_true rfl, Nat.le_of_ble_eq_true rfl⟩ rfl rfl (Nat.le_of_ble_eq_true rfl) dM_narrow_7 ⟨Nat.zero_le _, Nat.zero_le _⟩ ?_
  refine lv_if_eq (tgt := 20) hx hb dM_narrow_10 (by decide) (fun h_1 => absurd h_1 (gi_nz hri)) (fun h_1 => ?_)
  have h_1 := bi_n h_1
  refine lv_iload_n hx hb dM_narrow_13 rfl (lv_at hl 2 rfl) ?_
  refine kr_S 1 (As := [.int (si)]) (rest := [.ref (q 0)]) (r := .int (bi (gi si))) hx hb hml hown hts hl.1 (mM_is l (si)) tt_stb trivial (gw_S w_298 w_299 w_15 w_300) (by decide) ⟨rfl, rfl⟩ ⟨Nat.le_of_ble_eq_true rfl, Nat.le_of_ble_eq_true rfl⟩ rfl rfl (Nat.le_of_ble_eq_true rfl) dM_narrow_14 ⟨Nat.zero_le _, Nat.zero_le _⟩ ?_
  refine lv_if_ne (tgt := 24) hx hb dM_narrow_17 (by decide) (fun h_2 => ?_) (fun h_2 => absurd h_2 (gi_nz hsi))
  have h_2 := bi_n h_2
  refine lv_iconst (v := 0) hx hb dM_narrow_24 (by decide) ?_
  refine lv_iconst (v := 1) hx hb dM_narrow_25 (by decide) ?_
  refine kw_V 2 [0, 1, 2, 3, 4, 5, 6] [] (b := q 0) (As := [.int (0), .int (1)]) (rest := []) (wc := mW cJ cI cZ q (0) A B T P Y G) (wr := []) (w1 := mW cJ cI cZ q (0) A B T P Y G) hx hb hml hown hts hl.1 hP hD hS hA hK (mM_fails_f l D cJ cI cZ q 0 A B T P Y G _ 1) (gw_V w_294 w_296 w_8 w_15 w_297) (by decide) ⟨rfl, rfl⟩ ⟨Nat.le_of_ble_eq_true rfl, Nat.le_of_ble_eq_true rfl⟩ (va_recv hK hP (ci := 1) rfl (q0 := 0) rfl) rfl rfl (Nat.le_of_ble_eq_true rfl) dM_narrow_26 ⟨Nat.zero_le _, Nat.zero_le _⟩ rfl rfl ⟨by decide, by decide⟩ (by decide) (fun H locs hP hD hS => ?_)
  have hP : va_P D vwCl (mW cJ cI cZ q (0) A B T P Y G) H := hP
  have hD : va_D A9 (mW cJ cI cZ q (0) A B T P Y G) := hD
  refine W.eq (g2 := F0 m 29 ls [.int (0)]) rfl ?_
  refine lv_if_eq (tgt := 34) hx hb dM_narrow_29 (by decide) (fun h_3 => ?_) (fun h_3 => absurd (by decide) h_3)
  refine lv_aload_n hx hb dM_narrow_34 rfl (lv_at hl 0 rfl) ?_
  refine va_get (D := D) (ci := 1) (v := .ref (q 1)) (C := RM) (T := TM) (N := 7) hx hb hts inM hown hK hP 0 rfl rfl 1 (by decide) (hts _ w_256) (fun _ h9 => h9) rfl dM_narrow_35 ?_
  refine lv_iload_n hx hb dM_narrow_38 rfl (lv_at hl 2 rfl) ?_
  refine va_lald hx hb hK hP 1 0 rfl rfl hsi dM_narrow_39 ?_
  refine W.eq (g2 := F0 m 40 ls [.long (uw (A si.toNatClampNeg))]) rfl ?_
  refine lv_lstore hx hb dM_narrow_40 hl (by decide) rfl (fun ls hl => ?_)
  have hl : lv_has ls 8 [(4, .long (uw (A si.toNatClampNeg))), (0, .ref (q 0)), (1, .int (ri)), (2, .int (si)), (3, .int (v))] := hl
  refine lv_lload hx hb dM_narrow_42 (lv_at hl 0 rfl) ?_
  refine lv_iload_n hx hb dM_narrow_44 rfl (lv_at hl 4 rfl) ?_
  refine kr_S 1 (As := [.int (v)]) (rest := [.long (uw (A si.toNatClampNeg))]) (r := .long (uw (v))) hx hb hml hown hts hl.1 (mM_wide l (v)) tt_stb trivial (gw_S w_286 w_287 w_15 w_288) (by decide) ⟨rfl, rfl⟩ ⟨Nat.le_of_ble_eq_true rfl, Nat.le_of_ble_eq_true rfl⟩ rfl rfl (Nat.le_of_ble_eq_true rfl) dM_narrow_45 ⟨Nat.zero_le _, Nat.zero_le _⟩ ?_
  refine lv_ladd hx hb dM_narrow_48 ?_
  refine lv_lstore hx hb dM_narrow_49 hl (by decide) rfl (fun ls hl => ?_)
  have hl : lv_has ls 8 [(6, .long ((uw (A si.toNatClampNeg)) + (uw (v)))), (4, .long (uw (A si.toNatClampNeg))), (0, .ref (q 0)), (1, .int (ri)), (2, .int (si)), (3, .int (v))] := hl
  refine lv_aload_n hx hb dM_narrow_51 rfl (lv_at hl 2 rfl) ?_
  refine lv_iload_n hx hb dM_narrow_52 rfl (lv_at hl 3 rfl) ?_
  refine lv_lload hx hb dM_narrow_53 (lv_at hl 1 rfl) ?_
  refine lv_lload hx hb dM_narrow_55 (lv_at hl 1 rfl) ?_
  refine lv_lload hx hb dM_narrow_57 (lv_at hl 0 rfl) ?_
  refine lv_ldc2 (v := 4294967296) hx hb hown (hts _ w_289) dM_narrow_59 ?_
  refine lv_lrem hx hb dM_narrow_62 (by decide) ?_
  refine W.eq (g2 := F0 m 63 ls [.long (uw ((A si.toNatClampNeg) + (v))), .long (uw (A si.toNatClampNeg)), .long (uw (A si.toNatClampNeg)), .int (ri), .ref (q 0)]) (by rw [← uw_sum] <;> rfl) ?_
  refine lv_aload_n hx hb dM_narrow_63 rfl (lv_at hl 2 rfl) ?_
  refine va_get (D := D) (ci := 1) (v := .ref (q 4)) (C := RM) (T := TM) (N := 7) hx hb hts inM hown hK hP 0 rfl rfl 4 (by decide) (hts _ w_259) (fun _ h9 => h9) rfl dM_narrow_64 ?_
  refine lv_iload_n hx hb dM_narrow_67 rfl (lv_at hl 4 rfl) ?_
  refine va_iald hx hb hK hP 4 1 rfl rfl hsi dM_narrow_68 ?_
  refine lv_aload_n hx hb dM_narrow_69 rfl (lv_at hl 2 rfl) ?_
  refine va_get (D := D) (ci := 1) (v := .ref (q 5)) (C := RM) (T := TM) (N := 7) hx hb hts inM hown hK hP 0 rfl rfl 5 (by decide) (hts _ w_260) (fun _ h9 => h9) rfl dM_narrow_70 ?_
  refine lv_iload_n hx hb dM_narrow_73 rfl (lv_at hl 4 rfl) ?_
  refine va_iald hx hb hK hP 5 1 rfl rfl hsi dM_narrow_74 ?_
  refine lv_aload_n hx hb dM_narrow_75 rfl (lv_at hl 2 rfl) ?_
  refine va_get (D := D) (ci := 1) (v := .ref (q 6)) (C := RM) (T := TM) (N := 7) hx hb hts inM hown hK hP 0 rfl rfl 6 (by decide) (hts _ w_261) (fun _ h9 => h9) rfl dM_narrow_76 ?_
  refine lv_iload_n hx hb dM_narrow_79 rfl (lv_at hl 4 rfl) ?_
  refine va_zald hx hb hK hP 6 2 rfl rfl hsi dM_narrow_80 ?_
  refine W.eq (g2 := F0 m 81 ls [.int (bi (G si.toNatClampNeg)), .int (Y si.toNatClampNeg), .int (P si.toNatClampNeg), .long (uw ((A si.toNatClampNeg) + (v))), .long (uw (A si.toNatClampNeg)), .long (uw (A si.toNatClampNeg)), .int (ri), .ref (q 0)]) rfl ?_
  refine lv_if_eq (tgt := 132) hx hb dM_narrow_81 (by decide) (fun h_4 => ?_) (fun h_4 => ?_)
  · have h_4 := bi_0 h_4
    refine lv_iconst (v := 0) hx hb dM_narrow_132 (by decide) ?_
    refine W.eq (g2 := F0 m 133 ls [.int (bi (false)), .int (Y si.toNatClampNeg), .int (P si.toNatClampNeg), .long (uw ((A si.toNatClampNeg) + (v))), .long (uw (A si.toNatClampNeg)), .long (uw (A si.toNatClampNeg)), .int (ri), .ref (q 0)]) rfl ?_
    refine kw_V 7 [0, 1, 2, 3, 4, 5, 6] [] (b := q 0) (As := [.int (ri), .long (uw (A si.toNatClampNeg)), .long (uw (A si.toNatClampNeg)), .long (uw ((A si.toNatClampNeg) + (v))), .int (P si.toNatClampNeg), .int (Y si.toNatClampNeg), .int (bi (false))]) (rest := []) (wc := mW cJ cI cZ q (0) A B T P Y G) (wr := []) (w1 := mW cJ cI cZ q (0) (upd A ri.toNatClampNeg (A si.toNatClampNeg)) (upd B ri.toNatClampNeg (A si.toNatClampNeg)) (upd T ri.toNatClampNeg ((A si.toNatClampNeg) + (v))) (upd P ri.toNatClampNeg (P si.toNatClampNeg)) (upd Y ri.toNatClampNeg (Y si.toNatClampNeg)) (ub G ri.toNatClampNeg (false))) hx hb hml hown hts hl.1 hP hD hS hA hK (mM_give l D cJ cI cZ q (0) A B T P Y G _ ri (A si.toNatClampNeg) (A si.toNatClampNeg) ((A si.toNatClampNeg) + (v)) (P si.toNatClampNeg) (Y si.toNatClampNeg) false hri) (gw_V w_302 w_304 w_9 w_15 w_305) (by decide) ⟨rfl, rfl⟩ ⟨Nat.le_of_ble_eq_true rfl, Nat.le_of_ble_eq_true rfl⟩ (va_recv hK hP (ci := 1) rfl (q0 := 0) rfl) rfl rfl (Nat.le_of_ble_eq_true rfl) dM_narrow_133 ⟨Nat.zero_le _, Nat.zero_le _⟩ rfl rfl ⟨by decide, by decide⟩ (by decide) (fun H locs hP hD hS => ?_)
    have hP : va_P D vwCl (mW cJ cI cZ q (0) (upd A ri.toNatClampNeg (A si.toNatClampNeg)) (upd B ri.toNatClampNeg (A si.toNatClampNeg)) (upd T ri.toNatClampNeg ((A si.toNatClampNeg) + (v))) (upd P ri.toNatClampNeg (P si.toNatClampNeg)) (upd Y ri.toNatClampNeg (Y si.toNatClampNeg)) (ub G ri.toNatClampNeg (false))) H := hP
    have hD : va_D A9 (mW cJ cI cZ q (0) (upd A ri.toNatClampNeg (A si.toNatClampNeg)) (upd B ri.toNatClampNeg (A si.toNatClampNeg)) (upd T ri.toNatClampNeg ((A si.toNatClampNeg) + (v))) (upd P ri.toNatClampNeg (P si.toNatClampNeg)) (upd Y ri.toNatClampNeg (Y si.toNatClampNeg)) (ub G ri.toNatClampNeg (false))) := hD
    refine W.eq (g2 := F0 m 136 ls []) rfl ?_
    refine lv_aload_n hx hb dM_narrow_136 rfl (lv_at hl 2 rfl) ?_
    refine va_get (D := D) (ci := 1) (v := .ref (q 6)) (C := RM) (T := TM) (N := 7) hx hb hts inM hown hK hP 0 rfl rfl 6 (by decide) (hts _ w_261) (fun _ h9 => h9) rfl dM_narrow_137 ?_
    refine lv_iload_n hx hb dM_narrow_140 rfl (lv_at hl 3 rfl) ?_
    refine va_zald hx hb hK hP 6 2 rfl rfl hri dM_narrow_141 ?_
    refine W.eq (g2 := F0 m 142 ls [.int (bi (false))]) (by first | rfl | (rw [ub_s] <;> rfl)) ?_
    have e9_0 : (G si.toNatClampNeg && (decide (Y si.toNatClampNeg = 0) && ga_in (B si.toNatClampNeg) (T si.toNatClampNeg) (A si.toNatClampNeg) (un v))) = false := by (try simp only [decide_eq_true_eq, decide_eq_false_iff_not, Decidable.not_not] at h_1); (try simp only [decide_eq_true_eq, decide_eq_false_iff_not, Decidable.not_not] at h_2); (try simp only [decide_eq_true_eq, decide_eq_false_iff_not, Decidable.not_not] at h_4); unfold ga_in; simp [h_1, h_2, h_4] <;> omega
    have hP : va_P D vwCl (mW cJ cI cZ q (0) (upd A ri.toNatClampNeg (A si.toNatClampNeg)) (upd B ri.toNatClampNeg (A si.toNatClampNeg)) (upd T ri.toNatClampNeg ((A si.toNatClampNeg) + (v))) (upd P ri.toNatClampNeg (P si.toNatClampNeg)) (upd Y ri.toNatClampNeg (Y si.toNatClampNeg)) (ub G ri.toNatClampNeg ((G si.toNatClampNeg && (decide (Y si.toNatClampNeg = 0) && ga_in (B si.toNatClampNeg) (T si.toNatClampNeg) (A si.toNatClampNeg) (un v)))))) H := by (try rw [e9_0]); first | exact hP | (simp only [uu_upd, uu_ub] at hP ⊢; exact hP)
    have hD : va_D A9 (mW cJ cI cZ q (0) (upd A ri.toNatClampNeg (A si.toNatClampNeg)) (upd B ri.toNatClampNeg (A si.toNatClampNeg)) (upd T ri.toNatClampNeg ((A si.toNatClampNeg) + (v))) (upd P ri.toNatClampNeg (P si.toNatClampNeg)) (upd Y ri.toNatClampNeg (Y si.toNatClampNeg)) (ub G ri.toNatClampNeg ((G si.toNatClampNeg && (decide (Y si.toNatClampNeg = 0) && ga_in (B si.toNatClampNeg) (T si.toNatClampNeg) (A si.toNatClampNeg) (un v)))))) := by (try rw [e9_0]); first | exact hD | (simp only [uu_upd, uu_ub] at hD ⊢; exact hD)
    refine W.eq (g2 := F0 m 142 ls [.int (bi (G si.toNatClampNeg && (decide (Y si.toNatClampNeg = 0) && ga_in (B si.toNatClampNeg) (T si.toNatClampNeg) (A si.toNatClampNeg) (un v))))]) (by first | rfl | (rw [e9_0] <;> rfl)) ?_
    exact W.zret (v := bi (G si.toNatClampNeg && (decide (Y si.toNatClampNeg = 0) && ga_in (B si.toNatClampNeg) (T si.toNatClampNeg) (A si.toNatClampNeg) (un v)))) hx hb hr (bi_nar _) (fun t9 ht hW => ⟨rfl, by rw [ht]; exact hP, hD, hS.F ht⟩) hS.2.2 dM_narrow_142
  · have h_4 := bi_n h_4
    refine lv_aload_n hx hb dM_narrow_84 rfl (lv_at hl 2 rfl) ?_
    refine lv_iload_n hx hb dM_narrow_85 rfl (lv_at hl 4 rfl) ?_
    refine kr_Vw 1 (b := q 0) (As := [.int (si)]) (rest := [.int (Y si.toNatClampNeg), .int (P si.toNatClampNeg), .long (uw ((A si.toNatClampNeg) + (v))), .long (uw (A si.toNatClampNeg)), .long (uw (A si.toNatClampNeg)), .int (ri), .ref (q 0)]) (r := .int (bi (decide (¬ Y si.toNatClampNeg = 0)))) hx hb hml hown hts hl.1 (mM_isSealed l D cJ cI cZ q (0) A B T P Y G (si) hsi) rB_stb ⟨hP, hK⟩ (gw_V w_314 w_316 w_10 w_15 w_317) (by decide) ⟨rfl, rfl⟩ ⟨Nat.le_of_ble_eq_true rfl, Nat.le_of_ble_eq_true rfl⟩ (va_recv hK hP (ci := 1) rfl (q0 := 0) rfl) rfl rfl (Nat.le_of_ble_eq_true rfl) dM_narrow_86 ⟨Nat.zero_le _, Nat.zero_le _⟩ ?_
    refine lv_if_ne (tgt := 132) hx hb dM_narrow_89 (by decide) (fun h_5 => ?_) (fun h_5 => ?_)
    · have h_5 := bi_n h_5
      refine lv_iconst (v := 0) hx hb dM_narrow_132 (by decide) ?_
      refine W.eq (g2 := F0 m 133 ls [.int (bi (false)), .int (Y si.toNatClampNeg), .int (P si.toNatClampNeg), .long (uw ((A si.toNatClampNeg) + (v))), .long (uw (A si.toNatClampNeg)), .long (uw (A si.toNatClampNeg)), .int (ri), .ref (q 0)]) rfl ?_
      refine kw_V 7 [0, 1, 2, 3, 4, 5, 6] [] (b := q 0) (As := [.int (ri), .long (uw (A si.toNatClampNeg)), .long (uw (A si.toNatClampNeg)), .long (uw ((A si.toNatClampNeg) + (v))), .int (P si.toNatClampNeg), .int (Y si.toNatClampNeg), .int (bi (false))]) (rest := []) (wc := mW cJ cI cZ q (0) A B T P Y G) (wr := []) (w1 := mW cJ cI cZ q (0) (upd A ri.toNatClampNeg (A si.toNatClampNeg)) (upd B ri.toNatClampNeg (A si.toNatClampNeg)) (upd T ri.toNatClampNeg ((A si.toNatClampNeg) + (v))) (upd P ri.toNatClampNeg (P si.toNatClampNeg)) (upd Y ri.toNatClampNeg (Y si.toNatClampNeg)) (ub G ri.toNatClampNeg (false))) hx hb hml hown hts hl.1 hP hD hS hA hK (mM_give l D cJ cI cZ q (0) A B T P Y G _ ri (A si.toNatClampNeg) (A si.toNatClampNeg) ((A si.toNatClampNeg) + (v)) (P si.toNatClampNeg) (Y si.toNatClampNeg) false hri) (gw_V w_302 w_304 w_9 w_15 w_305) (by decide) ⟨rfl, rfl⟩ ⟨Nat.le_of_ble_eq_true rfl, Nat.le_of_ble_eq_true rfl⟩ (va_recv hK hP (ci := 1) rfl (q0 := 0) rfl) rfl rfl (Nat.le_of_ble_eq_true rfl) dM_narrow_133 ⟨Nat.zero_le _, Nat.zero_le _⟩ rfl rfl ⟨by decide, by decide⟩ (by decide) (fun H locs hP hD hS => ?_)
      have hP : va_P D vwCl (mW cJ cI cZ q (0) (upd A ri.toNatClampNeg (A si.toNatClampNeg)) (upd B ri.toNatClampNeg (A si.toNatClampNeg)) (upd T ri.toNatClampNeg ((A si.toNatClampNeg) + (v))) (upd P ri.toNatClampNeg (P si.toNatClampNeg)) (upd Y ri.toNatClampNeg (Y si.toNatClampNeg)) (ub G ri.toNatClampNeg (false))) H := hP
      have hD : va_D A9 (mW cJ cI cZ q (0) (upd A ri.toNatClampNeg (A si.toNatClampNeg)) (upd B ri.toNatClampNeg (A si.toNatClampNeg)) (upd T ri.toNatClampNeg ((A si.toNatClampNeg) + (v))) (upd P ri.toNatClampNeg (P si.toNatClampNeg)) (upd Y ri.toNatClampNeg (Y si.toNatClampNeg)) (ub G ri.toNatClampNeg (false))) := hD
      refine W.eq (g2 := F0 m 136 ls []) rfl ?_
      refine lv_aload_n hx hb dM_narrow_136 rfl (lv_at hl 2 rfl) ?_
      refine va_get (D := D) (ci := 1) (v := .ref (q 6)) (C := RM) (T := TM) (N := 7) hx hb hts inM hown hK hP 0 rfl rfl 6 (by decide) (hts _ w_261) (fun _ h9 => h9) rfl dM_narrow_137 ?_
      refine lv_iload_n hx hb dM_narrow_140 rfl (lv_at hl 3 rfl) ?_
      refine va_zald hx hb hK hP 6 2 rfl rfl hri dM_narrow_141 ?_
      refine W.eq (g2 := F0 m 142 ls [.int (bi (false))]) (by first | rfl | (rw [ub_s] <;> rfl)) ?_
      have e9_0 : (G si.toNatClampNeg && (decide (Y si.toNatClampNeg = 0) && ga_in (B si.toNatClampNeg) (T si.toNatClampNeg) (A si.toNatClampNeg) (un v))) = false := by (try simp only [decide_eq_true_eq, decide_eq_false_iff_not, Decidable.not_not] at h_1); (try simp only [decide_eq_true_eq, decide_eq_false_iff_not, Decidable.not_not] at h_2); (try simp only [decide_eq_true_eq, decide_eq_false_iff_not, Decidable.not_not] at h_4); (try simp only [decide_eq_true_eq, decide_eq_false_iff_not, Decidable.not_not] at h_5); unfold ga_in; simp [h_1, h_2, h_4, h_5] <;> omega
      have hP : va_P D vwCl (mW cJ cI cZ q (0) (upd A ri.toNatClampNeg (A si.toNatClampNeg)) (upd B ri.toNatClampNeg (A si.toNatClampNeg)) (upd T ri.toNatClampNeg ((A si.toNatClampNeg) + (v))) (upd P ri.toNatClampNeg (P si.toNatClampNeg)) (upd Y ri.toNatClampNeg (Y si.toNatClampNeg)) (ub G ri.toNatClampNeg ((G si.toNatClampNeg && (decide (Y si.toNatClampNeg = 0) && ga_in (B si.toNatClampNeg) (T si.toNatClampNeg) (A si.toNatClampNeg) (un v)))))) H := by (try rw [e9_0]); first | exact hP | (simp only [uu_upd, uu_ub] at hP ⊢; exact hP)
      have hD : va_D A9 (mW cJ cI cZ q (0) (upd A ri.toNatClampNeg (A si.toNatClampNeg)) (upd B ri.toNatClampNeg (A si.toNatClampNeg)) (upd T ri.toNatClampNeg ((A si.toNatClampNeg) + (v))) (upd P ri.toNatClampNeg (P si.toNatClampNeg)) (upd Y ri.toNatClampNeg (Y si.toNatClampNeg)) (ub G ri.toNatClampNeg ((G si.toNatClampNeg && (decide (Y si.toNatClampNeg = 0) && ga_in (B si.toNatClampNeg) (T si.toNatClampNeg) (A si.toNatClampNeg) (un v)))))) := by (try rw [e9_0]); first | exact hD | (simp only [uu_upd, uu_ub] at hD ⊢; exact hD)
      refine W.eq (g2 := F0 m 142 ls [.int (bi (G si.toNatClampNeg && (decide (Y si.toNatClampNeg = 0) && ga_in (B si.toNatClampNeg) (T si.toNatClampNeg) (A si.toNatClampNeg) (un v))))]) (by first | rfl | (rw [e9_0] <;> rfl)) ?_
      exact W.zret (v := bi (G si.toNatClampNeg && (decide (Y si.toNatClampNeg = 0) && ga_in (B si.toNatClampNeg) (T si.toNatClampNeg) (A si.toNatClampNeg) (un v)))) hx hb hr (bi_nar _) (fun t9 ht hW => ⟨rfl, by rw [ht]; exact hP, hD, hS.F ht⟩) hS.2.2 dM_narrow_142
    · have h_5 := bi_0 h_5
      refine lv_lload hx hb dM_narrow_92 (lv_at hl 1 rfl) ?_
      refine lv_aload_n hx hb dM_narrow_94 rfl (lv_at hl 2 rfl) ?_
      refine va_get (D := D) (ci := 1) (v := .ref (q 2)) (C := RM) (T := TM) (N := 7) hx hb hts inM hown hK hP 0 rfl rfl 2 (by decide) (hts _ w_257) (fun _ h9 => h9) rfl dM_narrow_95 ?_
      refine lv_iload_n hx hb dM_narrow_98 rfl (lv_at hl 4 rfl) ?_
      refine va_lald hx hb hK hP 2 0 rfl rfl hsi dM_narrow_99 ?_
      refine W.eq (g2 := F0 m 100 ls [.long (uw (B si.toNatClampNeg)), .long (uw (A si.toNatClampNeg)), .int (Y si.toNatClampNeg), .int (P si.toNatClampNeg), .long (uw ((A si.toNatClampNeg) + (v))), .long (uw (A si.toNatClampNeg)), .long (uw (A si.toNatClampNeg)), .int (ri), .ref (q 0)]) rfl ?_
      refine W.lcmp hx hb dM_narrow_100 ?_
      refine lv_if_lt (tgt := 132) hx hb dM_narrow_101 (by decide) (fun h_6 => ?_) (fun h_6 => ?_)
      · rw [lg_cmp_lt] at h_6
        refine lv_iconst (v := 0) hx hb dM_narrow_132 (by decide) ?_
        refine W.eq (g2 := F0 m 133 ls [.int (bi (false)), .int (Y si.toNatClampNeg), .int (P si.toNatClampNeg), .long (uw ((A si.toNatClampNeg) + (v))), .long (uw (A si.toNatClampNeg)), .long (uw (A si.toNatClampNeg)), .int (ri), .ref (q 0)]) rfl ?_
        refine kw_V 7 [0, 1, 2, 3, 4, 5, 6] [] (b := q 0) (As := [.int (ri), .long (uw (A si.toNatClampNeg)), .long (uw (A si.toNatClampNeg)), .long (uw ((A si.toNatClampNeg) + (v))), .int (P si.toNatClampNeg), .int (Y si.toNatClampNeg), .int (bi (false))]) (rest := []) (wc := mW cJ cI cZ q (0) A B T P Y G) (wr := []) (w1 := mW cJ cI cZ q (0) (upd A ri.toNatClampNeg (A si.toNatClampNeg)) (upd B ri.toNatClampNeg (A si.toNatClampNeg)) (upd T ri.toNatClampNeg ((A si.toNatClampNeg) + (v))) (upd P ri.toNatClampNeg (P si.toNatClampNeg)) (upd Y ri.toNatClampNeg (Y si.toNatClampNeg)) (ub G ri.toNatClampNeg (false))) hx hb hml hown hts hl.1 hP hD hS hA hK (mM_give l D cJ cI cZ q (0) A B T P Y G _ ri (A si.toNatClampNeg) (A si.toNatClampNeg) ((A si.toNatClampNeg) + (v)) (P si.toNatClampNeg) (Y si.toNatClampNeg) false hri) (gw_V w_302 w_304 w_9 w_15 w_305) (by decide) ⟨rfl, rfl⟩ ⟨Nat.le_of_ble_eq_true rfl, Nat.le_of_ble_eq_true rfl⟩ (va_recv hK hP (ci := 1) rfl (q0 := 0) rfl) rfl rfl (Nat.le_of_ble_eq_true rfl) dM_narrow_133 ⟨Nat.zero_le _, Nat.zero_le _⟩ rfl rfl ⟨by decide, by decide⟩ (by decide) (fun H locs hP hD hS => ?_)
        have hP : va_P D vwCl (mW cJ cI cZ q (0) (upd A ri.toNatClampNeg (A si.toNatClampNeg)) (upd B ri.toNatClampNeg (A si.toNatClampNeg)) (upd T ri.toNatClampNeg ((A si.toNatClampNeg) + (v))) (upd P ri.toNatClampNeg (P si.toNatClampNeg)) (upd Y ri.toNatClampNeg (Y si.toNatClampNeg)) (ub G ri.toNatClampNeg (false))) H := hP
        have hD : va_D A9 (mW cJ cI cZ q (0) (upd A ri.toNatClampNeg (A si.toNatClampNeg)) (upd B ri.toNatClampNeg (A si.toNatClampNeg)) (upd T ri.toNatClampNeg ((A si.toNatClampNeg) + (v))) (upd P ri.toNatClampNeg (P si.toNatClampNeg)) (upd Y ri.toNatClampNeg (Y si.toNatClampNeg)) (ub G ri.toNatClampNeg (false))) := hD
        refine W.eq (g2 := F0 m 136 ls []) rfl ?_
        refine lv_aload_n hx hb dM_narrow_136 rfl (lv_at hl 2 rfl) ?_
        refine va_get (D := D) (ci := 1) (v := .ref (q 6)) (C := RM) (T := TM) (N := 7) hx hb hts inM hown hK hP 0 rfl rfl 6 (by decide) (hts _ w_261) (fun _ h9 => h9) rfl dM_narrow_137 ?_
        refine lv_iload_n hx hb dM_narrow_140 rfl (lv_at hl 3 rfl) ?_
        refine va_zald hx hb hK hP 6 2 rfl rfl hri dM_narrow_141 ?_
        refine W.eq (g2 := F0 m 142 ls [.int (bi (false))]) (by first | rfl | (rw [ub_s] <;> rfl)) ?_
        have e9_0 : (G si.toNatClampNeg && (decide (Y si.toNatClampNeg = 0) && ga_in (B si.toNatClampNeg) (T si.toNatClampNeg) (A si.toNatClampNeg) (un v))) = false := by (try simp only [decide_eq_true_eq, decide_eq_false_iff_not, Decidable.not_not] at h_1); (try simp only [decide_eq_true_eq, decide_eq_false_iff_not, Decidable.not_not] at h_2); (try simp only [decide_eq_true_eq, decide_eq_false_iff_not, Decidable.not_not] at h_4); (try simp only [decide_eq_true_eq, decide_eq_false_iff_not, Decidable.not_not] at h_5); rw [uw_lt] at h_6; unfold ga_in; simp [h_1, h_2, h_4, h_5] <;> omega
        have hP : va_P D vwCl (mW cJ cI cZ q (0) (upd A ri.toNatClampNeg (A si.toNatClampNeg)) (upd B ri.toNatClampNeg (A si.toNatClampNeg)) (upd T ri.toNatClampNeg ((A si.toNatClampNeg) + (v))) (upd P ri.toNatClampNeg (P si.toNatClampNeg)) (upd Y ri.toNatClampNeg (Y si.toNatClampNeg)) (ub G ri.toNatClampNeg ((G si.toNatClampNeg && (decide (Y si.toNatClampNeg = 0) && ga_in (B si.toNatClampNeg) (T si.toNatClampNeg) (A si.toNatClampNeg) (un v)))))) H := by (try rw [e9_0]); first | exact hP | (simp only [uu_upd, uu_ub] at hP ⊢; exact hP)
        have hD : va_D A9 (mW cJ cI cZ q (0) (upd A ri.toNatClampNeg (A si.toNatClampNeg)) (upd B ri.toNatClampNeg (A si.toNatClampNeg)) (upd T ri.toNatClampNeg ((A si.toNatClampNeg) + (v))) (upd P ri.toNatClampNeg (P si.toNatClampNeg)) (upd Y ri.toNatClampNeg (Y si.toNatClampNeg)) (ub G ri.toNatClampNeg ((G si.toNatClampNeg && (decide (Y si.toNatClampNeg = 0) && ga_in (B si.toNatClampNeg) (T si.toNatClampNeg) (A si.toNatClampNeg) (un v)))))) := by (try rw [e9_0]); first | exact hD | (simp only [uu_upd, uu_ub] at hD ⊢; exact hD)
        refine W.eq (g2 := F0 m 142 ls [.int (bi (G si.toNatClampNeg && (decide (Y si.toNatClampNeg = 0) && ga_in (B si.toNatClampNeg) (T si.toNatClampNeg) (A si.toNatClampNeg) (un v))))]) (by first | rfl | (rw [e9_0] <;> rfl)) ?_
        exact W.zret (v := bi (G si.toNatClampNeg && (decide (Y si.toNatClampNeg = 0) && ga_in (B si.toNatClampNeg) (T si.toNatClampNeg) (A si.toNatClampNeg) (un v)))) hx hb hr (bi_nar _) (fun t9 ht hW => ⟨rfl, by rw [ht]; exact hP, hD, hS.F ht⟩) hS.2.2 dM_narrow_142
      · rw [lg_cmp_lt] at h_6
        refine lv_lload hx hb dM_narrow_104 (lv_at hl 1 rfl) ?_
        refine lv_aload_n hx hb dM_narrow_106 rfl (lv_at hl 2 rfl) ?_
        refine va_get (D := D) (ci := 1) (v := .ref (q 3)) (C := RM) (T := TM) (N := 7) hx hb hts inM hown hK hP 0 rfl rfl 3 (by decide) (hts _ w_258) (fun _ h9 => h9) rfl dM_narrow_107 ?_
        refine lv_iload_n hx hb dM_narrow_110 rfl (lv_at hl 4 rfl) ?_
        refine va_lald hx hb hK hP 3 0 rfl rfl hsi dM_narrow_111 ?_
        refine W.eq (g2 := F0 m 112 ls [.long (uw (T si.toNatClampNeg)), .long (uw (A si.toNatClampNeg)), .int (Y si.toNatClampNeg), .int (P si.toNatClampNeg), .long (uw ((A si.toNatClampNeg) + (v))), .long (uw (A si.toNatClampNeg)), .long (uw (A si.toNatClampNeg)), .int (ri), .ref (q 0)]) rfl ?_
        refine W.lcmp hx hb dM_narrow_112 ?_
        refine lv_if_gt (tgt := 132) hx hb dM_narrow_113 (by decide) (fun h_7 => ?_) (fun h_7 => ?_)
        · rw [lg_cmp_gt] at h_7
          refine lv_iconst (v := 0) hx hb dM_narrow_132 (by decide) ?_
          refine W.eq (g2 := F0 m 133 ls [.int (bi (false)), .int (Y si.toNatClampNeg), .int (P si.toNatClampNeg), .long (uw ((A si.toNatClampNeg) + (v))), .long (uw (A si.toNatClampNeg)), .long (uw (A si.toNatClampNeg)), .int (ri), .ref (q 0)]) rfl ?_
          refine kw_V 7 [0, 1, 2, 3, 4, 5, 6] [] (b := q 0) (As := [.int (ri), .long (uw (A si.toNatClampNeg)), .long (uw (A si.toNatClampNeg)), .long (uw ((A si.toNatClampNeg) + (v))), .int (P si.toNatClampNeg), .int (Y si.toNatClampNeg), .int (bi (false))]) (rest := []) (wc := mW cJ cI cZ q (0) A B T P Y G) (wr := []) (w1 := mW cJ cI cZ q (0) (upd A ri.toNatClampNeg (A si.toNatClampNeg)) (upd B ri.toNatClampNeg (A si.toNatClampNeg)) (upd T ri.toNatClampNeg ((A si.toNatClampNeg) + (v))) (upd P ri.toNatClampNeg (P si.toNatClampNeg)) (upd Y ri.toNatClampNeg (Y si.toNatClampNeg)) (ub G ri.toNatClampNeg (false))) hx hb hml hown hts hl.1 hP hD hS hA hK (mM_give l D cJ cI cZ q (0) A B T P Y G _ ri (A si.toNatClampNeg) (A si.toNatClampNeg) ((A si.toNatClampNeg) + (v)) (P si.toNatClampNeg) (Y si.toNatClampNeg) false hri) (gw_V w_302 w_304 w_9 w_15 w_305) (by decide) ⟨rfl, rfl⟩ ⟨Nat.le_of_ble_eq_true rfl, Nat.le_of_ble_eq_true rfl⟩ (va_recv hK hP (ci := 1) rfl (q0 := 0) rfl) rfl rfl (Nat.le_of_ble_eq_true rfl) dM_narrow_133 ⟨Nat.zero_le _, Nat.zero_le _⟩ rfl rfl ⟨by decide, by decide⟩ (by decide) (fun H locs hP hD hS => ?_)
          have hP : va_P D vwCl (mW cJ cI cZ q (0) (upd A ri.toNatClampNeg (A si.toNatClampNeg)) (upd B ri.toNatClampNeg (A si.toNatClampNeg)) (upd T ri.toNatClampNeg ((A si.toNatClampNeg) + (v))) (upd P ri.toNatClampNeg (P si.toNatClampNeg)) (upd Y ri.toNatClampNeg (Y si.toNatClampNeg)) (ub G ri.toNatClampNeg (false))) H := hP
          have hD : va_D A9 (mW cJ cI cZ q (0) (upd A ri.toNatClampNeg (A si.toNatClampNeg)) (upd B ri.toNatClampNeg (A si.toNatClampNeg)) (upd T ri.toNatClampNeg ((A si.toNatClampNeg) + (v))) (upd P ri.toNatClampNeg (P si.toNatClampNeg)) (upd Y ri.toNatClampNeg (Y si.toNatClampNeg)) (ub G ri.toNatClampNeg (false))) := hD
          refine W.eq (g2 := F0 m 136 ls []) rfl ?_
          refine lv_aload_n hx hb dM_narrow_136 rfl (lv_at hl 2 rfl) ?_
          refine va_get (D := D) (ci := 1) (v := .ref (q 6)) (C := RM) (T := TM) (N := 7) hx hb hts inM hown hK hP 0 rfl rfl 6 (by decide) (hts _ w_261) (fun _ h9 => h9) rfl dM_narrow_137 ?_
          refine lv_iload_n hx hb dM_narrow_140 rfl (lv_at hl 3 rfl) ?_
          refine va_zald hx hb hK hP 6 2 rfl rfl hri dM_narrow_141 ?_
          refine W.eq (g2 := F0 m 142 ls [.int (bi (false))]) (by first | rfl | (rw [ub_s] <;> rfl)) ?_
          have e9_0 : (G si.toNatClampNeg && (decide (Y si.toNatClampNeg = 0) && ga_in (B si.toNatClampNeg) (T si.toNatClampNeg) (A si.toNatClampNeg) (un v))) = false := by (try simp only [decide_eq_true_eq, decide_eq_false_iff_not, Decidable.not_not] at h_1); (try simp only [decide_eq_true_eq, decide_eq_false_iff_not, Decidable.not_not] at h_2); (try simp only [decide_eq_true_eq, decide_eq_false_iff_not, Decidable.not_not] at h_4); (try simp only [decide_eq_true_eq, decide_eq_false_iff_not, Decidable.not_not] at h_5); rw [uw_lt] at h_6; rw [uw_lt] at h_7; unfold ga_in; simp [h_1, h_2, h_4, h_5] <;> omega
          have hP : va_P D vwCl (mW cJ cI cZ q (0) (upd A ri.toNatClampNeg (A si.toNatClampNeg)) (upd B ri.toNatClampNeg (A si.toNatClampNeg)) (upd T ri.toNatClampNeg ((A si.toNatClampNeg) + (v))) (upd P ri.toNatClampNeg (P si.toNatClampNeg)) (upd Y ri.toNatClampNeg (Y si.toNatClampNeg)) (ub G ri.toNatClampNeg ((G si.toNatClampNeg && (decide (Y si.toNatClampNeg = 0) && ga_in (B si.toNatClampNeg) (T si.toNatClampNeg) (A si.toNatClampNeg) (un v)))))) H := by (try rw [e9_0]); first | exact hP | (simp only [uu_upd, uu_ub] at hP ⊢; exact hP)
          have hD : va_D A9 (mW cJ cI cZ q (0) (upd A ri.toNatClampNeg (A si.toNatClampNeg)) (upd B ri.toNatClampNeg (A si.toNatClampNeg)) (upd T ri.toNatClampNeg ((A si.toNatClampNeg) + (v))) (upd P ri.toNatClampNeg (P si.toNatClampNeg)) (upd Y ri.toNatClampNeg (Y si.toNatClampNeg)) (ub G ri.toNatClampNeg ((G si.toNatClampNeg && (decide (Y si.toNatClampNeg = 0) && ga_in (B si.toNatClampNeg) (T si.toNatClampNeg) (A si.toNatClampNeg) (un v)))))) := by (try rw [e9_0]); first | exact hD | (simp only [uu_upd, uu_ub] at hD ⊢; exact hD)
          refine W.eq (g2 := F0 m 142 ls [.int (bi (G si.toNatClampNeg && (decide (Y si.toNatClampNeg = 0) && ga_in (B si.toNatClampNeg) (T si.toNatClampNeg) (A si.toNatClampNeg) (un v))))]) (by first | rfl | (rw [e9_0] <;> rfl)) ?_
          exact W.zret (v := bi (G si.toNatClampNeg && (decide (Y si.toNatClampNeg = 0) && ga_in (B si.toNatClampNeg) (T si.toNatClampNeg) (A si.toNatClampNeg) (un v)))) hx hb hr (bi_nar _) (fun t9 ht hW => ⟨rfl, by rw [ht]; exact hP, hD, hS.F ht⟩) hS.2.2 dM_narrow_142
        · rw [lg_cmp_gt] at h_7
          refine lv_lload hx hb dM_narrow_116 (lv_at hl 0 rfl) ?_
          refine lv_aload_n hx hb dM_narrow_118 rfl (lv_at hl 2 rfl) ?_
          refine va_get (D := D) (ci := 1) (v := .ref (q 3)) (C := RM) (T := TM) (N := 7) hx hb hts inM hown hK hP 0 rfl rfl 3 (by decide) (hts _ w_258) (fun _ h9 => h9) rfl dM_narrow_119 ?_
          refine lv_iload_n hx hb dM_narrow_122 rfl (lv_at hl 4 rfl) ?_
          refine va_lald hx hb hK hP 3 0 rfl rfl hsi dM_narrow_123 ?_
          refine W.eq (g2 := F0 m 124 ls [.long (uw (T si.toNatClampNeg)), .long ((uw (A si.toNatClampNeg)) + (uw (v))), .int (Y si.toNatClampNeg), .int (P si.toNatClampNeg), .long (uw ((A si.toNatClampNeg) + (v))), .long (uw (A si.toNatClampNeg)), .long (uw (A si.toNatClampNeg)), .int (ri), .ref (q 0)]) rfl ?_
          refine W.lcmp hx hb dM_narrow_124 ?_
          refine lv_if_gt (tgt := 132) hx hb dM_narrow_125 (by decide) (fun h_8 => ?_) (fun h_8 => ?_)
          · rw [lg_cmp_gt] at h_8
            refine lv_iconst (v := 0) hx hb dM_narrow_132 (by decide) ?_
            refine W.eq (g2 := F0 m 133 ls [.int (bi (false)), .int (Y si.toNatClampNeg), .int (P si.toNatClampNeg), .long (uw ((A si.toNatClampNeg) + (v))), .long (uw (A si.toNatClampNeg)), .long (uw (A si.toNatClampNeg)), .int (ri), .ref (q 0)]) rfl ?_
            refine kw_V 7 [0, 1, 2, 3, 4, 5, 6] [] (b := q 0) (As := [.int (ri), .long (uw (A si.toNatClampNeg)), .long (uw (A si.toNatClampNeg)), .long (uw ((A si.toNatClampNeg) + (v))), .int (P si.toNatClampNeg), .int (Y si.toNatClampNeg), .int (bi (false))]) (rest := []) (wc := mW cJ cI cZ q (0) A B T P Y G) (wr := []) (w1 := mW cJ cI cZ q (0) (upd A ri.toNatClampNeg (A si.toNatClampNeg)) (upd B ri.toNatClampNeg (A si.toNatClampNeg)) (upd T ri.toNatClampNeg ((A si.toNatClampNeg) + (v))) (upd P ri.toNatClampNeg (P si.toNatClampNeg)) (upd Y ri.toNatClampNeg (Y si.toNatClampNeg)) (ub G ri.toNatClampNeg (false))) hx hb hml hown hts hl.1 hP hD hS hA hK (mM_give l D cJ cI cZ q (0) A B T P Y G _ ri (A si.toNatClampNeg) (A si.toNatClampNeg) ((A si.toNatClampNeg) + (v)) (P si.toNatClampNeg) (Y si.toNatClampNeg) false hri) (gw_V w_302 w_304 w_9 w_15 w_305) (by decide) ⟨rfl, rfl⟩ ⟨Nat.le_of_ble_eq_true rfl, Nat.le_of_ble_eq_true rfl⟩ (va_recv hK hP (ci := 1) rfl (q0 := 0) rfl) rfl rfl (Nat.le_of_ble_eq_true rfl) dM_narrow_133 ⟨Nat.zero_le _, Nat.zero_le _⟩ rfl rfl ⟨by decide, by decide⟩ (by decide) (fun H locs hP hD hS => ?_)
            have hP : va_P D vwCl (mW cJ cI cZ q (0) (upd A ri.toNatClampNeg (A si.toNatClampNeg)) (upd B ri.toNatClampNeg (A si.toNatClampNeg)) (upd T ri.toNatClampNeg ((A si.toNatClampNeg) + (v))) (upd P ri.toNatClampNeg (P si.toNatClampNeg)) (upd Y ri.toNatClampNeg (Y si.toNatClampNeg)) (ub G ri.toNatClampNeg (false))) H := hP
            have hD : va_D A9 (mW cJ cI cZ q (0) (upd A ri.toNatClampNeg (A si.toNatClampNeg)) (upd B ri.toNatClampNeg (A si.toNatClampNeg)) (upd T ri.toNatClampNeg ((A si.toNatClampNeg) + (v))) (upd P ri.toNatClampNeg (P si.toNatClampNeg)) (upd Y ri.toNatClampNeg (Y si.toNatClampNeg)) (ub G ri.toNatClampNeg (false))) := hD
            refine W.eq (g2 := F0 m 136 ls []) rfl ?_
            refine lv_aload_n hx hb dM_narrow_136 rfl (lv_at hl 2 rfl) ?_
            refine va_get (D := D) (ci := 1) (v := .ref (q 6)) (C := RM) (T := TM) (N := 7) hx hb hts inM hown hK hP 0 rfl rfl 6 (by decide) (hts _ w_261) (fun _ h9 => h9) rfl dM_narrow_137 ?_
            refine lv_iload_n hx hb dM_narrow_140 rfl (lv_at hl 3 rfl) ?_
            refine va_zald hx hb hK hP 6 2 rfl rfl hri dM_narrow_141 ?_
            refine W.eq (g2 := F0 m 142 ls [.int (bi (false))]) (by first | rfl | (rw [ub_s] <;> rfl)) ?_
            have e9_0 : (G si.toNatClampNeg && (decide (Y si.toNatClampNeg = 0) && ga_in (B si.toNatClampNeg) (T si.toNatClampNeg) (A si.toNatClampNeg) (un v))) = false := by (try simp only [decide_eq_true_eq, decide_eq_false_iff_not, Decidable.not_not] at h_1); (try simp only [decide_eq_true_eq, decide_eq_false_iff_not, Decidable.not_not] at h_2); (try simp only [decide_eq_true_eq, decide_eq_false_iff_not, Decidable.not_not] at h_4); (try simp only [decide_eq_true_eq, decide_eq_false_iff_not, Decidable.not_not] at h_5); rw [uw_lt] at h_6; rw [uw_lt] at h_7; simp only [uw, lN_add] at h_8; rw [pk_lLT (by have h91 := un_lt (A si.toNatClampNeg); have h92 := un_lt (B si.toNatClampNeg); have h93 := un_lt (T si.toNatClampNeg); have h94 := un_lt v; omega) (by have h91 := un_lt (A si.toNatClampNeg); have h92 := un_lt (B si.toNatClampNeg); have h93 := un_lt (T si.toNatClampNeg); have h94 := un_lt v; omega)] at h_8; unfold ga_in; simp [h_1, h_2, h_4, h_5] <;> omega
            have hP : va_P D vwCl (mW cJ cI cZ q (0) (upd A ri.toNatClampNeg (A si.toNatClampNeg)) (upd B ri.toNatClampNeg (A si.toNatClampNeg)) (upd T ri.toNatClampNeg ((A si.toNatClampNeg) + (v))) (upd P ri.toNatClampNeg (P si.toNatClampNeg)) (upd Y ri.toNatClampNeg (Y si.toNatClampNeg)) (ub G ri.toNatClampNeg ((G si.toNatClampNeg && (decide (Y si.toNatClampNeg = 0) && ga_in (B si.toNatClampNeg) (T si.toNatClampNeg) (A si.toNatClampNeg) (un v)))))) H := by (try rw [e9_0]); first | exact hP | (simp only [uu_upd, uu_ub] at hP ⊢; exact hP)
            have hD : va_D A9 (mW cJ cI cZ q (0) (upd A ri.toNatClampNeg (A si.toNatClampNeg)) (upd B ri.toNatClampNeg (A si.toNatClampNeg)) (upd T ri.toNatClampNeg ((A si.toNatClampNeg) + (v))) (upd P ri.toNatClampNeg (P si.toNatClampNeg)) (upd Y ri.toNatClampNeg (Y si.toNatClampNeg)) (ub G ri.toNatClampNeg ((G si.toNatClampNeg && (decide (Y si.toNatClampNeg = 0) && ga_in (B si.toNatClampNeg) (T si.toNatClampNeg) (A si.toNatClampNeg) (un v)))))) := by (try rw [e9_0]); first | exact hD | (simp only [uu_upd, uu_ub] at hD ⊢; exact hD)
            refine W.eq (g2 := F0 m 142 ls [.int (bi (G si.toNatClampNeg && (decide (Y si.toNatClampNeg = 0) && ga_in (B si.toNatClampNeg) (T si.toNatClampNeg) (A si.toNatClampNeg) (un v))))]) (by first | rfl | (rw [e9_0] <;> rfl)) ?_
            exact W.zret (v := bi (G si.toNatClampNeg && (decide (Y si.toNatClampNeg = 0) && ga_in (B si.toNatClampNeg) (T si.toNatClampNeg) (A si.toNatClampNeg) (un v)))) hx hb hr (bi_nar _) (fun t9 ht hW => ⟨rfl, by rw [ht]; exact hP, hD, hS.F ht⟩) hS.2.2 dM_narrow_142
          · rw [lg_cmp_gt] at h_8
            refine lv_iconst (v := 1) hx hb dM_narrow_128 (by decide) ?_
            refine lv_goto (tgt := 133) hx hb dM_narrow_129 (by decide) ?_
            refine W.eq (g2 := F0 m 133 ls [.int (bi (true)), .int (Y si.toNatClampNeg), .int (P si.toNatClampNeg), .long (uw ((A si.toNatClampNeg) + (v))), .long (uw (A si.toNatClampNeg)), .long (uw (A si.toNatClampNeg)), .int (ri), .ref (q 0)]) rfl ?_
            refine kw_V 7 [0, 1, 2, 3, 4, 5, 6] [] (b := q 0) (As := [.int (ri), .long (uw (A si.toNatClampNeg)), .long (uw (A si.toNatClampNeg)), .long (uw ((A si.toNatClampNeg) + (v))), .int (P si.toNatClampNeg), .int (Y si.toNatClampNeg), .int (bi (true))]) (rest := []) (wc := mW cJ cI cZ q (0) A B T P Y G) (wr := []) (w1 := mW cJ cI cZ q (0) (upd A ri.toNatClampNeg (A si.toNatClampNeg)) (upd B ri.toNatClampNeg (A si.toNatClampNeg)) (upd T ri.toNatClampNeg ((A si.toNatClampNeg) + (v))) (upd P ri.toNatClampNeg (P si.toNatClampNeg)) (upd Y ri.toNatClampNeg (Y si.toNatClampNeg)) (ub G ri.toNatClampNeg (true))) hx hb hml hown hts hl.1 hP hD hS hA hK (mM_give l D cJ cI cZ q (0) A B T P Y G _ ri (A si.toNatClampNeg) (A si.toNatClampNeg) ((A si.toNatClampNeg) + (v)) (P si.toNatClampNeg) (Y si.toNatClampNeg) true hri) (gw_V w_302 w_304 w_9 w_15 w_305) (by decide) ⟨rfl, rfl⟩ ⟨Nat.le_of_ble_eq_true rfl, Nat.le_of_ble_eq_true rfl⟩ (va_recv hK hP (ci := 1) rfl (q0 := 0) rfl) rfl rfl (Nat.le_of_ble_eq_true rfl) dM_narrow_133 ⟨Nat.zero_le _, Nat.zero_le _⟩ rfl rfl ⟨by decide, by decide⟩ (by decide) (fun H locs hP hD hS => ?_)
            have hP : va_P D vwCl (mW cJ cI cZ q (0) (upd A ri.toNatClampNeg (A si.toNatClampNeg)) (upd B ri.toNatClampNeg (A si.toNatClampNeg)) (upd T ri.toNatClampNeg ((A si.toNatClampNeg) + (v))) (upd P ri.toNatClampNeg (P si.toNatClampNeg)) (upd Y ri.toNatClampNeg (Y si.toNatClampNeg)) (ub G ri.toNatClampNeg (true))) H := hP
            have hD : va_D A9 (mW cJ cI cZ q (0) (upd A ri.toNatClampNeg (A si.toNatClampNeg)) (upd B ri.toNatClampNeg (A si.toNatClampNeg)) (upd T ri.toNatClampNeg ((A si.toNatClampNeg) + (v))) (upd P ri.toNatClampNeg (P si.toNatClampNeg)) (upd Y ri.toNatClampNeg (Y si.toNatClampNeg)) (ub G ri.toNatClampNeg (true))) := hD
            refine W.eq (g2 := F0 m 136 ls []) rfl ?_
            refine lv_aload_n hx hb dM_narrow_136 rfl (lv_at hl 2 rfl) ?_
            refine va_get (D := D) (ci := 1) (v := .ref (q 6)) (C := RM) (T := TM) (N := 7) hx hb hts inM hown hK hP 0 rfl rfl 6 (by decide) (hts _ w_261) (fun _ h9 => h9) rfl dM_narrow_137 ?_
            refine lv_iload_n hx hb dM_narrow_140 rfl (lv_at hl 3 rfl) ?_
            refine va_zald hx hb hK hP 6 2 rfl rfl hri dM_narrow_141 ?_
            refine W.eq (g2 := F0 m 142 ls [.int (bi (true))]) (by first | rfl | (rw [ub_s] <;> rfl)) ?_
            have e9_0 : (G si.toNatClampNeg && (decide (Y si.toNatClampNeg = 0) && ga_in (B si.toNatClampNeg) (T si.toNatClampNeg) (A si.toNatClampNeg) (un v))) = true := by (try simp only [decide_eq_true_eq, decide_eq_false_iff_not, Decidable.not_not] at h_1); (try simp only [decide_eq_true_eq, decide_eq_false_iff_not, Decidable.not_not] at h_2); (try simp only [decide_eq_true_eq, decide_eq_false_iff_not, Decidable.not_not] at h_4); (try simp only [decide_eq_true_eq, decide_eq_false_iff_not, Decidable.not_not] at h_5); rw [uw_lt] at h_6; rw [uw_lt] at h_7; simp only [uw, lN_add] at h_8; rw [pk_lLT (by have h91 := un_lt (A si.toNatClampNeg); have h92 := un_lt (B si.toNatClampNeg); have h93 := un_lt (T si.toNatClampNeg); have h94 := un_lt v; omega) (by have h91 := un_lt (A si.toNatClampNeg); have h92 := un_lt (B si.toNatClampNeg); have h93 := un_lt (T si.toNatClampNeg); have h94 := un_lt v; omega)] at h_8; unfold ga_in; simp [h_1, h_2, h_4, h_5] <;> omega
            have hP : va_P D vwCl (mW cJ cI cZ q (0) (upd A ri.toNatClampNeg (A si.toNatClampNeg)) (upd B ri.toNatClampNeg (A si.toNatClampNeg)) (upd T ri.toNatClampNeg ((A si.toNatClampNeg) + (v))) (upd P ri.toNatClampNeg (P si.toNatClampNeg)) (upd Y ri.toNatClampNeg (Y si.toNatClampNeg)) (ub G ri.toNatClampNeg ((G si.toNatClampNeg && (decide (Y si.toNatClampNeg = 0) && ga_in (B si.toNatClampNeg) (T si.toNatClampNeg) (A si.toNatClampNeg) (un v)))))) H := by (try rw [e9_0]); first | exact hP | (simp only [uu_upd, uu_ub] at hP ⊢; exact hP)
            have hD : va_D A9 (mW cJ cI cZ q (0) (upd A ri.toNatClampNeg (A si.toNatClampNeg)) (upd B ri.toNatClampNeg (A si.toNatClampNeg)) (upd T ri.toNatClampNeg ((A si.toNatClampNeg) + (v))) (upd P ri.toNatClampNeg (P si.toNatClampNeg)) (upd Y ri.toNatClampNeg (Y si.toNatClampNeg)) (ub G ri.toNatClampNeg ((G si.toNatClampNeg && (decide (Y si.toNatClampNeg = 0) && ga_in (B si.toNatClampNeg) (T si.toNatClampNeg) (A si.toNatClampNeg) (un v)))))) := by (try rw [e9_0]); first | exact hD | (simp only [uu_upd, uu_ub] at hD ⊢; exact hD)
            refine W.eq (g2 := F0 m 142 ls [.int (bi (G si.toNatClampNeg && (decide (Y si.toNatClampNeg = 0) && ga_in (B si.toNatClampNeg) (T si.toNatClampNeg) (A si.toNatClampNeg) (un v))))]) (by first | rfl | (rw [e9_0] <;> rfl)) ?_
            exact W.zret (v := bi (G si.toNatClampNeg && (decide (Y si.toNatClampNeg = 0) && ga_in (B si.toNatClampNeg) (T si.toNatClampNeg) (A si.toNatClampNeg) (un v)))) hx hb hr (bi_nar _) (fun t9 ht hW => ⟨rfl, by rw [ht]; exact hP, hD, hS.F ht⟩) hS.2.2 dM_narrow_142

set_option maxRecDepth 100000 in
set_option maxHeartbeats 4000000 in
theorem mM_narrow_n (l : Launch) (D : va_G) (cJ cI cZ : ClassId) (q : Nat → Nat) (e0 : Int32) (A B T P Y : Nat → Int32) (G : Nat → Bool) (sz : Nat) (ri si v : Int32) (hbad : ¬ (vp_in ri 16 ∧ vp_in si 16)) : Met l yM_narrow (Cond.code yM_narrow cM_narrow 8 (some .boolean) :: gw) (rmk 2 0 0) (va_Pc [.ref (q 0), .int (ri), .int (si), .int (v)] (kB D vwCl (mW cJ cI cZ q (e0) A B T P Y G) (tsM cJ cI cZ) sz)) (kQ (some (.int (0))) D vwCl (mW cJ cI cZ q (1) A B T P Y G) (va_A (mW cJ cI cZ q (e0) A B T P Y G) sz)) 0 0 (va_A (mW cJ cI cZ q (e0) A B T P Y G) sz) := by
  refine Met.ofW (cc := cM_narrow) (maxL := 8) (ret := (some .boolean)) (by decide) rfl ?_
  intro p e s m args below meth c s₁ B9 hml hv
  obtain ⟨rfl, hsz, hP, hK, hD0⟩ := hv
  have hx := B9.exec
  have hb := B9.bytes
  have hr := B9.returns
  have hts := fun (w : Cond) (h : w ∈ gw) => atoms_spec (ws := _ :: gw) B9.pre w (List.mem_cons_of_mem _ h)
  have hown : s.vm.findClass RM = some m.cls := findClass_of_methodNamed B9.named
  have hlocks := B9.notSynchronized
  have hl := lv_entry ([.ref (q 0), .int (ri), .int (si), .int (v)]) (n := 8) (Nat.le_of_ble_eq_true rfl)
  rw [lg_entry_eq]
  generalize (lg_sl ([.ref (q 0), .int (ri), .int (si), .int (v)]) ++ List.replicate (8 - (lg_sl ([.ref (q 0), .int (ri), .int (si), .int (v)])).length) Slot.unset).toArray = ls at hl ⊢
  have hl : lv_has ls 8 [(0, .ref (q 0)), (1, .int (ri)), (2, .int (si)), (3, .int (v))] := hl
  subst hsz
  have hD := hD0.self (sz := s.heap.size)
  generalize hAe : va_A (mW cJ cI cZ q (e0) A B T P Y G) s.heap.size = A9 at hD ⊢
  have hA : ∀ z : Nat, s.heap.size ≤ z → A9 z := fun z h => by rw [← hAe]; exact Or.inr h
  have hS : va_S A9 s.heap s.heap [] := va_S.rf
  have hP : va_P D vwCl (mW cJ cI cZ q (e0) A B T P Y G) s.heap := hP
  refine lv_aload_n hx hb dM_narrow_0 rfl (lv_at hl 0 rfl) ?_
  refine lv_iconst (v := 0) hx hb dM_narrow_1 (by decide) ?_
  refine va_put (D := D) (ci := 1) (v := .int (0)) (ty := .int) (C := RM) (T := TM) (N := 7) hx hb hts inM tyM tyM_ok nmM hown hK hP hD hS 0 rfl rfl 0 (by decide) (hts _ w_255) (fun _ h9 => h9) rfl (by decide +kernel) rfl rfl (Nat.le_of_ble_eq_true rfl) dM_narrow_2 (fun H locs hP hD hS => ?_)
  have hP : va_P D vwCl (mW cJ cI cZ q (0) A B T P Y G) H := hP
  have hD : va_D A9 (mW cJ cI cZ q (0) A B T P Y G) := hD
  refine lv_aload_n hx hb dM_narrow_5 rfl (lv_at hl 0 rfl) ?_
  refine lv_iload_n hx hb dM_narrow_6 rfl (lv_at hl 1 rfl) ?_
  refine kr_S 1 (As := [.int (ri)]) (rest := [.ref (q 0)]) (r := .int (bi (gi ri))) hx hb hml hown hts hl.1 (mM_is l (ri)) tt_stb trivial (gw_S w_298 w_299 w_15 w_300) (by decide) ⟨rfl, rfl⟩ ⟨Nat.le_of_ble_eq_true rfl, Nat.le_of_ble_eq_true rfl⟩ rfl rfl (Nat.le_of_ble_eq_true rfl) dM_narrow_7 ⟨Nat.zero_le _, Nat.zero_le _⟩ ?_
  refine lv_if_eq (tgt := 20) hx hb dM_narrow_10 (by decide) (fun h_1 => ?_) (fun h_1 => ?_)
  · have h_1 := bi_0 h_1
    refine lv_iconst (v := 1) hx hb dM_narrow_20 (by decide) ?_
    refine lv_goto (tgt := 25) hx hb dM_narrow_21 (by decide) ?_
    refine lv_iconst (v := 1) hx hb dM_narrow_25 (by decide) ?_
    refine kw_V 2 [0, 1, 2, 3, 4, 5, 6] [] (b := q 0) (As := [.int (1), .int (1)]) (rest := []) (wc := mW cJ cI cZ q (0) A B T P Y G) (wr := []) (w1 := mW cJ cI cZ q (1) A B T P Y G) hx hb hml hown hts hl.1 hP hD hS hA hK (mM_fails_t l D cJ cI cZ q 0 A B T P Y G _ 1 (by decide)) (gw_V w_294 w_296 w_8 w_15 w_297) (by decide) ⟨rfl, rfl⟩ ⟨Nat.le_of_ble_eq_true rfl, Nat.le_of_ble_eq_true rfl⟩ (va_recv hK hP (ci := 1) rfl (q0 := 0) rfl) rfl rfl (Nat.le_of_ble_eq_true rfl) dM_narrow_26 ⟨Nat.zero_le _, Nat.zero_le _⟩ rfl rfl ⟨by decide, by decide⟩ (by decide) (fun H locs hP hD hS => ?_)
    have hP : va_P D vwCl (mW cJ cI cZ q (1) A B T P Y G) H := hP
    have hD : va_D A9 (mW cJ cI cZ q (1) A B T P Y G) := hD
    refine W.eq (g2 := F0 m 29 ls [.int (1)]) rfl ?_
    refine lv_if_eq (tgt := 34) hx hb dM_narrow_29 (by decide) (fun h_2 => absurd h_2 (by decide)) (fun h_2 => ?_)
    refine lv_iconst (v := 0) hx hb dM_narrow_32 (by decide) ?_
    exact W.zret (v := 0) hx hb hr rfl (fun t9 ht hW => ⟨rfl, by rw [ht]; exact hP, hD, hS.F ht⟩) hS.2.2 dM_narrow_33
  · have h_1 := bi_n h_1
    refine lv_iload_n hx hb dM_narrow_13 rfl (lv_at hl 2 rfl) ?_
    refine kr_S 1 (As := [.int (si)]) (rest := [.ref (q 0)]) (r := .int (bi (gi si))) hx hb hml hown hts hl.1 (mM_is l (si)) tt_stb trivial (gw_S w_298 w_299 w_15 w_300) (by decide) ⟨rfl, rfl⟩ ⟨Nat.le_of_ble_eq_true rfl, Nat.le_of_ble_eq_true rfl⟩ rfl rfl (Nat.le_of_ble_eq_true rfl) dM_narrow_14 ⟨Nat.zero_le _, Nat.zero_le _⟩ ?_
    refine lv_if_ne (tgt := 24) hx hb dM_narrow_17 (by decide) (fun h_3 => ?_) (fun h_3 => ?_)
    · have h_3 := bi_n h_3
      exact absurd ⟨gi_in.mp h_1, gi_in.mp h_3⟩ hbad
    · have h_3 := bi_0 h_3
      refine lv_iconst (v := 1) hx hb dM_narrow_20 (by decide) ?_
      refine lv_goto (tgt := 25) hx hb dM_narrow_21 (by decide) ?_
      refine lv_iconst (v := 1) hx hb dM_narrow_25 (by decide) ?_
      refine kw_V 2 [0, 1, 2, 3, 4, 5, 6] [] (b := q 0) (As := [.int (1), .int (1)]) (rest := []) (wc := mW cJ cI cZ q (0) A B T P Y G) (wr := []) (w1 := mW cJ cI cZ q (1) A B T P Y G) hx hb hml hown hts hl.1 hP hD hS hA hK (mM_fails_t l D cJ cI cZ q 0 A B T P Y G _ 1 (by decide)) (gw_V w_294 w_296 w_8 w_15 w_297) (by decide) ⟨rfl, rfl⟩ ⟨Nat.le_of_ble_eq_true rfl, Nat.le_of_ble_eq_true rfl⟩ (va_recv hK hP (ci := 1) rfl (q0 := 0) rfl) rfl rfl (Nat.le_of_ble_eq_true rfl) dM_narrow_26 ⟨Nat.zero_le _, Nat.zero_le _⟩ rfl rfl ⟨by decide, by decide⟩ (by decide) (fun H locs hP hD hS => ?_)
      have hP : va_P D vwCl (mW cJ cI cZ q (1) A B T P Y G) H := hP
      have hD : va_D A9 (mW cJ cI cZ q (1) A B T P Y G) := hD
      refine W.eq (g2 := F0 m 29 ls [.int (1)]) rfl ?_
      refine lv_if_eq (tgt := 34) hx hb dM_narrow_29 (by decide) (fun h_4 => absurd h_4 (by decide)) (fun h_4 => ?_)
      refine lv_iconst (v := 0) hx hb dM_narrow_32 (by decide) ?_
      exact W.zret (v := 0) hx hb hr rfl (fun t9 ht hW => ⟨rfl, by rw [ht]; exact hP, hD, hS.F ht⟩) hS.2.2 dM_narrow_33

set_option maxRecDepth 100000 in
set_option maxHeartbeats 4000000 in
theorem mM_within_y (l : Launch) (D : va_G) (cJ cI cZ : ClassId) (q : Nat → Nat) (e0 : Int32) (A B T P Y : Nat → Int32) (G : Nat → Bool) (sz : Nat) (ri si : Int32) (hri : vp_in ri 16) (hsi : vp_in si 16) : Met l yM_within (Cond.code yM_within cM_within 3 (some .boolean) :: gw) (rmk 2 0 0) (va_Pc [.ref (q 0), .int (ri), .int (si)] (kB D vwCl (mW cJ cI cZ q (e0) A B T P Y G) (tsM cJ cI cZ) sz)) (kQ (some (.int (bi (ga_with B T P G ri.toNatClampNeg si.toNatClampNeg)))) D vwCl (mW cJ cI cZ q (0) A B T P Y G) (va_A (mW cJ cI cZ q (e0) A B T P Y G) sz)) 0 0 (va_A (mW cJ cI cZ q (e0) A B T P Y G) sz) := by
  refine Met.ofW (cc := cM_within) (maxL := 3) (ret := (some .boolean)) (by decide) rfl ?_
  intro p e s m args below meth c s₁ B9 hml hv
  obtain ⟨rfl, hsz, hP, hK, hD0⟩ := hv
  have hx := B9.exec
  have hb := B9.bytes
  have hr := B9.returns
  have hts := fun (w : Cond) (h : w ∈ gw) => atoms_spec (ws := _ :: gw) B9.pre w (List.mem_cons_of_mem _ h)
  have hown : s.vm.findClass RM = some m.cls := findClass_of_methodNamed B9.named
  have hlocks := B9.notSynchronized
  have hl := lv_entry ([.ref (q 0), .int (ri), .int (si)]) (n := 3) (Nat.le_of_ble_eq_true rfl)
  rw [lg_entry_eq]
  generalize (lg_sl ([.ref (q 0), .int (ri), .int (si)]) ++ List.replicate (3 - (lg_sl ([.ref (q 0), .int (ri), .int (si)])).length) Slot.unset).toArray = ls at hl ⊢
  have hl : lv_has ls 3 [(0, .ref (q 0)), (1, .int (ri)), (2, .int (si))] := hl
  subst hsz
  have hD := hD0.self (sz := s.heap.size)
  generalize hAe : va_A (mW cJ cI cZ q (e0) A B T P Y G) s.heap.size = A9 at hD ⊢
  have hA : ∀ z : Nat, s.heap.size ≤ z → A9 z := fun z h => by rw [← hAe]; exact Or.inr h
  have hS : va_S A9 s.heap s.heap [] := va_S.rf
  have hP : va_P D vwCl (mW cJ cI cZ q (e0) A B T P Y G) s.heap := hP
  refine lv_aload_n hx hb dM_within_0 rfl (lv_at hl 0 rfl) ?_
  refine lv_iconst (v := 0) hx hb dM_within_1 (by decide) ?_
  refine va_put (D := D) (ci := 1) (v := .int (0)) (ty := .int) (C := RM) (T := TM) (N := 7) hx hb hts inM tyM tyM_ok nmM hown hK hP hD hS 0 rfl rfl 0 (by decide) (hts _ w_255) (fun _ h9 => h9) rfl (by decide +kernel) rfl rfl (Nat.le_of_ble_eq_true rfl) dM_within_2 (fun H locs hP hD hS => ?_)
  have hP : va_P D vwCl (mW cJ cI cZ q (0) A B T P Y G) H := hP
  have hD : va_D A9 (mW cJ cI cZ q (0) A B T P Y G) := hD
  refine lv_aload_n hx hb dM_within_5 rfl (lv_at hl 0 rfl) ?_
  refine lv_iload_n hx hb dM_within_6 rfl (lv_at hl 1 rfl) ?_
  refine kr_S 1 (As := [.int (ri)]) (rest := [.ref (q 0)]) (r := .int (bi (gi ri))) hx hb hml hown hts hl.1 (mM_is l (ri)) tt_stb trivial (gw_S w_298 w_299 w_15 w_300) (by decide) ⟨rfl, rfl⟩ ⟨Nat.le_of_ble_eq_true rfl, Nat.le_of_ble_eq_true rfl⟩ rfl rfl (Nat.le_of_ble_eq_true rfl) dM_within_7 ⟨Nat.zero_le _, Nat.zero_le _⟩ ?_
  refine lv_if_eq (tgt := 20) hx hb dM_within_10 (by decide) (fun h_1 => absurd h_1 (gi_nz hri)) (fun h_1 => ?_)
  have h_1 := bi_n h_1
  refine lv_iload_n hx hb dM_within_13 rfl (lv_at hl 2 rfl) ?_
  refine kr_S 1 (As := [.int (si)]) (rest := [.ref (q 0)]) (r := .int (bi (gi si))) hx hb hml hown hts hl.1 (mM_is l (si)) tt_stb trivial (gw_S w_298 w_299 w_15 w_300) (by decide) ⟨rfl, rfl⟩ ⟨Nat.le_of_ble_eq_true rfl, Nat.le_of_ble_eq_true rfl⟩ rfl rfl (Nat.le_of_ble_eq_true rfl) dM_within_14 ⟨Nat.zero_le _, Nat.zero_le _⟩ ?_
  refine lv_if_ne (tgt := 24) hx hb dM_within_17 (by decide) (fun h_2 => ?_) (fun h_2 => absurd h_2 (gi_nz hsi))
  have h_2 := bi_n h_2
  refine lv_iconst (v := 0) hx hb dM_within_24 (by decide) ?_
  refine lv_iconst (v := 1) hx hb dM_within_25 (by decide) ?_
  refine kw_V 2 [0, 1, 2, 3, 4, 5, 6] [] (b := q 0) (As := [.int (0), .int (1)]) (rest := []) (wc := mW cJ cI cZ q (0) A B T P Y G) (wr := []) (w1 := mW cJ cI cZ q (0) A B T P Y G) hx hb hml hown hts hl.1 hP hD hS hA hK (mM_fails_f l D cJ cI cZ q 0 A B T P Y G _ 1) (gw_V w_294 w_296 w_8 w_15 w_297) (by decide) ⟨rfl, rfl⟩ ⟨Nat.le_of_ble_eq_true rfl, Nat.le_of_ble_eq_true rfl⟩ (va_recv hK hP (ci := 1) rfl (q0 := 0) rfl) rfl rfl (Nat.le_of_ble_eq_true rfl) dM_within_26 ⟨Nat.zero_le _, Nat.zero_le _⟩ rfl rfl ⟨by decide, by decide⟩ (by decide) (fun H locs hP hD hS => ?_)
  have hP : va_P D vwCl (mW cJ cI cZ q (0) A B T P Y G) H := hP
  have hD : va_D A9 (mW cJ cI cZ q (0) A B T P Y G) := hD
  refine W.eq (g2 := F0 m 29 ls [.int (0)]) rfl ?_
  refine lv_if_eq (tgt := 34) hx hb dM_within_29 (by decide) (fun h_3 => ?_) (fun h_3 => absurd (by decide) h_3)
  refine lv_aload_n hx hb dM_within_34 rfl (lv_at hl 0 rfl) ?_
  refine va_get (D := D) (ci := 1) (v := .ref (q 6)) (C := RM) (T := TM) (N := 7) hx hb hts inM hown hK hP 0 rfl rfl 6 (by decide) (hts _ w_261) (fun _ h9 => h9) rfl dM_within_35 ?_
  refine lv_iload_n hx hb dM_within_38 rfl (lv_at hl 1 rfl) ?_
  refine va_zald hx hb hK hP 6 2 rfl rfl hri dM_within_39 ?_
  refine W.eq (g2 := F0 m 40 ls [.int (bi (G ri.toNatClampNeg))]) rfl ?_
  refine lv_if_eq (tgt := 102) hx hb dM_within_40 (by decide) (fun h_4 => ?_) (fun h_4 => ?_)
  · have h_4 := bi_0 h_4
    refine lv_iconst (v := 0) hx hb dM_within_102 (by decide) ?_
    have e9 : (ga_with B T P G ri.toNatClampNeg si.toNatClampNeg) = false := by unfold ga_with; simp [h_1, h_2, h_4]
    refine W.eq (g2 := F0 m 103 ls [.int (bi (ga_with B T P G ri.toNatClampNeg si.toNatClampNeg))]) (by rw [e9]; rfl) ?_
    exact W.zret (v := bi (ga_with B T P G ri.toNatClampNeg si.toNatClampNeg)) hx hb hr (bi_nar _) (fun t9 ht hW => ⟨rfl, by rw [ht]; exact hP, hD, hS.F ht⟩) hS.2.2 dM_within_103
  · have h_4 := bi_n h_4
    refine lv_aload_n hx hb dM_within_43 rfl (lv_at hl 0 rfl) ?_
    refine va_get (D := D) (ci := 1) (v := .ref (q 6)) (C := RM) (T := TM) (N := 7) hx hb hts inM hown hK hP 0 rfl rfl 6 (by decide) (hts _ w_261) (fun _ h9 => h9) rfl dM_within_44 ?_
    refine lv_iload_n hx hb dM_within_47 rfl (lv_at hl 2 rfl) ?_
    refine va_zald hx hb hK hP 6 2 rfl rfl hsi dM_within_48 ?_
    refine W.eq (g2 := F0 m 49 ls [.int (bi (G si.toNatClampNeg))]) rfl ?_
    refine lv_if_eq (tgt := 102) hx hb dM_within_49 (by decide) (fun h_5 => ?_) (fun h_5 => ?_)
    · have h_5 := bi_0 h_5
      refine lv_iconst (v := 0) hx hb dM_within_102 (by decide) ?_
      have e9 : (ga_with B T P G ri.toNatClampNeg si.toNatClampNeg) = false := by unfold ga_with; simp [h_1, h_2, h_4, h_5]
      refine W.eq (g2 := F0 m 103 ls [.int (bi (ga_with B T P G ri.toNatClampNeg si.toNatClampNeg))]) (by rw [e9]; rfl) ?_
      exact W.zret (v := bi (ga_with B T P G ri.toNatClampNeg si.toNatClampNeg)) hx hb hr (bi_nar _) (fun t9 ht hW => ⟨rfl, by rw [ht]; exact hP, hD, hS.F ht⟩) hS.2.2 dM_within_103
    · have h_5 := bi_n h_5
      refine lv_aload_n hx hb dM_within_52 rfl (lv_at hl 0 rfl) ?_
      refine va_get (D := D) (ci := 1) (v := .ref (q 2)) (C := RM) (T := TM) (N := 7) hx hb hts inM hown hK hP 0 rfl rfl 2 (by decide) (hts _ w_257) (fun _ h9 => h9) rfl dM_within_53 ?_
      refine lv_iload_n hx hb dM_within_56 rfl (lv_at hl 1 rfl) ?_
      refine va_lald hx hb hK hP 2 0 rfl rfl hri dM_within_57 ?_
      refine W.eq (g2 := F0 m 58 ls [.long (uw (B ri.toNatClampNeg))]) rfl ?_
      refine lv_aload_n hx hb dM_within_58 rfl (lv_at hl 0 rfl) ?_
      refine va_get (D := D) (ci := 1) (v := .ref (q 2)) (C := RM) (T := TM) (N := 7) hx hb hts inM hown hK hP 0 rfl rfl 2 (by decide) (hts _ w_257) (fun _ h9 => h9) rfl dM_within_59 ?_
      refine lv_iload_n hx hb dM_within_62 rfl (lv_at hl 2 rfl) ?_
      refine va_lald hx hb hK hP 2 0 rfl rfl hsi dM_within_63 ?_
      refine W.eq (g2 := F0 m 64 ls [.long (uw (B si.toNatClampNeg)), .long (uw (B ri.toNatClampNeg))]) rfl ?_
      refine W.lcmp hx hb dM_within_64 ?_
      refine lv_if_lt (tgt := 102) hx hb dM_within_65 (by decide) (fun h_6 => ?_) (fun h_6 => ?_)
      · rw [lg_cmp_lt] at h_6
        refine lv_iconst (v := 0) hx hb dM_within_102 (by decide) ?_
        have e9 : (ga_with B T P G ri.toNatClampNeg si.toNatClampNeg) = false := by unfold ga_with; rw [uw_lt] at h_6; have h_6 := Nat.not_le.mpr h_6; simp [h_1, h_2, h_4, h_5, h_6]
        refine W.eq (g2 := F0 m 103 ls [.int (bi (ga_with B T P G ri.toNatClampNeg si.toNatClampNeg))]) (by rw [e9]; rfl) ?_
        exact W.zret (v := bi (ga_with B T P G ri.toNatClampNeg si.toNatClampNeg)) hx hb hr (bi_nar _) (fun t9 ht hW => ⟨rfl, by rw [ht]; exact hP, hD, hS.F ht⟩) hS.2.2 dM_within_103
      · rw [lg_cmp_lt] at h_6
        refine lv_aload_n hx hb dM_within_68 rfl (lv_at hl 0 rfl) ?_
        refine va_get (D := D) (ci := 1) (v := .ref (q 3)) (C := RM) (T := TM) (N := 7) hx hb hts inM hown hK hP 0 rfl rfl 3 (by decide) (hts _ w_258) (fun _ h9 => h9) rfl dM_within_69 ?_
        refine lv_iload_n hx hb dM_within_72 rfl (lv_at hl 1 rfl) ?_
        refine va_lald hx hb hK hP 3 0 rfl rfl hri dM_within_73 ?_
        refine W.eq (g2 := F0 m 74 ls [.long (uw (T ri.toNatClampNeg))]) rfl ?_
        refine lv_aload_n hx hb dM_within_74 rfl (lv_at hl 0 rfl) ?_
        refine va_get (D := D) (ci := 1) (v := .ref (q 3)) (C := RM) (T := TM) (N := 7) hx hb hts inM hown hK hP 0 rfl rfl 3 (by decide) (hts _ w_258) (fun _ h9 => h9) rfl dM_within_75 ?_
        refine lv_iload_n hx hb dM_within_78 rfl (lv_at hl 2 rfl) ?_
        refine va_lald hx hb hK hP 3 0 rfl rfl hsi dM_within_79 ?_
        refine W.eq (g2 := F0 m 80 ls [.long (uw (T si.toNatClampNeg)), .long (uw (T ri.toNatClampNeg))]) rfl ?_
        refine W.lcmp hx hb dM_within_80 ?_
        refine lv_if_gt (tgt := 102) hx hb dM_within_81 (by decide) (fun h_7 => ?_) (fun h_7 => ?_)
        · rw [lg_cmp_gt] at h_7
          refine lv_iconst (v := 0) hx hb dM_within_102 (by decide) ?_
          have e9 : (ga_with B T P G ri.toNatClampNeg si.toNatClampNeg) = false := by unfold ga_with; rw [uw_lt] at h_6; have h_6 := Nat.not_lt.mp h_6; rw [uw_lt] at h_7; have h_7 := Nat.not_le.mpr h_7; simp [h_1, h_2, h_4, h_5, h_6, h_7]
          refine W.eq (g2 := F0 m 103 ls [.int (bi (ga_with B T P G ri.toNatClampNeg si.toNatClampNeg))]) (by rw [e9]; rfl) ?_
          exact W.zret (v := bi (ga_with B T P G ri.toNatClampNeg si.toNatClampNeg)) hx hb hr (bi_nar _) (fun t9 ht hW => ⟨rfl, by rw [ht]; exact hP, hD, hS.F ht⟩) hS.2.2 dM_within_103
        · rw [lg_cmp_gt] at h_7
          refine lv_aload_n hx hb dM_within_84 rfl (lv_at hl 0 rfl) ?_
          refine lv_iload_n hx hb dM_within_85 rfl (lv_at hl 2 rfl) ?_
          refine lv_aload_n hx hb dM_within_86 rfl (lv_at hl 0 rfl) ?_
          refine va_get (D := D) (ci := 1) (v := .ref (q 4)) (C := RM) (T := TM) (N := 7) hx hb hts inM hown hK hP 0 rfl rfl 4 (by decide) (hts _ w_259) (fun _ h9 => h9) rfl dM_within_87 ?_
          refine lv_iload_n hx hb dM_within_90 rfl (lv_at hl 1 rfl) ?_
          refine va_iald hx hb hK hP 4 1 rfl rfl hri dM_within_91 ?_
          refine kr_V 2 (b := q 0) (As := [.int (si), .int (P ri.toNatClampNeg)]) (rest := []) (r := .int (bi (ga_pm (P ri.toNatClampNeg) (P si.toNatClampNeg)))) hx hb hml hown hts hl.1 (mM_may l D cJ cI cZ q (0) A B T P Y G (si) (P ri.toNatClampNeg) hsi) rB_stb ⟨hP, hK⟩ (gw_V w_330 w_332 w_11 w_15 w_333) (by decide) ⟨rfl, rfl⟩ ⟨Nat.le_of_ble_eq_true rfl, Nat.le_of_ble_eq_true rfl⟩ (va_recv hK hP (ci := 1) rfl (q0 := 0) rfl) rfl rfl (Nat.le_of_ble_eq_true rfl) dM_within_92 ⟨Nat.zero_le _, Nat.zero_le _⟩ ?_
          refine lv_if_eq (tgt := 102) hx hb dM_within_95 (by decide) (fun h_8 => ?_) (fun h_8 => ?_)
          · have h_8 := bi_0 h_8
            refine lv_iconst (v := 0) hx hb dM_within_102 (by decide) ?_
            have e9 : (ga_with B T P G ri.toNatClampNeg si.toNatClampNeg) = false := by unfold ga_with; rw [uw_lt] at h_6; have h_6 := Nat.not_lt.mp h_6; rw [uw_lt] at h_7; have h_7 := Nat.not_lt.mp h_7; simp [h_1, h_2, h_4, h_5, h_6, h_7, h_8]
            refine W.eq (g2 := F0 m 103 ls [.int (bi (ga_with B T P G ri.toNatClampNeg si.toNatClampNeg))]) (by rw [e9]; rfl) ?_
            exact W.zret (v := bi (ga_with B T P G ri.toNatClampNeg si.toNatClampNeg)) hx hb hr (bi_nar _) (fun t9 ht hW => ⟨rfl, by rw [ht]; exact hP, hD, hS.F ht⟩) hS.2.2 dM_within_103
          · have h_8 := bi_n h_8
            refine lv_iconst (v := 1) hx hb dM_within_98 (by decide) ?_
            refine lv_goto (tgt := 103) hx hb dM_within_99 (by decide) ?_
            have e9 : (ga_with B T P G ri.toNatClampNeg si.toNatClampNeg) = true := by unfold ga_with; rw [uw_lt] at h_6; have h_6 := Nat.not_lt.mp h_6; rw [uw_lt] at h_7; have h_7 := Nat.not_lt.mp h_7; simp [h_1, h_2, h_4, h_5, h_6, h_7, h_8]
            refine W.eq (g2 := F0 m 103 ls [.int (bi (ga_with B T P G ri.toNatClampNeg si.toNatClampNeg))]) (by rw [e9]; rfl) ?_
            exact W.zret (v := bi (ga_with B T P G ri.toNatClampNeg si.toNatClampNeg)) hx hb hr (bi_nar _) (fun t9 ht hW => ⟨rfl, by rw [ht]; exact hP, hD, hS.F ht⟩) hS.2.2 dM_within_103

set_option maxRecDepth 100000 in
set_option maxHeartbeats 4000000 in
theorem mM_within_n (l : Launch) (D : va_G) (cJ cI cZ : ClassId) (q : Nat → Nat) (e0 : Int32) (A B T P Y : Nat → Int32) (G : Nat → Bool) (sz : Nat) (ri si : Int32) (hbad : ¬ (vp_in ri 16 ∧ vp_in si 16)) : Met l yM_within (Cond.code yM_within cM_within 3 (some .boolean) :: gw) (rmk 2 0 0) (va_Pc [.ref (q 0), .int (ri), .int (si)] (kB D vwCl (mW cJ cI cZ q (e0) A B T P Y G) (tsM cJ cI cZ) sz)) (kQ (some (.int (0))) D vwCl (mW cJ cI cZ q (1) A B T P Y G) (va_A (mW cJ cI cZ q (e0) A B T P Y G) sz)) 0 0 (va_A (mW cJ cI cZ q (e0) A B T P Y G) sz) := by
  refine Met.ofW (cc := cM_within) (maxL := 3) (ret := (some .boolean)) (by decide) rfl ?_
  intro p e s m args below meth c s₁ B9 hml hv
  obtain ⟨rfl, hsz, hP, hK, hD0⟩ := hv
  have hx := B9.exec
  have hb := B9.bytes
  have hr := B9.returns
  have hts := fun (w : Cond) (h : w ∈ gw) => atoms_spec (ws := _ :: gw) B9.pre w (List.mem_cons_of_mem _ h)
  have hown : s.vm.findClass RM = some m.cls := findClass_of_methodNamed B9.named
  have hlocks := B9.notSynchronized
  have hl := lv_entry ([.ref (q 0), .int (ri), .int (si)]) (n := 3) (Nat.le_of_ble_eq_true rfl)
  rw [lg_entry_eq]
  generalize (lg_sl ([.ref (q 0), .int (ri), .int (si)]) ++ List.replicate (3 - (lg_sl ([.ref (q 0), .int (ri), .int (si)])).length) Slot.unset).toArray = ls at hl ⊢
  have hl : lv_has ls 3 [(0, .ref (q 0)), (1, .int (ri)), (2, .int (si))] := hl
  subst hsz
  have hD := hD0.self (sz := s.heap.size)
  generalize hAe : va_A (mW cJ cI cZ q (e0) A B T P Y G) s.heap.size = A9 at hD ⊢
  have hA : ∀ z : Nat, s.heap.size ≤ z → A9 z := fun z h => by rw [← hAe]; exact Or.inr h
  have hS : va_S A9 s.heap s.heap [] := va_S.rf
  have hP : va_P D vwCl (mW cJ cI cZ q (e0) A B T P Y G) s.heap := hP
  refine lv_aload_n hx hb dM_within_0 rfl (lv_at hl 0 rfl) ?_
  refine lv_iconst (v := 0) hx hb dM_within_1 (by decide) ?_
  refine va_put (D := D) (ci := 1) (v := .int (0)) (ty := .int) (C := RM) (T := TM) (N := 7) hx hb hts inM tyM tyM_ok nmM hown hK hP hD hS 0 rfl rfl 0 (by decide) (hts _ w_255) (fun _ h9 => h9) rfl (by decide +kernel) rfl rfl (Nat.le_of_ble_eq_true rfl) dM_within_2 (fun H locs hP hD hS => ?_)
  have hP : va_P D vwCl (mW cJ cI cZ q (0) A B T P Y G) H := hP
  have hD : va_D A9 (mW cJ cI cZ q (0) A B T P Y G) := hD
  refine lv_aload_n hx hb dM_within_5 rfl (lv_at hl 0 rfl) ?_
  refine lv_iload_n hx hb dM_within_6 rfl (lv_at hl 1 rfl) ?_
  refine kr_S 1 (As := [.int (ri)]) (rest := [.ref (q 0)]) (r := .int (bi (gi ri))) hx hb hml hown hts hl.1 (mM_is l (ri)) tt_stb trivial (gw_S w_298 w_299 w_15 w_300) (by decide) ⟨rfl, rfl⟩ ⟨Nat.le_of_ble_eq_true rfl, Nat.le_of_ble_eq_true rfl⟩ rfl rfl (Nat.le_of_ble_eq_true rfl) dM_within_7 ⟨Nat.zero_le _, Nat.zero_le _⟩ ?_
  refine lv_if_eq (tgt := 20) hx hb dM_within_10 (by decide) (fun h_1 => ?_) (fun h_1 => ?_)
  · have h_1 := bi_0 h_1
    refine lv_iconst (v := 1) hx hb dM_within_20 (by decide) ?_
    refine lv_goto (tgt := 25) hx hb dM_within_21 (by decide) ?_
    refine lv_iconst (v := 1) hx hb dM_within_25 (by decide) ?_
    refine kw_V 2 [0, 1, 2, 3, 4, 5, 6] [] (b := q 0) (As := [.int (1), .int (1)]) (rest := []) (wc := mW cJ cI cZ q (0) A B T P Y G) (wr := []) (w1 := mW cJ cI cZ q (1) A B T P Y G) hx hb hml hown hts hl.1 hP hD hS hA hK (mM_fails_t l D cJ cI cZ q 0 A B T P Y G _ 1 (by decide)) (gw_V w_294 w_296 w_8 w_15 w_297) (by decide) ⟨rfl, rfl⟩ ⟨Nat.le_of_ble_eq_true rfl, Nat.le_of_ble_eq_true rfl⟩ (va_recv hK hP (ci := 1) rfl (q0 := 0) rfl) rfl rfl (Nat.le_of_ble_eq_true rfl) dM_within_26 ⟨Nat.zero_le _, Nat.zero_le _⟩ rfl rfl ⟨by decide, by decide⟩ (by decide) (fun H locs hP hD hS => ?_)
    have hP : va_P D vwCl (mW cJ cI cZ q (1) A B T P Y G) H := hP
    have hD : va_D A9 (mW cJ cI cZ q (1) A B T P Y G) := hD
    refine W.eq (g2 := F0 m 29 ls [.int (1)]) rfl ?_
    refine lv_if_eq (tgt := 34) hx hb dM_within_29 (by decide) (fun h_2 => absurd h_2 (by decide)) (fun h_2 => ?_)
    refine lv_iconst (v := 0) hx hb dM_within_32 (by decide) ?_
    exact W.zret (v := 0) hx hb hr rfl (fun t9 ht hW => ⟨rfl, by rw [ht]; exact hP, hD, hS.F ht⟩) hS.2.2 dM_within_33
  · have h_1 := bi_n h_1
    refine lv_iload_n hx hb dM_within_13 rfl (lv_at hl 2 rfl) ?_
    refine kr_S 1 (As := [.int (si)]) (rest := [.ref (q 0)]) (r := .int (bi (gi si))) hx hb hml hown hts hl.1 (mM_is l (si)) tt_stb trivial (gw_S w_298 w_299 w_15 w_300) (by decide) ⟨rfl, rfl⟩ ⟨Nat.le_of_ble_eq_true rfl, Nat.le_of_ble_eq_true rfl⟩ rfl rfl (Nat.le_of_ble_eq_true rfl) dM_within_14 ⟨Nat.zero_le _, Nat.zero_le _⟩ ?_
    refine lv_if_ne (tgt := 24) hx hb dM_within_17 (by decide) (fun h_3 => ?_) (fun h_3 => ?_)
    · have h_3 := bi_n h_3
      exact absurd ⟨gi_in.mp h_1, gi_in.mp h_3⟩ hbad
    · have h_3 := bi_0 h_3
      refine lv_iconst (v := 1) hx hb dM_within_20 (by decide) ?_
      refine lv_goto (tgt := 25) hx hb dM_within_21 (by decide) ?_
      refine lv_iconst (v := 1) hx hb dM_within_25 (by decide) ?_
      refine kw_V 2 [0, 1, 2, 3, 4, 5, 6] [] (b := q 0) (As := [.int (1), .int (1)]) (rest := []) (wc := mW cJ cI cZ q (0) A B T P Y G) (wr := []) (w1 := mW cJ cI cZ q (1) A B T P Y G) hx hb hml hown hts hl.1 hP hD hS hA hK (mM_fails_t l D cJ cI cZ q 0 A B T P Y G _ 1 (by decide)) (gw_V w_294 w_296 w_8 w_15 w_297) (by decide) ⟨rfl, rfl⟩ ⟨Nat.le_of_ble_eq_true rfl, Nat.le_of_ble_eq_true rfl⟩ (va_recv hK hP (ci := 1) rfl (q0 := 0) rfl) rfl rfl (Nat.le_of_ble_eq_true rfl) dM_within_26 ⟨Nat.zero_le _, Nat.zero_le _⟩ rfl rfl ⟨by decide, by decide⟩ (by decide) (fun H locs hP hD hS => ?_)
      have hP : va_P D vwCl (mW cJ cI cZ q (1) A B T P Y G) H := hP
      have hD : va_D A9 (mW cJ cI cZ q (1) A B T P Y G) := hD
      refine W.eq (g2 := F0 m 29 ls [.int (1)]) rfl ?_
      refine lv_if_eq (tgt := 34) hx hb dM_within_29 (by decide) (fun h_4 => absurd h_4 (by decide)) (fun h_4 => ?_)
      refine lv_iconst (v := 0) hx hb dM_within_32 (by decide) ?_
      exact W.zret (v := 0) hx hb hr rfl (fun t9 ht hW => ⟨rfl, by rw [ht]; exact hP, hD, hS.F ht⟩) hS.2.2 dM_within_33

set_option maxRecDepth 100000 in
set_option maxHeartbeats 4000000 in
theorem mM_part_y (l : Launch) (D : va_G) (cJ cI cZ : ClassId) (q : Nat → Nat) (e0 : Int32) (A B T P Y : Nat → Int32) (G : Nat → Bool) (sz : Nat) (ri v : Int32) (hri : vp_in ri 16) (hv0 : ¬ v < 0) (hv : v ≤ 5) : Met l yM_part (Cond.code yM_part cM_part 3 (some .int) :: gw) (rmk 2 0 0) (va_Pc [.ref (q 0), .int (ri), .int (v)] (kB D vwCl (mW cJ cI cZ q (e0) A B T P Y G) (tsM cJ cI cZ) sz)) (kQ (some (.int (ga_part A B T P Y G ri.toNatClampNeg v))) D vwCl (mW cJ cI cZ q (0) A B T P Y G) (va_A (mW cJ cI cZ q (e0) A B T P Y G) sz)) 0 0 (va_A (mW cJ cI cZ q (e0) A B T P Y G) sz) := by
  refine Met.ofW (cc := cM_part) (maxL := 3) (ret := (some .int)) (by decide) rfl ?_
  intro p e s m args below meth c s₁ B9 hml hv
  obtain ⟨rfl, hsz, hP, hK, hD0⟩ := hv
  have hx := B9.exec
  have hb := B9.bytes
  have hr := B9.returns
  have hts := fun (w : Cond) (h : w ∈ gw) => atoms_spec (ws := _ :: gw) B9.pre w (List.mem_cons_of_mem _ h)
  have hown : s.vm.findClass RM = some m.cls := findClass_of_methodNamed B9.named
  have hlocks := B9.notSynchronized
  have hl := lv_entry ([.ref (q 0), .int (ri), .int (v)]) (n := 3) (Nat.le_of_ble_eq_true rfl)
  rw [lg_entry_eq]
  generalize (lg_sl ([.ref (q 0), .int (ri), .int (v)]) ++ List.replicate (3 - (lg_sl ([.ref (q 0), .int (ri), .int (v)])).length) Slot.unset).toArray = ls at hl ⊢
  have hl : lv_has ls 3 [(0, .ref (q 0)), (1, .int (ri)), (2, .int (v))] := hl
  subst hsz
  have hD := hD0.self (sz := s.heap.size)
  generalize hAe : va_A (mW cJ cI cZ q (e0) A B T P Y G) s.heap.size = A9 at hD ⊢
  have hA : ∀ z : Nat, s.heap.size ≤ z → A9 z := fun z h => by rw [← hAe]; exact Or.inr h
  have hS : va_S A9 s.heap s.heap [] := va_S.rf
  have hP : va_P D vwCl (mW cJ cI cZ q (e0) A B T P Y G) s.heap := hP
  refine lv_aload_n hx hb dM_part_0 rfl (lv_at hl 0 rfl) ?_
  refine lv_iconst (v := 0) hx hb dM_part_1 (by decide) ?_
  refine va_put (D := D) (ci := 1) (v := .int (0)) (ty := .int) (C := RM) (T := TM) (N := 7) hx hb hts inM tyM tyM_ok nmM hown hK hP hD hS 0 rfl rfl 0 (by decide) (hts _ w_255) (fun _ h9 => h9) rfl (by decide +kernel) rfl rfl (Nat.le_of_ble_eq_true rfl) dM_part_2 (fun H locs hP hD hS => ?_)
  have hP : va_P D vwCl (mW cJ cI cZ q (0) A B T P Y G) H := hP
  have hD : va_D A9 (mW cJ cI cZ q (0) A B T P Y G) := hD
  refine lv_aload_n hx hb dM_part_5 rfl (lv_at hl 0 rfl) ?_
  refine lv_iload_n hx hb dM_part_6 rfl (lv_at hl 2 rfl) ?_
  refine lv_i2l (v := (v).toInt64) hx hb dM_part_7 rfl ?_
  refine lv_lconst (v := 0) hx hb dM_part_8 (by decide) ?_
  refine lv_ldc2 (v := 5) hx hb hown (hts _ w_356) dM_part_9 ?_
  refine kr_S 3 (As := [.long ((v).toInt64), .long (0), .long (5)]) (rest := [.ref (q 0)]) (r := .int (bi (decide ((0) ≤ ((v).toInt64)) && decide (((v).toInt64) ≤ (5))))) hx hb hml hown hts hl.1 (mM_in l ((v).toInt64) (0) (5)) tt_stb trivial (gw_S w_291 w_292 w_15 w_293) (by decide) ⟨rfl, rfl⟩ ⟨Nat.le_of_ble_eq_true rfl, Nat.le_of_ble_eq_true rfl⟩ rfl rfl (Nat.le_of_ble_eq_true rfl) dM_part_12 ⟨Nat.zero_le _, Nat.zero_le _⟩ ?_
  refine lv_if_ne (tgt := 22) hx hb dM_part_15 (by decide) (fun h_1 => ?_) (fun h_1 => absurd h_1 (gp_nz (c := 5) (by decide) hv0 hv))
  have h_1 := bi_n h_1
  refine lv_iconst (v := 0) hx hb dM_part_22 (by decide) ?_
  refine lv_iconst (v := 1) hx hb dM_part_23 (by decide) ?_
  refine kw_V 2 [0, 1, 2, 3, 4, 5, 6] [] (b := q 0) (As := [.int (0), .int (1)]) (rest := []) (wc := mW cJ cI cZ q (0) A B T P Y G) (wr := []) (w1 := mW cJ cI cZ q (0) A B T P Y G) hx hb hml hown hts hl.1 hP hD hS hA hK (mM_fails_f l D cJ cI cZ q 0 A B T P Y G _ 1) (gw_V w_294 w_296 w_8 w_15 w_297) (by decide) ⟨rfl, rfl⟩ ⟨Nat.le_of_ble_eq_true rfl, Nat.le_of_ble_eq_true rfl⟩ (va_recv hK hP (ci := 1) rfl (q0 := 0) rfl) rfl rfl (Nat.le_of_ble_eq_true rfl) dM_part_24 ⟨Nat.zero_le _, Nat.zero_le _⟩ rfl rfl ⟨by decide, by decide⟩ (by decide) (fun H locs hP hD hS => ?_)
  have hP : va_P D vwCl (mW cJ cI cZ q (0) A B T P Y G) H := hP
  have hD : va_D A9 (mW cJ cI cZ q (0) A B T P Y G) := hD
  refine W.eq (g2 := F0 m 27 ls [.int (0)]) rfl ?_
  refine lv_if_ne (tgt := 50) hx hb dM_part_27 (by decide) (fun h_2 => absurd (by decide) h_2) (fun h_2 => ?_)
  refine lv_aload_n hx hb dM_part_30 rfl (lv_at hl 0 rfl) ?_
  refine lv_iload_n hx hb dM_part_31 rfl (lv_at hl 1 rfl) ?_
  refine kr_S 1 (As := [.int (ri)]) (rest := [.ref (q 0)]) (r := .int (bi (gi ri))) hx hb hml hown hts hl.1 (mM_is l (ri)) tt_stb trivial (gw_S w_298 w_299 w_15 w_300) (by decide) ⟨rfl, rfl⟩ ⟨Nat.le_of_ble_eq_true rfl, Nat.le_of_ble_eq_true rfl⟩ rfl rfl (Nat.le_of_ble_eq_true rfl) dM_part_32 ⟨Nat.zero_le _, Nat.zero_le _⟩ ?_
  refine lv_if_ne (tgt := 42) hx hb dM_part_35 (by decide) (fun h_3 => ?_) (fun h_3 => absurd h_3 (gi_nz hri))
  have h_3 := bi_n h_3
  refine lv_iconst (v := 0) hx hb dM_part_42 (by decide) ?_
  refine lv_iconst (v := 2) hx hb dM_part_43 (by decide) ?_
  refine kw_V 2 [0, 1, 2, 3, 4, 5, 6] [] (b := q 0) (As := [.int (0), .int (2)]) (rest := []) (wc := mW cJ cI cZ q (0) A B T P Y G) (wr := []) (w1 := mW cJ cI cZ q (0) A B T P Y G) hx hb hml hown hts hl.1 hP hD hS hA hK (mM_fails_f l D cJ cI cZ q 0 A B T P Y G _ 2) (gw_V w_294 w_296 w_8 w_15 w_297) (by decide) ⟨rfl, rfl⟩ ⟨Nat.le_of_ble_eq_true rfl, Nat.le_of_ble_eq_true rfl⟩ (va_recv hK hP (ci := 1) rfl (q0 := 0) rfl) rfl rfl (Nat.le_of_ble_eq_true rfl) dM_part_44 ⟨Nat.zero_le _, Nat.zero_le _⟩ rfl rfl ⟨by decide, by decide⟩ (by decide) (fun H locs hP hD hS => ?_)
  have hP : va_P D vwCl (mW cJ cI cZ q (0) A B T P Y G) H := hP
  have hD : va_D A9 (mW cJ cI cZ q (0) A B T P Y G) := hD
  refine W.eq (g2 := F0 m 47 ls [.int (0)]) rfl ?_
  refine lv_if_eq (tgt := 52) hx hb dM_part_47 (by decide) (fun h_4 => ?_) (fun h_4 => absurd (by decide) h_4)
  refine lv_iload_n hx hb dM_part_52 rfl (lv_at hl 2 rfl) ?_
  refine lv_if_ne (tgt := 66) hx hb dM_part_53 (by decide) (fun h_5 => ?_) (fun h_5 => ?_)
  · 
    refine lv_iload_n hx hb dM_part_66 rfl (lv_at hl 2 rfl) ?_
    refine lv_iconst (v := 1) hx hb dM_part_67 (by decide) ?_
    refine lv_icmp_ne (tgt := 81) hx hb dM_part_68 (by decide) (fun h_6 => ?_) (fun h_6 => ?_)
    · 
      refine lv_iload_n hx hb dM_part_81 rfl (lv_at hl 2 rfl) ?_
      refine lv_iconst (v := 2) hx hb dM_part_82 (by decide) ?_
      refine lv_icmp_ne (tgt := 96) hx hb dM_part_83 (by decide) (fun h_7 => ?_) (fun h_7 => ?_)
      · 
        refine lv_iload_n hx hb dM_part_96 rfl (lv_at hl 2 rfl) ?_
        refine lv_iconst (v := 3) hx hb dM_part_97 (by decide) ?_
        refine lv_icmp_ne (tgt := 110) hx hb dM_part_98 (by decide) (fun h_8 => ?_) (fun h_8 => ?_)
        · 
          refine lv_iload_n hx hb dM_part_110 rfl (lv_at hl 2 rfl) ?_
          refine lv_iconst (v := 4) hx hb dM_part_111 (by decide) ?_
          refine lv_icmp_ne (tgt := 124) hx hb dM_part_112 (by decide) (fun h_9 => ?_) (fun h_9 => ?_)
          · 
            refine lv_aload_n hx hb dM_part_124 rfl (lv_at hl 0 rfl) ?_
            refine va_get (D := D) (ci := 1) (v := .ref (q 6)) (C := RM) (T := TM) (N := 7) hx hb hts inM hown hK hP 0 rfl rfl 6 (by decide) (hts _ w_261) (fun _ h9 => h9) rfl dM_part_125 ?_
            refine lv_iload_n hx hb dM_part_128 rfl (lv_at hl 1 rfl) ?_
            refine va_zald hx hb hK hP 6 2 rfl rfl hri dM_part_129 ?_
            refine W.eq (g2 := F0 m 130 ls [.int (bi (G ri.toNatClampNeg))]) rfl ?_
            refine lv_if_eq (tgt := 137) hx hb dM_part_130 (by decide) (fun h_10 => ?_) (fun h_10 => ?_)
            · have h_10 := bi_0 h_10
              refine lv_iconst (v := 0) hx hb dM_part_137 (by decide) ?_
              have e9 : (ga_part A B T P Y G ri.toNatClampNeg v) = 0 := by unfold ga_part; rw [if_neg h_5, if_neg h_6, if_neg h_7, if_neg h_8, if_neg h_9]; rw [show G ri.toNatClampNeg = false from h_10]; rfl
              refine W.eq (g2 := F0 m 138 ls [.int (ga_part A B T P Y G ri.toNatClampNeg v)]) (by rw [e9] <;> rfl) ?_
              exact W.iret (v := ga_part A B T P Y G ri.toNatClampNeg v) hx hb hr (fun t9 ht hW => ⟨rfl, by rw [ht]; exact hP, hD, hS.F ht⟩) hS.2.2 dM_part_138
            · have h_10 := bi_n h_10
              refine lv_iconst (v := 1) hx hb dM_part_133 (by decide) ?_
              refine lv_goto (tgt := 138) hx hb dM_part_134 (by decide) ?_
              have e9 : (ga_part A B T P Y G ri.toNatClampNeg v) = 1 := by unfold ga_part; rw [if_neg h_5, if_neg h_6, if_neg h_7, if_neg h_8, if_neg h_9]; rw [show G ri.toNatClampNeg = true from h_10]; rfl
              refine W.eq (g2 := F0 m 138 ls [.int (ga_part A B T P Y G ri.toNatClampNeg v)]) (by rw [e9] <;> rfl) ?_
              exact W.iret (v := ga_part A B T P Y G ri.toNatClampNeg v) hx hb hr (fun t9 ht hW => ⟨rfl, by rw [ht]; exact hP, hD, hS.F ht⟩) hS.2.2 dM_part_138
          · 
            refine lv_aload_n hx hb dM_part_115 rfl (lv_at hl 0 rfl) ?_
            refine va_get (D := D) (ci := 1) (v := .ref (q 5)) (C := RM) (T := TM) (N := 7) hx hb hts inM hown hK hP 0 rfl rfl 5 (by decide) (hts _ w_260) (fun _ h9 => h9) rfl dM_part_116 ?_
            refine lv_iload_n hx hb dM_part_119 rfl (lv_at hl 1 rfl) ?_
            refine va_iald hx hb hK hP 5 1 rfl rfl hri dM_part_120 ?_
            refine lv_goto (tgt := 138) hx hb dM_part_121 (by decide) ?_
            have e9 : (ga_part A B T P Y G ri.toNatClampNeg v) = Y ri.toNatClampNeg := by unfold ga_part; rw [if_neg h_5, if_neg h_6, if_neg h_7, if_neg h_8, if_pos h_9]
            refine W.eq (g2 := F0 m 138 ls [.int (ga_part A B T P Y G ri.toNatClampNeg v)]) (by rw [e9] <;> rfl) ?_
            exact W.iret (v := ga_part A B T P Y G ri.toNatClampNeg v) hx hb hr (fun t9 ht hW => ⟨rfl, by rw [ht]; exact hP, hD, hS.F ht⟩) hS.2.2 dM_part_138
        · 
          refine lv_aload_n hx hb dM_part_101 rfl (lv_at hl 0 rfl) ?_
          refine va_get (D := D) (ci := 1) (v := .ref (q 4)) (C := RM) (T := TM) (N := 7) hx hb hts inM hown hK hP 0 rfl rfl 4 (by decide) (hts _ w_259) (fun _ h9 => h9) rfl dM_part_102 ?_
          refine lv_iload_n hx hb dM_part_105 rfl (lv_at hl 1 rfl) ?_
          refine va_iald hx hb hK hP 4 1 rfl rfl hri dM_part_106 ?_
          refine lv_goto (tgt := 138) hx hb dM_part_107 (by decide) ?_
          have e9 : (ga_part A B T P Y G ri.toNatClampNeg v) = P ri.toNatClampNeg := by unfold ga_part; rw [if_neg h_5, if_neg h_6, if_neg h_7, if_pos h_8]
          refine W.eq (g2 := F0 m 138 ls [.int (ga_part A B T P Y G ri.toNatClampNeg v)]) (by rw [e9] <;> rfl) ?_
          exact W.iret (v := ga_part A B T P Y G ri.toNatClampNeg v) hx hb hr (fun t9 ht hW => ⟨rfl, by rw [ht]; exact hP, hD, hS.F ht⟩) hS.2.2 dM_part_138
      · 
        refine lv_aload_n hx hb dM_part_86 rfl (lv_at hl 0 rfl) ?_
        refine va_get (D := D) (ci := 1) (v := .ref (q 3)) (C := RM) (T := TM) (N := 7) hx hb hts inM hown hK hP 0 rfl rfl 3 (by decide) (hts _ w_258) (fun _ h9 => h9) rfl dM_part_87 ?_
        refine lv_iload_n hx hb dM_part_90 rfl (lv_at hl 1 rfl) ?_
        refine va_lald hx hb hK hP 3 0 rfl rfl hri dM_part_91 ?_
        refine W.eq (g2 := F0 m 92 ls [.long (uw (T ri.toNatClampNeg))]) rfl ?_
        refine lv_l2i (v := T ri.toNatClampNeg) hx hb dM_part_92 (uw_i _) ?_
        refine lv_goto (tgt := 138) hx hb dM_part_93 (by decide) ?_
        have e9 : (ga_part A B T P Y G ri.toNatClampNeg v) = T ri.toNatClampNeg := by unfold ga_part; rw [if_neg h_5, if_neg h_6, if_pos h_7]
        refine W.eq (g2 := F0 m 138 ls [.int (ga_part A B T P Y G ri.toNatClampNeg v)]) (by rw [e9] <;> rfl) ?_
        exact W.iret (v := ga_part A B T P Y G ri.toNatClampNeg v) hx hb hr (fun t9 ht hW => ⟨rfl, by rw [ht]; exact hP, hD, hS.F ht⟩) hS.2.2 dM_part_138
    · 
      refine lv_aload_n hx hb dM_part_71 rfl (lv_at hl 0 rfl) ?_
      refine va_get (D := D) (ci := 1) (v := .ref (q 2)) (C := RM) (T := TM) (N := 7) hx hb hts inM hown hK hP 0 rfl rfl 2 (by decide) (hts _ w_257) (fun _ h9 => h9) rfl dM_part_72 ?_
      refine lv_iload_n hx hb dM_part_75 rfl (lv_at hl 1 rfl) ?_
      refine va_lald hx hb hK hP 2 0 rfl rfl hri dM_part_76 ?_
      refine W.eq (g2 := F0 m 77 ls [.long (uw (B ri.toNatClampNeg))]) rfl ?_
      refine lv_l2i (v := B ri.toNatClampNeg) hx hb dM_part_77 (uw_i _) ?_
      refine lv_goto (tgt := 138) hx hb dM_part_78 (by decide) ?_
      have e9 : (ga_part A B T P Y G ri.toNatClampNeg v) = B ri.toNatClampNeg := by unfold ga_part; rw [if_neg h_5, if_pos h_6]
      refine W.eq (g2 := F0 m 138 ls [.int (ga_part A B T P Y G ri.toNatClampNeg v)]) (by rw [e9] <;> rfl) ?_
      exact W.iret (v := ga_part A B T P Y G ri.toNatClampNeg v) hx hb hr (fun t9 ht hW => ⟨rfl, by rw [ht]; exact hP, hD, hS.F ht⟩) hS.2.2 dM_part_138
  · 
    refine lv_aload_n hx hb dM_part_56 rfl (lv_at hl 0 rfl) ?_
    refine va_get (D := D) (ci := 1) (v := .ref (q 1)) (C := RM) (T := TM) (N := 7) hx hb hts inM hown hK hP 0 rfl rfl 1 (by decide) (hts _ w_256) (fun _ h9 => h9) rfl dM_part_57 ?_
    refine lv_iload_n hx hb dM_part_60 rfl (lv_at hl 1 rfl) ?_
    refine va_lald hx hb hK hP 1 0 rfl rfl hri dM_part_61 ?_
    refine W.eq (g2 := F0 m 62 ls [.long (uw (A ri.toNatClampNeg))]) rfl ?_
    refine lv_l2i (v := A ri.toNatClampNeg) hx hb dM_part_62 (uw_i _) ?_
    refine lv_goto (tgt := 138) hx hb dM_part_63 (by decide) ?_
    have e9 : (ga_part A B T P Y G ri.toNatClampNeg v) = A ri.toNatClampNeg := by unfold ga_part; rw [if_pos h_5]
    refine W.eq (g2 := F0 m 138 ls [.int (ga_part A B T P Y G ri.toNatClampNeg v)]) (by rw [e9] <;> rfl) ?_
    exact W.iret (v := ga_part A B T P Y G ri.toNatClampNeg v) hx hb hr (fun t9 ht hW => ⟨rfl, by rw [ht]; exact hP, hD, hS.F ht⟩) hS.2.2 dM_part_138

set_option maxRecDepth 100000 in
set_option maxHeartbeats 4000000 in
theorem mM_part_a (l : Launch) (D : va_G) (cJ cI cZ : ClassId) (q : Nat → Nat) (e0 : Int32) (A B T P Y : Nat → Int32) (G : Nat → Bool) (sz : Nat) (ri v : Int32) (hbad : ¬ (¬ v < 0 ∧ v ≤ 5)) : Met l yM_part (Cond.code yM_part cM_part 3 (some .int) :: gw) (rmk 2 0 0) (va_Pc [.ref (q 0), .int (ri), .int (v)] (kB D vwCl (mW cJ cI cZ q (e0) A B T P Y G) (tsM cJ cI cZ) sz)) (kQ (some (.int (0))) D vwCl (mW cJ cI cZ q (1) A B T P Y G) (va_A (mW cJ cI cZ q (e0) A B T P Y G) sz)) 0 0 (va_A (mW cJ cI cZ q (e0) A B T P Y G) sz) := by
  refine Met.ofW (cc := cM_part) (maxL := 3) (ret := (some .int)) (by decide) rfl ?_
  intro p e s m args below meth c s₁ B9 hml hv
  obtain ⟨rfl, hsz, hP, hK, hD0⟩ := hv
  have hx := B9.exec
  have hb := B9.bytes
  have hr := B9.returns
  have hts := fun (w : Cond) (h : w ∈ gw) => atoms_spec (ws := _ :: gw) B9.pre w (List.mem_cons_of_mem _ h)
  have hown : s.vm.findClass RM = some m.cls := findClass_of_methodNamed B9.named
  have hlocks := B9.notSynchronized
  have hl := lv_entry ([.ref (q 0), .int (ri), .int (v)]) (n := 3) (Nat.le_of_ble_eq_true rfl)
  rw [lg_entry_eq]
  generalize (lg_sl ([.ref (q 0), .int (ri), .int (v)]) ++ List.replicate (3 - (lg_sl ([.ref (q 0), .int (ri), .int (v)])).length) Slot.unset).toArray = ls at hl ⊢
  have hl : lv_has ls 3 [(0, .ref (q 0)), (1, .int (ri)), (2, .int (v))] := hl
  subst hsz
  have hD := hD0.self (sz := s.heap.size)
  generalize hAe : va_A (mW cJ cI cZ q (e0) A B T P Y G) s.heap.size = A9 at hD ⊢
  have hA : ∀ z : Nat, s.heap.size ≤ z → A9 z := fun z h => by rw [← hAe]; exact Or.inr h
  have hS : va_S A9 s.heap s.heap [] := va_S.rf
  have hP : va_P D vwCl (mW cJ cI cZ q (e0) A B T P Y G) s.heap := hP
  refine lv_aload_n hx hb dM_part_0 rfl (lv_at hl 0 rfl) ?_
  refine lv_iconst (v := 0) hx hb dM_part_1 (by decide) ?_
  refine va_put (D := D) (ci := 1) (v := .int (0)) (ty := .int) (C := RM) (T := TM) (N := 7) hx hb hts inM tyM tyM_ok nmM hown hK hP hD hS 0 rfl rfl 0 (by decide) (hts _ w_255) (fun _ h9 => h9) rfl (by decide +kernel) rfl rfl (Nat.le_of_ble_eq_true rfl) dM_part_2 (fun H locs hP hD hS => ?_)
  have hP : va_P D vwCl (mW cJ cI cZ q (0) A B T P Y G) H := hP
  have hD : va_D A9 (mW cJ cI cZ q (0) A B T P Y G) := hD
  refine lv_aload_n hx hb dM_part_5 rfl (lv_at hl 0 rfl) ?_
  refine lv_iload_n hx hb dM_part_6 rfl (lv_at hl 2 rfl) ?_
  refine lv_i2l (v := (v).toInt64) hx hb dM_part_7 rfl ?_
  refine lv_lconst (v := 0) hx hb dM_part_8 (by decide) ?_
  refine lv_ldc2 (v := 5) hx hb hown (hts _ w_356) dM_part_9 ?_
  refine kr_S 3 (As := [.long ((v).toInt64), .long (0), .long (5)]) (rest := [.ref (q 0)]) (r := .int (bi (decide ((0) ≤ ((v).toInt64)) && decide (((v).toInt64) ≤ (5))))) hx hb hml hown hts hl.1 (mM_in l ((v).toInt64) (0) (5)) tt_stb trivial (gw_S w_291 w_292 w_15 w_293) (by decide) ⟨rfl, rfl⟩ ⟨Nat.le_of_ble_eq_true rfl, Nat.le_of_ble_eq_true rfl⟩ rfl rfl (Nat.le_of_ble_eq_true rfl) dM_part_12 ⟨Nat.zero_le _, Nat.zero_le _⟩ ?_
  refine lv_if_ne (tgt := 22) hx hb dM_part_15 (by decide) (fun h_1 => absurd (gp_z (c := 5) (by decide) hbad) h_1) (fun h_1 => ?_)
  have h_1 := bi_0 h_1
  refine lv_iconst (v := 1) hx hb dM_part_18 (by decide) ?_
  refine lv_goto (tgt := 23) hx hb dM_part_19 (by decide) ?_
  refine lv_iconst (v := 1) hx hb dM_part_23 (by decide) ?_
  refine kw_V 2 [0, 1, 2, 3, 4, 5, 6] [] (b := q 0) (As := [.int (1), .int (1)]) (rest := []) (wc := mW cJ cI cZ q (0) A B T P Y G) (wr := []) (w1 := mW cJ cI cZ q (1) A B T P Y G) hx hb hml hown hts hl.1 hP hD hS hA hK (mM_fails_t l D cJ cI cZ q 0 A B T P Y G _ 1 (by decide)) (gw_V w_294 w_296 w_8 w_15 w_297) (by decide) ⟨rfl, rfl⟩ ⟨Nat.le_of_ble_eq_true rfl, Nat.le_of_ble_eq_true rfl⟩ (va_recv hK hP (ci := 1) rfl (q0 := 0) rfl) rfl rfl (Nat.le_of_ble_eq_true rfl) dM_part_24 ⟨Nat.zero_le _, Nat.zero_le _⟩ rfl rfl ⟨by decide, by decide⟩ (by decide) (fun H locs hP hD hS => ?_)
  have hP : va_P D vwCl (mW cJ cI cZ q (1) A B T P Y G) H := hP
  have hD : va_D A9 (mW cJ cI cZ q (1) A B T P Y G) := hD
  refine W.eq (g2 := F0 m 27 ls [.int (1)]) rfl ?_
  refine lv_if_ne (tgt := 50) hx hb dM_part_27 (by decide) (fun h_2 => ?_) (fun h_2 => absurd h_2 (by decide))
  refine lv_iconst (v := 0) hx hb dM_part_50 (by decide) ?_
  exact W.iret (v := 0) hx hb hr (fun t9 ht hW => ⟨rfl, by rw [ht]; exact hP, hD, hS.F ht⟩) hS.2.2 dM_part_51

set_option maxRecDepth 100000 in
set_option maxHeartbeats 4000000 in
theorem mM_part_b (l : Launch) (D : va_G) (cJ cI cZ : ClassId) (q : Nat → Nat) (e0 : Int32) (A B T P Y : Nat → Int32) (G : Nat → Bool) (sz : Nat) (ri v : Int32) (hv0 : ¬ v < 0) (hv : v ≤ 5) (hbad : ¬ vp_in ri 16) : Met l yM_part (Cond.code yM_part cM_part 3 (some .int) :: gw) (rmk 2 0 0) (va_Pc [.ref (q 0), .int (ri), .int (v)] (kB D vwCl (mW cJ cI cZ q (e0) A B T P Y G) (tsM cJ cI cZ) sz)) (kQ (some (.int (0))) D vwCl (mW cJ cI cZ q (2) A B T P Y G) (va_A (mW cJ cI cZ q (e0) A B T P Y G) sz)) 0 0 (va_A (mW cJ cI cZ q (e0) A B T P Y G) sz) := by
  refine Met.ofW (cc := cM_part) (maxL := 3) (ret := (some .int)) (by decide) rfl ?_
  intro p e s m args below meth c s₁ B9 hml hv
  obtain ⟨rfl, hsz, hP, hK, hD0⟩ := hv
  have hx := B9.exec
  have hb := B9.bytes
  have hr := B9.returns
  have hts := fun (w : Cond) (h : w ∈ gw) => atoms_spec (ws := _ :: gw) B9.pre w (List.mem_cons_of_mem _ h)
  have hown : s.vm.findClass RM = some m.cls := findClass_of_methodNamed B9.named
  have hlocks := B9.notSynchronized
  have hl := lv_entry ([.ref (q 0), .int (ri), .int (v)]) (n := 3) (Nat.le_of_ble_eq_true rfl)
  rw [lg_entry_eq]
  generalize (lg_sl ([.ref (q 0), .int (ri), .int (v)]) ++ List.replicate (3 - (lg_sl ([.ref (q 0), .int (ri), .int (v)])).length) Slot.unset).toArray = ls at hl ⊢
  have hl : lv_has ls 3 [(0, .ref (q 0)), (1, .int (ri)), (2, .int (v))] := hl
  subst hsz
  have hD := hD0.self (sz := s.heap.size)
  generalize hAe : va_A (mW cJ cI cZ q (e0) A B T P Y G) s.heap.size = A9 at hD ⊢
  have hA : ∀ z : Nat, s.heap.size ≤ z → A9 z := fun z h => by rw [← hAe]; exact Or.inr h
  have hS : va_S A9 s.heap s.heap [] := va_S.rf
  have hP : va_P D vwCl (mW cJ cI cZ q (e0) A B T P Y G) s.heap := hP
  refine lv_aload_n hx hb dM_part_0 rfl (lv_at hl 0 rfl) ?_
  refine lv_iconst (v := 0) hx hb dM_part_1 (by decide) ?_
  refine va_put (D := D) (ci := 1) (v := .int (0)) (ty := .int) (C := RM) (T := TM) (N := 7) hx hb hts inM tyM tyM_ok nmM hown hK hP hD hS 0 rfl rfl 0 (by decide) (hts _ w_255) (fun _ h9 => h9) rfl (by decide +kernel) rfl rfl (Nat.le_of_ble_eq_true rfl) dM_part_2 (fun H locs hP hD hS => ?_)
  have hP : va_P D vwCl (mW cJ cI cZ q (0) A B T P Y G) H := hP
  have hD : va_D A9 (mW cJ cI cZ q (0) A B T P Y G) := hD
  refine lv_aload_n hx hb dM_part_5 rfl (lv_at hl 0 rfl) ?_
  refine lv_iload_n hx hb dM_part_6 rfl (lv_at hl 2 rfl) ?_
  refine lv_i2l (v := (v).toInt64) hx hb dM_part_7 rfl ?_
  refine lv_lconst (v := 0) hx hb dM_part_8 (by decide) ?_
  refine lv_ldc2 (v := 5) hx hb hown (hts _ w_356) dM_part_9 ?_
  refine kr_S 3 (As := [.long ((v).toInt64), .long (0), .long (5)]) (rest := [.ref (q 0)]) (r := .int (bi (decide ((0) ≤ ((v).toInt64)) && decide (((v).toInt64) ≤ (5))))) hx hb hml hown hts hl.1 (mM_in l ((v).toInt64) (0) (5)) tt_stb trivial (gw_S w_291 w_292 w_15 w_293) (by decide) ⟨rfl, rfl⟩ ⟨Nat.le_of_ble_eq_true rfl, Nat.le_of_ble_eq_true rfl⟩ rfl rfl (Nat.le_of_ble_eq_true rfl) dM_part_12 ⟨Nat.zero_le _, Nat.zero_le _⟩ ?_
  refine lv_if_ne (tgt := 22) hx hb dM_part_15 (by decide) (fun h_1 => ?_) (fun h_1 => absurd h_1 (gp_nz (c := 5) (by decide) hv0 hv))
  have h_1 := bi_n h_1
  refine lv_iconst (v := 0) hx hb dM_part_22 (by decide) ?_
  refine lv_iconst (v := 1) hx hb dM_part_23 (by decide) ?_
  refine kw_V 2 [0, 1, 2, 3, 4, 5, 6] [] (b := q 0) (As := [.int (0), .int (1)]) (rest := []) (wc := mW cJ cI cZ q (0) A B T P Y G) (wr := []) (w1 := mW cJ cI cZ q (0) A B T P Y G) hx hb hml hown hts hl.1 hP hD hS hA hK (mM_fails_f l D cJ cI cZ q 0 A B T P Y G _ 1) (gw_V w_294 w_296 w_8 w_15 w_297) (by decide) ⟨rfl, rfl⟩ ⟨Nat.le_of_ble_eq_true rfl, Nat.le_of_ble_eq_true rfl⟩ (va_recv hK hP (ci := 1) rfl (q0 := 0) rfl) rfl rfl (Nat.le_of_ble_eq_true rfl) dM_part_24 ⟨Nat.zero_le _, Nat.zero_le _⟩ rfl rfl ⟨by decide, by decide⟩ (by decide) (fun H locs hP hD hS => ?_)
  have hP : va_P D vwCl (mW cJ cI cZ q (0) A B T P Y G) H := hP
  have hD : va_D A9 (mW cJ cI cZ q (0) A B T P Y G) := hD
  refine W.eq (g2 := F0 m 27 ls [.int (0)]) rfl ?_
  refine lv_if_ne (tgt := 50) hx hb dM_part_27 (by decide) (fun h_2 => absurd (by decide) h_2) (fun h_2 => ?_)
  refine lv_aload_n hx hb dM_part_30 rfl (lv_at hl 0 rfl) ?_
  refine lv_iload_n hx hb dM_part_31 rfl (lv_at hl 1 rfl) ?_
  refine kr_S 1 (As := [.int (ri)]) (rest := [.ref (q 0)]) (r := .int (bi (gi ri))) hx hb hml hown hts hl.1 (mM_is l (ri)) tt_stb trivial (gw_S w_298 w_299 w_15 w_300) (by decide) ⟨rfl, rfl⟩ ⟨Nat.le_of_ble_eq_true rfl, Nat.le_of_ble_eq_true rfl⟩ rfl rfl (Nat.le_of_ble_eq_true rfl) dM_part_32 ⟨Nat.zero_le _, Nat.zero_le _⟩ ?_
  refine lv_if_ne (tgt := 42) hx hb dM_part_35 (by decide) (fun h_3 => absurd (gi_z hbad) h_3) (fun h_3 => ?_)
  have h_3 := bi_0 h_3
  refine lv_iconst (v := 1) hx hb dM_part_38 (by decide) ?_
  refine lv_goto (tgt := 43) hx hb dM_part_39 (by decide) ?_
  refine lv_iconst (v := 2) hx hb dM_part_43 (by decide) ?_
  refine kw_V 2 [0, 1, 2, 3, 4, 5, 6] [] (b := q 0) (As := [.int (1), .int (2)]) (rest := []) (wc := mW cJ cI cZ q (0) A B T P Y G) (wr := []) (w1 := mW cJ cI cZ q (2) A B T P Y G) hx hb hml hown hts hl.1 hP hD hS hA hK (mM_fails_t l D cJ cI cZ q 0 A B T P Y G _ 2 (by decide)) (gw_V w_294 w_296 w_8 w_15 w_297) (by decide) ⟨rfl, rfl⟩ ⟨Nat.le_of_ble_eq_true rfl, Nat.le_of_ble_eq_true rfl⟩ (va_recv hK hP (ci := 1) rfl (q0 := 0) rfl) rfl rfl (Nat.le_of_ble_eq_true rfl) dM_part_44 ⟨Nat.zero_le _, Nat.zero_le _⟩ rfl rfl ⟨by decide, by decide⟩ (by decide) (fun H locs hP hD hS => ?_)
  have hP : va_P D vwCl (mW cJ cI cZ q (2) A B T P Y G) H := hP
  have hD : va_D A9 (mW cJ cI cZ q (2) A B T P Y G) := hD
  refine W.eq (g2 := F0 m 47 ls [.int (1)]) rfl ?_
  refine lv_if_eq (tgt := 52) hx hb dM_part_47 (by decide) (fun h_4 => absurd h_4 (by decide)) (fun h_4 => ?_)
  refine lv_iconst (v := 0) hx hb dM_part_50 (by decide) ?_
  exact W.iret (v := 0) hx hb hr (fun t9 ht hW => ⟨rfl, by rw [ht]; exact hP, hD, hS.F ht⟩) hS.2.2 dM_part_51

