/-! Contracts of the reference: allows, seal, unseal, restrict, count. Laid by program (wip/whole/gen_m3.py). -/
set_option maxRecDepth 100000 in
set_option maxHeartbeats 4000000 in
theorem mM_allows_y (l : Launch) (D : va_G) (cJ cI cZ : ClassId) (q : Nat → Nat) (e0 : Int32) (A B T P Y : Nat → Int32) (G : Nat → Bool) (sz : Nat) (ri by9 : Int32) (n : Nat) (w : Int32) (hri : vp_in ri 16) (hn : n ≤ 65536) : Met l yM_allows (Cond.code yM_allows cM_allows 5 (some .int) :: gw) (rmk 2 0 0) (va_Pc [.ref (q 0), .int (ri), .int (by9), .int (nI n), .int (w)] (kB D vwCl (mW cJ cI cZ q (e0) A B T P Y G) (tsM cJ cI cZ) sz)) (kQ (some (.int (ga_acc B T P Y G ri.toNatClampNeg ((A ri.toNatClampNeg) + (by9)) n w))) D vwCl (mW cJ cI cZ q (0) A B T P Y G) (va_A (mW cJ cI cZ q (e0) A B T P Y G) sz)) 0 0 (va_A (mW cJ cI cZ q (e0) A B T P Y G) sz) := by
  refine Met.ofW (cc := cM_allows) (maxL := 5) (ret := (some .int)) (by decide) rfl ?_
  intro p e s m args below meth c s₁ B9 hml hv
  obtain ⟨rfl, hsz, hP, hK, hD0⟩ := hv
  have hx := B9.exec
  have hb := B9.bytes
  have hr := B9.returns
  have hts := fun (w : Cond) (h : w ∈ gw) => atoms_spec (ws := _ :: gw) B9.pre w (List.mem_cons_of_mem _ h)
  have hown : s.vm.findClass RM = some m.cls := findClass_of_methodNamed B9.named
  have hlocks := B9.notSynchronized
  have hl := lv_entry ([.ref (q 0), .int (ri), .int (by9), .int (nI n), .int (w)]) (n := 5) (Nat.le_of_ble_eq_true rfl)
  rw [lg_entry_eq]
  generalize (lg_sl ([.ref (q 0), .int (ri), .int (by9), .int (nI n), .int (w)]) ++ List.replicate (5 - (lg_sl ([.ref (q 0), .int (ri), .int (by9), .int (nI n), .int (w)])).length) Slot.unset).toArray = ls at hl ⊢
  have hl : lv_has ls 5 [(0, .ref (q 0)), (1, .int (ri)), (2, .int (by9)), (3, .int (nI n)), (4, .int (w))] := hl
  subst hsz
  have hD := hD0.self (sz := s.heap.size)
  generalize hAe : va_A (mW cJ cI cZ q (e0) A B T P Y G) s.heap.size = A9 at hD ⊢
  have hA : ∀ z : Nat, s.heap.size ≤ z → A9 z := fun z h => by rw [← hAe]; exact Or.inr h
  have hS : va_S A9 s.heap s.heap [] := va_S.rf
  have hP : va_P D vwCl (mW cJ cI cZ q (e0) A B T P Y G) s.heap := hP
  refine lv_aload_n hx hb dM_allows_0 rfl (lv_at hl 0 rfl) ?_
  refine lv_iconst (v := 0) hx hb dM_allows_1 (by decide) ?_
  refine va_put (D := D) (ci := 1) (v := .int (0)) (ty := .int) (C := RM) (T := TM) (N := 7) hx hb hts inM tyM tyM_ok nmM hown hK hP hD hS 0 rfl rfl 0 (by decide) (hts _ w_255) (fun _ h9 => h9) rfl (by decide +kernel) rfl rfl (Nat.le_of_ble_eq_true rfl) dM_allows_2 (fun H locs hP hD hS => ?_)
  have hP : va_P D vwCl (mW cJ cI cZ q (0) A B T P Y G) H := hP
  have hD : va_D A9 (mW cJ cI cZ q (0) A B T P Y G) := hD
  refine lv_aload_n hx hb dM_allows_5 rfl (lv_at hl 0 rfl) ?_
  refine lv_iload_n hx hb dM_allows_6 rfl (lv_at hl 3 rfl) ?_
  refine lv_i2l (v := lN n) hx hb dM_allows_7 (nI_l (by omega : n < 2 ^ 31)) ?_
  refine lv_lconst (v := 0) hx hb dM_allows_8 (by decide) ?_
  refine lv_ldc2 (v := 65536) hx hb hown (hts _ w_347) dM_allows_9 ?_
  refine kr_S 3 (As := [.long (lN n), .long (0), .long (65536)]) (rest := [.ref (q 0)]) (r := .int (bi (decide ((0) ≤ (lN n)) && decide ((lN n) ≤ (65536))))) hx hb hml hown hts hl.1 (mM_in l (lN n) (0) (65536)) tt_stb trivial (gw_S w_291 w_292 w_15 w_293) (by decide) ⟨rfl, rfl⟩ ⟨Nat.le_of_ble_eq_true rfl, Nat.le_of_ble_eq_true rfl⟩ rfl rfl (Nat.le_of_ble_eq_true rfl) dM_allows_12 ⟨Nat.zero_le _, Nat.zero_le _⟩ ?_
  refine lv_if_ne (tgt := 22) hx hb dM_allows_15 (by decide) (fun h_1 => ?_) (fun h_1 => absurd h_1 (ln_nz hn))
  have h_1 := bi_n h_1
  refine lv_iconst (v := 0) hx hb dM_allows_22 (by decide) ?_
  refine lv_iconst (v := 1) hx hb dM_allows_23 (by decide) ?_
  refine kw_V 2 [0, 1, 2, 3, 4, 5, 6] [] (b := q 0) (As := [.int (0), .int (1)]) (rest := []) (wc := mW cJ cI cZ q (0) A B T P Y G) (wr := []) (w1 := mW cJ cI cZ q (0) A B T P Y G) hx hb hml hown hts hl.1 hP hD hS hA hK (mM_fails_f l D cJ cI cZ q 0 A B T P Y G _ 1) (gw_V w_294 w_296 w_8 w_15 w_297) (by decide) ⟨rfl, rfl⟩ ⟨Nat.le_of_ble_eq_true rfl, Nat.le_of_ble_eq_true rfl⟩ (va_recv hK hP (ci := 1) rfl (q0 := 0) rfl) rfl rfl (Nat.le_of_ble_eq_true rfl) dM_allows_24 ⟨Nat.zero_le _, Nat.zero_le _⟩ rfl rfl ⟨by decide, by decide⟩ (by decide) (fun H locs hP hD hS => ?_)
  have hP : va_P D vwCl (mW cJ cI cZ q (0) A B T P Y G) H := hP
  have hD : va_D A9 (mW cJ cI cZ q (0) A B T P Y G) := hD
  refine W.eq (g2 := F0 m 27 ls [.int (0)]) rfl ?_
  refine lv_if_ne (tgt := 50) hx hb dM_allows_27 (by decide) (fun h_2 => absurd (by decide) h_2) (fun h_2 => ?_)
  refine lv_aload_n hx hb dM_allows_30 rfl (lv_at hl 0 rfl) ?_
  refine lv_iload_n hx hb dM_allows_31 rfl (lv_at hl 1 rfl) ?_
  refine kr_S 1 (As := [.int (ri)]) (rest := [.ref (q 0)]) (r := .int (bi (gi ri))) hx hb hml hown hts hl.1 (mM_is l (ri)) tt_stb trivial (gw_S w_298 w_299 w_15 w_300) (by decide) ⟨rfl, rfl⟩ ⟨Nat.le_of_ble_eq_true rfl, Nat.le_of_ble_eq_true rfl⟩ rfl rfl (Nat.le_of_ble_eq_true rfl) dM_allows_32 ⟨Nat.zero_le _, Nat.zero_le _⟩ ?_
  refine lv_if_ne (tgt := 42) hx hb dM_allows_35 (by decide) (fun h_3 => ?_) (fun h_3 => absurd h_3 (gi_nz hri))
  have h_3 := bi_n h_3
  refine lv_iconst (v := 0) hx hb dM_allows_42 (by decide) ?_
  refine lv_iconst (v := 2) hx hb dM_allows_43 (by decide) ?_
  refine kw_V 2 [0, 1, 2, 3, 4, 5, 6] [] (b := q 0) (As := [.int (0), .int (2)]) (rest := []) (wc := mW cJ cI cZ q (0) A B T P Y G) (wr := []) (w1 := mW cJ cI cZ q (0) A B T P Y G) hx hb hml hown hts hl.1 hP hD hS hA hK (mM_fails_f l D cJ cI cZ q 0 A B T P Y G _ 2) (gw_V w_294 w_296 w_8 w_15 w_297) (by decide) ⟨rfl, rfl⟩ ⟨Nat.le_of_ble_eq_true rfl, Nat.le_of_ble_eq_true rfl⟩ (va_recv hK hP (ci := 1) rfl (q0 := 0) rfl) rfl rfl (Nat.le_of_ble_eq_true rfl) dM_allows_44 ⟨Nat.zero_le _, Nat.zero_le _⟩ rfl rfl ⟨by decide, by decide⟩ (by decide) (fun H locs hP hD hS => ?_)
  have hP : va_P D vwCl (mW cJ cI cZ q (0) A B T P Y G) H := hP
  have hD : va_D A9 (mW cJ cI cZ q (0) A B T P Y G) := hD
  refine W.eq (g2 := F0 m 47 ls [.int (0)]) rfl ?_
  refine lv_if_eq (tgt := 52) hx hb dM_allows_47 (by decide) (fun h_4 => ?_) (fun h_4 => absurd (by decide) h_4)
  refine lv_aload_n hx hb dM_allows_52 rfl (lv_at hl 0 rfl) ?_
  refine va_get (D := D) (ci := 1) (v := .ref (q 6)) (C := RM) (T := TM) (N := 7) hx hb hts inM hown hK hP 0 rfl rfl 6 (by decide) (hts _ w_261) (fun _ h9 => h9) rfl dM_allows_53 ?_
  refine lv_iload_n hx hb dM_allows_56 rfl (lv_at hl 1 rfl) ?_
  refine va_zald hx hb hK hP 6 2 rfl rfl hri dM_allows_57 ?_
  refine W.eq (g2 := F0 m 58 ls [.int (bi (G ri.toNatClampNeg))]) rfl ?_
  refine lv_if_ne (tgt := 65) hx hb dM_allows_58 (by decide) (fun h_5 => ?_) (fun h_5 => ?_)
  · have h_5 := bi_n h_5
    refine lv_aload_n hx hb dM_allows_65 rfl (lv_at hl 0 rfl) ?_
    refine lv_iload_n hx hb dM_allows_66 rfl (lv_at hl 1 rfl) ?_
    refine kr_Vw 1 (b := q 0) (As := [.int (ri)]) (rest := []) (r := .int (bi (decide (¬ Y ri.toNatClampNeg = 0)))) hx hb hml hown hts hl.1 (mM_isSealed l D cJ cI cZ q (0) A B T P Y G (ri) hri) rB_stb ⟨hP, hK⟩ (gw_V w_314 w_316 w_10 w_15 w_317) (by decide) ⟨rfl, rfl⟩ ⟨Nat.le_of_ble_eq_true rfl, Nat.le_of_ble_eq_true rfl⟩ (va_recv hK hP (ci := 1) rfl (q0 := 0) rfl) rfl rfl (Nat.le_of_ble_eq_true rfl) dM_allows_67 ⟨Nat.zero_le _, Nat.zero_le _⟩ ?_
    refine lv_if_eq (tgt := 77) hx hb dM_allows_70 (by decide) (fun h_6 => ?_) (fun h_6 => ?_)
    · have h_6 := bi_0 h_6
      refine lv_aload_n hx hb dM_allows_77 rfl (lv_at hl 0 rfl) ?_
      refine lv_iload_n hx hb dM_allows_78 rfl (lv_at hl 1 rfl) ?_
      refine lv_iload hx hb dM_allows_79 (lv_at hl 4 rfl) ?_
      refine kr_V 2 (b := q 0) (As := [.int (ri), .int (w)]) (rest := []) (r := .int (bi (ga_pm (w) (P ri.toNatClampNeg)))) hx hb hml hown hts hl.1 (mM_may l D cJ cI cZ q (0) A B T P Y G (ri) (w) hri) rB_stb ⟨hP, hK⟩ (gw_V w_330 w_332 w_11 w_15 w_333) (by decide) ⟨rfl, rfl⟩ ⟨Nat.le_of_ble_eq_true rfl, Nat.le_of_ble_eq_true rfl⟩ (va_recv hK hP (ci := 1) rfl (q0 := 0) rfl) rfl rfl (Nat.le_of_ble_eq_true rfl) dM_allows_81 ⟨Nat.zero_le _, Nat.zero_le _⟩ ?_
      refine lv_if_ne (tgt := 91) hx hb dM_allows_84 (by decide) (fun h_7 => ?_) (fun h_7 => ?_)
      · have h_7 := bi_n h_7
        refine lv_aload_n hx hb dM_allows_91 rfl (lv_at hl 0 rfl) ?_
        refine lv_iload_n hx hb dM_allows_92 rfl (lv_at hl 1 rfl) ?_
        refine lv_aload_n hx hb dM_allows_93 rfl (lv_at hl 0 rfl) ?_
        refine va_get (D := D) (ci := 1) (v := .ref (q 1)) (C := RM) (T := TM) (N := 7) hx hb hts inM hown hK hP 0 rfl rfl 1 (by decide) (hts _ w_256) (fun _ h9 => h9) rfl dM_allows_94 ?_
        refine lv_iload_n hx hb dM_allows_97 rfl (lv_at hl 1 rfl) ?_
        refine va_lald hx hb hK hP 1 0 rfl rfl hri dM_allows_98 ?_
        refine W.eq (g2 := F0 m 99 ls [.long (uw (A ri.toNatClampNeg)), .int (ri), .ref (q 0)]) rfl ?_
        refine lv_iload_n hx hb dM_allows_99 rfl (lv_at hl 2 rfl) ?_
        refine kr_S 1 (As := [.int (by9)]) (rest := [.long (uw (A ri.toNatClampNeg)), .int (ri), .ref (q 0)]) (r := .long (uw (by9))) hx hb hml hown hts hl.1 (mM_wide l (by9)) tt_stb trivial (gw_S w_286 w_287 w_15 w_288) (by decide) ⟨rfl, rfl⟩ ⟨Nat.le_of_ble_eq_true rfl, Nat.le_of_ble_eq_true rfl⟩ rfl rfl (Nat.le_of_ble_eq_true rfl) dM_allows_100 ⟨Nat.zero_le _, Nat.zero_le _⟩ ?_
        refine lv_ladd hx hb dM_allows_103 ?_
        refine lv_ldc2 (v := 4294967296) hx hb hown (hts _ w_289) dM_allows_104 ?_
        refine lv_lrem hx hb dM_allows_107 (by decide) ?_
        refine W.eq (g2 := F0 m 108 ls [.long (uw ((A ri.toNatClampNeg) + (by9))), .int (ri), .ref (q 0)]) (by rw [← uw_sum] <;> rfl) ?_
        refine lv_iload_n hx hb dM_allows_108 rfl (lv_at hl 3 rfl) ?_
        refine lv_i2l (v := lN n) hx hb dM_allows_109 (nI_l (by omega : n < 2 ^ 31)) ?_
        refine kr_V 3 (b := q 0) (As := [.int (ri), .long (uw ((A ri.toNatClampNeg) + (by9))), .long (lN n)]) (rest := []) (r := .int (bi (ga_in (B ri.toNatClampNeg) (T ri.toNatClampNeg) ((A ri.toNatClampNeg) + (by9)) (n)))) hx hb hml hown hts hl.1 (mM_holds l D cJ cI cZ q (0) A B T P Y G (ri) ((A ri.toNatClampNeg) + (by9)) (n) hri (by first | decide | omega)) rB_stb ⟨hP, hK⟩ (gw_V w_334 w_336 w_12 w_15 w_337) (by decide) ⟨rfl, rfl⟩ ⟨Nat.le_of_ble_eq_true rfl, Nat.le_of_ble_eq_true rfl⟩ (va_recv hK hP (ci := 1) rfl (q0 := 0) rfl) rfl rfl (Nat.le_of_ble_eq_true rfl) dM_allows_110 ⟨Nat.zero_le _, Nat.zero_le _⟩ ?_
        refine lv_if_eq (tgt := 120) hx hb dM_allows_113 (by decide) (fun h_8 => ?_) (fun h_8 => ?_)
        · have h_8 := bi_0 h_8
          refine lv_iconst (v := 4) hx hb dM_allows_120 (by decide) ?_
          have e9 : (ga_acc B T P Y G ri.toNatClampNeg ((A ri.toNatClampNeg) + (by9)) n w) = 4 := by (try simp only [decide_eq_true_eq, decide_eq_false_iff_not, Decidable.not_not] at h_5); (try simp only [decide_eq_true_eq, decide_eq_false_iff_not, Decidable.not_not] at h_6); (try simp only [decide_eq_true_eq, decide_eq_false_iff_not, Decidable.not_not] at h_7); (try simp only [decide_eq_true_eq, decide_eq_false_iff_not, Decidable.not_not] at h_8); unfold ga_acc; simp [h_5, h_6, h_7, h_8]
          refine W.eq (g2 := F0 m 121 ls [.int (ga_acc B T P Y G ri.toNatClampNeg ((A ri.toNatClampNeg) + (by9)) n w)]) (by rw [e9] <;> rfl) ?_
          exact W.iret (v := ga_acc B T P Y G ri.toNatClampNeg ((A ri.toNatClampNeg) + (by9)) n w) hx hb hr (fun t9 ht hW => ⟨rfl, by rw [ht]; exact hP, hD, hS.F ht⟩) hS.2.2 dM_allows_121
        · have h_8 := bi_n h_8
          refine lv_iconst (v := 0) hx hb dM_allows_116 (by decide) ?_
          refine lv_goto (tgt := 121) hx hb dM_allows_117 (by decide) ?_
          have e9 : (ga_acc B T P Y G ri.toNatClampNeg ((A ri.toNatClampNeg) + (by9)) n w) = 0 := by (try simp only [decide_eq_true_eq, decide_eq_false_iff_not, Decidable.not_not] at h_5); (try simp only [decide_eq_true_eq, decide_eq_false_iff_not, Decidable.not_not] at h_6); (try simp only [decide_eq_true_eq, decide_eq_false_iff_not, Decidable.not_not] at h_7); (try simp only [decide_eq_true_eq, decide_eq_false_iff_not, Decidable.not_not] at h_8); unfold ga_acc; simp [h_5, h_6, h_7, h_8]
          refine W.eq (g2 := F0 m 121 ls [.int (ga_acc B T P Y G ri.toNatClampNeg ((A ri.toNatClampNeg) + (by9)) n w)]) (by rw [e9] <;> rfl) ?_
          exact W.iret (v := ga_acc B T P Y G ri.toNatClampNeg ((A ri.toNatClampNeg) + (by9)) n w) hx hb hr (fun t9 ht hW => ⟨rfl, by rw [ht]; exact hP, hD, hS.F ht⟩) hS.2.2 dM_allows_121
      · have h_7 := bi_0 h_7
        refine lv_iconst (v := 3) hx hb dM_allows_87 (by decide) ?_
        refine lv_goto (tgt := 121) hx hb dM_allows_88 (by decide) ?_
        have e9 : (ga_acc B T P Y G ri.toNatClampNeg ((A ri.toNatClampNeg) + (by9)) n w) = 3 := by (try simp only [decide_eq_true_eq, decide_eq_false_iff_not, Decidable.not_not] at h_5); (try simp only [decide_eq_true_eq, decide_eq_false_iff_not, Decidable.not_not] at h_6); (try simp only [decide_eq_true_eq, decide_eq_false_iff_not, Decidable.not_not] at h_7); unfold ga_acc; simp [h_5, h_6, h_7]
        refine W.eq (g2 := F0 m 121 ls [.int (ga_acc B T P Y G ri.toNatClampNeg ((A ri.toNatClampNeg) + (by9)) n w)]) (by rw [e9] <;> rfl) ?_
        exact W.iret (v := ga_acc B T P Y G ri.toNatClampNeg ((A ri.toNatClampNeg) + (by9)) n w) hx hb hr (fun t9 ht hW => ⟨rfl, by rw [ht]; exact hP, hD, hS.F ht⟩) hS.2.2 dM_allows_121
    · have h_6 := bi_n h_6
      refine lv_iconst (v := 2) hx hb dM_allows_73 (by decide) ?_
      refine lv_goto (tgt := 121) hx hb dM_allows_74 (by decide) ?_
      have e9 : (ga_acc B T P Y G ri.toNatClampNeg ((A ri.toNatClampNeg) + (by9)) n w) = 2 := by (try simp only [decide_eq_true_eq, decide_eq_false_iff_not, Decidable.not_not] at h_5); (try simp only [decide_eq_true_eq, decide_eq_false_iff_not, Decidable.not_not] at h_6); unfold ga_acc; simp [h_5, h_6]
      refine W.eq (g2 := F0 m 121 ls [.int (ga_acc B T P Y G ri.toNatClampNeg ((A ri.toNatClampNeg) + (by9)) n w)]) (by rw [e9] <;> rfl) ?_
      exact W.iret (v := ga_acc B T P Y G ri.toNatClampNeg ((A ri.toNatClampNeg) + (by9)) n w) hx hb hr (fun t9 ht hW => ⟨rfl, by rw [ht]; exact hP, hD, hS.F ht⟩) hS.2.2 dM_allows_121
  · have h_5 := bi_0 h_5
    refine lv_iconst (v := 1) hx hb dM_allows_61 (by decide) ?_
    refine lv_goto (tgt := 121) hx hb dM_allows_62 (by decide) ?_
    have e9 : (ga_acc B T P Y G ri.toNatClampNeg ((A ri.toNatClampNeg) + (by9)) n w) = 1 := by (try simp only [decide_eq_true_eq, decide_eq_false_iff_not, Decidable.not_not] at h_5); unfold ga_acc; simp [h_5]
    refine W.eq (g2 := F0 m 121 ls [.int (ga_acc B T P Y G ri.toNatClampNeg ((A ri.toNatClampNeg) + (by9)) n w)]) (by rw [e9] <;> rfl) ?_
    exact W.iret (v := ga_acc B T P Y G ri.toNatClampNeg ((A ri.toNatClampNeg) + (by9)) n w) hx hb hr (fun t9 ht hW => ⟨rfl, by rw [ht]; exact hP, hD, hS.F ht⟩) hS.2.2 dM_allows_121

set_option maxRecDepth 100000 in
set_option maxHeartbeats 4000000 in
theorem mM_allows_a (l : Launch) (D : va_G) (cJ cI cZ : ClassId) (q : Nat → Nat) (e0 : Int32) (A B T P Y : Nat → Int32) (G : Nat → Bool) (sz : Nat) (ri by9 v w : Int32) (hbad : ¬ (¬ v < 0 ∧ v ≤ 65536)) : Met l yM_allows (Cond.code yM_allows cM_allows 5 (some .int) :: gw) (rmk 2 0 0) (va_Pc [.ref (q 0), .int (ri), .int (by9), .int (v), .int (w)] (kB D vwCl (mW cJ cI cZ q (e0) A B T P Y G) (tsM cJ cI cZ) sz)) (kQ (some (.int (0))) D vwCl (mW cJ cI cZ q (1) A B T P Y G) (va_A (mW cJ cI cZ q (e0) A B T P Y G) sz)) 0 0 (va_A (mW cJ cI cZ q (e0) A B T P Y G) sz) := by
  refine Met.ofW (cc := cM_allows) (maxL := 5) (ret := (some .int)) (by decide) rfl ?_
  intro p e s m args below meth c s₁ B9 hml hv
  obtain ⟨rfl, hsz, hP, hK, hD0⟩ := hv
  have hx := B9.exec
  have hb := B9.bytes
  have hr := B9.returns
  have hts := fun (w : Cond) (h : w ∈ gw) => atoms_spec (ws := _ :: gw) B9.pre w (List.mem_cons_of_mem _ h)
  have hown : s.vm.findClass RM = some m.cls := findClass_of_methodNamed B9.named
  have hlocks := B9.notSynchronized
  have hl := lv_entry ([.ref (q 0), .int (ri), .int (by9), .int (v), .int (w)]) (n := 5) (Nat.le_of_ble_eq_true rfl)
  rw [lg_entry_eq]
  generalize (lg_sl ([.ref (q 0), .int (ri), .int (by9), .int (v), .int (w)]) ++ List.replicate (5 - (lg_sl ([.ref (q 0), .int (ri), .int (by9), .int (v), .int (w)])).length) Slot.unset).toArray = ls at hl ⊢
  have hl : lv_has ls 5 [(0, .ref (q 0)), (1, .int (ri)), (2, .int (by9)), (3, .int (v)), (4, .int (w))] := hl
  subst hsz
  have hD := hD0.self (sz := s.heap.size)
  generalize hAe : va_A (mW cJ cI cZ q (e0) A B T P Y G) s.heap.size = A9 at hD ⊢
  have hA : ∀ z : Nat, s.heap.size ≤ z → A9 z := fun z h => by rw [← hAe]; exact Or.inr h
  have hS : va_S A9 s.heap s.heap [] := va_S.rf
  have hP : va_P D vwCl (mW cJ cI cZ q (e0) A B T P Y G) s.heap := hP
  refine lv_aload_n hx hb dM_allows_0 rfl (lv_at hl 0 rfl) ?_
  refine lv_iconst (v := 0) hx hb dM_allows_1 (by decide) ?_
  refine va_put (D := D) (ci := 1) (v := .int (0)) (ty := .int) (C := RM) (T := TM) (N := 7) hx hb hts inM tyM tyM_ok nmM hown hK hP hD hS 0 rfl rfl 0 (by decide) (hts _ w_255) (fun _ h9 => h9) rfl (by decide +kernel) rfl rfl (Nat.le_of_ble_eq_true rfl) dM_allows_2 (fun H locs hP hD hS => ?_)
  have hP : va_P D vwCl (mW cJ cI cZ q (0) A B T P Y G) H := hP
  have hD : va_D A9 (mW cJ cI cZ q (0) A B T P Y G) := hD
  refine lv_aload_n hx hb dM_allows_5 rfl (lv_at hl 0 rfl) ?_
  refine lv_iload_n hx hb dM_allows_6 rfl (lv_at hl 3 rfl) ?_
  refine lv_i2l (v := (v).toInt64) hx hb dM_allows_7 rfl ?_
  refine lv_lconst (v := 0) hx hb dM_allows_8 (by decide) ?_
  refine lv_ldc2 (v := 65536) hx hb hown (hts _ w_347) dM_allows_9 ?_
  refine kr_S 3 (As := [.long ((v).toInt64), .long (0), .long (65536)]) (rest := [.ref (q 0)]) (r := .int (bi (decide ((0) ≤ ((v).toInt64)) && decide (((v).toInt64) ≤ (65536))))) hx hb hml hown hts hl.1 (mM_in l ((v).toInt64) (0) (65536)) tt_stb trivial (gw_S w_291 w_292 w_15 w_293) (by decide) ⟨rfl, rfl⟩ ⟨Nat.le_of_ble_eq_true rfl, Nat.le_of_ble_eq_true rfl⟩ rfl rfl (Nat.le_of_ble_eq_true rfl) dM_allows_12 ⟨Nat.zero_le _, Nat.zero_le _⟩ ?_
  refine lv_if_ne (tgt := 22) hx hb dM_allows_15 (by decide) (fun h_1 => absurd (gp_z (c := 65536) (by decide) hbad) h_1) (fun h_1 => ?_)
  have h_1 := bi_0 h_1
  refine lv_iconst (v := 1) hx hb dM_allows_18 (by decide) ?_
  refine lv_goto (tgt := 23) hx hb dM_allows_19 (by decide) ?_
  refine lv_iconst (v := 1) hx hb dM_allows_23 (by decide) ?_
  refine kw_V 2 [0, 1, 2, 3, 4, 5, 6] [] (b := q 0) (As := [.int (1), .int (1)]) (rest := []) (wc := mW cJ cI cZ q (0) A B T P Y G) (wr := []) (w1 := mW cJ cI cZ q (1) A B T P Y G) hx hb hml hown hts hl.1 hP hD hS hA hK (mM_fails_t l D cJ cI cZ q 0 A B T P Y G _ 1 (by decide)) (gw_V w_294 w_296 w_8 w_15 w_297) (by decide) ⟨rfl, rfl⟩ ⟨Nat.le_of_ble_eq_true rfl, Nat.le_of_ble_eq_true rfl⟩ (va_recv hK hP (ci := 1) rfl (q0 := 0) rfl) rfl rfl (Nat.le_of_ble_eq_true rfl) dM_allows_24 ⟨Nat.zero_le _, Nat.zero_le _⟩ rfl rfl ⟨by decide, by decide⟩ (by decide) (fun H locs hP hD hS => ?_)
  have hP : va_P D vwCl (mW cJ cI cZ q (1) A B T P Y G) H := hP
  have hD : va_D A9 (mW cJ cI cZ q (1) A B T P Y G) := hD
  refine W.eq (g2 := F0 m 27 ls [.int (1)]) rfl ?_
  refine lv_if_ne (tgt := 50) hx hb dM_allows_27 (by decide) (fun h_2 => ?_) (fun h_2 => absurd h_2 (by decide))
  refine lv_iconst (v := 0) hx hb dM_allows_50 (by decide) ?_
  exact W.iret (v := 0) hx hb hr (fun t9 ht hW => ⟨rfl, by rw [ht]; exact hP, hD, hS.F ht⟩) hS.2.2 dM_allows_51

set_option maxRecDepth 100000 in
set_option maxHeartbeats 4000000 in
theorem mM_allows_b (l : Launch) (D : va_G) (cJ cI cZ : ClassId) (q : Nat → Nat) (e0 : Int32) (A B T P Y : Nat → Int32) (G : Nat → Bool) (sz : Nat) (ri by9 v w : Int32) (hv0 : ¬ v < 0) (hv : v ≤ 65536) (hbad : ¬ vp_in ri 16) : Met l yM_allows (Cond.code yM_allows cM_allows 5 (some .int) :: gw) (rmk 2 0 0) (va_Pc [.ref (q 0), .int (ri), .int (by9), .int (v), .int (w)] (kB D vwCl (mW cJ cI cZ q (e0) A B T P Y G) (tsM cJ cI cZ) sz)) (kQ (some (.int (0))) D vwCl (mW cJ cI cZ q (2) A B T P Y G) (va_A (mW cJ cI cZ q (e0) A B T P Y G) sz)) 0 0 (va_A (mW cJ cI cZ q (e0) A B T P Y G) sz) := by
  refine Met.ofW (cc := cM_allows) (maxL := 5) (ret := (some .int)) (by decide) rfl ?_
  intro p e s m args below meth c s₁ B9 hml hv
  obtain ⟨rfl, hsz, hP, hK, hD0⟩ := hv
  have hx := B9.exec
  have hb := B9.bytes
  have hr := B9.returns
  have hts := fun (w : Cond) (h : w ∈ gw) => atoms_spec (ws := _ :: gw) B9.pre w (List.mem_cons_of_mem _ h)
  have hown : s.vm.findClass RM = some m.cls := findClass_of_methodNamed B9.named
  have hlocks := B9.notSynchronized
  have hl := lv_entry ([.ref (q 0), .int (ri), .int (by9), .int (v), .int (w)]) (n := 5) (Nat.le_of_ble_eq_true rfl)
  rw [lg_entry_eq]
  generalize (lg_sl ([.ref (q 0), .int (ri), .int (by9), .int (v), .int (w)]) ++ List.replicate (5 - (lg_sl ([.ref (q 0), .int (ri), .int (by9), .int (v), .int (w)])).length) Slot.unset).toArray = ls at hl ⊢
  have hl : lv_has ls 5 [(0, .ref (q 0)), (1, .int (ri)), (2, .int (by9)), (3, .int (v)), (4, .int (w))] := hl
  subst hsz
  have hD := hD0.self (sz := s.heap.size)
  generalize hAe : va_A (mW cJ cI cZ q (e0) A B T P Y G) s.heap.size = A9 at hD ⊢
  have hA : ∀ z : Nat, s.heap.size ≤ z → A9 z := fun z h => by rw [← hAe]; exact Or.inr h
  have hS : va_S A9 s.heap s.heap [] := va_S.rf
  have hP : va_P D vwCl (mW cJ cI cZ q (e0) A B T P Y G) s.heap := hP
  refine lv_aload_n hx hb dM_allows_0 rfl (lv_at hl 0 rfl) ?_
  refine lv_iconst (v := 0) hx hb dM_allows_1 (by decide) ?_
  refine va_put (D := D) (ci := 1) (v := .int (0)) (ty := .int) (C := RM) (T := TM) (N := 7) hx hb hts inM tyM tyM_ok nmM hown hK hP hD hS 0 rfl rfl 0 (by decide) (hts _ w_255) (fun _ h9 => h9) rfl (by decide +kernel) rfl rfl (Nat.le_of_ble_eq_true rfl) dM_allows_2 (fun H locs hP hD hS => ?_)
  have hP : va_P D vwCl (mW cJ cI cZ q (0) A B T P Y G) H := hP
  have hD : va_D A9 (mW cJ cI cZ q (0) A B T P Y G) := hD
  refine lv_aload_n hx hb dM_allows_5 rfl (lv_at hl 0 rfl) ?_
  refine lv_iload_n hx hb dM_allows_6 rfl (lv_at hl 3 rfl) ?_
  refine lv_i2l (v := (v).toInt64) hx hb dM_allows_7 rfl ?_
  refine lv_lconst (v := 0) hx hb dM_allows_8 (by decide) ?_
  refine lv_ldc2 (v := 65536) hx hb hown (hts _ w_347) dM_allows_9 ?_
  refine kr_S 3 (As := [.long ((v).toInt64), .long (0), .long (65536)]) (rest := [.ref (q 0)]) (r := .int (bi (decide ((0) ≤ ((v).toInt64)) && decide (((v).toInt64) ≤ (65536))))) hx hb hml hown hts hl.1 (mM_in l ((v).toInt64) (0) (65536)) tt_stb trivial (gw_S w_291 w_292 w_15 w_293) (by decide) ⟨rfl, rfl⟩ ⟨Nat.le_of_ble_eq_true rfl, Nat.le_of_ble_eq_true rfl⟩ rfl rfl (Nat.le_of_ble_eq_true rfl) dM_allows_12 ⟨Nat.zero_le _, Nat.zero_le _⟩ ?_
  refine lv_if_ne (tgt := 22) hx hb dM_allows_15 (by decide) (fun h_1 => ?_) (fun h_1 => absurd h_1 (gp_nz (c := 65536) (by decide) hv0 hv))
  have h_1 := bi_n h_1
  refine lv_iconst (v := 0) hx hb dM_allows_22 (by decide) ?_
  refine lv_iconst (v := 1) hx hb dM_allows_23 (by decide) ?_
  refine kw_V 2 [0, 1, 2, 3, 4, 5, 6] [] (b := q 0) (As := [.int (0), .int (1)]) (rest := []) (wc := mW cJ cI cZ q (0) A B T P Y G) (wr := []) (w1 := mW cJ cI cZ q (0) A B T P Y G) hx hb hml hown hts hl.1 hP hD hS hA hK (mM_fails_f l D cJ cI cZ q 0 A B T P Y G _ 1) (gw_V w_294 w_296 w_8 w_15 w_297) (by decide) ⟨rfl, rfl⟩ ⟨Nat.le_of_ble_eq_true rfl, Nat.le_of_ble_eq_true rfl⟩ (va_recv hK hP (ci := 1) rfl (q0 := 0) rfl) rfl rfl (Nat.le_of_ble_eq_true rfl) dM_allows_24 ⟨Nat.zero_le _, Nat.zero_le _⟩ rfl rfl ⟨by decide, by decide⟩ (by decide) (fun H locs hP hD hS => ?_)
  have hP : va_P D vwCl (mW cJ cI cZ q (0) A B T P Y G) H := hP
  have hD : va_D A9 (mW cJ cI cZ q (0) A B T P Y G) := hD
  refine W.eq (g2 := F0 m 27 ls [.int (0)]) rfl ?_
  refine lv_if_ne (tgt := 50) hx hb dM_allows_27 (by decide) (fun h_2 => absurd (by decide) h_2) (fun h_2 => ?_)
  refine lv_aload_n hx hb dM_allows_30 rfl (lv_at hl 0 rfl) ?_
  refine lv_iload_n hx hb dM_allows_31 rfl (lv_at hl 1 rfl) ?_
  refine kr_S 1 (As := [.int (ri)]) (rest := [.ref (q 0)]) (r := .int (bi (gi ri))) hx hb hml hown hts hl.1 (mM_is l (ri)) tt_stb trivial (gw_S w_298 w_299 w_15 w_300) (by decide) ⟨rfl, rfl⟩ ⟨Nat.le_of_ble_eq_true rfl, Nat.le_of_ble_eq_true rfl⟩ rfl rfl (Nat.le_of_ble_eq_true rfl) dM_allows_32 ⟨Nat.zero_le _, Nat.zero_le _⟩ ?_
  refine lv_if_ne (tgt := 42) hx hb dM_allows_35 (by decide) (fun h_3 => absurd (gi_z hbad) h_3) (fun h_3 => ?_)
  have h_3 := bi_0 h_3
  refine lv_iconst (v := 1) hx hb dM_allows_38 (by decide) ?_
  refine lv_goto (tgt := 43) hx hb dM_allows_39 (by decide) ?_
  refine lv_iconst (v := 2) hx hb dM_allows_43 (by decide) ?_
  refine kw_V 2 [0, 1, 2, 3, 4, 5, 6] [] (b := q 0) (As := [.int (1), .int (2)]) (rest := []) (wc := mW cJ cI cZ q (0) A B T P Y G) (wr := []) (w1 := mW cJ cI cZ q (2) A B T P Y G) hx hb hml hown hts hl.1 hP hD hS hA hK (mM_fails_t l D cJ cI cZ q 0 A B T P Y G _ 2 (by decide)) (gw_V w_294 w_296 w_8 w_15 w_297) (by decide) ⟨rfl, rfl⟩ ⟨Nat.le_of_ble_eq_true rfl, Nat.le_of_ble_eq_true rfl⟩ (va_recv hK hP (ci := 1) rfl (q0 := 0) rfl) rfl rfl (Nat.le_of_ble_eq_true rfl) dM_allows_44 ⟨Nat.zero_le _, Nat.zero_le _⟩ rfl rfl ⟨by decide, by decide⟩ (by decide) (fun H locs hP hD hS => ?_)
  have hP : va_P D vwCl (mW cJ cI cZ q (2) A B T P Y G) H := hP
  have hD : va_D A9 (mW cJ cI cZ q (2) A B T P Y G) := hD
  refine W.eq (g2 := F0 m 47 ls [.int (1)]) rfl ?_
  refine lv_if_eq (tgt := 52) hx hb dM_allows_47 (by decide) (fun h_4 => absurd h_4 (by decide)) (fun h_4 => ?_)
  refine lv_iconst (v := 0) hx hb dM_allows_50 (by decide) ?_
  exact W.iret (v := 0) hx hb hr (fun t9 ht hW => ⟨rfl, by rw [ht]; exact hP, hD, hS.F ht⟩) hS.2.2 dM_allows_51

set_option maxRecDepth 100000 in
set_option maxHeartbeats 4000000 in
theorem mM_seal_y (l : Launch) (D : va_G) (cJ cI cZ : ClassId) (q : Nat → Nat) (e0 : Int32) (A B T P Y : Nat → Int32) (G : Nat → Bool) (sz : Nat) (ri si ti : Int32) (hri : vp_in ri 16) (hsi : vp_in si 16) (hti : vp_in ti 16) (h0 : ga_seal A B T P Y G si.toNatClampNeg ti.toNatClampNeg = 0) : Met l yM_seal (Cond.code yM_seal cM_seal 4 (some .int) :: gw) (rmk 2 0 0) (va_Pc [.ref (q 0), .int (ri), .int (si), .int (ti)] (kB D vwCl (mW cJ cI cZ q (e0) A B T P Y G) (tsM cJ cI cZ) sz)) (kQ (some (.int (0))) D vwCl (mW cJ cI cZ q (0) (upd A ri.toNatClampNeg (A si.toNatClampNeg)) (upd B ri.toNatClampNeg (B si.toNatClampNeg)) (upd T ri.toNatClampNeg (T si.toNatClampNeg)) (upd P ri.toNatClampNeg (P si.toNatClampNeg)) (upd Y ri.toNatClampNeg (A ti.toNatClampNeg)) (ub G ri.toNatClampNeg (true))) (va_A (mW cJ cI cZ q (e0) A B T P Y G) sz)) 0 0 (va_A (mW cJ cI cZ q (e0) A B T P Y G) sz) := by
  refine Met.ofW (cc := cM_seal) (maxL := 4) (ret := (some .int)) (by decide) rfl ?_
  intro p e s m args below meth c s₁ B9 hml hv
  obtain ⟨rfl, hsz, hP, hK, hD0⟩ := hv
  have hx := B9.exec
  have hb := B9.bytes
  have hr := B9.returns
  have hts := fun (w : Cond) (h : w ∈ gw) => atoms_spec (ws := _ :: gw) B9.pre w (List.mem_cons_of_mem _ h)
  have hown : s.vm.findClass RM = some m.cls := findClass_of_methodNamed B9.named
  have hlocks := B9.notSynchronized
  have hl := lv_entry ([.ref (q 0), .int (ri), .int (si), .int (ti)]) (n := 4) (Nat.le_of_ble_eq_true rfl)
  rw [lg_entry_eq]
  generalize (lg_sl ([.ref (q 0), .int (ri), .int (si), .int (ti)]) ++ List.replicate (4 - (lg_sl ([.ref (q 0), .int (ri), .int (si), .int (ti)])).length) Slot.unset).toArray = ls at hl ⊢
  have hl : lv_has ls 4 [(0, .ref (q 0)), (1, .int (ri)), (2, .int (si)), (3, .int (ti))] := hl
  subst hsz
  have hD := hD0.self (sz := s.heap.size)
  generalize hAe : va_A (mW cJ cI cZ q (e0) A B T P Y G) s.heap.size = A9 at hD ⊢
  have hA : ∀ z : Nat, s.heap.size ≤ z → A9 z := fun z h => by rw [← hAe]; exact Or.inr h
  have hS : va_S A9 s.heap s.heap [] := va_S.rf
  have hP : va_P D vwCl (mW cJ cI cZ q (e0) A B T P Y G) s.heap := hP
  refine lv_aload_n hx hb dM_seal_0 rfl (lv_at hl 0 rfl) ?_
  refine lv_iconst (v := 0) hx hb dM_seal_1 (by decide) ?_
  refine va_put (D := D) (ci := 1) (v := .int (0)) (ty := .int) (C := RM) (T := TM) (N := 7) hx hb hts inM tyM tyM_ok nmM hown hK hP hD hS 0 rfl rfl 0 (by decide) (hts _ w_255) (fun _ h9 => h9) rfl (by decide +kernel) rfl rfl (Nat.le_of_ble_eq_true rfl) dM_seal_2 (fun H locs hP hD hS => ?_)
  have hP : va_P D vwCl (mW cJ cI cZ q (0) A B T P Y G) H := hP
  have hD : va_D A9 (mW cJ cI cZ q (0) A B T P Y G) := hD
  refine lv_aload_n hx hb dM_seal_5 rfl (lv_at hl 0 rfl) ?_
  refine lv_iload_n hx hb dM_seal_6 rfl (lv_at hl 1 rfl) ?_
  refine kr_S 1 (As := [.int (ri)]) (rest := [.ref (q 0)]) (r := .int (bi (gi ri))) hx hb hml hown hts hl.1 (mM_is l (ri)) tt_stb trivial (gw_S w_298 w_299 w_15 w_300) (by decide) ⟨rfl, rfl⟩ ⟨Nat.le_of_ble_eq_true rfl, Nat.le_of_ble_eq_true rfl⟩ rfl rfl (Nat.le_of_ble_eq_true rfl) dM_seal_7 ⟨Nat.zero_le _, Nat.zero_le _⟩ ?_
  refine lv_if_eq (tgt := 27) hx hb dM_seal_10 (by decide) (fun h_1 => absurd h_1 (gi_nz hri)) (fun h_1 => ?_)
  have h_1 := bi_n h_1
  refine lv_iload_n hx hb dM_seal_13 rfl (lv_at hl 2 rfl) ?_
  refine kr_S 1 (As := [.int (si)]) (rest := [.ref (q 0)]) (r := .int (bi (gi si))) hx hb hml hown hts hl.1 (mM_is l (si)) tt_stb trivial (gw_S w_298 w_299 w_15 w_300) (by decide) ⟨rfl, rfl⟩ ⟨Nat.le_of_ble_eq_true rfl, Nat.le_of_ble_eq_true rfl⟩ rfl rfl (Nat.le_of_ble_eq_true rfl) dM_seal_14 ⟨Nat.zero_le _, Nat.zero_le _⟩ ?_
  refine lv_if_eq (tgt := 27) hx hb dM_seal_17 (by decide) (fun h_2 => absurd h_2 (gi_nz hsi)) (fun h_2 => ?_)
  have h_2 := bi_n h_2
  refine lv_iload_n hx hb dM_seal_20 rfl (lv_at hl 3 rfl) ?_
  refine kr_S 1 (As := [.int (ti)]) (rest := [.ref (q 0)]) (r := .int (bi (gi ti))) hx hb hml hown hts hl.1 (mM_is l (ti)) tt_stb trivial (gw_S w_298 w_299 w_15 w_300) (by decide) ⟨rfl, rfl⟩ ⟨Nat.le_of_ble_eq_true rfl, Nat.le_of_ble_eq_true rfl⟩ rfl rfl (Nat.le_of_ble_eq_true rfl) dM_seal_21 ⟨Nat.zero_le _, Nat.zero_le _⟩ ?_
  refine lv_if_ne (tgt := 31) hx hb dM_seal_24 (by decide) (fun h_3 => ?_) (fun h_3 => absurd h_3 (gi_nz hti))
  have h_3 := bi_n h_3
  refine lv_iconst (v := 0) hx hb dM_seal_31 (by decide) ?_
  refine lv_iconst (v := 1) hx hb dM_seal_32 (by decide) ?_
  refine kw_V 2 [0, 1, 2, 3, 4, 5, 6] [] (b := q 0) (As := [.int (0), .int (1)]) (rest := []) (wc := mW cJ cI cZ q (0) A B T P Y G) (wr := []) (w1 := mW cJ cI cZ q (0) A B T P Y G) hx hb hml hown hts hl.1 hP hD hS hA hK (mM_fails_f l D cJ cI cZ q 0 A B T P Y G _ 1) (gw_V w_294 w_296 w_8 w_15 w_297) (by decide) ⟨rfl, rfl⟩ ⟨Nat.le_of_ble_eq_true rfl, Nat.le_of_ble_eq_true rfl⟩ (va_recv hK hP (ci := 1) rfl (q0 := 0) rfl) rfl rfl (Nat.le_of_ble_eq_true rfl) dM_seal_33 ⟨Nat.zero_le _, Nat.zero_le _⟩ rfl rfl ⟨by decide, by decide⟩ (by decide) (fun H locs hP hD hS => ?_)
  have hP : va_P D vwCl (mW cJ cI cZ q (0) A B T P Y G) H := hP
  have hD : va_D A9 (mW cJ cI cZ q (0) A B T P Y G) := hD
  refine W.eq (g2 := F0 m 36 ls [.int (0)]) rfl ?_
  refine lv_if_eq (tgt := 41) hx hb dM_seal_36 (by decide) (fun h_4 => ?_) (fun h_4 => absurd (by decide) h_4)
  refine lv_aload_n hx hb dM_seal_41 rfl (lv_at hl 0 rfl) ?_
  refine va_get (D := D) (ci := 1) (v := .ref (q 6)) (C := RM) (T := TM) (N := 7) hx hb hts inM hown hK hP 0 rfl rfl 6 (by decide) (hts _ w_261) (fun _ h9 => h9) rfl dM_seal_42 ?_
  refine lv_iload_n hx hb dM_seal_45 rfl (lv_at hl 2 rfl) ?_
  refine va_zald hx hb hK hP 6 2 rfl rfl hsi dM_seal_46 ?_
  refine W.eq (g2 := F0 m 47 ls [.int (bi (G si.toNatClampNeg))]) rfl ?_
  refine lv_if_eq (tgt := 59) hx hb dM_seal_47 (by decide) (fun h_5 => ?_) (fun h_5 => ?_)
  · have h_5 := bi_0 h_5
    refine lv_iconst (v := 1) hx hb dM_seal_59 (by decide) ?_
    have e9 : (ga_seal A B T P Y G si.toNatClampNeg ti.toNatClampNeg) = 1 := by (try simp only [decide_eq_true_eq, decide_eq_false_iff_not, Decidable.not_not] at h_5); unfold ga_seal ga_acc; simp [h_5]
    exact absurd (e9.symm.trans h0) (by decide)
  · have h_5 := bi_n h_5
    refine lv_aload_n hx hb dM_seal_50 rfl (lv_at hl 0 rfl) ?_
    refine va_get (D := D) (ci := 1) (v := .ref (q 6)) (C := RM) (T := TM) (N := 7) hx hb hts inM hown hK hP 0 rfl rfl 6 (by decide) (hts _ w_261) (fun _ h9 => h9) rfl dM_seal_51 ?_
    refine lv_iload_n hx hb dM_seal_54 rfl (lv_at hl 3 rfl) ?_
    refine va_zald hx hb hK hP 6 2 rfl rfl hti dM_seal_55 ?_
    refine W.eq (g2 := F0 m 56 ls [.int (bi (G ti.toNatClampNeg))]) rfl ?_
    refine lv_if_ne (tgt := 61) hx hb dM_seal_56 (by decide) (fun h_6 => ?_) (fun h_6 => ?_)
    · have h_6 := bi_n h_6
      refine lv_aload_n hx hb dM_seal_61 rfl (lv_at hl 0 rfl) ?_
      refine lv_iload_n hx hb dM_seal_62 rfl (lv_at hl 2 rfl) ?_
      refine kr_Vw 1 (b := q 0) (As := [.int (si)]) (rest := []) (r := .int (bi (decide (¬ Y si.toNatClampNeg = 0)))) hx hb hml hown hts hl.1 (mM_isSealed l D cJ cI cZ q (0) A B T P Y G (si) hsi) rB_stb ⟨hP, hK⟩ (gw_V w_314 w_316 w_10 w_15 w_317) (by decide) ⟨rfl, rfl⟩ ⟨Nat.le_of_ble_eq_true rfl, Nat.le_of_ble_eq_true rfl⟩ (va_recv hK hP (ci := 1) rfl (q0 := 0) rfl) rfl rfl (Nat.le_of_ble_eq_true rfl) dM_seal_63 ⟨Nat.zero_le _, Nat.zero_le _⟩ ?_
      refine lv_if_ne (tgt := 77) hx hb dM_seal_66 (by decide) (fun h_7 => ?_) (fun h_7 => ?_)
      · have h_7 := bi_n h_7
        refine lv_iconst (v := 2) hx hb dM_seal_77 (by decide) ?_
        have e9 : (ga_seal A B T P Y G si.toNatClampNeg ti.toNatClampNeg) = 2 := by (try simp only [decide_eq_true_eq, decide_eq_false_iff_not, Decidable.not_not] at h_5); (try simp only [decide_eq_true_eq, decide_eq_false_iff_not, Decidable.not_not] at h_6); (try simp only [decide_eq_true_eq, decide_eq_false_iff_not, Decidable.not_not] at h_7); unfold ga_seal ga_acc; simp [h_5, h_6, h_7]
        exact absurd (e9.symm.trans h0) (by decide)
      · have h_7 := bi_0 h_7
        refine lv_aload_n hx hb dM_seal_69 rfl (lv_at hl 0 rfl) ?_
        refine lv_iload_n hx hb dM_seal_70 rfl (lv_at hl 3 rfl) ?_
        refine kr_Vw 1 (b := q 0) (As := [.int (ti)]) (rest := []) (r := .int (bi (decide (¬ Y ti.toNatClampNeg = 0)))) hx hb hml hown hts hl.1 (mM_isSealed l D cJ cI cZ q (0) A B T P Y G (ti) hti) rB_stb ⟨hP, hK⟩ (gw_V w_314 w_316 w_10 w_15 w_317) (by decide) ⟨rfl, rfl⟩ ⟨Nat.le_of_ble_eq_true rfl, Nat.le_of_ble_eq_true rfl⟩ (va_recv hK hP (ci := 1) rfl (q0 := 0) rfl) rfl rfl (Nat.le_of_ble_eq_true rfl) dM_seal_71 ⟨Nat.zero_le _, Nat.zero_le _⟩ ?_
        refine lv_if_eq (tgt := 79) hx hb dM_seal_74 (by decide) (fun h_8 => ?_) (fun h_8 => ?_)
        · have h_8 := bi_0 h_8
          refine lv_aload_n hx hb dM_seal_79 rfl (lv_at hl 0 rfl) ?_
          refine lv_iload_n hx hb dM_seal_80 rfl (lv_at hl 3 rfl) ?_
          refine lv_bipush (v := 32) hx hb dM_seal_81 (by decide) ?_
          refine kr_V 2 (b := q 0) (As := [.int (ti), .int (32)]) (rest := []) (r := .int (bi (ga_pm (32) (P ti.toNatClampNeg)))) hx hb hml hown hts hl.1 (mM_may l D cJ cI cZ q (0) A B T P Y G (ti) (32) hti) rB_stb ⟨hP, hK⟩ (gw_V w_330 w_332 w_11 w_15 w_333) (by decide) ⟨rfl, rfl⟩ ⟨Nat.le_of_ble_eq_true rfl, Nat.le_of_ble_eq_true rfl⟩ (va_recv hK hP (ci := 1) rfl (q0 := 0) rfl) rfl rfl (Nat.le_of_ble_eq_true rfl) dM_seal_83 ⟨Nat.zero_le _, Nat.zero_le _⟩ ?_
          refine lv_if_ne (tgt := 91) hx hb dM_seal_86 (by decide) (fun h_9 => ?_) (fun h_9 => ?_)
          · have h_9 := bi_n h_9
            refine lv_aload_n hx hb dM_seal_91 rfl (lv_at hl 0 rfl) ?_
            refine lv_iload_n hx hb dM_seal_92 rfl (lv_at hl 3 rfl) ?_
            refine lv_aload_n hx hb dM_seal_93 rfl (lv_at hl 0 rfl) ?_
            refine va_get (D := D) (ci := 1) (v := .ref (q 1)) (C := RM) (T := TM) (N := 7) hx hb hts inM hown hK hP 0 rfl rfl 1 (by decide) (hts _ w_256) (fun _ h9 => h9) rfl dM_seal_94 ?_
            refine lv_iload_n hx hb dM_seal_97 rfl (lv_at hl 3 rfl) ?_
            refine va_lald hx hb hK hP 1 0 rfl rfl hti dM_seal_98 ?_
            refine W.eq (g2 := F0 m 99 ls [.long (uw (A ti.toNatClampNeg)), .int (ti), .ref (q 0)]) rfl ?_
            refine lv_lconst (v := 1) hx hb dM_seal_99 (by decide) ?_
            refine kr_V 3 (b := q 0) (As := [.int (ti), .long (uw (A ti.toNatClampNeg)), .long (1)]) (rest := []) (r := .int (bi (ga_in (B ti.toNatClampNeg) (T ti.toNatClampNeg) (A ti.toNatClampNeg) (1)))) hx hb hml hown hts hl.1 (mM_holds l D cJ cI cZ q (0) A B T P Y G (ti) (A ti.toNatClampNeg) (1) hti (by first | decide | omega)) rB_stb ⟨hP, hK⟩ (gw_V w_334 w_336 w_12 w_15 w_337) (by decide) ⟨rfl, rfl⟩ ⟨Nat.le_of_ble_eq_true rfl, Nat.le_of_ble_eq_true rfl⟩ (va_recv hK hP (ci := 1) rfl (q0 := 0) rfl) rfl rfl (Nat.le_of_ble_eq_true rfl) dM_seal_100 ⟨Nat.zero_le _, Nat.zero_le _⟩ ?_
            refine lv_if_eq (tgt := 122) hx hb dM_seal_103 (by decide) (fun h_10 => ?_) (fun h_10 => ?_)
            · have h_10 := bi_0 h_10
              refine lv_iconst (v := 4) hx hb dM_seal_122 (by decide) ?_
              have e9 : (ga_seal A B T P Y G si.toNatClampNeg ti.toNatClampNeg) = 4 := by (try simp only [decide_eq_true_eq, decide_eq_false_iff_not, Decidable.not_not] at h_5); (try simp only [decide_eq_true_eq, decide_eq_false_iff_not, Decidable.not_not] at h_6); (try simp only [decide_eq_true_eq, decide_eq_false_iff_not, Decidable.not_not] at h_7); (try simp only [decide_eq_true_eq, decide_eq_false_iff_not, Decidable.not_not] at h_8); (try simp only [decide_eq_true_eq, decide_eq_false_iff_not, Decidable.not_not] at h_9); (try simp only [decide_eq_true_eq, decide_eq_false_iff_not, Decidable.not_not] at h_10); unfold ga_seal ga_acc; simp [h_5, h_6, h_7, h_8, h_9, h_10]
              exact absurd (e9.symm.trans h0) (by decide)
            · have h_10 := bi_n h_10
              refine lv_aload_n hx hb dM_seal_106 rfl (lv_at hl 0 rfl) ?_
              refine va_get (D := D) (ci := 1) (v := .ref (q 1)) (C := RM) (T := TM) (N := 7) hx hb hts inM hown hK hP 0 rfl rfl 1 (by decide) (hts _ w_256) (fun _ h9 => h9) rfl dM_seal_107 ?_
              refine lv_iload_n hx hb dM_seal_110 rfl (lv_at hl 3 rfl) ?_
              refine va_lald hx hb hK hP 1 0 rfl rfl hti dM_seal_111 ?_
              refine W.eq (g2 := F0 m 112 ls [.long (uw (A ti.toNatClampNeg))]) rfl ?_
              refine lv_lconst (v := 1) hx hb dM_seal_112 (by decide) ?_
              refine lv_ldc2 (v := 65535) hx hb hown (hts _ w_338) dM_seal_113 ?_
              refine kr_S 3 (As := [.long (uw (A ti.toNatClampNeg)), .long (1), .long (65535)]) (rest := []) (r := .int (bi (decide ((1) ≤ (uw (A ti.toNatClampNeg))) && decide ((uw (A ti.toNatClampNeg)) ≤ (65535))))) hx hb hml hown hts hl.1 (mM_in l (uw (A ti.toNatClampNeg)) (1) (65535)) tt_stb trivial (gw_S w_291 w_292 w_15 w_293) (by decide) ⟨rfl, rfl⟩ ⟨Nat.le_of_ble_eq_true rfl, Nat.le_of_ble_eq_true rfl⟩ rfl rfl (Nat.le_of_ble_eq_true rfl) dM_seal_116 ⟨Nat.zero_le _, Nat.zero_le _⟩ ?_
              refine W.eq (g2 := F0 m 119 ls [.int (bi (decide (1 ≤ A ti.toNatClampNeg ∧ A ti.toNatClampNeg ≤ 65535)))]) (by rw [← ty_eq] <;> rfl) ?_
              refine lv_if_ne (tgt := 124) hx hb dM_seal_119 (by decide) (fun h_11 => ?_) (fun h_11 => ?_)
              · have h_11 := bi_n h_11
                refine lv_aload_n hx hb dM_seal_124 rfl (lv_at hl 0 rfl) ?_
                refine lv_iload_n hx hb dM_seal_125 rfl (lv_at hl 1 rfl) ?_
                refine lv_aload_n hx hb dM_seal_126 rfl (lv_at hl 0 rfl) ?_
                refine va_get (D := D) (ci := 1) (v := .ref (q 1)) (C := RM) (T := TM) (N := 7) hx hb hts inM hown hK hP 0 rfl rfl 1 (by decide) (hts _ w_256) (fun _ h9 => h9) rfl dM_seal_127 ?_
                refine lv_iload_n hx hb dM_seal_130 rfl (lv_at hl 2 rfl) ?_
                refine va_lald hx hb hK hP 1 0 rfl rfl hsi dM_seal_131 ?_
                refine W.eq (g2 := F0 m 132 ls [.long (uw (A si.toNatClampNeg)), .int (ri), .ref (q 0)]) rfl ?_
                refine lv_aload_n hx hb dM_seal_132 rfl (lv_at hl 0 rfl) ?_
                refine va_get (D := D) (ci := 1) (v := .ref (q 2)) (C := RM) (T := TM) (N := 7) hx hb hts inM hown hK hP 0 rfl rfl 2 (by decide) (hts _ w_257) (fun _ h9 => h9) rfl dM_seal_133 ?_
                refine lv_iload_n hx hb dM_seal_136 rfl (lv_at hl 2 rfl) ?_
                refine va_lald hx hb hK hP 2 0 rfl rfl hsi dM_seal_137 ?_
                refine W.eq (g2 := F0 m 138 ls [.long (uw (B si.toNatClampNeg)), .long (uw (A si.toNatClampNeg)), .int (ri), .ref (q 0)]) rfl ?_
                refine lv_aload_n hx hb dM_seal_138 rfl (lv_at hl 0 rfl) ?_
                refine va_get (D := D) (ci := 1) (v := .ref (q 3)) (C := RM) (T := TM) (N := 7) hx hb hts inM hown hK hP 0 rfl rfl 3 (by decide) (hts _ w_258) (fun _ h9 => h9) rfl dM_seal_139 ?_
                refine lv_iload_n hx hb dM_seal_142 rfl (lv_at hl 2 rfl) ?_
                refine va_lald hx hb hK hP 3 0 rfl rfl hsi dM_seal_143 ?_
                refine W.eq (g2 := F0 m 144 ls [.long (uw (T si.toNatClampNeg)), .long (uw (B si.toNatClampNeg)), .long (uw (A si.toNatClampNeg)), .int (ri), .ref (q 0)]) rfl ?_
                refine lv_aload_n hx hb dM_seal_144 rfl (lv_at hl 0 rfl) ?_
                refine va_get (D := D) (ci := 1) (v := .ref (q 4)) (C := RM) (T := TM) (N := 7) hx hb hts inM hown hK hP 0 rfl rfl 4 (by decide) (hts _ w_259) (fun _ h9 => h9) rfl dM_seal_145 ?_
                refine lv_iload_n hx hb dM_seal_148 rfl (lv_at hl 2 rfl) ?_
                refine va_iald hx hb hK hP 4 1 rfl rfl hsi dM_seal_149 ?_
                refine lv_aload_n hx hb dM_seal_150 rfl (lv_at hl 0 rfl) ?_
                refine va_get (D := D) (ci := 1) (v := .ref (q 1)) (C := RM) (T := TM) (N := 7) hx hb hts inM hown hK hP 0 rfl rfl 1 (by decide) (hts _ w_256) (fun _ h9 => h9) rfl dM_seal_151 ?_
                refine lv_iload_n hx hb dM_seal_154 rfl (lv_at hl 3 rfl) ?_
                refine va_lald hx hb hK hP 1 0 rfl rfl hti dM_seal_155 ?_
                refine W.eq (g2 := F0 m 156 ls [.long (uw (A ti.toNatClampNeg)), .int (P si.toNatClampNeg), .long (uw (T si.toNatClampNeg)), .long (uw (B si.toNatClampNeg)), .long (uw (A si.toNatClampNeg)), .int (ri), .ref (q 0)]) rfl ?_
                refine lv_l2i (v := A ti.toNatClampNeg) hx hb dM_seal_156 (uw_i _) ?_
                refine lv_iconst (v := 1) hx hb dM_seal_157 (by decide) ?_
                refine W.eq (g2 := F0 m 158 ls [.int (bi (true)), .int (A ti.toNatClampNeg), .int (P si.toNatClampNeg), .long (uw (T si.toNatClampNeg)), .long (uw (B si.toNatClampNeg)), .long (uw (A si.toNatClampNeg)), .int (ri), .ref (q 0)]) rfl ?_
                refine kw_V 7 [0, 1, 2, 3, 4, 5, 6] [] (b := q 0) (As := [.int (ri), .long (uw (A si.toNatClampNeg)), .long (uw (B si.toNatClampNeg)), .long (uw (T si.toNatClampNeg)), .int (P si.toNatClampNeg), .int (A ti.toNatClampNeg), .int (bi (true))]) (rest := []) (wc := mW cJ cI cZ q (0) A B T P Y G) (wr := []) (w1 := mW cJ cI cZ q (0) (upd A ri.toNatClampNeg (A si.toNatClampNeg)) (upd B ri.toNatClampNeg (B si.toNatClampNeg)) (upd T ri.toNatClampNeg (T si.toNatClampNeg)) (upd P ri.toNatClampNeg (P si.toNatClampNeg)) (upd Y ri.toNatClampNeg (A ti.toNatClampNeg)) (ub G ri.toNatClampNeg (true))) hx hb hml hown hts hl.1 hP hD hS hA hK (mM_give l D cJ cI cZ q (0) A B T P Y G _ ri (A si.toNatClampNeg) (B si.toNatClampNeg) (T si.toNatClampNeg) (P si.toNatClampNeg) (A ti.toNatClampNeg) true hri) (gw_V w_302 w_304 w_9 w_15 w_305) (by decide) ⟨rfl, rfl⟩ ⟨Nat.le_of_ble_eq_true rfl, Nat.le_of_ble_eq_true rfl⟩ (va_recv hK hP (ci := 1) rfl (q0 := 0) rfl) rfl rfl (Nat.le_of_ble_eq_true rfl) dM_seal_158 ⟨Nat.zero_le _, Nat.zero_le _⟩ rfl rfl ⟨by decide, by decide⟩ (by decide) (fun H locs hP hD hS => ?_)
                have hP : va_P D vwCl (mW cJ cI cZ q (0) (upd A ri.toNatClampNeg (A si.toNatClampNeg)) (upd B ri.toNatClampNeg (B si.toNatClampNeg)) (upd T ri.toNatClampNeg (T si.toNatClampNeg)) (upd P ri.toNatClampNeg (P si.toNatClampNeg)) (upd Y ri.toNatClampNeg (A ti.toNatClampNeg)) (ub G ri.toNatClampNeg (true))) H := hP
                have hD : va_D A9 (mW cJ cI cZ q (0) (upd A ri.toNatClampNeg (A si.toNatClampNeg)) (upd B ri.toNatClampNeg (B si.toNatClampNeg)) (upd T ri.toNatClampNeg (T si.toNatClampNeg)) (upd P ri.toNatClampNeg (P si.toNatClampNeg)) (upd Y ri.toNatClampNeg (A ti.toNatClampNeg)) (ub G ri.toNatClampNeg (true))) := hD
                refine W.eq (g2 := F0 m 161 ls []) rfl ?_
                refine lv_iconst (v := 0) hx hb dM_seal_161 (by decide) ?_
                exact W.iret (v := 0) hx hb hr (fun t9 ht hW => ⟨rfl, by rw [ht]; exact hP, hD, hS.F ht⟩) hS.2.2 dM_seal_162
              · have h_11 := bi_0 h_11
                refine lv_iconst (v := 4) hx hb dM_seal_122 (by decide) ?_
                have e9 : (ga_seal A B T P Y G si.toNatClampNeg ti.toNatClampNeg) = 4 := by (try simp only [decide_eq_true_eq, decide_eq_false_iff_not, Decidable.not_not] at h_5); (try simp only [decide_eq_true_eq, decide_eq_false_iff_not, Decidable.not_not] at h_6); (try simp only [decide_eq_true_eq, decide_eq_false_iff_not, Decidable.not_not] at h_7); (try simp only [decide_eq_true_eq, decide_eq_false_iff_not, Decidable.not_not] at h_8); (try simp only [decide_eq_true_eq, decide_eq_false_iff_not, Decidable.not_not] at h_9); (try simp only [decide_eq_true_eq, decide_eq_false_iff_not, Decidable.not_not] at h_10); (try simp only [decide_eq_true_eq, decide_eq_false_iff_not, Decidable.not_not] at h_11); unfold ga_seal ga_acc; simp [h_5, h_6, h_7, h_8, h_9, h_10, h_11]
                exact absurd (e9.symm.trans h0) (by decide)
          · have h_9 := bi_0 h_9
            refine lv_iconst (v := 3) hx hb dM_seal_89 (by decide) ?_
            have e9 : (ga_seal A B T P Y G si.toNatClampNeg ti.toNatClampNeg) = 3 := by (try simp only [decide_eq_true_eq, decide_eq_false_iff_not, Decidable.not_not] at h_5); (try simp only [decide_eq_true_eq, decide_eq_false_iff_not, Decidable.not_not] at h_6); (try simp only [decide_eq_true_eq, decide_eq_false_iff_not, Decidable.not_not] at h_7); (try simp only [decide_eq_true_eq, decide_eq_false_iff_not, Decidable.not_not] at h_8); (try simp only [decide_eq_true_eq, decide_eq_false_iff_not, Decidable.not_not] at h_9); unfold ga_seal ga_acc; simp [h_5, h_6, h_7, h_8, h_9]
            exact absurd (e9.symm.trans h0) (by decide)
        · have h_8 := bi_n h_8
          refine lv_iconst (v := 2) hx hb dM_seal_77 (by decide) ?_
          have e9 : (ga_seal A B T P Y G si.toNatClampNeg ti.toNatClampNeg) = 2 := by (try simp only [decide_eq_true_eq, decide_eq_false_iff_not, Decidable.not_not] at h_5); (try simp only [decide_eq_true_eq, decide_eq_false_iff_not, Decidable.not_not] at h_6); (try simp only [decide_eq_true_eq, decide_eq_false_iff_not, Decidable.not_not] at h_7); (try simp only [decide_eq_true_eq, decide_eq_false_iff_not, Decidable.not_not] at h_8); unfold ga_seal ga_acc; simp [h_5, h_6, h_7, h_8]
          exact absurd (e9.symm.trans h0) (by decide)
    · have h_6 := bi_0 h_6
      refine lv_iconst (v := 1) hx hb dM_seal_59 (by decide) ?_
      have e9 : (ga_seal A B T P Y G si.toNatClampNeg ti.toNatClampNeg) = 1 := by (try simp only [decide_eq_true_eq, decide_eq_false_iff_not, Decidable.not_not] at h_5); (try simp only [decide_eq_true_eq, decide_eq_false_iff_not, Decidable.not_not] at h_6); unfold ga_seal ga_acc; simp [h_5, h_6]
      exact absurd (e9.symm.trans h0) (by decide)

set_option maxRecDepth 100000 in
set_option maxHeartbeats 4000000 in
theorem mM_seal_n (l : Launch) (D : va_G) (cJ cI cZ : ClassId) (q : Nat → Nat) (e0 : Int32) (A B T P Y : Nat → Int32) (G : Nat → Bool) (sz : Nat) (ri si ti : Int32) (hri : vp_in ri 16) (hsi : vp_in si 16) (hti : vp_in ti 16) (h0 : ¬ ga_seal A B T P Y G si.toNatClampNeg ti.toNatClampNeg = 0) : Met l yM_seal (Cond.code yM_seal cM_seal 4 (some .int) :: gw) (rmk 2 0 0) (va_Pc [.ref (q 0), .int (ri), .int (si), .int (ti)] (kB D vwCl (mW cJ cI cZ q (e0) A B T P Y G) (tsM cJ cI cZ) sz)) (kQ (some (.int (ga_seal A B T P Y G si.toNatClampNeg ti.toNatClampNeg))) D vwCl (mW cJ cI cZ q (0) A B T P Y G) (va_A (mW cJ cI cZ q (e0) A B T P Y G) sz)) 0 0 (va_A (mW cJ cI cZ q (e0) A B T P Y G) sz) := by
  refine Met.ofW (cc := cM_seal) (maxL := 4) (ret := (some .int)) (by decide) rfl ?_
  intro p e s m args below meth c s₁ B9 hml hv
  obtain ⟨rfl, hsz, hP, hK, hD0⟩ := hv
  have hx := B9.exec
  have hb := B9.bytes
  have hr := B9.returns
  have hts := fun (w : Cond) (h : w ∈ gw) => atoms_spec (ws := _ :: gw) B9.pre w (List.mem_cons_of_mem _ h)
  have hown : s.vm.findClass RM = some m.cls := findClass_of_methodNamed B9.named
  have hlocks := B9.notSynchronized
  have hl := lv_entry ([.ref (q 0), .int (ri), .int (si), .int (ti)]) (n := 4) (Nat.le_of_ble_eq_true rfl)
  rw [lg_entry_eq]
  generalize (lg_sl ([.ref (q 0), .int (ri), .int (si), .int (ti)]) ++ List.replicate (4 - (lg_sl ([.ref (q 0), .int (ri), .int (si), .int (ti)])).length) Slot.unset).toArray = ls at hl ⊢
  have hl : lv_has ls 4 [(0, .ref (q 0)), (1, .int (ri)), (2, .int (si)), (3, .int (ti))] := hl
  subst hsz
  have hD := hD0.self (sz := s.heap.size)
  generalize hAe : va_A (mW cJ cI cZ q (e0) A B T P Y G) s.heap.size = A9 at hD ⊢
  have hA : ∀ z : Nat, s.heap.size ≤ z → A9 z := fun z h => by rw [← hAe]; exact Or.inr h
  have hS : va_S A9 s.heap s.heap [] := va_S.rf
  have hP : va_P D vwCl (mW cJ cI cZ q (e0) A B T P Y G) s.heap := hP
  refine lv_aload_n hx hb dM_seal_0 rfl (lv_at hl 0 rfl) ?_
  refine lv_iconst (v := 0) hx hb dM_seal_1 (by decide) ?_
  refine va_put (D := D) (ci := 1) (v := .int (0)) (ty := .int) (C := RM) (T := TM) (N := 7) hx hb hts inM tyM tyM_ok nmM hown hK hP hD hS 0 rfl rfl 0 (by decide) (hts _ w_255) (fun _ h9 => h9) rfl (by decide +kernel) rfl rfl (Nat.le_of_ble_eq_true rfl) dM_seal_2 (fun H locs hP hD hS => ?_)
  have hP : va_P D vwCl (mW cJ cI cZ q (0) A B T P Y G) H := hP
  have hD : va_D A9 (mW cJ cI cZ q (0) A B T P Y G) := hD
  refine lv_aload_n hx hb dM_seal_5 rfl (lv_at hl 0 rfl) ?_
  refine lv_iload_n hx hb dM_seal_6 rfl (lv_at hl 1 rfl) ?_
  refine kr_S 1 (As := [.int (ri)]) (rest := [.ref (q 0)]) (r := .int (bi (gi ri))) hx hb hml hown hts hl.1 (mM_is l (ri)) tt_stb trivial (gw_S w_298 w_299 w_15 w_300) (by decide) ⟨rfl, rfl⟩ ⟨Nat.le_of_ble_eq_true rfl, Nat.le_of_ble_eq_true rfl⟩ rfl rfl (Nat.le_of_ble_eq_true rfl) dM_seal_7 ⟨Nat.zero_le _, Nat.zero_le _⟩ ?_
  refine lv_if_eq (tgt := 27) hx hb dM_seal_10 (by decide) (fun h_1 => absurd h_1 (gi_nz hri)) (fun h_1 => ?_)
  have h_1 := bi_n h_1
  refine lv_iload_n hx hb dM_seal_13 rfl (lv_at hl 2 rfl) ?_
  refine kr_S 1 (As := [.int (si)]) (rest := [.ref (q 0)]) (r := .int (bi (gi si))) hx hb hml hown hts hl.1 (mM_is l (si)) tt_stb trivial (gw_S w_298 w_299 w_15 w_300) (by decide) ⟨rfl, rfl⟩ ⟨Nat.le_of_ble_eq_true rfl, Nat.le_of_ble_eq_true rfl⟩ rfl rfl (Nat.le_of_ble_eq_true rfl) dM_seal_14 ⟨Nat.zero_le _, Nat.zero_le _⟩ ?_
  refine lv_if_eq (tgt := 27) hx hb dM_seal_17 (by decide) (fun h_2 => absurd h_2 (gi_nz hsi)) (fun h_2 => ?_)
  have h_2 := bi_n h_2
  refine lv_iload_n hx hb dM_seal_20 rfl (lv_at hl 3 rfl) ?_
  refine kr_S 1 (As := [.int (ti)]) (rest := [.ref (q 0)]) (r := .int (bi (gi ti))) hx hb hml hown hts hl.1 (mM_is l (ti)) tt_stb trivial (gw_S w_298 w_299 w_15 w_300) (by decide) ⟨rfl, rfl⟩ ⟨Nat.le_of_ble_eq_true rfl, Nat.le_of_ble_eq_true rfl⟩ rfl rfl (Nat.le_of_ble_eq_true rfl) dM_seal_21 ⟨Nat.zero_le _, Nat.zero_le _⟩ ?_
  refine lv_if_ne (tgt := 31) hx hb dM_seal_24 (by decide) (fun h_3 => ?_) (fun h_3 => absurd h_3 (gi_nz hti))
  have h_3 := bi_n h_3
  refine lv_iconst (v := 0) hx hb dM_seal_31 (by decide) ?_
  refine lv_iconst (v := 1) hx hb dM_seal_32 (by decide) ?_
  refine kw_V 2 [0, 1, 2, 3, 4, 5, 6] [] (b := q 0) (As := [.int (0), .int (1)]) (rest := []) (wc := mW cJ cI cZ q (0) A B T P Y G) (wr := []) (w1 := mW cJ cI cZ q (0) A B T P Y G) hx hb hml hown hts hl.1 hP hD hS hA hK (mM_fails_f l D cJ cI cZ q 0 A B T P Y G _ 1) (gw_V w_294 w_296 w_8 w_15 w_297) (by decide) ⟨rfl, rfl⟩ ⟨Nat.le_of_ble_eq_true rfl, Nat.le_of_ble_eq_true rfl⟩ (va_recv hK hP (ci := 1) rfl (q0 := 0) rfl) rfl rfl (Nat.le_of_ble_eq_true rfl) dM_seal_33 ⟨Nat.zero_le _, Nat.zero_le _⟩ rfl rfl ⟨by decide, by decide⟩ (by decide) (fun H locs hP hD hS => ?_)
  have hP : va_P D vwCl (mW cJ cI cZ q (0) A B T P Y G) H := hP
  have hD : va_D A9 (mW cJ cI cZ q (0) A B T P Y G) := hD
  refine W.eq (g2 := F0 m 36 ls [.int (0)]) rfl ?_
  refine lv_if_eq (tgt := 41) hx hb dM_seal_36 (by decide) (fun h_4 => ?_) (fun h_4 => absurd (by decide) h_4)
  refine lv_aload_n hx hb dM_seal_41 rfl (lv_at hl 0 rfl) ?_
  refine va_get (D := D) (ci := 1) (v := .ref (q 6)) (C := RM) (T := TM) (N := 7) hx hb hts inM hown hK hP 0 rfl rfl 6 (by decide) (hts _ w_261) (fun _ h9 => h9) rfl dM_seal_42 ?_
  refine lv_iload_n hx hb dM_seal_45 rfl (lv_at hl 2 rfl) ?_
  refine va_zald hx hb hK hP 6 2 rfl rfl hsi dM_seal_46 ?_
  refine W.eq (g2 := F0 m 47 ls [.int (bi (G si.toNatClampNeg))]) rfl ?_
  refine lv_if_eq (tgt := 59) hx hb dM_seal_47 (by decide) (fun h_5 => ?_) (fun h_5 => ?_)
  · have h_5 := bi_0 h_5
    refine lv_iconst (v := 1) hx hb dM_seal_59 (by decide) ?_
    have e9 : (ga_seal A B T P Y G si.toNatClampNeg ti.toNatClampNeg) = 1 := by (try simp only [decide_eq_true_eq, decide_eq_false_iff_not, Decidable.not_not] at h_5); unfold ga_seal ga_acc; simp [h_5]
    refine W.eq (g2 := F0 m 60 ls [.int (ga_seal A B T P Y G si.toNatClampNeg ti.toNatClampNeg)]) (by rw [e9] <;> rfl) ?_
    exact W.iret (v := ga_seal A B T P Y G si.toNatClampNeg ti.toNatClampNeg) hx hb hr (fun t9 ht hW => ⟨rfl, by rw [ht]; exact hP, hD, hS.F ht⟩) hS.2.2 dM_seal_60
  · have h_5 := bi_n h_5
    refine lv_aload_n hx hb dM_seal_50 rfl (lv_at hl 0 rfl) ?_
    refine va_get (D := D) (ci := 1) (v := .ref (q 6)) (C := RM) (T := TM) (N := 7) hx hb hts inM hown hK hP 0 rfl rfl 6 (by decide) (hts _ w_261) (fun _ h9 => h9) rfl dM_seal_51 ?_
    refine lv_iload_n hx hb dM_seal_54 rfl (lv_at hl 3 rfl) ?_
    refine va_zald hx hb hK hP 6 2 rfl rfl hti dM_seal_55 ?_
    refine W.eq (g2 := F0 m 56 ls [.int (bi (G ti.toNatClampNeg))]) rfl ?_
    refine lv_if_ne (tgt := 61) hx hb dM_seal_56 (by decide) (fun h_6 => ?_) (fun h_6 => ?_)
    · have h_6 := bi_n h_6
      refine lv_aload_n hx hb dM_seal_61 rfl (lv_at hl 0 rfl) ?_
      refine lv_iload_n hx hb dM_seal_62 rfl (lv_at hl 2 rfl) ?_
      refine kr_Vw 1 (b := q 0) (As := [.int (si)]) (rest := []) (r := .int (bi (decide (¬ Y si.toNatClampNeg = 0)))) hx hb hml hown hts hl.1 (mM_isSealed l D cJ cI cZ q (0) A B T P Y G (si) hsi) rB_stb ⟨hP, hK⟩ (gw_V w_314 w_316 w_10 w_15 w_317) (by decide) ⟨rfl, rfl⟩ ⟨Nat.le_of_ble_eq_true rfl, Nat.le_of_ble_eq_true rfl⟩ (va_recv hK hP (ci := 1) rfl (q0 := 0) rfl) rfl rfl (Nat.le_of_ble_eq_true rfl) dM_seal_63 ⟨Nat.zero_le _, Nat.zero_le _⟩ ?_
      refine lv_if_ne (tgt := 77) hx hb dM_seal_66 (by decide) (fun h_7 => ?_) (fun h_7 => ?_)
      · have h_7 := bi_n h_7
        refine lv_iconst (v := 2) hx hb dM_seal_77 (by decide) ?_
        have e9 : (ga_seal A B T P Y G si.toNatClampNeg ti.toNatClampNeg) = 2 := by (try simp only [decide_eq_true_eq, decide_eq_false_iff_not, Decidable.not_not] at h_5); (try simp only [decide_eq_true_eq, decide_eq_false_iff_not, Decidable.not_not] at h_6); (try simp only [decide_eq_true_eq, decide_eq_false_iff_not, Decidable.not_not] at h_7); unfold ga_seal ga_acc; simp [h_5, h_6, h_7]
        refine W.eq (g2 := F0 m 78 ls [.int (ga_seal A B T P Y G si.toNatClampNeg ti.toNatClampNeg)]) (by rw [e9] <;> rfl) ?_
        exact W.iret (v := ga_seal A B T P Y G si.toNatClampNeg ti.toNatClampNeg) hx hb hr (fun t9 ht hW => ⟨rfl, by rw [ht]; exact hP, hD, hS.F ht⟩) hS.2.2 dM_seal_78
      · have h_7 := bi_0 h_7
        refine lv_aload_n hx hb dM_seal_69 rfl (lv_at hl 0 rfl) ?_
        refine lv_iload_n hx hb dM_seal_70 rfl (lv_at hl 3 rfl) ?_
        refine kr_Vw 1 (b := q 0) (As := [.int (ti)]) (rest := []) (r := .int (bi (decide (¬ Y ti.toNatClampNeg = 0)))) hx hb hml hown hts hl.1 (mM_isSealed l D cJ cI cZ q (0) A B T P Y G (ti) hti) rB_stb ⟨hP, hK⟩ (gw_V w_314 w_316 w_10 w_15 w_317) (by decide) ⟨rfl, rfl⟩ ⟨Nat.le_of_ble_eq_true rfl, Nat.le_of_ble_eq_true rfl⟩ (va_recv hK hP (ci := 1) rfl (q0 := 0) rfl) rfl rfl (Nat.le_of_ble_eq_true rfl) dM_seal_71 ⟨Nat.zero_le _, Nat.zero_le _⟩ ?_
        refine lv_if_eq (tgt := 79) hx hb dM_seal_74 (by decide) (fun h_8 => ?_) (fun h_8 => ?_)
        · have h_8 := bi_0 h_8
          refine lv_aload_n hx hb dM_seal_79 rfl (lv_at hl 0 rfl) ?_
          refine lv_iload_n hx hb dM_seal_80 rfl (lv_at hl 3 rfl) ?_
          refine lv_bipush (v := 32) hx hb dM_seal_81 (by decide) ?_
          refine kr_V 2 (b := q 0) (As := [.int (ti), .int (32)]) (rest := []) (r := .int (bi (ga_pm (32) (P ti.toNatClampNeg)))) hx hb hml hown hts hl.1 (mM_may l D cJ cI cZ q (0) A B T P Y G (ti) (32) hti) rB_stb ⟨hP, hK⟩ (gw_V w_330 w_332 w_11 w_15 w_333) (by decide) ⟨rfl, rfl⟩ ⟨Nat.le_of_ble_eq_true rfl, Nat.le_of_ble_eq_true rfl⟩ (va_recv hK hP (ci := 1) rfl (q0 := 0) rfl) rfl rfl (Nat.le_of_ble_eq_true rfl) dM_seal_83 ⟨Nat.zero_le _, Nat.zero_le _⟩ ?_
          refine lv_if_ne (tgt := 91) hx hb dM_seal_86 (by decide) (fun h_9 => ?_) (fun h_9 => ?_)
          · have h_9 := bi_n h_9
            refine lv_aload_n hx hb dM_seal_91 rfl (lv_at hl 0 rfl) ?_
            refine lv_iload_n hx hb dM_seal_92 rfl (lv_at hl 3 rfl) ?_
            refine lv_aload_n hx hb dM_seal_93 rfl (lv_at hl 0 rfl) ?_
            refine va_get (D := D) (ci := 1) (v := .ref (q 1)) (C := RM) (T := TM) (N := 7) hx hb hts inM hown hK hP 0 rfl rfl 1 (by decide) (hts _ w_256) (fun _ h9 => h9) rfl dM_seal_94 ?_
            refine lv_iload_n hx hb dM_seal_97 rfl (lv_at hl 3 rfl) ?_
            refine va_lald hx hb hK hP 1 0 rfl rfl hti dM_seal_98 ?_
            refine W.eq (g2 := F0 m 99 ls [.long (uw (A ti.toNatClampNeg)), .int (ti), .ref (q 0)]) rfl ?_
            refine lv_lconst (v := 1) hx hb dM_seal_99 (by decide) ?_
            refine kr_V 3 (b := q 0) (As := [.int (ti), .long (uw (A ti.toNatClampNeg)), .long (1)]) (rest := []) (r := .int (bi (ga_in (B ti.toNatClampNeg) (T ti.toNatClampNeg) (A ti.toNatClampNeg) (1)))) hx hb hml hown hts hl.1 (mM_holds l D cJ cI cZ q (0) A B T P Y G (ti) (A ti.toNatClampNeg) (1) hti (by first | decide | omega)) rB_stb ⟨hP, hK⟩ (gw_V w_334 w_336 w_12 w_15 w_337) (by decide) ⟨rfl, rfl⟩ ⟨Nat.le_of_ble_eq_true rfl, Nat.le_of_ble_eq_true rfl⟩ (va_recv hK hP (ci := 1) rfl (q0 := 0) rfl) rfl rfl (Nat.le_of_ble_eq_true rfl) dM_seal_100 ⟨Nat.zero_le _, Nat.zero_le _⟩ ?_
            refine lv_if_eq (tgt := 122) hx hb dM_seal_103 (by decide) (fun h_10 => ?_) (fun h_10 => ?_)
            · have h_10 := bi_0 h_10
              refine lv_iconst (v := 4) hx hb dM_seal_122 (by decide) ?_
              have e9 : (ga_seal A B T P Y G si.toNatClampNeg ti.toNatClampNeg) = 4 := by (try simp only [decide_eq_true_eq, decide_eq_false_iff_not, Decidable.not_not] at h_5); (try simp only [decide_eq_true_eq, decide_eq_false_iff_not, Decidable.not_not] at h_6); (try simp only [decide_eq_true_eq, decide_eq_false_iff_not, Decidable.not_not] at h_7); (try simp only [decide_eq_true_eq, decide_eq_false_iff_not, Decidable.not_not] at h_8); (try simp only [decide_eq_true_eq, decide_eq_false_iff_not, Decidable.not_not] at h_9); (try simp only [decide_eq_true_eq, decide_eq_false_iff_not, Decidable.not_not] at h_10); unfold ga_seal ga_acc; simp [h_5, h_6, h_7, h_8, h_9, h_10]
              refine W.eq (g2 := F0 m 123 ls [.int (ga_seal A B T P Y G si.toNatClampNeg ti.toNatClampNeg)]) (by rw [e9] <;> rfl) ?_
              exact W.iret (v := ga_seal A B T P Y G si.toNatClampNeg ti.toNatClampNeg) hx hb hr (fun t9 ht hW => ⟨rfl, by rw [ht]; exact hP, hD, hS.F ht⟩) hS.2.2 dM_seal_123
            · have h_10 := bi_n h_10
              refine lv_aload_n hx hb dM_seal_106 rfl (lv_at hl 0 rfl) ?_
              refine va_get (D := D) (ci := 1) (v := .ref (q 1)) (C := RM) (T := TM) (N := 7) hx hb hts inM hown hK hP 0 rfl rfl 1 (by decide) (hts _ w_256) (fun _ h9 => h9) rfl dM_seal_107 ?_
              refine lv_iload_n hx hb dM_seal_110 rfl (lv_at hl 3 rfl) ?_
              refine va_lald hx hb hK hP 1 0 rfl rfl hti dM_seal_111 ?_
              refine W.eq (g2 := F0 m 112 ls [.long (uw (A ti.toNatClampNeg))]) rfl ?_
              refine lv_lconst (v := 1) hx hb dM_seal_112 (by decide) ?_
              refine lv_ldc2 (v := 65535) hx hb hown (hts _ w_338) dM_seal_113 ?_
              refine kr_S 3 (As := [.long (uw (A ti.toNatClampNeg)), .long (1), .long (65535)]) (rest := []) (r := .int (bi (decide ((1) ≤ (uw (A ti.toNatClampNeg))) && decide ((uw (A ti.toNatClampNeg)) ≤ (65535))))) hx hb hml hown hts hl.1 (mM_in l (uw (A ti.toNatClampNeg)) (1) (65535)) tt_stb trivial (gw_S w_291 w_292 w_15 w_293) (by decide) ⟨rfl, rfl⟩ ⟨Nat.le_of_ble_eq_true rfl, Nat.le_of_ble_eq_true rfl⟩ rfl rfl (Nat.le_of_ble_eq_true rfl) dM_seal_116 ⟨Nat.zero_le _, Nat.zero_le _⟩ ?_
              refine W.eq (g2 := F0 m 119 ls [.int (bi (decide (1 ≤ A ti.toNatClampNeg ∧ A ti.toNatClampNeg ≤ 65535)))]) (by rw [← ty_eq] <;> rfl) ?_
              refine lv_if_ne (tgt := 124) hx hb dM_seal_119 (by decide) (fun h_11 => ?_) (fun h_11 => ?_)
              · have h_11 := bi_n h_11
                refine lv_aload_n hx hb dM_seal_124 rfl (lv_at hl 0 rfl) ?_
                refine lv_iload_n hx hb dM_seal_125 rfl (lv_at hl 1 rfl) ?_
                refine lv_aload_n hx hb dM_seal_126 rfl (lv_at hl 0 rfl) ?_
                refine va_get (D := D) (ci := 1) (v := .ref (q 1)) (C := RM) (T := TM) (N := 7) hx hb hts inM hown hK hP 0 rfl rfl 1 (by decide) (hts _ w_256) (fun _ h9 => h9) rfl dM_seal_127 ?_
                refine lv_iload_n hx hb dM_seal_130 rfl (lv_at hl 2 rfl) ?_
                refine va_lald hx hb hK hP 1 0 rfl rfl hsi dM_seal_131 ?_
                refine W.eq (g2 := F0 m 132 ls [.long (uw (A si.toNatClampNeg)), .int (ri), .ref (q 0)]) rfl ?_
                refine lv_aload_n hx hb dM_seal_132 rfl (lv_at hl 0 rfl) ?_
                refine va_get (D := D) (ci := 1) (v := .ref (q 2)) (C := RM) (T := TM) (N := 7) hx hb hts inM hown hK hP 0 rfl rfl 2 (by decide) (hts _ w_257) (fun _ h9 => h9) rfl dM_seal_133 ?_
                refine lv_iload_n hx hb dM_seal_136 rfl (lv_at hl 2 rfl) ?_
                refine va_lald hx hb hK hP 2 0 rfl rfl hsi dM_seal_137 ?_
                refine W.eq (g2 := F0 m 138 ls [.long (uw (B si.toNatClampNeg)), .long (uw (A si.toNatClampNeg)), .int (ri), .ref (q 0)]) rfl ?_
                refine lv_aload_n hx hb dM_seal_138 rfl (lv_at hl 0 rfl) ?_
                refine va_get (D := D) (ci := 1) (v := .ref (q 3)) (C := RM) (T := TM) (N := 7) hx hb hts inM hown hK hP 0 rfl rfl 3 (by decide) (hts _ w_258) (fun _ h9 => h9) rfl dM_seal_139 ?_
                refine lv_iload_n hx hb dM_seal_142 rfl (lv_at hl 2 rfl) ?_
                refine va_lald hx hb hK hP 3 0 rfl rfl hsi dM_seal_143 ?_
                refine W.eq (g2 := F0 m 144 ls [.long (uw (T si.toNatClampNeg)), .long (uw (B si.toNatClampNeg)), .long (uw (A si.toNatClampNeg)), .int (ri), .ref (q 0)]) rfl ?_
                refine lv_aload_n hx hb dM_seal_144 rfl (lv_at hl 0 rfl) ?_
                refine va_get (D := D) (ci := 1) (v := .ref (q 4)) (C := RM) (T := TM) (N := 7) hx hb hts inM hown hK hP 0 rfl rfl 4 (by decide) (hts _ w_259) (fun _ h9 => h9) rfl dM_seal_145 ?_
                refine lv_iload_n hx hb dM_seal_148 rfl (lv_at hl 2 rfl) ?_
                refine va_iald hx hb hK hP 4 1 rfl rfl hsi dM_seal_149 ?_
                refine lv_aload_n hx hb dM_seal_150 rfl (lv_at hl 0 rfl) ?_
                refine va_get (D := D) (ci := 1) (v := .ref (q 1)) (C := RM) (T := TM) (N := 7) hx hb hts inM hown hK hP 0 rfl rfl 1 (by decide) (hts _ w_256) (fun _ h9 => h9) rfl dM_seal_151 ?_
                refine lv_iload_n hx hb dM_seal_154 rfl (lv_at hl 3 rfl) ?_
                refine va_lald hx hb hK hP 1 0 rfl rfl hti dM_seal_155 ?_
                refine W.eq (g2 := F0 m 156 ls [.long (uw (A ti.toNatClampNeg)), .int (P si.toNatClampNeg), .long (uw (T si.toNatClampNeg)), .long (uw (B si.toNatClampNeg)), .long (uw (A si.toNatClampNeg)), .int (ri), .ref (q 0)]) rfl ?_
                refine lv_l2i (v := A ti.toNatClampNeg) hx hb dM_seal_156 (uw_i _) ?_
                refine lv_iconst (v := 1) hx hb dM_seal_157 (by decide) ?_
                refine W.eq (g2 := F0 m 158 ls [.int (bi (true)), .int (A ti.toNatClampNeg), .int (P si.toNatClampNeg), .long (uw (T si.toNatClampNeg)), .long (uw (B si.toNatClampNeg)), .long (uw (A si.toNatClampNeg)), .int (ri), .ref (q 0)]) rfl ?_
                refine kw_V 7 [0, 1, 2, 3, 4, 5, 6] [] (b := q 0) (As := [.int (ri), .long (uw (A si.toNatClampNeg)), .long (uw (B si.toNatClampNeg)), .long (uw (T si.toNatClampNeg)), .int (P si.toNatClampNeg), .int (A ti.toNatClampNeg), .int (bi (true))]) (rest := []) (wc := mW cJ cI cZ q (0) A B T P Y G) (wr := []) (w1 := mW cJ cI cZ q (0) (upd A ri.toNatClampNeg (A si.toNatClampNeg)) (upd B ri.toNatClampNeg (B si.toNatClampNeg)) (upd T ri.toNatClampNeg (T si.toNatClampNeg)) (upd P ri.toNatClampNeg (P si.toNatClampNeg)) (upd Y ri.toNatClampNeg (A ti.toNatClampNeg)) (ub G ri.toNatClampNeg (true))) hx hb hml hown hts hl.1 hP hD hS hA hK (mM_give l D cJ cI cZ q (0) A B T P Y G _ ri (A si.toNatClampNeg) (B si.toNatClampNeg) (T si.toNatClampNeg) (P si.toNatClampNeg) (A ti.toNatClampNeg) true hri) (gw_V w_302 w_304 w_9 w_15 w_305) (by decide) ⟨rfl, rfl⟩ ⟨Nat.le_of_ble_eq_true rfl, Nat.le_of_ble_eq_true rfl⟩ (va_recv hK hP (ci := 1) rfl (q0 := 0) rfl) rfl rfl (Nat.le_of_ble_eq_true rfl) dM_seal_158 ⟨Nat.zero_le _, Nat.zero_le _⟩ rfl rfl ⟨by decide, by decide⟩ (by decide) (fun H locs hP hD hS => ?_)
                have hP : va_P D vwCl (mW cJ cI cZ q (0) (upd A ri.toNatClampNeg (A si.toNatClampNeg)) (upd B ri.toNatClampNeg (B si.toNatClampNeg)) (upd T ri.toNatClampNeg (T si.toNatClampNeg)) (upd P ri.toNatClampNeg (P si.toNatClampNeg)) (upd Y ri.toNatClampNeg (A ti.toNatClampNeg)) (ub G ri.toNatClampNeg (true))) H := hP
                have hD : va_D A9 (mW cJ cI cZ q (0) (upd A ri.toNatClampNeg (A si.toNatClampNeg)) (upd B ri.toNatClampNeg (B si.toNatClampNeg)) (upd T ri.toNatClampNeg (T si.toNatClampNeg)) (upd P ri.toNatClampNeg (P si.toNatClampNeg)) (upd Y ri.toNatClampNeg (A ti.toNatClampNeg)) (ub G ri.toNatClampNeg (true))) := hD
                refine W.eq (g2 := F0 m 161 ls []) rfl ?_
                refine lv_iconst (v := 0) hx hb dM_seal_161 (by decide) ?_
                have e9 : (ga_seal A B T P Y G si.toNatClampNeg ti.toNatClampNeg) = 0 := by (try simp only [decide_eq_true_eq, decide_eq_false_iff_not, Decidable.not_not] at h_5); (try simp only [decide_eq_true_eq, decide_eq_false_iff_not, Decidable.not_not] at h_6); (try simp only [decide_eq_true_eq, decide_eq_false_iff_not, Decidable.not_not] at h_7); (try simp only [decide_eq_true_eq, decide_eq_false_iff_not, Decidable.not_not] at h_8); (try simp only [decide_eq_true_eq, decide_eq_false_iff_not, Decidable.not_not] at h_9); (try simp only [decide_eq_true_eq, decide_eq_false_iff_not, Decidable.not_not] at h_10); (try simp only [decide_eq_true_eq, decide_eq_false_iff_not, Decidable.not_not] at h_11); unfold ga_seal ga_acc; simp [h_5, h_6, h_7, h_8, h_9, h_10, h_11]
                exact absurd e9 h0
              · have h_11 := bi_0 h_11
                refine lv_iconst (v := 4) hx hb dM_seal_122 (by decide) ?_
                have e9 : (ga_seal A B T P Y G si.toNatClampNeg ti.toNatClampNeg) = 4 := by (try simp only [decide_eq_true_eq, decide_eq_false_iff_not, Decidable.not_not] at h_5); (try simp only [decide_eq_true_eq, decide_eq_false_iff_not, Decidable.not_not] at h_6); (try simp only [decide_eq_true_eq, decide_eq_false_iff_not, Decidable.not_not] at h_7); (try simp only [decide_eq_true_eq, decide_eq_false_iff_not, Decidable.not_not] at h_8); (try simp only [decide_eq_true_eq, decide_eq_false_iff_not, Decidable.not_not] at h_9); (try simp only [decide_eq_true_eq, decide_eq_false_iff_not, Decidable.not_not] at h_10); (try simp only [decide_eq_true_eq, decide_eq_false_iff_not, Decidable.not_not] at h_11); unfold ga_seal ga_acc; simp [h_5, h_6, h_7, h_8, h_9, h_10, h_11]
                refine W.eq (g2 := F0 m 123 ls [.int (ga_seal A B T P Y G si.toNatClampNeg ti.toNatClampNeg)]) (by rw [e9] <;> rfl) ?_
                exact W.iret (v := ga_seal A B T P Y G si.toNatClampNeg ti.toNatClampNeg) hx hb hr (fun t9 ht hW => ⟨rfl, by rw [ht]; exact hP, hD, hS.F ht⟩) hS.2.2 dM_seal_123
          · have h_9 := bi_0 h_9
            refine lv_iconst (v := 3) hx hb dM_seal_89 (by decide) ?_
            have e9 : (ga_seal A B T P Y G si.toNatClampNeg ti.toNatClampNeg) = 3 := by (try simp only [decide_eq_true_eq, decide_eq_false_iff_not, Decidable.not_not] at h_5); (try simp only [decide_eq_true_eq, decide_eq_false_iff_not, Decidable.not_not] at h_6); (try simp only [decide_eq_true_eq, decide_eq_false_iff_not, Decidable.not_not] at h_7); (try simp only [decide_eq_true_eq, decide_eq_false_iff_not, Decidable.not_not] at h_8); (try simp only [decide_eq_true_eq, decide_eq_false_iff_not, Decidable.not_not] at h_9); unfold ga_seal ga_acc; simp [h_5, h_6, h_7, h_8, h_9]
            refine W.eq (g2 := F0 m 90 ls [.int (ga_seal A B T P Y G si.toNatClampNeg ti.toNatClampNeg)]) (by rw [e9] <;> rfl) ?_
            exact W.iret (v := ga_seal A B T P Y G si.toNatClampNeg ti.toNatClampNeg) hx hb hr (fun t9 ht hW => ⟨rfl, by rw [ht]; exact hP, hD, hS.F ht⟩) hS.2.2 dM_seal_90
        · have h_8 := bi_n h_8
          refine lv_iconst (v := 2) hx hb dM_seal_77 (by decide) ?_
          have e9 : (ga_seal A B T P Y G si.toNatClampNeg ti.toNatClampNeg) = 2 := by (try simp only [decide_eq_true_eq, decide_eq_false_iff_not, Decidable.not_not] at h_5); (try simp only [decide_eq_true_eq, decide_eq_false_iff_not, Decidable.not_not] at h_6); (try simp only [decide_eq_true_eq, decide_eq_false_iff_not, Decidable.not_not] at h_7); (try simp only [decide_eq_true_eq, decide_eq_false_iff_not, Decidable.not_not] at h_8); unfold ga_seal ga_acc; simp [h_5, h_6, h_7, h_8]
          refine W.eq (g2 := F0 m 78 ls [.int (ga_seal A B T P Y G si.toNatClampNeg ti.toNatClampNeg)]) (by rw [e9] <;> rfl) ?_
          exact W.iret (v := ga_seal A B T P Y G si.toNatClampNeg ti.toNatClampNeg) hx hb hr (fun t9 ht hW => ⟨rfl, by rw [ht]; exact hP, hD, hS.F ht⟩) hS.2.2 dM_seal_78
    · have h_6 := bi_0 h_6
      refine lv_iconst (v := 1) hx hb dM_seal_59 (by decide) ?_
      have e9 : (ga_seal A B T P Y G si.toNatClampNeg ti.toNatClampNeg) = 1 := by (try simp only [decide_eq_true_eq, decide_eq_false_iff_not, Decidable.not_not] at h_5); (try simp only [decide_eq_true_eq, decide_eq_false_iff_not, Decidable.not_not] at h_6); unfold ga_seal ga_acc; simp [h_5, h_6]
      refine W.eq (g2 := F0 m 60 ls [.int (ga_seal A B T P Y G si.toNatClampNeg ti.toNatClampNeg)]) (by rw [e9] <;> rfl) ?_
      exact W.iret (v := ga_seal A B T P Y G si.toNatClampNeg ti.toNatClampNeg) hx hb hr (fun t9 ht hW => ⟨rfl, by rw [ht]; exact hP, hD, hS.F ht⟩) hS.2.2 dM_seal_60

set_option maxRecDepth 100000 in
set_option maxHeartbeats 4000000 in
theorem mM_seal_x (l : Launch) (D : va_G) (cJ cI cZ : ClassId) (q : Nat → Nat) (e0 : Int32) (A B T P Y : Nat → Int32) (G : Nat → Bool) (sz : Nat) (ri si ti : Int32) (hbad : ¬ (vp_in ri 16 ∧ vp_in si 16 ∧ vp_in ti 16)) : Met l yM_seal (Cond.code yM_seal cM_seal 4 (some .int) :: gw) (rmk 2 0 0) (va_Pc [.ref (q 0), .int (ri), .int (si), .int (ti)] (kB D vwCl (mW cJ cI cZ q (e0) A B T P Y G) (tsM cJ cI cZ) sz)) (kQ (some (.int (0))) D vwCl (mW cJ cI cZ q (1) A B T P Y G) (va_A (mW cJ cI cZ q (e0) A B T P Y G) sz)) 0 0 (va_A (mW cJ cI cZ q (e0) A B T P Y G) sz) := by
  refine Met.ofW (cc := cM_seal) (maxL := 4) (ret := (some .int)) (by decide) rfl ?_
  intro p e s m args below meth c s₁ B9 hml hv
  obtain ⟨rfl, hsz, hP, hK, hD0⟩ := hv
  have hx := B9.exec
  have hb := B9.bytes
  have hr := B9.returns
  have hts := fun (w : Cond) (h : w ∈ gw) => atoms_spec (ws := _ :: gw) B9.pre w (List.mem_cons_of_mem _ h)
  have hown : s.vm.findClass RM = some m.cls := findClass_of_methodNamed B9.named
  have hlocks := B9.notSynchronized
  have hl := lv_entry ([.ref (q 0), .int (ri), .int (si), .int (ti)]) (n := 4) (Nat.le_of_ble_eq_true rfl)
  rw [lg_entry_eq]
  generalize (lg_sl ([.ref (q 0), .int (ri), .int (si), .int (ti)]) ++ List.replicate (4 - (lg_sl ([.ref (q 0), .int (ri), .int (si), .int (ti)])).length) Slot.unset).toArray = ls at hl ⊢
  have hl : lv_has ls 4 [(0, .ref (q 0)), (1, .int (ri)), (2, .int (si)), (3, .int (ti))] := hl
  subst hsz
  have hD := hD0.self (sz := s.heap.size)
  generalize hAe : va_A (mW cJ cI cZ q (e0) A B T P Y G) s.heap.size = A9 at hD ⊢
  have hA : ∀ z : Nat, s.heap.size ≤ z → A9 z := fun z h => by rw [← hAe]; exact Or.inr h
  have hS : va_S A9 s.heap s.heap [] := va_S.rf
  have hP : va_P D vwCl (mW cJ cI cZ q (e0) A B T P Y G) s.heap := hP
  refine lv_aload_n hx hb dM_seal_0 rfl (lv_at hl 0 rfl) ?_
  refine lv_iconst (v := 0) hx hb dM_seal_1 (by decide) ?_
  refine va_put (D := D) (ci := 1) (v := .int (0)) (ty := .int) (C := RM) (T := TM) (N := 7) hx hb hts inM tyM tyM_ok nmM hown hK hP hD hS 0 rfl rfl 0 (by decide) (hts _ w_255) (fun _ h9 => h9) rfl (by decide +kernel) rfl rfl (Nat.le_of_ble_eq_true rfl) dM_seal_2 (fun H locs hP hD hS => ?_)
  have hP : va_P D vwCl (mW cJ cI cZ q (0) A B T P Y G) H := hP
  have hD : va_D A9 (mW cJ cI cZ q (0) A B T P Y G) := hD
  refine lv_aload_n hx hb dM_seal_5 rfl (lv_at hl 0 rfl) ?_
  refine lv_iload_n hx hb dM_seal_6 rfl (lv_at hl 1 rfl) ?_
  refine kr_S 1 (As := [.int (ri)]) (rest := [.ref (q 0)]) (r := .int (bi (gi ri))) hx hb hml hown hts hl.1 (mM_is l (ri)) tt_stb trivial (gw_S w_298 w_299 w_15 w_300) (by decide) ⟨rfl, rfl⟩ ⟨Nat.le_of_ble_eq_true rfl, Nat.le_of_ble_eq_true rfl⟩ rfl rfl (Nat.le_of_ble_eq_true rfl) dM_seal_7 ⟨Nat.zero_le _, Nat.zero_le _⟩ ?_
  refine lv_if_eq (tgt := 27) hx hb dM_seal_10 (by decide) (fun h_1 => ?_) (fun h_1 => ?_)
  · have h_1 := bi_0 h_1
    refine lv_iconst (v := 1) hx hb dM_seal_27 (by decide) ?_
    refine lv_goto (tgt := 32) hx hb dM_seal_28 (by decide) ?_
    refine lv_iconst (v := 1) hx hb dM_seal_32 (by decide) ?_
    refine kw_V 2 [0, 1, 2, 3, 4, 5, 6] [] (b := q 0) (As := [.int (1), .int (1)]) (rest := []) (wc := mW cJ cI cZ q (0) A B T P Y G) (wr := []) (w1 := mW cJ cI cZ q (1) A B T P Y G) hx hb hml hown hts hl.1 hP hD hS hA hK (mM_fails_t l D cJ cI cZ q 0 A B T P Y G _ 1 (by decide)) (gw_V w_294 w_296 w_8 w_15 w_297) (by decide) ⟨rfl, rfl⟩ ⟨Nat.le_of_ble_eq_true rfl, Nat.le_of_ble_eq_true rfl⟩ (va_recv hK hP (ci := 1) rfl (q0 := 0) rfl) rfl rfl (Nat.le_of_ble_eq_true rfl) dM_seal_33 ⟨Nat.zero_le _, Nat.zero_le _⟩ rfl rfl ⟨by decide, by decide⟩ (by decide) (fun H locs hP hD hS => ?_)
    have hP : va_P D vwCl (mW cJ cI cZ q (1) A B T P Y G) H := hP
    have hD : va_D A9 (mW cJ cI cZ q (1) A B T P Y G) := hD
    refine W.eq (g2 := F0 m 36 ls [.int (1)]) rfl ?_
    refine lv_if_eq (tgt := 41) hx hb dM_seal_36 (by decide) (fun h_2 => absurd h_2 (by decide)) (fun h_2 => ?_)
    refine lv_iconst (v := 0) hx hb dM_seal_39 (by decide) ?_
    exact W.iret (v := 0) hx hb hr (fun t9 ht hW => ⟨rfl, by rw [ht]; exact hP, hD, hS.F ht⟩) hS.2.2 dM_seal_40
  · have h_1 := bi_n h_1
    refine lv_iload_n hx hb dM_seal_13 rfl (lv_at hl 2 rfl) ?_
    refine kr_S 1 (As := [.int (si)]) (rest := [.ref (q 0)]) (r := .int (bi (gi si))) hx hb hml hown hts hl.1 (mM_is l (si)) tt_stb trivial (gw_S w_298 w_299 w_15 w_300) (by decide) ⟨rfl, rfl⟩ ⟨Nat.le_of_ble_eq_true rfl, Nat.le_of_ble_eq_true rfl⟩ rfl rfl (Nat.le_of_ble_eq_true rfl) dM_seal_14 ⟨Nat.zero_le _, Nat.zero_le _⟩ ?_
    refine lv_if_eq (tgt := 27) hx hb dM_seal_17 (by decide) (fun h_3 => ?_) (fun h_3 => ?_)
    · have h_3 := bi_0 h_3
      refine lv_iconst (v := 1) hx hb dM_seal_27 (by decide) ?_
      refine lv_goto (tgt := 32) hx hb dM_seal_28 (by decide) ?_
      refine lv_iconst (v := 1) hx hb dM_seal_32 (by decide) ?_
      refine kw_V 2 [0, 1, 2, 3, 4, 5, 6] [] (b := q 0) (As := [.int (1), .int (1)]) (rest := []) (wc := mW cJ cI cZ q (0) A B T P Y G) (wr := []) (w1 := mW cJ cI cZ q (1) A B T P Y G) hx hb hml hown hts hl.1 hP hD hS hA hK (mM_fails_t l D cJ cI cZ q 0 A B T P Y G _ 1 (by decide)) (gw_V w_294 w_296 w_8 w_15 w_297) (by decide) ⟨rfl, rfl⟩ ⟨Nat.le_of_ble_eq_true rfl, Nat.le_of_ble_eq_true rfl⟩ (va_recv hK hP (ci := 1) rfl (q0 := 0) rfl) rfl rfl (Nat.le_of_ble_eq_true rfl) dM_seal_33 ⟨Nat.zero_le _, Nat.zero_le _⟩ rfl rfl ⟨by decide, by decide⟩ (by decide) (fun H locs hP hD hS => ?_)
      have hP : va_P D vwCl (mW cJ cI cZ q (1) A B T P Y G) H := hP
      have hD : va_D A9 (mW cJ cI cZ q (1) A B T P Y G) := hD
      refine W.eq (g2 := F0 m 36 ls [.int (1)]) rfl ?_
      refine lv_if_eq (tgt := 41) hx hb dM_seal_36 (by decide) (fun h_4 => absurd h_4 (by decide)) (fun h_4 => ?_)
      refine lv_iconst (v := 0) hx hb dM_seal_39 (by decide) ?_
      exact W.iret (v := 0) hx hb hr (fun t9 ht hW => ⟨rfl, by rw [ht]; exact hP, hD, hS.F ht⟩) hS.2.2 dM_seal_40
    · have h_3 := bi_n h_3
      refine lv_iload_n hx hb dM_seal_20 rfl (lv_at hl 3 rfl) ?_
      refine kr_S 1 (As := [.int (ti)]) (rest := [.ref (q 0)]) (r := .int (bi (gi ti))) hx hb hml hown hts hl.1 (mM_is l (ti)) tt_stb trivial (gw_S w_298 w_299 w_15 w_300) (by decide) ⟨rfl, rfl⟩ ⟨Nat.le_of_ble_eq_true rfl, Nat.le_of_ble_eq_true rfl⟩ rfl rfl (Nat.le_of_ble_eq_true rfl) dM_seal_21 ⟨Nat.zero_le _, Nat.zero_le _⟩ ?_
      refine lv_if_ne (tgt := 31) hx hb dM_seal_24 (by decide) (fun h_5 => ?_) (fun h_5 => ?_)
      · have h_5 := bi_n h_5
        exact absurd ⟨gi_in.mp h_1, gi_in.mp h_3, gi_in.mp h_5⟩ hbad
      · have h_5 := bi_0 h_5
        refine lv_iconst (v := 1) hx hb dM_seal_27 (by decide) ?_
        refine lv_goto (tgt := 32) hx hb dM_seal_28 (by decide) ?_
        refine lv_iconst (v := 1) hx hb dM_seal_32 (by decide) ?_
        refine kw_V 2 [0, 1, 2, 3, 4, 5, 6] [] (b := q 0) (As := [.int (1), .int (1)]) (rest := []) (wc := mW cJ cI cZ q (0) A B T P Y G) (wr := []) (w1 := mW cJ cI cZ q (1) A B T P Y G) hx hb hml hown hts hl.1 hP hD hS hA hK (mM_fails_t l D cJ cI cZ q 0 A B T P Y G _ 1 (by decide)) (gw_V w_294 w_296 w_8 w_15 w_297) (by decide) ⟨rfl, rfl⟩ ⟨Nat.le_of_ble_eq_true rfl, Nat.le_of_ble_eq_true rfl⟩ (va_recv hK hP (ci := 1) rfl (q0 := 0) rfl) rfl rfl (Nat.le_of_ble_eq_true rfl) dM_seal_33 ⟨Nat.zero_le _, Nat.zero_le _⟩ rfl rfl ⟨by decide, by decide⟩ (by decide) (fun H locs hP hD hS => ?_)
        have hP : va_P D vwCl (mW cJ cI cZ q (1) A B T P Y G) H := hP
        have hD : va_D A9 (mW cJ cI cZ q (1) A B T P Y G) := hD
        refine W.eq (g2 := F0 m 36 ls [.int (1)]) rfl ?_
        refine lv_if_eq (tgt := 41) hx hb dM_seal_36 (by decide) (fun h_6 => absurd h_6 (by decide)) (fun h_6 => ?_)
        refine lv_iconst (v := 0) hx hb dM_seal_39 (by decide) ?_
        exact W.iret (v := 0) hx hb hr (fun t9 ht hW => ⟨rfl, by rw [ht]; exact hP, hD, hS.F ht⟩) hS.2.2 dM_seal_40

set_option maxRecDepth 100000 in
set_option maxHeartbeats 4000000 in
theorem mM_unseal_y (l : Launch) (D : va_G) (cJ cI cZ : ClassId) (q : Nat → Nat) (e0 : Int32) (A B T P Y : Nat → Int32) (G : Nat → Bool) (sz : Nat) (ri si ti : Int32) (hri : vp_in ri 16) (hsi : vp_in si 16) (hti : vp_in ti 16) (hys : ¬ Y si.toNatClampNeg < 0) (h0 : ga_open A B T P Y G si.toNatClampNeg ti.toNatClampNeg = 0) : Met l yM_unseal (Cond.code yM_unseal cM_unseal 4 (some .int) :: gw) (rmk 2 0 0) (va_Pc [.ref (q 0), .int (ri), .int (si), .int (ti)] (kB D vwCl (mW cJ cI cZ q (e0) A B T P Y G) (tsM cJ cI cZ) sz)) (kQ (some (.int (0))) D vwCl (mW cJ cI cZ q (0) (upd A ri.toNatClampNeg (A si.toNatClampNeg)) (upd B ri.toNatClampNeg (B si.toNatClampNeg)) (upd T ri.toNatClampNeg (T si.toNatClampNeg)) (upd P ri.toNatClampNeg (P si.toNatClampNeg)) (upd Y ri.toNatClampNeg (0)) (ub G ri.toNatClampNeg (true))) (va_A (mW cJ cI cZ q (e0) A B T P Y G) sz)) 0 0 (va_A (mW cJ cI cZ q (e0) A B T P Y G) sz) := by
  refine Met.ofW (cc := cM_unseal) (maxL := 4) (ret := (some .int)) (by decide) rfl ?_
  intro p e s m args below meth c s₁ B9 hml hv
  obtain ⟨rfl, hsz, hP, hK, hD0⟩ := hv
  have hx := B9.exec
  have hb := B9.bytes
  have hr := B9.returns
  have hts := fun (w : Cond) (h : w ∈ gw) => atoms_spec (ws := _ :: gw) B9.pre w (List.mem_cons_of_mem _ h)
  have hown : s.vm.findClass RM = some m.cls := findClass_of_methodNamed B9.named
  have hlocks := B9.notSynchronized
  have hl := lv_entry ([.ref (q 0), .int (ri), .int (si), .int (ti)]) (n := 4) (Nat.le_of_ble_eq_true rfl)
  rw [lg_entry_eq]
  generalize (lg_sl ([.ref (q 0), .int (ri), .int (si), .int (ti)]) ++ List.replicate (4 - (lg_sl ([.ref (q 0), .int (ri), .int (si), .int (ti)])).length) Slot.unset).toArray = ls at hl ⊢
  have hl : lv_has ls 4 [(0, .ref (q 0)), (1, .int (ri)), (2, .int (si)), (3, .int (ti))] := hl
  subst hsz
  have hD := hD0.self (sz := s.heap.size)
  generalize hAe : va_A (mW cJ cI cZ q (e0) A B T P Y G) s.heap.size = A9 at hD ⊢
  have hA : ∀ z : Nat, s.heap.size ≤ z → A9 z := fun z h => by rw [← hAe]; exact Or.inr h
  have hS : va_S A9 s.heap s.heap [] := va_S.rf
  have hP : va_P D vwCl (mW cJ cI cZ q (e0) A B T P Y G) s.heap := hP
  refine lv_aload_n hx hb dM_unseal_0 rfl (lv_at hl 0 rfl) ?_
  refine lv_iconst (v := 0) hx hb dM_unseal_1 (by decide) ?_
  refine va_put (D := D) (ci := 1) (v := .int (0)) (ty := .int) (C := RM) (T := TM) (N := 7) hx hb hts inM tyM tyM_ok nmM hown hK hP hD hS 0 rfl rfl 0 (by decide) (hts _ w_255) (fun _ h9 => h9) rfl (by decide +kernel) rfl rfl (Nat.le_of_ble_eq_true rfl) dM_unseal_2 (fun H locs hP hD hS => ?_)
  have hP : va_P D vwCl (mW cJ cI cZ q (0) A B T P Y G) H := hP
  have hD : va_D A9 (mW cJ cI cZ q (0) A B T P Y G) := hD
  refine lv_aload_n hx hb dM_unseal_5 rfl (lv_at hl 0 rfl) ?_
  refine lv_iload_n hx hb dM_unseal_6 rfl (lv_at hl 1 rfl) ?_
  refine kr_S 1 (As := [.int (ri)]) (rest := [.ref (q 0)]) (r := .int (bi (gi ri))) hx hb hml hown hts hl.1 (mM_is l (ri)) tt_stb trivial (gw_S w_298 w_299 w_15 w_300) (by decide) ⟨rfl, rfl⟩ ⟨Nat.le_of_ble_eq_true rfl, Nat.le_of_ble_eq_true rfl⟩ rfl rfl (Nat.le_of_ble_eq_true rfl) dM_unseal_7 ⟨Nat.zero_le _, Nat.zero_le _⟩ ?_
  refine lv_if_eq (tgt := 27) hx hb dM_unseal_10 (by decide) (fun h_1 => absurd h_1 (gi_nz hri)) (fun h_1 => ?_)
  have h_1 := bi_n h_1
  refine lv_iload_n hx hb dM_unseal_13 rfl (lv_at hl 2 rfl) ?_
  refine kr_S 1 (As := [.int (si)]) (rest := [.ref (q 0)]) (r := .int (bi (gi si))) hx hb hml hown hts hl.1 (mM_is l (si)) tt_stb trivial (gw_S w_298 w_299 w_15 w_300) (by decide) ⟨rfl, rfl⟩ ⟨Nat.le_of_ble_eq_true rfl, Nat.le_of_ble_eq_true rfl⟩ rfl rfl (Nat.le_of_ble_eq_true rfl) dM_unseal_14 ⟨Nat.zero_le _, Nat.zero_le _⟩ ?_
  refine lv_if_eq (tgt := 27) hx hb dM_unseal_17 (by decide) (fun h_2 => absurd h_2 (gi_nz hsi)) (fun h_2 => ?_)
  have h_2 := bi_n h_2
  refine lv_iload_n hx hb dM_unseal_20 rfl (lv_at hl 3 rfl) ?_
  refine kr_S 1 (As := [.int (ti)]) (rest := [.ref (q 0)]) (r := .int (bi (gi ti))) hx hb hml hown hts hl.1 (mM_is l (ti)) tt_stb trivial (gw_S w_298 w_299 w_15 w_300) (by decide) ⟨rfl, rfl⟩ ⟨Nat.le_of_ble_eq_true rfl, Nat.le_of_ble_eq_true rfl⟩ rfl rfl (Nat.le_of_ble_eq_true rfl) dM_unseal_21 ⟨Nat.zero_le _, Nat.zero_le _⟩ ?_
  refine lv_if_ne (tgt := 31) hx hb dM_unseal_24 (by decide) (fun h_3 => ?_) (fun h_3 => absurd h_3 (gi_nz hti))
  have h_3 := bi_n h_3
  refine lv_iconst (v := 0) hx hb dM_unseal_31 (by decide) ?_
  refine lv_iconst (v := 1) hx hb dM_unseal_32 (by decide) ?_
  refine kw_V 2 [0, 1, 2, 3, 4, 5, 6] [] (b := q 0) (As := [.int (0), .int (1)]) (rest := []) (wc := mW cJ cI cZ q (0) A B T P Y G) (wr := []) (w1 := mW cJ cI cZ q (0) A B T P Y G) hx hb hml hown hts hl.1 hP hD hS hA hK (mM_fails_f l D cJ cI cZ q 0 A B T P Y G _ 1) (gw_V w_294 w_296 w_8 w_15 w_297) (by decide) ⟨rfl, rfl⟩ ⟨Nat.le_of_ble_eq_true rfl, Nat.le_of_ble_eq_true rfl⟩ (va_recv hK hP (ci := 1) rfl (q0 := 0) rfl) rfl rfl (Nat.le_of_ble_eq_true rfl) dM_unseal_33 ⟨Nat.zero_le _, Nat.zero_le _⟩ rfl rfl ⟨by decide, by decide⟩ (by decide) (fun H locs hP hD hS => ?_)
  have hP : va_P D vwCl (mW cJ cI cZ q (0) A B T P Y G) H := hP
  have hD : va_D A9 (mW cJ cI cZ q (0) A B T P Y G) := hD
  refine W.eq (g2 := F0 m 36 ls [.int (0)]) rfl ?_
  refine lv_if_eq (tgt := 41) hx hb dM_unseal_36 (by decide) (fun h_4 => ?_) (fun h_4 => absurd (by decide) h_4)
  refine lv_aload_n hx hb dM_unseal_41 rfl (lv_at hl 0 rfl) ?_
  refine va_get (D := D) (ci := 1) (v := .ref (q 6)) (C := RM) (T := TM) (N := 7) hx hb hts inM hown hK hP 0 rfl rfl 6 (by decide) (hts _ w_261) (fun _ h9 => h9) rfl dM_unseal_42 ?_
  refine lv_iload_n hx hb dM_unseal_45 rfl (lv_at hl 2 rfl) ?_
  refine va_zald hx hb hK hP 6 2 rfl rfl hsi dM_unseal_46 ?_
  refine W.eq (g2 := F0 m 47 ls [.int (bi (G si.toNatClampNeg))]) rfl ?_
  refine lv_if_eq (tgt := 59) hx hb dM_unseal_47 (by decide) (fun h_5 => ?_) (fun h_5 => ?_)
  · have h_5 := bi_0 h_5
    refine lv_iconst (v := 1) hx hb dM_unseal_59 (by decide) ?_
    have e9 : (ga_open A B T P Y G si.toNatClampNeg ti.toNatClampNeg) = 1 := by (try simp only [decide_eq_true_eq, decide_eq_false_iff_not, Decidable.not_not] at h_5); unfold ga_open ga_acc; simp [h_5]
    exact absurd (e9.symm.trans h0) (by decide)
  · have h_5 := bi_n h_5
    refine lv_aload_n hx hb dM_unseal_50 rfl (lv_at hl 0 rfl) ?_
    refine va_get (D := D) (ci := 1) (v := .ref (q 6)) (C := RM) (T := TM) (N := 7) hx hb hts inM hown hK hP 0 rfl rfl 6 (by decide) (hts _ w_261) (fun _ h9 => h9) rfl dM_unseal_51 ?_
    refine lv_iload_n hx hb dM_unseal_54 rfl (lv_at hl 3 rfl) ?_
    refine va_zald hx hb hK hP 6 2 rfl rfl hti dM_unseal_55 ?_
    refine W.eq (g2 := F0 m 56 ls [.int (bi (G ti.toNatClampNeg))]) rfl ?_
    refine lv_if_ne (tgt := 61) hx hb dM_unseal_56 (by decide) (fun h_6 => ?_) (fun h_6 => ?_)
    · have h_6 := bi_n h_6
      refine lv_aload_n hx hb dM_unseal_61 rfl (lv_at hl 0 rfl) ?_
      refine lv_iload_n hx hb dM_unseal_62 rfl (lv_at hl 2 rfl) ?_
      refine kr_Vw 1 (b := q 0) (As := [.int (si)]) (rest := []) (r := .int (bi (decide (¬ Y si.toNatClampNeg = 0)))) hx hb hml hown hts hl.1 (mM_isSealed l D cJ cI cZ q (0) A B T P Y G (si) hsi) rB_stb ⟨hP, hK⟩ (gw_V w_314 w_316 w_10 w_15 w_317) (by decide) ⟨rfl, rfl⟩ ⟨Nat.le_of_ble_eq_true rfl, Nat.le_of_ble_eq_true rfl⟩ (va_recv hK hP (ci := 1) rfl (q0 := 0) rfl) rfl rfl (Nat.le_of_ble_eq_true rfl) dM_unseal_63 ⟨Nat.zero_le _, Nat.zero_le _⟩ ?_
      refine lv_if_eq (tgt := 77) hx hb dM_unseal_66 (by decide) (fun h_7 => ?_) (fun h_7 => ?_)
      · have h_7 := bi_0 h_7
        refine lv_iconst (v := 2) hx hb dM_unseal_77 (by decide) ?_
        have e9 : (ga_open A B T P Y G si.toNatClampNeg ti.toNatClampNeg) = 2 := by (try simp only [decide_eq_true_eq, decide_eq_false_iff_not, Decidable.not_not] at h_5); (try simp only [decide_eq_true_eq, decide_eq_false_iff_not, Decidable.not_not] at h_6); (try simp only [decide_eq_true_eq, decide_eq_false_iff_not, Decidable.not_not] at h_7); unfold ga_open ga_acc; simp [h_5, h_6, h_7]
        exact absurd (e9.symm.trans h0) (by decide)
      · have h_7 := bi_n h_7
        refine lv_aload_n hx hb dM_unseal_69 rfl (lv_at hl 0 rfl) ?_
        refine lv_iload_n hx hb dM_unseal_70 rfl (lv_at hl 3 rfl) ?_
        refine kr_Vw 1 (b := q 0) (As := [.int (ti)]) (rest := []) (r := .int (bi (decide (¬ Y ti.toNatClampNeg = 0)))) hx hb hml hown hts hl.1 (mM_isSealed l D cJ cI cZ q (0) A B T P Y G (ti) hti) rB_stb ⟨hP, hK⟩ (gw_V w_314 w_316 w_10 w_15 w_317) (by decide) ⟨rfl, rfl⟩ ⟨Nat.le_of_ble_eq_true rfl, Nat.le_of_ble_eq_true rfl⟩ (va_recv hK hP (ci := 1) rfl (q0 := 0) rfl) rfl rfl (Nat.le_of_ble_eq_true rfl) dM_unseal_71 ⟨Nat.zero_le _, Nat.zero_le _⟩ ?_
        refine lv_if_eq (tgt := 79) hx hb dM_unseal_74 (by decide) (fun h_8 => ?_) (fun h_8 => ?_)
        · have h_8 := bi_0 h_8
          refine lv_aload_n hx hb dM_unseal_79 rfl (lv_at hl 0 rfl) ?_
          refine lv_iload_n hx hb dM_unseal_80 rfl (lv_at hl 3 rfl) ?_
          refine lv_bipush (v := 64) hx hb dM_unseal_81 (by decide) ?_
          refine kr_V 2 (b := q 0) (As := [.int (ti), .int (64)]) (rest := []) (r := .int (bi (ga_pm (64) (P ti.toNatClampNeg)))) hx hb hml hown hts hl.1 (mM_may l D cJ cI cZ q (0) A B T P Y G (ti) (64) hti) rB_stb ⟨hP, hK⟩ (gw_V w_330 w_332 w_11 w_15 w_333) (by decide) ⟨rfl, rfl⟩ ⟨Nat.le_of_ble_eq_true rfl, Nat.le_of_ble_eq_true rfl⟩ (va_recv hK hP (ci := 1) rfl (q0 := 0) rfl) rfl rfl (Nat.le_of_ble_eq_true rfl) dM_unseal_83 ⟨Nat.zero_le _, Nat.zero_le _⟩ ?_
          refine lv_if_ne (tgt := 91) hx hb dM_unseal_86 (by decide) (fun h_9 => ?_) (fun h_9 => ?_)
          · have h_9 := bi_n h_9
            refine lv_aload_n hx hb dM_unseal_91 rfl (lv_at hl 0 rfl) ?_
            refine lv_iload_n hx hb dM_unseal_92 rfl (lv_at hl 3 rfl) ?_
            refine lv_aload_n hx hb dM_unseal_93 rfl (lv_at hl 0 rfl) ?_
            refine va_get (D := D) (ci := 1) (v := .ref (q 1)) (C := RM) (T := TM) (N := 7) hx hb hts inM hown hK hP 0 rfl rfl 1 (by decide) (hts _ w_256) (fun _ h9 => h9) rfl dM_unseal_94 ?_
            refine lv_iload_n hx hb dM_unseal_97 rfl (lv_at hl 3 rfl) ?_
            refine va_lald hx hb hK hP 1 0 rfl rfl hti dM_unseal_98 ?_
            refine W.eq (g2 := F0 m 99 ls [.long (uw (A ti.toNatClampNeg)), .int (ti), .ref (q 0)]) rfl ?_
            refine lv_lconst (v := 1) hx hb dM_unseal_99 (by decide) ?_
            refine kr_V 3 (b := q 0) (As := [.int (ti), .long (uw (A ti.toNatClampNeg)), .long (1)]) (rest := []) (r := .int (bi (ga_in (B ti.toNatClampNeg) (T ti.toNatClampNeg) (A ti.toNatClampNeg) (1)))) hx hb hml hown hts hl.1 (mM_holds l D cJ cI cZ q (0) A B T P Y G (ti) (A ti.toNatClampNeg) (1) hti (by first | decide | omega)) rB_stb ⟨hP, hK⟩ (gw_V w_334 w_336 w_12 w_15 w_337) (by decide) ⟨rfl, rfl⟩ ⟨Nat.le_of_ble_eq_true rfl, Nat.le_of_ble_eq_true rfl⟩ (va_recv hK hP (ci := 1) rfl (q0 := 0) rfl) rfl rfl (Nat.le_of_ble_eq_true rfl) dM_unseal_100 ⟨Nat.zero_le _, Nat.zero_le _⟩ ?_
            refine lv_if_eq (tgt := 123) hx hb dM_unseal_103 (by decide) (fun h_10 => ?_) (fun h_10 => ?_)
            · have h_10 := bi_0 h_10
              refine lv_iconst (v := 4) hx hb dM_unseal_123 (by decide) ?_
              have e9 : (ga_open A B T P Y G si.toNatClampNeg ti.toNatClampNeg) = 4 := by (try simp only [decide_eq_true_eq, decide_eq_false_iff_not, Decidable.not_not] at h_5); (try simp only [decide_eq_true_eq, decide_eq_false_iff_not, Decidable.not_not] at h_6); (try simp only [decide_eq_true_eq, decide_eq_false_iff_not, Decidable.not_not] at h_7); (try simp only [decide_eq_true_eq, decide_eq_false_iff_not, Decidable.not_not] at h_8); (try simp only [decide_eq_true_eq, decide_eq_false_iff_not, Decidable.not_not] at h_9); (try simp only [decide_eq_true_eq, decide_eq_false_iff_not, Decidable.not_not] at h_10); unfold ga_open ga_acc; simp [h_5, h_6, h_7, h_8, h_9, h_10]
              exact absurd (e9.symm.trans h0) (by decide)
            · have h_10 := bi_n h_10
              refine lv_aload_n hx hb dM_unseal_106 rfl (lv_at hl 0 rfl) ?_
              refine va_get (D := D) (ci := 1) (v := .ref (q 1)) (C := RM) (T := TM) (N := 7) hx hb hts inM hown hK hP 0 rfl rfl 1 (by decide) (hts _ w_256) (fun _ h9 => h9) rfl dM_unseal_107 ?_
              refine lv_iload_n hx hb dM_unseal_110 rfl (lv_at hl 3 rfl) ?_
              refine va_lald hx hb hK hP 1 0 rfl rfl hti dM_unseal_111 ?_
              refine W.eq (g2 := F0 m 112 ls [.long (uw (A ti.toNatClampNeg))]) rfl ?_
              refine lv_aload_n hx hb dM_unseal_112 rfl (lv_at hl 0 rfl) ?_
              refine va_get (D := D) (ci := 1) (v := .ref (q 5)) (C := RM) (T := TM) (N := 7) hx hb hts inM hown hK hP 0 rfl rfl 5 (by decide) (hts _ w_260) (fun _ h9 => h9) rfl dM_unseal_113 ?_
              refine lv_iload_n hx hb dM_unseal_116 rfl (lv_at hl 2 rfl) ?_
              refine va_iald hx hb hK hP 5 1 rfl rfl hsi dM_unseal_117 ?_
              refine lv_i2l (v := (Y si.toNatClampNeg).toInt64) hx hb dM_unseal_118 rfl ?_
              refine W.lcmp hx hb dM_unseal_119 ?_
              refine lv_if_eq (tgt := 125) hx hb dM_unseal_120 (by decide) (fun h_11 => ?_) (fun h_11 => ?_)
              · rw [lg_cmp_eq] at h_11
                refine lv_aload_n hx hb dM_unseal_125 rfl (lv_at hl 0 rfl) ?_
                refine lv_iload_n hx hb dM_unseal_126 rfl (lv_at hl 1 rfl) ?_
                refine lv_aload_n hx hb dM_unseal_127 rfl (lv_at hl 0 rfl) ?_
                refine va_get (D := D) (ci := 1) (v := .ref (q 1)) (C := RM) (T := TM) (N := 7) hx hb hts inM hown hK hP 0 rfl rfl 1 (by decide) (hts _ w_256) (fun _ h9 => h9) rfl dM_unseal_128 ?_
                refine lv_iload_n hx hb dM_unseal_131 rfl (lv_at hl 2 rfl) ?_
                refine va_lald hx hb hK hP 1 0 rfl rfl hsi dM_unseal_132 ?_
                refine W.eq (g2 := F0 m 133 ls [.long (uw (A si.toNatClampNeg)), .int (ri), .ref (q 0)]) rfl ?_
                refine lv_aload_n hx hb dM_unseal_133 rfl (lv_at hl 0 rfl) ?_
                refine va_get (D := D) (ci := 1) (v := .ref (q 2)) (C := RM) (T := TM) (N := 7) hx hb hts inM hown hK hP 0 rfl rfl 2 (by decide) (hts _ w_257) (fun _ h9 => h9) rfl dM_unseal_134 ?_
                refine lv_iload_n hx hb dM_unseal_137 rfl (lv_at hl 2 rfl) ?_
                refine va_lald hx hb hK hP 2 0 rfl rfl hsi dM_unseal_138 ?_
                refine W.eq (g2 := F0 m 139 ls [.long (uw (B si.toNatClampNeg)), .long (uw (A si.toNatClampNeg)), .int (ri), .ref (q 0)]) rfl ?_
                refine lv_aload_n hx hb dM_unseal_139 rfl (lv_at hl 0 rfl) ?_
                refine va_get (D := D) (ci := 1) (v := .ref (q 3)) (C := RM) (T := TM) (N := 7) hx hb hts inM hown hK hP 0 rfl rfl 3 (by decide) (hts _ w_258) (fun _ h9 => h9) rfl dM_unseal_140 ?_
                refine lv_iload_n hx hb dM_unseal_143 rfl (lv_at hl 2 rfl) ?_
                refine va_lald hx hb hK hP 3 0 rfl rfl hsi dM_unseal_144 ?_
                refine W.eq (g2 := F0 m 145 ls [.long (uw (T si.toNatClampNeg)), .long (uw (B si.toNatClampNeg)), .long (uw (A si.toNatClampNeg)), .int (ri), .ref (q 0)]) rfl ?_
                refine lv_aload_n hx hb dM_unseal_145 rfl (lv_at hl 0 rfl) ?_
                refine va_get (D := D) (ci := 1) (v := .ref (q 4)) (C := RM) (T := TM) (N := 7) hx hb hts inM hown hK hP 0 rfl rfl 4 (by decide) (hts _ w_259) (fun _ h9 => h9) rfl dM_unseal_146 ?_
                refine lv_iload_n hx hb dM_unseal_149 rfl (lv_at hl 2 rfl) ?_
                refine va_iald hx hb hK hP 4 1 rfl rfl hsi dM_unseal_150 ?_
                refine lv_iconst (v := 0) hx hb dM_unseal_151 (by decide) ?_
                refine lv_iconst (v := 1) hx hb dM_unseal_152 (by decide) ?_
                refine W.eq (g2 := F0 m 153 ls [.int (bi (true)), .int (0), .int (P si.toNatClampNeg), .long (uw (T si.toNatClampNeg)), .long (uw (B si.toNatClampNeg)), .long (uw (A si.toNatClampNeg)), .int (ri), .ref (q 0)]) rfl ?_
                refine kw_V 7 [0, 1, 2, 3, 4, 5, 6] [] (b := q 0) (As := [.int (ri), .long (uw (A si.toNatClampNeg)), .long (uw (B si.toNatClampNeg)), .long (uw (T si.toNatClampNeg)), .int (P si.toNatClampNeg), .int (0), .int (bi (true))]) (rest := []) (wc := mW cJ cI cZ q (0) A B T P Y G) (wr := []) (w1 := mW cJ cI cZ q (0) (upd A ri.toNatClampNeg (A si.toNatClampNeg)) (upd B ri.toNatClampNeg (B si.toNatClampNeg)) (upd T ri.toNatClampNeg (T si.toNatClampNeg)) (upd P ri.toNatClampNeg (P si.toNatClampNeg)) (upd Y ri.toNatClampNeg (0)) (ub G ri.toNatClampNeg (true))) hx hb hml hown hts hl.1 hP hD hS hA hK (mM_give l D cJ cI cZ q (0) A B T P Y G _ ri (A si.toNatClampNeg) (B si.toNatClampNeg) (T si.toNatClampNeg) (P si.toNatClampNeg) (0) true hri) (gw_V w_302 w_304 w_9 w_15 w_305) (by decide) ⟨rfl, rfl⟩ ⟨Nat.le_of_ble_eq_true rfl, Nat.le_of_ble_eq_true rfl⟩ (va_recv hK hP (ci := 1) rfl (q0 := 0) rfl) rfl rfl (Nat.le_of_ble_eq_true rfl) dM_unseal_153 ⟨Nat.zero_le _, Nat.zero_le _⟩ rfl rfl ⟨by decide, by decide⟩ (by decide) (fun H locs hP hD hS => ?_)
                have hP : va_P D vwCl (mW cJ cI cZ q (0) (upd A ri.toNatClampNeg (A si.toNatClampNeg)) (upd B ri.toNatClampNeg (B si.toNatClampNeg)) (upd T ri.toNatClampNeg (T si.toNatClampNeg)) (upd P ri.toNatClampNeg (P si.toNatClampNeg)) (upd Y ri.toNatClampNeg (0)) (ub G ri.toNatClampNeg (true))) H := hP
                have hD : va_D A9 (mW cJ cI cZ q (0) (upd A ri.toNatClampNeg (A si.toNatClampNeg)) (upd B ri.toNatClampNeg (B si.toNatClampNeg)) (upd T ri.toNatClampNeg (T si.toNatClampNeg)) (upd P ri.toNatClampNeg (P si.toNatClampNeg)) (upd Y ri.toNatClampNeg (0)) (ub G ri.toNatClampNeg (true))) := hD
                refine W.eq (g2 := F0 m 156 ls []) rfl ?_
                refine lv_iconst (v := 0) hx hb dM_unseal_156 (by decide) ?_
                exact W.iret (v := 0) hx hb hr (fun t9 ht hW => ⟨rfl, by rw [ht]; exact hP, hD, hS.F ht⟩) hS.2.2 dM_unseal_157
              · rw [lg_cmp_eq] at h_11
                refine lv_iconst (v := 4) hx hb dM_unseal_123 (by decide) ?_
                have e9 : (ga_open A B T P Y G si.toNatClampNeg ti.toNatClampNeg) = 4 := by (try rw [ue_eq hys] at h_11); (try simp only [decide_eq_true_eq, decide_eq_false_iff_not, Decidable.not_not] at h_5); (try simp only [decide_eq_true_eq, decide_eq_false_iff_not, Decidable.not_not] at h_6); (try simp only [decide_eq_true_eq, decide_eq_false_iff_not, Decidable.not_not] at h_7); (try simp only [decide_eq_true_eq, decide_eq_false_iff_not, Decidable.not_not] at h_8); (try simp only [decide_eq_true_eq, decide_eq_false_iff_not, Decidable.not_not] at h_9); (try simp only [decide_eq_true_eq, decide_eq_false_iff_not, Decidable.not_not] at h_10); (try simp only [decide_eq_true_eq, decide_eq_false_iff_not, Decidable.not_not] at h_11); unfold ga_open ga_acc; simp [h_5, h_6, h_7, h_8, h_9, h_10, h_11]
                exact absurd (e9.symm.trans h0) (by decide)
          · have h_9 := bi_0 h_9
            refine lv_iconst (v := 3) hx hb dM_unseal_89 (by decide) ?_
            have e9 : (ga_open A B T P Y G si.toNatClampNeg ti.toNatClampNeg) = 3 := by (try simp only [decide_eq_true_eq, decide_eq_false_iff_not, Decidable.not_not] at h_5); (try simp only [decide_eq_true_eq, decide_eq_false_iff_not, Decidable.not_not] at h_6); (try simp only [decide_eq_true_eq, decide_eq_false_iff_not, Decidable.not_not] at h_7); (try simp only [decide_eq_true_eq, decide_eq_false_iff_not, Decidable.not_not] at h_8); (try simp only [decide_eq_true_eq, decide_eq_false_iff_not, Decidable.not_not] at h_9); unfold ga_open ga_acc; simp [h_5, h_6, h_7, h_8, h_9]
            exact absurd (e9.symm.trans h0) (by decide)
        · have h_8 := bi_n h_8
          refine lv_iconst (v := 2) hx hb dM_unseal_77 (by decide) ?_
          have e9 : (ga_open A B T P Y G si.toNatClampNeg ti.toNatClampNeg) = 2 := by (try simp only [decide_eq_true_eq, decide_eq_false_iff_not, Decidable.not_not] at h_5); (try simp only [decide_eq_true_eq, decide_eq_false_iff_not, Decidable.not_not] at h_6); (try simp only [decide_eq_true_eq, decide_eq_false_iff_not, Decidable.not_not] at h_7); (try simp only [decide_eq_true_eq, decide_eq_false_iff_not, Decidable.not_not] at h_8); unfold ga_open ga_acc; simp [h_5, h_6, h_7, h_8]
          exact absurd (e9.symm.trans h0) (by decide)
    · have h_6 := bi_0 h_6
      refine lv_iconst (v := 1) hx hb dM_unseal_59 (by decide) ?_
      have e9 : (ga_open A B T P Y G si.toNatClampNeg ti.toNatClampNeg) = 1 := by (try simp only [decide_eq_true_eq, decide_eq_false_iff_not, Decidable.not_not] at h_5); (try simp only [decide_eq_true_eq, decide_eq_false_iff_not, Decidable.not_not] at h_6); unfold ga_open ga_acc; simp [h_5, h_6]
      exact absurd (e9.symm.trans h0) (by decide)

set_option maxRecDepth 100000 in
set_option maxHeartbeats 4000000 in
theorem mM_unseal_n (l : Launch) (D : va_G) (cJ cI cZ : ClassId) (q : Nat → Nat) (e0 : Int32) (A B T P Y : Nat → Int32) (G : Nat → Bool) (sz : Nat) (ri si ti : Int32) (hri : vp_in ri 16) (hsi : vp_in si 16) (hti : vp_in ti 16) (hys : ¬ Y si.toNatClampNeg < 0) (h0 : ¬ ga_open A B T P Y G si.toNatClampNeg ti.toNatClampNeg = 0) : Met l yM_unseal (Cond.code yM_unseal cM_unseal 4 (some .int) :: gw) (rmk 2 0 0) (va_Pc [.ref (q 0), .int (ri), .int (si), .int (ti)] (kB D vwCl (mW cJ cI cZ q (e0) A B T P Y G) (tsM cJ cI cZ) sz)) (kQ (some (.int (ga_open A B T P Y G si.toNatClampNeg ti.toNatClampNeg))) D vwCl (mW cJ cI cZ q (0) A B T P Y G) (va_A (mW cJ cI cZ q (e0) A B T P Y G) sz)) 0 0 (va_A (mW cJ cI cZ q (e0) A B T P Y G) sz) := by
  refine Met.ofW (cc := cM_unseal) (maxL := 4) (ret := (some .int)) (by decide) rfl ?_
  intro p e s m args below meth c s₁ B9 hml hv
  obtain ⟨rfl, hsz, hP, hK, hD0⟩ := hv
  have hx := B9.exec
  have hb := B9.bytes
  have hr := B9.returns
  have hts := fun (w : Cond) (h : w ∈ gw) => atoms_spec (ws := _ :: gw) B9.pre w (List.mem_cons_of_mem _ h)
  have hown : s.vm.findClass RM = some m.cls := findClass_of_methodNamed B9.named
  have hlocks := B9.notSynchronized
  have hl := lv_entry ([.ref (q 0), .int (ri), .int (si), .int (ti)]) (n := 4) (Nat.le_of_ble_eq_true rfl)
  rw [lg_entry_eq]
  generalize (lg_sl ([.ref (q 0), .int (ri), .int (si), .int (ti)]) ++ List.replicate (4 - (lg_sl ([.ref (q 0), .int (ri), .int (si), .int (ti)])).length) Slot.unset).toArray = ls at hl ⊢
  have hl : lv_has ls 4 [(0, .ref (q 0)), (1, .int (ri)), (2, .int (si)), (3, .int (ti))] := hl
  subst hsz
  have hD := hD0.self (sz := s.heap.size)
  generalize hAe : va_A (mW cJ cI cZ q (e0) A B T P Y G) s.heap.size = A9 at hD ⊢
  have hA : ∀ z : Nat, s.heap.size ≤ z → A9 z := fun z h => by rw [← hAe]; exact Or.inr h
  have hS : va_S A9 s.heap s.heap [] := va_S.rf
  have hP : va_P D vwCl (mW cJ cI cZ q (e0) A B T P Y G) s.heap := hP
  refine lv_aload_n hx hb dM_unseal_0 rfl (lv_at hl 0 rfl) ?_
  refine lv_iconst (v := 0) hx hb dM_unseal_1 (by decide) ?_
  refine va_put (D := D) (ci := 1) (v := .int (0)) (ty := .int) (C := RM) (T := TM) (N := 7) hx hb hts inM tyM tyM_ok nmM hown hK hP hD hS 0 rfl rfl 0 (by decide) (hts _ w_255) (fun _ h9 => h9) rfl (by decide +kernel) rfl rfl (Nat.le_of_ble_eq_true rfl) dM_unseal_2 (fun H locs hP hD hS => ?_)
  have hP : va_P D vwCl (mW cJ cI cZ q (0) A B T P Y G) H := hP
  have hD : va_D A9 (mW cJ cI cZ q (0) A B T P Y G) := hD
  refine lv_aload_n hx hb dM_unseal_5 rfl (lv_at hl 0 rfl) ?_
  refine lv_iload_n hx hb dM_unseal_6 rfl (lv_at hl 1 rfl) ?_
  refine kr_S 1 (As := [.int (ri)]) (rest := [.ref (q 0)]) (r := .int (bi (gi ri))) hx hb hml hown hts hl.1 (mM_is l (ri)) tt_stb trivial (gw_S w_298 w_299 w_15 w_300) (by decide) ⟨rfl, rfl⟩ ⟨Nat.le_of_ble_eq_true rfl, Nat.le_of_ble_eq_true rfl⟩ rfl rfl (Nat.le_of_ble_eq_true rfl) dM_unseal_7 ⟨Nat.zero_le _, Nat.zero_le _⟩ ?_
  refine lv_if_eq (tgt := 27) hx hb dM_unseal_10 (by decide) (fun h_1 => absurd h_1 (gi_nz hri)) (fun h_1 => ?_)
  have h_1 := bi_n h_1
  refine lv_iload_n hx hb dM_unseal_13 rfl (lv_at hl 2 rfl) ?_
  refine kr_S 1 (As := [.int (si)]) (rest := [.ref (q 0)]) (r := .int (bi (gi si))) hx hb hml hown hts hl.1 (mM_is l (si)) tt_stb trivial (gw_S w_298 w_299 w_15 w_300) (by decide) ⟨rfl, rfl⟩ ⟨Nat.le_of_ble_eq_true rfl, Nat.le_of_ble_eq_true rfl⟩ rfl rfl (Nat.le_of_ble_eq_true rfl) dM_unseal_14 ⟨Nat.zero_le _, Nat.zero_le _⟩ ?_
  refine lv_if_eq (tgt := 27) hx hb dM_unseal_17 (by decide) (fun h_2 => absurd h_2 (gi_nz hsi)) (fun h_2 => ?_)
  have h_2 := bi_n h_2
  refine lv_iload_n hx hb dM_unseal_20 rfl (lv_at hl 3 rfl) ?_
  refine kr_S 1 (As := [.int (ti)]) (rest := [.ref (q 0)]) (r := .int (bi (gi ti))) hx hb hml hown hts hl.1 (mM_is l (ti)) tt_stb trivial (gw_S w_298 w_299 w_15 w_300) (by decide) ⟨rfl, rfl⟩ ⟨Nat.le_of_ble_eq_true rfl, Nat.le_of_ble_eq_true rfl⟩ rfl rfl (Nat.le_of_ble_eq_true rfl) dM_unseal_21 ⟨Nat.zero_le _, Nat.zero_le _⟩ ?_
  refine lv_if_ne (tgt := 31) hx hb dM_unseal_24 (by decide) (fun h_3 => ?_) (fun h_3 => absurd h_3 (gi_nz hti))
  have h_3 := bi_n h_3
  refine lv_iconst (v := 0) hx hb dM_unseal_31 (by decide) ?_
  refine lv_iconst (v := 1) hx hb dM_unseal_32 (by decide) ?_
  refine kw_V 2 [0, 1, 2, 3, 4, 5, 6] [] (b := q 0) (As := [.int (0), .int (1)]) (rest := []) (wc := mW cJ cI cZ q (0) A B T P Y G) (wr := []) (w1 := mW cJ cI cZ q (0) A B T P Y G) hx hb hml hown hts hl.1 hP hD hS hA hK (mM_fails_f l D cJ cI cZ q 0 A B T P Y G _ 1) (gw_V w_294 w_296 w_8 w_15 w_297) (by decide) ⟨rfl, rfl⟩ ⟨Nat.le_of_ble_eq_true rfl, Nat.le_of_ble_eq_true rfl⟩ (va_recv hK hP (ci := 1) rfl (q0 := 0) rfl) rfl rfl (Nat.le_of_ble_eq_true rfl) dM_unseal_33 ⟨Nat.zero_le _, Nat.zero_le _⟩ rfl rfl ⟨by decide, by decide⟩ (by decide) (fun H locs hP hD hS => ?_)
  have hP : va_P D vwCl (mW cJ cI cZ q (0) A B T P Y G) H := hP
  have hD : va_D A9 (mW cJ cI cZ q (0) A B T P Y G) := hD
  refine W.eq (g2 := F0 m 36 ls [.int (0)]) rfl ?_
  refine lv_if_eq (tgt := 41) hx hb dM_unseal_36 (by decide) (fun h_4 => ?_) (fun h_4 => absurd (by decide) h_4)
  refine lv_aload_n hx hb dM_unseal_41 rfl (lv_at hl 0 rfl) ?_
  refine va_get (D := D) (ci := 1) (v := .ref (q 6)) (C := RM) (T := TM) (N := 7) hx hb hts inM hown hK hP 0 rfl rfl 6 (by decide) (hts _ w_261) (fun _ h9 => h9) rfl dM_unseal_42 ?_
  refine lv_iload_n hx hb dM_unseal_45 rfl (lv_at hl 2 rfl) ?_
  refine va_zald hx hb hK hP 6 2 rfl rfl hsi dM_unseal_46 ?_
  refine W.eq (g2 := F0 m 47 ls [.int (bi (G si.toNatClampNeg))]) rfl ?_
  refine lv_if_eq (tgt := 59) hx hb dM_unseal_47 (by decide) (fun h_5 => ?_) (fun h_5 => ?_)
  · have h_5 := bi_0 h_5
    refine lv_iconst (v := 1) hx hb dM_unseal_59 (by decide) ?_
    have e9 : (ga_open A B T P Y G si.toNatClampNeg ti.toNatClampNeg) = 1 := by (try simp only [decide_eq_true_eq, decide_eq_false_iff_not, Decidable.not_not] at h_5); unfold ga_open ga_acc; simp [h_5]
    refine W.eq (g2 := F0 m 60 ls [.int (ga_open A B T P Y G si.toNatClampNeg ti.toNatClampNeg)]) (by rw [e9] <;> rfl) ?_
    exact W.iret (v := ga_open A B T P Y G si.toNatClampNeg ti.toNatClampNeg) hx hb hr (fun t9 ht hW => ⟨rfl, by rw [ht]; exact hP, hD, hS.F ht⟩) hS.2.2 dM_unseal_60
  · have h_5 := bi_n h_5
    refine lv_aload_n hx hb dM_unseal_50 rfl (lv_at hl 0 rfl) ?_
    refine va_get (D := D) (ci := 1) (v := .ref (q 6)) (C := RM) (T := TM) (N := 7) hx hb hts inM hown hK hP 0 rfl rfl 6 (by decide) (hts _ w_261) (fun _ h9 => h9) rfl dM_unseal_51 ?_
    refine lv_iload_n hx hb dM_unseal_54 rfl (lv_at hl 3 rfl) ?_
    refine va_zald hx hb hK hP 6 2 rfl rfl hti dM_unseal_55 ?_
    refine W.eq (g2 := F0 m 56 ls [.int (bi (G ti.toNatClampNeg))]) rfl ?_
    refine lv_if_ne (tgt := 61) hx hb dM_unseal_56 (by decide) (fun h_6 => ?_) (fun h_6 => ?_)
    · have h_6 := bi_n h_6
      refine lv_aload_n hx hb dM_unseal_61 rfl (lv_at hl 0 rfl) ?_
      refine lv_iload_n hx hb dM_unseal_62 rfl (lv_at hl 2 rfl) ?_
      refine kr_Vw 1 (b := q 0) (As := [.int (si)]) (rest := []) (r := .int (bi (decide (¬ Y si.toNatClampNeg = 0)))) hx hb hml hown hts hl.1 (mM_isSealed l D cJ cI cZ q (0) A B T P Y G (si) hsi) rB_stb ⟨hP, hK⟩ (gw_V w_314 w_316 w_10 w_15 w_317) (by decide) ⟨rfl, rfl⟩ ⟨Nat.le_of_ble_eq_true rfl, Nat.le_of_ble_eq_true rfl⟩ (va_recv hK hP (ci := 1) rfl (q0 := 0) rfl) rfl rfl (Nat.le_of_ble_eq_true rfl) dM_unseal_63 ⟨Nat.zero_le _, Nat.zero_le _⟩ ?_
      refine lv_if_eq (tgt := 77) hx hb dM_unseal_66 (by decide) (fun h_7 => ?_) (fun h_7 => ?_)
      · have h_7 := bi_0 h_7
        refine lv_iconst (v := 2) hx hb dM_unseal_77 (by decide) ?_
        have e9 : (ga_open A B T P Y G si.toNatClampNeg ti.toNatClampNeg) = 2 := by (try simp only [decide_eq_true_eq, decide_eq_false_iff_not, Decidable.not_not] at h_5); (try simp only [decide_eq_true_eq, decide_eq_false_iff_not, Decidable.not_not] at h_6); (try simp only [decide_eq_true_eq, decide_eq_false_iff_not, Decidable.not_not] at h_7); unfold ga_open ga_acc; simp [h_5, h_6, h_7]
        refine W.eq (g2 := F0 m 78 ls [.int (ga_open A B T P Y G si.toNatClampNeg ti.toNatClampNeg)]) (by rw [e9] <;> rfl) ?_
        exact W.iret (v := ga_open A B T P Y G si.toNatClampNeg ti.toNatClampNeg) hx hb hr (fun t9 ht hW => ⟨rfl, by rw [ht]; exact hP, hD, hS.F ht⟩) hS.2.2 dM_unseal_78
      · have h_7 := bi_n h_7
        refine lv_aload_n hx hb dM_unseal_69 rfl (lv_at hl 0 rfl) ?_
        refine lv_iload_n hx hb dM_unseal_70 rfl (lv_at hl 3 rfl) ?_
        refine kr_Vw 1 (b := q 0) (As := [.int (ti)]) (rest := []) (r := .int (bi (decide (¬ Y ti.toNatClampNeg = 0)))) hx hb hml hown hts hl.1 (mM_isSealed l D cJ cI cZ q (0) A B T P Y G (ti) hti) rB_stb ⟨hP, hK⟩ (gw_V w_314 w_316 w_10 w_15 w_317) (by decide) ⟨rfl, rfl⟩ ⟨Nat.le_of_ble_eq_true rfl, Nat.le_of_ble_eq_true rfl⟩ (va_recv hK hP (ci := 1) rfl (q0 := 0) rfl) rfl rfl (Nat.le_of_ble_eq_true rfl) dM_unseal_71 ⟨Nat.zero_le _, Nat.zero_le _⟩ ?_
        refine lv_if_eq (tgt := 79) hx hb dM_unseal_74 (by decide) (fun h_8 => ?_) (fun h_8 => ?_)
        · have h_8 := bi_0 h_8
          refine lv_aload_n hx hb dM_unseal_79 rfl (lv_at hl 0 rfl) ?_
          refine lv_iload_n hx hb dM_unseal_80 rfl (lv_at hl 3 rfl) ?_
          refine lv_bipush (v := 64) hx hb dM_unseal_81 (by decide) ?_
          refine kr_V 2 (b := q 0) (As := [.int (ti), .int (64)]) (rest := []) (r := .int (bi (ga_pm (64) (P ti.toNatClampNeg)))) hx hb hml hown hts hl.1 (mM_may l D cJ cI cZ q (0) A B T P Y G (ti) (64) hti) rB_stb ⟨hP, hK⟩ (gw_V w_330 w_332 w_11 w_15 w_333) (by decide) ⟨rfl, rfl⟩ ⟨Nat.le_of_ble_eq_true rfl, Nat.le_of_ble_eq_true rfl⟩ (va_recv hK hP (ci := 1) rfl (q0 := 0) rfl) rfl rfl (Nat.le_of_ble_eq_true rfl) dM_unseal_83 ⟨Nat.zero_le _, Nat.zero_le _⟩ ?_
          refine lv_if_ne (tgt := 91) hx hb dM_unseal_86 (by decide) (fun h_9 => ?_) (fun h_9 => ?_)
          · have h_9 := bi_n h_9
            refine lv_aload_n hx hb dM_unseal_91 rfl (lv_at hl 0 rfl) ?_
            refine lv_iload_n hx hb dM_unseal_92 rfl (lv_at hl 3 rfl) ?_
            refine lv_aload_n hx hb dM_unseal_93 rfl (lv_at hl 0 rfl) ?_
            refine va_get (D := D) (ci := 1) (v := .ref (q 1)) (C := RM) (T := TM) (N := 7) hx hb hts inM hown hK hP 0 rfl rfl 1 (by decide) (hts _ w_256) (fun _ h9 => h9) rfl dM_unseal_94 ?_
            refine lv_iload_n hx hb dM_unseal_97 rfl (lv_at hl 3 rfl) ?_
            refine va_lald hx hb hK hP 1 0 rfl rfl hti dM_unseal_98 ?_
            refine W.eq (g2 := F0 m 99 ls [.long (uw (A ti.toNatClampNeg)), .int (ti), .ref (q 0)]) rfl ?_
            refine lv_lconst (v := 1) hx hb dM_unseal_99 (by decide) ?_
            refine kr_V 3 (b := q 0) (As := [.int (ti), .long (uw (A ti.toNatClampNeg)), .long (1)]) (rest := []) (r := .int (bi (ga_in (B ti.toNatClampNeg) (T ti.toNatClampNeg) (A ti.toNatClampNeg) (1)))) hx hb hml hown hts hl.1 (mM_holds l D cJ cI cZ q (0) A B T P Y G (ti) (A ti.toNatClampNeg) (1) hti (by first | decide | omega)) rB_stb ⟨hP, hK⟩ (gw_V w_334 w_336 w_12 w_15 w_337) (by decide) ⟨rfl, rfl⟩ ⟨Nat.le_of_ble_eq_true rfl, Nat.le_of_ble_eq_true rfl⟩ (va_recv hK hP (ci := 1) rfl (q0 := 0) rfl) rfl rfl (Nat.le_of_ble_eq_true rfl) dM_unseal_100 ⟨Nat.zero_le _, Nat.zero_le _⟩ ?_
            refine lv_if_eq (tgt := 123) hx hb dM_unseal_103 (by decide) (fun h_10 => ?_) (fun h_10 => ?_)
            · have h_10 := bi_0 h_10
              refine lv_iconst (v := 4) hx hb dM_unseal_123 (by decide) ?_
              have e9 : (ga_open A B T P Y G si.toNatClampNeg ti.toNatClampNeg) = 4 := by (try simp only [decide_eq_true_eq, decide_eq_false_iff_not, Decidable.not_not] at h_5); (try simp only [decide_eq_true_eq, decide_eq_false_iff_not, Decidable.not_not] at h_6); (try simp only [decide_eq_true_eq, decide_eq_false_iff_not, Decidable.not_not] at h_7); (try simp only [decide_eq_true_eq, decide_eq_false_iff_not, Decidable.not_not] at h_8); (try simp only [decide_eq_true_eq, decide_eq_false_iff_not, Decidable.not_not] at h_9); (try simp only [decide_eq_true_eq, decide_eq_false_iff_not, Decidable.not_not] at h_10); unfold ga_open ga_acc; simp [h_5, h_6, h_7, h_8, h_9, h_10]
              refine W.eq (g2 := F0 m 124 ls [.int (ga_open A B T P Y G si.toNatClampNeg ti.toNatClampNeg)]) (by rw [e9] <;> rfl) ?_
              exact W.iret (v := ga_open A B T P Y G si.toNatClampNeg ti.toNatClampNeg) hx hb hr (fun t9 ht hW => ⟨rfl, by rw [ht]; exact hP, hD, hS.F ht⟩) hS.2.2 dM_unseal_124
            · have h_10 := bi_n h_10
              refine lv_aload_n hx hb dM_unseal_106 rfl (lv_at hl 0 rfl) ?_
              refine va_get (D := D) (ci := 1) (v := .ref (q 1)) (C := RM) (T := TM) (N := 7) hx hb hts inM hown hK hP 0 rfl rfl 1 (by decide) (hts _ w_256) (fun _ h9 => h9) rfl dM_unseal_107 ?_
              refine lv_iload_n hx hb dM_unseal_110 rfl (lv_at hl 3 rfl) ?_
              refine va_lald hx hb hK hP 1 0 rfl rfl hti dM_unseal_111 ?_
              refine W.eq (g2 := F0 m 112 ls [.long (uw (A ti.toNatClampNeg))]) rfl ?_
              refine lv_aload_n hx hb dM_unseal_112 rfl (lv_at hl 0 rfl) ?_
              refine va_get (D := D) (ci := 1) (v := .ref (q 5)) (C := RM) (T := TM) (N := 7) hx hb hts inM hown hK hP 0 rfl rfl 5 (by decide) (hts _ w_260) (fun _ h9 => h9) rfl dM_unseal_113 ?_
              refine lv_iload_n hx hb dM_unseal_116 rfl (lv_at hl 2 rfl) ?_
              refine va_iald hx hb hK hP 5 1 rfl rfl hsi dM_unseal_117 ?_
              refine lv_i2l (v := (Y si.toNatClampNeg).toInt64) hx hb dM_unseal_118 rfl ?_
              refine W.lcmp hx hb dM_unseal_119 ?_
              refine lv_if_eq (tgt := 125) hx hb dM_unseal_120 (by decide) (fun h_11 => ?_) (fun h_11 => ?_)
              · rw [lg_cmp_eq] at h_11
                refine lv_aload_n hx hb dM_unseal_125 rfl (lv_at hl 0 rfl) ?_
                refine lv_iload_n hx hb dM_unseal_126 rfl (lv_at hl 1 rfl) ?_
                refine lv_aload_n hx hb dM_unseal_127 rfl (lv_at hl 0 rfl) ?_
                refine va_get (D := D) (ci := 1) (v := .ref (q 1)) (C := RM) (T := TM) (N := 7) hx hb hts inM hown hK hP 0 rfl rfl 1 (by decide) (hts _ w_256) (fun _ h9 => h9) rfl dM_unseal_128 ?_
                refine lv_iload_n hx hb dM_unseal_131 rfl (lv_at hl 2 rfl) ?_
                refine va_lald hx hb hK hP 1 0 rfl rfl hsi dM_unseal_132 ?_
                refine W.eq (g2 := F0 m 133 ls [.long (uw (A si.toNatClampNeg)), .int (ri), .ref (q 0)]) rfl ?_
                refine lv_aload_n hx hb dM_unseal_133 rfl (lv_at hl 0 rfl) ?_
                refine va_get (D := D) (ci := 1) (v := .ref (q 2)) (C := RM) (T := TM) (N := 7) hx hb hts inM hown hK hP 0 rfl rfl 2 (by decide) (hts _ w_257) (fun _ h9 => h9) rfl dM_unseal_134 ?_
                refine lv_iload_n hx hb dM_unseal_137 rfl (lv_at hl 2 rfl) ?_
                refine va_lald hx hb hK hP 2 0 rfl rfl hsi dM_unseal_138 ?_
                refine W.eq (g2 := F0 m 139 ls [.long (uw (B si.toNatClampNeg)), .long (uw (A si.toNatClampNeg)), .int (ri), .ref (q 0)]) rfl ?_
                refine lv_aload_n hx hb dM_unseal_139 rfl (lv_at hl 0 rfl) ?_
                refine va_get (D := D) (ci := 1) (v := .ref (q 3)) (C := RM) (T := TM) (N := 7) hx hb hts inM hown hK hP 0 rfl rfl 3 (by decide) (hts _ w_258) (fun _ h9 => h9) rfl dM_unseal_140 ?_
                refine lv_iload_n hx hb dM_unseal_143 rfl (lv_at hl 2 rfl) ?_
                refine va_lald hx hb hK hP 3 0 rfl rfl hsi dM_unseal_144 ?_
                refine W.eq (g2 := F0 m 145 ls [.long (uw (T si.toNatClampNeg)), .long (uw (B si.toNatClampNeg)), .long (uw (A si.toNatClampNeg)), .int (ri), .ref (q 0)]) rfl ?_
                refine lv_aload_n hx hb dM_unseal_145 rfl (lv_at hl 0 rfl) ?_
                refine va_get (D := D) (ci := 1) (v := .ref (q 4)) (C := RM) (T := TM) (N := 7) hx hb hts inM hown hK hP 0 rfl rfl 4 (by decide) (hts _ w_259) (fun _ h9 => h9) rfl dM_unseal_146 ?_
                refine lv_iload_n hx hb dM_unseal_149 rfl (lv_at hl 2 rfl) ?_
                refine va_iald hx hb hK hP 4 1 rfl rfl hsi dM_unseal_150 ?_
                refine lv_iconst (v := 0) hx hb dM_unseal_151 (by decide) ?_
                refine lv_iconst (v := 1) hx hb dM_unseal_152 (by decide) ?_
                refine W.eq (g2 := F0 m 153 ls [.int (bi (true)), .int (0), .int (P si.toNatClampNeg), .long (uw (T si.toNatClampNeg)), .long (uw (B si.toNatClampNeg)), .long (uw (A si.toNatClampNeg)), .int (ri), .ref (q 0)]) rfl ?_
                refine kw_V 7 [0, 1, 2, 3, 4, 5, 6] [] (b := q 0) (As := [.int (ri), .long (uw (A si.toNatClampNeg)), .long (uw (B si.toNatClampNeg)), .long (uw (T si.toNatClampNeg)), .int (P si.toNatClampNeg), .int (0), .int (bi (true))]) (rest := []) (wc := mW cJ cI cZ q (0) A B T P Y G) (wr := []) (w1 := mW cJ cI cZ q (0) (upd A ri.toNatClampNeg (A si.toNatClampNeg)) (upd B ri.toNatClampNeg (B si.toNatClampNeg)) (upd T ri.toNatClampNeg (T si.toNatClampNeg)) (upd P ri.toNatClampNeg (P si.toNatClampNeg)) (upd Y ri.toNatClampNeg (0)) (ub G ri.toNatClampNeg (true))) hx hb hml hown hts hl.1 hP hD hS hA hK (mM_give l D cJ cI cZ q (0) A B T P Y G _ ri (A si.toNatClampNeg) (B si.toNatClampNeg) (T si.toNatClampNeg) (P si.toNatClampNeg) (0) true hri) (gw_V w_302 w_304 w_9 w_15 w_305) (by decide) ⟨rfl, rfl⟩ ⟨Nat.le_of_ble_eq_true rfl, Nat.le_of_ble_eq_true rfl⟩ (va_recv hK hP (ci := 1) rfl (q0 := 0) rfl) rfl rfl (Nat.le_of_ble_eq_true rfl) dM_unseal_153 ⟨Nat.zero_le _, Nat.zero_le _⟩ rfl rfl ⟨by decide, by decide⟩ (by decide) (fun H locs hP hD hS => ?_)
                have hP : va_P D vwCl (mW cJ cI cZ q (0) (upd A ri.toNatClampNeg (A si.toNatClampNeg)) (upd B ri.toNatClampNeg (B si.toNatClampNeg)) (upd T ri.toNatClampNeg (T si.toNatClampNeg)) (upd P ri.toNatClampNeg (P si.toNatClampNeg)) (upd Y ri.toNatClampNeg (0)) (ub G ri.toNatClampNeg (true))) H := hP
                have hD : va_D A9 (mW cJ cI cZ q (0) (upd A ri.toNatClampNeg (A si.toNatClampNeg)) (upd B ri.toNatClampNeg (B si.toNatClampNeg)) (upd T ri.toNatClampNeg (T si.toNatClampNeg)) (upd P ri.toNatClampNeg (P si.toNatClampNeg)) (upd Y ri.toNatClampNeg (0)) (ub G ri.toNatClampNeg (true))) := hD
                refine W.eq (g2 := F0 m 156 ls []) rfl ?_
                refine lv_iconst (v := 0) hx hb dM_unseal_156 (by decide) ?_
                have e9 : (ga_open A B T P Y G si.toNatClampNeg ti.toNatClampNeg) = 0 := by (try rw [ue_eq hys] at h_11); (try rw [h_11] at h_5); (try rw [h_11] at h_6); (try rw [h_11] at h_7); (try rw [h_11] at h_8); (try rw [h_11] at h_9); (try rw [h_11] at h_10); (try simp only [decide_eq_true_eq, decide_eq_false_iff_not, Decidable.not_not] at h_5); (try simp only [decide_eq_true_eq, decide_eq_false_iff_not, Decidable.not_not] at h_6); (try simp only [decide_eq_true_eq, decide_eq_false_iff_not, Decidable.not_not] at h_7); (try simp only [decide_eq_true_eq, decide_eq_false_iff_not, Decidable.not_not] at h_8); (try simp only [decide_eq_true_eq, decide_eq_false_iff_not, Decidable.not_not] at h_9); (try simp only [decide_eq_true_eq, decide_eq_false_iff_not, Decidable.not_not] at h_10); (try simp only [decide_eq_true_eq, decide_eq_false_iff_not, Decidable.not_not] at h_11); unfold ga_open ga_acc; simp [h_5, h_6, h_7, h_8, h_9, h_10, h_11]
                exact absurd e9 h0
              · rw [lg_cmp_eq] at h_11
                refine lv_iconst (v := 4) hx hb dM_unseal_123 (by decide) ?_
                have e9 : (ga_open A B T P Y G si.toNatClampNeg ti.toNatClampNeg) = 4 := by (try rw [ue_eq hys] at h_11); (try simp only [decide_eq_true_eq, decide_eq_false_iff_not, Decidable.not_not] at h_5); (try simp only [decide_eq_true_eq, decide_eq_false_iff_not, Decidable.not_not] at h_6); (try simp only [decide_eq_true_eq, decide_eq_false_iff_not, Decidable.not_not] at h_7); (try simp only [decide_eq_true_eq, decide_eq_false_iff_not, Decidable.not_not] at h_8); (try simp only [decide_eq_true_eq, decide_eq_false_iff_not, Decidable.not_not] at h_9); (try simp only [decide_eq_true_eq, decide_eq_false_iff_not, Decidable.not_not] at h_10); (try simp only [decide_eq_true_eq, decide_eq_false_iff_not, Decidable.not_not] at h_11); unfold ga_open ga_acc; simp [h_5, h_6, h_7, h_8, h_9, h_10, h_11]
                refine W.eq (g2 := F0 m 124 ls [.int (ga_open A B T P Y G si.toNatClampNeg ti.toNatClampNeg)]) (by rw [e9] <;> rfl) ?_
                exact W.iret (v := ga_open A B T P Y G si.toNatClampNeg ti.toNatClampNeg) hx hb hr (fun t9 ht hW => ⟨rfl, by rw [ht]; exact hP, hD, hS.F ht⟩) hS.2.2 dM_unseal_124
          · have h_9 := bi_0 h_9
            refine lv_iconst (v := 3) hx hb dM_unseal_89 (by decide) ?_
            have e9 : (ga_open A B T P Y G si.toNatClampNeg ti.toNatClampNeg) = 3 := by (try simp only [decide_eq_true_eq, decide_eq_false_iff_not, Decidable.not_not] at h_5); (try simp only [decide_eq_true_eq, decide_eq_false_iff_not, Decidable.not_not] at h_6); (try simp only [decide_eq_true_eq, decide_eq_false_iff_not, Decidable.not_not] at h_7); (try simp only [decide_eq_true_eq, decide_eq_false_iff_not, Decidable.not_not] at h_8); (try simp only [decide_eq_true_eq, decide_eq_false_iff_not, Decidable.not_not] at h_9); unfold ga_open ga_acc; simp [h_5, h_6, h_7, h_8, h_9]
            refine W.eq (g2 := F0 m 90 ls [.int (ga_open A B T P Y G si.toNatClampNeg ti.toNatClampNeg)]) (by rw [e9] <;> rfl) ?_
            exact W.iret (v := ga_open A B T P Y G si.toNatClampNeg ti.toNatClampNeg) hx hb hr (fun t9 ht hW => ⟨rfl, by rw [ht]; exact hP, hD, hS.F ht⟩) hS.2.2 dM_unseal_90
        · have h_8 := bi_n h_8
          refine lv_iconst (v := 2) hx hb dM_unseal_77 (by decide) ?_
          have e9 : (ga_open A B T P Y G si.toNatClampNeg ti.toNatClampNeg) = 2 := by (try simp only [decide_eq_true_eq, decide_eq_false_iff_not, Decidable.not_not] at h_5); (try simp only [decide_eq_true_eq, decide_eq_false_iff_not, Decidable.not_not] at h_6); (try simp only [decide_eq_true_eq, decide_eq_false_iff_not, Decidable.not_not] at h_7); (try simp only [decide_eq_true_eq, decide_eq_false_iff_not, Decidable.not_not] at h_8); unfold ga_open ga_acc; simp [h_5, h_6, h_7, h_8]
          refine W.eq (g2 := F0 m 78 ls [.int (ga_open A B T P Y G si.toNatClampNeg ti.toNatClampNeg)]) (by rw [e9] <;> rfl) ?_
          exact W.iret (v := ga_open A B T P Y G si.toNatClampNeg ti.toNatClampNeg) hx hb hr (fun t9 ht hW => ⟨rfl, by rw [ht]; exact hP, hD, hS.F ht⟩) hS.2.2 dM_unseal_78
    · have h_6 := bi_0 h_6
      refine lv_iconst (v := 1) hx hb dM_unseal_59 (by decide) ?_
      have e9 : (ga_open A B T P Y G si.toNatClampNeg ti.toNatClampNeg) = 1 := by (try simp only [decide_eq_true_eq, decide_eq_false_iff_not, Decidable.not_not] at h_5); (try simp only [decide_eq_true_eq, decide_eq_false_iff_not, Decidable.not_not] at h_6); unfold ga_open ga_acc; simp [h_5, h_6]
      refine W.eq (g2 := F0 m 60 ls [.int (ga_open A B T P Y G si.toNatClampNeg ti.toNatClampNeg)]) (by rw [e9] <;> rfl) ?_
      exact W.iret (v := ga_open A B T P Y G si.toNatClampNeg ti.toNatClampNeg) hx hb hr (fun t9 ht hW => ⟨rfl, by rw [ht]; exact hP, hD, hS.F ht⟩) hS.2.2 dM_unseal_60

set_option maxRecDepth 100000 in
set_option maxHeartbeats 4000000 in
theorem mM_unseal_x (l : Launch) (D : va_G) (cJ cI cZ : ClassId) (q : Nat → Nat) (e0 : Int32) (A B T P Y : Nat → Int32) (G : Nat → Bool) (sz : Nat) (ri si ti : Int32) (hbad : ¬ (vp_in ri 16 ∧ vp_in si 16 ∧ vp_in ti 16)) : Met l yM_unseal (Cond.code yM_unseal cM_unseal 4 (some .int) :: gw) (rmk 2 0 0) (va_Pc [.ref (q 0), .int (ri), .int (si), .int (ti)] (kB D vwCl (mW cJ cI cZ q (e0) A B T P Y G) (tsM cJ cI cZ) sz)) (kQ (some (.int (0))) D vwCl (mW cJ cI cZ q (1) A B T P Y G) (va_A (mW cJ cI cZ q (e0) A B T P Y G) sz)) 0 0 (va_A (mW cJ cI cZ q (e0) A B T P Y G) sz) := by
  refine Met.ofW (cc := cM_unseal) (maxL := 4) (ret := (some .int)) (by decide) rfl ?_
  intro p e s m args below meth c s₁ B9 hml hv
  obtain ⟨rfl, hsz, hP, hK, hD0⟩ := hv
  have hx := B9.exec
  have hb := B9.bytes
  have hr := B9.returns
  have hts := fun (w : Cond) (h : w ∈ gw) => atoms_spec (ws := _ :: gw) B9.pre w (List.mem_cons_of_mem _ h)
  have hown : s.vm.findClass RM = some m.cls := findClass_of_methodNamed B9.named
  have hlocks := B9.notSynchronized
  have hl := lv_entry ([.ref (q 0), .int (ri), .int (si), .int (ti)]) (n := 4) (Nat.le_of_ble_eq_true rfl)
  rw [lg_entry_eq]
  generalize (lg_sl ([.ref (q 0), .int (ri), .int (si), .int (ti)]) ++ List.replicate (4 - (lg_sl ([.ref (q 0), .int (ri), .int (si), .int (ti)])).length) Slot.unset).toArray = ls at hl ⊢
  have hl : lv_has ls 4 [(0, .ref (q 0)), (1, .int (ri)), (2, .int (si)), (3, .int (ti))] := hl
  subst hsz
  have hD := hD0.self (sz := s.heap.size)
  generalize hAe : va_A (mW cJ cI cZ q (e0) A B T P Y G) s.heap.size = A9 at hD ⊢
  have hA : ∀ z : Nat, s.heap.size ≤ z → A9 z := fun z h => by rw [← hAe]; exact Or.inr h
  have hS : va_S A9 s.heap s.heap [] := va_S.rf
  have hP : va_P D vwCl (mW cJ cI cZ q (e0) A B T P Y G) s.heap := hP
  refine lv_aload_n hx hb dM_unseal_0 rfl (lv_at hl 0 rfl) ?_
  refine lv_iconst (v := 0) hx hb dM_unseal_1 (by decide) ?_
  refine va_put (D := D) (ci := 1) (v := .int (0)) (ty := .int) (C := RM) (T := TM) (N := 7) hx hb hts inM tyM tyM_ok nmM hown hK hP hD hS 0 rfl rfl 0 (by decide) (hts _ w_255) (fun _ h9 => h9) rfl (by decide +kernel) rfl rfl (Nat.le_of_ble_eq_true rfl) dM_unseal_2 (fun H locs hP hD hS => ?_)
  have hP : va_P D vwCl (mW cJ cI cZ q (0) A B T P Y G) H := hP
  have hD : va_D A9 (mW cJ cI cZ q (0) A B T P Y G) := hD
  refine lv_aload_n hx hb dM_unseal_5 rfl (lv_at hl 0 rfl) ?_
  refine lv_iload_n hx hb dM_unseal_6 rfl (lv_at hl 1 rfl) ?_
  refine kr_S 1 (As := [.int (ri)]) (rest := [.ref (q 0)]) (r := .int (bi (gi ri))) hx hb hml hown hts hl.1 (mM_is l (ri)) tt_stb trivial (gw_S w_298 w_299 w_15 w_300) (by decide) ⟨rfl, rfl⟩ ⟨Nat.le_of_ble_eq_true rfl, Nat.le_of_ble_eq_true rfl⟩ rfl rfl (Nat.le_of_ble_eq_true rfl) dM_unseal_7 ⟨Nat.zero_le _, Nat.zero_le _⟩ ?_
  refine lv_if_eq (tgt := 27) hx hb dM_unseal_10 (by decide) (fun h_1 => ?_) (fun h_1 => ?_)
  · have h_1 := bi_0 h_1
    refine lv_iconst (v := 1) hx hb dM_unseal_27 (by decide) ?_
    refine lv_goto (tgt := 32) hx hb dM_unseal_28 (by decide) ?_
    refine lv_iconst (v := 1) hx hb dM_unseal_32 (by decide) ?_
    refine kw_V 2 [0, 1, 2, 3, 4, 5, 6] [] (b := q 0) (As := [.int (1), .int (1)]) (rest := []) (wc := mW cJ cI cZ q (0) A B T P Y G) (wr := []) (w1 := mW cJ cI cZ q (1) A B T P Y G) hx hb hml hown hts hl.1 hP hD hS hA hK (mM_fails_t l D cJ cI cZ q 0 A B T P Y G _ 1 (by decide)) (gw_V w_294 w_296 w_8 w_15 w_297) (by decide) ⟨rfl, rfl⟩ ⟨Nat.le_of_ble_eq_true rfl, Nat.le_of_ble_eq_true rfl⟩ (va_recv hK hP (ci := 1) rfl (q0 := 0) rfl) rfl rfl (Nat.le_of_ble_eq_true rfl) dM_unseal_33 ⟨Nat.zero_le _, Nat.zero_le _⟩ rfl rfl ⟨by decide, by decide⟩ (by decide) (fun H locs hP hD hS => ?_)
    have hP : va_P D vwCl (mW cJ cI cZ q (1) A B T P Y G) H := hP
    have hD : va_D A9 (mW cJ cI cZ q (1) A B T P Y G) := hD
    refine W.eq (g2 := F0 m 36 ls [.int (1)]) rfl ?_
    refine lv_if_eq (tgt := 41) hx hb dM_unseal_36 (by decide) (fun h_2 => absurd h_2 (by decide)) (fun h_2 => ?_)
    refine lv_iconst (v := 0) hx hb dM_unseal_39 (by decide) ?_
    exact W.iret (v := 0) hx hb hr (fun t9 ht hW => ⟨rfl, by rw [ht]; exact hP, hD, hS.F ht⟩) hS.2.2 dM_unseal_40
  · have h_1 := bi_n h_1
    refine lv_iload_n hx hb dM_unseal_13 rfl (lv_at hl 2 rfl) ?_
    refine kr_S 1 (As := [.int (si)]) (rest := [.ref (q 0)]) (r := .int (bi (gi si))) hx hb hml hown hts hl.1 (mM_is l (si)) tt_stb trivial (gw_S w_298 w_299 w_15 w_300) (by decide) ⟨rfl, rfl⟩ ⟨Nat.le_of_ble_eq_true rfl, Nat.le_of_ble_eq_true rfl⟩ rfl rfl (Nat.le_of_ble_eq_true rfl) dM_unseal_14 ⟨Nat.zero_le _, Nat.zero_le _⟩ ?_
    refine lv_if_eq (tgt := 27) hx hb dM_unseal_17 (by decide) (fun h_3 => ?_) (fun h_3 => ?_)
    · have h_3 := bi_0 h_3
      refine lv_iconst (v := 1) hx hb dM_unseal_27 (by decide) ?_
      refine lv_goto (tgt := 32) hx hb dM_unseal_28 (by decide) ?_
      refine lv_iconst (v := 1) hx hb dM_unseal_32 (by decide) ?_
      refine kw_V 2 [0, 1, 2, 3, 4, 5, 6] [] (b := q 0) (As := [.int (1), .int (1)]) (rest := []) (wc := mW cJ cI cZ q (0) A B T P Y G) (wr := []) (w1 := mW cJ cI cZ q (1) A B T P Y G) hx hb hml hown hts hl.1 hP hD hS hA hK (mM_fails_t l D cJ cI cZ q 0 A B T P Y G _ 1 (by decide)) (gw_V w_294 w_296 w_8 w_15 w_297) (by decide) ⟨rfl, rfl⟩ ⟨Nat.le_of_ble_eq_true rfl, Nat.le_of_ble_eq_true rfl⟩ (va_recv hK hP (ci := 1) rfl (q0 := 0) rfl) rfl rfl (Nat.le_of_ble_eq_true rfl) dM_unseal_33 ⟨Nat.zero_le _, Nat.zero_le _⟩ rfl rfl ⟨by decide, by decide⟩ (by decide) (fun H locs hP hD hS => ?_)
      have hP : va_P D vwCl (mW cJ cI cZ q (1) A B T P Y G) H := hP
      have hD : va_D A9 (mW cJ cI cZ q (1) A B T P Y G) := hD
      refine W.eq (g2 := F0 m 36 ls [.int (1)]) rfl ?_
      refine lv_if_eq (tgt := 41) hx hb dM_unseal_36 (by decide) (fun h_4 => absurd h_4 (by decide)) (fun h_4 => ?_)
      refine lv_iconst (v := 0) hx hb dM_unseal_39 (by decide) ?_
      exact W.iret (v := 0) hx hb hr (fun t9 ht hW => ⟨rfl, by rw [ht]; exact hP, hD, hS.F ht⟩) hS.2.2 dM_unseal_40
    · have h_3 := bi_n h_3
      refine lv_iload_n hx hb dM_unseal_20 rfl (lv_at hl 3 rfl) ?_
      refine kr_S 1 (As := [.int (ti)]) (rest := [.ref (q 0)]) (r := .int (bi (gi ti))) hx hb hml hown hts hl.1 (mM_is l (ti)) tt_stb trivial (gw_S w_298 w_299 w_15 w_300) (by decide) ⟨rfl, rfl⟩ ⟨Nat.le_of_ble_eq_true rfl, Nat.le_of_ble_eq_true rfl⟩ rfl rfl (Nat.le_of_ble_eq_true rfl) dM_unseal_21 ⟨Nat.zero_le _, Nat.zero_le _⟩ ?_
      refine lv_if_ne (tgt := 31) hx hb dM_unseal_24 (by decide) (fun h_5 => ?_) (fun h_5 => ?_)
      · have h_5 := bi_n h_5
        exact absurd ⟨gi_in.mp h_1, gi_in.mp h_3, gi_in.mp h_5⟩ hbad
      · have h_5 := bi_0 h_5
        refine lv_iconst (v := 1) hx hb dM_unseal_27 (by decide) ?_
        refine lv_goto (tgt := 32) hx hb dM_unseal_28 (by decide) ?_
        refine lv_iconst (v := 1) hx hb dM_unseal_32 (by decide) ?_
        refine kw_V 2 [0, 1, 2, 3, 4, 5, 6] [] (b := q 0) (As := [.int (1), .int (1)]) (rest := []) (wc := mW cJ cI cZ q (0) A B T P Y G) (wr := []) (w1 := mW cJ cI cZ q (1) A B T P Y G) hx hb hml hown hts hl.1 hP hD hS hA hK (mM_fails_t l D cJ cI cZ q 0 A B T P Y G _ 1 (by decide)) (gw_V w_294 w_296 w_8 w_15 w_297) (by decide) ⟨rfl, rfl⟩ ⟨Nat.le_of_ble_eq_true rfl, Nat.le_of_ble_eq_true rfl⟩ (va_recv hK hP (ci := 1) rfl (q0 := 0) rfl) rfl rfl (Nat.le_of_ble_eq_true rfl) dM_unseal_33 ⟨Nat.zero_le _, Nat.zero_le _⟩ rfl rfl ⟨by decide, by decide⟩ (by decide) (fun H locs hP hD hS => ?_)
        have hP : va_P D vwCl (mW cJ cI cZ q (1) A B T P Y G) H := hP
        have hD : va_D A9 (mW cJ cI cZ q (1) A B T P Y G) := hD
        refine W.eq (g2 := F0 m 36 ls [.int (1)]) rfl ?_
        refine lv_if_eq (tgt := 41) hx hb dM_unseal_36 (by decide) (fun h_6 => absurd h_6 (by decide)) (fun h_6 => ?_)
        refine lv_iconst (v := 0) hx hb dM_unseal_39 (by decide) ?_
        exact W.iret (v := 0) hx hb hr (fun t9 ht hW => ⟨rfl, by rw [ht]; exact hP, hD, hS.F ht⟩) hS.2.2 dM_unseal_40

set_option maxRecDepth 100000 in
set_option maxHeartbeats 4000000 in
theorem mM_restrict_y (l : Launch) (D : va_G) (cJ cI cZ : ClassId) (q : Nat → Nat) (e0 : Int32) (A B T P Y : Nat → Int32) (G : Nat → Bool) (sz : Nat) (ri si v : Int32) (hri : vp_in ri 16) (hsi : vp_in si 16) (hps : un (P si.toNatClampNeg) < 256) : Met l yM_restrict (Cond.code yM_restrict cM_restrict 6 (some .boolean) :: gw) (rmk 2 0 0) (va_Pc [.ref (q 0), .int (ri), .int (si), .int (v)] (kB D vwCl (mW cJ cI cZ q (e0) A B T P Y G) (tsM cJ cI cZ) sz)) (kQ (some (.int (bi (G si.toNatClampNeg && (decide (Y si.toNatClampNeg = 0) || decide ((P si.toNatClampNeg) &&& (v) = P si.toNatClampNeg)))))) D vwCl (mW cJ cI cZ q (0) (upd A ri.toNatClampNeg (A si.toNatClampNeg)) (upd B ri.toNatClampNeg (B si.toNatClampNeg)) (upd T ri.toNatClampNeg (T si.toNatClampNeg)) (upd P ri.toNatClampNeg ((P si.toNatClampNeg) &&& (v))) (upd Y ri.toNatClampNeg (Y si.toNatClampNeg)) (ub G ri.toNatClampNeg ((G si.toNatClampNeg && (decide (Y si.toNatClampNeg = 0) || decide ((P si.toNatClampNeg) &&& (v) = P si.toNatClampNeg)))))) (va_A (mW cJ cI cZ q (e0) A B T P Y G) sz)) 0 0 (va_A (mW cJ cI cZ q (e0) A B T P Y G) sz) := by
  refine Met.ofW (cc := cM_restrict) (maxL := 6) (ret := (some .boolean)) (by decide) rfl ?_
  intro p e s m args below meth c s₁ B9 hml hv
  obtain ⟨rfl, hsz, hP, hK, hD0⟩ := hv
  have hx := B9.exec
  have hb := B9.bytes
  have hr := B9.returns
  have hts := fun (w : Cond) (h : w ∈ gw) => atoms_spec (ws := _ :: gw) B9.pre w (List.mem_cons_of_mem _ h)
  have hown : s.vm.findClass RM = some m.cls := findClass_of_methodNamed B9.named
  have hlocks := B9.notSynchronized
  have hl := lv_entry ([.ref (q 0), .int (ri), .int (si), .int (v)]) (n := 6) (Nat.le_of_ble_eq_true rfl)
  rw [lg_entry_eq]
  generalize (lg_sl ([.ref (q 0), .int (ri), .int (si), .int (v)]) ++ List.replicate (6 - (lg_sl ([.ref (q 0), .int (ri), .int (si), .int (v)])).length) Slot.unset).toArray = ls at hl ⊢
  have hl : lv_has ls 6 [(0, .ref (q 0)), (1, .int (ri)), (2, .int (si)), (3, .int (v))] := hl
  subst hsz
  have hD := hD0.self (sz := s.heap.size)
  generalize hAe : va_A (mW cJ cI cZ q (e0) A B T P Y G) s.heap.size = A9 at hD ⊢
  have hA : ∀ z : Nat, s.heap.size ≤ z → A9 z := fun z h => by rw [← hAe]; exact Or.inr h
  have hS : va_S A9 s.heap s.heap [] := va_S.rf
  have hP : va_P D vwCl (mW cJ cI cZ q (e0) A B T P Y G) s.heap := hP
  refine lv_aload_n hx hb dM_restrict_0 rfl (lv_at hl 0 rfl) ?_
  refine lv_iconst (v := 0) hx hb dM_restrict_1 (by decide) ?_
  refine va_put (D := D) (ci := 1) (v := .int (0)) (ty := .int) (C := RM) (T := TM) (N := 7) hx hb hts inM tyM tyM_ok nmM hown hK hP hD hS 0 rfl rfl 0 (by decide) (hts _ w_255) (fun _ h9 => h9) rfl (by decide +kernel) rfl rfl (Nat.le_of_ble_eq_true rfl) dM_restrict_2 (fun H locs hP hD hS => ?_)
  have hP : va_P D vwCl (mW cJ cI cZ q (0) A B T P Y G) H := hP
  have hD : va_D A9 (mW cJ cI cZ q (0) A B T P Y G) := hD
  refine lv_aload_n hx hb dM_restrict_5 rfl (lv_at hl 0 rfl) ?_
  refine lv_iload_n hx hb dM_restrict_6 rfl (lv_at hl 1 rfl) ?_
  refine kr_S 1 (As := [.int (ri)]) (rest := [.ref (q 0)]) (r := .int (bi (gi ri))) hx hb hml hown hts hl.1 (mM_is l (ri)) tt_stb trivial (gw_S w_298 w_299 w_15 w_300) (by decide) ⟨rfl, rfl⟩ ⟨Nat.le_of_ble_eq_true rfl, Nat.le_of_ble_eq_true rfl⟩ rfl rfl (Nat.le_of_ble_eq_true rfl) dM_restrict_7 ⟨Nat.zero_le _, Nat.zero_le _⟩ ?_
  refine lv_if_eq (tgt := 20) hx hb dM_restrict_10 (by decide) (fun h_1 => absurd h_1 (gi_nz hri)) (fun h_1 => ?_)
  have h_1 := bi_n h_1
  refine lv_iload_n hx hb dM_restrict_13 rfl (lv_at hl 2 rfl) ?_
  refine kr_S 1 (As := [.int (si)]) (rest := [.ref (q 0)]) (r := .int (bi (gi si))) hx hb hml hown hts hl.1 (mM_is l (si)) tt_stb trivial (gw_S w_298 w_299 w_15 w_300) (by decide) ⟨rfl, rfl⟩ ⟨Nat.le_of_ble_eq_true rfl, Nat.le_of_ble_eq_true rfl⟩ rfl rfl (Nat.le_of_ble_eq_true rfl) dM_restrict_14 ⟨Nat.zero_le _, Nat.zero_le _⟩ ?_
  refine lv_if_ne (tgt := 24) hx hb dM_restrict_17 (by decide) (fun h_2 => ?_) (fun h_2 => absurd h_2 (gi_nz hsi))
  have h_2 := bi_n h_2
  refine lv_iconst (v := 0) hx hb dM_restrict_24 (by decide) ?_
  refine lv_iconst (v := 1) hx hb dM_restrict_25 (by decide) ?_
  refine kw_V 2 [0, 1, 2, 3, 4, 5, 6] [] (b := q 0) (As := [.int (0), .int (1)]) (rest := []) (wc := mW cJ cI cZ q (0) A B T P Y G) (wr := []) (w1 := mW cJ cI cZ q (0) A B T P Y G) hx hb hml hown hts hl.1 hP hD hS hA hK (mM_fails_f l D cJ cI cZ q 0 A B T P Y G _ 1) (gw_V w_294 w_296 w_8 w_15 w_297) (by decide) ⟨rfl, rfl⟩ ⟨Nat.le_of_ble_eq_true rfl, Nat.le_of_ble_eq_true rfl⟩ (va_recv hK hP (ci := 1) rfl (q0 := 0) rfl) rfl rfl (Nat.le_of_ble_eq_true rfl) dM_restrict_26 ⟨Nat.zero_le _, Nat.zero_le _⟩ rfl rfl ⟨by decide, by decide⟩ (by decide) (fun H locs hP hD hS => ?_)
  have hP : va_P D vwCl (mW cJ cI cZ q (0) A B T P Y G) H := hP
  have hD : va_D A9 (mW cJ cI cZ q (0) A B T P Y G) := hD
  refine W.eq (g2 := F0 m 29 ls [.int (0)]) rfl ?_
  refine lv_if_eq (tgt := 34) hx hb dM_restrict_29 (by decide) (fun h_3 => ?_) (fun h_3 => absurd (by decide) h_3)
  refine lv_iconst (v := 0) hx hb dM_restrict_34 (by decide) ?_
  refine lv_istore hx hb dM_restrict_35 hl (by decide) rfl (fun ls hl => ?_)
  have hl : lv_has ls 6 [(4, .int (0)), (0, .ref (q 0)), (1, .int (ri)), (2, .int (si)), (3, .int (v))] := hl
  refine lv_iconst (v := 0) hx hb dM_restrict_37 (by decide) ?_
  refine lv_istore hx hb dM_restrict_38 hl (by decide) rfl (fun ls hl => ?_)
  have hl : lv_has ls 6 [(5, .int (0)), (4, .int (0)), (0, .ref (q 0)), (1, .int (ri)), (2, .int (si)), (3, .int (v))] := hl
  refine lp_W 8 (fun k ls => lv_has ls 6 [(5, .int (nI k)), (4, .int (nI (un (P si.toNatClampNeg &&& v) % 2 ^ k))), (0, .ref (q 0)), (1, .int (ri)), (2, .int (si)), (3, .int (v))]) (by show lv_has ls 6 [(5, .int (nI 0)), (4, .int (nI (un (P si.toNatClampNeg &&& v) % 2 ^ 0))), (0, .ref (q 0)), (1, .int ri), (2, .int si), (3, .int v)]; rw [Nat.pow_zero, Nat.mod_one]; exact lv_sub hl [0, 1, 2, 3, 4, 5] rfl) (fun k ls hk hl ih => ?_) (fun ls hl => ?_)
  · refine lv_iload hx hb dM_restrict_40 (lv_at hl 0 rfl) ?_
    refine lv_bipush (v := 8) hx hb dM_restrict_42 (by decide) ?_
    refine lv_icmp_ge (tgt := 87) hx hb dM_restrict_44 (by decide) (fun h_4 => absurd h_4 (show ¬ (8 : Int32) ≤ nI k from nI_ge (a := k) (b := 8) hk (by decide))) (fun h_4 => ?_)
    refine lv_aload_n hx hb dM_restrict_47 rfl (lv_at hl 2 rfl) ?_
    refine va_get (D := D) (ci := 1) (v := .ref (q 4)) (C := RM) (T := TM) (N := 7) hx hb hts inM hown hK hP 0 rfl rfl 4 (by decide) (hts _ w_259) (fun _ h9 => h9) rfl dM_restrict_48 ?_
    refine lv_iload_n hx hb dM_restrict_51 rfl (lv_at hl 4 rfl) ?_
    refine va_iald hx hb hK hP 4 1 rfl rfl hsi dM_restrict_52 ?_
    refine lv_iload hx hb dM_restrict_53 (lv_at hl 0 rfl) ?_
    refine lv_ishr hx hb dM_restrict_55 ?_
    refine lv_iconst (v := 1) hx hb dM_restrict_56 (by decide) ?_
    refine lv_iand hx hb dM_restrict_57 ?_
    refine lv_iconst (v := 1) hx hb dM_restrict_58 (by decide) ?_
    refine lv_icmp_ne (tgt := 81) hx hb dM_restrict_59 (by decide) (fun h_5 => ?_) (fun h_5 => ?_)
    · 
      refine lv_iinc (k := 0) (v := nI (k + 1)) hx hb dM_restrict_81 hl rfl (nI_succ k).symm (by decide) rfl (fun ls hl => ?_)
      have hl : lv_has ls 6 [(5, .int (nI (k + 1))), (4, .int (nI (un (P si.toNatClampNeg &&& v) % 2 ^ k))), (0, .ref (q 0)), (1, .int (ri)), (2, .int (si)), (3, .int (v))] := hl
      refine lv_goto (tgt := 40) hx hb dM_restrict_84 (by decide) ?_
      have e9 : nI (un (P si.toNatClampNeg &&& v) % 2 ^ k) = nI (un (P si.toNatClampNeg &&& v) % 2 ^ (k + 1)) := ra_n (by rw [b_and]; intro h9; exact h_5 ((bq_1 _ (by omega)).mpr ((Bool.and_eq_true _ _).mp h9).1))
      exact ih _ (by show lv_has _ 6 [(5, .int (nI (k + 1))), (4, .int (nI (un (P si.toNatClampNeg &&& v) % 2 ^ (k + 1)))), (0, .ref (q 0)), (1, .int ri), (2, .int si), (3, .int v)]; rw [← e9]; exact lv_sub hl [0, 1, 2, 3, 4, 5] rfl)
    · 
      refine lv_iload_n hx hb dM_restrict_62 rfl (lv_at hl 5 rfl) ?_
      refine lv_iload hx hb dM_restrict_63 (lv_at hl 0 rfl) ?_
      refine lv_ishr hx hb dM_restrict_65 ?_
      refine lv_iconst (v := 1) hx hb dM_restrict_66 (by decide) ?_
      refine lv_iand hx hb dM_restrict_67 ?_
      refine lv_iconst (v := 1) hx hb dM_restrict_68 (by decide) ?_
      refine lv_icmp_ne (tgt := 81) hx hb dM_restrict_69 (by decide) (fun h_6 => ?_) (fun h_6 => ?_)
      · 
        refine lv_iinc (k := 0) (v := nI (k + 1)) hx hb dM_restrict_81 hl rfl (nI_succ k).symm (by decide) rfl (fun ls hl => ?_)
        have hl : lv_has ls 6 [(5, .int (nI (k + 1))), (4, .int (nI (un (P si.toNatClampNeg &&& v) % 2 ^ k))), (0, .ref (q 0)), (1, .int (ri)), (2, .int (si)), (3, .int (v))] := hl
        refine lv_goto (tgt := 40) hx hb dM_restrict_84 (by decide) ?_
        have e9 : nI (un (P si.toNatClampNeg &&& v) % 2 ^ k) = nI (un (P si.toNatClampNeg &&& v) % 2 ^ (k + 1)) := ra_n (by rw [b_and]; intro h9; exact h_6 ((bq_1 _ (by omega)).mpr ((Bool.and_eq_true _ _).mp h9).2))
        exact ih _ (by show lv_has _ 6 [(5, .int (nI (k + 1))), (4, .int (nI (un (P si.toNatClampNeg &&& v) % 2 ^ (k + 1)))), (0, .ref (q 0)), (1, .int ri), (2, .int si), (3, .int v)]; rw [← e9]; exact lv_sub hl [0, 1, 2, 3, 4, 5] rfl)
      · 
        refine lv_iload hx hb dM_restrict_72 (lv_at hl 1 rfl) ?_
        refine lv_iconst (v := 1) hx hb dM_restrict_74 (by decide) ?_
        refine lv_iload hx hb dM_restrict_75 (lv_at hl 0 rfl) ?_
        refine lv_ishl hx hb dM_restrict_77 ?_
        refine lv_iadd hx hb dM_restrict_78 ?_
        refine lv_istore hx hb dM_restrict_79 hl (by decide) rfl (fun ls hl => ?_)
        have hl : lv_has ls 6 [(4, .int ((nI (un (P si.toNatClampNeg &&& v) % 2 ^ k)) + ((1) <<< ((nI k) &&& 31)))), (5, .int (nI k)), (0, .ref (q 0)), (1, .int (ri)), (2, .int (si)), (3, .int (v))] := hl
        refine lv_iinc (k := 1) (v := nI (k + 1)) hx hb dM_restrict_81 hl rfl (nI_succ k).symm (by decide) rfl (fun ls hl => ?_)
        have hl : lv_has ls 6 [(5, .int (nI (k + 1))), (4, .int ((nI (un (P si.toNatClampNeg &&& v) % 2 ^ k)) + ((1) <<< ((nI k) &&& 31)))), (0, .ref (q 0)), (1, .int (ri)), (2, .int (si)), (3, .int (v))] := hl
        refine lv_goto (tgt := 40) hx hb dM_restrict_84 (by decide) ?_
        have e9 : (nI (un (P si.toNatClampNeg &&& v) % 2 ^ k)) + ((1) <<< ((nI k) &&& 31)) = nI (un (P si.toNatClampNeg &&& v) % 2 ^ (k + 1)) := ra_y (by omega) (by rw [b_and, (bq_1 _ (by omega)).mp h_5, (bq_1 _ (by omega)).mp h_6]; rfl)
        exact ih _ (by show lv_has _ 6 [(5, .int (nI (k + 1))), (4, .int (nI (un (P si.toNatClampNeg &&& v) % 2 ^ (k + 1)))), (0, .ref (q 0)), (1, .int ri), (2, .int si), (3, .int v)]; rw [← e9]; exact lv_sub hl [0, 1, 2, 3, 4, 5] rfl)
  · have hl : lv_has ls 6 [(5, .int (nI 8)), (4, .int ((P si.toNatClampNeg) &&& (v))), (0, .ref (q 0)), (1, .int (ri)), (2, .int (si)), (3, .int (v))] := by have h9 := hl; rw [ra_8 hps] at h9; exact h9
    refine lv_iload hx hb dM_restrict_40 (lv_at hl 0 rfl) ?_
    refine lv_bipush (v := 8) hx hb dM_restrict_42 (by decide) ?_
    refine lv_icmp_ge (tgt := 87) hx hb dM_restrict_44 (by decide) (fun h_7 => ?_) (fun h_7 => absurd (by decide) h_7)
    refine lv_aload_n hx hb dM_restrict_87 rfl (lv_at hl 2 rfl) ?_
    refine lv_iload_n hx hb dM_restrict_88 rfl (lv_at hl 3 rfl) ?_
    refine lv_aload_n hx hb dM_restrict_89 rfl (lv_at hl 2 rfl) ?_
    refine va_get (D := D) (ci := 1) (v := .ref (q 1)) (C := RM) (T := TM) (N := 7) hx hb hts inM hown hK hP 0 rfl rfl 1 (by decide) (hts _ w_256) (fun _ h9 => h9) rfl dM_restrict_90 ?_
    refine lv_iload_n hx hb dM_restrict_93 rfl (lv_at hl 4 rfl) ?_
    refine va_lald hx hb hK hP 1 0 rfl rfl hsi dM_restrict_94 ?_
    refine W.eq (g2 := F0 m 95 ls [.long (uw (A si.toNatClampNeg)), .int (ri), .ref (q 0)]) rfl ?_
    refine lv_aload_n hx hb dM_restrict_95 rfl (lv_at hl 2 rfl) ?_
    refine va_get (D := D) (ci := 1) (v := .ref (q 2)) (C := RM) (T := TM) (N := 7) hx hb hts inM hown hK hP 0 rfl rfl 2 (by decide) (hts _ w_257) (fun _ h9 => h9) rfl dM_restrict_96 ?_
    refine lv_iload_n hx hb dM_restrict_99 rfl (lv_at hl 4 rfl) ?_
    refine va_lald hx hb hK hP 2 0 rfl rfl hsi dM_restrict_100 ?_
    refine W.eq (g2 := F0 m 101 ls [.long (uw (B si.toNatClampNeg)), .long (uw (A si.toNatClampNeg)), .int (ri), .ref (q 0)]) rfl ?_
    refine lv_aload_n hx hb dM_restrict_101 rfl (lv_at hl 2 rfl) ?_
    refine va_get (D := D) (ci := 1) (v := .ref (q 3)) (C := RM) (T := TM) (N := 7) hx hb hts inM hown hK hP 0 rfl rfl 3 (by decide) (hts _ w_258) (fun _ h9 => h9) rfl dM_restrict_102 ?_
    refine lv_iload_n hx hb dM_restrict_105 rfl (lv_at hl 4 rfl) ?_
    refine va_lald hx hb hK hP 3 0 rfl rfl hsi dM_restrict_106 ?_
    refine W.eq (g2 := F0 m 107 ls [.long (uw (T si.toNatClampNeg)), .long (uw (B si.toNatClampNeg)), .long (uw (A si.toNatClampNeg)), .int (ri), .ref (q 0)]) rfl ?_
    refine lv_iload hx hb dM_restrict_107 (lv_at hl 1 rfl) ?_
    refine lv_aload_n hx hb dM_restrict_109 rfl (lv_at hl 2 rfl) ?_
    refine va_get (D := D) (ci := 1) (v := .ref (q 5)) (C := RM) (T := TM) (N := 7) hx hb hts inM hown hK hP 0 rfl rfl 5 (by decide) (hts _ w_260) (fun _ h9 => h9) rfl dM_restrict_110 ?_
    refine lv_iload_n hx hb dM_restrict_113 rfl (lv_at hl 4 rfl) ?_
    refine va_iald hx hb hK hP 5 1 rfl rfl hsi dM_restrict_114 ?_
    refine lv_aload_n hx hb dM_restrict_115 rfl (lv_at hl 2 rfl) ?_
    refine va_get (D := D) (ci := 1) (v := .ref (q 6)) (C := RM) (T := TM) (N := 7) hx hb hts inM hown hK hP 0 rfl rfl 6 (by decide) (hts _ w_261) (fun _ h9 => h9) rfl dM_restrict_116 ?_
    refine lv_iload_n hx hb dM_restrict_119 rfl (lv_at hl 4 rfl) ?_
    refine va_zald hx hb hK hP 6 2 rfl rfl hsi dM_restrict_120 ?_
    refine W.eq (g2 := F0 m 121 ls [.int (bi (G si.toNatClampNeg)), .int (Y si.toNatClampNeg), .int ((P si.toNatClampNeg) &&& (v)), .long (uw (T si.toNatClampNeg)), .long (uw (B si.toNatClampNeg)), .long (uw (A si.toNatClampNeg)), .int (ri), .ref (q 0)]) rfl ?_
    refine lv_if_eq (tgt := 147) hx hb dM_restrict_121 (by decide) (fun h_8 => ?_) (fun h_8 => ?_)
    · have h_8 := bi_0 h_8
      refine lv_iconst (v := 0) hx hb dM_restrict_147 (by decide) ?_
      refine W.eq (g2 := F0 m 148 ls [.int (bi (false)), .int (Y si.toNatClampNeg), .int ((P si.toNatClampNeg) &&& (v)), .long (uw (T si.toNatClampNeg)), .long (uw (B si.toNatClampNeg)), .long (uw (A si.toNatClampNeg)), .int (ri), .ref (q 0)]) rfl ?_
      refine kw_V 7 [0, 1, 2, 3, 4, 5, 6] [] (b := q 0) (As := [.int (ri), .long (uw (A si.toNatClampNeg)), .long (uw (B si.toNatClampNeg)), .long (uw (T si.toNatClampNeg)), .int ((P si.toNatClampNeg) &&& (v)), .int (Y si.toNatClampNeg), .int (bi (false))]) (rest := []) (wc := mW cJ cI cZ q (0) A B T P Y G) (wr := []) (w1 := mW cJ cI cZ q (0) (upd A ri.toNatClampNeg (A si.toNatClampNeg)) (upd B ri.toNatClampNeg (B si.toNatClampNeg)) (upd T ri.toNatClampNeg (T si.toNatClampNeg)) (upd P ri.toNatClampNeg ((P si.toNatClampNeg) &&& (v))) (upd Y ri.toNatClampNeg (Y si.toNatClampNeg)) (ub G ri.toNatClampNeg (false))) hx hb hml hown hts hl.1 hP hD hS hA hK (mM_give l D cJ cI cZ q (0) A B T P Y G _ ri (A si.toNatClampNeg) (B si.toNatClampNeg) (T si.toNatClampNeg) ((P si.toNatClampNeg) &&& (v)) (Y si.toNatClampNeg) false hri) (gw_V w_302 w_304 w_9 w_15 w_305) (by decide) ⟨rfl, rfl⟩ ⟨Nat.le_of_ble_eq_true rfl, Nat.le_of_ble_eq_true rfl⟩ (va_recv hK hP (ci := 1) rfl (q0 := 0) rfl) rfl rfl (Nat.le_of_ble_eq_true rfl) dM_restrict_148 ⟨Nat.zero_le _, Nat.zero_le _⟩ rfl rfl ⟨by decide, by decide⟩ (by decide) (fun H locs hP hD hS => ?_)
      have hP : va_P D vwCl (mW cJ cI cZ q (0) (upd A ri.toNatClampNeg (A si.toNatClampNeg)) (upd B ri.toNatClampNeg (B si.toNatClampNeg)) (upd T ri.toNatClampNeg (T si.toNatClampNeg)) (upd P ri.toNatClampNeg ((P si.toNatClampNeg) &&& (v))) (upd Y ri.toNatClampNeg (Y si.toNatClampNeg)) (ub G ri.toNatClampNeg (false))) H := hP
      have hD : va_D A9 (mW cJ cI cZ q (0) (upd A ri.toNatClampNeg (A si.toNatClampNeg)) (upd B ri.toNatClampNeg (B si.toNatClampNeg)) (upd T ri.toNatClampNeg (T si.toNatClampNeg)) (upd P ri.toNatClampNeg ((P si.toNatClampNeg) &&& (v))) (upd Y ri.toNatClampNeg (Y si.toNatClampNeg)) (ub G ri.toNatClampNeg (false))) := hD
      refine W.eq (g2 := F0 m 151 ls []) rfl ?_
      refine lv_aload_n hx hb dM_restrict_151 rfl (lv_at hl 2 rfl) ?_
      refine va_get (D := D) (ci := 1) (v := .ref (q 6)) (C := RM) (T := TM) (N := 7) hx hb hts inM hown hK hP 0 rfl rfl 6 (by decide) (hts _ w_261) (fun _ h9 => h9) rfl dM_restrict_152 ?_
      refine lv_iload_n hx hb dM_restrict_155 rfl (lv_at hl 3 rfl) ?_
      refine va_zald hx hb hK hP 6 2 rfl rfl hri dM_restrict_156 ?_
      refine W.eq (g2 := F0 m 157 ls [.int (bi (false))]) (by first | rfl | (rw [ub_s] <;> rfl)) ?_
      have e9_0 : (G si.toNatClampNeg && (decide (Y si.toNatClampNeg = 0) || decide ((P si.toNatClampNeg) &&& (v) = P si.toNatClampNeg))) = false := by (try simp only [decide_eq_true_eq, decide_eq_false_iff_not, Decidable.not_not] at h_7); (try simp only [decide_eq_true_eq, decide_eq_false_iff_not, Decidable.not_not] at h_8); simp [h_7, h_8]
      have hP : va_P D vwCl (mW cJ cI cZ q (0) (upd A ri.toNatClampNeg (A si.toNatClampNeg)) (upd B ri.toNatClampNeg (B si.toNatClampNeg)) (upd T ri.toNatClampNeg (T si.toNatClampNeg)) (upd P ri.toNatClampNeg ((P si.toNatClampNeg) &&& (v))) (upd Y ri.toNatClampNeg (Y si.toNatClampNeg)) (ub G ri.toNatClampNeg ((G si.toNatClampNeg && (decide (Y si.toNatClampNeg = 0) || decide ((P si.toNatClampNeg) &&& (v) = P si.toNatClampNeg)))))) H := by (try rw [e9_0]); first | exact hP | (simp only [uu_upd, uu_ub] at hP ⊢; exact hP)
      have hD : va_D A9 (mW cJ cI cZ q (0) (upd A ri.toNatClampNeg (A si.toNatClampNeg)) (upd B ri.toNatClampNeg (B si.toNatClampNeg)) (upd T ri.toNatClampNeg (T si.toNatClampNeg)) (upd P ri.toNatClampNeg ((P si.toNatClampNeg) &&& (v))) (upd Y ri.toNatClampNeg (Y si.toNatClampNeg)) (ub G ri.toNatClampNeg ((G si.toNatClampNeg && (decide (Y si.toNatClampNeg = 0) || decide ((P si.toNatClampNeg) &&& (v) = P si.toNatClampNeg)))))) := by (try rw [e9_0]); first | exact hD | (simp only [uu_upd, uu_ub] at hD ⊢; exact hD)
      refine W.eq (g2 := F0 m 157 ls [.int (bi (G si.toNatClampNeg && (decide (Y si.toNatClampNeg = 0) || decide ((P si.toNatClampNeg) &&& (v) = P si.toNatClampNeg))))]) (by first | rfl | (rw [e9_0] <;> rfl)) ?_
      exact W.zret (v := bi (G si.toNatClampNeg && (decide (Y si.toNatClampNeg = 0) || decide ((P si.toNatClampNeg) &&& (v) = P si.toNatClampNeg)))) hx hb hr (bi_nar _) (fun t9 ht hW => ⟨rfl, by rw [ht]; exact hP, hD, hS.F ht⟩) hS.2.2 dM_restrict_157
    · have h_8 := bi_n h_8
      refine lv_aload_n hx hb dM_restrict_124 rfl (lv_at hl 2 rfl) ?_
      refine lv_iload_n hx hb dM_restrict_125 rfl (lv_at hl 4 rfl) ?_
      refine kr_Vw 1 (b := q 0) (As := [.int (si)]) (rest := [.int (Y si.toNatClampNeg), .int ((P si.toNatClampNeg) &&& (v)), .long (uw (T si.toNatClampNeg)), .long (uw (B si.toNatClampNeg)), .long (uw (A si.toNatClampNeg)), .int (ri), .ref (q 0)]) (r := .int (bi (decide (¬ Y si.toNatClampNeg = 0)))) hx hb hml hown hts hl.1 (mM_isSealed l D cJ cI cZ q (0) A B T P Y G (si) hsi) rB_stb ⟨hP, hK⟩ (gw_V w_314 w_316 w_10 w_15 w_317) (by decide) ⟨rfl, rfl⟩ ⟨Nat.le_of_ble_eq_true rfl, Nat.le_of_ble_eq_true rfl⟩ (va_recv hK hP (ci := 1) rfl (q0 := 0) rfl) rfl rfl (Nat.le_of_ble_eq_true rfl) dM_restrict_126 ⟨Nat.zero_le _, Nat.zero_le _⟩ ?_
      refine lv_if_eq (tgt := 143) hx hb dM_restrict_129 (by decide) (fun h_9 => ?_) (fun h_9 => ?_)
      · have h_9 := bi_0 h_9
        refine lv_iconst (v := 1) hx hb dM_restrict_143 (by decide) ?_
        refine lv_goto (tgt := 148) hx hb dM_restrict_144 (by decide) ?_
        refine W.eq (g2 := F0 m 148 ls [.int (bi (true)), .int (Y si.toNatClampNeg), .int ((P si.toNatClampNeg) &&& (v)), .long (uw (T si.toNatClampNeg)), .long (uw (B si.toNatClampNeg)), .long (uw (A si.toNatClampNeg)), .int (ri), .ref (q 0)]) rfl ?_
        refine kw_V 7 [0, 1, 2, 3, 4, 5, 6] [] (b := q 0) (As := [.int (ri), .long (uw (A si.toNatClampNeg)), .long (uw (B si.toNatClampNeg)), .long (uw (T si.toNatClampNeg)), .int ((P si.toNatClampNeg) &&& (v)), .int (Y si.toNatClampNeg), .int (bi (true))]) (rest := []) (wc := mW cJ cI cZ q (0) A B T P Y G) (wr := []) (w1 := mW cJ cI cZ q (0) (upd A ri.toNatClampNeg (A si.toNatClampNeg)) (upd B ri.toNatClampNeg (B si.toNatClampNeg)) (upd T ri.toNatClampNeg (T si.toNatClampNeg)) (upd P ri.toNatClampNeg ((P si.toNatClampNeg) &&& (v))) (upd Y ri.toNatClampNeg (Y si.toNatClampNeg)) (ub G ri.toNatClampNeg (true))) hx hb hml hown hts hl.1 hP hD hS hA hK (mM_give l D cJ cI cZ q (0) A B T P Y G _ ri (A si.toNatClampNeg) (B si.toNatClampNeg) (T si.toNatClampNeg) ((P si.toNatClampNeg) &&& (v)) (Y si.toNatClampNeg) true hri) (gw_V w_302 w_304 w_9 w_15 w_305) (by decide) ⟨rfl, rfl⟩ ⟨Nat.le_of_ble_eq_true rfl, Nat.le_of_ble_eq_true rfl⟩ (va_recv hK hP (ci := 1) rfl (q0 := 0) rfl) rfl rfl (Nat.le_of_ble_eq_true rfl) dM_restrict_148 ⟨Nat.zero_le _, Nat.zero_le _⟩ rfl rfl ⟨by decide, by decide⟩ (by decide) (fun H locs hP hD hS => ?_)
        have hP : va_P D vwCl (mW cJ cI cZ q (0) (upd A ri.toNatClampNeg (A si.toNatClampNeg)) (upd B ri.toNatClampNeg (B si.toNatClampNeg)) (upd T ri.toNatClampNeg (T si.toNatClampNeg)) (upd P ri.toNatClampNeg ((P si.toNatClampNeg) &&& (v))) (upd Y ri.toNatClampNeg (Y si.toNatClampNeg)) (ub G ri.toNatClampNeg (true))) H := hP
        have hD : va_D A9 (mW cJ cI cZ q (0) (upd A ri.toNatClampNeg (A si.toNatClampNeg)) (upd B ri.toNatClampNeg (B si.toNatClampNeg)) (upd T ri.toNatClampNeg (T si.toNatClampNeg)) (upd P ri.toNatClampNeg ((P si.toNatClampNeg) &&& (v))) (upd Y ri.toNatClampNeg (Y si.toNatClampNeg)) (ub G ri.toNatClampNeg (true))) := hD
        refine W.eq (g2 := F0 m 151 ls []) rfl ?_
        refine lv_aload_n hx hb dM_restrict_151 rfl (lv_at hl 2 rfl) ?_
        refine va_get (D := D) (ci := 1) (v := .ref (q 6)) (C := RM) (T := TM) (N := 7) hx hb hts inM hown hK hP 0 rfl rfl 6 (by decide) (hts _ w_261) (fun _ h9 => h9) rfl dM_restrict_152 ?_
        refine lv_iload_n hx hb dM_restrict_155 rfl (lv_at hl 3 rfl) ?_
        refine va_zald hx hb hK hP 6 2 rfl rfl hri dM_restrict_156 ?_
        refine W.eq (g2 := F0 m 157 ls [.int (bi (true))]) (by first | rfl | (rw [ub_s] <;> rfl)) ?_
        have e9_0 : (G si.toNatClampNeg && (decide (Y si.toNatClampNeg = 0) || decide ((P si.toNatClampNeg) &&& (v) = P si.toNatClampNeg))) = true := by (try simp only [decide_eq_true_eq, decide_eq_false_iff_not, Decidable.not_not] at h_7); (try simp only [decide_eq_true_eq, decide_eq_false_iff_not, Decidable.not_not] at h_8); (try simp only [decide_eq_true_eq, decide_eq_false_iff_not, Decidable.not_not] at h_9); simp [h_7, h_8, h_9]
        have hP : va_P D vwCl (mW cJ cI cZ q (0) (upd A ri.toNatClampNeg (A si.toNatClampNeg)) (upd B ri.toNatClampNeg (B si.toNatClampNeg)) (upd T ri.toNatClampNeg (T si.toNatClampNeg)) (upd P ri.toNatClampNeg ((P si.toNatClampNeg) &&& (v))) (upd Y ri.toNatClampNeg (Y si.toNatClampNeg)) (ub G ri.toNatClampNeg ((G si.toNatClampNeg && (decide (Y si.toNatClampNeg = 0) || decide ((P si.toNatClampNeg) &&& (v) = P si.toNatClampNeg)))))) H := by (try rw [e9_0]); first | exact hP | (simp only [uu_upd, uu_ub] at hP ⊢; exact hP)
        have hD : va_D A9 (mW cJ cI cZ q (0) (upd A ri.toNatClampNeg (A si.toNatClampNeg)) (upd B ri.toNatClampNeg (B si.toNatClampNeg)) (upd T ri.toNatClampNeg (T si.toNatClampNeg)) (upd P ri.toNatClampNeg ((P si.toNatClampNeg) &&& (v))) (upd Y ri.toNatClampNeg (Y si.toNatClampNeg)) (ub G ri.toNatClampNeg ((G si.toNatClampNeg && (decide (Y si.toNatClampNeg = 0) || decide ((P si.toNatClampNeg) &&& (v) = P si.toNatClampNeg)))))) := by (try rw [e9_0]); first | exact hD | (simp only [uu_upd, uu_ub] at hD ⊢; exact hD)
        refine W.eq (g2 := F0 m 157 ls [.int (bi (G si.toNatClampNeg && (decide (Y si.toNatClampNeg = 0) || decide ((P si.toNatClampNeg) &&& (v) = P si.toNatClampNeg))))]) (by first | rfl | (rw [e9_0] <;> rfl)) ?_
        exact W.zret (v := bi (G si.toNatClampNeg && (decide (Y si.toNatClampNeg = 0) || decide ((P si.toNatClampNeg) &&& (v) = P si.toNatClampNeg)))) hx hb hr (bi_nar _) (fun t9 ht hW => ⟨rfl, by rw [ht]; exact hP, hD, hS.F ht⟩) hS.2.2 dM_restrict_157
      · have h_9 := bi_n h_9
        refine lv_iload hx hb dM_restrict_132 (lv_at hl 1 rfl) ?_
        refine lv_aload_n hx hb dM_restrict_134 rfl (lv_at hl 2 rfl) ?_
        refine va_get (D := D) (ci := 1) (v := .ref (q 4)) (C := RM) (T := TM) (N := 7) hx hb hts inM hown hK hP 0 rfl rfl 4 (by decide) (hts _ w_259) (fun _ h9 => h9) rfl dM_restrict_135 ?_
        refine lv_iload_n hx hb dM_restrict_138 rfl (lv_at hl 4 rfl) ?_
        refine va_iald hx hb hK hP 4 1 rfl rfl hsi dM_restrict_139 ?_
        refine lv_icmp_ne (tgt := 147) hx hb dM_restrict_140 (by decide) (fun h_10 => ?_) (fun h_10 => ?_)
        · 
          refine lv_iconst (v := 0) hx hb dM_restrict_147 (by decide) ?_
          refine W.eq (g2 := F0 m 148 ls [.int (bi (false)), .int (Y si.toNatClampNeg), .int ((P si.toNatClampNeg) &&& (v)), .long (uw (T si.toNatClampNeg)), .long (uw (B si.toNatClampNeg)), .long (uw (A si.toNatClampNeg)), .int (ri), .ref (q 0)]) rfl ?_
          refine kw_V 7 [0, 1, 2, 3, 4, 5, 6] [] (b := q 0) (As := [.int (ri), .long (uw (A si.toNatClampNeg)), .long (uw (B si.toNatClampNeg)), .long (uw (T si.toNatClampNeg)), .int ((P si.toNatClampNeg) &&& (v)), .int (Y si.toNatClampNeg), .int (bi (false))]) (rest := []) (wc := mW cJ cI cZ q (0) A B T P Y G) (wr := []) (w1 := mW cJ cI cZ q (0) (upd A ri.toNatClampNeg (A si.toNatClampNeg)) (upd B ri.toNatClampNeg (B si.toNatClampNeg)) (upd T ri.toNatClampNeg (T si.toNatClampNeg)) (upd P ri.toNatClampNeg ((P si.toNatClampNeg) &&& (v))) (upd Y ri.toNatClampNeg (Y si.toNatClampNeg)) (ub G ri.toNatClampNeg (false))) hx hb hml hown hts hl.1 hP hD hS hA hK (mM_give l D cJ cI cZ q (0) A B T P Y G _ ri (A si.toNatClampNeg) (B si.toNatClampNeg) (T si.toNatClampNeg) ((P si.toNatClampNeg) &&& (v)) (Y si.toNatClampNeg) false hri) (gw_V w_302 w_304 w_9 w_15 w_305) (by decide) ⟨rfl, rfl⟩ ⟨Nat.le_of_ble_eq_true rfl, Nat.le_of_ble_eq_true rfl⟩ (va_recv hK hP (ci := 1) rfl (q0 := 0) rfl) rfl rfl (Nat.le_of_ble_eq_true rfl) dM_restrict_148 ⟨Nat.zero_le _, Nat.zero_le _⟩ rfl rfl ⟨by decide, by decide⟩ (by decide) (fun H locs hP hD hS => ?_)
          have hP : va_P D vwCl (mW cJ cI cZ q (0) (upd A ri.toNatClampNeg (A si.toNatClampNeg)) (upd B ri.toNatClampNeg (B si.toNatClampNeg)) (upd T ri.toNatClampNeg (T si.toNatClampNeg)) (upd P ri.toNatClampNeg ((P si.toNatClampNeg) &&& (v))) (upd Y ri.toNatClampNeg (Y si.toNatClampNeg)) (ub G ri.toNatClampNeg (false))) H := hP
          have hD : va_D A9 (mW cJ cI cZ q (0) (upd A ri.toNatClampNeg (A si.toNatClampNeg)) (upd B ri.toNatClampNeg (B si.toNatClampNeg)) (upd T ri.toNatClampNeg (T si.toNatClampNeg)) (upd P ri.toNatClampNeg ((P si.toNatClampNeg) &&& (v))) (upd Y ri.toNatClampNeg (Y si.toNatClampNeg)) (ub G ri.toNatClampNeg (false))) := hD
          refine W.eq (g2 := F0 m 151 ls []) rfl ?_
          refine lv_aload_n hx hb dM_restrict_151 rfl (lv_at hl 2 rfl) ?_
          refine va_get (D := D) (ci := 1) (v := .ref (q 6)) (C := RM) (T := TM) (N := 7) hx hb hts inM hown hK hP 0 rfl rfl 6 (by decide) (hts _ w_261) (fun _ h9 => h9) rfl dM_restrict_152 ?_
          refine lv_iload_n hx hb dM_restrict_155 rfl (lv_at hl 3 rfl) ?_
          refine va_zald hx hb hK hP 6 2 rfl rfl hri dM_restrict_156 ?_
          refine W.eq (g2 := F0 m 157 ls [.int (bi (false))]) (by first | rfl | (rw [ub_s] <;> rfl)) ?_
          have e9_0 : (G si.toNatClampNeg && (decide (Y si.toNatClampNeg = 0) || decide ((P si.toNatClampNeg) &&& (v) = P si.toNatClampNeg))) = false := by (try simp only [decide_eq_true_eq, decide_eq_false_iff_not, Decidable.not_not] at h_7); (try simp only [decide_eq_true_eq, decide_eq_false_iff_not, Decidable.not_not] at h_8); (try simp only [decide_eq_true_eq, decide_eq_false_iff_not, Decidable.not_not] at h_9); (try simp only [decide_eq_true_eq, decide_eq_false_iff_not, Decidable.not_not] at h_10); simp [h_7, h_8, h_9, h_10]
          have hP : va_P D vwCl (mW cJ cI cZ q (0) (upd A ri.toNatClampNeg (A si.toNatClampNeg)) (upd B ri.toNatClampNeg (B si.toNatClampNeg)) (upd T ri.toNatClampNeg (T si.toNatClampNeg)) (upd P ri.toNatClampNeg ((P si.toNatClampNeg) &&& (v))) (upd Y ri.toNatClampNeg (Y si.toNatClampNeg)) (ub G ri.toNatClampNeg ((G si.toNatClampNeg && (decide (Y si.toNatClampNeg = 0) || decide ((P si.toNatClampNeg) &&& (v) = P si.toNatClampNeg)))))) H := by (try rw [e9_0]); first | exact hP | (simp only [uu_upd, uu_ub] at hP ⊢; exact hP)
          have hD : va_D A9 (mW cJ cI cZ q (0) (upd A ri.toNatClampNeg (A si.toNatClampNeg)) (upd B ri.toNatClampNeg (B si.toNatClampNeg)) (upd T ri.toNatClampNeg (T si.toNatClampNeg)) (upd P ri.toNatClampNeg ((P si.toNatClampNeg) &&& (v))) (upd Y ri.toNatClampNeg (Y si.toNatClampNeg)) (ub G ri.toNatClampNeg ((G si.toNatClampNeg && (decide (Y si.toNatClampNeg = 0) || decide ((P si.toNatClampNeg) &&& (v) = P si.toNatClampNeg)))))) := by (try rw [e9_0]); first | exact hD | (simp only [uu_upd, uu_ub] at hD ⊢; exact hD)
          refine W.eq (g2 := F0 m 157 ls [.int (bi (G si.toNatClampNeg && (decide (Y si.toNatClampNeg = 0) || decide ((P si.toNatClampNeg) &&& (v) = P si.toNatClampNeg))))]) (by first | rfl | (rw [e9_0] <;> rfl)) ?_
          exact W.zret (v := bi (G si.toNatClampNeg && (decide (Y si.toNatClampNeg = 0) || decide ((P si.toNatClampNeg) &&& (v) = P si.toNatClampNeg)))) hx hb hr (bi_nar _) (fun t9 ht hW => ⟨rfl, by rw [ht]; exact hP, hD, hS.F ht⟩) hS.2.2 dM_restrict_157
        · 
          refine lv_iconst (v := 1) hx hb dM_restrict_143 (by decide) ?_
          refine lv_goto (tgt := 148) hx hb dM_restrict_144 (by decide) ?_
          refine W.eq (g2 := F0 m 148 ls [.int (bi (true)), .int (Y si.toNatClampNeg), .int ((P si.toNatClampNeg) &&& (v)), .long (uw (T si.toNatClampNeg)), .long (uw (B si.toNatClampNeg)), .long (uw (A si.toNatClampNeg)), .int (ri), .ref (q 0)]) rfl ?_
          refine kw_V 7 [0, 1, 2, 3, 4, 5, 6] [] (b := q 0) (As := [.int (ri), .long (uw (A si.toNatClampNeg)), .long (uw (B si.toNatClampNeg)), .long (uw (T si.toNatClampNeg)), .int ((P si.toNatClampNeg) &&& (v)), .int (Y si.toNatClampNeg), .int (bi (true))]) (rest := []) (wc := mW cJ cI cZ q (0) A B T P Y G) (wr := []) (w1 := mW cJ cI cZ q (0) (upd A ri.toNatClampNeg (A si.toNatClampNeg)) (upd B ri.toNatClampNeg (B si.toNatClampNeg)) (upd T ri.toNatClampNeg (T si.toNatClampNeg)) (upd P ri.toNatClampNeg ((P si.toNatClampNeg) &&& (v))) (upd Y ri.toNatClampNeg (Y si.toNatClampNeg)) (ub G ri.toNatClampNeg (true))) hx hb hml hown hts hl.1 hP hD hS hA hK (mM_give l D cJ cI cZ q (0) A B T P Y G _ ri (A si.toNatClampNeg) (B si.toNatClampNeg) (T si.toNatClampNeg) ((P si.toNatClampNeg) &&& (v)) (Y si.toNatClampNeg) true hri) (gw_V w_302 w_304 w_9 w_15 w_305) (by decide) ⟨rfl, rfl⟩ ⟨Nat.le_of_ble_eq_true rfl, Nat.le_of_ble_eq_true rfl⟩ (va_recv hK hP (ci := 1) rfl (q0 := 0) rfl) rfl rfl (Nat.le_of_ble_eq_true rfl) dM_restrict_148 ⟨Nat.zero_le _, Nat.zero_le _⟩ rfl rfl ⟨by decide, by decide⟩ (by decide) (fun H locs hP hD hS => ?_)
          have hP : va_P D vwCl (mW cJ cI cZ q (0) (upd A ri.toNatClampNeg (A si.toNatClampNeg)) (upd B ri.toNatClampNeg (B si.toNatClampNeg)) (upd T ri.toNatClampNeg (T si.toNatClampNeg)) (upd P ri.toNatClampNeg ((P si.toNatClampNeg) &&& (v))) (upd Y ri.toNatClampNeg (Y si.toNatClampNeg)) (ub G ri.toNatClampNeg (true))) H := hP
          have hD : va_D A9 (mW cJ cI cZ q (0) (upd A ri.toNatClampNeg (A si.toNatClampNeg)) (upd B ri.toNatClampNeg (B si.toNatClampNeg)) (upd T ri.toNatClampNeg (T si.toNatClampNeg)) (upd P ri.toNatClampNeg ((P si.toNatClampNeg) &&& (v))) (upd Y ri.toNatClampNeg (Y si.toNatClampNeg)) (ub G ri.toNatClampNeg (true))) := hD
          refine W.eq (g2 := F0 m 151 ls []) rfl ?_
          refine lv_aload_n hx hb dM_restrict_151 rfl (lv_at hl 2 rfl) ?_
          refine va_get (D := D) (ci := 1) (v := .ref (q 6)) (C := RM) (T := TM) (N := 7) hx hb hts inM hown hK hP 0 rfl rfl 6 (by decide) (hts _ w_261) (fun _ h9 => h9) rfl dM_restrict_152 ?_
          refine lv_iload_n hx hb dM_restrict_155 rfl (lv_at hl 3 rfl) ?_
          refine va_zald hx hb hK hP 6 2 rfl rfl hri dM_restrict_156 ?_
          refine W.eq (g2 := F0 m 157 ls [.int (bi (true))]) (by first | rfl | (rw [ub_s] <;> rfl)) ?_
          have e9_0 : (G si.toNatClampNeg && (decide (Y si.toNatClampNeg = 0) || decide ((P si.toNatClampNeg) &&& (v) = P si.toNatClampNeg))) = true := by (try simp only [decide_eq_true_eq, decide_eq_false_iff_not, Decidable.not_not] at h_7); (try simp only [decide_eq_true_eq, decide_eq_false_iff_not, Decidable.not_not] at h_8); (try simp only [decide_eq_true_eq, decide_eq_false_iff_not, Decidable.not_not] at h_9); (try simp only [decide_eq_true_eq, decide_eq_false_iff_not, Decidable.not_not] at h_10); simp [h_7, h_8, h_9, h_10]
          have hP : va_P D vwCl (mW cJ cI cZ q (0) (upd A ri.toNatClampNeg (A si.toNatClampNeg)) (upd B ri.toNatClampNeg (B si.toNatClampNeg)) (upd T ri.toNatClampNeg (T si.toNatClampNeg)) (upd P ri.toNatClampNeg ((P si.toNatClampNeg) &&& (v))) (upd Y ri.toNatClampNeg (Y si.toNatClampNeg)) (ub G ri.toNatClampNeg ((G si.toNatClampNeg && (decide (Y si.toNatClampNeg = 0) || decide ((P si.toNatClampNeg) &&& (v) = P si.toNatClampNeg)))))) H := by (try rw [e9_0]); first | exact hP | (simp only [uu_upd, uu_ub] at hP ⊢; exact hP)
          have hD : va_D A9 (mW cJ cI cZ q (0) (upd A ri.toNatClampNeg (A si.toNatClampNeg)) (upd B ri.toNatClampNeg (B si.toNatClampNeg)) (upd T ri.toNatClampNeg (T si.toNatClampNeg)) (upd P ri.toNatClampNeg ((P si.toNatClampNeg) &&& (v))) (upd Y ri.toNatClampNeg (Y si.toNatClampNeg)) (ub G ri.toNatClampNeg ((G si.toNatClampNeg && (decide (Y si.toNatClampNeg = 0) || decide ((P si.toNatClampNeg) &&& (v) = P si.toNatClampNeg)))))) := by (try rw [e9_0]); first | exact hD | (simp only [uu_upd, uu_ub] at hD ⊢; exact hD)
          refine W.eq (g2 := F0 m 157 ls [.int (bi (G si.toNatClampNeg && (decide (Y si.toNatClampNeg = 0) || decide ((P si.toNatClampNeg) &&& (v) = P si.toNatClampNeg))))]) (by first | rfl | (rw [e9_0] <;> rfl)) ?_
          exact W.zret (v := bi (G si.toNatClampNeg && (decide (Y si.toNatClampNeg = 0) || decide ((P si.toNatClampNeg) &&& (v) = P si.toNatClampNeg)))) hx hb hr (bi_nar _) (fun t9 ht hW => ⟨rfl, by rw [ht]; exact hP, hD, hS.F ht⟩) hS.2.2 dM_restrict_157

set_option maxRecDepth 100000 in
set_option maxHeartbeats 4000000 in
theorem mM_restrict_n (l : Launch) (D : va_G) (cJ cI cZ : ClassId) (q : Nat → Nat) (e0 : Int32) (A B T P Y : Nat → Int32) (G : Nat → Bool) (sz : Nat) (ri si v : Int32) (hbad : ¬ (vp_in ri 16 ∧ vp_in si 16)) : Met l yM_restrict (Cond.code yM_restrict cM_restrict 6 (some .boolean) :: gw) (rmk 2 0 0) (va_Pc [.ref (q 0), .int (ri), .int (si), .int (v)] (kB D vwCl (mW cJ cI cZ q (e0) A B T P Y G) (tsM cJ cI cZ) sz)) (kQ (some (.int (0))) D vwCl (mW cJ cI cZ q (1) A B T P Y G) (va_A (mW cJ cI cZ q (e0) A B T P Y G) sz)) 0 0 (va_A (mW cJ cI cZ q (e0) A B T P Y G) sz) := by
  refine Met.ofW (cc := cM_restrict) (maxL := 6) (ret := (some .boolean)) (by decide) rfl ?_
  intro p e s m args below meth c s₁ B9 hml hv
  obtain ⟨rfl, hsz, hP, hK, hD0⟩ := hv
  have hx := B9.exec
  have hb := B9.bytes
  have hr := B9.returns
  have hts := fun (w : Cond) (h : w ∈ gw) => atoms_spec (ws := _ :: gw) B9.pre w (List.mem_cons_of_mem _ h)
  have hown : s.vm.findClass RM = some m.cls := findClass_of_methodNamed B9.named
  have hlocks := B9.notSynchronized
  have hl := lv_entry ([.ref (q 0), .int (ri), .int (si), .int (v)]) (n := 6) (Nat.le_of_ble_eq_true rfl)
  rw [lg_entry_eq]
  generalize (lg_sl ([.ref (q 0), .int (ri), .int (si), .int (v)]) ++ List.replicate (6 - (lg_sl ([.ref (q 0), .int (ri), .int (si), .int (v)])).length) Slot.unset).toArray = ls at hl ⊢
  have hl : lv_has ls 6 [(0, .ref (q 0)), (1, .int (ri)), (2, .int (si)), (3, .int (v))] := hl
  subst hsz
  have hD := hD0.self (sz := s.heap.size)
  generalize hAe : va_A (mW cJ cI cZ q (e0) A B T P Y G) s.heap.size = A9 at hD ⊢
  have hA : ∀ z : Nat, s.heap.size ≤ z → A9 z := fun z h => by rw [← hAe]; exact Or.inr h
  have hS : va_S A9 s.heap s.heap [] := va_S.rf
  have hP : va_P D vwCl (mW cJ cI cZ q (e0) A B T P Y G) s.heap := hP
  refine lv_aload_n hx hb dM_restrict_0 rfl (lv_at hl 0 rfl) ?_
  refine lv_iconst (v := 0) hx hb dM_restrict_1 (by decide) ?_
  refine va_put (D := D) (ci := 1) (v := .int (0)) (ty := .int) (C := RM) (T := TM) (N := 7) hx hb hts inM tyM tyM_ok nmM hown hK hP hD hS 0 rfl rfl 0 (by decide) (hts _ w_255) (fun _ h9 => h9) rfl (by decide +kernel) rfl rfl (Nat.le_of_ble_eq_true rfl) dM_restrict_2 (fun H locs hP hD hS => ?_)
  have hP : va_P D vwCl (mW cJ cI cZ q (0) A B T P Y G) H := hP
  have hD : va_D A9 (mW cJ cI cZ q (0) A B T P Y G) := hD
  refine lv_aload_n hx hb dM_restrict_5 rfl (lv_at hl 0 rfl) ?_
  refine lv_iload_n hx hb dM_restrict_6 rfl (lv_at hl 1 rfl) ?_
  refine kr_S 1 (As := [.int (ri)]) (rest := [.ref (q 0)]) (r := .int (bi (gi ri))) hx hb hml hown hts hl.1 (mM_is l (ri)) tt_stb trivial (gw_S w_298 w_299 w_15 w_300) (by decide) ⟨rfl, rfl⟩ ⟨Nat.le_of_ble_eq_true rfl, Nat.le_of_ble_eq_true rfl⟩ rfl rfl (Nat.le_of_ble_eq_true rfl) dM_restrict_7 ⟨Nat.zero_le _, Nat.zero_le _⟩ ?_
  refine lv_if_eq (tgt := 20) hx hb dM_restrict_10 (by decide) (fun h_1 => ?_) (fun h_1 => ?_)
  · have h_1 := bi_0 h_1
    refine lv_iconst (v := 1) hx hb dM_restrict_20 (by decide) ?_
    refine lv_goto (tgt := 25) hx hb dM_restrict_21 (by decide) ?_
    refine lv_iconst (v := 1) hx hb dM_restrict_25 (by decide) ?_
    refine kw_V 2 [0, 1, 2, 3, 4, 5, 6] [] (b := q 0) (As := [.int (1), .int (1)]) (rest := []) (wc := mW cJ cI cZ q (0) A B T P Y G) (wr := []) (w1 := mW cJ cI cZ q (1) A B T P Y G) hx hb hml hown hts hl.1 hP hD hS hA hK (mM_fails_t l D cJ cI cZ q 0 A B T P Y G _ 1 (by decide)) (gw_V w_294 w_296 w_8 w_15 w_297) (by decide) ⟨rfl, rfl⟩ ⟨Nat.le_of_ble_eq_true rfl, Nat.le_of_ble_eq_true rfl⟩ (va_recv hK hP (ci := 1) rfl (q0 := 0) rfl) rfl rfl (Nat.le_of_ble_eq_true rfl) dM_restrict_26 ⟨Nat.zero_le _, Nat.zero_le _⟩ rfl rfl ⟨by decide, by decide⟩ (by decide) (fun H locs hP hD hS => ?_)
    have hP : va_P D vwCl (mW cJ cI cZ q (1) A B T P Y G) H := hP
    have hD : va_D A9 (mW cJ cI cZ q (1) A B T P Y G) := hD
    refine W.eq (g2 := F0 m 29 ls [.int (1)]) rfl ?_
    refine lv_if_eq (tgt := 34) hx hb dM_restrict_29 (by decide) (fun h_2 => absurd h_2 (by decide)) (fun h_2 => ?_)
    refine lv_iconst (v := 0) hx hb dM_restrict_32 (by decide) ?_
    exact W.zret (v := 0) hx hb hr rfl (fun t9 ht hW => ⟨rfl, by rw [ht]; exact hP, hD, hS.F ht⟩) hS.2.2 dM_restrict_33
  · have h_1 := bi_n h_1
    refine lv_iload_n hx hb dM_restrict_13 rfl (lv_at hl 2 rfl) ?_
    refine kr_S 1 (As := [.int (si)]) (rest := [.ref (q 0)]) (r := .int (bi (gi si))) hx hb hml hown hts hl.1 (mM_is l (si)) tt_stb trivial (gw_S w_298 w_299 w_15 w_300) (by decide) ⟨rfl, rfl⟩ ⟨Nat.le_of_ble_eq_true rfl, Nat.le_of_ble_eq_true rfl⟩ rfl rfl (Nat.le_of_ble_eq_true rfl) dM_restrict_14 ⟨Nat.zero_le _, Nat.zero_le _⟩ ?_
    refine lv_if_ne (tgt := 24) hx hb dM_restrict_17 (by decide) (fun h_3 => ?_) (fun h_3 => ?_)
    · have h_3 := bi_n h_3
      exact absurd ⟨gi_in.mp h_1, gi_in.mp h_3⟩ hbad
    · have h_3 := bi_0 h_3
      refine lv_iconst (v := 1) hx hb dM_restrict_20 (by decide) ?_
      refine lv_goto (tgt := 25) hx hb dM_restrict_21 (by decide) ?_
      refine lv_iconst (v := 1) hx hb dM_restrict_25 (by decide) ?_
      refine kw_V 2 [0, 1, 2, 3, 4, 5, 6] [] (b := q 0) (As := [.int (1), .int (1)]) (rest := []) (wc := mW cJ cI cZ q (0) A B T P Y G) (wr := []) (w1 := mW cJ cI cZ q (1) A B T P Y G) hx hb hml hown hts hl.1 hP hD hS hA hK (mM_fails_t l D cJ cI cZ q 0 A B T P Y G _ 1 (by decide)) (gw_V w_294 w_296 w_8 w_15 w_297) (by decide) ⟨rfl, rfl⟩ ⟨Nat.le_of_ble_eq_true rfl, Nat.le_of_ble_eq_true rfl⟩ (va_recv hK hP (ci := 1) rfl (q0 := 0) rfl) rfl rfl (Nat.le_of_ble_eq_true rfl) dM_restrict_26 ⟨Nat.zero_le _, Nat.zero_le _⟩ rfl rfl ⟨by decide, by decide⟩ (by decide) (fun H locs hP hD hS => ?_)
      have hP : va_P D vwCl (mW cJ cI cZ q (1) A B T P Y G) H := hP
      have hD : va_D A9 (mW cJ cI cZ q (1) A B T P Y G) := hD
      refine W.eq (g2 := F0 m 29 ls [.int (1)]) rfl ?_
      refine lv_if_eq (tgt := 34) hx hb dM_restrict_29 (by decide) (fun h_4 => absurd h_4 (by decide)) (fun h_4 => ?_)
      refine lv_iconst (v := 0) hx hb dM_restrict_32 (by decide) ?_
      exact W.zret (v := 0) hx hb hr rfl (fun t9 ht hW => ⟨rfl, by rw [ht]; exact hP, hD, hS.F ht⟩) hS.2.2 dM_restrict_33

set_option maxRecDepth 100000 in
set_option maxHeartbeats 4000000 in
theorem mM_count (l : Launch) (D : va_G) (cJ cI cZ : ClassId) (q : Nat → Nat) (e0 : Int32) (A B T P Y : Nat → Int32) (G : Nat → Bool) (sz : Nat) (a w : Int32) : Met l yM_count (Cond.code yM_count cM_count 5 (some .int) :: gw) (rmk 2 0 0) (va_Pc [.ref (q 0), .int (a), .int (w)] (kB D vwCl (mW cJ cI cZ q (e0) A B T P Y G) (tsM cJ cI cZ) sz)) (kQ (some (.int (ga_cnt B T P Y G a w 16))) D vwCl (mW cJ cI cZ q (0) A B T P Y G) (va_A (mW cJ cI cZ q (e0) A B T P Y G) sz)) 0 0 (va_A (mW cJ cI cZ q (e0) A B T P Y G) sz) := by
  refine Met.ofW (cc := cM_count) (maxL := 5) (ret := (some .int)) (by decide) rfl ?_
  intro p e s m args below meth c s₁ B9 hml hv
  obtain ⟨rfl, hsz, hP, hK, hD0⟩ := hv
  have hx := B9.exec
  have hb := B9.bytes
  have hr := B9.returns
  have hts := fun (w : Cond) (h : w ∈ gw) => atoms_spec (ws := _ :: gw) B9.pre w (List.mem_cons_of_mem _ h)
  have hown : s.vm.findClass RM = some m.cls := findClass_of_methodNamed B9.named
  have hlocks := B9.notSynchronized
  have hl := lv_entry ([.ref (q 0), .int (a), .int (w)]) (n := 5) (Nat.le_of_ble_eq_true rfl)
  rw [lg_entry_eq]
  generalize (lg_sl ([.ref (q 0), .int (a), .int (w)]) ++ List.replicate (5 - (lg_sl ([.ref (q 0), .int (a), .int (w)])).length) Slot.unset).toArray = ls at hl ⊢
  have hl : lv_has ls 5 [(0, .ref (q 0)), (1, .int (a)), (2, .int (w))] := hl
  subst hsz
  have hD := hD0.self (sz := s.heap.size)
  generalize hAe : va_A (mW cJ cI cZ q (e0) A B T P Y G) s.heap.size = A9 at hD ⊢
  have hA : ∀ z : Nat, s.heap.size ≤ z → A9 z := fun z h => by rw [← hAe]; exact Or.inr h
  have hS : va_S A9 s.heap s.heap [] := va_S.rf
  have hP : va_P D vwCl (mW cJ cI cZ q (e0) A B T P Y G) s.heap := hP
  refine lv_aload_n hx hb dM_count_0 rfl (lv_at hl 0 rfl) ?_
  refine lv_iconst (v := 0) hx hb dM_count_1 (by decide) ?_
  refine va_put (D := D) (ci := 1) (v := .int (0)) (ty := .int) (C := RM) (T := TM) (N := 7) hx hb hts inM tyM tyM_ok nmM hown hK hP hD hS 0 rfl rfl 0 (by decide) (hts _ w_255) (fun _ h9 => h9) rfl (by decide +kernel) rfl rfl (Nat.le_of_ble_eq_true rfl) dM_count_2 (fun H locs hP hD hS => ?_)
  have hP : va_P D vwCl (mW cJ cI cZ q (0) A B T P Y G) H := hP
  have hD : va_D A9 (mW cJ cI cZ q (0) A B T P Y G) := hD
  refine lv_iconst (v := 0) hx hb dM_count_5 (by decide) ?_
  refine lv_istore_n hx hb dM_count_6 rfl hl (by decide) rfl (fun ls hl => ?_)
  have hl : lv_has ls 5 [(3, .int (0)), (0, .ref (q 0)), (1, .int (a)), (2, .int (w))] := hl
  refine lv_iconst (v := 0) hx hb dM_count_7 (by decide) ?_
  refine lv_istore hx hb dM_count_8 hl (by decide) rfl (fun ls hl => ?_)
  have hl : lv_has ls 5 [(4, .int (0)), (3, .int (0)), (0, .ref (q 0)), (1, .int (a)), (2, .int (w))] := hl
  refine lp_W 16 (fun k ls => lv_has ls 5 [(4, .int (nI k)), (3, .int (ga_cnt B T P Y G a w k)), (0, .ref (q 0)), (1, .int (a)), (2, .int (w))]) (lv_sub hl [0, 1, 2, 3, 4] rfl) (fun k ls hk hl ih => ?_) (fun ls hl => ?_)
  · have hkc : (nI k).toNatClampNeg = k := nI_clamp (by omega)
    refine lv_iload hx hb dM_count_10 (lv_at hl 0 rfl) ?_
    refine lv_bipush (v := 16) hx hb dM_count_12 (by decide) ?_
    refine lv_icmp_ge (tgt := 69) hx hb dM_count_14 (by decide) (fun h_1 => absurd h_1 (show ¬ (16 : Int32) ≤ nI k from nI_ge (a := k) (b := 16) hk (by decide))) (fun h_1 => ?_)
    refine lv_aload_n hx hb dM_count_17 rfl (lv_at hl 2 rfl) ?_
    refine va_get (D := D) (ci := 1) (v := .ref (q 6)) (C := RM) (T := TM) (N := 7) hx hb hts inM hown hK hP 0 rfl rfl 6 (by decide) (hts _ w_261) (fun _ h9 => h9) rfl dM_count_18 ?_
    refine lv_iload hx hb dM_count_21 (lv_at hl 0 rfl) ?_
    refine va_zald hx hb hK hP 6 2 rfl rfl (vp_in_nI hk (by decide)) dM_count_23 ?_
    refine W.eq (g2 := F0 m 24 ls [.int (bi (G (nI k).toNatClampNeg))]) rfl ?_
    refine lv_if_eq (tgt := 63) hx hb dM_count_24 (by decide) (fun h_2 => ?_) (fun h_2 => ?_)
    · have h_2 := bi_0 h_2
      refine lv_iinc (k := 0) (v := nI (k + 1)) hx hb dM_count_63 hl rfl (nI_succ k).symm (by decide) rfl (fun ls hl => ?_)
      have hl : lv_has ls 5 [(4, .int (nI (k + 1))), (3, .int (ga_cnt B T P Y G a w k)), (0, .ref (q 0)), (1, .int (a)), (2, .int (w))] := hl
      refine lv_goto (tgt := 10) hx hb dM_count_66 (by decide) ?_
      rw [hkc] at h_2
      have e8 : ga_acc B T P Y G k a 1 w ≠ 0 := by (try simp only [decide_eq_true_eq, decide_eq_false_iff_not, Decidable.not_not] at h_2); unfold ga_acc; simp [h_2]
      have e9 : ga_cnt B T P Y G a w (k + 1) = ga_cnt B T P Y G a w k := by show (if _ then _ else _) = _; rw [if_neg e8]
      exact ih _ (by rw [e9]; exact lv_sub hl [0, 1, 2, 3, 4] rfl)
    · have h_2 := bi_n h_2
      refine lv_aload_n hx hb dM_count_27 rfl (lv_at hl 2 rfl) ?_
      refine lv_iload hx hb dM_count_28 (lv_at hl 0 rfl) ?_
      refine kr_Vw 1 (b := q 0) (As := [.int (nI k)]) (rest := []) (r := .int (bi (decide (¬ Y (nI k).toNatClampNeg = 0)))) hx hb hml hown hts hl.1 (mM_isSealed l D cJ cI cZ q (0) A B T P Y G (nI k) (vp_in_nI hk (by decide))) rB_stb ⟨hP, hK⟩ (gw_V w_314 w_316 w_10 w_15 w_317) (by decide) ⟨rfl, rfl⟩ ⟨Nat.le_of_ble_eq_true rfl, Nat.le_of_ble_eq_true rfl⟩ (va_recv hK hP (ci := 1) rfl (q0 := 0) rfl) rfl rfl (Nat.le_of_ble_eq_true rfl) dM_count_30 ⟨Nat.zero_le _, Nat.zero_le _⟩ ?_
      refine lv_if_ne (tgt := 63) hx hb dM_count_33 (by decide) (fun h_3 => ?_) (fun h_3 => ?_)
      · have h_3 := bi_n h_3
        refine lv_iinc (k := 0) (v := nI (k + 1)) hx hb dM_count_63 hl rfl (nI_succ k).symm (by decide) rfl (fun ls hl => ?_)
        have hl : lv_has ls 5 [(4, .int (nI (k + 1))), (3, .int (ga_cnt B T P Y G a w k)), (0, .ref (q 0)), (1, .int (a)), (2, .int (w))] := hl
        refine lv_goto (tgt := 10) hx hb dM_count_66 (by decide) ?_
        rw [hkc] at h_2; rw [hkc] at h_3
        have e8 : ga_acc B T P Y G k a 1 w ≠ 0 := by (try simp only [decide_eq_true_eq, decide_eq_false_iff_not, Decidable.not_not] at h_2); (try simp only [decide_eq_true_eq, decide_eq_false_iff_not, Decidable.not_not] at h_3); unfold ga_acc; simp [h_2, h_3]
        have e9 : ga_cnt B T P Y G a w (k + 1) = ga_cnt B T P Y G a w k := by show (if _ then _ else _) = _; rw [if_neg e8]
        exact ih _ (by rw [e9]; exact lv_sub hl [0, 1, 2, 3, 4] rfl)
      · have h_3 := bi_0 h_3
        refine lv_aload_n hx hb dM_count_36 rfl (lv_at hl 2 rfl) ?_
        refine lv_iload hx hb dM_count_37 (lv_at hl 0 rfl) ?_
        refine lv_iload_n hx hb dM_count_39 rfl (lv_at hl 4 rfl) ?_
        refine kr_V 2 (b := q 0) (As := [.int (nI k), .int (w)]) (rest := []) (r := .int (bi (ga_pm (w) (P (nI k).toNatClampNeg)))) hx hb hml hown hts hl.1 (mM_may l D cJ cI cZ q (0) A B T P Y G (nI k) (w) (vp_in_nI hk (by decide))) rB_stb ⟨hP, hK⟩ (gw_V w_330 w_332 w_11 w_15 w_333) (by decide) ⟨rfl, rfl⟩ ⟨Nat.le_of_ble_eq_true rfl, Nat.le_of_ble_eq_true rfl⟩ (va_recv hK hP (ci := 1) rfl (q0 := 0) rfl) rfl rfl (Nat.le_of_ble_eq_true rfl) dM_count_40 ⟨Nat.zero_le _, Nat.zero_le _⟩ ?_
        refine lv_if_eq (tgt := 63) hx hb dM_count_43 (by decide) (fun h_4 => ?_) (fun h_4 => ?_)
        · have h_4 := bi_0 h_4
          refine lv_iinc (k := 0) (v := nI (k + 1)) hx hb dM_count_63 hl rfl (nI_succ k).symm (by decide) rfl (fun ls hl => ?_)
          have hl : lv_has ls 5 [(4, .int (nI (k + 1))), (3, .int (ga_cnt B T P Y G a w k)), (0, .ref (q 0)), (1, .int (a)), (2, .int (w))] := hl
          refine lv_goto (tgt := 10) hx hb dM_count_66 (by decide) ?_
          rw [hkc] at h_2; rw [hkc] at h_3; rw [hkc] at h_4
          have e8 : ga_acc B T P Y G k a 1 w ≠ 0 := by (try simp only [decide_eq_true_eq, decide_eq_false_iff_not, Decidable.not_not] at h_2); (try simp only [decide_eq_true_eq, decide_eq_false_iff_not, Decidable.not_not] at h_3); (try simp only [decide_eq_true_eq, decide_eq_false_iff_not, Decidable.not_not] at h_4); unfold ga_acc; simp [h_2, h_3, h_4]
          have e9 : ga_cnt B T P Y G a w (k + 1) = ga_cnt B T P Y G a w k := by show (if _ then _ else _) = _; rw [if_neg e8]
          exact ih _ (by rw [e9]; exact lv_sub hl [0, 1, 2, 3, 4] rfl)
        · have h_4 := bi_n h_4
          refine lv_aload_n hx hb dM_count_46 rfl (lv_at hl 2 rfl) ?_
          refine lv_iload hx hb dM_count_47 (lv_at hl 0 rfl) ?_
          refine lv_iload_n hx hb dM_count_49 rfl (lv_at hl 3 rfl) ?_
          refine kr_S 1 (As := [.int (a)]) (rest := [.int (nI k), .ref (q 0)]) (r := .long (uw (a))) hx hb hml hown hts hl.1 (mM_wide l (a)) tt_stb trivial (gw_S w_286 w_287 w_15 w_288) (by decide) ⟨rfl, rfl⟩ ⟨Nat.le_of_ble_eq_true rfl, Nat.le_of_ble_eq_true rfl⟩ rfl rfl (Nat.le_of_ble_eq_true rfl) dM_count_50 ⟨Nat.zero_le _, Nat.zero_le _⟩ ?_
          refine lv_lconst (v := 1) hx hb dM_count_53 (by decide) ?_
          refine kr_V 3 (b := q 0) (As := [.int (nI k), .long (uw (a)), .long (1)]) (rest := []) (r := .int (bi (ga_in (B (nI k).toNatClampNeg) (T (nI k).toNatClampNeg) (a) (1)))) hx hb hml hown hts hl.1 (mM_holds l D cJ cI cZ q (0) A B T P Y G (nI k) (a) (1) (vp_in_nI hk (by decide)) (by first | decide | omega)) rB_stb ⟨hP, hK⟩ (gw_V w_334 w_336 w_12 w_15 w_337) (by decide) ⟨rfl, rfl⟩ ⟨Nat.le_of_ble_eq_true rfl, Nat.le_of_ble_eq_true rfl⟩ (va_recv hK hP (ci := 1) rfl (q0 := 0) rfl) rfl rfl (Nat.le_of_ble_eq_true rfl) dM_count_54 ⟨Nat.zero_le _, Nat.zero_le _⟩ ?_
          refine lv_if_eq (tgt := 63) hx hb dM_count_57 (by decide) (fun h_5 => ?_) (fun h_5 => ?_)
          · have h_5 := bi_0 h_5
            refine lv_iinc (k := 0) (v := nI (k + 1)) hx hb dM_count_63 hl rfl (nI_succ k).symm (by decide) rfl (fun ls hl => ?_)
            have hl : lv_has ls 5 [(4, .int (nI (k + 1))), (3, .int (ga_cnt B T P Y G a w k)), (0, .ref (q 0)), (1, .int (a)), (2, .int (w))] := hl
            refine lv_goto (tgt := 10) hx hb dM_count_66 (by decide) ?_
            rw [hkc] at h_2; rw [hkc] at h_3; rw [hkc] at h_4; rw [hkc] at h_5
            have e8 : ga_acc B T P Y G k a 1 w ≠ 0 := by (try simp only [decide_eq_true_eq, decide_eq_false_iff_not, Decidable.not_not] at h_2); (try simp only [decide_eq_true_eq, decide_eq_false_iff_not, Decidable.not_not] at h_3); (try simp only [decide_eq_true_eq, decide_eq_false_iff_not, Decidable.not_not] at h_4); (try simp only [decide_eq_true_eq, decide_eq_false_iff_not, Decidable.not_not] at h_5); unfold ga_acc; simp [h_2, h_3, h_4, h_5]
            have e9 : ga_cnt B T P Y G a w (k + 1) = ga_cnt B T P Y G a w k := by show (if _ then _ else _) = _; rw [if_neg e8]
            exact ih _ (by rw [e9]; exact lv_sub hl [0, 1, 2, 3, 4] rfl)
          · have h_5 := bi_n h_5
            refine lv_iinc (k := 1) (v := (ga_cnt B T P Y G a w k) + 1) hx hb dM_count_60 hl rfl rfl (by decide) rfl (fun ls hl => ?_)
            have hl : lv_has ls 5 [(3, .int ((ga_cnt B T P Y G a w k) + 1)), (4, .int (nI k)), (0, .ref (q 0)), (1, .int (a)), (2, .int (w))] := hl
            refine lv_iinc (k := 1) (v := nI (k + 1)) hx hb dM_count_63 hl rfl (nI_succ k).symm (by decide) rfl (fun ls hl => ?_)
            have hl : lv_has ls 5 [(4, .int (nI (k + 1))), (3, .int ((ga_cnt B T P Y G a w k) + 1)), (0, .ref (q 0)), (1, .int (a)), (2, .int (w))] := hl
            refine lv_goto (tgt := 10) hx hb dM_count_66 (by decide) ?_
            rw [hkc] at h_2; rw [hkc] at h_3; rw [hkc] at h_4; rw [hkc] at h_5
            have e8 : ga_acc B T P Y G k a 1 w = 0 := by (try simp only [decide_eq_true_eq, decide_eq_false_iff_not, Decidable.not_not] at h_2); (try simp only [decide_eq_true_eq, decide_eq_false_iff_not, Decidable.not_not] at h_3); (try simp only [decide_eq_true_eq, decide_eq_false_iff_not, Decidable.not_not] at h_4); (try simp only [decide_eq_true_eq, decide_eq_false_iff_not, Decidable.not_not] at h_5); unfold ga_acc; simp [h_2, h_3, h_4, h_5]
            have e9 : ga_cnt B T P Y G a w (k + 1) = (ga_cnt B T P Y G a w k) + 1 := by show (if _ then _ else _) = _; rw [if_pos e8]
            exact ih _ (by rw [e9]; exact lv_sub hl [0, 1, 2, 3, 4] rfl)
  · refine lv_iload hx hb dM_count_10 (lv_at hl 0 rfl) ?_
    refine lv_bipush (v := 16) hx hb dM_count_12 (by decide) ?_
    refine lv_icmp_ge (tgt := 69) hx hb dM_count_14 (by decide) (fun h_6 => ?_) (fun h_6 => absurd (by decide) h_6)
    refine lv_iload_n hx hb dM_count_69 rfl (lv_at hl 1 rfl) ?_
    exact W.iret (v := ga_cnt B T P Y G a w 16) hx hb hr (fun t9 ht hW => ⟨rfl, by rw [ht]; exact hP, hD, hS.F ht⟩) hS.2.2 dM_count_70

