/-! The law from its entry; the claim. Laid by program (wip/whole/gen_l3.py) and from kit/laws/SKELETON.whole. -/
theorem gw_C {y : MethodName} {b : ByteArray} {maxL : Nat} {ret9 : Option FieldType} (h : Cond.code y b maxL ret9 ∈ gw) : GoodIn gw (Cond.code y b maxL ret9 :: gw) := fun w hw => by
  rcases List.mem_cons.mp hw with rfl | hw
  · exact gw_ok h
  · exact gw_ok hw
theorem tx_tbl (w : Cond) (h : w ∈ Bundle.ownAtoms RX 82 iob nms ∨ w ∈ Bundle.ownAtoms RX 37 iae nms) : w ∈ lw_tbl ∨ w = tx_us ∨ w = tx_ss := by
  have h1 : ∀ w ∈ Bundle.ownAtoms RX 82 iob nms, w ∈ lw_tbl ∨ w = tx_us ∨ w = tx_ss := by decide +kernel
  have h2 : ∀ w ∈ Bundle.ownAtoms RX 37 iae nms, w ∈ lw_tbl ∨ w = tx_us ∨ w = tx_ss := by decide +kernel
  exact h.elim (h1 w) (h2 w)
theorem tx_start {s : State} {args : Array Value} {cX : ClassId} (hts : ∀ w ∈ lw_tbl, w.before args s = true) (hgv : (Jvm.Cond.and given_1 narrow_1).before args s = true) (hcX : s.vm.findClass RX = some cX) : tx_B s := by
  have hs := flat_of_before _ hgv
  have hus : tx_us.before args s = true := hs _ (by decide +kernel)
  have hss : tx_ss.before args s = true := hs _ (by decide +kernel)
  have hnc : (Cond.not (.castable iob iae)).before args s = true := hs _ (by decide +kernel)
  have h0 : ∀ w, w ∈ Bundle.ownAtoms RX 82 iob nms ∨ w ∈ Bundle.ownAtoms RX 37 iae nms → w.before args s = true := by
    intro w hw
    rcases tx_tbl w hw with h | rfl | rfl
    · exact hts w h
    · exact hus
    · exact hss
  intro a
  have key : ∀ w, w ∈ Bundle.ownAtoms RX 82 iob nms ∨ w ∈ Bundle.ownAtoms RX 37 iae nms → w.before a s = true := by
    intro w hw
    rcases tx_words w hw with hk | rfl | rfl
    · unfold tx_kind at hk
      rcases (Bool.or_eq_true _ _).mp hk with h1 | h1
      · obtain ⟨h2, h3⟩ := (Bool.and_eq_true _ _).mp h1
        exact tx_face (State.WarmedH.refl s) h2 h3 (h0 w hw)
      · split at h1
        · exact tx_static (Vm.Alike.refl s.vm) (fun _ _ => rfl) (h0 _ hw)
        · cases h1
    · exact tx_isRef (Vm.Alike.refl s.vm) (fun _ _ => rfl) (h0 _ (Or.inl tx_lays1)) hus
    · exact tx_isRef (Vm.Alike.refl s.vm) (fun _ _ => rfl) (h0 _ (Or.inl tx_lays2)) hss
  refine ⟨fun w hw => key w (Or.inl hw), fun w hw => key w (Or.inr hw), fun k hk => ?_, va_Nc.of hnc⟩
  have str : ∀ (k : Nat) (tx : String), Cond.stringRef RX k tx ∈ lw_tbl → ∃ (tx : String) (sa : Nat), vk_R RX k tx sa s := by
    intro k tx h
    obtain ⟨k9, cf, i9, a9, -, -, -, -, -, hev⟩ := Cond.stringRef_spec hcX (hts _ h)
    exact ⟨tx, a9, vk_R.of (hts _ h) hev⟩
  simp only [List.mem_cons, List.not_mem_nil, or_false] at hk
  rcases hk with rfl | rfl | rfl | rfl | rfl
  · exact str 35 "base is above top" (List.mem_of_getElem? (i := 123) (by decide +kernel))
  · exact str 40 "permissions are not 0..255" (List.mem_of_getElem? (i := 150) (by decide +kernel))
  · exact str 66 "n is not 0..65536" (List.mem_of_getElem? (i := 233) (by decide +kernel))
  · exact str 76 "there is no such part" (List.mem_of_getElem? (i := 248) (by decide +kernel))
  · exact str 80 "there is no such grant" (List.mem_of_getElem? (i := 163) (by decide +kernel))
set_option maxRecDepth 100000 in
set_option maxHeartbeats 4000000 in
theorem whole_start {p : Program} {e : Env} {s : State} {m : MethodId} {below : List Frame} {meth : Method} {c : Code} (l : Launch) (hst : l.stackTraces = false) {b L : Nat} {xs : Nat → Int32} (hL : L ≤ 2560) (C0 : lw_At p s m meth c b L xs) : W p l e room_1 s m #[Value.ref b] below meth c s.heap [] 0 0 (lw_Z below #[Value.ref b] s) (entryFrame m ([Value.ref b] : List Value).toArray 7) := by
  obtain ⟨hx, hb, hr, hml, hown, hts0, hX, hbl, hlocks, hgv⟩ := C0
  have hts : ∀ w ∈ gw, w.before #[Value.ref b] s = true := fun w h => hts0 w (gw_tbl h)
  obtain ⟨cX, iX, hkX⟩ := u_known (C := RX) (T := TX) (N := 6) (n := 6) hts inX (hts _ w_22)
  obtain ⟨cM, iM, hkM⟩ := u_known (C := RM) (T := TM) (N := 7) (n := 7) hts inM (hts _ w_250)
  have hB : tx_B s := tx_start hts0 hgv hkX.2.1
  obtain ⟨D, hK⟩ : ∃ D : va_G, va_K D vwCl [] s := by
    refine ⟨(fun k => match k with | 0 => cX | _ => cM, fun k => match k with | 0 => iX | _ => iM), fun k z hz => ?_, fun k z hz => by simp at hz⟩
    match k, hz with
    | 0, hz => cases hz; exact hkX
    | 1, hz => cases hz; exact hkM
    | k + 2, hz => simp at hz
  have hA : ∀ z : Nat, s.heap.size ≤ z → s.heap.size ≤ z := fun z h => h
  have hS : va_S (fun z : Nat => s.heap.size ≤ z) s.heap s.heap [] := va_S.rf
  have hP : va_P D vwCl [] s.heap := fun k z hz => by simp at hz
  have hD : va_D (fun z : Nat => s.heap.size ≤ z) [] := ⟨fun i j z w hi => by simp at hi, fun k z hk => by simp at hk⟩
  have hl := lv_entry ([.ref b]) (n := 7) (Nat.le_of_ble_eq_true rfl)
  rw [lg_entry_eq]
  generalize (lg_sl ([.ref b]) ++ List.replicate (7 - (lg_sl ([.ref b])).length) Slot.unset).toArray = ls at hl ⊢
  have hl : lv_has ls 7 [(0, .ref b)] := hl
  refine va_new (ci := 0) (fs := [.null, .null, .null, .null, .null, .null]) (C := RX) (T := TX) (N := 6) hx hb hts inX tyX tyX_ok hown (hts _ w_21) (hts _ w_22) (hts _ w_14) hK hP hD hS hA rfl (fun j hj => by rcases (show j = 0 ∨ j = 1 ∨ j = 2 ∨ j = 3 ∨ j = 4 ∨ j = 5 by omega) with rfl | rfl | rfl | rfl | rfl | rfl <;> rfl) (Nat.le_of_ble_eq_true rfl) (Nat.le_of_ble_eq_true rfl) dL_law_0 (fun x0 H hP hD hS => ?_)
  have hP : va_P D vwCl [(x0, .inr (0, [.null, .null, .null, .null, .null, .null]))] H := hP
  have hD : va_D (fun z : Nat => s.heap.size ≤ z) [(x0, .inr (0, [.null, .null, .null, .null, .null, .null]))] := hD
  refine lv_dup hx hb dL_law_3 rfl ?_
  have hPc := hP
  have hDc := hD
  have hKc := hK
  have hFc := va_free (wc := [(x0, .inr (0, [.null, .null, .null, .null, .null, .null]))]) hD hS hA [0] rfl
  refine va_callv (va_runI (As := []) (b := x0) (rest := [.ref x0]) ⟨hx, hb, hml, hown, hts⟩ (mX_init l D x0 H.size) (cwI 0 hts (gw_C w_25) rfl rfl rfl (hts _ w_14) (hts _ w_23) (hts _ w_24) rfl (by decide) ⟨Nat.le_of_ble_eq_true rfl, Nat.le_of_ble_eq_true rfl⟩) ⟨fun a U g mk q9 => by obtain ⟨q0, q1, qP, qK, qD⟩ := q9; exact ⟨q0, q1, qP, va_K.moved (u := U) (U := U.calling g mk a) (Vm.Alike.refl U.vm) qK, qD⟩, fun U hU hW => ⟨rfl, by rw [hU], by rw [hU]; exact hPc, va_K.moved hW.alike hKc, hDc.weaken (fun _ _ _ _ => trivial)⟩⟩ rfl rfl hl.1 rfl (lv_room (Nat.le_of_ble_eq_true rfl)) dL_law_4 ⟨Nat.le_of_ble_eq_true rfl, Nat.le_of_ble_eq_true rfl⟩) hS (fun z _ h => hFc z h) hFc (fun u t H1 locs ht hvm h5 hB1 hz1 hk1 hS => ?_)
  obtain ⟨q, cI, cZ⟩ := u
  obtain ⟨hP1, hK1, hD1⟩ := hB1
  rw [ht] at hP1
  have hK1 := va_K.moved hvm.symm hK1
  have h5 : q 0 = x0 := h5
  subst h5
  obtain ⟨hP, hD⟩ := va_join (wr := []) (w1 := xW cI cZ q (fun _ => 0) (fun _ => 0) (fun _ => 0) (fun _ => 0) (fun _ => 0) (fun _ => false)) hP hD [0] [] rfl rfl (by decide) (by decide) hk1 hFc hP1 hD1
  have hK : va_K D vwCl (tsX cI cZ) s := hK1
  generalize H1 = H at hP hS ⊢
  have hP : va_P D vwCl (xW cI cZ q (fun _ => 0) (fun _ => 0) (fun _ => 0) (fun _ => 0) (fun _ => 0) (fun _ => false)) H := hP
  have hD : va_D (fun z : Nat => s.heap.size ≤ z) (xW cI cZ q (fun _ => 0) (fun _ => 0) (fun _ => 0) (fun _ => 0) (fun _ => 0) (fun _ => false)) := hD
  refine W.eq (g2 := F0 m 7 ls [.ref (q 0)]) rfl ?_
  refine lv_astore_n hx hb dL_law_7 rfl hl (by decide) rfl (fun ls hl => ?_)
  have hl : lv_has ls 7 [(1, .ref (q 0)), (0, .ref b)] := hl
  refine va_new (ci := 1) (fs := [.int 0, .null, .null, .null, .null, .null, .null]) (C := RM) (T := TM) (N := 7) hx hb hts inM tyM tyM_ok hown (hts _ w_249) (hts _ w_250) (hts _ w_15) hK hP hD hS hA rfl (fun j hj => by rcases (show j = 0 ∨ j = 1 ∨ j = 2 ∨ j = 3 ∨ j = 4 ∨ j = 5 ∨ j = 6 by omega) with rfl | rfl | rfl | rfl | rfl | rfl | rfl <;> rfl) (Nat.le_of_ble_eq_true rfl) (Nat.le_of_ble_eq_true rfl) dL_law_8 (fun y0 H hP hD hS => ?_)
  have hP : va_P D vwCl (xW cI cZ q (fun _ => 0) (fun _ => 0) (fun _ => 0) (fun _ => 0) (fun _ => 0) (fun _ => false) ++ [(y0, .inr (1, [.int 0, .null, .null, .null, .null, .null, .null]))]) H := hP
  have hD : va_D (fun z : Nat => s.heap.size ≤ z) (xW cI cZ q (fun _ => 0) (fun _ => 0) (fun _ => 0) (fun _ => 0) (fun _ => 0) (fun _ => false) ++ [(y0, .inr (1, [.int 0, .null, .null, .null, .null, .null, .null]))]) := hD
  refine lv_dup hx hb dL_law_11 rfl ?_
  have hPc := hP.sub (ws' := [(y0, .inr (1, [.int 0, .null, .null, .null, .null, .null, .null]))]) [7] rfl
  have hDc := hD.sub (ws' := [(y0, .inr (1, [.int 0, .null, .null, .null, .null, .null, .null]))]) [7] (by decide) rfl
  have hKc := hK.sub (tys' := []) [] rfl
  have hFc := va_free (wc := [(y0, .inr (1, [.int 0, .null, .null, .null, .null, .null, .null]))]) hD hS hA [7] rfl
  refine va_callv (va_runI (As := []) (b := y0) (rest := [.ref y0]) ⟨hx, hb, hml, hown, hts⟩ (mM_init l D y0 H.size) (cwI 0 hts (gw_C w_253) rfl rfl rfl (hts _ w_15) (hts _ w_251) (hts _ w_252) rfl (by decide) ⟨Nat.le_of_ble_eq_true rfl, Nat.le_of_ble_eq_true rfl⟩) ⟨fun a U g mk q9 => by obtain ⟨q0, q1, qP, qK, qD⟩ := q9; exact ⟨q0, q1, qP, va_K.moved (u := U) (U := U.calling g mk a) (Vm.Alike.refl U.vm) qK, qD⟩, fun U hU hW => ⟨rfl, by rw [hU], by rw [hU]; exact hPc, va_K.moved hW.alike hKc, hDc.weaken (fun _ _ _ _ => trivial)⟩⟩ rfl rfl hl.1 rfl (lv_room (Nat.le_of_ble_eq_true rfl)) dL_law_12 ⟨Nat.le_of_ble_eq_true rfl, Nat.le_of_ble_eq_true rfl⟩) hS (fun z _ h => hFc z h) hFc (fun u t H1 locs ht hvm h5 hB1 hz1 hk1 hS => ?_)
  obtain ⟨r, cJ, cI2, cZ2⟩ := u
  obtain ⟨hP1, hK1, hD1⟩ := hB1
  rw [ht] at hP1
  have hK1 := va_K.moved hvm.symm hK1
  have h5 : r 0 = y0 := h5
  subst h5
  have hK1 : va_K D vwCl (tsM cJ cI2 cZ2) s := hK1
  obtain rfl : cI = cI2 := Option.some.inj ((va_nm_int (hK.2 0 _ rfl).2).symm.trans (va_nm_int (hK1.2 1 _ rfl).2))
  obtain rfl : cZ = cZ2 := Option.some.inj ((va_nm_boolean (hK.2 1 _ rfl).2).symm.trans (va_nm_boolean (hK1.2 2 _ rfl).2))
  obtain ⟨hP, hD⟩ := va_join (wr := xW cI cZ q (fun _ => 0) (fun _ => 0) (fun _ => 0) (fun _ => 0) (fun _ => 0) (fun _ => false)) (w1 := mW cJ cI cZ r 0 (fun _ => 0) (fun _ => 0) (fun _ => 0) (fun _ => 0) (fun _ => 0) (fun _ => false)) hP hD [7] [0, 1, 2, 3, 4, 5, 6] rfl rfl (by decide) (by decide) hk1 hFc hP1 hD1
  have hK : va_K D vwCl (tsO cI cZ cJ) s := hK1.sub [1, 2, 0] rfl
  generalize H1 = H at hP hS ⊢
  refine W.eq (g2 := F0 m 15 ls [.ref (r 0)]) rfl ?_
  refine lv_astore_n hx hb dL_law_15 rfl hl (by decide) rfl (fun ls hl => ?_)
  have hl : lv_has ls 7 [(2, .ref (r 0)), (1, .ref (q 0)), (0, .ref b)] := hl
  refine lv_iconst (v := 1) hx hb dL_law_16 (by decide) ?_
  refine va_newa (atype := .long) (ty := .long) (a0 := (1, .inr (.inl (fun _ => 0)))) (N' := 1) hx hb (hts _ w_277) rfl hK hP hD hS hA (fun _ => rfl) (by decide) (by decide) (by decide) (Nat.le_of_ble_eq_true rfl) (Nat.le_of_ble_eq_true rfl) dL_law_17 (fun ob cJ2 H hK2 hP hD hS => ?_)
  obtain rfl : cJ = cJ2 := Option.some.inj ((va_nm_long (hK.2 2 _ rfl).2).symm.trans (va_nm_long (hK2.2 3 _ rfl).2))
  refine W.eq (g2 := F0 m 19 ls [.ref ob]) rfl ?_
  refine lv_astore_n hx hb dL_law_19 rfl hl (by decide) rfl (fun ls hl => ?_)
  have hl : lv_has ls 7 [(3, .ref ob), (2, .ref (r 0)), (1, .ref (q 0)), (0, .ref b)] := hl
  refine lv_iconst (v := 0) hx hb dL_law_20 (by decide) ?_
  refine lv_istore hx hb dL_law_21 hl (by decide) rfl (fun ls hl => ?_)
  have hl : lv_has ls 7 [(4, .int (nI (5 * 0))), (3, .ref ob), (2, .ref (r 0)), (1, .ref (q 0)), (0, .ref b)] := hl
  have hP : va_P D vwCl (lW cI cZ cJ q r ob (fun _ => 0) (fun _ => 0) (fun _ => 0) (fun _ => 0) (fun _ => 0) (fun _ => false) 0 (fun _ => 0) (fun _ => 0) (fun _ => 0) (fun _ => 0) (fun _ => 0) (fun _ => false) (fun _ => 0)) H := hP
  have hD : va_D (fun z : Nat => s.heap.size ≤ z) (lW cI cZ cJ q r ob (fun _ => 0) (fun _ => 0) (fun _ => 0) (fun _ => 0) (fun _ => 0) (fun _ => false) 0 (fun _ => 0) (fun _ => 0) (fun _ => 0) (fun _ => 0) (fun _ => 0) (fun _ => false) (fun _ => 0)) := hD
  refine W.widen (k := 15 + 0) (n := 206 + 6 * 0) (Nat.le_of_ble_eq_true rfl) (Nat.le_of_ble_eq_true rfl) ?_
  exact ll_loop ⟨hx, hb, hr, hml, hown, hts, hX, hbl, hlocks, hst, hB, hK, hL⟩ 512 0 rfl _ _ _ _ _ _ _ _ gd_0 _ _ _ hP hD hS hl

