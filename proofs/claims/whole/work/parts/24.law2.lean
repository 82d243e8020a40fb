/-! The cases of the law's switch. Laid by program (wip/whole/gen_l2.py). -/
set_option maxRecDepth 100000 in
set_option maxHeartbeats 4000000 in
theorem lc_root {p : Program} {l : Launch} {e : Env} {s : State} {m : MethodId} {below : List Frame} {meth : Method} {c : Code} {b L : Nat} {xs : Nat → Int32} {D : va_G} {cI cZ cJ : ClassId} {q r : Nat → Nat} {ob : Nat} (C : lC p l s m meth c b L xs D cI cZ cJ) {i cells slots : Nat} (hi : i + 5 ≤ L) (hc : cells + 1 ≤ 1044) (hs : slots + 6 ≤ 8428) {A B T P Y : Nat → Int32} {G : Nat → Bool} {V : Nat → Int64} {e9 : Int32} (hg : gd P Y) (K : ∀ (A B T P Y : Nat → Int32) (G : Nat → Bool) (V : Nat → Int64) (e9 : Int32), gd P Y → lS p l e s m below meth c b D cI cZ cJ q r ob i (cells + 1) (slots + 6) 882 A B T P Y G V e9) : lS p l e s m below meth c b D cI cZ cJ q r ob i cells slots 96 A B T P Y G V e9 := by
  obtain ⟨hx, hb, hr, hml, hown, hts, hX, hbl, hlocks, hst, hB, hK, hL⟩ := C
  intro H locs ls hP hD hS hl
  have hA : ∀ z : Nat, s.heap.size ≤ z → s.heap.size ≤ z := fun z h => h
  have hbA : ¬ s.heap.size ≤ b := Nat.not_le.mpr hbl
  have hH : ∀ z : Nat, z < s.heap.size → H[z]? = s.heap[z]? := fun z hz => hS.2.1 z hz (Nat.not_le.mpr hz)
  by_cases h1 : un (xs (i + 2)) ≤ un (xs (i + 3)) ∧ ¬ (xs (i + 4)) < 0 ∧ (xs (i + 4)) ≤ 255
  · by_cases h2 : vp_in (xs (i + 1)) 16
    · refine lv_aload_n hx hb dL_law_96 rfl (lv_at hl 3 rfl) ?_
      refine la_ld (i := i) 1 (by decide) hx hb hX hbl hbA hS (lv_at hl 4 rfl) (lv_at hl 0 rfl) (by omega) hL dL_law_97 dL_law_98 dL_law_100 dL_law_101 dL_law_102 ?_
      refine la_ld (i := i) 2 (by decide) hx hb hX hbl hbA hS (lv_at hl 4 rfl) (lv_at hl 0 rfl) (by omega) hL dL_law_103 dL_law_104 dL_law_106 dL_law_107 dL_law_108 ?_
      refine la_ld (i := i) 3 (by decide) hx hb hX hbl hbA hS (lv_at hl 4 rfl) (lv_at hl 0 rfl) (by omega) hL dL_law_109 dL_law_110 dL_law_112 dL_law_113 dL_law_114 ?_
      refine la_ld (i := i) 4 (by decide) hx hb hX hbl hbA hS (lv_at hl 4 rfl) (lv_at hl 0 rfl) (by omega) hL dL_law_115 dL_law_116 dL_law_118 dL_law_119 dL_law_120 ?_
      refine kw_SX 5 [0, 1, 2, 3, 4, 5, 6] [7, 8, 9, 10, 11, 12, 13, 14] (As := [.ref (q 0), .int (xs (i + 1)), .int (xs (i + 2)), .int (xs (i + 3)), .int (xs (i + 4))]) (rest := []) (wc := xW cI cZ q A B T P Y G) (wr := mW cJ cI cZ r (e9) A B T P Y G ++ [(ob, .inl (cJ, 1, .inr (.inl V)))]) (w1 := xW cI cZ q (upd A (xs (i + 1)).toNatClampNeg ((xs (i + 2)))) (upd B (xs (i + 1)).toNatClampNeg ((xs (i + 2)))) (upd T (xs (i + 1)).toNatClampNeg ((xs (i + 3)))) (upd P (xs (i + 1)).toNatClampNeg ((xs (i + 4)))) (upd Y (xs (i + 1)).toNatClampNeg (0)) (ub G (xs (i + 1)).toNatClampNeg (true))) hx hb hml hown hts hl.1 hP hD hS hA (hK.sub (tys' := tsX cI cZ) [0, 1] rfl) hB hH (mL_root_y l hst D cI cZ q A B T P Y G _ (xs (i + 1)) (xs (i + 2)) (xs (i + 3)) (xs (i + 4)) h2 h1.1 h1.2.1 h1.2.2) w_74 w_75 w_13 w_76 (by decide) ⟨rfl, rfl⟩ ⟨Nat.le_of_ble_eq_true rfl, Nat.le_of_ble_eq_true rfl⟩ rfl rfl (Nat.le_of_ble_eq_true rfl) dL_law_121 ⟨hc, hs⟩ rfl rfl ⟨by decide, by decide⟩ (by decide) (fun H locs hP hD hS => ?_)
      have hP : va_P D vwCl (lW cI cZ cJ q r ob (upd A (xs (i + 1)).toNatClampNeg ((xs (i + 2)))) (upd B (xs (i + 1)).toNatClampNeg ((xs (i + 2)))) (upd T (xs (i + 1)).toNatClampNeg ((xs (i + 3)))) (upd P (xs (i + 1)).toNatClampNeg ((xs (i + 4)))) (upd Y (xs (i + 1)).toNatClampNeg (0)) (ub G (xs (i + 1)).toNatClampNeg (true)) (e9) A B T P Y G V) H := hP.sub [8, 9, 10, 11, 12, 13, 14, 0, 1, 2, 3, 4, 5, 6, 7] rfl
      have hD : va_D (fun z => s.heap.size ≤ z) (lW cI cZ cJ q r ob (upd A (xs (i + 1)).toNatClampNeg ((xs (i + 2)))) (upd B (xs (i + 1)).toNatClampNeg ((xs (i + 2)))) (upd T (xs (i + 1)).toNatClampNeg ((xs (i + 3)))) (upd P (xs (i + 1)).toNatClampNeg ((xs (i + 4)))) (upd Y (xs (i + 1)).toNatClampNeg (0)) (ub G (xs (i + 1)).toNatClampNeg (true)) (e9) A B T P Y G V) := hD.sub [8, 9, 10, 11, 12, 13, 14, 0, 1, 2, 3, 4, 5, 6, 7] (by decide) rfl
      refine W.eq (g2 := F0 m 124 ls [.int (0)]) rfl ?_
      refine lv_istore hx hb dL_law_124 hl (by decide) rfl (fun ls hl => ?_)
      have hl : lv_has ls 7 [(5, .int (0)), (4, .int (nI i)), (3, .ref (ob)), (2, .ref (r 0)), (1, .ref (q 0)), (0, .ref (b))] := hl
      refine lv_aload_n hx hb dL_law_126 rfl (lv_at hl 3 rfl) ?_
      refine la_ld (i := i) 1 (by decide) hx hb hX hbl hbA hS (lv_at hl 5 rfl) (lv_at hl 1 rfl) (by omega) hL dL_law_127 dL_law_128 dL_law_130 dL_law_131 dL_law_132 ?_
      refine la_ld (i := i) 2 (by decide) hx hb hX hbl hbA hS (lv_at hl 5 rfl) (lv_at hl 1 rfl) (by omega) hL dL_law_133 dL_law_134 dL_law_136 dL_law_137 dL_law_138 ?_
      refine la_ld (i := i) 3 (by decide) hx hb hX hbl hbA hS (lv_at hl 5 rfl) (lv_at hl 1 rfl) (by omega) hL dL_law_139 dL_law_140 dL_law_142 dL_law_143 dL_law_144 ?_
      refine la_ld (i := i) 4 (by decide) hx hb hX hbl hbA hS (lv_at hl 5 rfl) (lv_at hl 1 rfl) (by omega) hL dL_law_145 dL_law_146 dL_law_148 dL_law_149 dL_law_150 ?_
      refine kw_V 4 [7, 8, 9, 10, 11, 12, 13] [0, 1, 2, 3, 4, 5, 6, 14] (b := r 0) (As := [.int (xs (i + 1)), .int (xs (i + 2)), .int (xs (i + 3)), .int (xs (i + 4))]) (rest := []) (wc := mW cJ cI cZ r (e9) A B T P Y G) (wr := xW cI cZ q (upd A (xs (i + 1)).toNatClampNeg ((xs (i + 2)))) (upd B (xs (i + 1)).toNatClampNeg ((xs (i + 2)))) (upd T (xs (i + 1)).toNatClampNeg ((xs (i + 3)))) (upd P (xs (i + 1)).toNatClampNeg ((xs (i + 4)))) (upd Y (xs (i + 1)).toNatClampNeg (0)) (ub G (xs (i + 1)).toNatClampNeg (true)) ++ [(ob, .inl (cJ, 1, .inr (.inl V)))]) (w1 := mW cJ cI cZ r (0) (upd A (xs (i + 1)).toNatClampNeg ((xs (i + 2)))) (upd B (xs (i + 1)).toNatClampNeg ((xs (i + 2)))) (upd T (xs (i + 1)).toNatClampNeg ((xs (i + 3)))) (upd P (xs (i + 1)).toNatClampNeg ((xs (i + 4)))) (upd Y (xs (i + 1)).toNatClampNeg (0)) (ub G (xs (i + 1)).toNatClampNeg (true))) hx hb hml hown hts hl.1 hP hD hS hA (hK.sub (tys' := tsM cJ cI cZ) [2, 0, 1] rfl) (mM_root_y l D cJ cI cZ r (e9) A B T P Y G _ (xs (i + 1)) (xs (i + 2)) (xs (i + 3)) (xs (i + 4)) h2 h1.1 h1.2.1 h1.2.2) (gw_V w_282 w_283 w_284 w_15 w_285) (by decide) ⟨rfl, rfl⟩ ⟨Nat.le_of_ble_eq_true rfl, Nat.le_of_ble_eq_true rfl⟩ (va_recv hK hP (ci := 1) rfl (q0 := 7) rfl) rfl rfl (Nat.le_of_ble_eq_true rfl) dL_law_151 ⟨hc, hs⟩ rfl rfl ⟨by decide, by decide⟩ (by decide) (fun H locs hP hD hS => ?_)
      have hP : va_P D vwCl (lW cI cZ cJ q r ob (upd A (xs (i + 1)).toNatClampNeg ((xs (i + 2)))) (upd B (xs (i + 1)).toNatClampNeg ((xs (i + 2)))) (upd T (xs (i + 1)).toNatClampNeg ((xs (i + 3)))) (upd P (xs (i + 1)).toNatClampNeg ((xs (i + 4)))) (upd Y (xs (i + 1)).toNatClampNeg (0)) (ub G (xs (i + 1)).toNatClampNeg (true)) (0) (upd A (xs (i + 1)).toNatClampNeg ((xs (i + 2)))) (upd B (xs (i + 1)).toNatClampNeg ((xs (i + 2)))) (upd T (xs (i + 1)).toNatClampNeg ((xs (i + 3)))) (upd P (xs (i + 1)).toNatClampNeg ((xs (i + 4)))) (upd Y (xs (i + 1)).toNatClampNeg (0)) (ub G (xs (i + 1)).toNatClampNeg (true)) V) H := hP.sub [0, 1, 2, 3, 4, 5, 6, 8, 9, 10, 11, 12, 13, 14, 7] rfl
      have hD : va_D (fun z => s.heap.size ≤ z) (lW cI cZ cJ q r ob (upd A (xs (i + 1)).toNatClampNeg ((xs (i + 2)))) (upd B (xs (i + 1)).toNatClampNeg ((xs (i + 2)))) (upd T (xs (i + 1)).toNatClampNeg ((xs (i + 3)))) (upd P (xs (i + 1)).toNatClampNeg ((xs (i + 4)))) (upd Y (xs (i + 1)).toNatClampNeg (0)) (ub G (xs (i + 1)).toNatClampNeg (true)) (0) (upd A (xs (i + 1)).toNatClampNeg ((xs (i + 2)))) (upd B (xs (i + 1)).toNatClampNeg ((xs (i + 2)))) (upd T (xs (i + 1)).toNatClampNeg ((xs (i + 3)))) (upd P (xs (i + 1)).toNatClampNeg ((xs (i + 4)))) (upd Y (xs (i + 1)).toNatClampNeg (0)) (ub G (xs (i + 1)).toNatClampNeg (true)) V) := hD.sub [0, 1, 2, 3, 4, 5, 6, 8, 9, 10, 11, 12, 13, 14, 7] (by decide) rfl
      refine W.eq (g2 := F0 m 154 ls []) rfl ?_
      refine lv_aload_n hx hb dL_law_154 rfl (lv_at hl 3 rfl) ?_
      refine kr_V 0 (b := r 0) (As := []) (rest := []) (r := .int (0)) hx hb hml hown hts hl.1 (mM_thrown l D cJ cI cZ r (0) (upd A (xs (i + 1)).toNatClampNeg ((xs (i + 2)))) (upd B (xs (i + 1)).toNatClampNeg ((xs (i + 2)))) (upd T (xs (i + 1)).toNatClampNeg ((xs (i + 3)))) (upd P (xs (i + 1)).toNatClampNeg ((xs (i + 4)))) (upd Y (xs (i + 1)).toNatClampNeg (0)) (ub G (xs (i + 1)).toNatClampNeg (true))) rB_stb ⟨hP.sub (ws' := mW cJ cI cZ r (0) (upd A (xs (i + 1)).toNatClampNeg ((xs (i + 2)))) (upd B (xs (i + 1)).toNatClampNeg ((xs (i + 2)))) (upd T (xs (i + 1)).toNatClampNeg ((xs (i + 3)))) (upd P (xs (i + 1)).toNatClampNeg ((xs (i + 4)))) (upd Y (xs (i + 1)).toNatClampNeg (0)) (ub G (xs (i + 1)).toNatClampNeg (true))) [7, 8, 9, 10, 11, 12, 13] rfl, hK.sub (tys' := tsM cJ cI cZ) [2, 0, 1] rfl⟩ (gw_V w_278 w_279 w_280 w_15 w_281) (by decide) ⟨rfl, rfl⟩ ⟨Nat.le_of_ble_eq_true rfl, Nat.le_of_ble_eq_true rfl⟩ (va_recv hK hP (ci := 1) rfl (q0 := 7) rfl) rfl rfl (Nat.le_of_ble_eq_true rfl) dL_law_155 ⟨hc, hs⟩ ?_
      refine W.eq (g2 := F0 m 158 ls [.int (0)]) rfl ?_
      refine lv_iload hx hb dL_law_158 (lv_at hl 0 rfl) ?_
      refine lv_icmp_eq (tgt := 165) hx hb dL_law_160 (by decide) (fun h_1 => ?_) (fun h_1 => absurd (by decide) h_1)
      refine lv_goto (tgt := 882) hx hb dL_law_165 (by decide) ?_
      exact K _ _ _ _ _ _ _ _ (gd_upd hg (pv_ok h1.2.1 h1.2.2) (by decide)) _ _ _ hP hD hS (lv_sub hl [1, 2, 3, 4, 5] rfl)
    · refine lv_aload_n hx hb dL_law_96 rfl (lv_at hl 3 rfl) ?_
      refine la_ld (i := i) 1 (by decide) hx hb hX hbl hbA hS (lv_at hl 4 rfl) (lv_at hl 0 rfl) (by omega) hL dL_law_97 dL_law_98 dL_law_100 dL_law_101 dL_law_102 ?_
      refine la_ld (i := i) 2 (by decide) hx hb hX hbl hbA hS (lv_at hl 4 rfl) (lv_at hl 0 rfl) (by omega) hL dL_law_103 dL_law_104 dL_law_106 dL_law_107 dL_law_108 ?_
      refine la_ld (i := i) 3 (by decide) hx hb hX hbl hbA hS (lv_at hl 4 rfl) (lv_at hl 0 rfl) (by omega) hL dL_law_109 dL_law_110 dL_law_112 dL_law_113 dL_law_114 ?_
      refine la_ld (i := i) 4 (by decide) hx hb hX hbl hbA hS (lv_at hl 4 rfl) (lv_at hl 0 rfl) (by omega) hL dL_law_115 dL_law_116 dL_law_118 dL_law_119 dL_law_120 ?_
      refine kw_SX 5 [0, 1, 2, 3, 4, 5, 6] [7, 8, 9, 10, 11, 12, 13, 14] (As := [.ref (q 0), .int (xs (i + 1)), .int (xs (i + 2)), .int (xs (i + 3)), .int (xs (i + 4))]) (rest := []) (wc := xW cI cZ q A B T P Y G) (wr := mW cJ cI cZ r (e9) A B T P Y G ++ [(ob, .inl (cJ, 1, .inr (.inl V)))]) (w1 := xW cI cZ q A B T P Y G) hx hb hml hown hts hl.1 hP hD hS hA (hK.sub (tys' := tsX cI cZ) [0, 1] rfl) hB hH (mL_root_b l hst D cI cZ q A B T P Y G _ (xs (i + 1)) (xs (i + 2)) (xs (i + 3)) (xs (i + 4)) h1.1 h1.2.1 h1.2.2 h2) w_74 w_75 w_13 w_76 (by decide) ⟨rfl, rfl⟩ ⟨Nat.le_of_ble_eq_true rfl, Nat.le_of_ble_eq_true rfl⟩ rfl rfl (Nat.le_of_ble_eq_true rfl) dL_law_121 ⟨hc, hs⟩ rfl rfl ⟨by decide, by decide⟩ (by decide) (fun H locs hP hD hS => ?_)
      have hP : va_P D vwCl (lW cI cZ cJ q r ob A B T P Y G (e9) A B T P Y G V) H := hP.sub [8, 9, 10, 11, 12, 13, 14, 0, 1, 2, 3, 4, 5, 6, 7] rfl
      have hD : va_D (fun z => s.heap.size ≤ z) (lW cI cZ cJ q r ob A B T P Y G (e9) A B T P Y G V) := hD.sub [8, 9, 10, 11, 12, 13, 14, 0, 1, 2, 3, 4, 5, 6, 7] (by decide) rfl
      refine W.eq (g2 := F0 m 124 ls [.int (2)]) rfl ?_
      refine lv_istore hx hb dL_law_124 hl (by decide) rfl (fun ls hl => ?_)
      have hl : lv_has ls 7 [(5, .int (2)), (4, .int (nI i)), (3, .ref (ob)), (2, .ref (r 0)), (1, .ref (q 0)), (0, .ref (b))] := hl
      refine lv_aload_n hx hb dL_law_126 rfl (lv_at hl 3 rfl) ?_
      refine la_ld (i := i) 1 (by decide) hx hb hX hbl hbA hS (lv_at hl 5 rfl) (lv_at hl 1 rfl) (by omega) hL dL_law_127 dL_law_128 dL_law_130 dL_law_131 dL_law_132 ?_
      refine la_ld (i := i) 2 (by decide) hx hb hX hbl hbA hS (lv_at hl 5 rfl) (lv_at hl 1 rfl) (by omega) hL dL_law_133 dL_law_134 dL_law_136 dL_law_137 dL_law_138 ?_
      refine la_ld (i := i) 3 (by decide) hx hb hX hbl hbA hS (lv_at hl 5 rfl) (lv_at hl 1 rfl) (by omega) hL dL_law_139 dL_law_140 dL_law_142 dL_law_143 dL_law_144 ?_
      refine la_ld (i := i) 4 (by decide) hx hb hX hbl hbA hS (lv_at hl 5 rfl) (lv_at hl 1 rfl) (by omega) hL dL_law_145 dL_law_146 dL_law_148 dL_law_149 dL_law_150 ?_
      refine kw_V 4 [7, 8, 9, 10, 11, 12, 13] [0, 1, 2, 3, 4, 5, 6, 14] (b := r 0) (As := [.int (xs (i + 1)), .int (xs (i + 2)), .int (xs (i + 3)), .int (xs (i + 4))]) (rest := []) (wc := mW cJ cI cZ r (e9) A B T P Y G) (wr := xW cI cZ q A B T P Y G ++ [(ob, .inl (cJ, 1, .inr (.inl V)))]) (w1 := mW cJ cI cZ r (2) A B T P Y G) hx hb hml hown hts hl.1 hP hD hS hA (hK.sub (tys' := tsM cJ cI cZ) [2, 0, 1] rfl) (mM_root_b l D cJ cI cZ r (e9) A B T P Y G _ (xs (i + 1)) (xs (i + 2)) (xs (i + 3)) (xs (i + 4)) h1.1 h1.2.1 h1.2.2 h2) (gw_V w_282 w_283 w_284 w_15 w_285) (by decide) ⟨rfl, rfl⟩ ⟨Nat.le_of_ble_eq_true rfl, Nat.le_of_ble_eq_true rfl⟩ (va_recv hK hP (ci := 1) rfl (q0 := 7) rfl) rfl rfl (Nat.le_of_ble_eq_true rfl) dL_law_151 ⟨hc, hs⟩ rfl rfl ⟨by decide, by decide⟩ (by decide) (fun H locs hP hD hS => ?_)
      have hP : va_P D vwCl (lW cI cZ cJ q r ob A B T P Y G (2) A B T P Y G V) H := hP.sub [0, 1, 2, 3, 4, 5, 6, 8, 9, 10, 11, 12, 13, 14, 7] rfl
      have hD : va_D (fun z => s.heap.size ≤ z) (lW cI cZ cJ q r ob A B T P Y G (2) A B T P Y G V) := hD.sub [0, 1, 2, 3, 4, 5, 6, 8, 9, 10, 11, 12, 13, 14, 7] (by decide) rfl
      refine W.eq (g2 := F0 m 154 ls []) rfl ?_
      refine lv_aload_n hx hb dL_law_154 rfl (lv_at hl 3 rfl) ?_
      refine kr_V 0 (b := r 0) (As := []) (rest := []) (r := .int (2)) hx hb hml hown hts hl.1 (mM_thrown l D cJ cI cZ r (2) A B T P Y G) rB_stb ⟨hP.sub (ws' := mW cJ cI cZ r (2) A B T P Y G) [7, 8, 9, 10, 11, 12, 13] rfl, hK.sub (tys' := tsM cJ cI cZ) [2, 0, 1] rfl⟩ (gw_V w_278 w_279 w_280 w_15 w_281) (by decide) ⟨rfl, rfl⟩ ⟨Nat.le_of_ble_eq_true rfl, Nat.le_of_ble_eq_true rfl⟩ (va_recv hK hP (ci := 1) rfl (q0 := 7) rfl) rfl rfl (Nat.le_of_ble_eq_true rfl) dL_law_155 ⟨hc, hs⟩ ?_
      refine W.eq (g2 := F0 m 158 ls [.int (2)]) rfl ?_
      refine lv_iload hx hb dL_law_158 (lv_at hl 0 rfl) ?_
      refine lv_icmp_eq (tgt := 165) hx hb dL_law_160 (by decide) (fun h_2 => ?_) (fun h_2 => absurd (by decide) h_2)
      refine lv_goto (tgt := 882) hx hb dL_law_165 (by decide) ?_
      exact K _ _ _ _ _ _ _ _ hg _ _ _ hP hD hS (lv_sub hl [1, 2, 3, 4, 5] rfl)
  · refine lv_aload_n hx hb dL_law_96 rfl (lv_at hl 3 rfl) ?_
    refine la_ld (i := i) 1 (by decide) hx hb hX hbl hbA hS (lv_at hl 4 rfl) (lv_at hl 0 rfl) (by omega) hL dL_law_97 dL_law_98 dL_law_100 dL_law_101 dL_law_102 ?_
    refine la_ld (i := i) 2 (by decide) hx hb hX hbl hbA hS (lv_at hl 4 rfl) (lv_at hl 0 rfl) (by omega) hL dL_law_103 dL_law_104 dL_law_106 dL_law_107 dL_law_108 ?_
    refine la_ld (i := i) 3 (by decide) hx hb hX hbl hbA hS (lv_at hl 4 rfl) (lv_at hl 0 rfl) (by omega) hL dL_law_109 dL_law_110 dL_law_112 dL_law_113 dL_law_114 ?_
    refine la_ld (i := i) 4 (by decide) hx hb hX hbl hbA hS (lv_at hl 4 rfl) (lv_at hl 0 rfl) (by omega) hL dL_law_115 dL_law_116 dL_law_118 dL_law_119 dL_law_120 ?_
    refine kw_SX 5 [0, 1, 2, 3, 4, 5, 6] [7, 8, 9, 10, 11, 12, 13, 14] (As := [.ref (q 0), .int (xs (i + 1)), .int (xs (i + 2)), .int (xs (i + 3)), .int (xs (i + 4))]) (rest := []) (wc := xW cI cZ q A B T P Y G) (wr := mW cJ cI cZ r (e9) A B T P Y G ++ [(ob, .inl (cJ, 1, .inr (.inl V)))]) (w1 := xW cI cZ q A B T P Y G) hx hb hml hown hts hl.1 hP hD hS hA (hK.sub (tys' := tsX cI cZ) [0, 1] rfl) hB hH (mL_root_a l hst D cI cZ q A B T P Y G _ (xs (i + 1)) (xs (i + 2)) (xs (i + 3)) (xs (i + 4)) h1) w_74 w_75 w_13 w_76 (by decide) ⟨rfl, rfl⟩ ⟨Nat.le_of_ble_eq_true rfl, Nat.le_of_ble_eq_true rfl⟩ rfl rfl (Nat.le_of_ble_eq_true rfl) dL_law_121 ⟨hc, hs⟩ rfl rfl ⟨by decide, by decide⟩ (by decide) (fun H locs hP hD hS => ?_)
    have hP : va_P D vwCl (lW cI cZ cJ q r ob A B T P Y G (e9) A B T P Y G V) H := hP.sub [8, 9, 10, 11, 12, 13, 14, 0, 1, 2, 3, 4, 5, 6, 7] rfl
    have hD : va_D (fun z => s.heap.size ≤ z) (lW cI cZ cJ q r ob A B T P Y G (e9) A B T P Y G V) := hD.sub [8, 9, 10, 11, 12, 13, 14, 0, 1, 2, 3, 4, 5, 6, 7] (by decide) rfl
    refine W.eq (g2 := F0 m 124 ls [.int (1)]) rfl ?_
    refine lv_istore hx hb dL_law_124 hl (by decide) rfl (fun ls hl => ?_)
    have hl : lv_has ls 7 [(5, .int (1)), (4, .int (nI i)), (3, .ref (ob)), (2, .ref (r 0)), (1, .ref (q 0)), (0, .ref (b))] := hl
    refine lv_aload_n hx hb dL_law_126 rfl (lv_at hl 3 rfl) ?_
    refine la_ld (i := i) 1 (by decide) hx hb hX hbl hbA hS (lv_at hl 5 rfl) (lv_at hl 1 rfl) (by omega) hL dL_law_127 dL_law_128 dL_law_130 dL_law_131 dL_law_132 ?_
    refine la_ld (i := i) 2 (by decide) hx hb hX hbl hbA hS (lv_at hl 5 rfl) (lv_at hl 1 rfl) (by omega) hL dL_law_133 dL_law_134 dL_law_136 dL_law_137 dL_law_138 ?_
    refine la_ld (i := i) 3 (by decide) hx hb hX hbl hbA hS (lv_at hl 5 rfl) (lv_at hl 1 rfl) (by omega) hL dL_law_139 dL_law_140 dL_law_142 dL_law_143 dL_law_144 ?_
    refine la_ld (i := i) 4 (by decide) hx hb hX hbl hbA hS (lv_at hl 5 rfl) (lv_at hl 1 rfl) (by omega) hL dL_law_145 dL_law_146 dL_law_148 dL_law_149 dL_law_150 ?_
    refine kw_V 4 [7, 8, 9, 10, 11, 12, 13] [0, 1, 2, 3, 4, 5, 6, 14] (b := r 0) (As := [.int (xs (i + 1)), .int (xs (i + 2)), .int (xs (i + 3)), .int (xs (i + 4))]) (rest := []) (wc := mW cJ cI cZ r (e9) A B T P Y G) (wr := xW cI cZ q A B T P Y G ++ [(ob, .inl (cJ, 1, .inr (.inl V)))]) (w1 := mW cJ cI cZ r (1) A B T P Y G) hx hb hml hown hts hl.1 hP hD hS hA (hK.sub (tys' := tsM cJ cI cZ) [2, 0, 1] rfl) (mM_root_a l D cJ cI cZ r (e9) A B T P Y G _ (xs (i + 1)) (xs (i + 2)) (xs (i + 3)) (xs (i + 4)) h1) (gw_V w_282 w_283 w_284 w_15 w_285) (by decide) ⟨rfl, rfl⟩ ⟨Nat.le_of_ble_eq_true rfl, Nat.le_of_ble_eq_true rfl⟩ (va_recv hK hP (ci := 1) rfl (q0 := 7) rfl) rfl rfl (Nat.le_of_ble_eq_true rfl) dL_law_151 ⟨hc, hs⟩ rfl rfl ⟨by decide, by decide⟩ (by decide) (fun H locs hP hD hS => ?_)
    have hP : va_P D vwCl (lW cI cZ cJ q r ob A B T P Y G (1) A B T P Y G V) H := hP.sub [0, 1, 2, 3, 4, 5, 6, 8, 9, 10, 11, 12, 13, 14, 7] rfl
    have hD : va_D (fun z => s.heap.size ≤ z) (lW cI cZ cJ q r ob A B T P Y G (1) A B T P Y G V) := hD.sub [0, 1, 2, 3, 4, 5, 6, 8, 9, 10, 11, 12, 13, 14, 7] (by decide) rfl
    refine W.eq (g2 := F0 m 154 ls []) rfl ?_
    refine lv_aload_n hx hb dL_law_154 rfl (lv_at hl 3 rfl) ?_
    refine kr_V 0 (b := r 0) (As := []) (rest := []) (r := .int (1)) hx hb hml hown hts hl.1 (mM_thrown l D cJ cI cZ r (1) A B T P Y G) rB_stb ⟨hP.sub (ws' := mW cJ cI cZ r (1) A B T P Y G) [7, 8, 9, 10, 11, 12, 13] rfl, hK.sub (tys' := tsM cJ cI cZ) [2, 0, 1] rfl⟩ (gw_V w_278 w_279 w_280 w_15 w_281) (by decide) ⟨rfl, rfl⟩ ⟨Nat.le_of_ble_eq_true rfl, Nat.le_of_ble_eq_true rfl⟩ (va_recv hK hP (ci := 1) rfl (q0 := 7) rfl) rfl rfl (Nat.le_of_ble_eq_true rfl) dL_law_155 ⟨hc, hs⟩ ?_
    refine W.eq (g2 := F0 m 158 ls [.int (1)]) rfl ?_
    refine lv_iload hx hb dL_law_158 (lv_at hl 0 rfl) ?_
    refine lv_icmp_eq (tgt := 165) hx hb dL_law_160 (by decide) (fun h_3 => ?_) (fun h_3 => absurd (by decide) h_3)
    refine lv_goto (tgt := 882) hx hb dL_law_165 (by decide) ?_
    exact K _ _ _ _ _ _ _ _ hg _ _ _ hP hD hS (lv_sub hl [1, 2, 3, 4, 5] rfl)

set_option maxRecDepth 100000 in
set_option maxHeartbeats 4000000 in
theorem lc_number {p : Program} {l : Launch} {e : Env} {s : State} {m : MethodId} {below : List Frame} {meth : Method} {c : Code} {b L : Nat} {xs : Nat → Int32} {D : va_G} {cI cZ cJ : ClassId} {q r : Nat → Nat} {ob : Nat} (C : lC p l s m meth c b L xs D cI cZ cJ) {i cells slots : Nat} (hi : i + 5 ≤ L) (hc : cells + 1 ≤ 1044) (hs : slots + 6 ≤ 8428) {A B T P Y : Nat → Int32} {G : Nat → Bool} {V : Nat → Int64} {e9 : Int32} (hg : gd P Y) (K : ∀ (A B T P Y : Nat → Int32) (G : Nat → Bool) (V : Nat → Int64) (e9 : Int32), gd P Y → lS p l e s m below meth c b D cI cZ cJ q r ob i (cells + 1) (slots + 6) 882 A B T P Y G V e9) : lS p l e s m below meth c b D cI cZ cJ q r ob i cells slots 168 A B T P Y G V e9 := by
  obtain ⟨hx, hb, hr, hml, hown, hts, hX, hbl, hlocks, hst, hB, hK, hL⟩ := C
  intro H locs ls hP hD hS hl
  have hA : ∀ z : Nat, s.heap.size ≤ z → s.heap.size ≤ z := fun z h => h
  have hbA : ¬ s.heap.size ≤ b := Nat.not_le.mpr hbl
  have hH : ∀ z : Nat, z < s.heap.size → H[z]? = s.heap[z]? := fun z hz => hS.2.1 z hz (Nat.not_le.mpr hz)
  by_cases h2 : vp_in (xs (i + 1)) 16
  · refine lv_aload_n hx hb dL_law_168 rfl (lv_at hl 3 rfl) ?_
    refine la_ld (i := i) 1 (by decide) hx hb hX hbl hbA hS (lv_at hl 4 rfl) (lv_at hl 0 rfl) (by omega) hL dL_law_169 dL_law_170 dL_law_172 dL_law_173 dL_law_174 ?_
    refine la_ld (i := i) 2 (by decide) hx hb hX hbl hbA hS (lv_at hl 4 rfl) (lv_at hl 0 rfl) (by omega) hL dL_law_175 dL_law_176 dL_law_178 dL_law_179 dL_law_180 ?_
    refine kw_SX 3 [0, 1, 2, 3, 4, 5, 6] [7, 8, 9, 10, 11, 12, 13, 14] (As := [.ref (q 0), .int (xs (i + 1)), .int (xs (i + 2))]) (rest := []) (wc := xW cI cZ q A B T P Y G) (wr := mW cJ cI cZ r (e9) A B T P Y G ++ [(ob, .inl (cJ, 1, .inr (.inl V)))]) (w1 := xW cI cZ q (upd A (xs (i + 1)).toNatClampNeg ((xs (i + 2)))) (upd B (xs (i + 1)).toNatClampNeg (0)) (upd T (xs (i + 1)).toNatClampNeg (0)) (upd P (xs (i + 1)).toNatClampNeg (0)) (upd Y (xs (i + 1)).toNatClampNeg (0)) (ub G (xs (i + 1)).toNatClampNeg (false))) hx hb hml hown hts hl.1 hP hD hS hA (hK.sub (tys' := tsX cI cZ) [0, 1] rfl) hB hH (mL_number_y l hst D cI cZ q A B T P Y G _ (xs (i + 1)) (xs (i + 2)) h2) w_170 w_171 w_13 w_172 (by decide) ⟨rfl, rfl⟩ ⟨Nat.le_of_ble_eq_true rfl, Nat.le_of_ble_eq_true rfl⟩ rfl rfl (Nat.le_of_ble_eq_true rfl) dL_law_181 ⟨hc, hs⟩ rfl rfl ⟨by decide, by decide⟩ (by decide) (fun H locs hP hD hS => ?_)
    have hP : va_P D vwCl (lW cI cZ cJ q r ob (upd A (xs (i + 1)).toNatClampNeg ((xs (i + 2)))) (upd B (xs (i + 1)).toNatClampNeg (0)) (upd T (xs (i + 1)).toNatClampNeg (0)) (upd P (xs (i + 1)).toNatClampNeg (0)) (upd Y (xs (i + 1)).toNatClampNeg (0)) (ub G (xs (i + 1)).toNatClampNeg (false)) (e9) A B T P Y G V) H := hP.sub [8, 9, 10, 11, 12, 13, 14, 0, 1, 2, 3, 4, 5, 6, 7] rfl
    have hD : va_D (fun z => s.heap.size ≤ z) (lW cI cZ cJ q r ob (upd A (xs (i + 1)).toNatClampNeg ((xs (i + 2)))) (upd B (xs (i + 1)).toNatClampNeg (0)) (upd T (xs (i + 1)).toNatClampNeg (0)) (upd P (xs (i + 1)).toNatClampNeg (0)) (upd Y (xs (i + 1)).toNatClampNeg (0)) (ub G (xs (i + 1)).toNatClampNeg (false)) (e9) A B T P Y G V) := hD.sub [8, 9, 10, 11, 12, 13, 14, 0, 1, 2, 3, 4, 5, 6, 7] (by decide) rfl
    refine W.eq (g2 := F0 m 184 ls [.int (0)]) rfl ?_
    refine lv_istore hx hb dL_law_184 hl (by decide) rfl (fun ls hl => ?_)
    have hl : lv_has ls 7 [(5, .int (0)), (4, .int (nI i)), (3, .ref (ob)), (2, .ref (r 0)), (1, .ref (q 0)), (0, .ref (b))] := hl
    refine lv_aload_n hx hb dL_law_186 rfl (lv_at hl 3 rfl) ?_
    refine la_ld (i := i) 1 (by decide) hx hb hX hbl hbA hS (lv_at hl 5 rfl) (lv_at hl 1 rfl) (by omega) hL dL_law_187 dL_law_188 dL_law_190 dL_law_191 dL_law_192 ?_
    refine la_ld (i := i) 2 (by decide) hx hb hX hbl hbA hS (lv_at hl 5 rfl) (lv_at hl 1 rfl) (by omega) hL dL_law_193 dL_law_194 dL_law_196 dL_law_197 dL_law_198 ?_
    refine kw_V 2 [7, 8, 9, 10, 11, 12, 13] [0, 1, 2, 3, 4, 5, 6, 14] (b := r 0) (As := [.int (xs (i + 1)), .int (xs (i + 2))]) (rest := []) (wc := mW cJ cI cZ r (e9) A B T P Y G) (wr := xW cI cZ q (upd A (xs (i + 1)).toNatClampNeg ((xs (i + 2)))) (upd B (xs (i + 1)).toNatClampNeg (0)) (upd T (xs (i + 1)).toNatClampNeg (0)) (upd P (xs (i + 1)).toNatClampNeg (0)) (upd Y (xs (i + 1)).toNatClampNeg (0)) (ub G (xs (i + 1)).toNatClampNeg (false)) ++ [(ob, .inl (cJ, 1, .inr (.inl V)))]) (w1 := mW cJ cI cZ r (0) (upd A (xs (i + 1)).toNatClampNeg ((xs (i + 2)))) (upd B (xs (i + 1)).toNatClampNeg (0)) (upd T (xs (i + 1)).toNatClampNeg (0)) (upd P (xs (i + 1)).toNatClampNeg (0)) (upd Y (xs (i + 1)).toNatClampNeg (0)) (ub G (xs (i + 1)).toNatClampNeg (false))) hx hb hml hown hts hl.1 hP hD hS hA (hK.sub (tys' := tsM cJ cI cZ) [2, 0, 1] rfl) (mM_number_y l D cJ cI cZ r (e9) A B T P Y G _ (xs (i + 1)) (xs (i + 2)) h2) (gw_V w_306 w_307 w_308 w_15 w_309) (by decide) ⟨rfl, rfl⟩ ⟨Nat.le_of_ble_eq_true rfl, Nat.le_of_ble_eq_true rfl⟩ (va_recv hK hP (ci := 1) rfl (q0 := 7) rfl) rfl rfl (Nat.le_of_ble_eq_true rfl) dL_law_199 ⟨hc, hs⟩ rfl rfl ⟨by decide, by decide⟩ (by decide) (fun H locs hP hD hS => ?_)
    have hP : va_P D vwCl (lW cI cZ cJ q r ob (upd A (xs (i + 1)).toNatClampNeg ((xs (i + 2)))) (upd B (xs (i + 1)).toNatClampNeg (0)) (upd T (xs (i + 1)).toNatClampNeg (0)) (upd P (xs (i + 1)).toNatClampNeg (0)) (upd Y (xs (i + 1)).toNatClampNeg (0)) (ub G (xs (i + 1)).toNatClampNeg (false)) (0) (upd A (xs (i + 1)).toNatClampNeg ((xs (i + 2)))) (upd B (xs (i + 1)).toNatClampNeg (0)) (upd T (xs (i + 1)).toNatClampNeg (0)) (upd P (xs (i + 1)).toNatClampNeg (0)) (upd Y (xs (i + 1)).toNatClampNeg (0)) (ub G (xs (i + 1)).toNatClampNeg (false)) V) H := hP.sub [0, 1, 2, 3, 4, 5, 6, 8, 9, 10, 11, 12, 13, 14, 7] rfl
    have hD : va_D (fun z => s.heap.size ≤ z) (lW cI cZ cJ q r ob (upd A (xs (i + 1)).toNatClampNeg ((xs (i + 2)))) (upd B (xs (i + 1)).toNatClampNeg (0)) (upd T (xs (i + 1)).toNatClampNeg (0)) (upd P (xs (i + 1)).toNatClampNeg (0)) (upd Y (xs (i + 1)).toNatClampNeg (0)) (ub G (xs (i + 1)).toNatClampNeg (false)) (0) (upd A (xs (i + 1)).toNatClampNeg ((xs (i + 2)))) (upd B (xs (i + 1)).toNatClampNeg (0)) (upd T (xs (i + 1)).toNatClampNeg (0)) (upd P (xs (i + 1)).toNatClampNeg (0)) (upd Y (xs (i + 1)).toNatClampNeg (0)) (ub G (xs (i + 1)).toNatClampNeg (false)) V) := hD.sub [0, 1, 2, 3, 4, 5, 6, 8, 9, 10, 11, 12, 13, 14, 7] (by decide) rfl
    refine W.eq (g2 := F0 m 202 ls []) rfl ?_
    refine lv_aload_n hx hb dL_law_202 rfl (lv_at hl 3 rfl) ?_
    refine kr_V 0 (b := r 0) (As := []) (rest := []) (r := .int (0)) hx hb hml hown hts hl.1 (mM_thrown l D cJ cI cZ r (0) (upd A (xs (i + 1)).toNatClampNeg ((xs (i + 2)))) (upd B (xs (i + 1)).toNatClampNeg (0)) (upd T (xs (i + 1)).toNatClampNeg (0)) (upd P (xs (i + 1)).toNatClampNeg (0)) (upd Y (xs (i + 1)).toNatClampNeg (0)) (ub G (xs (i + 1)).toNatClampNeg (false))) rB_stb ⟨hP.sub (ws' := mW cJ cI cZ r (0) (upd A (xs (i + 1)).toNatClampNeg ((xs (i + 2)))) (upd B (xs (i + 1)).toNatClampNeg (0)) (upd T (xs (i + 1)).toNatClampNeg (0)) (upd P (xs (i + 1)).toNatClampNeg (0)) (upd Y (xs (i + 1)).toNatClampNeg (0)) (ub G (xs (i + 1)).toNatClampNeg (false))) [7, 8, 9, 10, 11, 12, 13] rfl, hK.sub (tys' := tsM cJ cI cZ) [2, 0, 1] rfl⟩ (gw_V w_278 w_279 w_280 w_15 w_281) (by decide) ⟨rfl, rfl⟩ ⟨Nat.le_of_ble_eq_true rfl, Nat.le_of_ble_eq_true rfl⟩ (va_recv hK hP (ci := 1) rfl (q0 := 7) rfl) rfl rfl (Nat.le_of_ble_eq_true rfl) dL_law_203 ⟨hc, hs⟩ ?_
    refine W.eq (g2 := F0 m 206 ls [.int (0)]) rfl ?_
    refine lv_iload hx hb dL_law_206 (lv_at hl 0 rfl) ?_
    refine lv_icmp_eq (tgt := 213) hx hb dL_law_208 (by decide) (fun h_1 => ?_) (fun h_1 => absurd (by decide) h_1)
    refine lv_goto (tgt := 882) hx hb dL_law_213 (by decide) ?_
    exact K _ _ _ _ _ _ _ _ (gd_upd hg (by decide) (by decide)) _ _ _ hP hD hS (lv_sub hl [1, 2, 3, 4, 5] rfl)
  · refine lv_aload_n hx hb dL_law_168 rfl (lv_at hl 3 rfl) ?_
    refine la_ld (i := i) 1 (by decide) hx hb hX hbl hbA hS (lv_at hl 4 rfl) (lv_at hl 0 rfl) (by omega) hL dL_law_169 dL_law_170 dL_law_172 dL_law_173 dL_law_174 ?_
    refine la_ld (i := i) 2 (by decide) hx hb hX hbl hbA hS (lv_at hl 4 rfl) (lv_at hl 0 rfl) (by omega) hL dL_law_175 dL_law_176 dL_law_178 dL_law_179 dL_law_180 ?_
    refine kw_SX 3 [0, 1, 2, 3, 4, 5, 6] [7, 8, 9, 10, 11, 12, 13, 14] (As := [.ref (q 0), .int (xs (i + 1)), .int (xs (i + 2))]) (rest := []) (wc := xW cI cZ q A B T P Y G) (wr := mW cJ cI cZ r (e9) A B T P Y G ++ [(ob, .inl (cJ, 1, .inr (.inl V)))]) (w1 := xW cI cZ q A B T P Y G) hx hb hml hown hts hl.1 hP hD hS hA (hK.sub (tys' := tsX cI cZ) [0, 1] rfl) hB hH (mL_number_n l hst D cI cZ q A B T P Y G _ (xs (i + 1)) (xs (i + 2)) h2) w_170 w_171 w_13 w_172 (by decide) ⟨rfl, rfl⟩ ⟨Nat.le_of_ble_eq_true rfl, Nat.le_of_ble_eq_true rfl⟩ rfl rfl (Nat.le_of_ble_eq_true rfl) dL_law_181 ⟨hc, hs⟩ rfl rfl ⟨by decide, by decide⟩ (by decide) (fun H locs hP hD hS => ?_)
    have hP : va_P D vwCl (lW cI cZ cJ q r ob A B T P Y G (e9) A B T P Y G V) H := hP.sub [8, 9, 10, 11, 12, 13, 14, 0, 1, 2, 3, 4, 5, 6, 7] rfl
    have hD : va_D (fun z => s.heap.size ≤ z) (lW cI cZ cJ q r ob A B T P Y G (e9) A B T P Y G V) := hD.sub [8, 9, 10, 11, 12, 13, 14, 0, 1, 2, 3, 4, 5, 6, 7] (by decide) rfl
    refine W.eq (g2 := F0 m 184 ls [.int (1)]) rfl ?_
    refine lv_istore hx hb dL_law_184 hl (by decide) rfl (fun ls hl => ?_)
    have hl : lv_has ls 7 [(5, .int (1)), (4, .int (nI i)), (3, .ref (ob)), (2, .ref (r 0)), (1, .ref (q 0)), (0, .ref (b))] := hl
    refine lv_aload_n hx hb dL_law_186 rfl (lv_at hl 3 rfl) ?_
    refine la_ld (i := i) 1 (by decide) hx hb hX hbl hbA hS (lv_at hl 5 rfl) (lv_at hl 1 rfl) (by omega) hL dL_law_187 dL_law_188 dL_law_190 dL_law_191 dL_law_192 ?_
    refine la_ld (i := i) 2 (by decide) hx hb hX hbl hbA hS (lv_at hl 5 rfl) (lv_at hl 1 rfl) (by omega) hL dL_law_193 dL_law_194 dL_law_196 dL_law_197 dL_law_198 ?_
    refine kw_V 2 [7, 8, 9, 10, 11, 12, 13] [0, 1, 2, 3, 4, 5, 6, 14] (b := r 0) (As := [.int (xs (i + 1)), .int (xs (i + 2))]) (rest := []) (wc := mW cJ cI cZ r (e9) A B T P Y G) (wr := xW cI cZ q A B T P Y G ++ [(ob, .inl (cJ, 1, .inr (.inl V)))]) (w1 := mW cJ cI cZ r (1) A B T P Y G) hx hb hml hown hts hl.1 hP hD hS hA (hK.sub (tys' := tsM cJ cI cZ) [2, 0, 1] rfl) (mM_number_n l D cJ cI cZ r (e9) A B T P Y G _ (xs (i + 1)) (xs (i + 2)) h2) (gw_V w_306 w_307 w_308 w_15 w_309) (by decide) ⟨rfl, rfl⟩ ⟨Nat.le_of_ble_eq_true rfl, Nat.le_of_ble_eq_true rfl⟩ (va_recv hK hP (ci := 1) rfl (q0 := 7) rfl) rfl rfl (Nat.le_of_ble_eq_true rfl) dL_law_199 ⟨hc, hs⟩ rfl rfl ⟨by decide, by decide⟩ (by decide) (fun H locs hP hD hS => ?_)
    have hP : va_P D vwCl (lW cI cZ cJ q r ob A B T P Y G (1) A B T P Y G V) H := hP.sub [0, 1, 2, 3, 4, 5, 6, 8, 9, 10, 11, 12, 13, 14, 7] rfl
    have hD : va_D (fun z => s.heap.size ≤ z) (lW cI cZ cJ q r ob A B T P Y G (1) A B T P Y G V) := hD.sub [0, 1, 2, 3, 4, 5, 6, 8, 9, 10, 11, 12, 13, 14, 7] (by decide) rfl
    refine W.eq (g2 := F0 m 202 ls []) rfl ?_
    refine lv_aload_n hx hb dL_law_202 rfl (lv_at hl 3 rfl) ?_
    refine kr_V 0 (b := r 0) (As := []) (rest := []) (r := .int (1)) hx hb hml hown hts hl.1 (mM_thrown l D cJ cI cZ r (1) A B T P Y G) rB_stb ⟨hP.sub (ws' := mW cJ cI cZ r (1) A B T P Y G) [7, 8, 9, 10, 11, 12, 13] rfl, hK.sub (tys' := tsM cJ cI cZ) [2, 0, 1] rfl⟩ (gw_V w_278 w_279 w_280 w_15 w_281) (by decide) ⟨rfl, rfl⟩ ⟨Nat.le_of_ble_eq_true rfl, Nat.le_of_ble_eq_true rfl⟩ (va_recv hK hP (ci := 1) rfl (q0 := 7) rfl) rfl rfl (Nat.le_of_ble_eq_true rfl) dL_law_203 ⟨hc, hs⟩ ?_
    refine W.eq (g2 := F0 m 206 ls [.int (1)]) rfl ?_
    refine lv_iload hx hb dL_law_206 (lv_at hl 0 rfl) ?_
    refine lv_icmp_eq (tgt := 213) hx hb dL_law_208 (by decide) (fun h_2 => ?_) (fun h_2 => absurd (by decide) h_2)
    refine lv_goto (tgt := 882) hx hb dL_law_213 (by decide) ?_
    exact K _ _ _ _ _ _ _ _ hg _ _ _ hP hD hS (lv_sub hl [1, 2, 3, 4, 5] rfl)

set_option maxRecDepth 100000 in
set_option maxHeartbeats 4000000 in
theorem lc_move {p : Program} {l : Launch} {e : Env} {s : State} {m : MethodId} {below : List Frame} {meth : Method} {c : Code} {b L : Nat} {xs : Nat → Int32} {D : va_G} {cI cZ cJ : ClassId} {q r : Nat → Nat} {ob : Nat} (C : lC p l s m meth c b L xs D cI cZ cJ) {i cells slots : Nat} (hi : i + 5 ≤ L) (hc : cells + 1 ≤ 1044) (hs : slots + 6 ≤ 8428) {A B T P Y : Nat → Int32} {G : Nat → Bool} {V : Nat → Int64} {e9 : Int32} (hg : gd P Y) (K : ∀ (A B T P Y : Nat → Int32) (G : Nat → Bool) (V : Nat → Int64) (e9 : Int32), gd P Y → lS p l e s m below meth c b D cI cZ cJ q r ob i (cells + 1) (slots + 6) 882 A B T P Y G V e9) : lS p l e s m below meth c b D cI cZ cJ q r ob i cells slots 216 A B T P Y G V e9 := by
  obtain ⟨hx, hb, hr, hml, hown, hts, hX, hbl, hlocks, hst, hB, hK, hL⟩ := C
  intro H locs ls hP hD hS hl
  have hA : ∀ z : Nat, s.heap.size ≤ z → s.heap.size ≤ z := fun z h => h
  have hbA : ¬ s.heap.size ≤ b := Nat.not_le.mpr hbl
  have hH : ∀ z : Nat, z < s.heap.size → H[z]? = s.heap[z]? := fun z hz => hS.2.1 z hz (Nat.not_le.mpr hz)
  by_cases h2 : vp_in (xs (i + 1)) 16 ∧ vp_in (xs (i + 2)) 16
  · refine lv_aload_n hx hb dL_law_216 rfl (lv_at hl 3 rfl) ?_
    refine la_ld (i := i) 1 (by decide) hx hb hX hbl hbA hS (lv_at hl 4 rfl) (lv_at hl 0 rfl) (by omega) hL dL_law_217 dL_law_218 dL_law_220 dL_law_221 dL_law_222 ?_
    refine la_ld (i := i) 2 (by decide) hx hb hX hbl hbA hS (lv_at hl 4 rfl) (lv_at hl 0 rfl) (by omega) hL dL_law_223 dL_law_224 dL_law_226 dL_law_227 dL_law_228 ?_
    refine la_ld (i := i) 3 (by decide) hx hb hX hbl hbA hS (lv_at hl 4 rfl) (lv_at hl 0 rfl) (by omega) hL dL_law_229 dL_law_230 dL_law_232 dL_law_233 dL_law_234 ?_
    refine kw_SX 4 [0, 1, 2, 3, 4, 5, 6] [7, 8, 9, 10, 11, 12, 13, 14] (As := [.ref (q 0), .int (xs (i + 1)), .int (xs (i + 2)), .int (xs (i + 3))]) (rest := []) (wc := xW cI cZ q A B T P Y G) (wr := mW cJ cI cZ r (e9) A B T P Y G ++ [(ob, .inl (cJ, 1, .inr (.inl V)))]) (w1 := xW cI cZ q (upd A (xs (i + 1)).toNatClampNeg ((A (xs (i + 2)).toNatClampNeg) + ((xs (i + 3))))) (upd B (xs (i + 1)).toNatClampNeg (B (xs (i + 2)).toNatClampNeg)) (upd T (xs (i + 1)).toNatClampNeg (T (xs (i + 2)).toNatClampNeg)) (upd P (xs (i + 1)).toNatClampNeg (P (xs (i + 2)).toNatClampNeg)) (upd Y (xs (i + 1)).toNatClampNeg (Y (xs (i + 2)).toNatClampNeg)) (ub G (xs (i + 1)).toNatClampNeg ((G (xs (i + 2)).toNatClampNeg && (decide (Y (xs (i + 2)).toNatClampNeg = 0) || decide ((xs (i + 3)) = 0)))))) hx hb hml hown hts hl.1 hP hD hS hA (hK.sub (tys' := tsX cI cZ) [0, 1] rfl) hB hH (mL_move_y l hst D cI cZ q A B T P Y G _ (xs (i + 1)) (xs (i + 2)) (xs (i + 3)) h2.1 h2.2) w_177 w_178 w_13 w_179 (by decide) ⟨rfl, rfl⟩ ⟨Nat.le_of_ble_eq_true rfl, Nat.le_of_ble_eq_true rfl⟩ rfl rfl (Nat.le_of_ble_eq_true rfl) dL_law_235 ⟨hc, hs⟩ rfl rfl ⟨by decide, by decide⟩ (by decide) (fun H locs hP hD hS => ?_)
    have hP : va_P D vwCl (lW cI cZ cJ q r ob (upd A (xs (i + 1)).toNatClampNeg ((A (xs (i + 2)).toNatClampNeg) + ((xs (i + 3))))) (upd B (xs (i + 1)).toNatClampNeg (B (xs (i + 2)).toNatClampNeg)) (upd T (xs (i + 1)).toNatClampNeg (T (xs (i + 2)).toNatClampNeg)) (upd P (xs (i + 1)).toNatClampNeg (P (xs (i + 2)).toNatClampNeg)) (upd Y (xs (i + 1)).toNatClampNeg (Y (xs (i + 2)).toNatClampNeg)) (ub G (xs (i + 1)).toNatClampNeg ((G (xs (i + 2)).toNatClampNeg && (decide (Y (xs (i + 2)).toNatClampNeg = 0) || decide ((xs (i + 3)) = 0))))) (e9) A B T P Y G V) H := hP.sub [8, 9, 10, 11, 12, 13, 14, 0, 1, 2, 3, 4, 5, 6, 7] rfl
    have hD : va_D (fun z => s.heap.size ≤ z) (lW cI cZ cJ q r ob (upd A (xs (i + 1)).toNatClampNeg ((A (xs (i + 2)).toNatClampNeg) + ((xs (i + 3))))) (upd B (xs (i + 1)).toNatClampNeg (B (xs (i + 2)).toNatClampNeg)) (upd T (xs (i + 1)).toNatClampNeg (T (xs (i + 2)).toNatClampNeg)) (upd P (xs (i + 1)).toNatClampNeg (P (xs (i + 2)).toNatClampNeg)) (upd Y (xs (i + 1)).toNatClampNeg (Y (xs (i + 2)).toNatClampNeg)) (ub G (xs (i + 1)).toNatClampNeg ((G (xs (i + 2)).toNatClampNeg && (decide (Y (xs (i + 2)).toNatClampNeg = 0) || decide ((xs (i + 3)) = 0))))) (e9) A B T P Y G V) := hD.sub [8, 9, 10, 11, 12, 13, 14, 0, 1, 2, 3, 4, 5, 6, 7] (by decide) rfl
    refine W.eq (g2 := F0 m 238 ls [.int (0)]) rfl ?_
    refine lv_istore hx hb dL_law_238 hl (by decide) rfl (fun ls hl => ?_)
    have hl : lv_has ls 7 [(5, .int (0)), (4, .int (nI i)), (3, .ref (ob)), (2, .ref (r 0)), (1, .ref (q 0)), (0, .ref (b))] := hl
    refine lv_aload_n hx hb dL_law_240 rfl (lv_at hl 3 rfl) ?_
    refine la_ld (i := i) 1 (by decide) hx hb hX hbl hbA hS (lv_at hl 5 rfl) (lv_at hl 1 rfl) (by omega) hL dL_law_241 dL_law_242 dL_law_244 dL_law_245 dL_law_246 ?_
    refine la_ld (i := i) 2 (by decide) hx hb hX hbl hbA hS (lv_at hl 5 rfl) (lv_at hl 1 rfl) (by omega) hL dL_law_247 dL_law_248 dL_law_250 dL_law_251 dL_law_252 ?_
    refine la_ld (i := i) 3 (by decide) hx hb hX hbl hbA hS (lv_at hl 5 rfl) (lv_at hl 1 rfl) (by omega) hL dL_law_253 dL_law_254 dL_law_256 dL_law_257 dL_law_258 ?_
    refine kw_V 3 [7, 8, 9, 10, 11, 12, 13] [0, 1, 2, 3, 4, 5, 6, 14] (b := r 0) (As := [.int (xs (i + 1)), .int (xs (i + 2)), .int (xs (i + 3))]) (rest := []) (wc := mW cJ cI cZ r (e9) A B T P Y G) (wr := xW cI cZ q (upd A (xs (i + 1)).toNatClampNeg ((A (xs (i + 2)).toNatClampNeg) + ((xs (i + 3))))) (upd B (xs (i + 1)).toNatClampNeg (B (xs (i + 2)).toNatClampNeg)) (upd T (xs (i + 1)).toNatClampNeg (T (xs (i + 2)).toNatClampNeg)) (upd P (xs (i + 1)).toNatClampNeg (P (xs (i + 2)).toNatClampNeg)) (upd Y (xs (i + 1)).toNatClampNeg (Y (xs (i + 2)).toNatClampNeg)) (ub G (xs (i + 1)).toNatClampNeg ((G (xs (i + 2)).toNatClampNeg && (decide (Y (xs (i + 2)).toNatClampNeg = 0) || decide ((xs (i + 3)) = 0))))) ++ [(ob, .inl (cJ, 1, .inr (.inl V)))]) (w1 := mW cJ cI cZ r (0) (upd A (xs (i + 1)).toNatClampNeg ((A (xs (i + 2)).toNatClampNeg) + ((xs (i + 3))))) (upd B (xs (i + 1)).toNatClampNeg (B (xs (i + 2)).toNatClampNeg)) (upd T (xs (i + 1)).toNatClampNeg (T (xs (i + 2)).toNatClampNeg)) (upd P (xs (i + 1)).toNatClampNeg (P (xs (i + 2)).toNatClampNeg)) (upd Y (xs (i + 1)).toNatClampNeg (Y (xs (i + 2)).toNatClampNeg)) (ub G (xs (i + 1)).toNatClampNeg ((G (xs (i + 2)).toNatClampNeg && (decide (Y (xs (i + 2)).toNatClampNeg = 0) || decide ((xs (i + 3)) = 0)))))) hx hb hml hown hts hl.1 hP hD hS hA (hK.sub (tys' := tsM cJ cI cZ) [2, 0, 1] rfl) (mM_move_y l D cJ cI cZ r (e9) A B T P Y G _ (xs (i + 1)) (xs (i + 2)) (xs (i + 3)) h2.1 h2.2) (gw_V w_310 w_311 w_312 w_15 w_313) (by decide) ⟨rfl, rfl⟩ ⟨Nat.le_of_ble_eq_true rfl, Nat.le_of_ble_eq_true rfl⟩ (va_recv hK hP (ci := 1) rfl (q0 := 7) rfl) rfl rfl (Nat.le_of_ble_eq_true rfl) dL_law_259 ⟨hc, hs⟩ rfl rfl ⟨by decide, by decide⟩ (by decide) (fun H locs hP hD hS => ?_)
    have hP : va_P D vwCl (lW cI cZ cJ q r ob (upd A (xs (i + 1)).toNatClampNeg ((A (xs (i + 2)).toNatClampNeg) + ((xs (i + 3))))) (upd B (xs (i + 1)).toNatClampNeg (B (xs (i + 2)).toNatClampNeg)) (upd T (xs (i + 1)).toNatClampNeg (T (xs (i + 2)).toNatClampNeg)) (upd P (xs (i + 1)).toNatClampNeg (P (xs (i + 2)).toNatClampNeg)) (upd Y (xs (i + 1)).toNatClampNeg (Y (xs (i + 2)).toNatClampNeg)) (ub G (xs (i + 1)).toNatClampNeg ((G (xs (i + 2)).toNatClampNeg && (decide (Y (xs (i + 2)).toNatClampNeg = 0) || decide ((xs (i + 3)) = 0))))) (0) (upd A (xs (i + 1)).toNatClampNeg ((A (xs (i + 2)).toNatClampNeg) + ((xs (i + 3))))) (upd B (xs (i + 1)).toNatClampNeg (B (xs (i + 2)).toNatClampNeg)) (upd T (xs (i + 1)).toNatClampNeg (T (xs (i + 2)).toNatClampNeg)) (upd P (xs (i + 1)).toNatClampNeg (P (xs (i + 2)).toNatClampNeg)) (upd Y (xs (i + 1)).toNatClampNeg (Y (xs (i + 2)).toNatClampNeg)) (ub G (xs (i + 1)).toNatClampNeg ((G (xs (i + 2)).toNatClampNeg && (decide (Y (xs (i + 2)).toNatClampNeg = 0) || decide ((xs (i + 3)) = 0))))) V) H := hP.sub [0, 1, 2, 3, 4, 5, 6, 8, 9, 10, 11, 12, 13, 14, 7] rfl
    have hD : va_D (fun z => s.heap.size ≤ z) (lW cI cZ cJ q r ob (upd A (xs (i + 1)).toNatClampNeg ((A (xs (i + 2)).toNatClampNeg) + ((xs (i + 3))))) (upd B (xs (i + 1)).toNatClampNeg (B (xs (i + 2)).toNatClampNeg)) (upd T (xs (i + 1)).toNatClampNeg (T (xs (i + 2)).toNatClampNeg)) (upd P (xs (i + 1)).toNatClampNeg (P (xs (i + 2)).toNatClampNeg)) (upd Y (xs (i + 1)).toNatClampNeg (Y (xs (i + 2)).toNatClampNeg)) (ub G (xs (i + 1)).toNatClampNeg ((G (xs (i + 2)).toNatClampNeg && (decide (Y (xs (i + 2)).toNatClampNeg = 0) || decide ((xs (i + 3)) = 0))))) (0) (upd A (xs (i + 1)).toNatClampNeg ((A (xs (i + 2)).toNatClampNeg) + ((xs (i + 3))))) (upd B (xs (i + 1)).toNatClampNeg (B (xs (i + 2)).toNatClampNeg)) (upd T (xs (i + 1)).toNatClampNeg (T (xs (i + 2)).toNatClampNeg)) (upd P (xs (i + 1)).toNatClampNeg (P (xs (i + 2)).toNatClampNeg)) (upd Y (xs (i + 1)).toNatClampNeg (Y (xs (i + 2)).toNatClampNeg)) (ub G (xs (i + 1)).toNatClampNeg ((G (xs (i + 2)).toNatClampNeg && (decide (Y (xs (i + 2)).toNatClampNeg = 0) || decide ((xs (i + 3)) = 0))))) V) := hD.sub [0, 1, 2, 3, 4, 5, 6, 8, 9, 10, 11, 12, 13, 14, 7] (by decide) rfl
    refine W.eq (g2 := F0 m 262 ls []) rfl ?_
    refine lv_aload_n hx hb dL_law_262 rfl (lv_at hl 3 rfl) ?_
    refine kr_V 0 (b := r 0) (As := []) (rest := []) (r := .int (0)) hx hb hml hown hts hl.1 (mM_thrown l D cJ cI cZ r (0) (upd A (xs (i + 1)).toNatClampNeg ((A (xs (i + 2)).toNatClampNeg) + ((xs (i + 3))))) (upd B (xs (i + 1)).toNatClampNeg (B (xs (i + 2)).toNatClampNeg)) (upd T (xs (i + 1)).toNatClampNeg (T (xs (i + 2)).toNatClampNeg)) (upd P (xs (i + 1)).toNatClampNeg (P (xs (i + 2)).toNatClampNeg)) (upd Y (xs (i + 1)).toNatClampNeg (Y (xs (i + 2)).toNatClampNeg)) (ub G (xs (i + 1)).toNatClampNeg ((G (xs (i + 2)).toNatClampNeg && (decide (Y (xs (i + 2)).toNatClampNeg = 0) || decide ((xs (i + 3)) = 0)))))) rB_stb ⟨hP.sub (ws' := mW cJ cI cZ r (0) (upd A (xs (i + 1)).toNatClampNeg ((A (xs (i + 2)).toNatClampNeg) + ((xs (i + 3))))) (upd B (xs (i + 1)).toNatClampNeg (B (xs (i + 2)).toNatClampNeg)) (upd T (xs (i + 1)).toNatClampNeg (T (xs (i + 2)).toNatClampNeg)) (upd P (xs (i + 1)).toNatClampNeg (P (xs (i + 2)).toNatClampNeg)) (upd Y (xs (i + 1)).toNatClampNeg (Y (xs (i + 2)).toNatClampNeg)) (ub G (xs (i + 1)).toNatClampNeg ((G (xs (i + 2)).toNatClampNeg && (decide (Y (xs (i + 2)).toNatClampNeg = 0) || decide ((xs (i + 3)) = 0)))))) [7, 8, 9, 10, 11, 12, 13] rfl, hK.sub (tys' := tsM cJ cI cZ) [2, 0, 1] rfl⟩ (gw_V w_278 w_279 w_280 w_15 w_281) (by decide) ⟨rfl, rfl⟩ ⟨Nat.le_of_ble_eq_true rfl, Nat.le_of_ble_eq_true rfl⟩ (va_recv hK hP (ci := 1) rfl (q0 := 7) rfl) rfl rfl (Nat.le_of_ble_eq_true rfl) dL_law_263 ⟨hc, hs⟩ ?_
    refine W.eq (g2 := F0 m 266 ls [.int (0)]) rfl ?_
    refine lv_iload hx hb dL_law_266 (lv_at hl 0 rfl) ?_
    refine lv_icmp_eq (tgt := 273) hx hb dL_law_268 (by decide) (fun h_1 => ?_) (fun h_1 => absurd (by decide) h_1)
    refine lv_goto (tgt := 882) hx hb dL_law_273 (by decide) ?_
    exact K _ _ _ _ _ _ _ _ (gd_upd hg (hg (xs (i + 2)).toNatClampNeg (in_cl h2.2)).1 (hg (xs (i + 2)).toNatClampNeg (in_cl h2.2)).2) _ _ _ hP hD hS (lv_sub hl [1, 2, 3, 4, 5] rfl)
  · refine lv_aload_n hx hb dL_law_216 rfl (lv_at hl 3 rfl) ?_
    refine la_ld (i := i) 1 (by decide) hx hb hX hbl hbA hS (lv_at hl 4 rfl) (lv_at hl 0 rfl) (by omega) hL dL_law_217 dL_law_218 dL_law_220 dL_law_221 dL_law_222 ?_
    refine la_ld (i := i) 2 (by decide) hx hb hX hbl hbA hS (lv_at hl 4 rfl) (lv_at hl 0 rfl) (by omega) hL dL_law_223 dL_law_224 dL_law_226 dL_law_227 dL_law_228 ?_
    refine la_ld (i := i) 3 (by decide) hx hb hX hbl hbA hS (lv_at hl 4 rfl) (lv_at hl 0 rfl) (by omega) hL dL_law_229 dL_law_230 dL_law_232 dL_law_233 dL_law_234 ?_
    refine kw_SX 4 [0, 1, 2, 3, 4, 5, 6] [7, 8, 9, 10, 11, 12, 13, 14] (As := [.ref (q 0), .int (xs (i + 1)), .int (xs (i + 2)), .int (xs (i + 3))]) (rest := []) (wc := xW cI cZ q A B T P Y G) (wr := mW cJ cI cZ r (e9) A B T P Y G ++ [(ob, .inl (cJ, 1, .inr (.inl V)))]) (w1 := xW cI cZ q A B T P Y G) hx hb hml hown hts hl.1 hP hD hS hA (hK.sub (tys' := tsX cI cZ) [0, 1] rfl) hB hH (mL_move_n l hst D cI cZ q A B T P Y G _ (xs (i + 1)) (xs (i + 2)) (xs (i + 3)) h2) w_177 w_178 w_13 w_179 (by decide) ⟨rfl, rfl⟩ ⟨Nat.le_of_ble_eq_true rfl, Nat.le_of_ble_eq_true rfl⟩ rfl rfl (Nat.le_of_ble_eq_true rfl) dL_law_235 ⟨hc, hs⟩ rfl rfl ⟨by decide, by decide⟩ (by decide) (fun H locs hP hD hS => ?_)
    have hP : va_P D vwCl (lW cI cZ cJ q r ob A B T P Y G (e9) A B T P Y G V) H := hP.sub [8, 9, 10, 11, 12, 13, 14, 0, 1, 2, 3, 4, 5, 6, 7] rfl
    have hD : va_D (fun z => s.heap.size ≤ z) (lW cI cZ cJ q r ob A B T P Y G (e9) A B T P Y G V) := hD.sub [8, 9, 10, 11, 12, 13, 14, 0, 1, 2, 3, 4, 5, 6, 7] (by decide) rfl
    refine W.eq (g2 := F0 m 238 ls [.int (1)]) rfl ?_
    refine lv_istore hx hb dL_law_238 hl (by decide) rfl (fun ls hl => ?_)
    have hl : lv_has ls 7 [(5, .int (1)), (4, .int (nI i)), (3, .ref (ob)), (2, .ref (r 0)), (1, .ref (q 0)), (0, .ref (b))] := hl
    refine lv_aload_n hx hb dL_law_240 rfl (lv_at hl 3 rfl) ?_
    refine la_ld (i := i) 1 (by decide) hx hb hX hbl hbA hS (lv_at hl 5 rfl) (lv_at hl 1 rfl) (by omega) hL dL_law_241 dL_law_242 dL_law_244 dL_law_245 dL_law_246 ?_
    refine la_ld (i := i) 2 (by decide) hx hb hX hbl hbA hS (lv_at hl 5 rfl) (lv_at hl 1 rfl) (by omega) hL dL_law_247 dL_law_248 dL_law_250 dL_law_251 dL_law_252 ?_
    refine la_ld (i := i) 3 (by decide) hx hb hX hbl hbA hS (lv_at hl 5 rfl) (lv_at hl 1 rfl) (by omega) hL dL_law_253 dL_law_254 dL_law_256 dL_law_257 dL_law_258 ?_
    refine kw_V 3 [7, 8, 9, 10, 11, 12, 13] [0, 1, 2, 3, 4, 5, 6, 14] (b := r 0) (As := [.int (xs (i + 1)), .int (xs (i + 2)), .int (xs (i + 3))]) (rest := []) (wc := mW cJ cI cZ r (e9) A B T P Y G) (wr := xW cI cZ q A B T P Y G ++ [(ob, .inl (cJ, 1, .inr (.inl V)))]) (w1 := mW cJ cI cZ r (1) A B T P Y G) hx hb hml hown hts hl.1 hP hD hS hA (hK.sub (tys' := tsM cJ cI cZ) [2, 0, 1] rfl) (mM_move_n l D cJ cI cZ r (e9) A B T P Y G _ (xs (i + 1)) (xs (i + 2)) (xs (i + 3)) h2) (gw_V w_310 w_311 w_312 w_15 w_313) (by decide) ⟨rfl, rfl⟩ ⟨Nat.le_of_ble_eq_true rfl, Nat.le_of_ble_eq_true rfl⟩ (va_recv hK hP (ci := 1) rfl (q0 := 7) rfl) rfl rfl (Nat.le_of_ble_eq_true rfl) dL_law_259 ⟨hc, hs⟩ rfl rfl ⟨by decide, by decide⟩ (by decide) (fun H locs hP hD hS => ?_)
    have hP : va_P D vwCl (lW cI cZ cJ q r ob A B T P Y G (1) A B T P Y G V) H := hP.sub [0, 1, 2, 3, 4, 5, 6, 8, 9, 10, 11, 12, 13, 14, 7] rfl
    have hD : va_D (fun z => s.heap.size ≤ z) (lW cI cZ cJ q r ob A B T P Y G (1) A B T P Y G V) := hD.sub [0, 1, 2, 3, 4, 5, 6, 8, 9, 10, 11, 12, 13, 14, 7] (by decide) rfl
    refine W.eq (g2 := F0 m 262 ls []) rfl ?_
    refine lv_aload_n hx hb dL_law_262 rfl (lv_at hl 3 rfl) ?_
    refine kr_V 0 (b := r 0) (As := []) (rest := []) (r := .int (1)) hx hb hml hown hts hl.1 (mM_thrown l D cJ cI cZ r (1) A B T P Y G) rB_stb ⟨hP.sub (ws' := mW cJ cI cZ r (1) A B T P Y G) [7, 8, 9, 10, 11, 12, 13] rfl, hK.sub (tys' := tsM cJ cI cZ) [2, 0, 1] rfl⟩ (gw_V w_278 w_279 w_280 w_15 w_281) (by decide) ⟨rfl, rfl⟩ ⟨Nat.le_of_ble_eq_true rfl, Nat.le_of_ble_eq_true rfl⟩ (va_recv hK hP (ci := 1) rfl (q0 := 7) rfl) rfl rfl (Nat.le_of_ble_eq_true rfl) dL_law_263 ⟨hc, hs⟩ ?_
    refine W.eq (g2 := F0 m 266 ls [.int (1)]) rfl ?_
    refine lv_iload hx hb dL_law_266 (lv_at hl 0 rfl) ?_
    refine lv_icmp_eq (tgt := 273) hx hb dL_law_268 (by decide) (fun h_2 => ?_) (fun h_2 => absurd (by decide) h_2)
    refine lv_goto (tgt := 882) hx hb dL_law_273 (by decide) ?_
    exact K _ _ _ _ _ _ _ _ hg _ _ _ hP hD hS (lv_sub hl [1, 2, 3, 4, 5] rfl)

set_option maxRecDepth 100000 in
set_option maxHeartbeats 4000000 in
theorem lc_narrow {p : Program} {l : Launch} {e : Env} {s : State} {m : MethodId} {below : List Frame} {meth : Method} {c : Code} {b L : Nat} {xs : Nat → Int32} {D : va_G} {cI cZ cJ : ClassId} {q r : Nat → Nat} {ob : Nat} (C : lC p l s m meth c b L xs D cI cZ cJ) {i cells slots : Nat} (hi : i + 5 ≤ L) (hc : cells + 1 ≤ 1044) (hs : slots + 6 ≤ 8428) {A B T P Y : Nat → Int32} {G : Nat → Bool} {V : Nat → Int64} {e9 : Int32} (hg : gd P Y) (K : ∀ (A B T P Y : Nat → Int32) (G : Nat → Bool) (V : Nat → Int64) (e9 : Int32), gd P Y → lS p l e s m below meth c b D cI cZ cJ q r ob i (cells + 1) (slots + 6) 882 A B T P Y G V e9) : lS p l e s m below meth c b D cI cZ cJ q r ob i cells slots 276 A B T P Y G V e9 := by
  obtain ⟨hx, hb, hr, hml, hown, hts, hX, hbl, hlocks, hst, hB, hK, hL⟩ := C
  intro H locs ls hP hD hS hl
  have hA : ∀ z : Nat, s.heap.size ≤ z → s.heap.size ≤ z := fun z h => h
  have hbA : ¬ s.heap.size ≤ b := Nat.not_le.mpr hbl
  have hH : ∀ z : Nat, z < s.heap.size → H[z]? = s.heap[z]? := fun z hz => hS.2.1 z hz (Nat.not_le.mpr hz)
  by_cases h2 : vp_in (xs (i + 1)) 16 ∧ vp_in (xs (i + 2)) 16
  · refine lv_aload_n hx hb dL_law_276 rfl (lv_at hl 3 rfl) ?_
    refine la_ld (i := i) 1 (by decide) hx hb hX hbl hbA hS (lv_at hl 4 rfl) (lv_at hl 0 rfl) (by omega) hL dL_law_277 dL_law_278 dL_law_280 dL_law_281 dL_law_282 ?_
    refine la_ld (i := i) 2 (by decide) hx hb hX hbl hbA hS (lv_at hl 4 rfl) (lv_at hl 0 rfl) (by omega) hL dL_law_283 dL_law_284 dL_law_286 dL_law_287 dL_law_288 ?_
    refine la_ld (i := i) 3 (by decide) hx hb hX hbl hbA hS (lv_at hl 4 rfl) (lv_at hl 0 rfl) (by omega) hL dL_law_289 dL_law_290 dL_law_292 dL_law_293 dL_law_294 ?_
    refine lv_aload_n hx hb dL_law_295 rfl (lv_at hl 1 rfl) ?_
    refine kw_SX 5 [0, 1, 2, 3, 4, 5, 6, 14] [7, 8, 9, 10, 11, 12, 13] (As := [.ref (q 0), .int (xs (i + 1)), .int (xs (i + 2)), .int (xs (i + 3)), .ref (ob)]) (rest := []) (wc := oW cI cZ cJ q ob A B T P Y G V) (wr := mW cJ cI cZ r (e9) A B T P Y G) (w1 := oW cI cZ cJ q ob (upd A (xs (i + 1)).toNatClampNeg (A (xs (i + 2)).toNatClampNeg)) (upd B (xs (i + 1)).toNatClampNeg (A (xs (i + 2)).toNatClampNeg)) (upd T (xs (i + 1)).toNatClampNeg ((A (xs (i + 2)).toNatClampNeg) + ((xs (i + 3))))) (upd P (xs (i + 1)).toNatClampNeg (P (xs (i + 2)).toNatClampNeg)) (upd Y (xs (i + 1)).toNatClampNeg (Y (xs (i + 2)).toNatClampNeg)) (ub G (xs (i + 1)).toNatClampNeg ((G (xs (i + 2)).toNatClampNeg && (decide (Y (xs (i + 2)).toNatClampNeg = 0) && ga_in (B (xs (i + 2)).toNatClampNeg) (T (xs (i + 2)).toNatClampNeg) (A (xs (i + 2)).toNatClampNeg) (un (xs (i + 3))))))) (vp_updL V 0 (bl (G (xs (i + 2)).toNatClampNeg && (decide (Y (xs (i + 2)).toNatClampNeg = 0) && ga_in (B (xs (i + 2)).toNatClampNeg) (T (xs (i + 2)).toNatClampNeg) (A (xs (i + 2)).toNatClampNeg) (un (xs (i + 3)))))))) hx hb hml hown hts hl.1 hP hD hS hA hK hB hH (mL_narrow_y l hst D cI cZ cJ q ob A B T P Y G V _ (xs (i + 1)) (xs (i + 2)) (xs (i + 3)) h2.1 h2.2) w_188 w_189 w_13 w_190 (by decide) ⟨rfl, rfl⟩ ⟨Nat.le_of_ble_eq_true rfl, Nat.le_of_ble_eq_true rfl⟩ rfl rfl (Nat.le_of_ble_eq_true rfl) dL_law_296 ⟨hc, hs⟩ rfl rfl ⟨by decide, by decide⟩ (by decide) (fun H locs hP hD hS => ?_)
    have hP : va_P D vwCl (lW cI cZ cJ q r ob (upd A (xs (i + 1)).toNatClampNeg (A (xs (i + 2)).toNatClampNeg)) (upd B (xs (i + 1)).toNatClampNeg (A (xs (i + 2)).toNatClampNeg)) (upd T (xs (i + 1)).toNatClampNeg ((A (xs (i + 2)).toNatClampNeg) + ((xs (i + 3))))) (upd P (xs (i + 1)).toNatClampNeg (P (xs (i + 2)).toNatClampNeg)) (upd Y (xs (i + 1)).toNatClampNeg (Y (xs (i + 2)).toNatClampNeg)) (ub G (xs (i + 1)).toNatClampNeg ((G (xs (i + 2)).toNatClampNeg && (decide (Y (xs (i + 2)).toNatClampNeg = 0) && ga_in (B (xs (i + 2)).toNatClampNeg) (T (xs (i + 2)).toNatClampNeg) (A (xs (i + 2)).toNatClampNeg) (un (xs (i + 3))))))) (e9) A B T P Y G (vp_updL V 0 (bl (G (xs (i + 2)).toNatClampNeg && (decide (Y (xs (i + 2)).toNatClampNeg = 0) && ga_in (B (xs (i + 2)).toNatClampNeg) (T (xs (i + 2)).toNatClampNeg) (A (xs (i + 2)).toNatClampNeg) (un (xs (i + 3)))))))) H := hP.sub [7, 8, 9, 10, 11, 12, 13, 0, 1, 2, 3, 4, 5, 6, 14] rfl
    have hD : va_D (fun z => s.heap.size ≤ z) (lW cI cZ cJ q r ob (upd A (xs (i + 1)).toNatClampNeg (A (xs (i + 2)).toNatClampNeg)) (upd B (xs (i + 1)).toNatClampNeg (A (xs (i + 2)).toNatClampNeg)) (upd T (xs (i + 1)).toNatClampNeg ((A (xs (i + 2)).toNatClampNeg) + ((xs (i + 3))))) (upd P (xs (i + 1)).toNatClampNeg (P (xs (i + 2)).toNatClampNeg)) (upd Y (xs (i + 1)).toNatClampNeg (Y (xs (i + 2)).toNatClampNeg)) (ub G (xs (i + 1)).toNatClampNeg ((G (xs (i + 2)).toNatClampNeg && (decide (Y (xs (i + 2)).toNatClampNeg = 0) && ga_in (B (xs (i + 2)).toNatClampNeg) (T (xs (i + 2)).toNatClampNeg) (A (xs (i + 2)).toNatClampNeg) (un (xs (i + 3))))))) (e9) A B T P Y G (vp_updL V 0 (bl (G (xs (i + 2)).toNatClampNeg && (decide (Y (xs (i + 2)).toNatClampNeg = 0) && ga_in (B (xs (i + 2)).toNatClampNeg) (T (xs (i + 2)).toNatClampNeg) (A (xs (i + 2)).toNatClampNeg) (un (xs (i + 3)))))))) := hD.sub [7, 8, 9, 10, 11, 12, 13, 0, 1, 2, 3, 4, 5, 6, 14] (by decide) rfl
    refine W.eq (g2 := F0 m 299 ls [.int (0)]) rfl ?_
    refine lv_istore hx hb dL_law_299 hl (by decide) rfl (fun ls hl => ?_)
    have hl : lv_has ls 7 [(5, .int (0)), (4, .int (nI i)), (3, .ref (ob)), (2, .ref (r 0)), (1, .ref (q 0)), (0, .ref (b))] := hl
    refine lv_aload_n hx hb dL_law_301 rfl (lv_at hl 3 rfl) ?_
    refine la_ld (i := i) 1 (by decide) hx hb hX hbl hbA hS (lv_at hl 5 rfl) (lv_at hl 1 rfl) (by omega) hL dL_law_302 dL_law_303 dL_law_305 dL_law_306 dL_law_307 ?_
    refine la_ld (i := i) 2 (by decide) hx hb hX hbl hbA hS (lv_at hl 5 rfl) (lv_at hl 1 rfl) (by omega) hL dL_law_308 dL_law_309 dL_law_311 dL_law_312 dL_law_313 ?_
    refine la_ld (i := i) 3 (by decide) hx hb hX hbl hbA hS (lv_at hl 5 rfl) (lv_at hl 1 rfl) (by omega) hL dL_law_314 dL_law_315 dL_law_317 dL_law_318 dL_law_319 ?_
    refine kw_V 3 [7, 8, 9, 10, 11, 12, 13] [0, 1, 2, 3, 4, 5, 6, 14] (b := r 0) (As := [.int (xs (i + 1)), .int (xs (i + 2)), .int (xs (i + 3))]) (rest := []) (wc := mW cJ cI cZ r (e9) A B T P Y G) (wr := xW cI cZ q (upd A (xs (i + 1)).toNatClampNeg (A (xs (i + 2)).toNatClampNeg)) (upd B (xs (i + 1)).toNatClampNeg (A (xs (i + 2)).toNatClampNeg)) (upd T (xs (i + 1)).toNatClampNeg ((A (xs (i + 2)).toNatClampNeg) + ((xs (i + 3))))) (upd P (xs (i + 1)).toNatClampNeg (P (xs (i + 2)).toNatClampNeg)) (upd Y (xs (i + 1)).toNatClampNeg (Y (xs (i + 2)).toNatClampNeg)) (ub G (xs (i + 1)).toNatClampNeg ((G (xs (i + 2)).toNatClampNeg && (decide (Y (xs (i + 2)).toNatClampNeg = 0) && ga_in (B (xs (i + 2)).toNatClampNeg) (T (xs (i + 2)).toNatClampNeg) (A (xs (i + 2)).toNatClampNeg) (un (xs (i + 3))))))) ++ [(ob, .inl (cJ, 1, .inr (.inl (vp_updL V 0 (bl (G (xs (i + 2)).toNatClampNeg && (decide (Y (xs (i + 2)).toNatClampNeg = 0) && ga_in (B (xs (i + 2)).toNatClampNeg) (T (xs (i + 2)).toNatClampNeg) (A (xs (i + 2)).toNatClampNeg) (un (xs (i + 3))))))))))]) (w1 := mW cJ cI cZ r (0) (upd A (xs (i + 1)).toNatClampNeg (A (xs (i + 2)).toNatClampNeg)) (upd B (xs (i + 1)).toNatClampNeg (A (xs (i + 2)).toNatClampNeg)) (upd T (xs (i + 1)).toNatClampNeg ((A (xs (i + 2)).toNatClampNeg) + ((xs (i + 3))))) (upd P (xs (i + 1)).toNatClampNeg (P (xs (i + 2)).toNatClampNeg)) (upd Y (xs (i + 1)).toNatClampNeg (Y (xs (i + 2)).toNatClampNeg)) (ub G (xs (i + 1)).toNatClampNeg ((G (xs (i + 2)).toNatClampNeg && (decide (Y (xs (i + 2)).toNatClampNeg = 0) && ga_in (B (xs (i + 2)).toNatClampNeg) (T (xs (i + 2)).toNatClampNeg) (A (xs (i + 2)).toNatClampNeg) (un (xs (i + 3)))))))) hx hb hml hown hts hl.1 hP hD hS hA (hK.sub (tys' := tsM cJ cI cZ) [2, 0, 1] rfl) (mM_narrow_y l D cJ cI cZ r (e9) A B T P Y G _ (xs (i + 1)) (xs (i + 2)) (xs (i + 3)) h2.1 h2.2) (gw_V w_318 w_319 w_320 w_15 w_321) (by decide) ⟨rfl, rfl⟩ ⟨Nat.le_of_ble_eq_true rfl, Nat.le_of_ble_eq_true rfl⟩ (va_recv hK hP (ci := 1) rfl (q0 := 7) rfl) rfl rfl (Nat.le_of_ble_eq_true rfl) dL_law_320 ⟨hc, hs⟩ rfl rfl ⟨by decide, by decide⟩ (by decide) (fun H locs hP hD hS => ?_)
    have hP : va_P D vwCl (lW cI cZ cJ q r ob (upd A (xs (i + 1)).toNatClampNeg (A (xs (i + 2)).toNatClampNeg)) (upd B (xs (i + 1)).toNatClampNeg (A (xs (i + 2)).toNatClampNeg)) (upd T (xs (i + 1)).toNatClampNeg ((A (xs (i + 2)).toNatClampNeg) + ((xs (i + 3))))) (upd P (xs (i + 1)).toNatClampNeg (P (xs (i + 2)).toNatClampNeg)) (upd Y (xs (i + 1)).toNatClampNeg (Y (xs (i + 2)).toNatClampNeg)) (ub G (xs (i + 1)).toNatClampNeg ((G (xs (i + 2)).toNatClampNeg && (decide (Y (xs (i + 2)).toNatClampNeg = 0) && ga_in (B (xs (i + 2)).toNatClampNeg) (T (xs (i + 2)).toNatClampNeg) (A (xs (i + 2)).toNatClampNeg) (un (xs (i + 3))))))) (0) (upd A (xs (i + 1)).toNatClampNeg (A (xs (i + 2)).toNatClampNeg)) (upd B (xs (i + 1)).toNatClampNeg (A (xs (i + 2)).toNatClampNeg)) (upd T (xs (i + 1)).toNatClampNeg ((A (xs (i + 2)).toNatClampNeg) + ((xs (i + 3))))) (upd P (xs (i + 1)).toNatClampNeg (P (xs (i + 2)).toNatClampNeg)) (upd Y (xs (i + 1)).toNatClampNeg (Y (xs (i + 2)).toNatClampNeg)) (ub G (xs (i + 1)).toNatClampNeg ((G (xs (i + 2)).toNatClampNeg && (decide (Y (xs (i + 2)).toNatClampNeg = 0) && ga_in (B (xs (i + 2)).toNatClampNeg) (T (xs (i + 2)).toNatClampNeg) (A (xs (i + 2)).toNatClampNeg) (un (xs (i + 3))))))) (vp_updL V 0 (bl (G (xs (i + 2)).toNatClampNeg && (decide (Y (xs (i + 2)).toNatClampNeg = 0) && ga_in (B (xs (i + 2)).toNatClampNeg) (T (xs (i + 2)).toNatClampNeg) (A (xs (i + 2)).toNatClampNeg) (un (xs (i + 3)))))))) H := hP.sub [0, 1, 2, 3, 4, 5, 6, 8, 9, 10, 11, 12, 13, 14, 7] rfl
    have hD : va_D (fun z => s.heap.size ≤ z) (lW cI cZ cJ q r ob (upd A (xs (i + 1)).toNatClampNeg (A (xs (i + 2)).toNatClampNeg)) (upd B (xs (i + 1)).toNatClampNeg (A (xs (i + 2)).toNatClampNeg)) (upd T (xs (i + 1)).toNatClampNeg ((A (xs (i + 2)).toNatClampNeg) + ((xs (i + 3))))) (upd P (xs (i + 1)).toNatClampNeg (P (xs (i + 2)).toNatClampNeg)) (upd Y (xs (i + 1)).toNatClampNeg (Y (xs (i + 2)).toNatClampNeg)) (ub G (xs (i + 1)).toNatClampNeg ((G (xs (i + 2)).toNatClampNeg && (decide (Y (xs (i + 2)).toNatClampNeg = 0) && ga_in (B (xs (i + 2)).toNatClampNeg) (T (xs (i + 2)).toNatClampNeg) (A (xs (i + 2)).toNatClampNeg) (un (xs (i + 3))))))) (0) (upd A (xs (i + 1)).toNatClampNeg (A (xs (i + 2)).toNatClampNeg)) (upd B (xs (i + 1)).toNatClampNeg (A (xs (i + 2)).toNatClampNeg)) (upd T (xs (i + 1)).toNatClampNeg ((A (xs (i + 2)).toNatClampNeg) + ((xs (i + 3))))) (upd P (xs (i + 1)).toNatClampNeg (P (xs (i + 2)).toNatClampNeg)) (upd Y (xs (i + 1)).toNatClampNeg (Y (xs (i + 2)).toNatClampNeg)) (ub G (xs (i + 1)).toNatClampNeg ((G (xs (i + 2)).toNatClampNeg && (decide (Y (xs (i + 2)).toNatClampNeg = 0) && ga_in (B (xs (i + 2)).toNatClampNeg) (T (xs (i + 2)).toNatClampNeg) (A (xs (i + 2)).toNatClampNeg) (un (xs (i + 3))))))) (vp_updL V 0 (bl (G (xs (i + 2)).toNatClampNeg && (decide (Y (xs (i + 2)).toNatClampNeg = 0) && ga_in (B (xs (i + 2)).toNatClampNeg) (T (xs (i + 2)).toNatClampNeg) (A (xs (i + 2)).toNatClampNeg) (un (xs (i + 3)))))))) := hD.sub [0, 1, 2, 3, 4, 5, 6, 8, 9, 10, 11, 12, 13, 14, 7] (by decide) rfl
    refine W.eq (g2 := F0 m 323 ls [.int (bi (G (xs (i + 2)).toNatClampNeg && (decide (Y (xs (i + 2)).toNatClampNeg = 0) && ga_in (B (xs (i + 2)).toNatClampNeg) (T (xs (i + 2)).toNatClampNeg) (A (xs (i + 2)).toNatClampNeg) (un (xs (i + 3))))))]) rfl ?_
    refine lv_istore hx hb dL_law_323 hl (by decide) rfl (fun ls hl => ?_)
    have hl : lv_has ls 7 [(6, .int (bi (G (xs (i + 2)).toNatClampNeg && (decide (Y (xs (i + 2)).toNatClampNeg = 0) && ga_in (B (xs (i + 2)).toNatClampNeg) (T (xs (i + 2)).toNatClampNeg) (A (xs (i + 2)).toNatClampNeg) (un (xs (i + 3))))))), (5, .int (0)), (4, .int (nI i)), (3, .ref (ob)), (2, .ref (r 0)), (1, .ref (q 0)), (0, .ref (b))] := hl
    refine lv_aload_n hx hb dL_law_325 rfl (lv_at hl 4 rfl) ?_
    refine kr_V 0 (b := r 0) (As := []) (rest := []) (r := .int (0)) hx hb hml hown hts hl.1 (mM_thrown l D cJ cI cZ r (0) (upd A (xs (i + 1)).toNatClampNeg (A (xs (i + 2)).toNatClampNeg)) (upd B (xs (i + 1)).toNatClampNeg (A (xs (i + 2)).toNatClampNeg)) (upd T (xs (i + 1)).toNatClampNeg ((A (xs (i + 2)).toNatClampNeg) + ((xs (i + 3))))) (upd P (xs (i + 1)).toNatClampNeg (P (xs (i + 2)).toNatClampNeg)) (upd Y (xs (i + 1)).toNatClampNeg (Y (xs (i + 2)).toNatClampNeg)) (ub G (xs (i + 1)).toNatClampNeg ((G (xs (i + 2)).toNatClampNeg && (decide (Y (xs (i + 2)).toNatClampNeg = 0) && ga_in (B (xs (i + 2)).toNatClampNeg) (T (xs (i + 2)).toNatClampNeg) (A (xs (i + 2)).toNatClampNeg) (un (xs (i + 3)))))))) rB_stb ⟨hP.sub (ws' := mW cJ cI cZ r (0) (upd A (xs (i + 1)).toNatClampNeg (A (xs (i + 2)).toNatClampNeg)) (upd B (xs (i + 1)).toNatClampNeg (A (xs (i + 2)).toNatClampNeg)) (upd T (xs (i + 1)).toNatClampNeg ((A (xs (i + 2)).toNatClampNeg) + ((xs (i + 3))))) (upd P (xs (i + 1)).toNatClampNeg (P (xs (i + 2)).toNatClampNeg)) (upd Y (xs (i + 1)).toNatClampNeg (Y (xs (i + 2)).toNatClampNeg)) (ub G (xs (i + 1)).toNatClampNeg ((G (xs (i + 2)).toNatClampNeg && (decide (Y (xs (i + 2)).toNatClampNeg = 0) && ga_in (B (xs (i + 2)).toNatClampNeg) (T (xs (i + 2)).toNatClampNeg) (A (xs (i + 2)).toNatClampNeg) (un (xs (i + 3)))))))) [7, 8, 9, 10, 11, 12, 13] rfl, hK.sub (tys' := tsM cJ cI cZ) [2, 0, 1] rfl⟩ (gw_V w_278 w_279 w_280 w_15 w_281) (by decide) ⟨rfl, rfl⟩ ⟨Nat.le_of_ble_eq_true rfl, Nat.le_of_ble_eq_true rfl⟩ (va_recv hK hP (ci := 1) rfl (q0 := 7) rfl) rfl rfl (Nat.le_of_ble_eq_true rfl) dL_law_326 ⟨hc, hs⟩ ?_
    refine W.eq (g2 := F0 m 329 ls [.int (0)]) rfl ?_
    refine lv_iload hx hb dL_law_329 (lv_at hl 1 rfl) ?_
    refine lv_icmp_eq (tgt := 336) hx hb dL_law_331 (by decide) (fun h_1 => ?_) (fun h_1 => absurd (by decide) h_1)
    refine lv_iload hx hb dL_law_336 (lv_at hl 1 rfl) ?_
    refine lv_if_ne (tgt := 360) hx hb dL_law_338 (by decide) (fun h_2 => absurd (by decide) h_2) (fun h_2 => ?_)
    refine lv_aload_n hx hb dL_law_341 rfl (lv_at hl 3 rfl) ?_
    refine lv_iconst (v := 0) hx hb dL_law_342 (by decide) ?_
    refine va_lald hx hb hK hP 14 2 rfl rfl in01 dL_law_343 ?_
    refine W.eq (g2 := F0 m 344 ls [.long (bl (G (xs (i + 2)).toNatClampNeg && (decide (Y (xs (i + 2)).toNatClampNeg = 0) && ga_in (B (xs (i + 2)).toNatClampNeg) (T (xs (i + 2)).toNatClampNeg) (A (xs (i + 2)).toNatClampNeg) (un (xs (i + 3))))))]) (by rw [show (0 : Int32).toNatClampNeg = 0 from rfl, pk_uLs] <;> rfl) ?_
    refine lv_iload hx hb dL_law_344 (lv_at hl 0 rfl) ?_
    refine lv_if_eq (tgt := 353) hx hb dL_law_346 (by decide) (fun h_3 => ?_) (fun h_3 => ?_)
    · have h_3 := bi_0 h_3
      refine lv_lconst (v := 0) hx hb dL_law_353 (by decide) ?_
      refine W.lcmp hx hb dL_law_354 ?_
      refine lv_if_eq (tgt := 360) hx hb dL_law_355 (by decide) (fun h_4 => ?_) (fun h_4 => absurd ((lg_cmp_eq _ _).mpr (by rw [h_3]; rfl)) h_4)
      refine lv_goto (tgt := 882) hx hb dL_law_360 (by decide) ?_
      exact K _ _ _ _ _ _ _ _ (gd_upd hg (hg (xs (i + 2)).toNatClampNeg (in_cl h2.2)).1 (hg (xs (i + 2)).toNatClampNeg (in_cl h2.2)).2) _ _ _ hP hD hS (lv_sub hl [2, 3, 4, 5, 6] rfl)
    · have h_3 := bi_n h_3
      refine lv_lconst (v := 1) hx hb dL_law_349 (by decide) ?_
      refine lv_goto (tgt := 354) hx hb dL_law_350 (by decide) ?_
      refine W.lcmp hx hb dL_law_354 ?_
      refine lv_if_eq (tgt := 360) hx hb dL_law_355 (by decide) (fun h_5 => ?_) (fun h_5 => absurd ((lg_cmp_eq _ _).mpr (by rw [h_3]; rfl)) h_5)
      refine lv_goto (tgt := 882) hx hb dL_law_360 (by decide) ?_
      exact K _ _ _ _ _ _ _ _ (gd_upd hg (hg (xs (i + 2)).toNatClampNeg (in_cl h2.2)).1 (hg (xs (i + 2)).toNatClampNeg (in_cl h2.2)).2) _ _ _ hP hD hS (lv_sub hl [2, 3, 4, 5, 6] rfl)
  · refine lv_aload_n hx hb dL_law_276 rfl (lv_at hl 3 rfl) ?_
    refine la_ld (i := i) 1 (by decide) hx hb hX hbl hbA hS (lv_at hl 4 rfl) (lv_at hl 0 rfl) (by omega) hL dL_law_277 dL_law_278 dL_law_280 dL_law_281 dL_law_282 ?_
    refine la_ld (i := i) 2 (by decide) hx hb hX hbl hbA hS (lv_at hl 4 rfl) (lv_at hl 0 rfl) (by omega) hL dL_law_283 dL_law_284 dL_law_286 dL_law_287 dL_law_288 ?_
    refine la_ld (i := i) 3 (by decide) hx hb hX hbl hbA hS (lv_at hl 4 rfl) (lv_at hl 0 rfl) (by omega) hL dL_law_289 dL_law_290 dL_law_292 dL_law_293 dL_law_294 ?_
    refine lv_aload_n hx hb dL_law_295 rfl (lv_at hl 1 rfl) ?_
    refine kw_SX 5 [0, 1, 2, 3, 4, 5, 6, 14] [7, 8, 9, 10, 11, 12, 13] (As := [.ref (q 0), .int (xs (i + 1)), .int (xs (i + 2)), .int (xs (i + 3)), .ref (ob)]) (rest := []) (wc := oW cI cZ cJ q ob A B T P Y G V) (wr := mW cJ cI cZ r (e9) A B T P Y G) (w1 := oW cI cZ cJ q ob A B T P Y G V) hx hb hml hown hts hl.1 hP hD hS hA hK hB hH (mL_narrow_n l hst D cI cZ cJ q ob A B T P Y G V _ (xs (i + 1)) (xs (i + 2)) (xs (i + 3)) h2) w_188 w_189 w_13 w_190 (by decide) ⟨rfl, rfl⟩ ⟨Nat.le_of_ble_eq_true rfl, Nat.le_of_ble_eq_true rfl⟩ rfl rfl (Nat.le_of_ble_eq_true rfl) dL_law_296 ⟨hc, hs⟩ rfl rfl ⟨by decide, by decide⟩ (by decide) (fun H locs hP hD hS => ?_)
    have hP : va_P D vwCl (lW cI cZ cJ q r ob A B T P Y G (e9) A B T P Y G V) H := hP.sub [7, 8, 9, 10, 11, 12, 13, 0, 1, 2, 3, 4, 5, 6, 14] rfl
    have hD : va_D (fun z => s.heap.size ≤ z) (lW cI cZ cJ q r ob A B T P Y G (e9) A B T P Y G V) := hD.sub [7, 8, 9, 10, 11, 12, 13, 0, 1, 2, 3, 4, 5, 6, 14] (by decide) rfl
    refine W.eq (g2 := F0 m 299 ls [.int (1)]) rfl ?_
    refine lv_istore hx hb dL_law_299 hl (by decide) rfl (fun ls hl => ?_)
    have hl : lv_has ls 7 [(5, .int (1)), (4, .int (nI i)), (3, .ref (ob)), (2, .ref (r 0)), (1, .ref (q 0)), (0, .ref (b))] := hl
    refine lv_aload_n hx hb dL_law_301 rfl (lv_at hl 3 rfl) ?_
    refine la_ld (i := i) 1 (by decide) hx hb hX hbl hbA hS (lv_at hl 5 rfl) (lv_at hl 1 rfl) (by omega) hL dL_law_302 dL_law_303 dL_law_305 dL_law_306 dL_law_307 ?_
    refine la_ld (i := i) 2 (by decide) hx hb hX hbl hbA hS (lv_at hl 5 rfl) (lv_at hl 1 rfl) (by omega) hL dL_law_308 dL_law_309 dL_law_311 dL_law_312 dL_law_313 ?_
    refine la_ld (i := i) 3 (by decide) hx hb hX hbl hbA hS (lv_at hl 5 rfl) (lv_at hl 1 rfl) (by omega) hL dL_law_314 dL_law_315 dL_law_317 dL_law_318 dL_law_319 ?_
    refine kw_V 3 [7, 8, 9, 10, 11, 12, 13] [0, 1, 2, 3, 4, 5, 6, 14] (b := r 0) (As := [.int (xs (i + 1)), .int (xs (i + 2)), .int (xs (i + 3))]) (rest := []) (wc := mW cJ cI cZ r (e9) A B T P Y G) (wr := xW cI cZ q A B T P Y G ++ [(ob, .inl (cJ, 1, .inr (.inl V)))]) (w1 := mW cJ cI cZ r (1) A B T P Y G) hx hb hml hown hts hl.1 hP hD hS hA (hK.sub (tys' := tsM cJ cI cZ) [2, 0, 1] rfl) (mM_narrow_n l D cJ cI cZ r (e9) A B T P Y G _ (xs (i + 1)) (xs (i + 2)) (xs (i + 3)) h2) (gw_V w_318 w_319 w_320 w_15 w_321) (by decide) ⟨rfl, rfl⟩ ⟨Nat.le_of_ble_eq_true rfl, Nat.le_of_ble_eq_true rfl⟩ (va_recv hK hP (ci := 1) rfl (q0 := 7) rfl) rfl rfl (Nat.le_of_ble_eq_true rfl) dL_law_320 ⟨hc, hs⟩ rfl rfl ⟨by decide, by decide⟩ (by decide) (fun H locs hP hD hS => ?_)
    have hP : va_P D vwCl (lW cI cZ cJ q r ob A B T P Y G (1) A B T P Y G V) H := hP.sub [0, 1, 2, 3, 4, 5, 6, 8, 9, 10, 11, 12, 13, 14, 7] rfl
    have hD : va_D (fun z => s.heap.size ≤ z) (lW cI cZ cJ q r ob A B T P Y G (1) A B T P Y G V) := hD.sub [0, 1, 2, 3, 4, 5, 6, 8, 9, 10, 11, 12, 13, 14, 7] (by decide) rfl
    refine W.eq (g2 := F0 m 323 ls [.int (0)]) rfl ?_
    refine lv_istore hx hb dL_law_323 hl (by decide) rfl (fun ls hl => ?_)
    have hl : lv_has ls 7 [(6, .int (0)), (5, .int (1)), (4, .int (nI i)), (3, .ref (ob)), (2, .ref (r 0)), (1, .ref (q 0)), (0, .ref (b))] := hl
    refine lv_aload_n hx hb dL_law_325 rfl (lv_at hl 4 rfl) ?_
    refine kr_V 0 (b := r 0) (As := []) (rest := []) (r := .int (1)) hx hb hml hown hts hl.1 (mM_thrown l D cJ cI cZ r (1) A B T P Y G) rB_stb ⟨hP.sub (ws' := mW cJ cI cZ r (1) A B T P Y G) [7, 8, 9, 10, 11, 12, 13] rfl, hK.sub (tys' := tsM cJ cI cZ) [2, 0, 1] rfl⟩ (gw_V w_278 w_279 w_280 w_15 w_281) (by decide) ⟨rfl, rfl⟩ ⟨Nat.le_of_ble_eq_true rfl, Nat.le_of_ble_eq_true rfl⟩ (va_recv hK hP (ci := 1) rfl (q0 := 7) rfl) rfl rfl (Nat.le_of_ble_eq_true rfl) dL_law_326 ⟨hc, hs⟩ ?_
    refine W.eq (g2 := F0 m 329 ls [.int (1)]) rfl ?_
    refine lv_iload hx hb dL_law_329 (lv_at hl 1 rfl) ?_
    refine lv_icmp_eq (tgt := 336) hx hb dL_law_331 (by decide) (fun h_6 => ?_) (fun h_6 => absurd (by decide) h_6)
    refine lv_iload hx hb dL_law_336 (lv_at hl 1 rfl) ?_
    refine lv_if_ne (tgt := 360) hx hb dL_law_338 (by decide) (fun h_7 => ?_) (fun h_7 => absurd h_7 (by decide))
    refine lv_goto (tgt := 882) hx hb dL_law_360 (by decide) ?_
    exact K _ _ _ _ _ _ _ _ hg _ _ _ hP hD hS (lv_sub hl [2, 3, 4, 5, 6] rfl)

set_option maxRecDepth 100000 in
set_option maxHeartbeats 4000000 in
theorem lc_restrict {p : Program} {l : Launch} {e : Env} {s : State} {m : MethodId} {below : List Frame} {meth : Method} {c : Code} {b L : Nat} {xs : Nat → Int32} {D : va_G} {cI cZ cJ : ClassId} {q r : Nat → Nat} {ob : Nat} (C : lC p l s m meth c b L xs D cI cZ cJ) {i cells slots : Nat} (hi : i + 5 ≤ L) (hc : cells + 1 ≤ 1044) (hs : slots + 6 ≤ 8428) {A B T P Y : Nat → Int32} {G : Nat → Bool} {V : Nat → Int64} {e9 : Int32} (hg : gd P Y) (K : ∀ (A B T P Y : Nat → Int32) (G : Nat → Bool) (V : Nat → Int64) (e9 : Int32), gd P Y → lS p l e s m below meth c b D cI cZ cJ q r ob i (cells + 1) (slots + 6) 882 A B T P Y G V e9) : lS p l e s m below meth c b D cI cZ cJ q r ob i cells slots 363 A B T P Y G V e9 := by
  obtain ⟨hx, hb, hr, hml, hown, hts, hX, hbl, hlocks, hst, hB, hK, hL⟩ := C
  intro H locs ls hP hD hS hl
  have hA : ∀ z : Nat, s.heap.size ≤ z → s.heap.size ≤ z := fun z h => h
  have hbA : ¬ s.heap.size ≤ b := Nat.not_le.mpr hbl
  have hH : ∀ z : Nat, z < s.heap.size → H[z]? = s.heap[z]? := fun z hz => hS.2.1 z hz (Nat.not_le.mpr hz)
  by_cases h2 : vp_in (xs (i + 1)) 16 ∧ vp_in (xs (i + 2)) 16
  · refine lv_aload_n hx hb dL_law_363 rfl (lv_at hl 3 rfl) ?_
    refine la_ld (i := i) 1 (by decide) hx hb hX hbl hbA hS (lv_at hl 4 rfl) (lv_at hl 0 rfl) (by omega) hL dL_law_364 dL_law_365 dL_law_367 dL_law_368 dL_law_369 ?_
    refine la_ld (i := i) 2 (by decide) hx hb hX hbl hbA hS (lv_at hl 4 rfl) (lv_at hl 0 rfl) (by omega) hL dL_law_370 dL_law_371 dL_law_373 dL_law_374 dL_law_375 ?_
    refine la_ld (i := i) 3 (by decide) hx hb hX hbl hbA hS (lv_at hl 4 rfl) (lv_at hl 0 rfl) (by omega) hL dL_law_376 dL_law_377 dL_law_379 dL_law_380 dL_law_381 ?_
    refine lv_aload_n hx hb dL_law_382 rfl (lv_at hl 1 rfl) ?_
    refine kw_SX 5 [0, 1, 2, 3, 4, 5, 6, 14] [7, 8, 9, 10, 11, 12, 13] (As := [.ref (q 0), .int (xs (i + 1)), .int (xs (i + 2)), .int (xs (i + 3)), .ref (ob)]) (rest := []) (wc := oW cI cZ cJ q ob A B T P Y G V) (wr := mW cJ cI cZ r (e9) A B T P Y G) (w1 := oW cI cZ cJ q ob (upd A (xs (i + 1)).toNatClampNeg (A (xs (i + 2)).toNatClampNeg)) (upd B (xs (i + 1)).toNatClampNeg (B (xs (i + 2)).toNatClampNeg)) (upd T (xs (i + 1)).toNatClampNeg (T (xs (i + 2)).toNatClampNeg)) (upd P (xs (i + 1)).toNatClampNeg ((P (xs (i + 2)).toNatClampNeg) &&& ((xs (i + 3))))) (upd Y (xs (i + 1)).toNatClampNeg (Y (xs (i + 2)).toNatClampNeg)) (ub G (xs (i + 1)).toNatClampNeg ((G (xs (i + 2)).toNatClampNeg && (decide (Y (xs (i + 2)).toNatClampNeg = 0) || decide ((P (xs (i + 2)).toNatClampNeg) &&& ((xs (i + 3))) = P (xs (i + 2)).toNatClampNeg))))) (vp_updL V 0 (bl (G (xs (i + 2)).toNatClampNeg && (decide (Y (xs (i + 2)).toNatClampNeg = 0) || decide ((P (xs (i + 2)).toNatClampNeg) &&& ((xs (i + 3))) = P (xs (i + 2)).toNatClampNeg)))))) hx hb hml hown hts hl.1 hP hD hS hA hK hB hH (mL_restrict_y l hst D cI cZ cJ q ob A B T P Y G V _ (xs (i + 1)) (xs (i + 2)) (xs (i + 3)) h2.1 h2.2) w_195 w_196 w_13 w_197 (by decide) ⟨rfl, rfl⟩ ⟨Nat.le_of_ble_eq_true rfl, Nat.le_of_ble_eq_true rfl⟩ rfl rfl (Nat.le_of_ble_eq_true rfl) dL_law_383 ⟨hc, hs⟩ rfl rfl ⟨by decide, by decide⟩ (by decide) (fun H locs hP hD hS => ?_)
    have hP : va_P D vwCl (lW cI cZ cJ q r ob (upd A (xs (i + 1)).toNatClampNeg (A (xs (i + 2)).toNatClampNeg)) (upd B (xs (i + 1)).toNatClampNeg (B (xs (i + 2)).toNatClampNeg)) (upd T (xs (i + 1)).toNatClampNeg (T (xs (i + 2)).toNatClampNeg)) (upd P (xs (i + 1)).toNatClampNeg ((P (xs (i + 2)).toNatClampNeg) &&& ((xs (i + 3))))) (upd Y (xs (i + 1)).toNatClampNeg (Y (xs (i + 2)).toNatClampNeg)) (ub G (xs (i + 1)).toNatClampNeg ((G (xs (i + 2)).toNatClampNeg && (decide (Y (xs (i + 2)).toNatClampNeg = 0) || decide ((P (xs (i + 2)).toNatClampNeg) &&& ((xs (i + 3))) = P (xs (i + 2)).toNatClampNeg))))) (e9) A B T P Y G (vp_updL V 0 (bl (G (xs (i + 2)).toNatClampNeg && (decide (Y (xs (i + 2)).toNatClampNeg = 0) || decide ((P (xs (i + 2)).toNatClampNeg) &&& ((xs (i + 3))) = P (xs (i + 2)).toNatClampNeg)))))) H := hP.sub [7, 8, 9, 10, 11, 12, 13, 0, 1, 2, 3, 4, 5, 6, 14] rfl
    have hD : va_D (fun z => s.heap.size ≤ z) (lW cI cZ cJ q r ob (upd A (xs (i + 1)).toNatClampNeg (A (xs (i + 2)).toNatClampNeg)) (upd B (xs (i + 1)).toNatClampNeg (B (xs (i + 2)).toNatClampNeg)) (upd T (xs (i + 1)).toNatClampNeg (T (xs (i + 2)).toNatClampNeg)) (upd P (xs (i + 1)).toNatClampNeg ((P (xs (i + 2)).toNatClampNeg) &&& ((xs (i + 3))))) (upd Y (xs (i + 1)).toNatClampNeg (Y (xs (i + 2)).toNatClampNeg)) (ub G (xs (i + 1)).toNatClampNeg ((G (xs (i + 2)).toNatClampNeg && (decide (Y (xs (i + 2)).toNatClampNeg = 0) || decide ((P (xs (i + 2)).toNatClampNeg) &&& ((xs (i + 3))) = P (xs (i + 2)).toNatClampNeg))))) (e9) A B T P Y G (vp_updL V 0 (bl (G (xs (i + 2)).toNatClampNeg && (decide (Y (xs (i + 2)).toNatClampNeg = 0) || decide ((P (xs (i + 2)).toNatClampNeg) &&& ((xs (i + 3))) = P (xs (i + 2)).toNatClampNeg)))))) := hD.sub [7, 8, 9, 10, 11, 12, 13, 0, 1, 2, 3, 4, 5, 6, 14] (by decide) rfl
    refine W.eq (g2 := F0 m 386 ls [.int (0)]) rfl ?_
    refine lv_istore hx hb dL_law_386 hl (by decide) rfl (fun ls hl => ?_)
    have hl : lv_has ls 7 [(5, .int (0)), (4, .int (nI i)), (3, .ref (ob)), (2, .ref (r 0)), (1, .ref (q 0)), (0, .ref (b))] := hl
    refine lv_aload_n hx hb dL_law_388 rfl (lv_at hl 3 rfl) ?_
    refine la_ld (i := i) 1 (by decide) hx hb hX hbl hbA hS (lv_at hl 5 rfl) (lv_at hl 1 rfl) (by omega) hL dL_law_389 dL_law_390 dL_law_392 dL_law_393 dL_law_394 ?_
    refine la_ld (i := i) 2 (by decide) hx hb hX hbl hbA hS (lv_at hl 5 rfl) (lv_at hl 1 rfl) (by omega) hL dL_law_395 dL_law_396 dL_law_398 dL_law_399 dL_law_400 ?_
    refine la_ld (i := i) 3 (by decide) hx hb hX hbl hbA hS (lv_at hl 5 rfl) (lv_at hl 1 rfl) (by omega) hL dL_law_401 dL_law_402 dL_law_404 dL_law_405 dL_law_406 ?_
    refine kw_V 3 [7, 8, 9, 10, 11, 12, 13] [0, 1, 2, 3, 4, 5, 6, 14] (b := r 0) (As := [.int (xs (i + 1)), .int (xs (i + 2)), .int (xs (i + 3))]) (rest := []) (wc := mW cJ cI cZ r (e9) A B T P Y G) (wr := xW cI cZ q (upd A (xs (i + 1)).toNatClampNeg (A (xs (i + 2)).toNatClampNeg)) (upd B (xs (i + 1)).toNatClampNeg (B (xs (i + 2)).toNatClampNeg)) (upd T (xs (i + 1)).toNatClampNeg (T (xs (i + 2)).toNatClampNeg)) (upd P (xs (i + 1)).toNatClampNeg ((P (xs (i + 2)).toNatClampNeg) &&& ((xs (i + 3))))) (upd Y (xs (i + 1)).toNatClampNeg (Y (xs (i + 2)).toNatClampNeg)) (ub G (xs (i + 1)).toNatClampNeg ((G (xs (i + 2)).toNatClampNeg && (decide (Y (xs (i + 2)).toNatClampNeg = 0) || decide ((P (xs (i + 2)).toNatClampNeg) &&& ((xs (i + 3))) = P (xs (i + 2)).toNatClampNeg))))) ++ [(ob, .inl (cJ, 1, .inr (.inl (vp_updL V 0 (bl (G (xs (i + 2)).toNatClampNeg && (decide (Y (xs (i + 2)).toNatClampNeg = 0) || decide ((P (xs (i + 2)).toNatClampNeg) &&& ((xs (i + 3))) = P (xs (i + 2)).toNatClampNeg))))))))]) (w1 := mW cJ cI cZ r (0) (upd A (xs (i + 1)).toNatClampNeg (A (xs (i + 2)).toNatClampNeg)) (upd B (xs (i + 1)).toNatClampNeg (B (xs (i + 2)).toNatClampNeg)) (upd T (xs (i + 1)).toNatClampNeg (T (xs (i + 2)).toNatClampNeg)) (upd P (xs (i + 1)).toNatClampNeg ((P (xs (i + 2)).toNatClampNeg) &&& ((xs (i + 3))))) (upd Y (xs (i + 1)).toNatClampNeg (Y (xs (i + 2)).toNatClampNeg)) (ub G (xs (i + 1)).toNatClampNeg ((G (xs (i + 2)).toNatClampNeg && (decide (Y (xs (i + 2)).toNatClampNeg = 0) || decide ((P (xs (i + 2)).toNatClampNeg) &&& ((xs (i + 3))) = P (xs (i + 2)).toNatClampNeg)))))) hx hb hml hown hts hl.1 hP hD hS hA (hK.sub (tys' := tsM cJ cI cZ) [2, 0, 1] rfl) (mM_restrict_y l D cJ cI cZ r (e9) A B T P Y G _ (xs (i + 1)) (xs (i + 2)) (xs (i + 3)) h2.1 h2.2 (hg (xs (i + 2)).toNatClampNeg (in_cl h2.2)).1) (gw_V w_322 w_323 w_324 w_15 w_325) (by decide) ⟨rfl, rfl⟩ ⟨Nat.le_of_ble_eq_true rfl, Nat.le_of_ble_eq_true rfl⟩ (va_recv hK hP (ci := 1) rfl (q0 := 7) rfl) rfl rfl (Nat.le_of_ble_eq_true rfl) dL_law_407 ⟨hc, hs⟩ rfl rfl ⟨by decide, by decide⟩ (by decide) (fun H locs hP hD hS => ?_)
    have hP : va_P D vwCl (lW cI cZ cJ q r ob (upd A (xs (i + 1)).toNatClampNeg (A (xs (i + 2)).toNatClampNeg)) (upd B (xs (i + 1)).toNatClampNeg (B (xs (i + 2)).toNatClampNeg)) (upd T (xs (i + 1)).toNatClampNeg (T (xs (i + 2)).toNatClampNeg)) (upd P (xs (i + 1)).toNatClampNeg ((P (xs (i + 2)).toNatClampNeg) &&& ((xs (i + 3))))) (upd Y (xs (i + 1)).toNatClampNeg (Y (xs (i + 2)).toNatClampNeg)) (ub G (xs (i + 1)).toNatClampNeg ((G (xs (i + 2)).toNatClampNeg && (decide (Y (xs (i + 2)).toNatClampNeg = 0) || decide ((P (xs (i + 2)).toNatClampNeg) &&& ((xs (i + 3))) = P (xs (i + 2)).toNatClampNeg))))) (0) (upd A (xs (i + 1)).toNatClampNeg (A (xs (i + 2)).toNatClampNeg)) (upd B (xs (i + 1)).toNatClampNeg (B (xs (i + 2)).toNatClampNeg)) (upd T (xs (i + 1)).toNatClampNeg (T (xs (i + 2)).toNatClampNeg)) (upd P (xs (i + 1)).toNatClampNeg ((P (xs (i + 2)).toNatClampNeg) &&& ((xs (i + 3))))) (upd Y (xs (i + 1)).toNatClampNeg (Y (xs (i + 2)).toNatClampNeg)) (ub G (xs (i + 1)).toNatClampNeg ((G (xs (i + 2)).toNatClampNeg && (decide (Y (xs (i + 2)).toNatClampNeg = 0) || decide ((P (xs (i + 2)).toNatClampNeg) &&& ((xs (i + 3))) = P (xs (i + 2)).toNatClampNeg))))) (vp_updL V 0 (bl (G (xs (i + 2)).toNatClampNeg && (decide (Y (xs (i + 2)).toNatClampNeg = 0) || decide ((P (xs (i + 2)).toNatClampNeg) &&& ((xs (i + 3))) = P (xs (i + 2)).toNatClampNeg)))))) H := hP.sub [0, 1, 2, 3, 4, 5, 6, 8, 9, 10, 11, 12, 13, 14, 7] rfl
    have hD : va_D (fun z => s.heap.size ≤ z) (lW cI cZ cJ q r ob (upd A (xs (i + 1)).toNatClampNeg (A (xs (i + 2)).toNatClampNeg)) (upd B (xs (i + 1)).toNatClampNeg (B (xs (i + 2)).toNatClampNeg)) (upd T (xs (i + 1)).toNatClampNeg (T (xs (i + 2)).toNatClampNeg)) (upd P (xs (i + 1)).toNatClampNeg ((P (xs (i + 2)).toNatClampNeg) &&& ((xs (i + 3))))) (upd Y (xs (i + 1)).toNatClampNeg (Y (xs (i + 2)).toNatClampNeg)) (ub G (xs (i + 1)).toNatClampNeg ((G (xs (i + 2)).toNatClampNeg && (decide (Y (xs (i + 2)).toNatClampNeg = 0) || decide ((P (xs (i + 2)).toNatClampNeg) &&& ((xs (i + 3))) = P (xs (i + 2)).toNatClampNeg))))) (0) (upd A (xs (i + 1)).toNatClampNeg (A (xs (i + 2)).toNatClampNeg)) (upd B (xs (i + 1)).toNatClampNeg (B (xs (i + 2)).toNatClampNeg)) (upd T (xs (i + 1)).toNatClampNeg (T (xs (i + 2)).toNatClampNeg)) (upd P (xs (i + 1)).toNatClampNeg ((P (xs (i + 2)).toNatClampNeg) &&& ((xs (i + 3))))) (upd Y (xs (i + 1)).toNatClampNeg (Y (xs (i + 2)).toNatClampNeg)) (ub G (xs (i + 1)).toNatClampNeg ((G (xs (i + 2)).toNatClampNeg && (decide (Y (xs (i + 2)).toNatClampNeg = 0) || decide ((P (xs (i + 2)).toNatClampNeg) &&& ((xs (i + 3))) = P (xs (i + 2)).toNatClampNeg))))) (vp_updL V 0 (bl (G (xs (i + 2)).toNatClampNeg && (decide (Y (xs (i + 2)).toNatClampNeg = 0) || decide ((P (xs (i + 2)).toNatClampNeg) &&& ((xs (i + 3))) = P (xs (i + 2)).toNatClampNeg)))))) := hD.sub [0, 1, 2, 3, 4, 5, 6, 8, 9, 10, 11, 12, 13, 14, 7] (by decide) rfl
    refine W.eq (g2 := F0 m 410 ls [.int (bi (G (xs (i + 2)).toNatClampNeg && (decide (Y (xs (i + 2)).toNatClampNeg = 0) || decide ((P (xs (i + 2)).toNatClampNeg) &&& ((xs (i + 3))) = P (xs (i + 2)).toNatClampNeg))))]) rfl ?_
    refine lv_istore hx hb dL_law_410 hl (by decide) rfl (fun ls hl => ?_)
    have hl : lv_has ls 7 [(6, .int (bi (G (xs (i + 2)).toNatClampNeg && (decide (Y (xs (i + 2)).toNatClampNeg = 0) || decide ((P (xs (i + 2)).toNatClampNeg) &&& ((xs (i + 3))) = P (xs (i + 2)).toNatClampNeg))))), (5, .int (0)), (4, .int (nI i)), (3, .ref (ob)), (2, .ref (r 0)), (1, .ref (q 0)), (0, .ref (b))] := hl
    refine lv_aload_n hx hb dL_law_412 rfl (lv_at hl 4 rfl) ?_
    refine kr_V 0 (b := r 0) (As := []) (rest := []) (r := .int (0)) hx hb hml hown hts hl.1 (mM_thrown l D cJ cI cZ r (0) (upd A (xs (i + 1)).toNatClampNeg (A (xs (i + 2)).toNatClampNeg)) (upd B (xs (i + 1)).toNatClampNeg (B (xs (i + 2)).toNatClampNeg)) (upd T (xs (i + 1)).toNatClampNeg (T (xs (i + 2)).toNatClampNeg)) (upd P (xs (i + 1)).toNatClampNeg ((P (xs (i + 2)).toNatClampNeg) &&& ((xs (i + 3))))) (upd Y (xs (i + 1)).toNatClampNeg (Y (xs (i + 2)).toNatClampNeg)) (ub G (xs (i + 1)).toNatClampNeg ((G (xs (i + 2)).toNatClampNeg && (decide (Y (xs (i + 2)).toNatClampNeg = 0) || decide ((P (xs (i + 2)).toNatClampNeg) &&& ((xs (i + 3))) = P (xs (i + 2)).toNatClampNeg)))))) rB_stb ⟨hP.sub (ws' := mW cJ cI cZ r (0) (upd A (xs (i + 1)).toNatClampNeg (A (xs (i + 2)).toNatClampNeg)) (upd B (xs (i + 1)).toNatClampNeg (B (xs (i + 2)).toNatClampNeg)) (upd T (xs (i + 1)).toNatClampNeg (T (xs (i + 2)).toNatClampNeg)) (upd P (xs (i + 1)).toNatClampNeg ((P (xs (i + 2)).toNatClampNeg) &&& ((xs (i + 3))))) (upd Y (xs (i + 1)).toNatClampNeg (Y (xs (i + 2)).toNatClampNeg)) (ub G (xs (i + 1)).toNatClampNeg ((G (xs (i + 2)).toNatClampNeg && (decide (Y (xs (i + 2)).toNatClampNeg = 0) || decide ((P (xs (i + 2)).toNatClampNeg) &&& ((xs (i + 3))) = P (xs (i + 2)).toNatClampNeg)))))) [7, 8, 9, 10, 11, 12, 13] rfl, hK.sub (tys' := tsM cJ cI cZ) [2, 0, 1] rfl⟩ (gw_V w_278 w_279 w_280 w_15 w_281) (by decide) ⟨rfl, rfl⟩ ⟨Nat.le_of_ble_eq_true rfl, Nat.le_of_ble_eq_true rfl⟩ (va_recv hK hP (ci := 1) rfl (q0 := 7) rfl) rfl rfl (Nat.le_of_ble_eq_true rfl) dL_law_413 ⟨hc, hs⟩ ?_
    refine W.eq (g2 := F0 m 416 ls [.int (0)]) rfl ?_
    refine lv_iload hx hb dL_law_416 (lv_at hl 1 rfl) ?_
    refine lv_icmp_eq (tgt := 423) hx hb dL_law_418 (by decide) (fun h_1 => ?_) (fun h_1 => absurd (by decide) h_1)
    refine lv_iload hx hb dL_law_423 (lv_at hl 1 rfl) ?_
    refine lv_if_ne (tgt := 447) hx hb dL_law_425 (by decide) (fun h_2 => absurd (by decide) h_2) (fun h_2 => ?_)
    refine lv_aload_n hx hb dL_law_428 rfl (lv_at hl 3 rfl) ?_
    refine lv_iconst (v := 0) hx hb dL_law_429 (by decide) ?_
    refine va_lald hx hb hK hP 14 2 rfl rfl in01 dL_law_430 ?_
    refine W.eq (g2 := F0 m 431 ls [.long (bl (G (xs (i + 2)).toNatClampNeg && (decide (Y (xs (i + 2)).toNatClampNeg = 0) || decide ((P (xs (i + 2)).toNatClampNeg) &&& ((xs (i + 3))) = P (xs (i + 2)).toNatClampNeg))))]) (by rw [show (0 : Int32).toNatClampNeg = 0 from rfl, pk_uLs] <;> rfl) ?_
    refine lv_iload hx hb dL_law_431 (lv_at hl 0 rfl) ?_
    refine lv_if_eq (tgt := 440) hx hb dL_law_433 (by decide) (fun h_3 => ?_) (fun h_3 => ?_)
    · have h_3 := bi_0 h_3
      refine lv_lconst (v := 0) hx hb dL_law_440 (by decide) ?_
      refine W.lcmp hx hb dL_law_441 ?_
      refine lv_if_eq (tgt := 447) hx hb dL_law_442 (by decide) (fun h_4 => ?_) (fun h_4 => absurd ((lg_cmp_eq _ _).mpr (by rw [h_3]; rfl)) h_4)
      refine lv_goto (tgt := 882) hx hb dL_law_447 (by decide) ?_
      exact K _ _ _ _ _ _ _ _ (gd_upd hg (Nat.lt_of_le_of_lt (un_and_le _ _) (hg (xs (i + 2)).toNatClampNeg (in_cl h2.2)).1) (hg (xs (i + 2)).toNatClampNeg (in_cl h2.2)).2) _ _ _ hP hD hS (lv_sub hl [2, 3, 4, 5, 6] rfl)
    · have h_3 := bi_n h_3
      refine lv_lconst (v := 1) hx hb dL_law_436 (by decide) ?_
      refine lv_goto (tgt := 441) hx hb dL_law_437 (by decide) ?_
      refine W.lcmp hx hb dL_law_441 ?_
      refine lv_if_eq (tgt := 447) hx hb dL_law_442 (by decide) (fun h_5 => ?_) (fun h_5 => absurd ((lg_cmp_eq _ _).mpr (by rw [h_3]; rfl)) h_5)
      refine lv_goto (tgt := 882) hx hb dL_law_447 (by decide) ?_
      exact K _ _ _ _ _ _ _ _ (gd_upd hg (Nat.lt_of_le_of_lt (un_and_le _ _) (hg (xs (i + 2)).toNatClampNeg (in_cl h2.2)).1) (hg (xs (i + 2)).toNatClampNeg (in_cl h2.2)).2) _ _ _ hP hD hS (lv_sub hl [2, 3, 4, 5, 6] rfl)
  · refine lv_aload_n hx hb dL_law_363 rfl (lv_at hl 3 rfl) ?_
    refine la_ld (i := i) 1 (by decide) hx hb hX hbl hbA hS (lv_at hl 4 rfl) (lv_at hl 0 rfl) (by omega) hL dL_law_364 dL_law_365 dL_law_367 dL_law_368 dL_law_369 ?_
    refine la_ld (i := i) 2 (by decide) hx hb hX hbl hbA hS (lv_at hl 4 rfl) (lv_at hl 0 rfl) (by omega) hL dL_law_370 dL_law_371 dL_law_373 dL_law_374 dL_law_375 ?_
    refine la_ld (i := i) 3 (by decide) hx hb hX hbl hbA hS (lv_at hl 4 rfl) (lv_at hl 0 rfl) (by omega) hL dL_law_376 dL_law_377 dL_law_379 dL_law_380 dL_law_381 ?_
    refine lv_aload_n hx hb dL_law_382 rfl (lv_at hl 1 rfl) ?_
    refine kw_SX 5 [0, 1, 2, 3, 4, 5, 6, 14] [7, 8, 9, 10, 11, 12, 13] (As := [.ref (q 0), .int (xs (i + 1)), .int (xs (i + 2)), .int (xs (i + 3)), .ref (ob)]) (rest := []) (wc := oW cI cZ cJ q ob A B T P Y G V) (wr := mW cJ cI cZ r (e9) A B T P Y G) (w1 := oW cI cZ cJ q ob A B T P Y G V) hx hb hml hown hts hl.1 hP hD hS hA hK hB hH (mL_restrict_n l hst D cI cZ cJ q ob A B T P Y G V _ (xs (i + 1)) (xs (i + 2)) (xs (i + 3)) h2) w_195 w_196 w_13 w_197 (by decide) ⟨rfl, rfl⟩ ⟨Nat.le_of_ble_eq_true rfl, Nat.le_of_ble_eq_true rfl⟩ rfl rfl (Nat.le_of_ble_eq_true rfl) dL_law_383 ⟨hc, hs⟩ rfl rfl ⟨by decide, by decide⟩ (by decide) (fun H locs hP hD hS => ?_)
    have hP : va_P D vwCl (lW cI cZ cJ q r ob A B T P Y G (e9) A B T P Y G V) H := hP.sub [7, 8, 9, 10, 11, 12, 13, 0, 1, 2, 3, 4, 5, 6, 14] rfl
    have hD : va_D (fun z => s.heap.size ≤ z) (lW cI cZ cJ q r ob A B T P Y G (e9) A B T P Y G V) := hD.sub [7, 8, 9, 10, 11, 12, 13, 0, 1, 2, 3, 4, 5, 6, 14] (by decide) rfl
    refine W.eq (g2 := F0 m 386 ls [.int (1)]) rfl ?_
    refine lv_istore hx hb dL_law_386 hl (by decide) rfl (fun ls hl => ?_)
    have hl : lv_has ls 7 [(5, .int (1)), (4, .int (nI i)), (3, .ref (ob)), (2, .ref (r 0)), (1, .ref (q 0)), (0, .ref (b))] := hl
    refine lv_aload_n hx hb dL_law_388 rfl (lv_at hl 3 rfl) ?_
    refine la_ld (i := i) 1 (by decide) hx hb hX hbl hbA hS (lv_at hl 5 rfl) (lv_at hl 1 rfl) (by omega) hL dL_law_389 dL_law_390 dL_law_392 dL_law_393 dL_law_394 ?_
    refine la_ld (i := i) 2 (by decide) hx hb hX hbl hbA hS (lv_at hl 5 rfl) (lv_at hl 1 rfl) (by omega) hL dL_law_395 dL_law_396 dL_law_398 dL_law_399 dL_law_400 ?_
    refine la_ld (i := i) 3 (by decide) hx hb hX hbl hbA hS (lv_at hl 5 rfl) (lv_at hl 1 rfl) (by omega) hL dL_law_401 dL_law_402 dL_law_404 dL_law_405 dL_law_406 ?_
    refine kw_V 3 [7, 8, 9, 10, 11, 12, 13] [0, 1, 2, 3, 4, 5, 6, 14] (b := r 0) (As := [.int (xs (i + 1)), .int (xs (i + 2)), .int (xs (i + 3))]) (rest := []) (wc := mW cJ cI cZ r (e9) A B T P Y G) (wr := xW cI cZ q A B T P Y G ++ [(ob, .inl (cJ, 1, .inr (.inl V)))]) (w1 := mW cJ cI cZ r (1) A B T P Y G) hx hb hml hown hts hl.1 hP hD hS hA (hK.sub (tys' := tsM cJ cI cZ) [2, 0, 1] rfl) (mM_restrict_n l D cJ cI cZ r (e9) A B T P Y G _ (xs (i + 1)) (xs (i + 2)) (xs (i + 3)) h2) (gw_V w_322 w_323 w_324 w_15 w_325) (by decide) ⟨rfl, rfl⟩ ⟨Nat.le_of_ble_eq_true rfl, Nat.le_of_ble_eq_true rfl⟩ (va_recv hK hP (ci := 1) rfl (q0 := 7) rfl) rfl rfl (Nat.le_of_ble_eq_true rfl) dL_law_407 ⟨hc, hs⟩ rfl rfl ⟨by decide, by decide⟩ (by decide) (fun H locs hP hD hS => ?_)
    have hP : va_P D vwCl (lW cI cZ cJ q r ob A B T P Y G (1) A B T P Y G V) H := hP.sub [0, 1, 2, 3, 4, 5, 6, 8, 9, 10, 11, 12, 13, 14, 7] rfl
    have hD : va_D (fun z => s.heap.size ≤ z) (lW cI cZ cJ q r ob A B T P Y G (1) A B T P Y G V) := hD.sub [0, 1, 2, 3, 4, 5, 6, 8, 9, 10, 11, 12, 13, 14, 7] (by decide) rfl
    refine W.eq (g2 := F0 m 410 ls [.int (0)]) rfl ?_
    refine lv_istore hx hb dL_law_410 hl (by decide) rfl (fun ls hl => ?_)
    have hl : lv_has ls 7 [(6, .int (0)), (5, .int (1)), (4, .int (nI i)), (3, .ref (ob)), (2, .ref (r 0)), (1, .ref (q 0)), (0, .ref (b))] := hl
    refine lv_aload_n hx hb dL_law_412 rfl (lv_at hl 4 rfl) ?_
    refine kr_V 0 (b := r 0) (As := []) (rest := []) (r := .int (1)) hx hb hml hown hts hl.1 (mM_thrown l D cJ cI cZ r (1) A B T P Y G) rB_stb ⟨hP.sub (ws' := mW cJ cI cZ r (1) A B T P Y G) [7, 8, 9, 10, 11, 12, 13] rfl, hK.sub (tys' := tsM cJ cI cZ) [2, 0, 1] rfl⟩ (gw_V w_278 w_279 w_280 w_15 w_281) (by decide) ⟨rfl, rfl⟩ ⟨Nat.le_of_ble_eq_true rfl, Nat.le_of_ble_eq_true rfl⟩ (va_recv hK hP (ci := 1) rfl (q0 := 7) rfl) rfl rfl (Nat.le_of_ble_eq_true rfl) dL_law_413 ⟨hc, hs⟩ ?_
    refine W.eq (g2 := F0 m 416 ls [.int (1)]) rfl ?_
    refine lv_iload hx hb dL_law_416 (lv_at hl 1 rfl) ?_
    refine lv_icmp_eq (tgt := 423) hx hb dL_law_418 (by decide) (fun h_6 => ?_) (fun h_6 => absurd (by decide) h_6)
    refine lv_iload hx hb dL_law_423 (lv_at hl 1 rfl) ?_
    refine lv_if_ne (tgt := 447) hx hb dL_law_425 (by decide) (fun h_7 => ?_) (fun h_7 => absurd h_7 (by decide))
    refine lv_goto (tgt := 882) hx hb dL_law_447 (by decide) ?_
    exact K _ _ _ _ _ _ _ _ hg _ _ _ hP hD hS (lv_sub hl [2, 3, 4, 5, 6] rfl)

set_option maxRecDepth 100000 in
set_option maxHeartbeats 4000000 in
theorem lc_seal {p : Program} {l : Launch} {e : Env} {s : State} {m : MethodId} {below : List Frame} {meth : Method} {c : Code} {b L : Nat} {xs : Nat → Int32} {D : va_G} {cI cZ cJ : ClassId} {q r : Nat → Nat} {ob : Nat} (C : lC p l s m meth c b L xs D cI cZ cJ) {i cells slots : Nat} (hi : i + 5 ≤ L) (hc : cells + 1 ≤ 1044) (hs : slots + 6 ≤ 8428) {A B T P Y : Nat → Int32} {G : Nat → Bool} {V : Nat → Int64} {e9 : Int32} (hg : gd P Y) (K : ∀ (A B T P Y : Nat → Int32) (G : Nat → Bool) (V : Nat → Int64) (e9 : Int32), gd P Y → lS p l e s m below meth c b D cI cZ cJ q r ob i (cells + 1) (slots + 6) 882 A B T P Y G V e9) : lS p l e s m below meth c b D cI cZ cJ q r ob i cells slots 450 A B T P Y G V e9 := by
  obtain ⟨hx, hb, hr, hml, hown, hts, hX, hbl, hlocks, hst, hB, hK, hL⟩ := C
  intro H locs ls hP hD hS hl
  have hA : ∀ z : Nat, s.heap.size ≤ z → s.heap.size ≤ z := fun z h => h
  have hbA : ¬ s.heap.size ≤ b := Nat.not_le.mpr hbl
  have hH : ∀ z : Nat, z < s.heap.size → H[z]? = s.heap[z]? := fun z hz => hS.2.1 z hz (Nat.not_le.mpr hz)
  by_cases h2 : vp_in (xs (i + 1)) 16 ∧ vp_in (xs (i + 2)) 16 ∧ vp_in (xs (i + 3)) 16
  · by_cases h3 : ga_seal A B T P Y G (xs (i + 2)).toNatClampNeg (xs (i + 3)).toNatClampNeg = 0
    · refine lv_aload_n hx hb dL_law_450 rfl (lv_at hl 3 rfl) ?_
      refine la_ld (i := i) 1 (by decide) hx hb hX hbl hbA hS (lv_at hl 4 rfl) (lv_at hl 0 rfl) (by omega) hL dL_law_451 dL_law_452 dL_law_454 dL_law_455 dL_law_456 ?_
      refine la_ld (i := i) 2 (by decide) hx hb hX hbl hbA hS (lv_at hl 4 rfl) (lv_at hl 0 rfl) (by omega) hL dL_law_457 dL_law_458 dL_law_460 dL_law_461 dL_law_462 ?_
      refine la_ld (i := i) 3 (by decide) hx hb hX hbl hbA hS (lv_at hl 4 rfl) (lv_at hl 0 rfl) (by omega) hL dL_law_463 dL_law_464 dL_law_466 dL_law_467 dL_law_468 ?_
      refine lv_aload_n hx hb dL_law_469 rfl (lv_at hl 1 rfl) ?_
      refine kw_SX 5 [0, 1, 2, 3, 4, 5, 6, 14] [7, 8, 9, 10, 11, 12, 13] (As := [.ref (q 0), .int (xs (i + 1)), .int (xs (i + 2)), .int (xs (i + 3)), .ref (ob)]) (rest := []) (wc := oW cI cZ cJ q ob A B T P Y G V) (wr := mW cJ cI cZ r (e9) A B T P Y G) (w1 := oW cI cZ cJ q ob (upd A (xs (i + 1)).toNatClampNeg (A (xs (i + 2)).toNatClampNeg)) (upd B (xs (i + 1)).toNatClampNeg (B (xs (i + 2)).toNatClampNeg)) (upd T (xs (i + 1)).toNatClampNeg (T (xs (i + 2)).toNatClampNeg)) (upd P (xs (i + 1)).toNatClampNeg (P (xs (i + 2)).toNatClampNeg)) (upd Y (xs (i + 1)).toNatClampNeg (A (xs (i + 3)).toNatClampNeg)) (ub G (xs (i + 1)).toNatClampNeg (G (xs (i + 2)).toNatClampNeg)) (vp_updL V 0 ((0 : Int32).toInt64))) hx hb hml hown hts hl.1 hP hD hS hA hK hB hH (mL_seal_y l hst D cI cZ cJ q ob A B T P Y G V _ (xs (i + 1)) (xs (i + 2)) (xs (i + 3)) h2.1 h2.2.1 h2.2.2 h3) w_202 w_203 w_13 w_204 (by decide) ⟨rfl, rfl⟩ ⟨Nat.le_of_ble_eq_true rfl, Nat.le_of_ble_eq_true rfl⟩ rfl rfl (Nat.le_of_ble_eq_true rfl) dL_law_470 ⟨hc, hs⟩ rfl rfl ⟨by decide, by decide⟩ (by decide) (fun H locs hP hD hS => ?_)
      have hP : va_P D vwCl (lW cI cZ cJ q r ob (upd A (xs (i + 1)).toNatClampNeg (A (xs (i + 2)).toNatClampNeg)) (upd B (xs (i + 1)).toNatClampNeg (B (xs (i + 2)).toNatClampNeg)) (upd T (xs (i + 1)).toNatClampNeg (T (xs (i + 2)).toNatClampNeg)) (upd P (xs (i + 1)).toNatClampNeg (P (xs (i + 2)).toNatClampNeg)) (upd Y (xs (i + 1)).toNatClampNeg (A (xs (i + 3)).toNatClampNeg)) (ub G (xs (i + 1)).toNatClampNeg (G (xs (i + 2)).toNatClampNeg)) (e9) A B T P Y G (vp_updL V 0 ((0 : Int32).toInt64))) H := hP.sub [7, 8, 9, 10, 11, 12, 13, 0, 1, 2, 3, 4, 5, 6, 14] rfl
      have hD : va_D (fun z => s.heap.size ≤ z) (lW cI cZ cJ q r ob (upd A (xs (i + 1)).toNatClampNeg (A (xs (i + 2)).toNatClampNeg)) (upd B (xs (i + 1)).toNatClampNeg (B (xs (i + 2)).toNatClampNeg)) (upd T (xs (i + 1)).toNatClampNeg (T (xs (i + 2)).toNatClampNeg)) (upd P (xs (i + 1)).toNatClampNeg (P (xs (i + 2)).toNatClampNeg)) (upd Y (xs (i + 1)).toNatClampNeg (A (xs (i + 3)).toNatClampNeg)) (ub G (xs (i + 1)).toNatClampNeg (G (xs (i + 2)).toNatClampNeg)) (e9) A B T P Y G (vp_updL V 0 ((0 : Int32).toInt64))) := hD.sub [7, 8, 9, 10, 11, 12, 13, 0, 1, 2, 3, 4, 5, 6, 14] (by decide) rfl
      refine W.eq (g2 := F0 m 473 ls [.int (0)]) rfl ?_
      refine lv_istore hx hb dL_law_473 hl (by decide) rfl (fun ls hl => ?_)
      have hl : lv_has ls 7 [(5, .int (0)), (4, .int (nI i)), (3, .ref (ob)), (2, .ref (r 0)), (1, .ref (q 0)), (0, .ref (b))] := hl
      refine lv_aload_n hx hb dL_law_475 rfl (lv_at hl 3 rfl) ?_
      refine la_ld (i := i) 1 (by decide) hx hb hX hbl hbA hS (lv_at hl 5 rfl) (lv_at hl 1 rfl) (by omega) hL dL_law_476 dL_law_477 dL_law_479 dL_law_480 dL_law_481 ?_
      refine la_ld (i := i) 2 (by decide) hx hb hX hbl hbA hS (lv_at hl 5 rfl) (lv_at hl 1 rfl) (by omega) hL dL_law_482 dL_law_483 dL_law_485 dL_law_486 dL_law_487 ?_
      refine la_ld (i := i) 3 (by decide) hx hb hX hbl hbA hS (lv_at hl 5 rfl) (lv_at hl 1 rfl) (by omega) hL dL_law_488 dL_law_489 dL_law_491 dL_law_492 dL_law_493 ?_
      refine kw_V 3 [7, 8, 9, 10, 11, 12, 13] [0, 1, 2, 3, 4, 5, 6, 14] (b := r 0) (As := [.int (xs (i + 1)), .int (xs (i + 2)), .int (xs (i + 3))]) (rest := []) (wc := mW cJ cI cZ r (e9) A B T P Y G) (wr := xW cI cZ q (upd A (xs (i + 1)).toNatClampNeg (A (xs (i + 2)).toNatClampNeg)) (upd B (xs (i + 1)).toNatClampNeg (B (xs (i + 2)).toNatClampNeg)) (upd T (xs (i + 1)).toNatClampNeg (T (xs (i + 2)).toNatClampNeg)) (upd P (xs (i + 1)).toNatClampNeg (P (xs (i + 2)).toNatClampNeg)) (upd Y (xs (i + 1)).toNatClampNeg (A (xs (i + 3)).toNatClampNeg)) (ub G (xs (i + 1)).toNatClampNeg (G (xs (i + 2)).toNatClampNeg)) ++ [(ob, .inl (cJ, 1, .inr (.inl (vp_updL V 0 ((0 : Int32).toInt64)))))]) (w1 := mW cJ cI cZ r (0) (upd A (xs (i + 1)).toNatClampNeg (A (xs (i + 2)).toNatClampNeg)) (upd B (xs (i + 1)).toNatClampNeg (B (xs (i + 2)).toNatClampNeg)) (upd T (xs (i + 1)).toNatClampNeg (T (xs (i + 2)).toNatClampNeg)) (upd P (xs (i + 1)).toNatClampNeg (P (xs (i + 2)).toNatClampNeg)) (upd Y (xs (i + 1)).toNatClampNeg (A (xs (i + 3)).toNatClampNeg)) (ub G (xs (i + 1)).toNatClampNeg (true))) hx hb hml hown hts hl.1 hP hD hS hA (hK.sub (tys' := tsM cJ cI cZ) [2, 0, 1] rfl) (mM_seal_y l D cJ cI cZ r (e9) A B T P Y G _ (xs (i + 1)) (xs (i + 2)) (xs (i + 3)) h2.1 h2.2.1 h2.2.2 h3) (gw_V w_326 w_327 w_328 w_15 w_329) (by decide) ⟨rfl, rfl⟩ ⟨Nat.le_of_ble_eq_true rfl, Nat.le_of_ble_eq_true rfl⟩ (va_recv hK hP (ci := 1) rfl (q0 := 7) rfl) rfl rfl (Nat.le_of_ble_eq_true rfl) dL_law_494 ⟨hc, hs⟩ rfl rfl ⟨by decide, by decide⟩ (by decide) (fun H locs hP hD hS => ?_)
      have hP : va_P D vwCl (lW cI cZ cJ q r ob (upd A (xs (i + 1)).toNatClampNeg (A (xs (i + 2)).toNatClampNeg)) (upd B (xs (i + 1)).toNatClampNeg (B (xs (i + 2)).toNatClampNeg)) (upd T (xs (i + 1)).toNatClampNeg (T (xs (i + 2)).toNatClampNeg)) (upd P (xs (i + 1)).toNatClampNeg (P (xs (i + 2)).toNatClampNeg)) (upd Y (xs (i + 1)).toNatClampNeg (A (xs (i + 3)).toNatClampNeg)) (ub G (xs (i + 1)).toNatClampNeg (G (xs (i + 2)).toNatClampNeg)) (0) (upd A (xs (i + 1)).toNatClampNeg (A (xs (i + 2)).toNatClampNeg)) (upd B (xs (i + 1)).toNatClampNeg (B (xs (i + 2)).toNatClampNeg)) (upd T (xs (i + 1)).toNatClampNeg (T (xs (i + 2)).toNatClampNeg)) (upd P (xs (i + 1)).toNatClampNeg (P (xs (i + 2)).toNatClampNeg)) (upd Y (xs (i + 1)).toNatClampNeg (A (xs (i + 3)).toNatClampNeg)) (ub G (xs (i + 1)).toNatClampNeg (true)) (vp_updL V 0 ((0 : Int32).toInt64))) H := hP.sub [0, 1, 2, 3, 4, 5, 6, 8, 9, 10, 11, 12, 13, 14, 7] rfl
      have hD : va_D (fun z => s.heap.size ≤ z) (lW cI cZ cJ q r ob (upd A (xs (i + 1)).toNatClampNeg (A (xs (i + 2)).toNatClampNeg)) (upd B (xs (i + 1)).toNatClampNeg (B (xs (i + 2)).toNatClampNeg)) (upd T (xs (i + 1)).toNatClampNeg (T (xs (i + 2)).toNatClampNeg)) (upd P (xs (i + 1)).toNatClampNeg (P (xs (i + 2)).toNatClampNeg)) (upd Y (xs (i + 1)).toNatClampNeg (A (xs (i + 3)).toNatClampNeg)) (ub G (xs (i + 1)).toNatClampNeg (G (xs (i + 2)).toNatClampNeg)) (0) (upd A (xs (i + 1)).toNatClampNeg (A (xs (i + 2)).toNatClampNeg)) (upd B (xs (i + 1)).toNatClampNeg (B (xs (i + 2)).toNatClampNeg)) (upd T (xs (i + 1)).toNatClampNeg (T (xs (i + 2)).toNatClampNeg)) (upd P (xs (i + 1)).toNatClampNeg (P (xs (i + 2)).toNatClampNeg)) (upd Y (xs (i + 1)).toNatClampNeg (A (xs (i + 3)).toNatClampNeg)) (ub G (xs (i + 1)).toNatClampNeg (true)) (vp_updL V 0 ((0 : Int32).toInt64))) := hD.sub [0, 1, 2, 3, 4, 5, 6, 8, 9, 10, 11, 12, 13, 14, 7] (by decide) rfl
      refine W.eq (g2 := F0 m 497 ls [.int (0)]) rfl ?_
      refine lv_istore hx hb dL_law_497 hl (by decide) rfl (fun ls hl => ?_)
      have hl : lv_has ls 7 [(6, .int (0)), (5, .int (0)), (4, .int (nI i)), (3, .ref (ob)), (2, .ref (r 0)), (1, .ref (q 0)), (0, .ref (b))] := hl
      refine lv_aload_n hx hb dL_law_499 rfl (lv_at hl 4 rfl) ?_
      refine kr_V 0 (b := r 0) (As := []) (rest := []) (r := .int (0)) hx hb hml hown hts hl.1 (mM_thrown l D cJ cI cZ r (0) (upd A (xs (i + 1)).toNatClampNeg (A (xs (i + 2)).toNatClampNeg)) (upd B (xs (i + 1)).toNatClampNeg (B (xs (i + 2)).toNatClampNeg)) (upd T (xs (i + 1)).toNatClampNeg (T (xs (i + 2)).toNatClampNeg)) (upd P (xs (i + 1)).toNatClampNeg (P (xs (i + 2)).toNatClampNeg)) (upd Y (xs (i + 1)).toNatClampNeg (A (xs (i + 3)).toNatClampNeg)) (ub G (xs (i + 1)).toNatClampNeg (true))) rB_stb ⟨hP.sub (ws' := mW cJ cI cZ r (0) (upd A (xs (i + 1)).toNatClampNeg (A (xs (i + 2)).toNatClampNeg)) (upd B (xs (i + 1)).toNatClampNeg (B (xs (i + 2)).toNatClampNeg)) (upd T (xs (i + 1)).toNatClampNeg (T (xs (i + 2)).toNatClampNeg)) (upd P (xs (i + 1)).toNatClampNeg (P (xs (i + 2)).toNatClampNeg)) (upd Y (xs (i + 1)).toNatClampNeg (A (xs (i + 3)).toNatClampNeg)) (ub G (xs (i + 1)).toNatClampNeg (true))) [7, 8, 9, 10, 11, 12, 13] rfl, hK.sub (tys' := tsM cJ cI cZ) [2, 0, 1] rfl⟩ (gw_V w_278 w_279 w_280 w_15 w_281) (by decide) ⟨rfl, rfl⟩ ⟨Nat.le_of_ble_eq_true rfl, Nat.le_of_ble_eq_true rfl⟩ (va_recv hK hP (ci := 1) rfl (q0 := 7) rfl) rfl rfl (Nat.le_of_ble_eq_true rfl) dL_law_500 ⟨hc, hs⟩ ?_
      refine W.eq (g2 := F0 m 503 ls [.int (0)]) rfl ?_
      refine lv_iload hx hb dL_law_503 (lv_at hl 1 rfl) ?_
      refine lv_icmp_eq (tgt := 510) hx hb dL_law_505 (by decide) (fun h_1 => ?_) (fun h_1 => absurd (by decide) h_1)
      refine lv_iload hx hb dL_law_510 (lv_at hl 1 rfl) ?_
      refine lv_if_ne (tgt := 527) hx hb dL_law_512 (by decide) (fun h_2 => absurd (by decide) h_2) (fun h_2 => ?_)
      refine lv_aload_n hx hb dL_law_515 rfl (lv_at hl 3 rfl) ?_
      refine lv_iconst (v := 0) hx hb dL_law_516 (by decide) ?_
      refine va_lald hx hb hK hP 14 2 rfl rfl in01 dL_law_517 ?_
      refine W.eq (g2 := F0 m 518 ls [.long ((0 : Int32).toInt64)]) (by rw [show (0 : Int32).toNatClampNeg = 0 from rfl, pk_uLs] <;> rfl) ?_
      refine lv_iload hx hb dL_law_518 (lv_at hl 0 rfl) ?_
      refine lv_i2l (v := (0 : Int32).toInt64) hx hb dL_law_520 rfl ?_
      refine W.lcmp hx hb dL_law_521 ?_
      refine lv_if_eq (tgt := 527) hx hb dL_law_522 (by decide) (fun h_3 => ?_) (fun h_3 => absurd ((lg_cmp_eq _ _).mpr rfl) h_3)
      refine lv_goto (tgt := 882) hx hb dL_law_527 (by decide) ?_
      rw [se_G h3] at hP hD
      exact K _ _ _ _ _ _ _ _ (gd_upd hg (hg (xs (i + 2)).toNatClampNeg (in_cl h2.2.1)).1 (se_A h3)) _ _ _ hP hD hS (lv_sub hl [2, 3, 4, 5, 6] rfl)
    · refine lv_aload_n hx hb dL_law_450 rfl (lv_at hl 3 rfl) ?_
      refine la_ld (i := i) 1 (by decide) hx hb hX hbl hbA hS (lv_at hl 4 rfl) (lv_at hl 0 rfl) (by omega) hL dL_law_451 dL_law_452 dL_law_454 dL_law_455 dL_law_456 ?_
      refine la_ld (i := i) 2 (by decide) hx hb hX hbl hbA hS (lv_at hl 4 rfl) (lv_at hl 0 rfl) (by omega) hL dL_law_457 dL_law_458 dL_law_460 dL_law_461 dL_law_462 ?_
      refine la_ld (i := i) 3 (by decide) hx hb hX hbl hbA hS (lv_at hl 4 rfl) (lv_at hl 0 rfl) (by omega) hL dL_law_463 dL_law_464 dL_law_466 dL_law_467 dL_law_468 ?_
      refine lv_aload_n hx hb dL_law_469 rfl (lv_at hl 1 rfl) ?_
      refine kw_SX 5 [0, 1, 2, 3, 4, 5, 6, 14] [7, 8, 9, 10, 11, 12, 13] (As := [.ref (q 0), .int (xs (i + 1)), .int (xs (i + 2)), .int (xs (i + 3)), .ref (ob)]) (rest := []) (wc := oW cI cZ cJ q ob A B T P Y G V) (wr := mW cJ cI cZ r (e9) A B T P Y G) (w1 := oW cI cZ cJ q ob A B T P Y G (vp_updL V 0 ((ga_seal A B T P Y G (xs (i + 2)).toNatClampNeg (xs (i + 3)).toNatClampNeg).toInt64))) hx hb hml hown hts hl.1 hP hD hS hA hK hB hH (mL_seal_z l hst D cI cZ cJ q ob A B T P Y G V _ (xs (i + 1)) (xs (i + 2)) (xs (i + 3)) h2.1 h2.2.1 h2.2.2 h3) w_202 w_203 w_13 w_204 (by decide) ⟨rfl, rfl⟩ ⟨Nat.le_of_ble_eq_true rfl, Nat.le_of_ble_eq_true rfl⟩ rfl rfl (Nat.le_of_ble_eq_true rfl) dL_law_470 ⟨hc, hs⟩ rfl rfl ⟨by decide, by decide⟩ (by decide) (fun H locs hP hD hS => ?_)
      have hP : va_P D vwCl (lW cI cZ cJ q r ob A B T P Y G (e9) A B T P Y G (vp_updL V 0 ((ga_seal A B T P Y G (xs (i + 2)).toNatClampNeg (xs (i + 3)).toNatClampNeg).toInt64))) H := hP.sub [7, 8, 9, 10, 11, 12, 13, 0, 1, 2, 3, 4, 5, 6, 14] rfl
      have hD : va_D (fun z => s.heap.size ≤ z) (lW cI cZ cJ q r ob A B T P Y G (e9) A B T P Y G (vp_updL V 0 ((ga_seal A B T P Y G (xs (i + 2)).toNatClampNeg (xs (i + 3)).toNatClampNeg).toInt64))) := hD.sub [7, 8, 9, 10, 11, 12, 13, 0, 1, 2, 3, 4, 5, 6, 14] (by decide) rfl
      refine W.eq (g2 := F0 m 473 ls [.int (0)]) rfl ?_
      refine lv_istore hx hb dL_law_473 hl (by decide) rfl (fun ls hl => ?_)
      have hl : lv_has ls 7 [(5, .int (0)), (4, .int (nI i)), (3, .ref (ob)), (2, .ref (r 0)), (1, .ref (q 0)), (0, .ref (b))] := hl
      refine lv_aload_n hx hb dL_law_475 rfl (lv_at hl 3 rfl) ?_
      refine la_ld (i := i) 1 (by decide) hx hb hX hbl hbA hS (lv_at hl 5 rfl) (lv_at hl 1 rfl) (by omega) hL dL_law_476 dL_law_477 dL_law_479 dL_law_480 dL_law_481 ?_
      refine la_ld (i := i) 2 (by decide) hx hb hX hbl hbA hS (lv_at hl 5 rfl) (lv_at hl 1 rfl) (by omega) hL dL_law_482 dL_law_483 dL_law_485 dL_law_486 dL_law_487 ?_
      refine la_ld (i := i) 3 (by decide) hx hb hX hbl hbA hS (lv_at hl 5 rfl) (lv_at hl 1 rfl) (by omega) hL dL_law_488 dL_law_489 dL_law_491 dL_law_492 dL_law_493 ?_
      refine kw_V 3 [7, 8, 9, 10, 11, 12, 13] [0, 1, 2, 3, 4, 5, 6, 14] (b := r 0) (As := [.int (xs (i + 1)), .int (xs (i + 2)), .int (xs (i + 3))]) (rest := []) (wc := mW cJ cI cZ r (e9) A B T P Y G) (wr := xW cI cZ q A B T P Y G ++ [(ob, .inl (cJ, 1, .inr (.inl (vp_updL V 0 ((ga_seal A B T P Y G (xs (i + 2)).toNatClampNeg (xs (i + 3)).toNatClampNeg).toInt64)))))]) (w1 := mW cJ cI cZ r (0) A B T P Y G) hx hb hml hown hts hl.1 hP hD hS hA (hK.sub (tys' := tsM cJ cI cZ) [2, 0, 1] rfl) (mM_seal_n l D cJ cI cZ r (e9) A B T P Y G _ (xs (i + 1)) (xs (i + 2)) (xs (i + 3)) h2.1 h2.2.1 h2.2.2 h3) (gw_V w_326 w_327 w_328 w_15 w_329) (by decide) ⟨rfl, rfl⟩ ⟨Nat.le_of_ble_eq_true rfl, Nat.le_of_ble_eq_true rfl⟩ (va_recv hK hP (ci := 1) rfl (q0 := 7) rfl) rfl rfl (Nat.le_of_ble_eq_true rfl) dL_law_494 ⟨hc, hs⟩ rfl rfl ⟨by decide, by decide⟩ (by decide) (fun H locs hP hD hS => ?_)
      have hP : va_P D vwCl (lW cI cZ cJ q r ob A B T P Y G (0) A B T P Y G (vp_updL V 0 ((ga_seal A B T P Y G (xs (i + 2)).toNatClampNeg (xs (i + 3)).toNatClampNeg).toInt64))) H := hP.sub [0, 1, 2, 3, 4, 5, 6, 8, 9, 10, 11, 12, 13, 14, 7] rfl
      have hD : va_D (fun z => s.heap.size ≤ z) (lW cI cZ cJ q r ob A B T P Y G (0) A B T P Y G (vp_updL V 0 ((ga_seal A B T P Y G (xs (i + 2)).toNatClampNeg (xs (i + 3)).toNatClampNeg).toInt64))) := hD.sub [0, 1, 2, 3, 4, 5, 6, 8, 9, 10, 11, 12, 13, 14, 7] (by decide) rfl
      refine W.eq (g2 := F0 m 497 ls [.int (ga_seal A B T P Y G (xs (i + 2)).toNatClampNeg (xs (i + 3)).toNatClampNeg)]) rfl ?_
      refine lv_istore hx hb dL_law_497 hl (by decide) rfl (fun ls hl => ?_)
      have hl : lv_has ls 7 [(6, .int (ga_seal A B T P Y G (xs (i + 2)).toNatClampNeg (xs (i + 3)).toNatClampNeg)), (5, .int (0)), (4, .int (nI i)), (3, .ref (ob)), (2, .ref (r 0)), (1, .ref (q 0)), (0, .ref (b))] := hl
      refine lv_aload_n hx hb dL_law_499 rfl (lv_at hl 4 rfl) ?_
      refine kr_V 0 (b := r 0) (As := []) (rest := []) (r := .int (0)) hx hb hml hown hts hl.1 (mM_thrown l D cJ cI cZ r (0) A B T P Y G) rB_stb ⟨hP.sub (ws' := mW cJ cI cZ r (0) A B T P Y G) [7, 8, 9, 10, 11, 12, 13] rfl, hK.sub (tys' := tsM cJ cI cZ) [2, 0, 1] rfl⟩ (gw_V w_278 w_279 w_280 w_15 w_281) (by decide) ⟨rfl, rfl⟩ ⟨Nat.le_of_ble_eq_true rfl, Nat.le_of_ble_eq_true rfl⟩ (va_recv hK hP (ci := 1) rfl (q0 := 7) rfl) rfl rfl (Nat.le_of_ble_eq_true rfl) dL_law_500 ⟨hc, hs⟩ ?_
      refine W.eq (g2 := F0 m 503 ls [.int (0)]) rfl ?_
      refine lv_iload hx hb dL_law_503 (lv_at hl 1 rfl) ?_
      refine lv_icmp_eq (tgt := 510) hx hb dL_law_505 (by decide) (fun h_4 => ?_) (fun h_4 => absurd (by decide) h_4)
      refine lv_iload hx hb dL_law_510 (lv_at hl 1 rfl) ?_
      refine lv_if_ne (tgt := 527) hx hb dL_law_512 (by decide) (fun h_5 => absurd (by decide) h_5) (fun h_5 => ?_)
      refine lv_aload_n hx hb dL_law_515 rfl (lv_at hl 3 rfl) ?_
      refine lv_iconst (v := 0) hx hb dL_law_516 (by decide) ?_
      refine va_lald hx hb hK hP 14 2 rfl rfl in01 dL_law_517 ?_
      refine W.eq (g2 := F0 m 518 ls [.long ((ga_seal A B T P Y G (xs (i + 2)).toNatClampNeg (xs (i + 3)).toNatClampNeg).toInt64)]) (by rw [show (0 : Int32).toNatClampNeg = 0 from rfl, pk_uLs] <;> rfl) ?_
      refine lv_iload hx hb dL_law_518 (lv_at hl 0 rfl) ?_
      refine lv_i2l (v := (ga_seal A B T P Y G (xs (i + 2)).toNatClampNeg (xs (i + 3)).toNatClampNeg).toInt64) hx hb dL_law_520 rfl ?_
      refine W.lcmp hx hb dL_law_521 ?_
      refine lv_if_eq (tgt := 527) hx hb dL_law_522 (by decide) (fun h_6 => ?_) (fun h_6 => absurd ((lg_cmp_eq _ _).mpr rfl) h_6)
      refine lv_goto (tgt := 882) hx hb dL_law_527 (by decide) ?_
      exact K _ _ _ _ _ _ _ _ hg _ _ _ hP hD hS (lv_sub hl [2, 3, 4, 5, 6] rfl)
  · refine lv_aload_n hx hb dL_law_450 rfl (lv_at hl 3 rfl) ?_
    refine la_ld (i := i) 1 (by decide) hx hb hX hbl hbA hS (lv_at hl 4 rfl) (lv_at hl 0 rfl) (by omega) hL dL_law_451 dL_law_452 dL_law_454 dL_law_455 dL_law_456 ?_
    refine la_ld (i := i) 2 (by decide) hx hb hX hbl hbA hS (lv_at hl 4 rfl) (lv_at hl 0 rfl) (by omega) hL dL_law_457 dL_law_458 dL_law_460 dL_law_461 dL_law_462 ?_
    refine la_ld (i := i) 3 (by decide) hx hb hX hbl hbA hS (lv_at hl 4 rfl) (lv_at hl 0 rfl) (by omega) hL dL_law_463 dL_law_464 dL_law_466 dL_law_467 dL_law_468 ?_
    refine lv_aload_n hx hb dL_law_469 rfl (lv_at hl 1 rfl) ?_
    refine kw_SX 5 [0, 1, 2, 3, 4, 5, 6, 14] [7, 8, 9, 10, 11, 12, 13] (As := [.ref (q 0), .int (xs (i + 1)), .int (xs (i + 2)), .int (xs (i + 3)), .ref (ob)]) (rest := []) (wc := oW cI cZ cJ q ob A B T P Y G V) (wr := mW cJ cI cZ r (e9) A B T P Y G) (w1 := oW cI cZ cJ q ob A B T P Y G V) hx hb hml hown hts hl.1 hP hD hS hA hK hB hH (mL_seal_n l hst D cI cZ cJ q ob A B T P Y G V _ (xs (i + 1)) (xs (i + 2)) (xs (i + 3)) h2) w_202 w_203 w_13 w_204 (by decide) ⟨rfl, rfl⟩ ⟨Nat.le_of_ble_eq_true rfl, Nat.le_of_ble_eq_true rfl⟩ rfl rfl (Nat.le_of_ble_eq_true rfl) dL_law_470 ⟨hc, hs⟩ rfl rfl ⟨by decide, by decide⟩ (by decide) (fun H locs hP hD hS => ?_)
    have hP : va_P D vwCl (lW cI cZ cJ q r ob A B T P Y G (e9) A B T P Y G V) H := hP.sub [7, 8, 9, 10, 11, 12, 13, 0, 1, 2, 3, 4, 5, 6, 14] rfl
    have hD : va_D (fun z => s.heap.size ≤ z) (lW cI cZ cJ q r ob A B T P Y G (e9) A B T P Y G V) := hD.sub [7, 8, 9, 10, 11, 12, 13, 0, 1, 2, 3, 4, 5, 6, 14] (by decide) rfl
    refine W.eq (g2 := F0 m 473 ls [.int (1)]) rfl ?_
    refine lv_istore hx hb dL_law_473 hl (by decide) rfl (fun ls hl => ?_)
    have hl : lv_has ls 7 [(5, .int (1)), (4, .int (nI i)), (3, .ref (ob)), (2, .ref (r 0)), (1, .ref (q 0)), (0, .ref (b))] := hl
    refine lv_aload_n hx hb dL_law_475 rfl (lv_at hl 3 rfl) ?_
    refine la_ld (i := i) 1 (by decide) hx hb hX hbl hbA hS (lv_at hl 5 rfl) (lv_at hl 1 rfl) (by omega) hL dL_law_476 dL_law_477 dL_law_479 dL_law_480 dL_law_481 ?_
    refine la_ld (i := i) 2 (by decide) hx hb hX hbl hbA hS (lv_at hl 5 rfl) (lv_at hl 1 rfl) (by omega) hL dL_law_482 dL_law_483 dL_law_485 dL_law_486 dL_law_487 ?_
    refine la_ld (i := i) 3 (by decide) hx hb hX hbl hbA hS (lv_at hl 5 rfl) (lv_at hl 1 rfl) (by omega) hL dL_law_488 dL_law_489 dL_law_491 dL_law_492 dL_law_493 ?_
    refine kw_V 3 [7, 8, 9, 10, 11, 12, 13] [0, 1, 2, 3, 4, 5, 6, 14] (b := r 0) (As := [.int (xs (i + 1)), .int (xs (i + 2)), .int (xs (i + 3))]) (rest := []) (wc := mW cJ cI cZ r (e9) A B T P Y G) (wr := xW cI cZ q A B T P Y G ++ [(ob, .inl (cJ, 1, .inr (.inl V)))]) (w1 := mW cJ cI cZ r (1) A B T P Y G) hx hb hml hown hts hl.1 hP hD hS hA (hK.sub (tys' := tsM cJ cI cZ) [2, 0, 1] rfl) (mM_seal_x l D cJ cI cZ r (e9) A B T P Y G _ (xs (i + 1)) (xs (i + 2)) (xs (i + 3)) h2) (gw_V w_326 w_327 w_328 w_15 w_329) (by decide) ⟨rfl, rfl⟩ ⟨Nat.le_of_ble_eq_true rfl, Nat.le_of_ble_eq_true rfl⟩ (va_recv hK hP (ci := 1) rfl (q0 := 7) rfl) rfl rfl (Nat.le_of_ble_eq_true rfl) dL_law_494 ⟨hc, hs⟩ rfl rfl ⟨by decide, by decide⟩ (by decide) (fun H locs hP hD hS => ?_)
    have hP : va_P D vwCl (lW cI cZ cJ q r ob A B T P Y G (1) A B T P Y G V) H := hP.sub [0, 1, 2, 3, 4, 5, 6, 8, 9, 10, 11, 12, 13, 14, 7] rfl
    have hD : va_D (fun z => s.heap.size ≤ z) (lW cI cZ cJ q r ob A B T P Y G (1) A B T P Y G V) := hD.sub [0, 1, 2, 3, 4, 5, 6, 8, 9, 10, 11, 12, 13, 14, 7] (by decide) rfl
    refine W.eq (g2 := F0 m 497 ls [.int (0)]) rfl ?_
    refine lv_istore hx hb dL_law_497 hl (by decide) rfl (fun ls hl => ?_)
    have hl : lv_has ls 7 [(6, .int (0)), (5, .int (1)), (4, .int (nI i)), (3, .ref (ob)), (2, .ref (r 0)), (1, .ref (q 0)), (0, .ref (b))] := hl
    refine lv_aload_n hx hb dL_law_499 rfl (lv_at hl 4 rfl) ?_
    refine kr_V 0 (b := r 0) (As := []) (rest := []) (r := .int (1)) hx hb hml hown hts hl.1 (mM_thrown l D cJ cI cZ r (1) A B T P Y G) rB_stb ⟨hP.sub (ws' := mW cJ cI cZ r (1) A B T P Y G) [7, 8, 9, 10, 11, 12, 13] rfl, hK.sub (tys' := tsM cJ cI cZ) [2, 0, 1] rfl⟩ (gw_V w_278 w_279 w_280 w_15 w_281) (by decide) ⟨rfl, rfl⟩ ⟨Nat.le_of_ble_eq_true rfl, Nat.le_of_ble_eq_true rfl⟩ (va_recv hK hP (ci := 1) rfl (q0 := 7) rfl) rfl rfl (Nat.le_of_ble_eq_true rfl) dL_law_500 ⟨hc, hs⟩ ?_
    refine W.eq (g2 := F0 m 503 ls [.int (1)]) rfl ?_
    refine lv_iload hx hb dL_law_503 (lv_at hl 1 rfl) ?_
    refine lv_icmp_eq (tgt := 510) hx hb dL_law_505 (by decide) (fun h_7 => ?_) (fun h_7 => absurd (by decide) h_7)
    refine lv_iload hx hb dL_law_510 (lv_at hl 1 rfl) ?_
    refine lv_if_ne (tgt := 527) hx hb dL_law_512 (by decide) (fun h_8 => ?_) (fun h_8 => absurd h_8 (by decide))
    refine lv_goto (tgt := 882) hx hb dL_law_527 (by decide) ?_
    exact K _ _ _ _ _ _ _ _ hg _ _ _ hP hD hS (lv_sub hl [2, 3, 4, 5, 6] rfl)

set_option maxRecDepth 100000 in
set_option maxHeartbeats 4000000 in
theorem lc_unseal {p : Program} {l : Launch} {e : Env} {s : State} {m : MethodId} {below : List Frame} {meth : Method} {c : Code} {b L : Nat} {xs : Nat → Int32} {D : va_G} {cI cZ cJ : ClassId} {q r : Nat → Nat} {ob : Nat} (C : lC p l s m meth c b L xs D cI cZ cJ) {i cells slots : Nat} (hi : i + 5 ≤ L) (hc : cells + 1 ≤ 1044) (hs : slots + 6 ≤ 8428) {A B T P Y : Nat → Int32} {G : Nat → Bool} {V : Nat → Int64} {e9 : Int32} (hg : gd P Y) (K : ∀ (A B T P Y : Nat → Int32) (G : Nat → Bool) (V : Nat → Int64) (e9 : Int32), gd P Y → lS p l e s m below meth c b D cI cZ cJ q r ob i (cells + 1) (slots + 6) 882 A B T P Y G V e9) : lS p l e s m below meth c b D cI cZ cJ q r ob i cells slots 530 A B T P Y G V e9 := by
  obtain ⟨hx, hb, hr, hml, hown, hts, hX, hbl, hlocks, hst, hB, hK, hL⟩ := C
  intro H locs ls hP hD hS hl
  have hA : ∀ z : Nat, s.heap.size ≤ z → s.heap.size ≤ z := fun z h => h
  have hbA : ¬ s.heap.size ≤ b := Nat.not_le.mpr hbl
  have hH : ∀ z : Nat, z < s.heap.size → H[z]? = s.heap[z]? := fun z hz => hS.2.1 z hz (Nat.not_le.mpr hz)
  by_cases h2 : vp_in (xs (i + 1)) 16 ∧ vp_in (xs (i + 2)) 16 ∧ vp_in (xs (i + 3)) 16
  · by_cases h3 : ga_open A B T P Y G (xs (i + 2)).toNatClampNeg (xs (i + 3)).toNatClampNeg = 0
    · refine lv_aload_n hx hb dL_law_530 rfl (lv_at hl 3 rfl) ?_
      refine la_ld (i := i) 1 (by decide) hx hb hX hbl hbA hS (lv_at hl 4 rfl) (lv_at hl 0 rfl) (by omega) hL dL_law_531 dL_law_532 dL_law_534 dL_law_535 dL_law_536 ?_
      refine la_ld (i := i) 2 (by decide) hx hb hX hbl hbA hS (lv_at hl 4 rfl) (lv_at hl 0 rfl) (by omega) hL dL_law_537 dL_law_538 dL_law_540 dL_law_541 dL_law_542 ?_
      refine la_ld (i := i) 3 (by decide) hx hb hX hbl hbA hS (lv_at hl 4 rfl) (lv_at hl 0 rfl) (by omega) hL dL_law_543 dL_law_544 dL_law_546 dL_law_547 dL_law_548 ?_
      refine lv_aload_n hx hb dL_law_549 rfl (lv_at hl 1 rfl) ?_
      refine kw_SX 5 [0, 1, 2, 3, 4, 5, 6, 14] [7, 8, 9, 10, 11, 12, 13] (As := [.ref (q 0), .int (xs (i + 1)), .int (xs (i + 2)), .int (xs (i + 3)), .ref (ob)]) (rest := []) (wc := oW cI cZ cJ q ob A B T P Y G V) (wr := mW cJ cI cZ r (e9) A B T P Y G) (w1 := oW cI cZ cJ q ob (upd A (xs (i + 1)).toNatClampNeg (A (xs (i + 2)).toNatClampNeg)) (upd B (xs (i + 1)).toNatClampNeg (B (xs (i + 2)).toNatClampNeg)) (upd T (xs (i + 1)).toNatClampNeg (T (xs (i + 2)).toNatClampNeg)) (upd P (xs (i + 1)).toNatClampNeg (P (xs (i + 2)).toNatClampNeg)) (upd Y (xs (i + 1)).toNatClampNeg (0)) (ub G (xs (i + 1)).toNatClampNeg (G (xs (i + 2)).toNatClampNeg)) (vp_updL V 0 ((0 : Int32).toInt64))) hx hb hml hown hts hl.1 hP hD hS hA hK hB hH (mL_unseal_y l hst D cI cZ cJ q ob A B T P Y G V _ (xs (i + 1)) (xs (i + 2)) (xs (i + 3)) h2.1 h2.2.1 h2.2.2 h3) w_214 w_215 w_13 w_216 (by decide) ⟨rfl, rfl⟩ ⟨Nat.le_of_ble_eq_true rfl, Nat.le_of_ble_eq_true rfl⟩ rfl rfl (Nat.le_of_ble_eq_true rfl) dL_law_550 ⟨hc, hs⟩ rfl rfl ⟨by decide, by decide⟩ (by decide) (fun H locs hP hD hS => ?_)
      have hP : va_P D vwCl (lW cI cZ cJ q r ob (upd A (xs (i + 1)).toNatClampNeg (A (xs (i + 2)).toNatClampNeg)) (upd B (xs (i + 1)).toNatClampNeg (B (xs (i + 2)).toNatClampNeg)) (upd T (xs (i + 1)).toNatClampNeg (T (xs (i + 2)).toNatClampNeg)) (upd P (xs (i + 1)).toNatClampNeg (P (xs (i + 2)).toNatClampNeg)) (upd Y (xs (i + 1)).toNatClampNeg (0)) (ub G (xs (i + 1)).toNatClampNeg (G (xs (i + 2)).toNatClampNeg)) (e9) A B T P Y G (vp_updL V 0 ((0 : Int32).toInt64))) H := hP.sub [7, 8, 9, 10, 11, 12, 13, 0, 1, 2, 3, 4, 5, 6, 14] rfl
      have hD : va_D (fun z => s.heap.size ≤ z) (lW cI cZ cJ q r ob (upd A (xs (i + 1)).toNatClampNeg (A (xs (i + 2)).toNatClampNeg)) (upd B (xs (i + 1)).toNatClampNeg (B (xs (i + 2)).toNatClampNeg)) (upd T (xs (i + 1)).toNatClampNeg (T (xs (i + 2)).toNatClampNeg)) (upd P (xs (i + 1)).toNatClampNeg (P (xs (i + 2)).toNatClampNeg)) (upd Y (xs (i + 1)).toNatClampNeg (0)) (ub G (xs (i + 1)).toNatClampNeg (G (xs (i + 2)).toNatClampNeg)) (e9) A B T P Y G (vp_updL V 0 ((0 : Int32).toInt64))) := hD.sub [7, 8, 9, 10, 11, 12, 13, 0, 1, 2, 3, 4, 5, 6, 14] (by decide) rfl
      refine W.eq (g2 := F0 m 553 ls [.int (0)]) rfl ?_
      refine lv_istore hx hb dL_law_553 hl (by decide) rfl (fun ls hl => ?_)
      have hl : lv_has ls 7 [(5, .int (0)), (4, .int (nI i)), (3, .ref (ob)), (2, .ref (r 0)), (1, .ref (q 0)), (0, .ref (b))] := hl
      refine lv_aload_n hx hb dL_law_555 rfl (lv_at hl 3 rfl) ?_
      refine la_ld (i := i) 1 (by decide) hx hb hX hbl hbA hS (lv_at hl 5 rfl) (lv_at hl 1 rfl) (by omega) hL dL_law_556 dL_law_557 dL_law_559 dL_law_560 dL_law_561 ?_
      refine la_ld (i := i) 2 (by decide) hx hb hX hbl hbA hS (lv_at hl 5 rfl) (lv_at hl 1 rfl) (by omega) hL dL_law_562 dL_law_563 dL_law_565 dL_law_566 dL_law_567 ?_
      refine la_ld (i := i) 3 (by decide) hx hb hX hbl hbA hS (lv_at hl 5 rfl) (lv_at hl 1 rfl) (by omega) hL dL_law_568 dL_law_569 dL_law_571 dL_law_572 dL_law_573 ?_
      refine kw_V 3 [7, 8, 9, 10, 11, 12, 13] [0, 1, 2, 3, 4, 5, 6, 14] (b := r 0) (As := [.int (xs (i + 1)), .int (xs (i + 2)), .int (xs (i + 3))]) (rest := []) (wc := mW cJ cI cZ r (e9) A B T P Y G) (wr := xW cI cZ q (upd A (xs (i + 1)).toNatClampNeg (A (xs (i + 2)).toNatClampNeg)) (upd B (xs (i + 1)).toNatClampNeg (B (xs (i + 2)).toNatClampNeg)) (upd T (xs (i + 1)).toNatClampNeg (T (xs (i + 2)).toNatClampNeg)) (upd P (xs (i + 1)).toNatClampNeg (P (xs (i + 2)).toNatClampNeg)) (upd Y (xs (i + 1)).toNatClampNeg (0)) (ub G (xs (i + 1)).toNatClampNeg (G (xs (i + 2)).toNatClampNeg)) ++ [(ob, .inl (cJ, 1, .inr (.inl (vp_updL V 0 ((0 : Int32).toInt64)))))]) (w1 := mW cJ cI cZ r (0) (upd A (xs (i + 1)).toNatClampNeg (A (xs (i + 2)).toNatClampNeg)) (upd B (xs (i + 1)).toNatClampNeg (B (xs (i + 2)).toNatClampNeg)) (upd T (xs (i + 1)).toNatClampNeg (T (xs (i + 2)).toNatClampNeg)) (upd P (xs (i + 1)).toNatClampNeg (P (xs (i + 2)).toNatClampNeg)) (upd Y (xs (i + 1)).toNatClampNeg (0)) (ub G (xs (i + 1)).toNatClampNeg (true))) hx hb hml hown hts hl.1 hP hD hS hA (hK.sub (tys' := tsM cJ cI cZ) [2, 0, 1] rfl) (mM_unseal_y l D cJ cI cZ r (e9) A B T P Y G _ (xs (i + 1)) (xs (i + 2)) (xs (i + 3)) h2.1 h2.2.1 h2.2.2 (hg (xs (i + 2)).toNatClampNeg (in_cl h2.2.1)).2 h3) (gw_V w_339 w_340 w_341 w_15 w_342) (by decide) ⟨rfl, rfl⟩ ⟨Nat.le_of_ble_eq_true rfl, Nat.le_of_ble_eq_true rfl⟩ (va_recv hK hP (ci := 1) rfl (q0 := 7) rfl) rfl rfl (Nat.le_of_ble_eq_true rfl) dL_law_574 ⟨hc, hs⟩ rfl rfl ⟨by decide, by decide⟩ (by decide) (fun H locs hP hD hS => ?_)
      have hP : va_P D vwCl (lW cI cZ cJ q r ob (upd A (xs (i + 1)).toNatClampNeg (A (xs (i + 2)).toNatClampNeg)) (upd B (xs (i + 1)).toNatClampNeg (B (xs (i + 2)).toNatClampNeg)) (upd T (xs (i + 1)).toNatClampNeg (T (xs (i + 2)).toNatClampNeg)) (upd P (xs (i + 1)).toNatClampNeg (P (xs (i + 2)).toNatClampNeg)) (upd Y (xs (i + 1)).toNatClampNeg (0)) (ub G (xs (i + 1)).toNatClampNeg (G (xs (i + 2)).toNatClampNeg)) (0) (upd A (xs (i + 1)).toNatClampNeg (A (xs (i + 2)).toNatClampNeg)) (upd B (xs (i + 1)).toNatClampNeg (B (xs (i + 2)).toNatClampNeg)) (upd T (xs (i + 1)).toNatClampNeg (T (xs (i + 2)).toNatClampNeg)) (upd P (xs (i + 1)).toNatClampNeg (P (xs (i + 2)).toNatClampNeg)) (upd Y (xs (i + 1)).toNatClampNeg (0)) (ub G (xs (i + 1)).toNatClampNeg (true)) (vp_updL V 0 ((0 : Int32).toInt64))) H := hP.sub [0, 1, 2, 3, 4, 5, 6, 8, 9, 10, 11, 12, 13, 14, 7] rfl
      have hD : va_D (fun z => s.heap.size ≤ z) (lW cI cZ cJ q r ob (upd A (xs (i + 1)).toNatClampNeg (A (xs (i + 2)).toNatClampNeg)) (upd B (xs (i + 1)).toNatClampNeg (B (xs (i + 2)).toNatClampNeg)) (upd T (xs (i + 1)).toNatClampNeg (T (xs (i + 2)).toNatClampNeg)) (upd P (xs (i + 1)).toNatClampNeg (P (xs (i + 2)).toNatClampNeg)) (upd Y (xs (i + 1)).toNatClampNeg (0)) (ub G (xs (i + 1)).toNatClampNeg (G (xs (i + 2)).toNatClampNeg)) (0) (upd A (xs (i + 1)).toNatClampNeg (A (xs (i + 2)).toNatClampNeg)) (upd B (xs (i + 1)).toNatClampNeg (B (xs (i + 2)).toNatClampNeg)) (upd T (xs (i + 1)).toNatClampNeg (T (xs (i + 2)).toNatClampNeg)) (upd P (xs (i + 1)).toNatClampNeg (P (xs (i + 2)).toNatClampNeg)) (upd Y (xs (i + 1)).toNatClampNeg (0)) (ub G (xs (i + 1)).toNatClampNeg (true)) (vp_updL V 0 ((0 : Int32).toInt64))) := hD.sub [0, 1, 2, 3, 4, 5, 6, 8, 9, 10, 11, 12, 13, 14, 7] (by decide) rfl
      refine W.eq (g2 := F0 m 577 ls [.int (0)]) rfl ?_
      refine lv_istore hx hb dL_law_577 hl (by decide) rfl (fun ls hl => ?_)
      have hl : lv_has ls 7 [(6, .int (0)), (5, .int (0)), (4, .int (nI i)), (3, .ref (ob)), (2, .ref (r 0)), (1, .ref (q 0)), (0, .ref (b))] := hl
      refine lv_aload_n hx hb dL_law_579 rfl (lv_at hl 4 rfl) ?_
      refine kr_V 0 (b := r 0) (As := []) (rest := []) (r := .int (0)) hx hb hml hown hts hl.1 (mM_thrown l D cJ cI cZ r (0) (upd A (xs (i + 1)).toNatClampNeg (A (xs (i + 2)).toNatClampNeg)) (upd B (xs (i + 1)).toNatClampNeg (B (xs (i + 2)).toNatClampNeg)) (upd T (xs (i + 1)).toNatClampNeg (T (xs (i + 2)).toNatClampNeg)) (upd P (xs (i + 1)).toNatClampNeg (P (xs (i + 2)).toNatClampNeg)) (upd Y (xs (i + 1)).toNatClampNeg (0)) (ub G (xs (i + 1)).toNatClampNeg (true))) rB_stb ⟨hP.sub (ws' := mW cJ cI cZ r (0) (upd A (xs (i + 1)).toNatClampNeg (A (xs (i + 2)).toNatClampNeg)) (upd B (xs (i + 1)).toNatClampNeg (B (xs (i + 2)).toNatClampNeg)) (upd T (xs (i + 1)).toNatClampNeg (T (xs (i + 2)).toNatClampNeg)) (upd P (xs (i + 1)).toNatClampNeg (P (xs (i + 2)).toNatClampNeg)) (upd Y (xs (i + 1)).toNatClampNeg (0)) (ub G (xs (i + 1)).toNatClampNeg (true))) [7, 8, 9, 10, 11, 12, 13] rfl, hK.sub (tys' := tsM cJ cI cZ) [2, 0, 1] rfl⟩ (gw_V w_278 w_279 w_280 w_15 w_281) (by decide) ⟨rfl, rfl⟩ ⟨Nat.le_of_ble_eq_true rfl, Nat.le_of_ble_eq_true rfl⟩ (va_recv hK hP (ci := 1) rfl (q0 := 7) rfl) rfl rfl (Nat.le_of_ble_eq_true rfl) dL_law_580 ⟨hc, hs⟩ ?_
      refine W.eq (g2 := F0 m 583 ls [.int (0)]) rfl ?_
      refine lv_iload hx hb dL_law_583 (lv_at hl 1 rfl) ?_
      refine lv_icmp_eq (tgt := 590) hx hb dL_law_585 (by decide) (fun h_1 => ?_) (fun h_1 => absurd (by decide) h_1)
      refine lv_iload hx hb dL_law_590 (lv_at hl 1 rfl) ?_
      refine lv_if_ne (tgt := 607) hx hb dL_law_592 (by decide) (fun h_2 => absurd (by decide) h_2) (fun h_2 => ?_)
      refine lv_aload_n hx hb dL_law_595 rfl (lv_at hl 3 rfl) ?_
      refine lv_iconst (v := 0) hx hb dL_law_596 (by decide) ?_
      refine va_lald hx hb hK hP 14 2 rfl rfl in01 dL_law_597 ?_
      refine W.eq (g2 := F0 m 598 ls [.long ((0 : Int32).toInt64)]) (by rw [show (0 : Int32).toNatClampNeg = 0 from rfl, pk_uLs] <;> rfl) ?_
      refine lv_iload hx hb dL_law_598 (lv_at hl 0 rfl) ?_
      refine lv_i2l (v := (0 : Int32).toInt64) hx hb dL_law_600 rfl ?_
      refine W.lcmp hx hb dL_law_601 ?_
      refine lv_if_eq (tgt := 607) hx hb dL_law_602 (by decide) (fun h_3 => ?_) (fun h_3 => absurd ((lg_cmp_eq _ _).mpr rfl) h_3)
      refine lv_goto (tgt := 882) hx hb dL_law_607 (by decide) ?_
      rw [op_G h3] at hP hD
      exact K _ _ _ _ _ _ _ _ (gd_upd hg (hg (xs (i + 2)).toNatClampNeg (in_cl h2.2.1)).1 (by decide)) _ _ _ hP hD hS (lv_sub hl [2, 3, 4, 5, 6] rfl)
    · refine lv_aload_n hx hb dL_law_530 rfl (lv_at hl 3 rfl) ?_
      refine la_ld (i := i) 1 (by decide) hx hb hX hbl hbA hS (lv_at hl 4 rfl) (lv_at hl 0 rfl) (by omega) hL dL_law_531 dL_law_532 dL_law_534 dL_law_535 dL_law_536 ?_
      refine la_ld (i := i) 2 (by decide) hx hb hX hbl hbA hS (lv_at hl 4 rfl) (lv_at hl 0 rfl) (by omega) hL dL_law_537 dL_law_538 dL_law_540 dL_law_541 dL_law_542 ?_
      refine la_ld (i := i) 3 (by decide) hx hb hX hbl hbA hS (lv_at hl 4 rfl) (lv_at hl 0 rfl) (by omega) hL dL_law_543 dL_law_544 dL_law_546 dL_law_547 dL_law_548 ?_
      refine lv_aload_n hx hb dL_law_549 rfl (lv_at hl 1 rfl) ?_
      refine kw_SX 5 [0, 1, 2, 3, 4, 5, 6, 14] [7, 8, 9, 10, 11, 12, 13] (As := [.ref (q 0), .int (xs (i + 1)), .int (xs (i + 2)), .int (xs (i + 3)), .ref (ob)]) (rest := []) (wc := oW cI cZ cJ q ob A B T P Y G V) (wr := mW cJ cI cZ r (e9) A B T P Y G) (w1 := oW cI cZ cJ q ob A B T P Y G (vp_updL V 0 ((ga_open A B T P Y G (xs (i + 2)).toNatClampNeg (xs (i + 3)).toNatClampNeg).toInt64))) hx hb hml hown hts hl.1 hP hD hS hA hK hB hH (mL_unseal_z l hst D cI cZ cJ q ob A B T P Y G V _ (xs (i + 1)) (xs (i + 2)) (xs (i + 3)) h2.1 h2.2.1 h2.2.2 h3) w_214 w_215 w_13 w_216 (by decide) ⟨rfl, rfl⟩ ⟨Nat.le_of_ble_eq_true rfl, Nat.le_of_ble_eq_true rfl⟩ rfl rfl (Nat.le_of_ble_eq_true rfl) dL_law_550 ⟨hc, hs⟩ rfl rfl ⟨by decide, by decide⟩ (by decide) (fun H locs hP hD hS => ?_)
      have hP : va_P D vwCl (lW cI cZ cJ q r ob A B T P Y G (e9) A B T P Y G (vp_updL V 0 ((ga_open A B T P Y G (xs (i + 2)).toNatClampNeg (xs (i + 3)).toNatClampNeg).toInt64))) H := hP.sub [7, 8, 9, 10, 11, 12, 13, 0, 1, 2, 3, 4, 5, 6, 14] rfl
      have hD : va_D (fun z => s.heap.size ≤ z) (lW cI cZ cJ q r ob A B T P Y G (e9) A B T P Y G (vp_updL V 0 ((ga_open A B T P Y G (xs (i + 2)).toNatClampNeg (xs (i + 3)).toNatClampNeg).toInt64))) := hD.sub [7, 8, 9, 10, 11, 12, 13, 0, 1, 2, 3, 4, 5, 6, 14] (by decide) rfl
      refine W.eq (g2 := F0 m 553 ls [.int (0)]) rfl ?_
      refine lv_istore hx hb dL_law_553 hl (by decide) rfl (fun ls hl => ?_)
      have hl : lv_has ls 7 [(5, .int (0)), (4, .int (nI i)), (3, .ref (ob)), (2, .ref (r 0)), (1, .ref (q 0)), (0, .ref (b))] := hl
      refine lv_aload_n hx hb dL_law_555 rfl (lv_at hl 3 rfl) ?_
      refine la_ld (i := i) 1 (by decide) hx hb hX hbl hbA hS (lv_at hl 5 rfl) (lv_at hl 1 rfl) (by omega) hL dL_law_556 dL_law_557 dL_law_559 dL_law_560 dL_law_561 ?_
      refine la_ld (i := i) 2 (by decide) hx hb hX hbl hbA hS (lv_at hl 5 rfl) (lv_at hl 1 rfl) (by omega) hL dL_law_562 dL_law_563 dL_law_565 dL_law_566 dL_law_567 ?_
      refine la_ld (i := i) 3 (by decide) hx hb hX hbl hbA hS (lv_at hl 5 rfl) (lv_at hl 1 rfl) (by omega) hL dL_law_568 dL_law_569 dL_law_571 dL_law_572 dL_law_573 ?_
      refine kw_V 3 [7, 8, 9, 10, 11, 12, 13] [0, 1, 2, 3, 4, 5, 6, 14] (b := r 0) (As := [.int (xs (i + 1)), .int (xs (i + 2)), .int (xs (i + 3))]) (rest := []) (wc := mW cJ cI cZ r (e9) A B T P Y G) (wr := xW cI cZ q A B T P Y G ++ [(ob, .inl (cJ, 1, .inr (.inl (vp_updL V 0 ((ga_open A B T P Y G (xs (i + 2)).toNatClampNeg (xs (i + 3)).toNatClampNeg).toInt64)))))]) (w1 := mW cJ cI cZ r (0) A B T P Y G) hx hb hml hown hts hl.1 hP hD hS hA (hK.sub (tys' := tsM cJ cI cZ) [2, 0, 1] rfl) (mM_unseal_n l D cJ cI cZ r (e9) A B T P Y G _ (xs (i + 1)) (xs (i + 2)) (xs (i + 3)) h2.1 h2.2.1 h2.2.2 (hg (xs (i + 2)).toNatClampNeg (in_cl h2.2.1)).2 h3) (gw_V w_339 w_340 w_341 w_15 w_342) (by decide) ⟨rfl, rfl⟩ ⟨Nat.le_of_ble_eq_true rfl, Nat.le_of_ble_eq_true rfl⟩ (va_recv hK hP (ci := 1) rfl (q0 := 7) rfl) rfl rfl (Nat.le_of_ble_eq_true rfl) dL_law_574 ⟨hc, hs⟩ rfl rfl ⟨by decide, by decide⟩ (by decide) (fun H locs hP hD hS => ?_)
      have hP : va_P D vwCl (lW cI cZ cJ q r ob A B T P Y G (0) A B T P Y G (vp_updL V 0 ((ga_open A B T P Y G (xs (i + 2)).toNatClampNeg (xs (i + 3)).toNatClampNeg).toInt64))) H := hP.sub [0, 1, 2, 3, 4, 5, 6, 8, 9, 10, 11, 12, 13, 14, 7] rfl
      have hD : va_D (fun z => s.heap.size ≤ z) (lW cI cZ cJ q r ob A B T P Y G (0) A B T P Y G (vp_updL V 0 ((ga_open A B T P Y G (xs (i + 2)).toNatClampNeg (xs (i + 3)).toNatClampNeg).toInt64))) := hD.sub [0, 1, 2, 3, 4, 5, 6, 8, 9, 10, 11, 12, 13, 14, 7] (by decide) rfl
      refine W.eq (g2 := F0 m 577 ls [.int (ga_open A B T P Y G (xs (i + 2)).toNatClampNeg (xs (i + 3)).toNatClampNeg)]) rfl ?_
      refine lv_istore hx hb dL_law_577 hl (by decide) rfl (fun ls hl => ?_)
      have hl : lv_has ls 7 [(6, .int (ga_open A B T P Y G (xs (i + 2)).toNatClampNeg (xs (i + 3)).toNatClampNeg)), (5, .int (0)), (4, .int (nI i)), (3, .ref (ob)), (2, .ref (r 0)), (1, .ref (q 0)), (0, .ref (b))] := hl
      refine lv_aload_n hx hb dL_law_579 rfl (lv_at hl 4 rfl) ?_
      refine kr_V 0 (b := r 0) (As := []) (rest := []) (r := .int (0)) hx hb hml hown hts hl.1 (mM_thrown l D cJ cI cZ r (0) A B T P Y G) rB_stb ⟨hP.sub (ws' := mW cJ cI cZ r (0) A B T P Y G) [7, 8, 9, 10, 11, 12, 13] rfl, hK.sub (tys' := tsM cJ cI cZ) [2, 0, 1] rfl⟩ (gw_V w_278 w_279 w_280 w_15 w_281) (by decide) ⟨rfl, rfl⟩ ⟨Nat.le_of_ble_eq_true rfl, Nat.le_of_ble_eq_true rfl⟩ (va_recv hK hP (ci := 1) rfl (q0 := 7) rfl) rfl rfl (Nat.le_of_ble_eq_true rfl) dL_law_580 ⟨hc, hs⟩ ?_
      refine W.eq (g2 := F0 m 583 ls [.int (0)]) rfl ?_
      refine lv_iload hx hb dL_law_583 (lv_at hl 1 rfl) ?_
      refine lv_icmp_eq (tgt := 590) hx hb dL_law_585 (by decide) (fun h_4 => ?_) (fun h_4 => absurd (by decide) h_4)
      refine lv_iload hx hb dL_law_590 (lv_at hl 1 rfl) ?_
      refine lv_if_ne (tgt := 607) hx hb dL_law_592 (by decide) (fun h_5 => absurd (by decide) h_5) (fun h_5 => ?_)
      refine lv_aload_n hx hb dL_law_595 rfl (lv_at hl 3 rfl) ?_
      refine lv_iconst (v := 0) hx hb dL_law_596 (by decide) ?_
      refine va_lald hx hb hK hP 14 2 rfl rfl in01 dL_law_597 ?_
      refine W.eq (g2 := F0 m 598 ls [.long ((ga_open A B T P Y G (xs (i + 2)).toNatClampNeg (xs (i + 3)).toNatClampNeg).toInt64)]) (by rw [show (0 : Int32).toNatClampNeg = 0 from rfl, pk_uLs] <;> rfl) ?_
      refine lv_iload hx hb dL_law_598 (lv_at hl 0 rfl) ?_
      refine lv_i2l (v := (ga_open A B T P Y G (xs (i + 2)).toNatClampNeg (xs (i + 3)).toNatClampNeg).toInt64) hx hb dL_law_600 rfl ?_
      refine W.lcmp hx hb dL_law_601 ?_
      refine lv_if_eq (tgt := 607) hx hb dL_law_602 (by decide) (fun h_6 => ?_) (fun h_6 => absurd ((lg_cmp_eq _ _).mpr rfl) h_6)
      refine lv_goto (tgt := 882) hx hb dL_law_607 (by decide) ?_
      exact K _ _ _ _ _ _ _ _ hg _ _ _ hP hD hS (lv_sub hl [2, 3, 4, 5, 6] rfl)
  · refine lv_aload_n hx hb dL_law_530 rfl (lv_at hl 3 rfl) ?_
    refine la_ld (i := i) 1 (by decide) hx hb hX hbl hbA hS (lv_at hl 4 rfl) (lv_at hl 0 rfl) (by omega) hL dL_law_531 dL_law_532 dL_law_534 dL_law_535 dL_law_536 ?_
    refine la_ld (i := i) 2 (by decide) hx hb hX hbl hbA hS (lv_at hl 4 rfl) (lv_at hl 0 rfl) (by omega) hL dL_law_537 dL_law_538 dL_law_540 dL_law_541 dL_law_542 ?_
    refine la_ld (i := i) 3 (by decide) hx hb hX hbl hbA hS (lv_at hl 4 rfl) (lv_at hl 0 rfl) (by omega) hL dL_law_543 dL_law_544 dL_law_546 dL_law_547 dL_law_548 ?_
    refine lv_aload_n hx hb dL_law_549 rfl (lv_at hl 1 rfl) ?_
    refine kw_SX 5 [0, 1, 2, 3, 4, 5, 6, 14] [7, 8, 9, 10, 11, 12, 13] (As := [.ref (q 0), .int (xs (i + 1)), .int (xs (i + 2)), .int (xs (i + 3)), .ref (ob)]) (rest := []) (wc := oW cI cZ cJ q ob A B T P Y G V) (wr := mW cJ cI cZ r (e9) A B T P Y G) (w1 := oW cI cZ cJ q ob A B T P Y G V) hx hb hml hown hts hl.1 hP hD hS hA hK hB hH (mL_unseal_n l hst D cI cZ cJ q ob A B T P Y G V _ (xs (i + 1)) (xs (i + 2)) (xs (i + 3)) h2) w_214 w_215 w_13 w_216 (by decide) ⟨rfl, rfl⟩ ⟨Nat.le_of_ble_eq_true rfl, Nat.le_of_ble_eq_true rfl⟩ rfl rfl (Nat.le_of_ble_eq_true rfl) dL_law_550 ⟨hc, hs⟩ rfl rfl ⟨by decide, by decide⟩ (by decide) (fun H locs hP hD hS => ?_)
    have hP : va_P D vwCl (lW cI cZ cJ q r ob A B T P Y G (e9) A B T P Y G V) H := hP.sub [7, 8, 9, 10, 11, 12, 13, 0, 1, 2, 3, 4, 5, 6, 14] rfl
    have hD : va_D (fun z => s.heap.size ≤ z) (lW cI cZ cJ q r ob A B T P Y G (e9) A B T P Y G V) := hD.sub [7, 8, 9, 10, 11, 12, 13, 0, 1, 2, 3, 4, 5, 6, 14] (by decide) rfl
    refine W.eq (g2 := F0 m 553 ls [.int (1)]) rfl ?_
    refine lv_istore hx hb dL_law_553 hl (by decide) rfl (fun ls hl => ?_)
    have hl : lv_has ls 7 [(5, .int (1)), (4, .int (nI i)), (3, .ref (ob)), (2, .ref (r 0)), (1, .ref (q 0)), (0, .ref (b))] := hl
    refine lv_aload_n hx hb dL_law_555 rfl (lv_at hl 3 rfl) ?_
    refine la_ld (i := i) 1 (by decide) hx hb hX hbl hbA hS (lv_at hl 5 rfl) (lv_at hl 1 rfl) (by omega) hL dL_law_556 dL_law_557 dL_law_559 dL_law_560 dL_law_561 ?_
    refine la_ld (i := i) 2 (by decide) hx hb hX hbl hbA hS (lv_at hl 5 rfl) (lv_at hl 1 rfl) (by omega) hL dL_law_562 dL_law_563 dL_law_565 dL_law_566 dL_law_567 ?_
    refine la_ld (i := i) 3 (by decide) hx hb hX hbl hbA hS (lv_at hl 5 rfl) (lv_at hl 1 rfl) (by omega) hL dL_law_568 dL_law_569 dL_law_571 dL_law_572 dL_law_573 ?_
    refine kw_V 3 [7, 8, 9, 10, 11, 12, 13] [0, 1, 2, 3, 4, 5, 6, 14] (b := r 0) (As := [.int (xs (i + 1)), .int (xs (i + 2)), .int (xs (i + 3))]) (rest := []) (wc := mW cJ cI cZ r (e9) A B T P Y G) (wr := xW cI cZ q A B T P Y G ++ [(ob, .inl (cJ, 1, .inr (.inl V)))]) (w1 := mW cJ cI cZ r (1) A B T P Y G) hx hb hml hown hts hl.1 hP hD hS hA (hK.sub (tys' := tsM cJ cI cZ) [2, 0, 1] rfl) (mM_unseal_x l D cJ cI cZ r (e9) A B T P Y G _ (xs (i + 1)) (xs (i + 2)) (xs (i + 3)) h2) (gw_V w_339 w_340 w_341 w_15 w_342) (by decide) ⟨rfl, rfl⟩ ⟨Nat.le_of_ble_eq_true rfl, Nat.le_of_ble_eq_true rfl⟩ (va_recv hK hP (ci := 1) rfl (q0 := 7) rfl) rfl rfl (Nat.le_of_ble_eq_true rfl) dL_law_574 ⟨hc, hs⟩ rfl rfl ⟨by decide, by decide⟩ (by decide) (fun H locs hP hD hS => ?_)
    have hP : va_P D vwCl (lW cI cZ cJ q r ob A B T P Y G (1) A B T P Y G V) H := hP.sub [0, 1, 2, 3, 4, 5, 6, 8, 9, 10, 11, 12, 13, 14, 7] rfl
    have hD : va_D (fun z => s.heap.size ≤ z) (lW cI cZ cJ q r ob A B T P Y G (1) A B T P Y G V) := hD.sub [0, 1, 2, 3, 4, 5, 6, 8, 9, 10, 11, 12, 13, 14, 7] (by decide) rfl
    refine W.eq (g2 := F0 m 577 ls [.int (0)]) rfl ?_
    refine lv_istore hx hb dL_law_577 hl (by decide) rfl (fun ls hl => ?_)
    have hl : lv_has ls 7 [(6, .int (0)), (5, .int (1)), (4, .int (nI i)), (3, .ref (ob)), (2, .ref (r 0)), (1, .ref (q 0)), (0, .ref (b))] := hl
    refine lv_aload_n hx hb dL_law_579 rfl (lv_at hl 4 rfl) ?_
    refine kr_V 0 (b := r 0) (As := []) (rest := []) (r := .int (1)) hx hb hml hown hts hl.1 (mM_thrown l D cJ cI cZ r (1) A B T P Y G) rB_stb ⟨hP.sub (ws' := mW cJ cI cZ r (1) A B T P Y G) [7, 8, 9, 10, 11, 12, 13] rfl, hK.sub (tys' := tsM cJ cI cZ) [2, 0, 1] rfl⟩ (gw_V w_278 w_279 w_280 w_15 w_281) (by decide) ⟨rfl, rfl⟩ ⟨Nat.le_of_ble_eq_true rfl, Nat.le_of_ble_eq_true rfl⟩ (va_recv hK hP (ci := 1) rfl (q0 := 7) rfl) rfl rfl (Nat.le_of_ble_eq_true rfl) dL_law_580 ⟨hc, hs⟩ ?_
    refine W.eq (g2 := F0 m 583 ls [.int (1)]) rfl ?_
    refine lv_iload hx hb dL_law_583 (lv_at hl 1 rfl) ?_
    refine lv_icmp_eq (tgt := 590) hx hb dL_law_585 (by decide) (fun h_7 => ?_) (fun h_7 => absurd (by decide) h_7)
    refine lv_iload hx hb dL_law_590 (lv_at hl 1 rfl) ?_
    refine lv_if_ne (tgt := 607) hx hb dL_law_592 (by decide) (fun h_8 => ?_) (fun h_8 => absurd h_8 (by decide))
    refine lv_goto (tgt := 882) hx hb dL_law_607 (by decide) ?_
    exact K _ _ _ _ _ _ _ _ hg _ _ _ hP hD hS (lv_sub hl [2, 3, 4, 5, 6] rfl)

set_option maxRecDepth 100000 in
set_option maxHeartbeats 4000000 in
theorem lc_allows {p : Program} {l : Launch} {e : Env} {s : State} {m : MethodId} {below : List Frame} {meth : Method} {c : Code} {b L : Nat} {xs : Nat → Int32} {D : va_G} {cI cZ cJ : ClassId} {q r : Nat → Nat} {ob : Nat} (C : lC p l s m meth c b L xs D cI cZ cJ) {i cells slots : Nat} (hi : i + 5 ≤ L) (hc : cells + 1 ≤ 1044) (hs : slots + 6 ≤ 8428) {A B T P Y : Nat → Int32} {G : Nat → Bool} {V : Nat → Int64} {e9 : Int32} (hg : gd P Y) (K : ∀ (A B T P Y : Nat → Int32) (G : Nat → Bool) (V : Nat → Int64) (e9 : Int32), gd P Y → lS p l e s m below meth c b D cI cZ cJ q r ob i (cells + 1) (slots + 6) 882 A B T P Y G V e9) : lS p l e s m below meth c b D cI cZ cJ q r ob i cells slots 610 A B T P Y G V e9 := by
  obtain ⟨hx, hb, hr, hml, hown, hts, hX, hbl, hlocks, hst, hB, hK, hL⟩ := C
  intro H locs ls hP hD hS hl
  have hA : ∀ z : Nat, s.heap.size ≤ z → s.heap.size ≤ z := fun z h => h
  have hbA : ¬ s.heap.size ≤ b := Nat.not_le.mpr hbl
  have hH : ∀ z : Nat, z < s.heap.size → H[z]? = s.heap[z]? := fun z hz => hS.2.1 z hz (Nat.not_le.mpr hz)
  by_cases h1 : ¬ (xs (i + 3)) < 0 ∧ (xs (i + 3)) ≤ 65536
  · by_cases h2 : vp_in (xs (i + 1)) 16
    · obtain ⟨n, hn, hn2⟩ : ∃ n : Nat, n ≤ 65536 ∧ (xs (i + 3)) = nI n := nI_of2 (M := 65536) (n := 65536) (by decide) h1.1 h1.2
      refine lv_aload_n hx hb dL_law_610 rfl (lv_at hl 3 rfl) ?_
      refine la_ld (i := i) 1 (by decide) hx hb hX hbl hbA hS (lv_at hl 4 rfl) (lv_at hl 0 rfl) (by omega) hL dL_law_611 dL_law_612 dL_law_614 dL_law_615 dL_law_616 ?_
      refine la_ld (i := i) 2 (by decide) hx hb hX hbl hbA hS (lv_at hl 4 rfl) (lv_at hl 0 rfl) (by omega) hL dL_law_617 dL_law_618 dL_law_620 dL_law_621 dL_law_622 ?_
      refine la_ld (i := i) 3 (by decide) hx hb hX hbl hbA hS (lv_at hl 4 rfl) (lv_at hl 0 rfl) (by omega) hL dL_law_623 dL_law_624 dL_law_626 dL_law_627 dL_law_628 ?_
      refine W.eq (g2 := F0 m 629 ls [.int (nI n), .int (xs (i + 2)), .int (xs (i + 1)), .ref (q 0)]) (by rw [hn2]) ?_
      refine la_ld (i := i) 4 (by decide) hx hb hX hbl hbA hS (lv_at hl 4 rfl) (lv_at hl 0 rfl) (by omega) hL dL_law_629 dL_law_630 dL_law_632 dL_law_633 dL_law_634 ?_
      refine lv_aload_n hx hb dL_law_635 rfl (lv_at hl 1 rfl) ?_
      refine kw_SX 6 [0, 1, 2, 3, 4, 5, 6, 14] [7, 8, 9, 10, 11, 12, 13] (As := [.ref (q 0), .int (xs (i + 1)), .int (xs (i + 2)), .int (nI n), .int (xs (i + 4)), .ref (ob)]) (rest := []) (wc := oW cI cZ cJ q ob A B T P Y G V) (wr := mW cJ cI cZ r (e9) A B T P Y G) (w1 := oW cI cZ cJ q ob A B T P Y G (vp_updL V 0 ((ga_acc B T P Y G (xs (i + 1)).toNatClampNeg ((A (xs (i + 1)).toNatClampNeg) + ((xs (i + 2)))) n (xs (i + 4))).toInt64))) hx hb hml hown hts hl.1 hP hD hS hA hK hB hH (mL_allows_y l hst D cI cZ cJ q ob A B T P Y G V _ (xs (i + 1)) (xs (i + 2)) n (xs (i + 4)) h2 hn) w_225 w_226 w_13 w_227 (by decide) ⟨rfl, rfl⟩ ⟨Nat.le_of_ble_eq_true rfl, Nat.le_of_ble_eq_true rfl⟩ rfl rfl (Nat.le_of_ble_eq_true rfl) dL_law_636 ⟨hc, hs⟩ rfl rfl ⟨by decide, by decide⟩ (by decide) (fun H locs hP hD hS => ?_)
      have hP : va_P D vwCl (lW cI cZ cJ q r ob A B T P Y G (e9) A B T P Y G (vp_updL V 0 ((ga_acc B T P Y G (xs (i + 1)).toNatClampNeg ((A (xs (i + 1)).toNatClampNeg) + ((xs (i + 2)))) n (xs (i + 4))).toInt64))) H := hP.sub [7, 8, 9, 10, 11, 12, 13, 0, 1, 2, 3, 4, 5, 6, 14] rfl
      have hD : va_D (fun z => s.heap.size ≤ z) (lW cI cZ cJ q r ob A B T P Y G (e9) A B T P Y G (vp_updL V 0 ((ga_acc B T P Y G (xs (i + 1)).toNatClampNeg ((A (xs (i + 1)).toNatClampNeg) + ((xs (i + 2)))) n (xs (i + 4))).toInt64))) := hD.sub [7, 8, 9, 10, 11, 12, 13, 0, 1, 2, 3, 4, 5, 6, 14] (by decide) rfl
      refine W.eq (g2 := F0 m 639 ls [.int (0)]) rfl ?_
      refine lv_istore hx hb dL_law_639 hl (by decide) rfl (fun ls hl => ?_)
      have hl : lv_has ls 7 [(5, .int (0)), (4, .int (nI i)), (3, .ref (ob)), (2, .ref (r 0)), (1, .ref (q 0)), (0, .ref (b))] := hl
      refine lv_aload_n hx hb dL_law_641 rfl (lv_at hl 3 rfl) ?_
      refine la_ld (i := i) 1 (by decide) hx hb hX hbl hbA hS (lv_at hl 5 rfl) (lv_at hl 1 rfl) (by omega) hL dL_law_642 dL_law_643 dL_law_645 dL_law_646 dL_law_647 ?_
      refine la_ld (i := i) 2 (by decide) hx hb hX hbl hbA hS (lv_at hl 5 rfl) (lv_at hl 1 rfl) (by omega) hL dL_law_648 dL_law_649 dL_law_651 dL_law_652 dL_law_653 ?_
      refine la_ld (i := i) 3 (by decide) hx hb hX hbl hbA hS (lv_at hl 5 rfl) (lv_at hl 1 rfl) (by omega) hL dL_law_654 dL_law_655 dL_law_657 dL_law_658 dL_law_659 ?_
      refine W.eq (g2 := F0 m 660 ls [.int (nI n), .int (xs (i + 2)), .int (xs (i + 1)), .ref (r 0)]) (by rw [hn2]) ?_
      refine la_ld (i := i) 4 (by decide) hx hb hX hbl hbA hS (lv_at hl 5 rfl) (lv_at hl 1 rfl) (by omega) hL dL_law_660 dL_law_661 dL_law_663 dL_law_664 dL_law_665 ?_
      refine kw_V 4 [7, 8, 9, 10, 11, 12, 13] [0, 1, 2, 3, 4, 5, 6, 14] (b := r 0) (As := [.int (xs (i + 1)), .int (xs (i + 2)), .int (nI n), .int (xs (i + 4))]) (rest := []) (wc := mW cJ cI cZ r (e9) A B T P Y G) (wr := xW cI cZ q A B T P Y G ++ [(ob, .inl (cJ, 1, .inr (.inl (vp_updL V 0 ((ga_acc B T P Y G (xs (i + 1)).toNatClampNeg ((A (xs (i + 1)).toNatClampNeg) + ((xs (i + 2)))) n (xs (i + 4))).toInt64)))))]) (w1 := mW cJ cI cZ r (0) A B T P Y G) hx hb hml hown hts hl.1 hP hD hS hA (hK.sub (tys' := tsM cJ cI cZ) [2, 0, 1] rfl) (mM_allows_y l D cJ cI cZ r (e9) A B T P Y G _ (xs (i + 1)) (xs (i + 2)) n (xs (i + 4)) h2 hn) (gw_V w_343 w_344 w_345 w_15 w_346) (by decide) ⟨rfl, rfl⟩ ⟨Nat.le_of_ble_eq_true rfl, Nat.le_of_ble_eq_true rfl⟩ (va_recv hK hP (ci := 1) rfl (q0 := 7) rfl) rfl rfl (Nat.le_of_ble_eq_true rfl) dL_law_666 ⟨hc, hs⟩ rfl rfl ⟨by decide, by decide⟩ (by decide) (fun H locs hP hD hS => ?_)
      have hP : va_P D vwCl (lW cI cZ cJ q r ob A B T P Y G (0) A B T P Y G (vp_updL V 0 ((ga_acc B T P Y G (xs (i + 1)).toNatClampNeg ((A (xs (i + 1)).toNatClampNeg) + ((xs (i + 2)))) n (xs (i + 4))).toInt64))) H := hP.sub [0, 1, 2, 3, 4, 5, 6, 8, 9, 10, 11, 12, 13, 14, 7] rfl
      have hD : va_D (fun z => s.heap.size ≤ z) (lW cI cZ cJ q r ob A B T P Y G (0) A B T P Y G (vp_updL V 0 ((ga_acc B T P Y G (xs (i + 1)).toNatClampNeg ((A (xs (i + 1)).toNatClampNeg) + ((xs (i + 2)))) n (xs (i + 4))).toInt64))) := hD.sub [0, 1, 2, 3, 4, 5, 6, 8, 9, 10, 11, 12, 13, 14, 7] (by decide) rfl
      refine W.eq (g2 := F0 m 669 ls [.int (ga_acc B T P Y G (xs (i + 1)).toNatClampNeg ((A (xs (i + 1)).toNatClampNeg) + ((xs (i + 2)))) n (xs (i + 4)))]) rfl ?_
      refine lv_istore hx hb dL_law_669 hl (by decide) rfl (fun ls hl => ?_)
      have hl : lv_has ls 7 [(6, .int (ga_acc B T P Y G (xs (i + 1)).toNatClampNeg ((A (xs (i + 1)).toNatClampNeg) + ((xs (i + 2)))) n (xs (i + 4)))), (5, .int (0)), (4, .int (nI i)), (3, .ref (ob)), (2, .ref (r 0)), (1, .ref (q 0)), (0, .ref (b))] := hl
      refine lv_aload_n hx hb dL_law_671 rfl (lv_at hl 4 rfl) ?_
      refine kr_V 0 (b := r 0) (As := []) (rest := []) (r := .int (0)) hx hb hml hown hts hl.1 (mM_thrown l D cJ cI cZ r (0) A B T P Y G) rB_stb ⟨hP.sub (ws' := mW cJ cI cZ r (0) A B T P Y G) [7, 8, 9, 10, 11, 12, 13] rfl, hK.sub (tys' := tsM cJ cI cZ) [2, 0, 1] rfl⟩ (gw_V w_278 w_279 w_280 w_15 w_281) (by decide) ⟨rfl, rfl⟩ ⟨Nat.le_of_ble_eq_true rfl, Nat.le_of_ble_eq_true rfl⟩ (va_recv hK hP (ci := 1) rfl (q0 := 7) rfl) rfl rfl (Nat.le_of_ble_eq_true rfl) dL_law_672 ⟨hc, hs⟩ ?_
      refine W.eq (g2 := F0 m 675 ls [.int (0)]) rfl ?_
      refine lv_iload hx hb dL_law_675 (lv_at hl 1 rfl) ?_
      refine lv_icmp_eq (tgt := 682) hx hb dL_law_677 (by decide) (fun h_1 => ?_) (fun h_1 => absurd (by decide) h_1)
      refine lv_iload hx hb dL_law_682 (lv_at hl 1 rfl) ?_
      refine lv_if_ne (tgt := 699) hx hb dL_law_684 (by decide) (fun h_2 => absurd (by decide) h_2) (fun h_2 => ?_)
      refine lv_aload_n hx hb dL_law_687 rfl (lv_at hl 3 rfl) ?_
      refine lv_iconst (v := 0) hx hb dL_law_688 (by decide) ?_
      refine va_lald hx hb hK hP 14 2 rfl rfl in01 dL_law_689 ?_
      refine W.eq (g2 := F0 m 690 ls [.long ((ga_acc B T P Y G (xs (i + 1)).toNatClampNeg ((A (xs (i + 1)).toNatClampNeg) + ((xs (i + 2)))) n (xs (i + 4))).toInt64)]) (by rw [show (0 : Int32).toNatClampNeg = 0 from rfl, pk_uLs] <;> rfl) ?_
      refine lv_iload hx hb dL_law_690 (lv_at hl 0 rfl) ?_
      refine lv_i2l (v := (ga_acc B T P Y G (xs (i + 1)).toNatClampNeg ((A (xs (i + 1)).toNatClampNeg) + ((xs (i + 2)))) n (xs (i + 4))).toInt64) hx hb dL_law_692 rfl ?_
      refine W.lcmp hx hb dL_law_693 ?_
      refine lv_if_eq (tgt := 699) hx hb dL_law_694 (by decide) (fun h_3 => ?_) (fun h_3 => absurd ((lg_cmp_eq _ _).mpr rfl) h_3)
      refine lv_goto (tgt := 882) hx hb dL_law_699 (by decide) ?_
      exact K _ _ _ _ _ _ _ _ hg _ _ _ hP hD hS (lv_sub hl [2, 3, 4, 5, 6] rfl)
    · refine lv_aload_n hx hb dL_law_610 rfl (lv_at hl 3 rfl) ?_
      refine la_ld (i := i) 1 (by decide) hx hb hX hbl hbA hS (lv_at hl 4 rfl) (lv_at hl 0 rfl) (by omega) hL dL_law_611 dL_law_612 dL_law_614 dL_law_615 dL_law_616 ?_
      refine la_ld (i := i) 2 (by decide) hx hb hX hbl hbA hS (lv_at hl 4 rfl) (lv_at hl 0 rfl) (by omega) hL dL_law_617 dL_law_618 dL_law_620 dL_law_621 dL_law_622 ?_
      refine la_ld (i := i) 3 (by decide) hx hb hX hbl hbA hS (lv_at hl 4 rfl) (lv_at hl 0 rfl) (by omega) hL dL_law_623 dL_law_624 dL_law_626 dL_law_627 dL_law_628 ?_
      refine la_ld (i := i) 4 (by decide) hx hb hX hbl hbA hS (lv_at hl 4 rfl) (lv_at hl 0 rfl) (by omega) hL dL_law_629 dL_law_630 dL_law_632 dL_law_633 dL_law_634 ?_
      refine lv_aload_n hx hb dL_law_635 rfl (lv_at hl 1 rfl) ?_
      refine kw_SX 6 [0, 1, 2, 3, 4, 5, 6, 14] [7, 8, 9, 10, 11, 12, 13] (As := [.ref (q 0), .int (xs (i + 1)), .int (xs (i + 2)), .int (xs (i + 3)), .int (xs (i + 4)), .ref (ob)]) (rest := []) (wc := oW cI cZ cJ q ob A B T P Y G V) (wr := mW cJ cI cZ r (e9) A B T P Y G) (w1 := oW cI cZ cJ q ob A B T P Y G V) hx hb hml hown hts hl.1 hP hD hS hA hK hB hH (mL_allows_b l hst D cI cZ cJ q ob A B T P Y G V _ (xs (i + 1)) (xs (i + 2)) (xs (i + 3)) (xs (i + 4)) h1.1 h1.2 h2) w_225 w_226 w_13 w_227 (by decide) ⟨rfl, rfl⟩ ⟨Nat.le_of_ble_eq_true rfl, Nat.le_of_ble_eq_true rfl⟩ rfl rfl (Nat.le_of_ble_eq_true rfl) dL_law_636 ⟨hc, hs⟩ rfl rfl ⟨by decide, by decide⟩ (by decide) (fun H locs hP hD hS => ?_)
      have hP : va_P D vwCl (lW cI cZ cJ q r ob A B T P Y G (e9) A B T P Y G V) H := hP.sub [7, 8, 9, 10, 11, 12, 13, 0, 1, 2, 3, 4, 5, 6, 14] rfl
      have hD : va_D (fun z => s.heap.size ≤ z) (lW cI cZ cJ q r ob A B T P Y G (e9) A B T P Y G V) := hD.sub [7, 8, 9, 10, 11, 12, 13, 0, 1, 2, 3, 4, 5, 6, 14] (by decide) rfl
      refine W.eq (g2 := F0 m 639 ls [.int (2)]) rfl ?_
      refine lv_istore hx hb dL_law_639 hl (by decide) rfl (fun ls hl => ?_)
      have hl : lv_has ls 7 [(5, .int (2)), (4, .int (nI i)), (3, .ref (ob)), (2, .ref (r 0)), (1, .ref (q 0)), (0, .ref (b))] := hl
      refine lv_aload_n hx hb dL_law_641 rfl (lv_at hl 3 rfl) ?_
      refine la_ld (i := i) 1 (by decide) hx hb hX hbl hbA hS (lv_at hl 5 rfl) (lv_at hl 1 rfl) (by omega) hL dL_law_642 dL_law_643 dL_law_645 dL_law_646 dL_law_647 ?_
      refine la_ld (i := i) 2 (by decide) hx hb hX hbl hbA hS (lv_at hl 5 rfl) (lv_at hl 1 rfl) (by omega) hL dL_law_648 dL_law_649 dL_law_651 dL_law_652 dL_law_653 ?_
      refine la_ld (i := i) 3 (by decide) hx hb hX hbl hbA hS (lv_at hl 5 rfl) (lv_at hl 1 rfl) (by omega) hL dL_law_654 dL_law_655 dL_law_657 dL_law_658 dL_law_659 ?_
      refine la_ld (i := i) 4 (by decide) hx hb hX hbl hbA hS (lv_at hl 5 rfl) (lv_at hl 1 rfl) (by omega) hL dL_law_660 dL_law_661 dL_law_663 dL_law_664 dL_law_665 ?_
      refine kw_V 4 [7, 8, 9, 10, 11, 12, 13] [0, 1, 2, 3, 4, 5, 6, 14] (b := r 0) (As := [.int (xs (i + 1)), .int (xs (i + 2)), .int (xs (i + 3)), .int (xs (i + 4))]) (rest := []) (wc := mW cJ cI cZ r (e9) A B T P Y G) (wr := xW cI cZ q A B T P Y G ++ [(ob, .inl (cJ, 1, .inr (.inl V)))]) (w1 := mW cJ cI cZ r (2) A B T P Y G) hx hb hml hown hts hl.1 hP hD hS hA (hK.sub (tys' := tsM cJ cI cZ) [2, 0, 1] rfl) (mM_allows_b l D cJ cI cZ r (e9) A B T P Y G _ (xs (i + 1)) (xs (i + 2)) (xs (i + 3)) (xs (i + 4)) h1.1 h1.2 h2) (gw_V w_343 w_344 w_345 w_15 w_346) (by decide) ⟨rfl, rfl⟩ ⟨Nat.le_of_ble_eq_true rfl, Nat.le_of_ble_eq_true rfl⟩ (va_recv hK hP (ci := 1) rfl (q0 := 7) rfl) rfl rfl (Nat.le_of_ble_eq_true rfl) dL_law_666 ⟨hc, hs⟩ rfl rfl ⟨by decide, by decide⟩ (by decide) (fun H locs hP hD hS => ?_)
      have hP : va_P D vwCl (lW cI cZ cJ q r ob A B T P Y G (2) A B T P Y G V) H := hP.sub [0, 1, 2, 3, 4, 5, 6, 8, 9, 10, 11, 12, 13, 14, 7] rfl
      have hD : va_D (fun z => s.heap.size ≤ z) (lW cI cZ cJ q r ob A B T P Y G (2) A B T P Y G V) := hD.sub [0, 1, 2, 3, 4, 5, 6, 8, 9, 10, 11, 12, 13, 14, 7] (by decide) rfl
      refine W.eq (g2 := F0 m 669 ls [.int (0)]) rfl ?_
      refine lv_istore hx hb dL_law_669 hl (by decide) rfl (fun ls hl => ?_)
      have hl : lv_has ls 7 [(6, .int (0)), (5, .int (2)), (4, .int (nI i)), (3, .ref (ob)), (2, .ref (r 0)), (1, .ref (q 0)), (0, .ref (b))] := hl
      refine lv_aload_n hx hb dL_law_671 rfl (lv_at hl 4 rfl) ?_
      refine kr_V 0 (b := r 0) (As := []) (rest := []) (r := .int (2)) hx hb hml hown hts hl.1 (mM_thrown l D cJ cI cZ r (2) A B T P Y G) rB_stb ⟨hP.sub (ws' := mW cJ cI cZ r (2) A B T P Y G) [7, 8, 9, 10, 11, 12, 13] rfl, hK.sub (tys' := tsM cJ cI cZ) [2, 0, 1] rfl⟩ (gw_V w_278 w_279 w_280 w_15 w_281) (by decide) ⟨rfl, rfl⟩ ⟨Nat.le_of_ble_eq_true rfl, Nat.le_of_ble_eq_true rfl⟩ (va_recv hK hP (ci := 1) rfl (q0 := 7) rfl) rfl rfl (Nat.le_of_ble_eq_true rfl) dL_law_672 ⟨hc, hs⟩ ?_
      refine W.eq (g2 := F0 m 675 ls [.int (2)]) rfl ?_
      refine lv_iload hx hb dL_law_675 (lv_at hl 1 rfl) ?_
      refine lv_icmp_eq (tgt := 682) hx hb dL_law_677 (by decide) (fun h_4 => ?_) (fun h_4 => absurd (by decide) h_4)
      refine lv_iload hx hb dL_law_682 (lv_at hl 1 rfl) ?_
      refine lv_if_ne (tgt := 699) hx hb dL_law_684 (by decide) (fun h_5 => ?_) (fun h_5 => absurd h_5 (by decide))
      refine lv_goto (tgt := 882) hx hb dL_law_699 (by decide) ?_
      exact K _ _ _ _ _ _ _ _ hg _ _ _ hP hD hS (lv_sub hl [2, 3, 4, 5, 6] rfl)
  · refine lv_aload_n hx hb dL_law_610 rfl (lv_at hl 3 rfl) ?_
    refine la_ld (i := i) 1 (by decide) hx hb hX hbl hbA hS (lv_at hl 4 rfl) (lv_at hl 0 rfl) (by omega) hL dL_law_611 dL_law_612 dL_law_614 dL_law_615 dL_law_616 ?_
    refine la_ld (i := i) 2 (by decide) hx hb hX hbl hbA hS (lv_at hl 4 rfl) (lv_at hl 0 rfl) (by omega) hL dL_law_617 dL_law_618 dL_law_620 dL_law_621 dL_law_622 ?_
    refine la_ld (i := i) 3 (by decide) hx hb hX hbl hbA hS (lv_at hl 4 rfl) (lv_at hl 0 rfl) (by omega) hL dL_law_623 dL_law_624 dL_law_626 dL_law_627 dL_law_628 ?_
    refine la_ld (i := i) 4 (by decide) hx hb hX hbl hbA hS (lv_at hl 4 rfl) (lv_at hl 0 rfl) (by omega) hL dL_law_629 dL_law_630 dL_law_632 dL_law_633 dL_law_634 ?_
    refine lv_aload_n hx hb dL_law_635 rfl (lv_at hl 1 rfl) ?_
    refine kw_SX 6 [0, 1, 2, 3, 4, 5, 6, 14] [7, 8, 9, 10, 11, 12, 13] (As := [.ref (q 0), .int (xs (i + 1)), .int (xs (i + 2)), .int (xs (i + 3)), .int (xs (i + 4)), .ref (ob)]) (rest := []) (wc := oW cI cZ cJ q ob A B T P Y G V) (wr := mW cJ cI cZ r (e9) A B T P Y G) (w1 := oW cI cZ cJ q ob A B T P Y G V) hx hb hml hown hts hl.1 hP hD hS hA hK hB hH (mL_allows_a l hst D cI cZ cJ q ob A B T P Y G V _ (xs (i + 1)) (xs (i + 2)) (xs (i + 3)) (xs (i + 4)) h1) w_225 w_226 w_13 w_227 (by decide) ⟨rfl, rfl⟩ ⟨Nat.le_of_ble_eq_true rfl, Nat.le_of_ble_eq_true rfl⟩ rfl rfl (Nat.le_of_ble_eq_true rfl) dL_law_636 ⟨hc, hs⟩ rfl rfl ⟨by decide, by decide⟩ (by decide) (fun H locs hP hD hS => ?_)
    have hP : va_P D vwCl (lW cI cZ cJ q r ob A B T P Y G (e9) A B T P Y G V) H := hP.sub [7, 8, 9, 10, 11, 12, 13, 0, 1, 2, 3, 4, 5, 6, 14] rfl
    have hD : va_D (fun z => s.heap.size ≤ z) (lW cI cZ cJ q r ob A B T P Y G (e9) A B T P Y G V) := hD.sub [7, 8, 9, 10, 11, 12, 13, 0, 1, 2, 3, 4, 5, 6, 14] (by decide) rfl
    refine W.eq (g2 := F0 m 639 ls [.int (1)]) rfl ?_
    refine lv_istore hx hb dL_law_639 hl (by decide) rfl (fun ls hl => ?_)
    have hl : lv_has ls 7 [(5, .int (1)), (4, .int (nI i)), (3, .ref (ob)), (2, .ref (r 0)), (1, .ref (q 0)), (0, .ref (b))] := hl
    refine lv_aload_n hx hb dL_law_641 rfl (lv_at hl 3 rfl) ?_
    refine la_ld (i := i) 1 (by decide) hx hb hX hbl hbA hS (lv_at hl 5 rfl) (lv_at hl 1 rfl) (by omega) hL dL_law_642 dL_law_643 dL_law_645 dL_law_646 dL_law_647 ?_
    refine la_ld (i := i) 2 (by decide) hx hb hX hbl hbA hS (lv_at hl 5 rfl) (lv_at hl 1 rfl) (by omega) hL dL_law_648 dL_law_649 dL_law_651 dL_law_652 dL_law_653 ?_
    refine la_ld (i := i) 3 (by decide) hx hb hX hbl hbA hS (lv_at hl 5 rfl) (lv_at hl 1 rfl) (by omega) hL dL_law_654 dL_law_655 dL_law_657 dL_law_658 dL_law_659 ?_
    refine la_ld (i := i) 4 (by decide) hx hb hX hbl hbA hS (lv_at hl 5 rfl) (lv_at hl 1 rfl) (by omega) hL dL_law_660 dL_law_661 dL_law_663 dL_law_664 dL_law_665 ?_
    refine kw_V 4 [7, 8, 9, 10, 11, 12, 13] [0, 1, 2, 3, 4, 5, 6, 14] (b := r 0) (As := [.int (xs (i + 1)), .int (xs (i + 2)), .int (xs (i + 3)), .int (xs (i + 4))]) (rest := []) (wc := mW cJ cI cZ r (e9) A B T P Y G) (wr := xW cI cZ q A B T P Y G ++ [(ob, .inl (cJ, 1, .inr (.inl V)))]) (w1 := mW cJ cI cZ r (1) A B T P Y G) hx hb hml hown hts hl.1 hP hD hS hA (hK.sub (tys' := tsM cJ cI cZ) [2, 0, 1] rfl) (mM_allows_a l D cJ cI cZ r (e9) A B T P Y G _ (xs (i + 1)) (xs (i + 2)) (xs (i + 3)) (xs (i + 4)) h1) (gw_V w_343 w_344 w_345 w_15 w_346) (by decide) ⟨rfl, rfl⟩ ⟨Nat.le_of_ble_eq_true rfl, Nat.le_of_ble_eq_true rfl⟩ (va_recv hK hP (ci := 1) rfl (q0 := 7) rfl) rfl rfl (Nat.le_of_ble_eq_true rfl) dL_law_666 ⟨hc, hs⟩ rfl rfl ⟨by decide, by decide⟩ (by decide) (fun H locs hP hD hS => ?_)
    have hP : va_P D vwCl (lW cI cZ cJ q r ob A B T P Y G (1) A B T P Y G V) H := hP.sub [0, 1, 2, 3, 4, 5, 6, 8, 9, 10, 11, 12, 13, 14, 7] rfl
    have hD : va_D (fun z => s.heap.size ≤ z) (lW cI cZ cJ q r ob A B T P Y G (1) A B T P Y G V) := hD.sub [0, 1, 2, 3, 4, 5, 6, 8, 9, 10, 11, 12, 13, 14, 7] (by decide) rfl
    refine W.eq (g2 := F0 m 669 ls [.int (0)]) rfl ?_
    refine lv_istore hx hb dL_law_669 hl (by decide) rfl (fun ls hl => ?_)
    have hl : lv_has ls 7 [(6, .int (0)), (5, .int (1)), (4, .int (nI i)), (3, .ref (ob)), (2, .ref (r 0)), (1, .ref (q 0)), (0, .ref (b))] := hl
    refine lv_aload_n hx hb dL_law_671 rfl (lv_at hl 4 rfl) ?_
    refine kr_V 0 (b := r 0) (As := []) (rest := []) (r := .int (1)) hx hb hml hown hts hl.1 (mM_thrown l D cJ cI cZ r (1) A B T P Y G) rB_stb ⟨hP.sub (ws' := mW cJ cI cZ r (1) A B T P Y G) [7, 8, 9, 10, 11, 12, 13] rfl, hK.sub (tys' := tsM cJ cI cZ) [2, 0, 1] rfl⟩ (gw_V w_278 w_279 w_280 w_15 w_281) (by decide) ⟨rfl, rfl⟩ ⟨Nat.le_of_ble_eq_true rfl, Nat.le_of_ble_eq_true rfl⟩ (va_recv hK hP (ci := 1) rfl (q0 := 7) rfl) rfl rfl (Nat.le_of_ble_eq_true rfl) dL_law_672 ⟨hc, hs⟩ ?_
    refine W.eq (g2 := F0 m 675 ls [.int (1)]) rfl ?_
    refine lv_iload hx hb dL_law_675 (lv_at hl 1 rfl) ?_
    refine lv_icmp_eq (tgt := 682) hx hb dL_law_677 (by decide) (fun h_6 => ?_) (fun h_6 => absurd (by decide) h_6)
    refine lv_iload hx hb dL_law_682 (lv_at hl 1 rfl) ?_
    refine lv_if_ne (tgt := 699) hx hb dL_law_684 (by decide) (fun h_7 => ?_) (fun h_7 => absurd h_7 (by decide))
    refine lv_goto (tgt := 882) hx hb dL_law_699 (by decide) ?_
    exact K _ _ _ _ _ _ _ _ hg _ _ _ hP hD hS (lv_sub hl [2, 3, 4, 5, 6] rfl)

set_option maxRecDepth 100000 in
set_option maxHeartbeats 4000000 in
theorem lc_within {p : Program} {l : Launch} {e : Env} {s : State} {m : MethodId} {below : List Frame} {meth : Method} {c : Code} {b L : Nat} {xs : Nat → Int32} {D : va_G} {cI cZ cJ : ClassId} {q r : Nat → Nat} {ob : Nat} (C : lC p l s m meth c b L xs D cI cZ cJ) {i cells slots : Nat} (hi : i + 5 ≤ L) (hc : cells + 1 ≤ 1044) (hs : slots + 6 ≤ 8428) {A B T P Y : Nat → Int32} {G : Nat → Bool} {V : Nat → Int64} {e9 : Int32} (hg : gd P Y) (K : ∀ (A B T P Y : Nat → Int32) (G : Nat → Bool) (V : Nat → Int64) (e9 : Int32), gd P Y → lS p l e s m below meth c b D cI cZ cJ q r ob i (cells + 1) (slots + 6) 882 A B T P Y G V e9) : lS p l e s m below meth c b D cI cZ cJ q r ob i cells slots 702 A B T P Y G V e9 := by
  obtain ⟨hx, hb, hr, hml, hown, hts, hX, hbl, hlocks, hst, hB, hK, hL⟩ := C
  intro H locs ls hP hD hS hl
  have hA : ∀ z : Nat, s.heap.size ≤ z → s.heap.size ≤ z := fun z h => h
  have hbA : ¬ s.heap.size ≤ b := Nat.not_le.mpr hbl
  have hH : ∀ z : Nat, z < s.heap.size → H[z]? = s.heap[z]? := fun z hz => hS.2.1 z hz (Nat.not_le.mpr hz)
  by_cases h2 : vp_in (xs (i + 1)) 16 ∧ vp_in (xs (i + 2)) 16
  · refine lv_aload_n hx hb dL_law_702 rfl (lv_at hl 3 rfl) ?_
    refine la_ld (i := i) 1 (by decide) hx hb hX hbl hbA hS (lv_at hl 4 rfl) (lv_at hl 0 rfl) (by omega) hL dL_law_703 dL_law_704 dL_law_706 dL_law_707 dL_law_708 ?_
    refine la_ld (i := i) 2 (by decide) hx hb hX hbl hbA hS (lv_at hl 4 rfl) (lv_at hl 0 rfl) (by omega) hL dL_law_709 dL_law_710 dL_law_712 dL_law_713 dL_law_714 ?_
    refine lv_aload_n hx hb dL_law_715 rfl (lv_at hl 1 rfl) ?_
    refine kw_SX 4 [0, 1, 2, 3, 4, 5, 6, 14] [7, 8, 9, 10, 11, 12, 13] (As := [.ref (q 0), .int (xs (i + 1)), .int (xs (i + 2)), .ref (ob)]) (rest := []) (wc := oW cI cZ cJ q ob A B T P Y G V) (wr := mW cJ cI cZ r (e9) A B T P Y G) (w1 := oW cI cZ cJ q ob A B T P Y G (vp_updL V 0 (bl (ga_with B T P G (xs (i + 1)).toNatClampNeg (xs (i + 2)).toNatClampNeg)))) hx hb hml hown hts hl.1 hP hD hS hA hK hB hH (mL_within_y l hst D cI cZ cJ q ob A B T P Y G V _ (xs (i + 1)) (xs (i + 2)) h2.1 h2.2) w_234 w_235 w_13 w_236 (by decide) ⟨rfl, rfl⟩ ⟨Nat.le_of_ble_eq_true rfl, Nat.le_of_ble_eq_true rfl⟩ rfl rfl (Nat.le_of_ble_eq_true rfl) dL_law_716 ⟨hc, hs⟩ rfl rfl ⟨by decide, by decide⟩ (by decide) (fun H locs hP hD hS => ?_)
    have hP : va_P D vwCl (lW cI cZ cJ q r ob A B T P Y G (e9) A B T P Y G (vp_updL V 0 (bl (ga_with B T P G (xs (i + 1)).toNatClampNeg (xs (i + 2)).toNatClampNeg)))) H := hP.sub [7, 8, 9, 10, 11, 12, 13, 0, 1, 2, 3, 4, 5, 6, 14] rfl
    have hD : va_D (fun z => s.heap.size ≤ z) (lW cI cZ cJ q r ob A B T P Y G (e9) A B T P Y G (vp_updL V 0 (bl (ga_with B T P G (xs (i + 1)).toNatClampNeg (xs (i + 2)).toNatClampNeg)))) := hD.sub [7, 8, 9, 10, 11, 12, 13, 0, 1, 2, 3, 4, 5, 6, 14] (by decide) rfl
    refine W.eq (g2 := F0 m 719 ls [.int (0)]) rfl ?_
    refine lv_istore hx hb dL_law_719 hl (by decide) rfl (fun ls hl => ?_)
    have hl : lv_has ls 7 [(5, .int (0)), (4, .int (nI i)), (3, .ref (ob)), (2, .ref (r 0)), (1, .ref (q 0)), (0, .ref (b))] := hl
    refine lv_aload_n hx hb dL_law_721 rfl (lv_at hl 3 rfl) ?_
    refine la_ld (i := i) 1 (by decide) hx hb hX hbl hbA hS (lv_at hl 5 rfl) (lv_at hl 1 rfl) (by omega) hL dL_law_722 dL_law_723 dL_law_725 dL_law_726 dL_law_727 ?_
    refine la_ld (i := i) 2 (by decide) hx hb hX hbl hbA hS (lv_at hl 5 rfl) (lv_at hl 1 rfl) (by omega) hL dL_law_728 dL_law_729 dL_law_731 dL_law_732 dL_law_733 ?_
    refine kw_V 2 [7, 8, 9, 10, 11, 12, 13] [0, 1, 2, 3, 4, 5, 6, 14] (b := r 0) (As := [.int (xs (i + 1)), .int (xs (i + 2))]) (rest := []) (wc := mW cJ cI cZ r (e9) A B T P Y G) (wr := xW cI cZ q A B T P Y G ++ [(ob, .inl (cJ, 1, .inr (.inl (vp_updL V 0 (bl (ga_with B T P G (xs (i + 1)).toNatClampNeg (xs (i + 2)).toNatClampNeg))))))]) (w1 := mW cJ cI cZ r (0) A B T P Y G) hx hb hml hown hts hl.1 hP hD hS hA (hK.sub (tys' := tsM cJ cI cZ) [2, 0, 1] rfl) (mM_within_y l D cJ cI cZ r (e9) A B T P Y G _ (xs (i + 1)) (xs (i + 2)) h2.1 h2.2) (gw_V w_348 w_349 w_350 w_15 w_351) (by decide) ⟨rfl, rfl⟩ ⟨Nat.le_of_ble_eq_true rfl, Nat.le_of_ble_eq_true rfl⟩ (va_recv hK hP (ci := 1) rfl (q0 := 7) rfl) rfl rfl (Nat.le_of_ble_eq_true rfl) dL_law_734 ⟨hc, hs⟩ rfl rfl ⟨by decide, by decide⟩ (by decide) (fun H locs hP hD hS => ?_)
    have hP : va_P D vwCl (lW cI cZ cJ q r ob A B T P Y G (0) A B T P Y G (vp_updL V 0 (bl (ga_with B T P G (xs (i + 1)).toNatClampNeg (xs (i + 2)).toNatClampNeg)))) H := hP.sub [0, 1, 2, 3, 4, 5, 6, 8, 9, 10, 11, 12, 13, 14, 7] rfl
    have hD : va_D (fun z => s.heap.size ≤ z) (lW cI cZ cJ q r ob A B T P Y G (0) A B T P Y G (vp_updL V 0 (bl (ga_with B T P G (xs (i + 1)).toNatClampNeg (xs (i + 2)).toNatClampNeg)))) := hD.sub [0, 1, 2, 3, 4, 5, 6, 8, 9, 10, 11, 12, 13, 14, 7] (by decide) rfl
    refine W.eq (g2 := F0 m 737 ls [.int (bi (ga_with B T P G (xs (i + 1)).toNatClampNeg (xs (i + 2)).toNatClampNeg))]) rfl ?_
    refine lv_istore hx hb dL_law_737 hl (by decide) rfl (fun ls hl => ?_)
    have hl : lv_has ls 7 [(6, .int (bi (ga_with B T P G (xs (i + 1)).toNatClampNeg (xs (i + 2)).toNatClampNeg))), (5, .int (0)), (4, .int (nI i)), (3, .ref (ob)), (2, .ref (r 0)), (1, .ref (q 0)), (0, .ref (b))] := hl
    refine lv_aload_n hx hb dL_law_739 rfl (lv_at hl 4 rfl) ?_
    refine kr_V 0 (b := r 0) (As := []) (rest := []) (r := .int (0)) hx hb hml hown hts hl.1 (mM_thrown l D cJ cI cZ r (0) A B T P Y G) rB_stb ⟨hP.sub (ws' := mW cJ cI cZ r (0) A B T P Y G) [7, 8, 9, 10, 11, 12, 13] rfl, hK.sub (tys' := tsM cJ cI cZ) [2, 0, 1] rfl⟩ (gw_V w_278 w_279 w_280 w_15 w_281) (by decide) ⟨rfl, rfl⟩ ⟨Nat.le_of_ble_eq_true rfl, Nat.le_of_ble_eq_true rfl⟩ (va_recv hK hP (ci := 1) rfl (q0 := 7) rfl) rfl rfl (Nat.le_of_ble_eq_true rfl) dL_law_740 ⟨hc, hs⟩ ?_
    refine W.eq (g2 := F0 m 743 ls [.int (0)]) rfl ?_
    refine lv_iload hx hb dL_law_743 (lv_at hl 1 rfl) ?_
    refine lv_icmp_eq (tgt := 750) hx hb dL_law_745 (by decide) (fun h_1 => ?_) (fun h_1 => absurd (by decide) h_1)
    refine lv_iload hx hb dL_law_750 (lv_at hl 1 rfl) ?_
    refine lv_if_ne (tgt := 774) hx hb dL_law_752 (by decide) (fun h_2 => absurd (by decide) h_2) (fun h_2 => ?_)
    refine lv_aload_n hx hb dL_law_755 rfl (lv_at hl 3 rfl) ?_
    refine lv_iconst (v := 0) hx hb dL_law_756 (by decide) ?_
    refine va_lald hx hb hK hP 14 2 rfl rfl in01 dL_law_757 ?_
    refine W.eq (g2 := F0 m 758 ls [.long (bl (ga_with B T P G (xs (i + 1)).toNatClampNeg (xs (i + 2)).toNatClampNeg))]) (by rw [show (0 : Int32).toNatClampNeg = 0 from rfl, pk_uLs] <;> rfl) ?_
    refine lv_iload hx hb dL_law_758 (lv_at hl 0 rfl) ?_
    refine lv_if_eq (tgt := 767) hx hb dL_law_760 (by decide) (fun h_3 => ?_) (fun h_3 => ?_)
    · have h_3 := bi_0 h_3
      refine lv_lconst (v := 0) hx hb dL_law_767 (by decide) ?_
      refine W.lcmp hx hb dL_law_768 ?_
      refine lv_if_eq (tgt := 774) hx hb dL_law_769 (by decide) (fun h_4 => ?_) (fun h_4 => absurd ((lg_cmp_eq _ _).mpr (by rw [h_3]; rfl)) h_4)
      refine lv_goto (tgt := 882) hx hb dL_law_774 (by decide) ?_
      exact K _ _ _ _ _ _ _ _ hg _ _ _ hP hD hS (lv_sub hl [2, 3, 4, 5, 6] rfl)
    · have h_3 := bi_n h_3
      refine lv_lconst (v := 1) hx hb dL_law_763 (by decide) ?_
      refine lv_goto (tgt := 768) hx hb dL_law_764 (by decide) ?_
      refine W.lcmp hx hb dL_law_768 ?_
      refine lv_if_eq (tgt := 774) hx hb dL_law_769 (by decide) (fun h_5 => ?_) (fun h_5 => absurd ((lg_cmp_eq _ _).mpr (by rw [h_3]; rfl)) h_5)
      refine lv_goto (tgt := 882) hx hb dL_law_774 (by decide) ?_
      exact K _ _ _ _ _ _ _ _ hg _ _ _ hP hD hS (lv_sub hl [2, 3, 4, 5, 6] rfl)
  · refine lv_aload_n hx hb dL_law_702 rfl (lv_at hl 3 rfl) ?_
    refine la_ld (i := i) 1 (by decide) hx hb hX hbl hbA hS (lv_at hl 4 rfl) (lv_at hl 0 rfl) (by omega) hL dL_law_703 dL_law_704 dL_law_706 dL_law_707 dL_law_708 ?_
    refine la_ld (i := i) 2 (by decide) hx hb hX hbl hbA hS (lv_at hl 4 rfl) (lv_at hl 0 rfl) (by omega) hL dL_law_709 dL_law_710 dL_law_712 dL_law_713 dL_law_714 ?_
    refine lv_aload_n hx hb dL_law_715 rfl (lv_at hl 1 rfl) ?_
    refine kw_SX 4 [0, 1, 2, 3, 4, 5, 6, 14] [7, 8, 9, 10, 11, 12, 13] (As := [.ref (q 0), .int (xs (i + 1)), .int (xs (i + 2)), .ref (ob)]) (rest := []) (wc := oW cI cZ cJ q ob A B T P Y G V) (wr := mW cJ cI cZ r (e9) A B T P Y G) (w1 := oW cI cZ cJ q ob A B T P Y G V) hx hb hml hown hts hl.1 hP hD hS hA hK hB hH (mL_within_n l hst D cI cZ cJ q ob A B T P Y G V _ (xs (i + 1)) (xs (i + 2)) h2) w_234 w_235 w_13 w_236 (by decide) ⟨rfl, rfl⟩ ⟨Nat.le_of_ble_eq_true rfl, Nat.le_of_ble_eq_true rfl⟩ rfl rfl (Nat.le_of_ble_eq_true rfl) dL_law_716 ⟨hc, hs⟩ rfl rfl ⟨by decide, by decide⟩ (by decide) (fun H locs hP hD hS => ?_)
    have hP : va_P D vwCl (lW cI cZ cJ q r ob A B T P Y G (e9) A B T P Y G V) H := hP.sub [7, 8, 9, 10, 11, 12, 13, 0, 1, 2, 3, 4, 5, 6, 14] rfl
    have hD : va_D (fun z => s.heap.size ≤ z) (lW cI cZ cJ q r ob A B T P Y G (e9) A B T P Y G V) := hD.sub [7, 8, 9, 10, 11, 12, 13, 0, 1, 2, 3, 4, 5, 6, 14] (by decide) rfl
    refine W.eq (g2 := F0 m 719 ls [.int (1)]) rfl ?_
    refine lv_istore hx hb dL_law_719 hl (by decide) rfl (fun ls hl => ?_)
    have hl : lv_has ls 7 [(5, .int (1)), (4, .int (nI i)), (3, .ref (ob)), (2, .ref (r 0)), (1, .ref (q 0)), (0, .ref (b))] := hl
    refine lv_aload_n hx hb dL_law_721 rfl (lv_at hl 3 rfl) ?_
    refine la_ld (i := i) 1 (by decide) hx hb hX hbl hbA hS (lv_at hl 5 rfl) (lv_at hl 1 rfl) (by omega) hL dL_law_722 dL_law_723 dL_law_725 dL_law_726 dL_law_727 ?_
    refine la_ld (i := i) 2 (by decide) hx hb hX hbl hbA hS (lv_at hl 5 rfl) (lv_at hl 1 rfl) (by omega) hL dL_law_728 dL_law_729 dL_law_731 dL_law_732 dL_law_733 ?_
    refine kw_V 2 [7, 8, 9, 10, 11, 12, 13] [0, 1, 2, 3, 4, 5, 6, 14] (b := r 0) (As := [.int (xs (i + 1)), .int (xs (i + 2))]) (rest := []) (wc := mW cJ cI cZ r (e9) A B T P Y G) (wr := xW cI cZ q A B T P Y G ++ [(ob, .inl (cJ, 1, .inr (.inl V)))]) (w1 := mW cJ cI cZ r (1) A B T P Y G) hx hb hml hown hts hl.1 hP hD hS hA (hK.sub (tys' := tsM cJ cI cZ) [2, 0, 1] rfl) (mM_within_n l D cJ cI cZ r (e9) A B T P Y G _ (xs (i + 1)) (xs (i + 2)) h2) (gw_V w_348 w_349 w_350 w_15 w_351) (by decide) ⟨rfl, rfl⟩ ⟨Nat.le_of_ble_eq_true rfl, Nat.le_of_ble_eq_true rfl⟩ (va_recv hK hP (ci := 1) rfl (q0 := 7) rfl) rfl rfl (Nat.le_of_ble_eq_true rfl) dL_law_734 ⟨hc, hs⟩ rfl rfl ⟨by decide, by decide⟩ (by decide) (fun H locs hP hD hS => ?_)
    have hP : va_P D vwCl (lW cI cZ cJ q r ob A B T P Y G (1) A B T P Y G V) H := hP.sub [0, 1, 2, 3, 4, 5, 6, 8, 9, 10, 11, 12, 13, 14, 7] rfl
    have hD : va_D (fun z => s.heap.size ≤ z) (lW cI cZ cJ q r ob A B T P Y G (1) A B T P Y G V) := hD.sub [0, 1, 2, 3, 4, 5, 6, 8, 9, 10, 11, 12, 13, 14, 7] (by decide) rfl
    refine W.eq (g2 := F0 m 737 ls [.int (0)]) rfl ?_
    refine lv_istore hx hb dL_law_737 hl (by decide) rfl (fun ls hl => ?_)
    have hl : lv_has ls 7 [(6, .int (0)), (5, .int (1)), (4, .int (nI i)), (3, .ref (ob)), (2, .ref (r 0)), (1, .ref (q 0)), (0, .ref (b))] := hl
    refine lv_aload_n hx hb dL_law_739 rfl (lv_at hl 4 rfl) ?_
    refine kr_V 0 (b := r 0) (As := []) (rest := []) (r := .int (1)) hx hb hml hown hts hl.1 (mM_thrown l D cJ cI cZ r (1) A B T P Y G) rB_stb ⟨hP.sub (ws' := mW cJ cI cZ r (1) A B T P Y G) [7, 8, 9, 10, 11, 12, 13] rfl, hK.sub (tys' := tsM cJ cI cZ) [2, 0, 1] rfl⟩ (gw_V w_278 w_279 w_280 w_15 w_281) (by decide) ⟨rfl, rfl⟩ ⟨Nat.le_of_ble_eq_true rfl, Nat.le_of_ble_eq_true rfl⟩ (va_recv hK hP (ci := 1) rfl (q0 := 7) rfl) rfl rfl (Nat.le_of_ble_eq_true rfl) dL_law_740 ⟨hc, hs⟩ ?_
    refine W.eq (g2 := F0 m 743 ls [.int (1)]) rfl ?_
    refine lv_iload hx hb dL_law_743 (lv_at hl 1 rfl) ?_
    refine lv_icmp_eq (tgt := 750) hx hb dL_law_745 (by decide) (fun h_6 => ?_) (fun h_6 => absurd (by decide) h_6)
    refine lv_iload hx hb dL_law_750 (lv_at hl 1 rfl) ?_
    refine lv_if_ne (tgt := 774) hx hb dL_law_752 (by decide) (fun h_7 => ?_) (fun h_7 => absurd h_7 (by decide))
    refine lv_goto (tgt := 882) hx hb dL_law_774 (by decide) ?_
    exact K _ _ _ _ _ _ _ _ hg _ _ _ hP hD hS (lv_sub hl [2, 3, 4, 5, 6] rfl)

set_option maxRecDepth 100000 in
set_option maxHeartbeats 4000000 in
theorem lc_part {p : Program} {l : Launch} {e : Env} {s : State} {m : MethodId} {below : List Frame} {meth : Method} {c : Code} {b L : Nat} {xs : Nat → Int32} {D : va_G} {cI cZ cJ : ClassId} {q r : Nat → Nat} {ob : Nat} (C : lC p l s m meth c b L xs D cI cZ cJ) {i cells slots : Nat} (hi : i + 5 ≤ L) (hc : cells + 1 ≤ 1044) (hs : slots + 6 ≤ 8428) {A B T P Y : Nat → Int32} {G : Nat → Bool} {V : Nat → Int64} {e9 : Int32} (hg : gd P Y) (K : ∀ (A B T P Y : Nat → Int32) (G : Nat → Bool) (V : Nat → Int64) (e9 : Int32), gd P Y → lS p l e s m below meth c b D cI cZ cJ q r ob i (cells + 1) (slots + 6) 882 A B T P Y G V e9) : lS p l e s m below meth c b D cI cZ cJ q r ob i cells slots 777 A B T P Y G V e9 := by
  obtain ⟨hx, hb, hr, hml, hown, hts, hX, hbl, hlocks, hst, hB, hK, hL⟩ := C
  intro H locs ls hP hD hS hl
  have hA : ∀ z : Nat, s.heap.size ≤ z → s.heap.size ≤ z := fun z h => h
  have hbA : ¬ s.heap.size ≤ b := Nat.not_le.mpr hbl
  have hH : ∀ z : Nat, z < s.heap.size → H[z]? = s.heap[z]? := fun z hz => hS.2.1 z hz (Nat.not_le.mpr hz)
  by_cases h1 : ¬ (xs (i + 2)) < 0 ∧ (xs (i + 2)) ≤ 5
  · by_cases h2 : vp_in (xs (i + 1)) 16
    · obtain ⟨j, hj, hj2⟩ : ∃ j : Nat, j ≤ 5 ∧ (xs (i + 2)) = nI j := nI_of2 (M := 5) (n := 5) (by decide) h1.1 h1.2
      rw [hj2] at h1
      refine lv_aload_n hx hb dL_law_777 rfl (lv_at hl 3 rfl) ?_
      refine la_ld (i := i) 1 (by decide) hx hb hX hbl hbA hS (lv_at hl 4 rfl) (lv_at hl 0 rfl) (by omega) hL dL_law_778 dL_law_779 dL_law_781 dL_law_782 dL_law_783 ?_
      refine la_ld (i := i) 2 (by decide) hx hb hX hbl hbA hS (lv_at hl 4 rfl) (lv_at hl 0 rfl) (by omega) hL dL_law_784 dL_law_785 dL_law_787 dL_law_788 dL_law_789 ?_
      refine W.eq (g2 := F0 m 790 ls [.int (nI j), .int (xs (i + 1)), .ref (q 0)]) (by rw [hj2]) ?_
      refine lv_aload_n hx hb dL_law_790 rfl (lv_at hl 1 rfl) ?_
      refine kw_SX 4 [0, 1, 2, 3, 4, 5, 6, 14] [7, 8, 9, 10, 11, 12, 13] (As := [.ref (q 0), .int (xs (i + 1)), .int (nI j), .ref (ob)]) (rest := []) (wc := oW cI cZ cJ q ob A B T P Y G V) (wr := mW cJ cI cZ r (e9) A B T P Y G) (w1 := oW cI cZ cJ q ob A B T P Y G (vp_updL V 0 ((ga_part A B T P Y G (xs (i + 1)).toNatClampNeg (nI j)).toInt64))) hx hb hml hown hts hl.1 hP hD hS hA hK hB hH (mL_part_y l hst D cI cZ cJ q ob A B T P Y G V _ (xs (i + 1)) j h2 (by omega)) w_241 w_242 w_13 w_243 (by decide) ⟨rfl, rfl⟩ ⟨Nat.le_of_ble_eq_true rfl, Nat.le_of_ble_eq_true rfl⟩ rfl rfl (Nat.le_of_ble_eq_true rfl) dL_law_791 ⟨hc, hs⟩ rfl rfl ⟨by decide, by decide⟩ (by decide) (fun H locs hP hD hS => ?_)
      have hP : va_P D vwCl (lW cI cZ cJ q r ob A B T P Y G (e9) A B T P Y G (vp_updL V 0 ((ga_part A B T P Y G (xs (i + 1)).toNatClampNeg (nI j)).toInt64))) H := hP.sub [7, 8, 9, 10, 11, 12, 13, 0, 1, 2, 3, 4, 5, 6, 14] rfl
      have hD : va_D (fun z => s.heap.size ≤ z) (lW cI cZ cJ q r ob A B T P Y G (e9) A B T P Y G (vp_updL V 0 ((ga_part A B T P Y G (xs (i + 1)).toNatClampNeg (nI j)).toInt64))) := hD.sub [7, 8, 9, 10, 11, 12, 13, 0, 1, 2, 3, 4, 5, 6, 14] (by decide) rfl
      refine W.eq (g2 := F0 m 794 ls [.int (0)]) rfl ?_
      refine lv_istore hx hb dL_law_794 hl (by decide) rfl (fun ls hl => ?_)
      have hl : lv_has ls 7 [(5, .int (0)), (4, .int (nI i)), (3, .ref (ob)), (2, .ref (r 0)), (1, .ref (q 0)), (0, .ref (b))] := hl
      refine lv_aload_n hx hb dL_law_796 rfl (lv_at hl 3 rfl) ?_
      refine la_ld (i := i) 1 (by decide) hx hb hX hbl hbA hS (lv_at hl 5 rfl) (lv_at hl 1 rfl) (by omega) hL dL_law_797 dL_law_798 dL_law_800 dL_law_801 dL_law_802 ?_
      refine la_ld (i := i) 2 (by decide) hx hb hX hbl hbA hS (lv_at hl 5 rfl) (lv_at hl 1 rfl) (by omega) hL dL_law_803 dL_law_804 dL_law_806 dL_law_807 dL_law_808 ?_
      refine W.eq (g2 := F0 m 809 ls [.int (nI j), .int (xs (i + 1)), .ref (r 0)]) (by rw [hj2]) ?_
      refine kw_V 2 [7, 8, 9, 10, 11, 12, 13] [0, 1, 2, 3, 4, 5, 6, 14] (b := r 0) (As := [.int (xs (i + 1)), .int (nI j)]) (rest := []) (wc := mW cJ cI cZ r (e9) A B T P Y G) (wr := xW cI cZ q A B T P Y G ++ [(ob, .inl (cJ, 1, .inr (.inl (vp_updL V 0 ((ga_part A B T P Y G (xs (i + 1)).toNatClampNeg (nI j)).toInt64)))))]) (w1 := mW cJ cI cZ r (0) A B T P Y G) hx hb hml hown hts hl.1 hP hD hS hA (hK.sub (tys' := tsM cJ cI cZ) [2, 0, 1] rfl) (mM_part_y l D cJ cI cZ r (e9) A B T P Y G _ (xs (i + 1)) (nI j) h2 h1.1 h1.2) (gw_V w_352 w_353 w_354 w_15 w_355) (by decide) ⟨rfl, rfl⟩ ⟨Nat.le_of_ble_eq_true rfl, Nat.le_of_ble_eq_true rfl⟩ (va_recv hK hP (ci := 1) rfl (q0 := 7) rfl) rfl rfl (Nat.le_of_ble_eq_true rfl) dL_law_809 ⟨hc, hs⟩ rfl rfl ⟨by decide, by decide⟩ (by decide) (fun H locs hP hD hS => ?_)
      have hP : va_P D vwCl (lW cI cZ cJ q r ob A B T P Y G (0) A B T P Y G (vp_updL V 0 ((ga_part A B T P Y G (xs (i + 1)).toNatClampNeg (nI j)).toInt64))) H := hP.sub [0, 1, 2, 3, 4, 5, 6, 8, 9, 10, 11, 12, 13, 14, 7] rfl
      have hD : va_D (fun z => s.heap.size ≤ z) (lW cI cZ cJ q r ob A B T P Y G (0) A B T P Y G (vp_updL V 0 ((ga_part A B T P Y G (xs (i + 1)).toNatClampNeg (nI j)).toInt64))) := hD.sub [0, 1, 2, 3, 4, 5, 6, 8, 9, 10, 11, 12, 13, 14, 7] (by decide) rfl
      refine W.eq (g2 := F0 m 812 ls [.int (ga_part A B T P Y G (xs (i + 1)).toNatClampNeg (nI j))]) rfl ?_
      refine lv_istore hx hb dL_law_812 hl (by decide) rfl (fun ls hl => ?_)
      have hl : lv_has ls 7 [(6, .int (ga_part A B T P Y G (xs (i + 1)).toNatClampNeg (nI j))), (5, .int (0)), (4, .int (nI i)), (3, .ref (ob)), (2, .ref (r 0)), (1, .ref (q 0)), (0, .ref (b))] := hl
      refine lv_aload_n hx hb dL_law_814 rfl (lv_at hl 4 rfl) ?_
      refine kr_V 0 (b := r 0) (As := []) (rest := []) (r := .int (0)) hx hb hml hown hts hl.1 (mM_thrown l D cJ cI cZ r (0) A B T P Y G) rB_stb ⟨hP.sub (ws' := mW cJ cI cZ r (0) A B T P Y G) [7, 8, 9, 10, 11, 12, 13] rfl, hK.sub (tys' := tsM cJ cI cZ) [2, 0, 1] rfl⟩ (gw_V w_278 w_279 w_280 w_15 w_281) (by decide) ⟨rfl, rfl⟩ ⟨Nat.le_of_ble_eq_true rfl, Nat.le_of_ble_eq_true rfl⟩ (va_recv hK hP (ci := 1) rfl (q0 := 7) rfl) rfl rfl (Nat.le_of_ble_eq_true rfl) dL_law_815 ⟨hc, hs⟩ ?_
      refine W.eq (g2 := F0 m 818 ls [.int (0)]) rfl ?_
      refine lv_iload hx hb dL_law_818 (lv_at hl 1 rfl) ?_
      refine lv_icmp_eq (tgt := 825) hx hb dL_law_820 (by decide) (fun h_1 => ?_) (fun h_1 => absurd (by decide) h_1)
      refine lv_iload hx hb dL_law_825 (lv_at hl 1 rfl) ?_
      refine lv_if_ne (tgt := 842) hx hb dL_law_827 (by decide) (fun h_2 => absurd (by decide) h_2) (fun h_2 => ?_)
      refine lv_aload_n hx hb dL_law_830 rfl (lv_at hl 3 rfl) ?_
      refine lv_iconst (v := 0) hx hb dL_law_831 (by decide) ?_
      refine va_lald hx hb hK hP 14 2 rfl rfl in01 dL_law_832 ?_
      refine W.eq (g2 := F0 m 833 ls [.long ((ga_part A B T P Y G (xs (i + 1)).toNatClampNeg (nI j)).toInt64)]) (by rw [show (0 : Int32).toNatClampNeg = 0 from rfl, pk_uLs] <;> rfl) ?_
      refine lv_iload hx hb dL_law_833 (lv_at hl 0 rfl) ?_
      refine lv_i2l (v := (ga_part A B T P Y G (xs (i + 1)).toNatClampNeg (nI j)).toInt64) hx hb dL_law_835 rfl ?_
      refine W.lcmp hx hb dL_law_836 ?_
      refine lv_if_eq (tgt := 842) hx hb dL_law_837 (by decide) (fun h_3 => ?_) (fun h_3 => absurd ((lg_cmp_eq _ _).mpr rfl) h_3)
      refine lv_goto (tgt := 882) hx hb dL_law_842 (by decide) ?_
      exact K _ _ _ _ _ _ _ _ hg _ _ _ hP hD hS (lv_sub hl [2, 3, 4, 5, 6] rfl)
    · refine lv_aload_n hx hb dL_law_777 rfl (lv_at hl 3 rfl) ?_
      refine la_ld (i := i) 1 (by decide) hx hb hX hbl hbA hS (lv_at hl 4 rfl) (lv_at hl 0 rfl) (by omega) hL dL_law_778 dL_law_779 dL_law_781 dL_law_782 dL_law_783 ?_
      refine la_ld (i := i) 2 (by decide) hx hb hX hbl hbA hS (lv_at hl 4 rfl) (lv_at hl 0 rfl) (by omega) hL dL_law_784 dL_law_785 dL_law_787 dL_law_788 dL_law_789 ?_
      refine lv_aload_n hx hb dL_law_790 rfl (lv_at hl 1 rfl) ?_
      refine kw_SX 4 [0, 1, 2, 3, 4, 5, 6, 14] [7, 8, 9, 10, 11, 12, 13] (As := [.ref (q 0), .int (xs (i + 1)), .int (xs (i + 2)), .ref (ob)]) (rest := []) (wc := oW cI cZ cJ q ob A B T P Y G V) (wr := mW cJ cI cZ r (e9) A B T P Y G) (w1 := oW cI cZ cJ q ob A B T P Y G V) hx hb hml hown hts hl.1 hP hD hS hA hK hB hH (mL_part_b l hst D cI cZ cJ q ob A B T P Y G V _ (xs (i + 1)) (xs (i + 2)) h1.1 h1.2 h2) w_241 w_242 w_13 w_243 (by decide) ⟨rfl, rfl⟩ ⟨Nat.le_of_ble_eq_true rfl, Nat.le_of_ble_eq_true rfl⟩ rfl rfl (Nat.le_of_ble_eq_true rfl) dL_law_791 ⟨hc, hs⟩ rfl rfl ⟨by decide, by decide⟩ (by decide) (fun H locs hP hD hS => ?_)
      have hP : va_P D vwCl (lW cI cZ cJ q r ob A B T P Y G (e9) A B T P Y G V) H := hP.sub [7, 8, 9, 10, 11, 12, 13, 0, 1, 2, 3, 4, 5, 6, 14] rfl
      have hD : va_D (fun z => s.heap.size ≤ z) (lW cI cZ cJ q r ob A B T P Y G (e9) A B T P Y G V) := hD.sub [7, 8, 9, 10, 11, 12, 13, 0, 1, 2, 3, 4, 5, 6, 14] (by decide) rfl
      refine W.eq (g2 := F0 m 794 ls [.int (2)]) rfl ?_
      refine lv_istore hx hb dL_law_794 hl (by decide) rfl (fun ls hl => ?_)
      have hl : lv_has ls 7 [(5, .int (2)), (4, .int (nI i)), (3, .ref (ob)), (2, .ref (r 0)), (1, .ref (q 0)), (0, .ref (b))] := hl
      refine lv_aload_n hx hb dL_law_796 rfl (lv_at hl 3 rfl) ?_
      refine la_ld (i := i) 1 (by decide) hx hb hX hbl hbA hS (lv_at hl 5 rfl) (lv_at hl 1 rfl) (by omega) hL dL_law_797 dL_law_798 dL_law_800 dL_law_801 dL_law_802 ?_
      refine la_ld (i := i) 2 (by decide) hx hb hX hbl hbA hS (lv_at hl 5 rfl) (lv_at hl 1 rfl) (by omega) hL dL_law_803 dL_law_804 dL_law_806 dL_law_807 dL_law_808 ?_
      refine kw_V 2 [7, 8, 9, 10, 11, 12, 13] [0, 1, 2, 3, 4, 5, 6, 14] (b := r 0) (As := [.int (xs (i + 1)), .int (xs (i + 2))]) (rest := []) (wc := mW cJ cI cZ r (e9) A B T P Y G) (wr := xW cI cZ q A B T P Y G ++ [(ob, .inl (cJ, 1, .inr (.inl V)))]) (w1 := mW cJ cI cZ r (2) A B T P Y G) hx hb hml hown hts hl.1 hP hD hS hA (hK.sub (tys' := tsM cJ cI cZ) [2, 0, 1] rfl) (mM_part_b l D cJ cI cZ r (e9) A B T P Y G _ (xs (i + 1)) (xs (i + 2)) h1.1 h1.2 h2) (gw_V w_352 w_353 w_354 w_15 w_355) (by decide) ⟨rfl, rfl⟩ ⟨Nat.le_of_ble_eq_true rfl, Nat.le_of_ble_eq_true rfl⟩ (va_recv hK hP (ci := 1) rfl (q0 := 7) rfl) rfl rfl (Nat.le_of_ble_eq_true rfl) dL_law_809 ⟨hc, hs⟩ rfl rfl ⟨by decide, by decide⟩ (by decide) (fun H locs hP hD hS => ?_)
      have hP : va_P D vwCl (lW cI cZ cJ q r ob A B T P Y G (2) A B T P Y G V) H := hP.sub [0, 1, 2, 3, 4, 5, 6, 8, 9, 10, 11, 12, 13, 14, 7] rfl
      have hD : va_D (fun z => s.heap.size ≤ z) (lW cI cZ cJ q r ob A B T P Y G (2) A B T P Y G V) := hD.sub [0, 1, 2, 3, 4, 5, 6, 8, 9, 10, 11, 12, 13, 14, 7] (by decide) rfl
      refine W.eq (g2 := F0 m 812 ls [.int (0)]) rfl ?_
      refine lv_istore hx hb dL_law_812 hl (by decide) rfl (fun ls hl => ?_)
      have hl : lv_has ls 7 [(6, .int (0)), (5, .int (2)), (4, .int (nI i)), (3, .ref (ob)), (2, .ref (r 0)), (1, .ref (q 0)), (0, .ref (b))] := hl
      refine lv_aload_n hx hb dL_law_814 rfl (lv_at hl 4 rfl) ?_
      refine kr_V 0 (b := r 0) (As := []) (rest := []) (r := .int (2)) hx hb hml hown hts hl.1 (mM_thrown l D cJ cI cZ r (2) A B T P Y G) rB_stb ⟨hP.sub (ws' := mW cJ cI cZ r (2) A B T P Y G) [7, 8, 9, 10, 11, 12, 13] rfl, hK.sub (tys' := tsM cJ cI cZ) [2, 0, 1] rfl⟩ (gw_V w_278 w_279 w_280 w_15 w_281) (by decide) ⟨rfl, rfl⟩ ⟨Nat.le_of_ble_eq_true rfl, Nat.le_of_ble_eq_true rfl⟩ (va_recv hK hP (ci := 1) rfl (q0 := 7) rfl) rfl rfl (Nat.le_of_ble_eq_true rfl) dL_law_815 ⟨hc, hs⟩ ?_
      refine W.eq (g2 := F0 m 818 ls [.int (2)]) rfl ?_
      refine lv_iload hx hb dL_law_818 (lv_at hl 1 rfl) ?_
      refine lv_icmp_eq (tgt := 825) hx hb dL_law_820 (by decide) (fun h_4 => ?_) (fun h_4 => absurd (by decide) h_4)
      refine lv_iload hx hb dL_law_825 (lv_at hl 1 rfl) ?_
      refine lv_if_ne (tgt := 842) hx hb dL_law_827 (by decide) (fun h_5 => ?_) (fun h_5 => absurd h_5 (by decide))
      refine lv_goto (tgt := 882) hx hb dL_law_842 (by decide) ?_
      exact K _ _ _ _ _ _ _ _ hg _ _ _ hP hD hS (lv_sub hl [2, 3, 4, 5, 6] rfl)
  · refine lv_aload_n hx hb dL_law_777 rfl (lv_at hl 3 rfl) ?_
    refine la_ld (i := i) 1 (by decide) hx hb hX hbl hbA hS (lv_at hl 4 rfl) (lv_at hl 0 rfl) (by omega) hL dL_law_778 dL_law_779 dL_law_781 dL_law_782 dL_law_783 ?_
    refine la_ld (i := i) 2 (by decide) hx hb hX hbl hbA hS (lv_at hl 4 rfl) (lv_at hl 0 rfl) (by omega) hL dL_law_784 dL_law_785 dL_law_787 dL_law_788 dL_law_789 ?_
    refine lv_aload_n hx hb dL_law_790 rfl (lv_at hl 1 rfl) ?_
    refine kw_SX 4 [0, 1, 2, 3, 4, 5, 6, 14] [7, 8, 9, 10, 11, 12, 13] (As := [.ref (q 0), .int (xs (i + 1)), .int (xs (i + 2)), .ref (ob)]) (rest := []) (wc := oW cI cZ cJ q ob A B T P Y G V) (wr := mW cJ cI cZ r (e9) A B T P Y G) (w1 := oW cI cZ cJ q ob A B T P Y G V) hx hb hml hown hts hl.1 hP hD hS hA hK hB hH (mL_part_a l hst D cI cZ cJ q ob A B T P Y G V _ (xs (i + 1)) (xs (i + 2)) h1) w_241 w_242 w_13 w_243 (by decide) ⟨rfl, rfl⟩ ⟨Nat.le_of_ble_eq_true rfl, Nat.le_of_ble_eq_true rfl⟩ rfl rfl (Nat.le_of_ble_eq_true rfl) dL_law_791 ⟨hc, hs⟩ rfl rfl ⟨by decide, by decide⟩ (by decide) (fun H locs hP hD hS => ?_)
    have hP : va_P D vwCl (lW cI cZ cJ q r ob A B T P Y G (e9) A B T P Y G V) H := hP.sub [7, 8, 9, 10, 11, 12, 13, 0, 1, 2, 3, 4, 5, 6, 14] rfl
    have hD : va_D (fun z => s.heap.size ≤ z) (lW cI cZ cJ q r ob A B T P Y G (e9) A B T P Y G V) := hD.sub [7, 8, 9, 10, 11, 12, 13, 0, 1, 2, 3, 4, 5, 6, 14] (by decide) rfl
    refine W.eq (g2 := F0 m 794 ls [.int (1)]) rfl ?_
    refine lv_istore hx hb dL_law_794 hl (by decide) rfl (fun ls hl => ?_)
    have hl : lv_has ls 7 [(5, .int (1)), (4, .int (nI i)), (3, .ref (ob)), (2, .ref (r 0)), (1, .ref (q 0)), (0, .ref (b))] := hl
    refine lv_aload_n hx hb dL_law_796 rfl (lv_at hl 3 rfl) ?_
    refine la_ld (i := i) 1 (by decide) hx hb hX hbl hbA hS (lv_at hl 5 rfl) (lv_at hl 1 rfl) (by omega) hL dL_law_797 dL_law_798 dL_law_800 dL_law_801 dL_law_802 ?_
    refine la_ld (i := i) 2 (by decide) hx hb hX hbl hbA hS (lv_at hl 5 rfl) (lv_at hl 1 rfl) (by omega) hL dL_law_803 dL_law_804 dL_law_806 dL_law_807 dL_law_808 ?_
    refine kw_V 2 [7, 8, 9, 10, 11, 12, 13] [0, 1, 2, 3, 4, 5, 6, 14] (b := r 0) (As := [.int (xs (i + 1)), .int (xs (i + 2))]) (rest := []) (wc := mW cJ cI cZ r (e9) A B T P Y G) (wr := xW cI cZ q A B T P Y G ++ [(ob, .inl (cJ, 1, .inr (.inl V)))]) (w1 := mW cJ cI cZ r (1) A B T P Y G) hx hb hml hown hts hl.1 hP hD hS hA (hK.sub (tys' := tsM cJ cI cZ) [2, 0, 1] rfl) (mM_part_a l D cJ cI cZ r (e9) A B T P Y G _ (xs (i + 1)) (xs (i + 2)) h1) (gw_V w_352 w_353 w_354 w_15 w_355) (by decide) ⟨rfl, rfl⟩ ⟨Nat.le_of_ble_eq_true rfl, Nat.le_of_ble_eq_true rfl⟩ (va_recv hK hP (ci := 1) rfl (q0 := 7) rfl) rfl rfl (Nat.le_of_ble_eq_true rfl) dL_law_809 ⟨hc, hs⟩ rfl rfl ⟨by decide, by decide⟩ (by decide) (fun H locs hP hD hS => ?_)
    have hP : va_P D vwCl (lW cI cZ cJ q r ob A B T P Y G (1) A B T P Y G V) H := hP.sub [0, 1, 2, 3, 4, 5, 6, 8, 9, 10, 11, 12, 13, 14, 7] rfl
    have hD : va_D (fun z => s.heap.size ≤ z) (lW cI cZ cJ q r ob A B T P Y G (1) A B T P Y G V) := hD.sub [0, 1, 2, 3, 4, 5, 6, 8, 9, 10, 11, 12, 13, 14, 7] (by decide) rfl
    refine W.eq (g2 := F0 m 812 ls [.int (0)]) rfl ?_
    refine lv_istore hx hb dL_law_812 hl (by decide) rfl (fun ls hl => ?_)
    have hl : lv_has ls 7 [(6, .int (0)), (5, .int (1)), (4, .int (nI i)), (3, .ref (ob)), (2, .ref (r 0)), (1, .ref (q 0)), (0, .ref (b))] := hl
    refine lv_aload_n hx hb dL_law_814 rfl (lv_at hl 4 rfl) ?_
    refine kr_V 0 (b := r 0) (As := []) (rest := []) (r := .int (1)) hx hb hml hown hts hl.1 (mM_thrown l D cJ cI cZ r (1) A B T P Y G) rB_stb ⟨hP.sub (ws' := mW cJ cI cZ r (1) A B T P Y G) [7, 8, 9, 10, 11, 12, 13] rfl, hK.sub (tys' := tsM cJ cI cZ) [2, 0, 1] rfl⟩ (gw_V w_278 w_279 w_280 w_15 w_281) (by decide) ⟨rfl, rfl⟩ ⟨Nat.le_of_ble_eq_true rfl, Nat.le_of_ble_eq_true rfl⟩ (va_recv hK hP (ci := 1) rfl (q0 := 7) rfl) rfl rfl (Nat.le_of_ble_eq_true rfl) dL_law_815 ⟨hc, hs⟩ ?_
    refine W.eq (g2 := F0 m 818 ls [.int (1)]) rfl ?_
    refine lv_iload hx hb dL_law_818 (lv_at hl 1 rfl) ?_
    refine lv_icmp_eq (tgt := 825) hx hb dL_law_820 (by decide) (fun h_6 => ?_) (fun h_6 => absurd (by decide) h_6)
    refine lv_iload hx hb dL_law_825 (lv_at hl 1 rfl) ?_
    refine lv_if_ne (tgt := 842) hx hb dL_law_827 (by decide) (fun h_7 => ?_) (fun h_7 => absurd h_7 (by decide))
    refine lv_goto (tgt := 882) hx hb dL_law_842 (by decide) ?_
    exact K _ _ _ _ _ _ _ _ hg _ _ _ hP hD hS (lv_sub hl [2, 3, 4, 5, 6] rfl)

set_option maxRecDepth 100000 in
set_option maxHeartbeats 4000000 in
theorem lc_count {p : Program} {l : Launch} {e : Env} {s : State} {m : MethodId} {below : List Frame} {meth : Method} {c : Code} {b L : Nat} {xs : Nat → Int32} {D : va_G} {cI cZ cJ : ClassId} {q r : Nat → Nat} {ob : Nat} (C : lC p l s m meth c b L xs D cI cZ cJ) {i cells slots : Nat} (hi : i + 5 ≤ L) (hc : cells + 1 ≤ 1044) (hs : slots + 6 ≤ 8428) {A B T P Y : Nat → Int32} {G : Nat → Bool} {V : Nat → Int64} {e9 : Int32} (hg : gd P Y) (K : ∀ (A B T P Y : Nat → Int32) (G : Nat → Bool) (V : Nat → Int64) (e9 : Int32), gd P Y → lS p l e s m below meth c b D cI cZ cJ q r ob i (cells + 1) (slots + 6) 882 A B T P Y G V e9) : lS p l e s m below meth c b D cI cZ cJ q r ob i cells slots 845 A B T P Y G V e9 := by
  obtain ⟨hx, hb, hr, hml, hown, hts, hX, hbl, hlocks, hst, hB, hK, hL⟩ := C
  intro H locs ls hP hD hS hl
  have hA : ∀ z : Nat, s.heap.size ≤ z → s.heap.size ≤ z := fun z h => h
  have hbA : ¬ s.heap.size ≤ b := Nat.not_le.mpr hbl
  have hH : ∀ z : Nat, z < s.heap.size → H[z]? = s.heap[z]? := fun z hz => hS.2.1 z hz (Nat.not_le.mpr hz)
  refine lv_aload_n hx hb dL_law_845 rfl (lv_at hl 3 rfl) ?_
  refine la_ld (i := i) 1 (by decide) hx hb hX hbl hbA hS (lv_at hl 4 rfl) (lv_at hl 0 rfl) (by omega) hL dL_law_846 dL_law_847 dL_law_849 dL_law_850 dL_law_851 ?_
  refine la_ld (i := i) 2 (by decide) hx hb hX hbl hbA hS (lv_at hl 4 rfl) (lv_at hl 0 rfl) (by omega) hL dL_law_852 dL_law_853 dL_law_855 dL_law_856 dL_law_857 ?_
  refine kr_V 2 (b := q 0) (As := [.int (xs (i + 1)), .int (xs (i + 2))]) (rest := []) (r := .int (ga_cnt B T P Y G (xs (i + 1)) (xs (i + 2)) 16)) hx hb hml hown hts hl.1 (mX_count l D cI cZ q A B T P Y G (xs (i + 1)) (xs (i + 2))) rB_stb ⟨hP.sub (ws' := xW cI cZ q A B T P Y G) [0, 1, 2, 3, 4, 5, 6] rfl, hK.sub (tys' := tsX cI cZ) [0, 1] rfl⟩ (gw_V w_50 w_51 w_52 w_14 w_53) (by decide) ⟨rfl, rfl⟩ ⟨Nat.le_of_ble_eq_true rfl, Nat.le_of_ble_eq_true rfl⟩ (va_recv hK hP (ci := 0) rfl (q0 := 0) rfl) rfl rfl (Nat.le_of_ble_eq_true rfl) dL_law_858 ⟨Nat.le_trans (Nat.le_succ _) hc, Nat.le_trans (Nat.le_add_right _ 6) hs⟩ ?_
  refine W.eq (g2 := F0 m 861 ls [.int (ga_cnt B T P Y G (xs (i + 1)) (xs (i + 2)) 16)]) rfl ?_
  refine lv_aload_n hx hb dL_law_861 rfl (lv_at hl 2 rfl) ?_
  refine la_ld (i := i) 1 (by decide) hx hb hX hbl hbA hS (lv_at hl 4 rfl) (lv_at hl 0 rfl) (by omega) hL dL_law_862 dL_law_863 dL_law_865 dL_law_866 dL_law_867 ?_
  refine la_ld (i := i) 2 (by decide) hx hb hX hbl hbA hS (lv_at hl 4 rfl) (lv_at hl 0 rfl) (by omega) hL dL_law_868 dL_law_869 dL_law_871 dL_law_872 dL_law_873 ?_
  refine kw_V 2 [7, 8, 9, 10, 11, 12, 13] [0, 1, 2, 3, 4, 5, 6, 14] (b := r 0) (As := [.int (xs (i + 1)), .int (xs (i + 2))]) (rest := [.int (ga_cnt B T P Y G (xs (i + 1)) (xs (i + 2)) 16)]) (wc := mW cJ cI cZ r (e9) A B T P Y G) (wr := xW cI cZ q A B T P Y G ++ [(ob, .inl (cJ, 1, .inr (.inl V)))]) (w1 := mW cJ cI cZ r (0) A B T P Y G) hx hb hml hown hts hl.1 hP hD hS hA (hK.sub (tys' := tsM cJ cI cZ) [2, 0, 1] rfl) (mM_count l D cJ cI cZ r (e9) A B T P Y G _ (xs (i + 1)) (xs (i + 2))) (gw_V w_357 w_358 w_359 w_15 w_360) (by decide) ⟨rfl, rfl⟩ ⟨Nat.le_of_ble_eq_true rfl, Nat.le_of_ble_eq_true rfl⟩ (va_recv hK hP (ci := 1) rfl (q0 := 7) rfl) rfl rfl (Nat.le_of_ble_eq_true rfl) dL_law_874 ⟨Nat.le_trans (Nat.le_succ _) hc, Nat.le_trans (Nat.le_add_right _ 6) hs⟩ rfl rfl ⟨by decide, by decide⟩ (by decide) (fun H locs hP hD hS => ?_)
  have hP : va_P D vwCl (lW cI cZ cJ q r ob A B T P Y G (0) A B T P Y G V) H := hP.sub [0, 1, 2, 3, 4, 5, 6, 8, 9, 10, 11, 12, 13, 14, 7] rfl
  have hD : va_D (fun z => s.heap.size ≤ z) (lW cI cZ cJ q r ob A B T P Y G (0) A B T P Y G V) := hD.sub [0, 1, 2, 3, 4, 5, 6, 8, 9, 10, 11, 12, 13, 14, 7] (by decide) rfl
  refine W.eq (g2 := F0 m 877 ls [.int (ga_cnt B T P Y G (xs (i + 1)) (xs (i + 2)) 16), .int (ga_cnt B T P Y G (xs (i + 1)) (xs (i + 2)) 16)]) rfl ?_
  refine lv_icmp_eq (tgt := 882) hx hb dL_law_877 (by decide) (fun h_1 => ?_) (fun h_1 => absurd rfl h_1)
  refine W.widen (k := cells + 1) (n := slots + 6) (Nat.le_succ _) (Nat.le_add_right _ 6) ?_
  exact K _ _ _ _ _ _ _ _ hg _ _ _ hP hD hS (lv_sub hl [0, 1, 2, 3, 4] rfl)

