/-! The law's loop. Laid by program (wip/whole/gen_l3.py). -/
set_option maxRecDepth 100000 in
set_option maxHeartbeats 4000000 in
theorem ll_body {p : Program} {l : Launch} {e : Env} {s : State} {m : MethodId} {below : List Frame} {meth : Method} {c : Code} {b L : Nat} {xs : Nat → Int32} {D : va_G} {cI cZ cJ : ClassId} {q r : Nat → Nat} {ob : Nat} (C : lC p l s m meth c b L xs D cI cZ cJ) {i cells slots : Nat} (hi : i + 5 ≤ L) (hc : cells + 1 ≤ 1044) (hs : slots + 6 ≤ 8428) {A B T P Y : Nat → Int32} {G : Nat → Bool} {V : Nat → Int64} {e9 : Int32} (hg : gd P Y) (N9 : ∀ (A B T P Y : Nat → Int32) (G : Nat → Bool) (V : Nat → Int64) (e9 : Int32), gd P Y → lS p l e s m below meth c b D cI cZ cJ q r ob (i + 5) (cells + 1) (slots + 6) 23 A B T P Y G V e9) : lS p l e s m below meth c b D cI cZ cJ q r ob i cells slots 32 A B T P Y G V e9 := by
  have K : ∀ (A B T P Y : Nat → Int32) (G : Nat → Bool) (V : Nat → Int64) (e9 : Int32), gd P Y → lS p l e s m below meth c b D cI cZ cJ q r ob i (cells + 1) (slots + 6) 882 A B T P Y G V e9 := by
    intro A B T P Y G V e9 hg H locs ls hP hD hS hl
    obtain ⟨hx, hb, hr, hml, hown, hts, hX, hbl, hlocks, hst, hB, hK, hL⟩ := C
    refine lv_iinc (k := 0) (v := nI (i + 5)) hx hb dL_law_882 hl rfl (by show nI i + nI 5 = _; rw [nI_add]) (by decide) rfl (fun ls hl => ?_)
    refine lv_goto (tgt := 23) hx hb dL_law_885 (by decide) ?_
    exact N9 A B T P Y G V e9 hg H locs ls hP hD hS hl
  intro H locs ls hP hD hS hl
  have C0 := C
  obtain ⟨hx, hb, hr, hml, hown, hts, hX, hbl, hlocks, hst, hB, hK, hL⟩ := C0
  have hbA : ¬ s.heap.size ≤ b := Nat.not_le.mpr hbl
  refine lv_aload_n hx hb dL_law_32 rfl (lv_at hl 4 rfl) ?_
  refine lv_iload hx hb dL_law_33 (lv_at hl 0 rfl) ?_
  refine va_sld (A := fun z => s.heap.size ≤ z) hx hb hX hbl hbA hS (vp_in_nI (by omega) (by omega)) dL_law_35 ?_
  refine lv_bipush (v := 15) hx hb dL_law_36 (by decide) ?_
  refine lv_iand hx hb dL_law_38 ?_
  obtain ⟨j, hj, hj2⟩ := pk_andE (xs (nI i).toNatClampNeg) (m := 15) 4 (by decide)
  refine W.eq (g2 := F0 m 39 ls [.int (nI j)]) (by rw [hj2]) ?_
  rcases (show j = 0 ∨ j = 1 ∨ j = 2 ∨ j = 3 ∨ j = 4 ∨ j = 5 ∨ j = 6 ∨ j = 7 ∨ j = 8 ∨ j = 9 ∨ j = 10 ∨ j = 11 ∨ j = 12 ∨ j = 13 ∨ j = 14 ∨ j = 15 by omega) with rfl | rfl | rfl | rfl | rfl | rfl | rfl | rfl | rfl | rfl | rfl | rfl | rfl | rfl | rfl | rfl
  · refine lv_tableIn (x := nI 0) (off := 57) (tgt := 96) hx hb dL_law_39 (by decide) (by decide) (by decide) (by decide) ?_
    exact lc_root C hi hc hs hg K H locs ls hP hD hS hl
  · refine lv_tableIn (x := nI 1) (off := 129) (tgt := 168) hx hb dL_law_39 (by decide) (by decide) (by decide) (by decide) ?_
    exact lc_number C hi hc hs hg K H locs ls hP hD hS hl
  · refine lv_tableIn (x := nI 2) (off := 177) (tgt := 216) hx hb dL_law_39 (by decide) (by decide) (by decide) (by decide) ?_
    exact lc_move C hi hc hs hg K H locs ls hP hD hS hl
  · refine lv_tableIn (x := nI 3) (off := 237) (tgt := 276) hx hb dL_law_39 (by decide) (by decide) (by decide) (by decide) ?_
    exact lc_narrow C hi hc hs hg K H locs ls hP hD hS hl
  · refine lv_tableIn (x := nI 4) (off := 324) (tgt := 363) hx hb dL_law_39 (by decide) (by decide) (by decide) (by decide) ?_
    exact lc_restrict C hi hc hs hg K H locs ls hP hD hS hl
  · refine lv_tableIn (x := nI 5) (off := 411) (tgt := 450) hx hb dL_law_39 (by decide) (by decide) (by decide) (by decide) ?_
    exact lc_seal C hi hc hs hg K H locs ls hP hD hS hl
  · refine lv_tableIn (x := nI 6) (off := 491) (tgt := 530) hx hb dL_law_39 (by decide) (by decide) (by decide) (by decide) ?_
    exact lc_unseal C hi hc hs hg K H locs ls hP hD hS hl
  · refine lv_tableIn (x := nI 7) (off := 571) (tgt := 610) hx hb dL_law_39 (by decide) (by decide) (by decide) (by decide) ?_
    exact lc_allows C hi hc hs hg K H locs ls hP hD hS hl
  · refine lv_tableIn (x := nI 8) (off := 663) (tgt := 702) hx hb dL_law_39 (by decide) (by decide) (by decide) (by decide) ?_
    exact lc_within C hi hc hs hg K H locs ls hP hD hS hl
  · refine lv_tableIn (x := nI 9) (off := 738) (tgt := 777) hx hb dL_law_39 (by decide) (by decide) (by decide) (by decide) ?_
    exact lc_part C hi hc hs hg K H locs ls hP hD hS hl
  · refine lv_tableIn (x := nI 10) (off := 806) (tgt := 845) hx hb dL_law_39 (by decide) (by decide) (by decide) (by decide) ?_
    exact lc_count C hi hc hs hg K H locs ls hP hD hS hl
  · refine lv_tableOut (x := nI 11) (tgt := 882) hx hb dL_law_39 (by decide) (by decide) ?_
    refine W.widen (k := cells + 1) (n := slots + 6) (Nat.le_succ _) (Nat.le_add_right _ 6) ?_
    exact K A B T P Y G V e9 hg H locs ls hP hD hS hl
  · refine lv_tableOut (x := nI 12) (tgt := 882) hx hb dL_law_39 (by decide) (by decide) ?_
    refine W.widen (k := cells + 1) (n := slots + 6) (Nat.le_succ _) (Nat.le_add_right _ 6) ?_
    exact K A B T P Y G V e9 hg H locs ls hP hD hS hl
  · refine lv_tableOut (x := nI 13) (tgt := 882) hx hb dL_law_39 (by decide) (by decide) ?_
    refine W.widen (k := cells + 1) (n := slots + 6) (Nat.le_succ _) (Nat.le_add_right _ 6) ?_
    exact K A B T P Y G V e9 hg H locs ls hP hD hS hl
  · refine lv_tableOut (x := nI 14) (tgt := 882) hx hb dL_law_39 (by decide) (by decide) ?_
    refine W.widen (k := cells + 1) (n := slots + 6) (Nat.le_succ _) (Nat.le_add_right _ 6) ?_
    exact K A B T P Y G V e9 hg H locs ls hP hD hS hl
  · refine lv_tableOut (x := nI 15) (tgt := 882) hx hb dL_law_39 (by decide) (by decide) ?_
    refine W.widen (k := cells + 1) (n := slots + 6) (Nat.le_succ _) (Nat.le_add_right _ 6) ?_
    exact K A B T P Y G V e9 hg H locs ls hP hD hS hl

set_option maxRecDepth 100000 in
set_option maxHeartbeats 4000000 in
theorem ll_loop {p : Program} {l : Launch} {e : Env} {s : State} {m : MethodId} {below : List Frame} {meth : Method} {c : Code} {b L : Nat} {xs : Nat → Int32} {D : va_G} {cI cZ cJ : ClassId} {q r : Nat → Nat} {ob : Nat} (C : lC p l s m meth c b L xs D cI cZ cJ) : ∀ (n t : Nat), t + n = 512 → ∀ (A B T P Y : Nat → Int32) (G : Nat → Bool) (V : Nat → Int64) (e9 : Int32), gd P Y → lS p l e s m below meth c b D cI cZ cJ q r ob (5 * t) (15 + t) (206 + 6 * t) 23 A B T P Y G V e9 := by
  have last : ∀ (t : Nat) (A B T P Y : Nat → Int32) (G : Nat → Bool) (V : Nat → Int64) (e9 : Int32), t ≤ 512 → lS p l e s m below meth c b D cI cZ cJ q r ob (5 * t) (15 + t) (206 + 6 * t) 888 A B T P Y G V e9 := by
    intro t A B T P Y G V e9 ht H locs ls hP hD hS hl
    obtain ⟨hx, hb, hr, hml, hown, hts, hX, hbl, hlocks, hst, hB, hK, hL⟩ := C
    refine lv_iconst (v := 1) hx hb dL_law_888 (by decide) ?_
    refine va_forget (fun z hz => hS.2.2 z hz) ?_
    refine W.widen (k := 1044) (n := 8428) (by omega) (by omega) ?_
    exact lw_ret hx hb hr hlocks dL_law_889
  have chk : ∀ (t : Nat) (A B T P Y : Nat → Int32) (G : Nat → Bool) (V : Nat → Int64) (e9 : Int32), t ≤ 512 → (5 * t + 5 ≤ L → lS p l e s m below meth c b D cI cZ cJ q r ob (5 * t) (15 + t) (206 + 6 * t) 32 A B T P Y G V e9) → lS p l e s m below meth c b D cI cZ cJ q r ob (5 * t) (15 + t) (206 + 6 * t) 23 A B T P Y G V e9 := by
    intro t A B T P Y G V e9 ht h H locs ls hP hD hS hl
    have C0 := C
    obtain ⟨hx, hb, hr, hml, hown, hts, hX, hbl, hlocks, hst, hB, hK, hL⟩ := C0
    have hbA : ¬ s.heap.size ≤ b := Nat.not_le.mpr hbl
    refine lv_iload hx hb dL_law_23 (lv_at hl 0 rfl) ?_
    refine lv_aload_n hx hb dL_law_25 rfl (lv_at hl 4 rfl) ?_
    refine va_slen (A := fun z => s.heap.size ≤ z) hx hb hX hbl hbA hS dL_law_26 ?_
    refine lv_iconst (v := 5) hx hb dL_law_27 (by decide) ?_
    refine lv_isub hx hb dL_law_28 ?_
    refine lv_icmp_gt (tgt := 888) hx hb dL_law_29 (by decide) (fun h1 => ?_) (fun h1 => ?_)
    · exact last t A B T P Y G V e9 ht H locs ls hP hD hS hl
    · have h2 : ¬ L < 5 * t + 5 := fun h3 => h1 ((lw_gt (by omega) hL).mpr h3)
      exact h (by omega) H locs ls hP hD hS hl
  intro n
  induction n with
  | zero =>
    intro t ht A B T P Y G V e9 hg
    refine chk t A B T P Y G V e9 (by omega) (fun h => ?_)
    have hL : L ≤ 2560 := C.2.2.2.2.2.2.2.2.2.2.2.2
    exact absurd h (by omega)
  | succ n ih =>
    intro t ht A B T P Y G V e9 hg
    refine chk t A B T P Y G V e9 (by omega) (fun h => ?_)
    exact ll_body C h (by omega) (by omega) hg (fun A B T P Y G V e9 hg => ih (t + 1) (by omega) A B T P Y G V e9 hg)

