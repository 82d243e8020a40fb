/-! Contracts of GrantMath: allows, within, part, count. Laid by program (wip/whole/gen_x3.py). -/
set_option maxRecDepth 100000 in
set_option maxHeartbeats 4000000 in
theorem mX_allows (l : Launch) (D : va_G) (cI cZ : ClassId) (q : Nat → Nat) (A B T P Y : Nat → Int32) (G : Nat → Bool) (ri by9 : Int32) (n : Nat) (w : Int32) (hri : vp_in ri 16) (hn : n ≤ 65536) : Met l yX_allows (Cond.code yX_allows cX_allows 5 (some .int) :: gw) (rmk 3 0 0) (va_Pc [.ref (q 0), .int (ri), .int (by9), .int (nI n), .int (w)] (rB D vwCl (xW cI cZ q A B T P Y G) (tsX cI cZ))) (k2_QcV (.int (ga_acc B T P Y G ri.toNatClampNeg ((A ri.toNatClampNeg) + (by9)) n w))) 0 0 (fun _ => False) := by
  refine Met.ofW (cc := cX_allows) (maxL := 5) (ret := (some .int)) (by decide) rfl ?_
  intro p e s m args below meth c s₁ B9 hml hv
  obtain ⟨rfl, hP, hK⟩ := hv
  have hx := B9.exec
  have hb := B9.bytes
  have hr := B9.returns
  have hts := fun (w : Cond) (h : w ∈ gw) => atoms_spec (ws := _ :: gw) B9.pre w (List.mem_cons_of_mem _ h)
  have hown : s.vm.findClass RX = some m.cls := findClass_of_methodNamed B9.named
  have hlocks := B9.notSynchronized
  have hl := lv_entry ([.ref (q 0), .int (ri), .int (by9), .int (nI n), .int (w)]) (n := 5) (Nat.le_of_ble_eq_true rfl)
  rw [lg_entry_eq]
  generalize (lg_sl ([.ref (q 0), .int (ri), .int (by9), .int (nI n), .int (w)]) ++ List.replicate (5 - (lg_sl ([.ref (q 0), .int (ri), .int (by9), .int (nI n), .int (w)])).length) Slot.unset).toArray = ls at hl ⊢
  have hl : lv_has ls 5 [(0, .ref (q 0)), (1, .int (ri)), (2, .int (by9)), (3, .int (nI n)), (4, .int (w))] := hl
  refine lv_iload_n hx hb dX_allows_0 rfl (lv_at hl 3 rfl) ?_
  refine lv_if_lt (tgt := 10) hx hb dX_allows_1 (by decide) (fun h_1 => absurd h_1 (nI_pos (by omega))) (fun h_1 => ?_)
  refine lv_iload_n hx hb dX_allows_4 rfl (lv_at hl 3 rfl) ?_
  refine lv_ldc (v := 65536) hx hb hown (hts _ w_232) dX_allows_5 ?_
  refine lv_icmp_le (tgt := 20) hx hb dX_allows_7 (by decide) (fun h_2 => ?_) (fun h_2 => absurd (show nI n ≤ 65536 from nI_le hn (by decide)) h_2)
  refine lv_iload_n hx hb dX_allows_20 rfl (lv_at hl 1 rfl) ?_
  refine kr_Sv 1 (As := [.int (ri)]) (rest := []) hx hb hml hown hts hl.1 (mX_requireGrant l (ri) hri) tt_stb trivial (gw_S w_151 w_152 w_14 w_153) (by decide) ⟨rfl, rfl⟩ ⟨Nat.le_of_ble_eq_true rfl, Nat.le_of_ble_eq_true rfl⟩ rfl rfl (Nat.le_of_ble_eq_true rfl) dX_allows_21 ⟨Nat.zero_le _, Nat.zero_le _⟩ ?_
  refine lv_aload_n hx hb dX_allows_24 rfl (lv_at hl 0 rfl) ?_
  refine lv_iload_n hx hb dX_allows_25 rfl (lv_at hl 1 rfl) ?_
  refine lv_aload_n hx hb dX_allows_26 rfl (lv_at hl 0 rfl) ?_
  refine va_get (D := D) (ci := 0) (v := .ref (q 1)) (C := RX) (T := TX) (N := 6) hx hb hts inX hown hK hP 0 rfl rfl 0 (by decide) (hts _ w_29) (fun _ h9 => h9) rfl dX_allows_27 ?_
  refine lv_iload_n hx hb dX_allows_30 rfl (lv_at hl 1 rfl) ?_
  refine va_iald hx hb hK hP 1 0 rfl rfl hri dX_allows_31 ?_
  refine lv_iload_n hx hb dX_allows_32 rfl (lv_at hl 2 rfl) ?_
  refine lv_iadd hx hb dX_allows_33 ?_
  refine lv_iload_n hx hb dX_allows_34 rfl (lv_at hl 3 rfl) ?_
  refine lv_iload hx hb dX_allows_35 (lv_at hl 4 rfl) ?_
  refine kr_V 4 (b := q 0) (As := [.int (ri), .int ((A ri.toNatClampNeg) + (by9)), .int (nI n), .int (w)]) (rest := []) (r := .int (ga_acc B T P Y G ri.toNatClampNeg ((A ri.toNatClampNeg) + (by9)) n (w))) hx hb hml hown hts hl.1 (mX_accessCause l D cI cZ q A B T P Y G (ri) ((A ri.toNatClampNeg) + (by9)) n (w) hri (by first | decide | omega)) rB_stb ⟨hP, hK⟩ (gw_V w_54 w_56 w_0 w_14 w_57) (by decide) ⟨rfl, rfl⟩ ⟨Nat.le_of_ble_eq_true rfl, Nat.le_of_ble_eq_true rfl⟩ (va_recv hK hP (ci := 0) rfl (q0 := 0) rfl) rfl rfl (Nat.le_of_ble_eq_true rfl) dX_allows_37 ⟨Nat.zero_le _, Nat.zero_le _⟩ ?_
  exact W.iret (v := ga_acc B T P Y G ri.toNatClampNeg ((A ri.toNatClampNeg) + (by9)) n (w)) hx hb hr (fun t9 ht hW => ⟨rfl, ht⟩) (fun z hz => nomatch hz) dX_allows_40

set_option maxRecDepth 100000 in
set_option maxHeartbeats 4000000 in
theorem mX_within (l : Launch) (D : va_G) (cI cZ : ClassId) (q : Nat → Nat) (A B T P Y : Nat → Int32) (G : Nat → Bool) (ri si : Int32) (hri : vp_in ri 16) (hsi : vp_in si 16) : Met l yX_within (Cond.code yX_within cX_within 3 (some .boolean) :: gw) (rmk 1 0 0) (va_Pc [.ref (q 0), .int (ri), .int (si)] (rB D vwCl (xW cI cZ q A B T P Y G) (tsX cI cZ))) (k2_QcV (.int (bi (ga_with B T P G ri.toNatClampNeg si.toNatClampNeg)))) 0 0 (fun _ => False) := by
  refine Met.ofW (cc := cX_within) (maxL := 3) (ret := (some .boolean)) (by decide) rfl ?_
  intro p e s m args below meth c s₁ B9 hml hv
  obtain ⟨rfl, hP, hK⟩ := hv
  have hx := B9.exec
  have hb := B9.bytes
  have hr := B9.returns
  have hts := fun (w : Cond) (h : w ∈ gw) => atoms_spec (ws := _ :: gw) B9.pre w (List.mem_cons_of_mem _ h)
  have hown : s.vm.findClass RX = some m.cls := findClass_of_methodNamed B9.named
  have hlocks := B9.notSynchronized
  have hl := lv_entry ([.ref (q 0), .int (ri), .int (si)]) (n := 3) (Nat.le_of_ble_eq_true rfl)
  rw [lg_entry_eq]
  generalize (lg_sl ([.ref (q 0), .int (ri), .int (si)]) ++ List.replicate (3 - (lg_sl ([.ref (q 0), .int (ri), .int (si)])).length) Slot.unset).toArray = ls at hl ⊢
  have hl : lv_has ls 3 [(0, .ref (q 0)), (1, .int (ri)), (2, .int (si))] := hl
  refine lv_iload_n hx hb dX_within_0 rfl (lv_at hl 1 rfl) ?_
  refine kr_Sv 1 (As := [.int (ri)]) (rest := []) hx hb hml hown hts hl.1 (mX_requireGrant l (ri) hri) tt_stb trivial (gw_S w_151 w_152 w_14 w_153) (by decide) ⟨rfl, rfl⟩ ⟨Nat.le_of_ble_eq_true rfl, Nat.le_of_ble_eq_true rfl⟩ rfl rfl (Nat.le_of_ble_eq_true rfl) dX_within_1 ⟨Nat.zero_le _, Nat.zero_le _⟩ ?_
  refine lv_iload_n hx hb dX_within_4 rfl (lv_at hl 2 rfl) ?_
  refine kr_Sv 1 (As := [.int (si)]) (rest := []) hx hb hml hown hts hl.1 (mX_requireGrant l (si) hsi) tt_stb trivial (gw_S w_151 w_152 w_14 w_153) (by decide) ⟨rfl, rfl⟩ ⟨Nat.le_of_ble_eq_true rfl, Nat.le_of_ble_eq_true rfl⟩ rfl rfl (Nat.le_of_ble_eq_true rfl) dX_within_5 ⟨Nat.zero_le _, Nat.zero_le _⟩ ?_
  refine lv_aload_n hx hb dX_within_8 rfl (lv_at hl 0 rfl) ?_
  refine va_get (D := D) (ci := 0) (v := .ref (q 6)) (C := RX) (T := TX) (N := 6) hx hb hts inX hown hK hP 0 rfl rfl 5 (by decide) (hts _ w_34) (fun _ h9 => h9) rfl dX_within_9 ?_
  refine lv_iload_n hx hb dX_within_12 rfl (lv_at hl 1 rfl) ?_
  refine va_zald hx hb hK hP 6 1 rfl rfl hri dX_within_13 ?_
  refine W.eq (g2 := F0 m 14 ls [.int (bi (G ri.toNatClampNeg))]) rfl ?_
  refine lv_if_eq (tgt := 88) hx hb dX_within_14 (by decide) (fun h_1 => ?_) (fun h_1 => ?_)
  · have h_1 := bi_0 h_1
    refine lv_iconst (v := 0) hx hb dX_within_88 (by decide) ?_
    have e9 : (ga_with B T P G ri.toNatClampNeg si.toNatClampNeg) = false := by unfold ga_with; simp [h_1]
    refine W.eq (g2 := F0 m 89 ls [.int (bi (ga_with B T P G ri.toNatClampNeg si.toNatClampNeg))]) (by rw [e9]; rfl) ?_
    exact W.zret (v := bi (ga_with B T P G ri.toNatClampNeg si.toNatClampNeg)) hx hb hr (bi_nar _) (fun t9 ht hW => ⟨rfl, ht⟩) (fun z hz => nomatch hz) dX_within_89
  · have h_1 := bi_n h_1
    refine lv_aload_n hx hb dX_within_17 rfl (lv_at hl 0 rfl) ?_
    refine va_get (D := D) (ci := 0) (v := .ref (q 6)) (C := RX) (T := TX) (N := 6) hx hb hts inX hown hK hP 0 rfl rfl 5 (by decide) (hts _ w_34) (fun _ h9 => h9) rfl dX_within_18 ?_
    refine lv_iload_n hx hb dX_within_21 rfl (lv_at hl 2 rfl) ?_
    refine va_zald hx hb hK hP 6 1 rfl rfl hsi dX_within_22 ?_
    refine W.eq (g2 := F0 m 23 ls [.int (bi (G si.toNatClampNeg))]) rfl ?_
    refine lv_if_eq (tgt := 88) hx hb dX_within_23 (by decide) (fun h_2 => ?_) (fun h_2 => ?_)
    · have h_2 := bi_0 h_2
      refine lv_iconst (v := 0) hx hb dX_within_88 (by decide) ?_
      have e9 : (ga_with B T P G ri.toNatClampNeg si.toNatClampNeg) = false := by unfold ga_with; simp [h_1, h_2]
      refine W.eq (g2 := F0 m 89 ls [.int (bi (ga_with B T P G ri.toNatClampNeg si.toNatClampNeg))]) (by rw [e9]; rfl) ?_
      exact W.zret (v := bi (ga_with B T P G ri.toNatClampNeg si.toNatClampNeg)) hx hb hr (bi_nar _) (fun t9 ht hW => ⟨rfl, ht⟩) (fun z hz => nomatch hz) dX_within_89
    · have h_2 := bi_n h_2
      refine lv_aload_n hx hb dX_within_26 rfl (lv_at hl 0 rfl) ?_
      refine va_get (D := D) (ci := 0) (v := .ref (q 2)) (C := RX) (T := TX) (N := 6) hx hb hts inX hown hK hP 0 rfl rfl 1 (by decide) (hts _ w_30) (fun _ h9 => h9) rfl dX_within_27 ?_
      refine lv_iload_n hx hb dX_within_30 rfl (lv_at hl 1 rfl) ?_
      refine va_iald hx hb hK hP 2 0 rfl rfl hri dX_within_31 ?_
      refine kr_S 1 (As := [.int (B ri.toNatClampNeg)]) (rest := []) (r := .long (uw (B ri.toNatClampNeg))) hx hb hml hown hts hl.1 (mX_unsigned l (B ri.toNatClampNeg)) tt_stb trivial (gw_S w_70 w_71 w_14 w_72) (by decide) ⟨rfl, rfl⟩ ⟨Nat.le_of_ble_eq_true rfl, Nat.le_of_ble_eq_true rfl⟩ rfl rfl (Nat.le_of_ble_eq_true rfl) dX_within_32 ⟨Nat.zero_le _, Nat.zero_le _⟩ ?_
      refine lv_aload_n hx hb dX_within_35 rfl (lv_at hl 0 rfl) ?_
      refine va_get (D := D) (ci := 0) (v := .ref (q 2)) (C := RX) (T := TX) (N := 6) hx hb hts inX hown hK hP 0 rfl rfl 1 (by decide) (hts _ w_30) (fun _ h9 => h9) rfl dX_within_36 ?_
      refine lv_iload_n hx hb dX_within_39 rfl (lv_at hl 2 rfl) ?_
      refine va_iald hx hb hK hP 2 0 rfl rfl hsi dX_within_40 ?_
      refine kr_S 1 (As := [.int (B si.toNatClampNeg)]) (rest := [.long (uw (B ri.toNatClampNeg))]) (r := .long (uw (B si.toNatClampNeg))) hx hb hml hown hts hl.1 (mX_unsigned l (B si.toNatClampNeg)) tt_stb trivial (gw_S w_70 w_71 w_14 w_72) (by decide) ⟨rfl, rfl⟩ ⟨Nat.le_of_ble_eq_true rfl, Nat.le_of_ble_eq_true rfl⟩ rfl rfl (Nat.le_of_ble_eq_true rfl) dX_within_41 ⟨Nat.zero_le _, Nat.zero_le _⟩ ?_
      refine W.lcmp hx hb dX_within_44 ?_
      refine lv_if_lt (tgt := 88) hx hb dX_within_45 (by decide) (fun h_3 => ?_) (fun h_3 => ?_)
      · rw [lg_cmp_lt] at h_3
        refine lv_iconst (v := 0) hx hb dX_within_88 (by decide) ?_
        have e9 : (ga_with B T P G ri.toNatClampNeg si.toNatClampNeg) = false := by unfold ga_with; rw [uw_lt] at h_3; have h_3 := Nat.not_le.mpr h_3; simp [h_1, h_2, h_3]
        refine W.eq (g2 := F0 m 89 ls [.int (bi (ga_with B T P G ri.toNatClampNeg si.toNatClampNeg))]) (by rw [e9]; rfl) ?_
        exact W.zret (v := bi (ga_with B T P G ri.toNatClampNeg si.toNatClampNeg)) hx hb hr (bi_nar _) (fun t9 ht hW => ⟨rfl, ht⟩) (fun z hz => nomatch hz) dX_within_89
      · rw [lg_cmp_lt] at h_3
        refine lv_aload_n hx hb dX_within_48 rfl (lv_at hl 0 rfl) ?_
        refine va_get (D := D) (ci := 0) (v := .ref (q 3)) (C := RX) (T := TX) (N := 6) hx hb hts inX hown hK hP 0 rfl rfl 2 (by decide) (hts _ w_31) (fun _ h9 => h9) rfl dX_within_49 ?_
        refine lv_iload_n hx hb dX_within_52 rfl (lv_at hl 1 rfl) ?_
        refine va_iald hx hb hK hP 3 0 rfl rfl hri dX_within_53 ?_
        refine kr_S 1 (As := [.int (T ri.toNatClampNeg)]) (rest := []) (r := .long (uw (T ri.toNatClampNeg))) hx hb hml hown hts hl.1 (mX_unsigned l (T ri.toNatClampNeg)) tt_stb trivial (gw_S w_70 w_71 w_14 w_72) (by decide) ⟨rfl, rfl⟩ ⟨Nat.le_of_ble_eq_true rfl, Nat.le_of_ble_eq_true rfl⟩ rfl rfl (Nat.le_of_ble_eq_true rfl) dX_within_54 ⟨Nat.zero_le _, Nat.zero_le _⟩ ?_
        refine lv_aload_n hx hb dX_within_57 rfl (lv_at hl 0 rfl) ?_
        refine va_get (D := D) (ci := 0) (v := .ref (q 3)) (C := RX) (T := TX) (N := 6) hx hb hts inX hown hK hP 0 rfl rfl 2 (by decide) (hts _ w_31) (fun _ h9 => h9) rfl dX_within_58 ?_
        refine lv_iload_n hx hb dX_within_61 rfl (lv_at hl 2 rfl) ?_
        refine va_iald hx hb hK hP 3 0 rfl rfl hsi dX_within_62 ?_
        refine kr_S 1 (As := [.int (T si.toNatClampNeg)]) (rest := [.long (uw (T ri.toNatClampNeg))]) (r := .long (uw (T si.toNatClampNeg))) hx hb hml hown hts hl.1 (mX_unsigned l (T si.toNatClampNeg)) tt_stb trivial (gw_S w_70 w_71 w_14 w_72) (by decide) ⟨rfl, rfl⟩ ⟨Nat.le_of_ble_eq_true rfl, Nat.le_of_ble_eq_true rfl⟩ rfl rfl (Nat.le_of_ble_eq_true rfl) dX_within_63 ⟨Nat.zero_le _, Nat.zero_le _⟩ ?_
        refine W.lcmp hx hb dX_within_66 ?_
        refine lv_if_gt (tgt := 88) hx hb dX_within_67 (by decide) (fun h_4 => ?_) (fun h_4 => ?_)
        · rw [lg_cmp_gt] at h_4
          refine lv_iconst (v := 0) hx hb dX_within_88 (by decide) ?_
          have e9 : (ga_with B T P G ri.toNatClampNeg si.toNatClampNeg) = false := by unfold ga_with; rw [uw_lt] at h_3; have h_3 := Nat.not_lt.mp h_3; rw [uw_lt] at h_4; have h_4 := Nat.not_le.mpr h_4; simp [h_1, h_2, h_3, h_4]
          refine W.eq (g2 := F0 m 89 ls [.int (bi (ga_with B T P G ri.toNatClampNeg si.toNatClampNeg))]) (by rw [e9]; rfl) ?_
          exact W.zret (v := bi (ga_with B T P G ri.toNatClampNeg si.toNatClampNeg)) hx hb hr (bi_nar _) (fun t9 ht hW => ⟨rfl, ht⟩) (fun z hz => nomatch hz) dX_within_89
        · rw [lg_cmp_gt] at h_4
          refine lv_aload_n hx hb dX_within_70 rfl (lv_at hl 0 rfl) ?_
          refine lv_iload_n hx hb dX_within_71 rfl (lv_at hl 2 rfl) ?_
          refine lv_aload_n hx hb dX_within_72 rfl (lv_at hl 0 rfl) ?_
          refine va_get (D := D) (ci := 0) (v := .ref (q 4)) (C := RX) (T := TX) (N := 6) hx hb hts inX hown hK hP 0 rfl rfl 3 (by decide) (hts _ w_32) (fun _ h9 => h9) rfl dX_within_73 ?_
          refine lv_iload_n hx hb dX_within_76 rfl (lv_at hl 1 rfl) ?_
          refine va_iald hx hb hK hP 4 0 rfl rfl hri dX_within_77 ?_
          refine kr_V 2 (b := q 0) (As := [.int (si), .int (P ri.toNatClampNeg)]) (rest := []) (r := .int (bi (ga_pm (P ri.toNatClampNeg) (P si.toNatClampNeg)))) hx hb hml hown hts hl.1 (mX_hasPermissions l D cI cZ q A B T P Y G (si) (P ri.toNatClampNeg) hsi) rB_stb ⟨hP, hK⟩ (gw_V w_62 w_64 w_2 w_14 w_65) (by decide) ⟨rfl, rfl⟩ ⟨Nat.le_of_ble_eq_true rfl, Nat.le_of_ble_eq_true rfl⟩ (va_recv hK hP (ci := 0) rfl (q0 := 0) rfl) rfl rfl (Nat.le_of_ble_eq_true rfl) dX_within_78 ⟨Nat.zero_le _, Nat.zero_le _⟩ ?_
          refine lv_if_eq (tgt := 88) hx hb dX_within_81 (by decide) (fun h_5 => ?_) (fun h_5 => ?_)
          · have h_5 := bi_0 h_5
            refine lv_iconst (v := 0) hx hb dX_within_88 (by decide) ?_
            have e9 : (ga_with B T P G ri.toNatClampNeg si.toNatClampNeg) = false := by unfold ga_with; rw [uw_lt] at h_3; have h_3 := Nat.not_lt.mp h_3; rw [uw_lt] at h_4; have h_4 := Nat.not_lt.mp h_4; simp [h_1, h_2, h_3, h_4, h_5]
            refine W.eq (g2 := F0 m 89 ls [.int (bi (ga_with B T P G ri.toNatClampNeg si.toNatClampNeg))]) (by rw [e9]; rfl) ?_
            exact W.zret (v := bi (ga_with B T P G ri.toNatClampNeg si.toNatClampNeg)) hx hb hr (bi_nar _) (fun t9 ht hW => ⟨rfl, ht⟩) (fun z hz => nomatch hz) dX_within_89
          · have h_5 := bi_n h_5
            refine lv_iconst (v := 1) hx hb dX_within_84 (by decide) ?_
            refine lv_goto (tgt := 89) hx hb dX_within_85 (by decide) ?_
            have e9 : (ga_with B T P G ri.toNatClampNeg si.toNatClampNeg) = true := by unfold ga_with; rw [uw_lt] at h_3; have h_3 := Nat.not_lt.mp h_3; rw [uw_lt] at h_4; have h_4 := Nat.not_lt.mp h_4; simp [h_1, h_2, h_3, h_4, h_5]
            refine W.eq (g2 := F0 m 89 ls [.int (bi (ga_with B T P G ri.toNatClampNeg si.toNatClampNeg))]) (by rw [e9]; rfl) ?_
            exact W.zret (v := bi (ga_with B T P G ri.toNatClampNeg si.toNatClampNeg)) hx hb hr (bi_nar _) (fun t9 ht hW => ⟨rfl, ht⟩) (fun z hz => nomatch hz) dX_within_89

set_option maxRecDepth 100000 in
set_option maxHeartbeats 4000000 in
theorem mX_part (l : Launch) (D : va_G) (cI cZ : ClassId) (q : Nat → Nat) (A B T P Y : Nat → Int32) (G : Nat → Bool) (ri : Int32) (j : Nat) (hri : vp_in ri 16) (hj : j < 6) : Met l yX_part (Cond.code yX_part cX_part 3 (some .int) :: gw) (rmk 1 0 0) (va_Pc [.ref (q 0), .int (ri), .int (nI j)] (rB D vwCl (xW cI cZ q A B T P Y G) (tsX cI cZ))) (k2_QcV (.int (ga_part A B T P Y G ri.toNatClampNeg (nI j)))) 0 0 (fun _ => False) := by
  refine Met.ofW (cc := cX_part) (maxL := 3) (ret := (some .int)) (by decide) rfl ?_
  intro p e s m args below meth c s₁ B9 hml hv
  obtain ⟨rfl, hP, hK⟩ := hv
  have hx := B9.exec
  have hb := B9.bytes
  have hr := B9.returns
  have hts := fun (w : Cond) (h : w ∈ gw) => atoms_spec (ws := _ :: gw) B9.pre w (List.mem_cons_of_mem _ h)
  have hown : s.vm.findClass RX = some m.cls := findClass_of_methodNamed B9.named
  have hlocks := B9.notSynchronized
  have hl := lv_entry ([.ref (q 0), .int (ri), .int (nI j)]) (n := 3) (Nat.le_of_ble_eq_true rfl)
  rw [lg_entry_eq]
  generalize (lg_sl ([.ref (q 0), .int (ri), .int (nI j)]) ++ List.replicate (3 - (lg_sl ([.ref (q 0), .int (ri), .int (nI j)])).length) Slot.unset).toArray = ls at hl ⊢
  have hl : lv_has ls 3 [(0, .ref (q 0)), (1, .int (ri)), (2, .int (nI j))] := hl
  refine lv_iload_n hx hb dX_part_0 rfl (lv_at hl 2 rfl) ?_
  refine lv_if_lt (tgt := 9) hx hb dX_part_1 (by decide) (fun h_1 => absurd h_1 (nI_pos (by omega))) (fun h_1 => ?_)
  refine lv_iload_n hx hb dX_part_4 rfl (lv_at hl 2 rfl) ?_
  refine lv_iconst (v := 5) hx hb dX_part_5 (by decide) ?_
  refine lv_icmp_le (tgt := 19) hx hb dX_part_6 (by decide) (fun h_2 => ?_) (fun h_2 => absurd (show nI j ≤ 5 from nI_le (b := 5) (by omega) (by decide)) h_2)
  refine lv_iload_n hx hb dX_part_19 rfl (lv_at hl 1 rfl) ?_
  refine kr_Sv 1 (As := [.int (ri)]) (rest := []) hx hb hml hown hts hl.1 (mX_requireGrant l (ri) hri) tt_stb trivial (gw_S w_151 w_152 w_14 w_153) (by decide) ⟨rfl, rfl⟩ ⟨Nat.le_of_ble_eq_true rfl, Nat.le_of_ble_eq_true rfl⟩ rfl rfl (Nat.le_of_ble_eq_true rfl) dX_part_20 ⟨Nat.zero_le _, Nat.zero_le _⟩ ?_
  refine lv_iload_n hx hb dX_part_23 rfl (lv_at hl 2 rfl) ?_
  rcases (show j = 0 ∨ j = 1 ∨ j = 2 ∨ j = 3 ∨ j = 4 ∨ j = 5 by omega) with rfl | rfl | rfl | rfl | rfl | rfl
  · refine lv_tableIn (x := nI 0) (off := 36) (tgt := 60) hx hb dX_part_24 (by decide) (by decide) (by decide) (by decide) ?_
    refine lv_aload_n hx hb dX_part_60 rfl (lv_at hl 0 rfl) ?_
    refine va_get (D := D) (ci := 0) (v := .ref (q 1)) (C := RX) (T := TX) (N := 6) hx hb hts inX hown hK hP 0 rfl rfl 0 (by decide) (hts _ w_29) (fun _ h9 => h9) rfl dX_part_61 ?_
    refine lv_iload_n hx hb dX_part_64 rfl (lv_at hl 1 rfl) ?_
    refine va_iald hx hb hK hP 1 0 rfl rfl hri dX_part_65 ?_
    have e9 : (ga_part A B T P Y G ri.toNatClampNeg (nI 0)) = A ri.toNatClampNeg := by unfold ga_part; rfl
    refine W.eq (g2 := F0 m 66 ls [.int (ga_part A B T P Y G ri.toNatClampNeg (nI 0))]) (by rw [e9]) ?_
    exact W.iret (v := ga_part A B T P Y G ri.toNatClampNeg (nI 0)) hx hb hr (fun t9 ht hW => ⟨rfl, ht⟩) (fun z hz => nomatch hz) dX_part_66
  · refine lv_tableIn (x := nI 1) (off := 43) (tgt := 67) hx hb dX_part_24 (by decide) (by decide) (by decide) (by decide) ?_
    refine lv_aload_n hx hb dX_part_67 rfl (lv_at hl 0 rfl) ?_
    refine va_get (D := D) (ci := 0) (v := .ref (q 2)) (C := RX) (T := TX) (N := 6) hx hb hts inX hown hK hP 0 rfl rfl 1 (by decide) (hts _ w_30) (fun _ h9 => h9) rfl dX_part_68 ?_
    refine lv_iload_n hx hb dX_part_71 rfl (lv_at hl 1 rfl) ?_
    refine va_iald hx hb hK hP 2 0 rfl rfl hri dX_part_72 ?_
    have e9 : (ga_part A B T P Y G ri.toNatClampNeg (nI 1)) = B ri.toNatClampNeg := by unfold ga_part; rfl
    refine W.eq (g2 := F0 m 73 ls [.int (ga_part A B T P Y G ri.toNatClampNeg (nI 1))]) (by rw [e9]) ?_
    exact W.iret (v := ga_part A B T P Y G ri.toNatClampNeg (nI 1)) hx hb hr (fun t9 ht hW => ⟨rfl, ht⟩) (fun z hz => nomatch hz) dX_part_73
  · refine lv_tableIn (x := nI 2) (off := 50) (tgt := 74) hx hb dX_part_24 (by decide) (by decide) (by decide) (by decide) ?_
    refine lv_aload_n hx hb dX_part_74 rfl (lv_at hl 0 rfl) ?_
    refine va_get (D := D) (ci := 0) (v := .ref (q 3)) (C := RX) (T := TX) (N := 6) hx hb hts inX hown hK hP 0 rfl rfl 2 (by decide) (hts _ w_31) (fun _ h9 => h9) rfl dX_part_75 ?_
    refine lv_iload_n hx hb dX_part_78 rfl (lv_at hl 1 rfl) ?_
    refine va_iald hx hb hK hP 3 0 rfl rfl hri dX_part_79 ?_
    have e9 : (ga_part A B T P Y G ri.toNatClampNeg (nI 2)) = T ri.toNatClampNeg := by unfold ga_part; rfl
    refine W.eq (g2 := F0 m 80 ls [.int (ga_part A B T P Y G ri.toNatClampNeg (nI 2))]) (by rw [e9]) ?_
    exact W.iret (v := ga_part A B T P Y G ri.toNatClampNeg (nI 2)) hx hb hr (fun t9 ht hW => ⟨rfl, ht⟩) (fun z hz => nomatch hz) dX_part_80
  · refine lv_tableIn (x := nI 3) (off := 57) (tgt := 81) hx hb dX_part_24 (by decide) (by decide) (by decide) (by decide) ?_
    refine lv_aload_n hx hb dX_part_81 rfl (lv_at hl 0 rfl) ?_
    refine va_get (D := D) (ci := 0) (v := .ref (q 4)) (C := RX) (T := TX) (N := 6) hx hb hts inX hown hK hP 0 rfl rfl 3 (by decide) (hts _ w_32) (fun _ h9 => h9) rfl dX_part_82 ?_
    refine lv_iload_n hx hb dX_part_85 rfl (lv_at hl 1 rfl) ?_
    refine va_iald hx hb hK hP 4 0 rfl rfl hri dX_part_86 ?_
    have e9 : (ga_part A B T P Y G ri.toNatClampNeg (nI 3)) = P ri.toNatClampNeg := by unfold ga_part; rfl
    refine W.eq (g2 := F0 m 87 ls [.int (ga_part A B T P Y G ri.toNatClampNeg (nI 3))]) (by rw [e9]) ?_
    exact W.iret (v := ga_part A B T P Y G ri.toNatClampNeg (nI 3)) hx hb hr (fun t9 ht hW => ⟨rfl, ht⟩) (fun z hz => nomatch hz) dX_part_87
  · refine lv_tableIn (x := nI 4) (off := 64) (tgt := 88) hx hb dX_part_24 (by decide) (by decide) (by decide) (by decide) ?_
    refine lv_aload_n hx hb dX_part_88 rfl (lv_at hl 0 rfl) ?_
    refine va_get (D := D) (ci := 0) (v := .ref (q 5)) (C := RX) (T := TX) (N := 6) hx hb hts inX hown hK hP 0 rfl rfl 4 (by decide) (hts _ w_33) (fun _ h9 => h9) rfl dX_part_89 ?_
    refine lv_iload_n hx hb dX_part_92 rfl (lv_at hl 1 rfl) ?_
    refine va_iald hx hb hK hP 5 0 rfl rfl hri dX_part_93 ?_
    have e9 : (ga_part A B T P Y G ri.toNatClampNeg (nI 4)) = Y ri.toNatClampNeg := by unfold ga_part; rfl
    refine W.eq (g2 := F0 m 94 ls [.int (ga_part A B T P Y G ri.toNatClampNeg (nI 4))]) (by rw [e9]) ?_
    exact W.iret (v := ga_part A B T P Y G ri.toNatClampNeg (nI 4)) hx hb hr (fun t9 ht hW => ⟨rfl, ht⟩) (fun z hz => nomatch hz) dX_part_94
  · refine lv_tableOut (x := nI 5) (tgt := 95) hx hb dX_part_24 (by decide) (by decide) ?_
    refine lv_aload_n hx hb dX_part_95 rfl (lv_at hl 0 rfl) ?_
    refine va_get (D := D) (ci := 0) (v := .ref (q 6)) (C := RX) (T := TX) (N := 6) hx hb hts inX hown hK hP 0 rfl rfl 5 (by decide) (hts _ w_34) (fun _ h9 => h9) rfl dX_part_96 ?_
    refine lv_iload_n hx hb dX_part_99 rfl (lv_at hl 1 rfl) ?_
    refine va_zald hx hb hK hP 6 1 rfl rfl hri dX_part_100 ?_
    refine W.eq (g2 := F0 m 101 ls [.int (bi (G ri.toNatClampNeg))]) rfl ?_
    refine lv_if_eq (tgt := 108) hx hb dX_part_101 (by decide) (fun h_3 => ?_) (fun h_3 => ?_)
    · have h_3 := bi_0 h_3
      refine lv_iconst (v := 0) hx hb dX_part_108 (by decide) ?_
      have e9 : (ga_part A B T P Y G ri.toNatClampNeg (nI 5)) = 0 := by unfold ga_part; rw [if_neg (by decide), if_neg (by decide), if_neg (by decide), if_neg (by decide), if_neg (by decide), h_3]; rfl
      refine W.eq (g2 := F0 m 109 ls [.int (ga_part A B T P Y G ri.toNatClampNeg (nI 5))]) (by rw [e9]) ?_
      exact W.iret (v := ga_part A B T P Y G ri.toNatClampNeg (nI 5)) hx hb hr (fun t9 ht hW => ⟨rfl, ht⟩) (fun z hz => nomatch hz) dX_part_109
    · have h_3 := bi_n h_3
      refine lv_iconst (v := 1) hx hb dX_part_104 (by decide) ?_
      refine lv_goto (tgt := 109) hx hb dX_part_105 (by decide) ?_
      have e9 : (ga_part A B T P Y G ri.toNatClampNeg (nI 5)) = 1 := by unfold ga_part; rw [if_neg (by decide), if_neg (by decide), if_neg (by decide), if_neg (by decide), if_neg (by decide), h_3]; rfl
      refine W.eq (g2 := F0 m 109 ls [.int (ga_part A B T P Y G ri.toNatClampNeg (nI 5))]) (by rw [e9]) ?_
      exact W.iret (v := ga_part A B T P Y G ri.toNatClampNeg (nI 5)) hx hb hr (fun t9 ht hW => ⟨rfl, ht⟩) (fun z hz => nomatch hz) dX_part_109

set_option maxRecDepth 100000 in
set_option maxHeartbeats 4000000 in
theorem mX_count (l : Launch) (D : va_G) (cI cZ : ClassId) (q : Nat → Nat) (A B T P Y : Nat → Int32) (G : Nat → Bool) (a w : Int32) : Met l yX_count (Cond.code yX_count cX_count 5 (some .int) :: gw) (rmk 3 0 0) (va_Pc [.ref (q 0), .int (a), .int (w)] (rB D vwCl (xW cI cZ q A B T P Y G) (tsX cI cZ))) (k2_QcV (.int (ga_cnt B T P Y G a w 16))) 0 0 (fun _ => False) := by
  refine Met.ofW (cc := cX_count) (maxL := 5) (ret := (some .int)) (by decide) rfl ?_
  intro p e s m args below meth c s₁ B9 hml hv
  obtain ⟨rfl, hP, hK⟩ := hv
  have hx := B9.exec
  have hb := B9.bytes
  have hr := B9.returns
  have hts := fun (w : Cond) (h : w ∈ gw) => atoms_spec (ws := _ :: gw) B9.pre w (List.mem_cons_of_mem _ h)
  have hown : s.vm.findClass RX = some m.cls := findClass_of_methodNamed B9.named
  have hlocks := B9.notSynchronized
  have hl := lv_entry ([.ref (q 0), .int (a), .int (w)]) (n := 5) (Nat.le_of_ble_eq_true rfl)
  rw [lg_entry_eq]
  generalize (lg_sl ([.ref (q 0), .int (a), .int (w)]) ++ List.replicate (5 - (lg_sl ([.ref (q 0), .int (a), .int (w)])).length) Slot.unset).toArray = ls at hl ⊢
  have hl : lv_has ls 5 [(0, .ref (q 0)), (1, .int (a)), (2, .int (w))] := hl
  refine lv_iconst (v := 0) hx hb dX_count_0 (by decide) ?_
  refine lv_istore_n hx hb dX_count_1 rfl hl (by decide) rfl (fun ls hl => ?_)
  have hl : lv_has ls 5 [(3, .int (0)), (0, .ref (q 0)), (1, .int (a)), (2, .int (w))] := hl
  refine lv_iconst (v := 0) hx hb dX_count_2 (by decide) ?_
  refine lv_istore hx hb dX_count_3 hl (by decide) rfl (fun ls hl => ?_)
  have hl : lv_has ls 5 [(4, .int (0)), (3, .int (0)), (0, .ref (q 0)), (1, .int (a)), (2, .int (w))] := hl
  have hl : lv_has ls 5 [(4, .int (nI 0)), (3, .int (ga_cnt B T P Y G a w 0)), (0, .ref (q 0)), (1, .int a), (2, .int w)] := lv_sub hl [0, 1, 2, 3, 4] rfl
  suffices key : ∀ (d k : Nat) (ls : Array Slot), k + d = 16 → lv_has ls 5 [(4, .int (nI k)), (3, .int (ga_cnt B T P Y G a w k)), (0, .ref (q 0)), (1, .int (a)), (2, .int (w))] → W p l e (headSpec (Cond.code yX_count cX_count 5 (some .int) :: gw) (rmk 3 0 0)).room s m [.ref (q 0), .int (a), .int (w)].toArray below meth c s.heap [] 0 0 (MQ below (k2_QcV (.int (ga_cnt B T P Y G a w 16))) [.ref (q 0), .int (a), .int (w)].toArray s 0 0 (fun _ => False)) (F0 m 5 ls []) from key 16 0 ls (by omega) hl
  intro d
  induction d with
  | zero =>
    intro k ls hk hl
    obtain rfl : k = 16 := by omega
    refine lv_iload hx hb dX_count_5 (lv_at hl 0 rfl) ?_
    refine lv_bipush (v := 16) hx hb dX_count_7 (by decide) ?_
    refine lv_icmp_ge (tgt := 33) hx hb dX_count_9 (by decide) (fun h_1 => ?_) (fun h_1 => absurd (by decide) h_1)
    refine lv_iload_n hx hb dX_count_33 rfl (lv_at hl 1 rfl) ?_
    exact W.iret (v := ga_cnt B T P Y G a w 16) hx hb hr (fun t9 ht hW => ⟨rfl, ht⟩) (fun z hz => nomatch hz) dX_count_34
  | succ d ih =>
    intro k ls hk hl
    refine lv_iload hx hb dX_count_5 (lv_at hl 0 rfl) ?_
    refine lv_bipush (v := 16) hx hb dX_count_7 (by decide) ?_
    refine lv_icmp_ge (tgt := 33) hx hb dX_count_9 (by decide) (fun h_2 => absurd h_2 (show ¬ (16 : Int32) ≤ nI k from nI_ge (a := k) (b := 16) (by omega) (by decide))) (fun h_2 => ?_)
    refine lv_aload_n hx hb dX_count_12 rfl (lv_at hl 2 rfl) ?_
    refine lv_iload hx hb dX_count_13 (lv_at hl 0 rfl) ?_
    refine lv_iload_n hx hb dX_count_15 rfl (lv_at hl 3 rfl) ?_
    refine lv_iconst (v := 1) hx hb dX_count_16 (by decide) ?_
    refine lv_iload_n hx hb dX_count_17 rfl (lv_at hl 4 rfl) ?_
    refine kr_V 4 (b := q 0) (As := [.int (nI k), .int (a), .int (1), .int (w)]) (rest := []) (r := .int (ga_acc B T P Y G (nI k).toNatClampNeg (a) 1 (w))) hx hb hml hown hts hl.1 (mX_accessCause l D cI cZ q A B T P Y G (nI k) (a) 1 (w) (vp_in_nI (by omega) (by decide)) (by first | decide | omega)) rB_stb ⟨hP, hK⟩ (gw_V w_54 w_56 w_0 w_14 w_57) (by decide) ⟨rfl, rfl⟩ ⟨Nat.le_of_ble_eq_true rfl, Nat.le_of_ble_eq_true rfl⟩ (va_recv hK hP (ci := 0) rfl (q0 := 0) rfl) rfl rfl (Nat.le_of_ble_eq_true rfl) dX_count_18 ⟨Nat.zero_le _, Nat.zero_le _⟩ ?_
    refine W.eq (g2 := F0 m 21 ls [.int (ga_acc B T P Y G k a 1 w)]) (by rw [nI_clamp (by omega)]) ?_
    refine lv_if_ne (tgt := 27) hx hb dX_count_21 (by decide) (fun h_3 => ?_) (fun h_3 => ?_)
    · 
      refine lv_iinc (k := 0) (v := nI (k + 1)) hx hb dX_count_27 hl rfl (nI_succ k).symm (by decide) rfl (fun ls hl => ?_)
      have hl : lv_has ls 5 [(4, .int (nI (k + 1))), (3, .int (ga_cnt B T P Y G a w k)), (0, .ref (q 0)), (1, .int (a)), (2, .int (w))] := hl
      refine lv_goto (tgt := 5) hx hb dX_count_30 (by decide) ?_
      have e9 : ga_cnt B T P Y G a w (k + 1) = ga_cnt B T P Y G a w k := by show (if _ then _ else _) = _; rw [if_neg h_3]
      exact ih (k + 1) _ (by omega) (by rw [e9]; exact lv_sub hl [0, 1, 2, 3, 4] rfl)
    · 
      refine lv_iinc (k := 1) (v := (ga_cnt B T P Y G a w k) + 1) hx hb dX_count_24 hl rfl rfl (by decide) rfl (fun ls hl => ?_)
      have hl : lv_has ls 5 [(3, .int ((ga_cnt B T P Y G a w k) + 1)), (4, .int (nI k)), (0, .ref (q 0)), (1, .int (a)), (2, .int (w))] := hl
      refine lv_iinc (k := 1) (v := nI (k + 1)) hx hb dX_count_27 hl rfl (nI_succ k).symm (by decide) rfl (fun ls hl => ?_)
      have hl : lv_has ls 5 [(4, .int (nI (k + 1))), (3, .int ((ga_cnt B T P Y G a w k) + 1)), (0, .ref (q 0)), (1, .int (a)), (2, .int (w))] := hl
      refine lv_goto (tgt := 5) hx hb dX_count_30 (by decide) ?_
      have e9 : ga_cnt B T P Y G a w (k + 1) = (ga_cnt B T P Y G a w k) + 1 := by show (if _ then _ else _) = _; rw [if_pos h_3]
      exact ih (k + 1) _ (by omega) (by rw [e9]; exact lv_sub hl [0, 1, 2, 3, 4] rfl)

set_option maxRecDepth 100000 in
set_option maxHeartbeats 4000000 in
theorem tX_number (l : Launch) (hst : l.stackTraces = false) (q9 : Nat) (ri v : Int32) (hbad : ¬ (vp_in ri 16)) : tx_Thr l yX_number (Cond.code yX_number cX_number 3 none :: gw) (rmk 7 1 6) (va_Pc [.ref (q9), .int (ri), .int (v)] tx_B) iob 1 6 := by
  refine tx_of (cc := cX_number) (maxL := 3) (ret := none) (by decide) rfl ?_
  intro p e s m args below meth c s₁ B9 hml hne hv
  obtain ⟨rfl, hB⟩ := hv
  have hx := B9.exec
  have hb := B9.bytes
  have hts := fun (w : Cond) (h : w ∈ gw) => atoms_spec (ws := _ :: gw) B9.pre w (List.mem_cons_of_mem _ h)
  have hown : s.vm.findClass RX = some m.cls := findClass_of_methodNamed B9.named
  have hlocks := B9.notSynchronized
  have hl := lv_entry ([.ref (q9), .int (ri), .int (v)]) (n := 3) (Nat.le_of_ble_eq_true rfl)
  rw [lg_entry_eq]
  generalize (lg_sl ([.ref (q9), .int (ri), .int (v)]) ++ List.replicate (3 - (lg_sl ([.ref (q9), .int (ri), .int (v)])).length) Slot.unset).toArray = ls at hl ⊢
  have hl : lv_has ls 3 [(0, .ref (q9)), (1, .int (ri)), (2, .int (v))] := hl
  refine lv_iload_n hx hb dX_number_0 rfl (lv_at hl 1 rfl) ?_
  by_cases hi_ri : vp_in ri 16
  rotate_left
  · exact tx_callS (As := [.int (ri)]) (rest := []) ⟨hx, hb, hml, hown, hts⟩ (tX_requireGrant l hst (ri) hi_ri) (cwS 1 hts (gw_S w_151 w_152 w_14 w_153) rfl rfl rfl (by decide) ⟨Nat.le_of_ble_eq_true rfl, Nat.le_of_ble_eq_true rfl⟩) ⟨tx_blind, tx_pre hB (fun _ _ => rfl)⟩ rfl hl.1 rfl (Nat.le_of_ble_eq_true rfl) dX_number_1 ⟨Nat.le_of_ble_eq_true rfl, Nat.le_of_ble_eq_true rfl⟩ (fun z ce H1 _ _ h1 h2 h3 => tx_leave rfl rfl rfl hne hlocks h1 h2 h3 (Nat.le_refl _) (Nat.le_refl _))
  refine kr_Sv 1 (As := [.int (ri)]) (rest := []) hx hb hml hown hts hl.1 (mX_requireGrant l (ri) hi_ri) tt_stb trivial (gw_S w_151 w_152 w_14 w_153) (by decide) ⟨rfl, rfl⟩ ⟨Nat.le_of_ble_eq_true rfl, Nat.le_of_ble_eq_true rfl⟩ rfl rfl (Nat.le_of_ble_eq_true rfl) dX_number_1 ⟨Nat.zero_le _, Nat.zero_le _⟩ ?_
  exact absurd hi_ri hbad

set_option maxRecDepth 100000 in
set_option maxHeartbeats 4000000 in
theorem tX_move (l : Launch) (hst : l.stackTraces = false) (q9 : Nat) (ri si v : Int32) (hbad : ¬ (vp_in ri 16 ∧ vp_in si 16)) : tx_Thr l yX_move (Cond.code yX_move cX_move 5 none :: gw) (rmk 7 1 6) (va_Pc [.ref (q9), .int (ri), .int (si), .int (v)] tx_B) iob 1 6 := by
  refine tx_of (cc := cX_move) (maxL := 5) (ret := none) (by decide) rfl ?_
  intro p e s m args below meth c s₁ B9 hml hne hv
  obtain ⟨rfl, hB⟩ := hv
  have hx := B9.exec
  have hb := B9.bytes
  have hts := fun (w : Cond) (h : w ∈ gw) => atoms_spec (ws := _ :: gw) B9.pre w (List.mem_cons_of_mem _ h)
  have hown : s.vm.findClass RX = some m.cls := findClass_of_methodNamed B9.named
  have hlocks := B9.notSynchronized
  have hl := lv_entry ([.ref (q9), .int (ri), .int (si), .int (v)]) (n := 5) (Nat.le_of_ble_eq_true rfl)
  rw [lg_entry_eq]
  generalize (lg_sl ([.ref (q9), .int (ri), .int (si), .int (v)]) ++ List.replicate (5 - (lg_sl ([.ref (q9), .int (ri), .int (si), .int (v)])).length) Slot.unset).toArray = ls at hl ⊢
  have hl : lv_has ls 5 [(0, .ref (q9)), (1, .int (ri)), (2, .int (si)), (3, .int (v))] := hl
  refine lv_iload_n hx hb dX_move_0 rfl (lv_at hl 1 rfl) ?_
  by_cases hi_ri : vp_in ri 16
  rotate_left
  · exact tx_callS (As := [.int (ri)]) (rest := []) ⟨hx, hb, hml, hown, hts⟩ (tX_requireGrant l hst (ri) hi_ri) (cwS 1 hts (gw_S w_151 w_152 w_14 w_153) rfl rfl rfl (by decide) ⟨Nat.le_of_ble_eq_true rfl, Nat.le_of_ble_eq_true rfl⟩) ⟨tx_blind, tx_pre hB (fun _ _ => rfl)⟩ rfl hl.1 rfl (Nat.le_of_ble_eq_true rfl) dX_move_1 ⟨Nat.le_of_ble_eq_true rfl, Nat.le_of_ble_eq_true rfl⟩ (fun z ce H1 _ _ h1 h2 h3 => tx_leave rfl rfl rfl hne hlocks h1 h2 h3 (Nat.le_refl _) (Nat.le_refl _))
  refine kr_Sv 1 (As := [.int (ri)]) (rest := []) hx hb hml hown hts hl.1 (mX_requireGrant l (ri) hi_ri) tt_stb trivial (gw_S w_151 w_152 w_14 w_153) (by decide) ⟨rfl, rfl⟩ ⟨Nat.le_of_ble_eq_true rfl, Nat.le_of_ble_eq_true rfl⟩ rfl rfl (Nat.le_of_ble_eq_true rfl) dX_move_1 ⟨Nat.zero_le _, Nat.zero_le _⟩ ?_
  refine lv_iload_n hx hb dX_move_4 rfl (lv_at hl 2 rfl) ?_
  by_cases hi_si : vp_in si 16
  rotate_left
  · exact tx_callS (As := [.int (si)]) (rest := []) ⟨hx, hb, hml, hown, hts⟩ (tX_requireGrant l hst (si) hi_si) (cwS 1 hts (gw_S w_151 w_152 w_14 w_153) rfl rfl rfl (by decide) ⟨Nat.le_of_ble_eq_true rfl, Nat.le_of_ble_eq_true rfl⟩) ⟨tx_blind, tx_pre hB (fun _ _ => rfl)⟩ rfl hl.1 rfl (Nat.le_of_ble_eq_true rfl) dX_move_5 ⟨Nat.le_of_ble_eq_true rfl, Nat.le_of_ble_eq_true rfl⟩ (fun z ce H1 _ _ h1 h2 h3 => tx_leave rfl rfl rfl hne hlocks h1 h2 h3 (Nat.le_refl _) (Nat.le_refl _))
  refine kr_Sv 1 (As := [.int (si)]) (rest := []) hx hb hml hown hts hl.1 (mX_requireGrant l (si) hi_si) tt_stb trivial (gw_S w_151 w_152 w_14 w_153) (by decide) ⟨rfl, rfl⟩ ⟨Nat.le_of_ble_eq_true rfl, Nat.le_of_ble_eq_true rfl⟩ rfl rfl (Nat.le_of_ble_eq_true rfl) dX_move_5 ⟨Nat.zero_le _, Nat.zero_le _⟩ ?_
  exact absurd ⟨hi_ri, hi_si⟩ hbad

set_option maxRecDepth 100000 in
set_option maxHeartbeats 4000000 in
theorem tX_narrow (l : Launch) (hst : l.stackTraces = false) (q9 : Nat) (ri si v : Int32) (hbad : ¬ (vp_in ri 16 ∧ vp_in si 16)) : tx_Thr l yX_narrow (Cond.code yX_narrow cX_narrow 5 (some .boolean) :: gw) (rmk 7 1 6) (va_Pc [.ref (q9), .int (ri), .int (si), .int (v)] tx_B) iob 1 6 := by
  refine tx_of (cc := cX_narrow) (maxL := 5) (ret := (some .boolean)) (by decide) rfl ?_
  intro p e s m args below meth c s₁ B9 hml hne hv
  obtain ⟨rfl, hB⟩ := hv
  have hx := B9.exec
  have hb := B9.bytes
  have hts := fun (w : Cond) (h : w ∈ gw) => atoms_spec (ws := _ :: gw) B9.pre w (List.mem_cons_of_mem _ h)
  have hown : s.vm.findClass RX = some m.cls := findClass_of_methodNamed B9.named
  have hlocks := B9.notSynchronized
  have hl := lv_entry ([.ref (q9), .int (ri), .int (si), .int (v)]) (n := 5) (Nat.le_of_ble_eq_true rfl)
  rw [lg_entry_eq]
  generalize (lg_sl ([.ref (q9), .int (ri), .int (si), .int (v)]) ++ List.replicate (5 - (lg_sl ([.ref (q9), .int (ri), .int (si), .int (v)])).length) Slot.unset).toArray = ls at hl ⊢
  have hl : lv_has ls 5 [(0, .ref (q9)), (1, .int (ri)), (2, .int (si)), (3, .int (v))] := hl
  refine lv_iload_n hx hb dX_narrow_0 rfl (lv_at hl 1 rfl) ?_
  by_cases hi_ri : vp_in ri 16
  rotate_left
  · exact tx_callS (As := [.int (ri)]) (rest := []) ⟨hx, hb, hml, hown, hts⟩ (tX_requireGrant l hst (ri) hi_ri) (cwS 1 hts (gw_S w_151 w_152 w_14 w_153) rfl rfl rfl (by decide) ⟨Nat.le_of_ble_eq_true rfl, Nat.le_of_ble_eq_true rfl⟩) ⟨tx_blind, tx_pre hB (fun _ _ => rfl)⟩ rfl hl.1 rfl (Nat.le_of_ble_eq_true rfl) dX_narrow_1 ⟨Nat.le_of_ble_eq_true rfl, Nat.le_of_ble_eq_true rfl⟩ (fun z ce H1 _ _ h1 h2 h3 => tx_leave rfl rfl rfl hne hlocks h1 h2 h3 (Nat.le_refl _) (Nat.le_refl _))
  refine kr_Sv 1 (As := [.int (ri)]) (rest := []) hx hb hml hown hts hl.1 (mX_requireGrant l (ri) hi_ri) tt_stb trivial (gw_S w_151 w_152 w_14 w_153) (by decide) ⟨rfl, rfl⟩ ⟨Nat.le_of_ble_eq_true rfl, Nat.le_of_ble_eq_true rfl⟩ rfl rfl (Nat.le_of_ble_eq_true rfl) dX_narrow_1 ⟨Nat.zero_le _, Nat.zero_le _⟩ ?_
  refine lv_iload_n hx hb dX_narrow_4 rfl (lv_at hl 2 rfl) ?_
  by_cases hi_si : vp_in si 16
  rotate_left
  · exact tx_callS (As := [.int (si)]) (rest := []) ⟨hx, hb, hml, hown, hts⟩ (tX_requireGrant l hst (si) hi_si) (cwS 1 hts (gw_S w_151 w_152 w_14 w_153) rfl rfl rfl (by decide) ⟨Nat.le_of_ble_eq_true rfl, Nat.le_of_ble_eq_true rfl⟩) ⟨tx_blind, tx_pre hB (fun _ _ => rfl)⟩ rfl hl.1 rfl (Nat.le_of_ble_eq_true rfl) dX_narrow_5 ⟨Nat.le_of_ble_eq_true rfl, Nat.le_of_ble_eq_true rfl⟩ (fun z ce H1 _ _ h1 h2 h3 => tx_leave rfl rfl rfl hne hlocks h1 h2 h3 (Nat.le_refl _) (Nat.le_refl _))
  refine kr_Sv 1 (As := [.int (si)]) (rest := []) hx hb hml hown hts hl.1 (mX_requireGrant l (si) hi_si) tt_stb trivial (gw_S w_151 w_152 w_14 w_153) (by decide) ⟨rfl, rfl⟩ ⟨Nat.le_of_ble_eq_true rfl, Nat.le_of_ble_eq_true rfl⟩ rfl rfl (Nat.le_of_ble_eq_true rfl) dX_narrow_5 ⟨Nat.zero_le _, Nat.zero_le _⟩ ?_
  exact absurd ⟨hi_ri, hi_si⟩ hbad

set_option maxRecDepth 100000 in
set_option maxHeartbeats 4000000 in
theorem tX_restrict (l : Launch) (hst : l.stackTraces = false) (q9 : Nat) (ri si v : Int32) (hbad : ¬ (vp_in ri 16 ∧ vp_in si 16)) : tx_Thr l yX_restrict (Cond.code yX_restrict cX_restrict 6 (some .boolean) :: gw) (rmk 7 1 6) (va_Pc [.ref (q9), .int (ri), .int (si), .int (v)] tx_B) iob 1 6 := by
  refine tx_of (cc := cX_restrict) (maxL := 6) (ret := (some .boolean)) (by decide) rfl ?_
  intro p e s m args below meth c s₁ B9 hml hne hv
  obtain ⟨rfl, hB⟩ := hv
  have hx := B9.exec
  have hb := B9.bytes
  have hts := fun (w : Cond) (h : w ∈ gw) => atoms_spec (ws := _ :: gw) B9.pre w (List.mem_cons_of_mem _ h)
  have hown : s.vm.findClass RX = some m.cls := findClass_of_methodNamed B9.named
  have hlocks := B9.notSynchronized
  have hl := lv_entry ([.ref (q9), .int (ri), .int (si), .int (v)]) (n := 6) (Nat.le_of_ble_eq_true rfl)
  rw [lg_entry_eq]
  generalize (lg_sl ([.ref (q9), .int (ri), .int (si), .int (v)]) ++ List.replicate (6 - (lg_sl ([.ref (q9), .int (ri), .int (si), .int (v)])).length) Slot.unset).toArray = ls at hl ⊢
  have hl : lv_has ls 6 [(0, .ref (q9)), (1, .int (ri)), (2, .int (si)), (3, .int (v))] := hl
  refine lv_iload_n hx hb dX_restrict_0 rfl (lv_at hl 1 rfl) ?_
  by_cases hi_ri : vp_in ri 16
  rotate_left
  · exact tx_callS (As := [.int (ri)]) (rest := []) ⟨hx, hb, hml, hown, hts⟩ (tX_requireGrant l hst (ri) hi_ri) (cwS 1 hts (gw_S w_151 w_152 w_14 w_153) rfl rfl rfl (by decide) ⟨Nat.le_of_ble_eq_true rfl, Nat.le_of_ble_eq_true rfl⟩) ⟨tx_blind, tx_pre hB (fun _ _ => rfl)⟩ rfl hl.1 rfl (Nat.le_of_ble_eq_true rfl) dX_restrict_1 ⟨Nat.le_of_ble_eq_true rfl, Nat.le_of_ble_eq_true rfl⟩ (fun z ce H1 _ _ h1 h2 h3 => tx_leave rfl rfl rfl hne hlocks h1 h2 h3 (Nat.le_refl _) (Nat.le_refl _))
  refine kr_Sv 1 (As := [.int (ri)]) (rest := []) hx hb hml hown hts hl.1 (mX_requireGrant l (ri) hi_ri) tt_stb trivial (gw_S w_151 w_152 w_14 w_153) (by decide) ⟨rfl, rfl⟩ ⟨Nat.le_of_ble_eq_true rfl, Nat.le_of_ble_eq_true rfl⟩ rfl rfl (Nat.le_of_ble_eq_true rfl) dX_restrict_1 ⟨Nat.zero_le _, Nat.zero_le _⟩ ?_
  refine lv_iload_n hx hb dX_restrict_4 rfl (lv_at hl 2 rfl) ?_
  by_cases hi_si : vp_in si 16
  rotate_left
  · exact tx_callS (As := [.int (si)]) (rest := []) ⟨hx, hb, hml, hown, hts⟩ (tX_requireGrant l hst (si) hi_si) (cwS 1 hts (gw_S w_151 w_152 w_14 w_153) rfl rfl rfl (by decide) ⟨Nat.le_of_ble_eq_true rfl, Nat.le_of_ble_eq_true rfl⟩) ⟨tx_blind, tx_pre hB (fun _ _ => rfl)⟩ rfl hl.1 rfl (Nat.le_of_ble_eq_true rfl) dX_restrict_5 ⟨Nat.le_of_ble_eq_true rfl, Nat.le_of_ble_eq_true rfl⟩ (fun z ce H1 _ _ h1 h2 h3 => tx_leave rfl rfl rfl hne hlocks h1 h2 h3 (Nat.le_refl _) (Nat.le_refl _))
  refine kr_Sv 1 (As := [.int (si)]) (rest := []) hx hb hml hown hts hl.1 (mX_requireGrant l (si) hi_si) tt_stb trivial (gw_S w_151 w_152 w_14 w_153) (by decide) ⟨rfl, rfl⟩ ⟨Nat.le_of_ble_eq_true rfl, Nat.le_of_ble_eq_true rfl⟩ rfl rfl (Nat.le_of_ble_eq_true rfl) dX_restrict_5 ⟨Nat.zero_le _, Nat.zero_le _⟩ ?_
  exact absurd ⟨hi_ri, hi_si⟩ hbad

set_option maxRecDepth 100000 in
set_option maxHeartbeats 4000000 in
theorem tX_seal (l : Launch) (hst : l.stackTraces = false) (q9 : Nat) (ri si ti : Int32) (hbad : ¬ (vp_in ri 16 ∧ vp_in si 16 ∧ vp_in ti 16)) : tx_Thr l yX_seal (Cond.code yX_seal cX_seal 6 (some .int) :: gw) (rmk 7 1 6) (va_Pc [.ref (q9), .int (ri), .int (si), .int (ti)] tx_B) iob 1 6 := by
  refine tx_of (cc := cX_seal) (maxL := 6) (ret := (some .int)) (by decide) rfl ?_
  intro p e s m args below meth c s₁ B9 hml hne hv
  obtain ⟨rfl, hB⟩ := hv
  have hx := B9.exec
  have hb := B9.bytes
  have hts := fun (w : Cond) (h : w ∈ gw) => atoms_spec (ws := _ :: gw) B9.pre w (List.mem_cons_of_mem _ h)
  have hown : s.vm.findClass RX = some m.cls := findClass_of_methodNamed B9.named
  have hlocks := B9.notSynchronized
  have hl := lv_entry ([.ref (q9), .int (ri), .int (si), .int (ti)]) (n := 6) (Nat.le_of_ble_eq_true rfl)
  rw [lg_entry_eq]
  generalize (lg_sl ([.ref (q9), .int (ri), .int (si), .int (ti)]) ++ List.replicate (6 - (lg_sl ([.ref (q9), .int (ri), .int (si), .int (ti)])).length) Slot.unset).toArray = ls at hl ⊢
  have hl : lv_has ls 6 [(0, .ref (q9)), (1, .int (ri)), (2, .int (si)), (3, .int (ti))] := hl
  refine lv_iload_n hx hb dX_seal_0 rfl (lv_at hl 1 rfl) ?_
  by_cases hi_ri : vp_in ri 16
  rotate_left
  · exact tx_callS (As := [.int (ri)]) (rest := []) ⟨hx, hb, hml, hown, hts⟩ (tX_requireGrant l hst (ri) hi_ri) (cwS 1 hts (gw_S w_151 w_152 w_14 w_153) rfl rfl rfl (by decide) ⟨Nat.le_of_ble_eq_true rfl, Nat.le_of_ble_eq_true rfl⟩) ⟨tx_blind, tx_pre hB (fun _ _ => rfl)⟩ rfl hl.1 rfl (Nat.le_of_ble_eq_true rfl) dX_seal_1 ⟨Nat.le_of_ble_eq_true rfl, Nat.le_of_ble_eq_true rfl⟩ (fun z ce H1 _ _ h1 h2 h3 => tx_leave rfl rfl rfl hne hlocks h1 h2 h3 (Nat.le_refl _) (Nat.le_refl _))
  refine kr_Sv 1 (As := [.int (ri)]) (rest := []) hx hb hml hown hts hl.1 (mX_requireGrant l (ri) hi_ri) tt_stb trivial (gw_S w_151 w_152 w_14 w_153) (by decide) ⟨rfl, rfl⟩ ⟨Nat.le_of_ble_eq_true rfl, Nat.le_of_ble_eq_true rfl⟩ rfl rfl (Nat.le_of_ble_eq_true rfl) dX_seal_1 ⟨Nat.zero_le _, Nat.zero_le _⟩ ?_
  refine lv_iload_n hx hb dX_seal_4 rfl (lv_at hl 2 rfl) ?_
  by_cases hi_si : vp_in si 16
  rotate_left
  · exact tx_callS (As := [.int (si)]) (rest := []) ⟨hx, hb, hml, hown, hts⟩ (tX_requireGrant l hst (si) hi_si) (cwS 1 hts (gw_S w_151 w_152 w_14 w_153) rfl rfl rfl (by decide) ⟨Nat.le_of_ble_eq_true rfl, Nat.le_of_ble_eq_true rfl⟩) ⟨tx_blind, tx_pre hB (fun _ _ => rfl)⟩ rfl hl.1 rfl (Nat.le_of_ble_eq_true rfl) dX_seal_5 ⟨Nat.le_of_ble_eq_true rfl, Nat.le_of_ble_eq_true rfl⟩ (fun z ce H1 _ _ h1 h2 h3 => tx_leave rfl rfl rfl hne hlocks h1 h2 h3 (Nat.le_refl _) (Nat.le_refl _))
  refine kr_Sv 1 (As := [.int (si)]) (rest := []) hx hb hml hown hts hl.1 (mX_requireGrant l (si) hi_si) tt_stb trivial (gw_S w_151 w_152 w_14 w_153) (by decide) ⟨rfl, rfl⟩ ⟨Nat.le_of_ble_eq_true rfl, Nat.le_of_ble_eq_true rfl⟩ rfl rfl (Nat.le_of_ble_eq_true rfl) dX_seal_5 ⟨Nat.zero_le _, Nat.zero_le _⟩ ?_
  refine lv_iload_n hx hb dX_seal_8 rfl (lv_at hl 3 rfl) ?_
  by_cases hi_ti : vp_in ti 16
  rotate_left
  · exact tx_callS (As := [.int (ti)]) (rest := []) ⟨hx, hb, hml, hown, hts⟩ (tX_requireGrant l hst (ti) hi_ti) (cwS 1 hts (gw_S w_151 w_152 w_14 w_153) rfl rfl rfl (by decide) ⟨Nat.le_of_ble_eq_true rfl, Nat.le_of_ble_eq_true rfl⟩) ⟨tx_blind, tx_pre hB (fun _ _ => rfl)⟩ rfl hl.1 rfl (Nat.le_of_ble_eq_true rfl) dX_seal_9 ⟨Nat.le_of_ble_eq_true rfl, Nat.le_of_ble_eq_true rfl⟩ (fun z ce H1 _ _ h1 h2 h3 => tx_leave rfl rfl rfl hne hlocks h1 h2 h3 (Nat.le_refl _) (Nat.le_refl _))
  refine kr_Sv 1 (As := [.int (ti)]) (rest := []) hx hb hml hown hts hl.1 (mX_requireGrant l (ti) hi_ti) tt_stb trivial (gw_S w_151 w_152 w_14 w_153) (by decide) ⟨rfl, rfl⟩ ⟨Nat.le_of_ble_eq_true rfl, Nat.le_of_ble_eq_true rfl⟩ rfl rfl (Nat.le_of_ble_eq_true rfl) dX_seal_9 ⟨Nat.zero_le _, Nat.zero_le _⟩ ?_
  exact absurd ⟨hi_ri, hi_si, hi_ti⟩ hbad

set_option maxRecDepth 100000 in
set_option maxHeartbeats 4000000 in
theorem tX_unseal (l : Launch) (hst : l.stackTraces = false) (q9 : Nat) (ri si ti : Int32) (hbad : ¬ (vp_in ri 16 ∧ vp_in si 16 ∧ vp_in ti 16)) : tx_Thr l yX_unseal (Cond.code yX_unseal cX_unseal 5 (some .int) :: gw) (rmk 7 1 6) (va_Pc [.ref (q9), .int (ri), .int (si), .int (ti)] tx_B) iob 1 6 := by
  refine tx_of (cc := cX_unseal) (maxL := 5) (ret := (some .int)) (by decide) rfl ?_
  intro p e s m args below meth c s₁ B9 hml hne hv
  obtain ⟨rfl, hB⟩ := hv
  have hx := B9.exec
  have hb := B9.bytes
  have hts := fun (w : Cond) (h : w ∈ gw) => atoms_spec (ws := _ :: gw) B9.pre w (List.mem_cons_of_mem _ h)
  have hown : s.vm.findClass RX = some m.cls := findClass_of_methodNamed B9.named
  have hlocks := B9.notSynchronized
  have hl := lv_entry ([.ref (q9), .int (ri), .int (si), .int (ti)]) (n := 5) (Nat.le_of_ble_eq_true rfl)
  rw [lg_entry_eq]
  generalize (lg_sl ([.ref (q9), .int (ri), .int (si), .int (ti)]) ++ List.replicate (5 - (lg_sl ([.ref (q9), .int (ri), .int (si), .int (ti)])).length) Slot.unset).toArray = ls at hl ⊢
  have hl : lv_has ls 5 [(0, .ref (q9)), (1, .int (ri)), (2, .int (si)), (3, .int (ti))] := hl
  refine lv_iload_n hx hb dX_unseal_0 rfl (lv_at hl 1 rfl) ?_
  by_cases hi_ri : vp_in ri 16
  rotate_left
  · exact tx_callS (As := [.int (ri)]) (rest := []) ⟨hx, hb, hml, hown, hts⟩ (tX_requireGrant l hst (ri) hi_ri) (cwS 1 hts (gw_S w_151 w_152 w_14 w_153) rfl rfl rfl (by decide) ⟨Nat.le_of_ble_eq_true rfl, Nat.le_of_ble_eq_true rfl⟩) ⟨tx_blind, tx_pre hB (fun _ _ => rfl)⟩ rfl hl.1 rfl (Nat.le_of_ble_eq_true rfl) dX_unseal_1 ⟨Nat.le_of_ble_eq_true rfl, Nat.le_of_ble_eq_true rfl⟩ (fun z ce H1 _ _ h1 h2 h3 => tx_leave rfl rfl rfl hne hlocks h1 h2 h3 (Nat.le_refl _) (Nat.le_refl _))
  refine kr_Sv 1 (As := [.int (ri)]) (rest := []) hx hb hml hown hts hl.1 (mX_requireGrant l (ri) hi_ri) tt_stb trivial (gw_S w_151 w_152 w_14 w_153) (by decide) ⟨rfl, rfl⟩ ⟨Nat.le_of_ble_eq_true rfl, Nat.le_of_ble_eq_true rfl⟩ rfl rfl (Nat.le_of_ble_eq_true rfl) dX_unseal_1 ⟨Nat.zero_le _, Nat.zero_le _⟩ ?_
  refine lv_iload_n hx hb dX_unseal_4 rfl (lv_at hl 2 rfl) ?_
  by_cases hi_si : vp_in si 16
  rotate_left
  · exact tx_callS (As := [.int (si)]) (rest := []) ⟨hx, hb, hml, hown, hts⟩ (tX_requireGrant l hst (si) hi_si) (cwS 1 hts (gw_S w_151 w_152 w_14 w_153) rfl rfl rfl (by decide) ⟨Nat.le_of_ble_eq_true rfl, Nat.le_of_ble_eq_true rfl⟩) ⟨tx_blind, tx_pre hB (fun _ _ => rfl)⟩ rfl hl.1 rfl (Nat.le_of_ble_eq_true rfl) dX_unseal_5 ⟨Nat.le_of_ble_eq_true rfl, Nat.le_of_ble_eq_true rfl⟩ (fun z ce H1 _ _ h1 h2 h3 => tx_leave rfl rfl rfl hne hlocks h1 h2 h3 (Nat.le_refl _) (Nat.le_refl _))
  refine kr_Sv 1 (As := [.int (si)]) (rest := []) hx hb hml hown hts hl.1 (mX_requireGrant l (si) hi_si) tt_stb trivial (gw_S w_151 w_152 w_14 w_153) (by decide) ⟨rfl, rfl⟩ ⟨Nat.le_of_ble_eq_true rfl, Nat.le_of_ble_eq_true rfl⟩ rfl rfl (Nat.le_of_ble_eq_true rfl) dX_unseal_5 ⟨Nat.zero_le _, Nat.zero_le _⟩ ?_
  refine lv_iload_n hx hb dX_unseal_8 rfl (lv_at hl 3 rfl) ?_
  by_cases hi_ti : vp_in ti 16
  rotate_left
  · exact tx_callS (As := [.int (ti)]) (rest := []) ⟨hx, hb, hml, hown, hts⟩ (tX_requireGrant l hst (ti) hi_ti) (cwS 1 hts (gw_S w_151 w_152 w_14 w_153) rfl rfl rfl (by decide) ⟨Nat.le_of_ble_eq_true rfl, Nat.le_of_ble_eq_true rfl⟩) ⟨tx_blind, tx_pre hB (fun _ _ => rfl)⟩ rfl hl.1 rfl (Nat.le_of_ble_eq_true rfl) dX_unseal_9 ⟨Nat.le_of_ble_eq_true rfl, Nat.le_of_ble_eq_true rfl⟩ (fun z ce H1 _ _ h1 h2 h3 => tx_leave rfl rfl rfl hne hlocks h1 h2 h3 (Nat.le_refl _) (Nat.le_refl _))
  refine kr_Sv 1 (As := [.int (ti)]) (rest := []) hx hb hml hown hts hl.1 (mX_requireGrant l (ti) hi_ti) tt_stb trivial (gw_S w_151 w_152 w_14 w_153) (by decide) ⟨rfl, rfl⟩ ⟨Nat.le_of_ble_eq_true rfl, Nat.le_of_ble_eq_true rfl⟩ rfl rfl (Nat.le_of_ble_eq_true rfl) dX_unseal_9 ⟨Nat.zero_le _, Nat.zero_le _⟩ ?_
  exact absurd ⟨hi_ri, hi_si, hi_ti⟩ hbad

set_option maxRecDepth 100000 in
set_option maxHeartbeats 4000000 in
theorem tX_within (l : Launch) (hst : l.stackTraces = false) (q9 : Nat) (ri si : Int32) (hbad : ¬ (vp_in ri 16 ∧ vp_in si 16)) : tx_Thr l yX_within (Cond.code yX_within cX_within 3 (some .boolean) :: gw) (rmk 7 1 6) (va_Pc [.ref (q9), .int (ri), .int (si)] tx_B) iob 1 6 := by
  refine tx_of (cc := cX_within) (maxL := 3) (ret := (some .boolean)) (by decide) rfl ?_
  intro p e s m args below meth c s₁ B9 hml hne hv
  obtain ⟨rfl, hB⟩ := hv
  have hx := B9.exec
  have hb := B9.bytes
  have hts := fun (w : Cond) (h : w ∈ gw) => atoms_spec (ws := _ :: gw) B9.pre w (List.mem_cons_of_mem _ h)
  have hown : s.vm.findClass RX = some m.cls := findClass_of_methodNamed B9.named
  have hlocks := B9.notSynchronized
  have hl := lv_entry ([.ref (q9), .int (ri), .int (si)]) (n := 3) (Nat.le_of_ble_eq_true rfl)
  rw [lg_entry_eq]
  generalize (lg_sl ([.ref (q9), .int (ri), .int (si)]) ++ List.replicate (3 - (lg_sl ([.ref (q9), .int (ri), .int (si)])).length) Slot.unset).toArray = ls at hl ⊢
  have hl : lv_has ls 3 [(0, .ref (q9)), (1, .int (ri)), (2, .int (si))] := hl
  refine lv_iload_n hx hb dX_within_0 rfl (lv_at hl 1 rfl) ?_
  by_cases hi_ri : vp_in ri 16
  rotate_left
  · exact tx_callS (As := [.int (ri)]) (rest := []) ⟨hx, hb, hml, hown, hts⟩ (tX_requireGrant l hst (ri) hi_ri) (cwS 1 hts (gw_S w_151 w_152 w_14 w_153) rfl rfl rfl (by decide) ⟨Nat.le_of_ble_eq_true rfl, Nat.le_of_ble_eq_true rfl⟩) ⟨tx_blind, tx_pre hB (fun _ _ => rfl)⟩ rfl hl.1 rfl (Nat.le_of_ble_eq_true rfl) dX_within_1 ⟨Nat.le_of_ble_eq_true rfl, Nat.le_of_ble_eq_true rfl⟩ (fun z ce H1 _ _ h1 h2 h3 => tx_leave rfl rfl rfl hne hlocks h1 h2 h3 (Nat.le_refl _) (Nat.le_refl _))
  refine kr_Sv 1 (As := [.int (ri)]) (rest := []) hx hb hml hown hts hl.1 (mX_requireGrant l (ri) hi_ri) tt_stb trivial (gw_S w_151 w_152 w_14 w_153) (by decide) ⟨rfl, rfl⟩ ⟨Nat.le_of_ble_eq_true rfl, Nat.le_of_ble_eq_true rfl⟩ rfl rfl (Nat.le_of_ble_eq_true rfl) dX_within_1 ⟨Nat.zero_le _, Nat.zero_le _⟩ ?_
  refine lv_iload_n hx hb dX_within_4 rfl (lv_at hl 2 rfl) ?_
  by_cases hi_si : vp_in si 16
  rotate_left
  · exact tx_callS (As := [.int (si)]) (rest := []) ⟨hx, hb, hml, hown, hts⟩ (tX_requireGrant l hst (si) hi_si) (cwS 1 hts (gw_S w_151 w_152 w_14 w_153) rfl rfl rfl (by decide) ⟨Nat.le_of_ble_eq_true rfl, Nat.le_of_ble_eq_true rfl⟩) ⟨tx_blind, tx_pre hB (fun _ _ => rfl)⟩ rfl hl.1 rfl (Nat.le_of_ble_eq_true rfl) dX_within_5 ⟨Nat.le_of_ble_eq_true rfl, Nat.le_of_ble_eq_true rfl⟩ (fun z ce H1 _ _ h1 h2 h3 => tx_leave rfl rfl rfl hne hlocks h1 h2 h3 (Nat.le_refl _) (Nat.le_refl _))
  refine kr_Sv 1 (As := [.int (si)]) (rest := []) hx hb hml hown hts hl.1 (mX_requireGrant l (si) hi_si) tt_stb trivial (gw_S w_151 w_152 w_14 w_153) (by decide) ⟨rfl, rfl⟩ ⟨Nat.le_of_ble_eq_true rfl, Nat.le_of_ble_eq_true rfl⟩ rfl rfl (Nat.le_of_ble_eq_true rfl) dX_within_5 ⟨Nat.zero_le _, Nat.zero_le _⟩ ?_
  exact absurd ⟨hi_ri, hi_si⟩ hbad

