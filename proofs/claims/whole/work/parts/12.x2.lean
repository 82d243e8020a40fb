/-! Contracts of GrantMath: requireGrant, the causes, allows, within, part; and what throws. Laid by program (wip/whole/gen_x2.py). -/
set_option maxRecDepth 100000 in
set_option maxHeartbeats 4000000 in
theorem mX_requireGrant (l : Launch) (g : Int32) (hg : vp_in g 16) : Met l yX_requireGrant (Cond.code yX_requireGrant cX_requireGrant 1 none :: gw) (rmk 0 0 0) (va_Pc [.int (g)] (fun _ => True)) kv_Q 0 0 (fun _ => False) := by
  refine Met.ofW (cc := cX_requireGrant) (maxL := 1) (ret := none) (by decide) rfl ?_
  intro p e s m args below meth c s₁ B9 hml hv
  obtain ⟨rfl, -⟩ := hv
  have hx := B9.exec
  have hb := B9.bytes
  have hr := B9.returns
  have hts := fun (w : Cond) (h : w ∈ gw) => atoms_spec (ws := _ :: gw) B9.pre w (List.mem_cons_of_mem _ h)
  have hown : s.vm.findClass RX = some m.cls := findClass_of_methodNamed B9.named
  have hlocks := B9.notSynchronized
  have hl := lv_entry ([.int (g)]) (n := 1) (Nat.le_of_ble_eq_true rfl)
  rw [lg_entry_eq]
  generalize (lg_sl ([.int (g)]) ++ List.replicate (1 - (lg_sl ([.int (g)])).length) Slot.unset).toArray = ls at hl ⊢
  have hl : lv_has ls 1 [(0, .int (g))] := hl
  refine lv_iload_n hx hb dX_requireGrant_0 rfl (lv_at hl 0 rfl) ?_
  refine lv_if_lt (tgt := 10) hx hb dX_requireGrant_1 (by decide) (fun h_1 => absurd h_1 (in_ge hg)) (fun h_1 => ?_)
  refine lv_iload_n hx hb dX_requireGrant_4 rfl (lv_at hl 0 rfl) ?_
  refine lv_bipush (v := 16) hx hb dX_requireGrant_5 (by decide) ?_
  refine lv_icmp_lt (tgt := 20) hx hb dX_requireGrant_7 (by decide) (fun h_2 => ?_) (fun h_2 => absurd (in_lt hg) h_2)
  exact W.vret hx hb hr (fun t9 ht hW => ⟨rfl, ht⟩) (fun z hz => nomatch hz) dX_requireGrant_20

set_option maxRecDepth 100000 in
set_option maxHeartbeats 4000000 in
theorem tX_requireGrant (l : Launch) (hst : l.stackTraces = false) (g : Int32) (hg : ¬ vp_in g 16) : tx_Thr l yX_requireGrant (Cond.code yX_requireGrant cX_requireGrant 1 none :: gw) (rmk 6 1 6) (va_Pc [.int (g)] tx_B) iob 1 6 := by
  refine tx_of (cc := cX_requireGrant) (maxL := 1) (ret := none) (by decide) rfl ?_
  intro p e s m args below meth c s₁ B9 hml hne hv
  obtain ⟨rfl, hB⟩ := hv
  have hx := B9.exec
  have hb := B9.bytes
  have hts := fun (w : Cond) (h : w ∈ gw) => atoms_spec (ws := _ :: gw) B9.pre w (List.mem_cons_of_mem _ h)
  have hown : s.vm.findClass RX = some m.cls := findClass_of_methodNamed B9.named
  have hlocks := B9.notSynchronized
  have hl := lv_entry ([.int (g)]) (n := 1) (Nat.le_of_ble_eq_true rfl)
  rw [lg_entry_eq]
  generalize (lg_sl ([.int (g)]) ++ List.replicate (1 - (lg_sl ([.int (g)])).length) Slot.unset).toArray = ls at hl ⊢
  have hl : lv_has ls 1 [(0, .int (g))] := hl
  refine lv_iload_n hx hb dX_requireGrant_0 rfl (lv_at hl 0 rfl) ?_
  refine lv_if_lt (tgt := 10) hx hb dX_requireGrant_1 (by decide) (fun h_1 => ?_) (fun h_1 => ?_)
  · 
    obtain ⟨tx, sa, hstr⟩ := (hB #[]).2.2.1 80 (by decide)
    exact tx_throw (cls := iob) (names := nms) hx hb hst hown (by decide +kernel) (by decide +kernel) (hts _ w_154) (hts _ w_20) hstr (hB _).1 (hl.1.trans hml.symm) dX_requireGrant_10 dX_requireGrant_13 dX_requireGrant_14 dX_requireGrant_16 dX_requireGrant_19 hne (Nat.le_of_ble_eq_true rfl) (Nat.le_of_ble_eq_true rfl) (Nat.le_of_ble_eq_true rfl) (Nat.le_of_ble_eq_true rfl) hlocks
  · 
    refine lv_iload_n hx hb dX_requireGrant_4 rfl (lv_at hl 0 rfl) ?_
    refine lv_bipush (v := 16) hx hb dX_requireGrant_5 (by decide) ?_
    refine lv_icmp_lt (tgt := 20) hx hb dX_requireGrant_7 (by decide) (fun h_2 => absurd h_2 (in_no hg h_1)) (fun h_2 => ?_)
    obtain ⟨tx, sa, hstr⟩ := (hB #[]).2.2.1 80 (by decide)
    exact tx_throw (cls := iob) (names := nms) hx hb hst hown (by decide +kernel) (by decide +kernel) (hts _ w_154) (hts _ w_20) hstr (hB _).1 (hl.1.trans hml.symm) dX_requireGrant_10 dX_requireGrant_13 dX_requireGrant_14 dX_requireGrant_16 dX_requireGrant_19 hne (Nat.le_of_ble_eq_true rfl) (Nat.le_of_ble_eq_true rfl) (Nat.le_of_ble_eq_true rfl) (Nat.le_of_ble_eq_true rfl) hlocks

set_option maxRecDepth 100000 in
set_option maxHeartbeats 4000000 in
theorem mX_sealingCause (l : Launch) (D : va_G) (cI cZ : ClassId) (q : Nat → Nat) (A B T P Y : Nat → Int32) (G : Nat → Bool) (si ti : Int32) (hsi : vp_in si 16) (hti : vp_in ti 16) : Met l yX_sealingCause (Cond.code yX_sealingCause cX_sealingCause 5 (some .int) :: gw) (rmk 3 0 0) (va_Pc [.ref (q 0), .int (si), .int (ti)] (rB D vwCl (xW cI cZ q A B T P Y G) (tsX cI cZ))) (k2_QcV (.int (ga_seal A B T P Y G si.toNatClampNeg ti.toNatClampNeg))) 0 0 (fun _ => False) := by
  refine Met.ofW (cc := cX_sealingCause) (maxL := 5) (ret := (some .int)) (by decide) rfl ?_
  intro p e s m args below meth c s₁ B9 hml hv
  obtain ⟨rfl, hP, hK⟩ := hv
  have hx := B9.exec
  have hb := B9.bytes
  have hr := B9.returns
  have hts := fun (w : Cond) (h : w ∈ gw) => atoms_spec (ws := _ :: gw) B9.pre w (List.mem_cons_of_mem _ h)
  have hown : s.vm.findClass RX = some m.cls := findClass_of_methodNamed B9.named
  have hlocks := B9.notSynchronized
  have hl := lv_entry ([.ref (q 0), .int (si), .int (ti)]) (n := 5) (Nat.le_of_ble_eq_true rfl)
  rw [lg_entry_eq]
  generalize (lg_sl ([.ref (q 0), .int (si), .int (ti)]) ++ List.replicate (5 - (lg_sl ([.ref (q 0), .int (si), .int (ti)])).length) Slot.unset).toArray = ls at hl ⊢
  have hl : lv_has ls 5 [(0, .ref (q 0)), (1, .int (si)), (2, .int (ti))] := hl
  refine lv_aload_n hx hb dX_sealingCause_0 rfl (lv_at hl 0 rfl) ?_
  refine va_get (D := D) (ci := 0) (v := .ref (q 6)) (C := RX) (T := TX) (N := 6) hx hb hts inX hown hK hP 0 rfl rfl 5 (by decide) (hts _ w_34) (fun _ h9 => h9) rfl dX_sealingCause_1 ?_
  refine lv_iload_n hx hb dX_sealingCause_4 rfl (lv_at hl 1 rfl) ?_
  refine va_zald hx hb hK hP 6 1 rfl rfl hsi dX_sealingCause_5 ?_
  refine W.eq (g2 := F0 m 6 ls [.int (bi (G si.toNatClampNeg))]) rfl ?_
  refine lv_if_eq (tgt := 18) hx hb dX_sealingCause_6 (by decide) (fun h_1 => ?_) (fun h_1 => ?_)
  · have h_1 := bi_0 h_1
    refine lv_iconst (v := 1) hx hb dX_sealingCause_18 (by decide) ?_
    have e9 : (ga_seal A B T P Y G si.toNatClampNeg ti.toNatClampNeg) = 1 := by (try simp only [decide_eq_true_eq, decide_eq_false_iff_not, Decidable.not_not, Int32.not_lt, Int32.not_le] at h_1); unfold ga_seal; simp [h_1]; try (intro h9; first | exact absurd h9 (Int32.not_le.mpr h_1) | exact h_1 | done)
    refine W.eq (g2 := F0 m 19 ls [.int (ga_seal A B T P Y G si.toNatClampNeg ti.toNatClampNeg)]) (by rw [e9]) ?_
    exact W.iret (v := ga_seal A B T P Y G si.toNatClampNeg ti.toNatClampNeg) hx hb hr (fun t9 ht hW => ⟨rfl, ht⟩) (fun z hz => nomatch hz) dX_sealingCause_19
  · have h_1 := bi_n h_1
    refine lv_aload_n hx hb dX_sealingCause_9 rfl (lv_at hl 0 rfl) ?_
    refine va_get (D := D) (ci := 0) (v := .ref (q 6)) (C := RX) (T := TX) (N := 6) hx hb hts inX hown hK hP 0 rfl rfl 5 (by decide) (hts _ w_34) (fun _ h9 => h9) rfl dX_sealingCause_10 ?_
    refine lv_iload_n hx hb dX_sealingCause_13 rfl (lv_at hl 2 rfl) ?_
    refine va_zald hx hb hK hP 6 1 rfl rfl hti dX_sealingCause_14 ?_
    refine W.eq (g2 := F0 m 15 ls [.int (bi (G ti.toNatClampNeg))]) rfl ?_
    refine lv_if_ne (tgt := 20) hx hb dX_sealingCause_15 (by decide) (fun h_2 => ?_) (fun h_2 => ?_)
    · have h_2 := bi_n h_2
      refine lv_aload_n hx hb dX_sealingCause_20 rfl (lv_at hl 0 rfl) ?_
      refine lv_iload_n hx hb dX_sealingCause_21 rfl (lv_at hl 1 rfl) ?_
      refine kr_V 1 (b := q 0) (As := [.int (si)]) (rest := []) (r := .int (bi (decide (¬ Y si.toNatClampNeg = 0)))) hx hb hml hown hts hl.1 (mX_isSealed l D cI cZ q A B T P Y G (si) hsi) rB_stb ⟨hP, hK⟩ (gw_V w_58 w_60 w_1 w_14 w_61) (by decide) ⟨rfl, rfl⟩ ⟨Nat.le_of_ble_eq_true rfl, Nat.le_of_ble_eq_true rfl⟩ (va_recv hK hP (ci := 0) rfl (q0 := 0) rfl) rfl rfl (Nat.le_of_ble_eq_true rfl) dX_sealingCause_22 ⟨Nat.zero_le _, Nat.zero_le _⟩ ?_
      refine lv_if_eq (tgt := 30) hx hb dX_sealingCause_25 (by decide) (fun h_3 => ?_) (fun h_3 => ?_)
      · have h_3 := bi_0 h_3
        refine lv_aload_n hx hb dX_sealingCause_30 rfl (lv_at hl 0 rfl) ?_
        refine lv_iload_n hx hb dX_sealingCause_31 rfl (lv_at hl 2 rfl) ?_
        refine lv_aload_n hx hb dX_sealingCause_32 rfl (lv_at hl 0 rfl) ?_
        refine va_get (D := D) (ci := 0) (v := .ref (q 1)) (C := RX) (T := TX) (N := 6) hx hb hts inX hown hK hP 0 rfl rfl 0 (by decide) (hts _ w_29) (fun _ h9 => h9) rfl dX_sealingCause_33 ?_
        refine lv_iload_n hx hb dX_sealingCause_36 rfl (lv_at hl 2 rfl) ?_
        refine va_iald hx hb hK hP 1 0 rfl rfl hti dX_sealingCause_37 ?_
        refine lv_iconst (v := 1) hx hb dX_sealingCause_38 (by decide) ?_
        refine lv_bipush (v := 32) hx hb dX_sealingCause_39 (by decide) ?_
        refine kr_V 4 (b := q 0) (As := [.int (ti), .int (A ti.toNatClampNeg), .int (1), .int (32)]) (rest := []) (r := .int (ga_acc B T P Y G ti.toNatClampNeg (A ti.toNatClampNeg) 1 (32))) hx hb hml hown hts hl.1 (mX_accessCause l D cI cZ q A B T P Y G (ti) (A ti.toNatClampNeg) 1 (32) hti (by first | decide | omega)) rB_stb ⟨hP, hK⟩ (gw_V w_54 w_56 w_0 w_14 w_57) (by decide) ⟨rfl, rfl⟩ ⟨Nat.le_of_ble_eq_true rfl, Nat.le_of_ble_eq_true rfl⟩ (va_recv hK hP (ci := 0) rfl (q0 := 0) rfl) rfl rfl (Nat.le_of_ble_eq_true rfl) dX_sealingCause_41 ⟨Nat.zero_le _, Nat.zero_le _⟩ ?_
        refine lv_istore_n hx hb dX_sealingCause_44 rfl hl (by decide) rfl (fun ls hl => ?_)
        have hl : lv_has ls 5 [(3, .int (ga_acc B T P Y G ti.toNatClampNeg (A ti.toNatClampNeg) 1 (32))), (0, .ref (q 0)), (1, .int (si)), (2, .int (ti))] := hl
        refine lv_iload_n hx hb dX_sealingCause_45 rfl (lv_at hl 0 rfl) ?_
        refine lv_if_eq (tgt := 51) hx hb dX_sealingCause_46 (by decide) (fun h_4 => ?_) (fun h_4 => ?_)
        · 
          refine lv_aload_n hx hb dX_sealingCause_51 rfl (lv_at hl 1 rfl) ?_
          refine va_get (D := D) (ci := 0) (v := .ref (q 1)) (C := RX) (T := TX) (N := 6) hx hb hts inX hown hK hP 0 rfl rfl 0 (by decide) (hts _ w_29) (fun _ h9 => h9) rfl dX_sealingCause_52 ?_
          refine lv_iload_n hx hb dX_sealingCause_55 rfl (lv_at hl 3 rfl) ?_
          refine va_iald hx hb hK hP 1 0 rfl rfl hti dX_sealingCause_56 ?_
          refine lv_iconst (v := 1) hx hb dX_sealingCause_57 (by decide) ?_
          refine lv_icmp_lt (tgt := 76) hx hb dX_sealingCause_58 (by decide) (fun h_5 => ?_) (fun h_5 => ?_)
          · 
            refine lv_iconst (v := 0) hx hb dX_sealingCause_76 (by decide) ?_
            refine lv_istore hx hb dX_sealingCause_77 hl (by decide) rfl (fun ls hl => ?_)
            have hl : lv_has ls 5 [(4, .int (0)), (3, .int (ga_acc B T P Y G ti.toNatClampNeg (A ti.toNatClampNeg) 1 (32))), (0, .ref (q 0)), (1, .int (si)), (2, .int (ti))] := hl
            refine lv_iload hx hb dX_sealingCause_79 (lv_at hl 0 rfl) ?_
            refine lv_if_eq (tgt := 88) hx hb dX_sealingCause_81 (by decide) (fun h_6 => ?_) (fun h_6 => absurd (by decide) h_6)
            refine lv_iconst (v := 4) hx hb dX_sealingCause_88 (by decide) ?_
            have e9 : (ga_seal A B T P Y G si.toNatClampNeg ti.toNatClampNeg) = 4 := by (try simp only [decide_eq_true_eq, decide_eq_false_iff_not, Decidable.not_not, Int32.not_lt, Int32.not_le] at h_1); (try simp only [decide_eq_true_eq, decide_eq_false_iff_not, Decidable.not_not, Int32.not_lt, Int32.not_le] at h_2); (try simp only [decide_eq_true_eq, decide_eq_false_iff_not, Decidable.not_not, Int32.not_lt, Int32.not_le] at h_3); (try simp only [decide_eq_true_eq, decide_eq_false_iff_not, Decidable.not_not, Int32.not_lt, Int32.not_le] at h_4); (try simp only [decide_eq_true_eq, decide_eq_false_iff_not, Decidable.not_not, Int32.not_lt, Int32.not_le] at h_5); unfold ga_seal; simp [h_1, h_2, h_3, h_4, h_5]; try (intro h9; first | exact absurd h9 (Int32.not_le.mpr h_1) | exact absurd h9 (Int32.not_le.mpr h_2) | exact absurd h9 (Int32.not_le.mpr h_3) | exact absurd h9 (Int32.not_le.mpr h_4) | exact absurd h9 (Int32.not_le.mpr h_5) | exact h_1 | exact h_2 | exact h_3 | exact h_4 | exact h_5 | exact absurd (by rw [← h_1]; exact h_2) h9 | exact absurd (by rw [← h_1]; exact h_3) h9 | exact absurd (by rw [← h_1]; exact h_4) h9 | exact absurd (by rw [← h_1]; exact h_5) h9 | exact absurd (by rw [← h_2]; exact h_1) h9 | exact absurd (by rw [← h_2]; exact h_3) h9 | exact absurd (by rw [← h_2]; exact h_4) h9 | exact absurd (by rw [← h_2]; exact h_5) h9 | exact absurd (by rw [← h_3]; exact h_1) h9 | exact absurd (by rw [← h_3]; exact h_2) h9 | exact absurd (by rw [← h_3]; exact h_4) h9 | exact absurd (by rw [← h_3]; exact h_5) h9 | exact absurd (by rw [← h_4]; exact h_1) h9 | exact absurd (by rw [← h_4]; exact h_2) h9 | exact absurd (by rw [← h_4]; exact h_3) h9 | exact absurd (by rw [← h_4]; exact h_5) h9 | exact absurd (by rw [← h_5]; exact h_1) h9 | exact absurd (by rw [← h_5]; exact h_2) h9 | exact absurd (by rw [← h_5]; exact h_3) h9 | exact absurd (by rw [← h_5]; exact h_4) h9 | done)
            refine W.eq (g2 := F0 m 89 ls [.int (ga_seal A B T P Y G si.toNatClampNeg ti.toNatClampNeg)]) (by rw [e9]) ?_
            exact W.iret (v := ga_seal A B T P Y G si.toNatClampNeg ti.toNatClampNeg) hx hb hr (fun t9 ht hW => ⟨rfl, ht⟩) (fun z hz => nomatch hz) dX_sealingCause_89
          · 
            refine lv_aload_n hx hb dX_sealingCause_61 rfl (lv_at hl 1 rfl) ?_
            refine va_get (D := D) (ci := 0) (v := .ref (q 1)) (C := RX) (T := TX) (N := 6) hx hb hts inX hown hK hP 0 rfl rfl 0 (by decide) (hts _ w_29) (fun _ h9 => h9) rfl dX_sealingCause_62 ?_
            refine lv_iload_n hx hb dX_sealingCause_65 rfl (lv_at hl 3 rfl) ?_
            refine va_iald hx hb hK hP 1 0 rfl rfl hti dX_sealingCause_66 ?_
            refine lv_ldc (v := 65535) hx hb hown (hts _ w_213) dX_sealingCause_67 ?_
            refine lv_icmp_gt (tgt := 76) hx hb dX_sealingCause_69 (by decide) (fun h_7 => ?_) (fun h_7 => ?_)
            · 
              refine lv_iconst (v := 0) hx hb dX_sealingCause_76 (by decide) ?_
              refine lv_istore hx hb dX_sealingCause_77 hl (by decide) rfl (fun ls hl => ?_)
              have hl : lv_has ls 5 [(4, .int (0)), (3, .int (ga_acc B T P Y G ti.toNatClampNeg (A ti.toNatClampNeg) 1 (32))), (0, .ref (q 0)), (1, .int (si)), (2, .int (ti))] := hl
              refine lv_iload hx hb dX_sealingCause_79 (lv_at hl 0 rfl) ?_
              refine lv_if_eq (tgt := 88) hx hb dX_sealingCause_81 (by decide) (fun h_8 => ?_) (fun h_8 => absurd (by decide) h_8)
              refine lv_iconst (v := 4) hx hb dX_sealingCause_88 (by decide) ?_
              have e9 : (ga_seal A B T P Y G si.toNatClampNeg ti.toNatClampNeg) = 4 := by (try simp only [decide_eq_true_eq, decide_eq_false_iff_not, Decidable.not_not, Int32.not_lt, Int32.not_le] at h_1); (try simp only [decide_eq_true_eq, decide_eq_false_iff_not, Decidable.not_not, Int32.not_lt, Int32.not_le] at h_2); (try simp only [decide_eq_true_eq, decide_eq_false_iff_not, Decidable.not_not, Int32.not_lt, Int32.not_le] at h_3); (try simp only [decide_eq_true_eq, decide_eq_false_iff_not, Decidable.not_not, Int32.not_lt, Int32.not_le] at h_4); (try simp only [decide_eq_true_eq, decide_eq_false_iff_not, Decidable.not_not, Int32.not_lt, Int32.not_le] at h_5); (try simp only [decide_eq_true_eq, decide_eq_false_iff_not, Decidable.not_not, Int32.not_lt, Int32.not_le] at h_7); unfold ga_seal; simp [h_1, h_2, h_3, h_4, h_5, h_7]; try (intro h9; first | exact absurd h9 (Int32.not_le.mpr h_1) | exact absurd h9 (Int32.not_le.mpr h_2) | exact absurd h9 (Int32.not_le.mpr h_3) | exact absurd h9 (Int32.not_le.mpr h_4) | exact absurd h9 (Int32.not_le.mpr h_5) | exact absurd h9 (Int32.not_le.mpr h_7) | exact h_1 | exact h_2 | exact h_3 | exact h_4 | exact h_5 | exact h_7 | exact absurd (by rw [← h_1]; exact h_2) h9 | exact absurd (by rw [← h_1]; exact h_3) h9 | exact absurd (by rw [← h_1]; exact h_4) h9 | exact absurd (by rw [← h_1]; exact h_5) h9 | exact absurd (by rw [← h_1]; exact h_7) h9 | exact absurd (by rw [← h_2]; exact h_1) h9 | exact absurd (by rw [← h_2]; exact h_3) h9 | exact absurd (by rw [← h_2]; exact h_4) h9 | exact absurd (by rw [← h_2]; exact h_5) h9 | exact absurd (by rw [← h_2]; exact h_7) h9 | exact absurd (by rw [← h_3]; exact h_1) h9 | exact absurd (by rw [← h_3]; exact h_2) h9 | exact absurd (by rw [← h_3]; exact h_4) h9 | exact absurd (by rw [← h_3]; exact h_5) h9 | exact absurd (by rw [← h_3]; exact h_7) h9 | exact absurd (by rw [← h_4]; exact h_1) h9 | exact absurd (by rw [← h_4]; exact h_2) h9 | exact absurd (by rw [← h_4]; exact h_3) h9 | exact absurd (by rw [← h_4]; exact h_5) h9 | exact absurd (by rw [← h_4]; exact h_7) h9 | exact absurd (by rw [← h_5]; exact h_1) h9 | exact absurd (by rw [← h_5]; exact h_2) h9 | exact absurd (by rw [← h_5]; exact h_3) h9 | exact absurd (by rw [← h_5]; exact h_4) h9 | exact absurd (by rw [← h_5]; exact h_7) h9 | exact absurd (by rw [← h_7]; exact h_1) h9 | exact absurd (by rw [← h_7]; exact h_2) h9 | exact absurd (by rw [← h_7]; exact h_3) h9 | exact absurd (by rw [← h_7]; exact h_4) h9 | exact absurd (by rw [← h_7]; exact h_5) h9 | done)
              refine W.eq (g2 := F0 m 89 ls [.int (ga_seal A B T P Y G si.toNatClampNeg ti.toNatClampNeg)]) (by rw [e9]) ?_
              exact W.iret (v := ga_seal A B T P Y G si.toNatClampNeg ti.toNatClampNeg) hx hb hr (fun t9 ht hW => ⟨rfl, ht⟩) (fun z hz => nomatch hz) dX_sealingCause_89
            · 
              refine lv_iconst (v := 1) hx hb dX_sealingCause_72 (by decide) ?_
              refine lv_goto (tgt := 77) hx hb dX_sealingCause_73 (by decide) ?_
              refine lv_istore hx hb dX_sealingCause_77 hl (by decide) rfl (fun ls hl => ?_)
              have hl : lv_has ls 5 [(4, .int (1)), (3, .int (ga_acc B T P Y G ti.toNatClampNeg (A ti.toNatClampNeg) 1 (32))), (0, .ref (q 0)), (1, .int (si)), (2, .int (ti))] := hl
              refine lv_iload hx hb dX_sealingCause_79 (lv_at hl 0 rfl) ?_
              refine lv_if_eq (tgt := 88) hx hb dX_sealingCause_81 (by decide) (fun h_9 => absurd h_9 (by decide)) (fun h_9 => ?_)
              refine lv_iconst (v := 0) hx hb dX_sealingCause_84 (by decide) ?_
              refine lv_goto (tgt := 89) hx hb dX_sealingCause_85 (by decide) ?_
              have e9 : (ga_seal A B T P Y G si.toNatClampNeg ti.toNatClampNeg) = 0 := by (try simp only [decide_eq_true_eq, decide_eq_false_iff_not, Decidable.not_not, Int32.not_lt, Int32.not_le] at h_1); (try simp only [decide_eq_true_eq, decide_eq_false_iff_not, Decidable.not_not, Int32.not_lt, Int32.not_le] at h_2); (try simp only [decide_eq_true_eq, decide_eq_false_iff_not, Decidable.not_not, Int32.not_lt, Int32.not_le] at h_3); (try simp only [decide_eq_true_eq, decide_eq_false_iff_not, Decidable.not_not, Int32.not_lt, Int32.not_le] at h_4); (try simp only [decide_eq_true_eq, decide_eq_false_iff_not, Decidable.not_not, Int32.not_lt, Int32.not_le] at h_5); (try simp only [decide_eq_true_eq, decide_eq_false_iff_not, Decidable.not_not, Int32.not_lt, Int32.not_le] at h_7); unfold ga_seal; simp [h_1, h_2, h_3, h_4, h_5, h_7]; try (intro h9; first | exact absurd h9 (Int32.not_le.mpr h_1) | exact absurd h9 (Int32.not_le.mpr h_2) | exact absurd h9 (Int32.not_le.mpr h_3) | exact absurd h9 (Int32.not_le.mpr h_4) | exact absurd h9 (Int32.not_le.mpr h_5) | exact absurd h9 (Int32.not_le.mpr h_7) | exact h_1 | exact h_2 | exact h_3 | exact h_4 | exact h_5 | exact h_7 | exact absurd (by rw [← h_1]; exact h_2) h9 | exact absurd (by rw [← h_1]; exact h_3) h9 | exact absurd (by rw [← h_1]; exact h_4) h9 | exact absurd (by rw [← h_1]; exact h_5) h9 | exact absurd (by rw [← h_1]; exact h_7) h9 | exact absurd (by rw [← h_2]; exact h_1) h9 | exact absurd (by rw [← h_2]; exact h_3) h9 | exact absurd (by rw [← h_2]; exact h_4) h9 | exact absurd (by rw [← h_2]; exact h_5) h9 | exact absurd (by rw [← h_2]; exact h_7) h9 | exact absurd (by rw [← h_3]; exact h_1) h9 | exact absurd (by rw [← h_3]; exact h_2) h9 | exact absurd (by rw [← h_3]; exact h_4) h9 | exact absurd (by rw [← h_3]; exact h_5) h9 | exact absurd (by rw [← h_3]; exact h_7) h9 | exact absurd (by rw [← h_4]; exact h_1) h9 | exact absurd (by rw [← h_4]; exact h_2) h9 | exact absurd (by rw [← h_4]; exact h_3) h9 | exact absurd (by rw [← h_4]; exact h_5) h9 | exact absurd (by rw [← h_4]; exact h_7) h9 | exact absurd (by rw [← h_5]; exact h_1) h9 | exact absurd (by rw [← h_5]; exact h_2) h9 | exact absurd (by rw [← h_5]; exact h_3) h9 | exact absurd (by rw [← h_5]; exact h_4) h9 | exact absurd (by rw [← h_5]; exact h_7) h9 | exact absurd (by rw [← h_7]; exact h_1) h9 | exact absurd (by rw [← h_7]; exact h_2) h9 | exact absurd (by rw [← h_7]; exact h_3) h9 | exact absurd (by rw [← h_7]; exact h_4) h9 | exact absurd (by rw [← h_7]; exact h_5) h9 | done)
              refine W.eq (g2 := F0 m 89 ls [.int (ga_seal A B T P Y G si.toNatClampNeg ti.toNatClampNeg)]) (by rw [e9]) ?_
              exact W.iret (v := ga_seal A B T P Y G si.toNatClampNeg ti.toNatClampNeg) hx hb hr (fun t9 ht hW => ⟨rfl, ht⟩) (fun z hz => nomatch hz) dX_sealingCause_89
        · 
          refine lv_iload_n hx hb dX_sealingCause_49 rfl (lv_at hl 0 rfl) ?_
          have e9 : (ga_seal A B T P Y G si.toNatClampNeg ti.toNatClampNeg) = ga_acc B T P Y G ti.toNatClampNeg (A ti.toNatClampNeg) 1 (32) := by (try simp only [decide_eq_true_eq, decide_eq_false_iff_not, Decidable.not_not, Int32.not_lt, Int32.not_le] at h_1); (try simp only [decide_eq_true_eq, decide_eq_false_iff_not, Decidable.not_not, Int32.not_lt, Int32.not_le] at h_2); (try simp only [decide_eq_true_eq, decide_eq_false_iff_not, Decidable.not_not, Int32.not_lt, Int32.not_le] at h_3); (try simp only [decide_eq_true_eq, decide_eq_false_iff_not, Decidable.not_not, Int32.not_lt, Int32.not_le] at h_4); unfold ga_seal; simp [h_1, h_2, h_3, h_4]; try (intro h9; first | exact absurd h9 (Int32.not_le.mpr h_1) | exact absurd h9 (Int32.not_le.mpr h_2) | exact absurd h9 (Int32.not_le.mpr h_3) | exact absurd h9 (Int32.not_le.mpr h_4) | exact h_1 | exact h_2 | exact h_3 | exact h_4 | exact absurd (by rw [← h_1]; exact h_2) h9 | exact absurd (by rw [← h_1]; exact h_3) h9 | exact absurd (by rw [← h_1]; exact h_4) h9 | exact absurd (by rw [← h_2]; exact h_1) h9 | exact absurd (by rw [← h_2]; exact h_3) h9 | exact absurd (by rw [← h_2]; exact h_4) h9 | exact absurd (by rw [← h_3]; exact h_1) h9 | exact absurd (by rw [← h_3]; exact h_2) h9 | exact absurd (by rw [← h_3]; exact h_4) h9 | exact absurd (by rw [← h_4]; exact h_1) h9 | exact absurd (by rw [← h_4]; exact h_2) h9 | exact absurd (by rw [← h_4]; exact h_3) h9 | done)
          refine W.eq (g2 := F0 m 50 ls [.int (ga_seal A B T P Y G si.toNatClampNeg ti.toNatClampNeg)]) (by rw [e9]) ?_
          exact W.iret (v := ga_seal A B T P Y G si.toNatClampNeg ti.toNatClampNeg) hx hb hr (fun t9 ht hW => ⟨rfl, ht⟩) (fun z hz => nomatch hz) dX_sealingCause_50
      · have h_3 := bi_n h_3
        refine lv_iconst (v := 2) hx hb dX_sealingCause_28 (by decide) ?_
        have e9 : (ga_seal A B T P Y G si.toNatClampNeg ti.toNatClampNeg) = 2 := by (try simp only [decide_eq_true_eq, decide_eq_false_iff_not, Decidable.not_not, Int32.not_lt, Int32.not_le] at h_1); (try simp only [decide_eq_true_eq, decide_eq_false_iff_not, Decidable.not_not, Int32.not_lt, Int32.not_le] at h_2); (try simp only [decide_eq_true_eq, decide_eq_false_iff_not, Decidable.not_not, Int32.not_lt, Int32.not_le] at h_3); unfold ga_seal; simp [h_1, h_2, h_3]; try (intro h9; first | exact absurd h9 (Int32.not_le.mpr h_1) | exact absurd h9 (Int32.not_le.mpr h_2) | exact absurd h9 (Int32.not_le.mpr h_3) | exact h_1 | exact h_2 | exact h_3 | exact absurd (by rw [← h_1]; exact h_2) h9 | exact absurd (by rw [← h_1]; exact h_3) h9 | exact absurd (by rw [← h_2]; exact h_1) h9 | exact absurd (by rw [← h_2]; exact h_3) h9 | exact absurd (by rw [← h_3]; exact h_1) h9 | exact absurd (by rw [← h_3]; exact h_2) h9 | done)
        refine W.eq (g2 := F0 m 29 ls [.int (ga_seal A B T P Y G si.toNatClampNeg ti.toNatClampNeg)]) (by rw [e9]) ?_
        exact W.iret (v := ga_seal A B T P Y G si.toNatClampNeg ti.toNatClampNeg) hx hb hr (fun t9 ht hW => ⟨rfl, ht⟩) (fun z hz => nomatch hz) dX_sealingCause_29
    · have h_2 := bi_0 h_2
      refine lv_iconst (v := 1) hx hb dX_sealingCause_18 (by decide) ?_
      have e9 : (ga_seal A B T P Y G si.toNatClampNeg ti.toNatClampNeg) = 1 := by (try simp only [decide_eq_true_eq, decide_eq_false_iff_not, Decidable.not_not, Int32.not_lt, Int32.not_le] at h_1); (try simp only [decide_eq_true_eq, decide_eq_false_iff_not, Decidable.not_not, Int32.not_lt, Int32.not_le] at h_2); unfold ga_seal; simp [h_1, h_2]; try (intro h9; first | exact absurd h9 (Int32.not_le.mpr h_1) | exact absurd h9 (Int32.not_le.mpr h_2) | exact h_1 | exact h_2 | exact absurd (by rw [← h_1]; exact h_2) h9 | exact absurd (by rw [← h_2]; exact h_1) h9 | done)
      refine W.eq (g2 := F0 m 19 ls [.int (ga_seal A B T P Y G si.toNatClampNeg ti.toNatClampNeg)]) (by rw [e9]) ?_
      exact W.iret (v := ga_seal A B T P Y G si.toNatClampNeg ti.toNatClampNeg) hx hb hr (fun t9 ht hW => ⟨rfl, ht⟩) (fun z hz => nomatch hz) dX_sealingCause_19

set_option maxRecDepth 100000 in
set_option maxHeartbeats 4000000 in
theorem mX_unsealingCause (l : Launch) (D : va_G) (cI cZ : ClassId) (q : Nat → Nat) (A B T P Y : Nat → Int32) (G : Nat → Bool) (si ti : Int32) (hsi : vp_in si 16) (hti : vp_in ti 16) : Met l yX_unsealingCause (Cond.code yX_unsealingCause cX_unsealingCause 4 (some .int) :: gw) (rmk 3 0 0) (va_Pc [.ref (q 0), .int (si), .int (ti)] (rB D vwCl (xW cI cZ q A B T P Y G) (tsX cI cZ))) (k2_QcV (.int (ga_open A B T P Y G si.toNatClampNeg ti.toNatClampNeg))) 0 0 (fun _ => False) := by
  refine Met.ofW (cc := cX_unsealingCause) (maxL := 4) (ret := (some .int)) (by decide) rfl ?_
  intro p e s m args below meth c s₁ B9 hml hv
  obtain ⟨rfl, hP, hK⟩ := hv
  have hx := B9.exec
  have hb := B9.bytes
  have hr := B9.returns
  have hts := fun (w : Cond) (h : w ∈ gw) => atoms_spec (ws := _ :: gw) B9.pre w (List.mem_cons_of_mem _ h)
  have hown : s.vm.findClass RX = some m.cls := findClass_of_methodNamed B9.named
  have hlocks := B9.notSynchronized
  have hl := lv_entry ([.ref (q 0), .int (si), .int (ti)]) (n := 4) (Nat.le_of_ble_eq_true rfl)
  rw [lg_entry_eq]
  generalize (lg_sl ([.ref (q 0), .int (si), .int (ti)]) ++ List.replicate (4 - (lg_sl ([.ref (q 0), .int (si), .int (ti)])).length) Slot.unset).toArray = ls at hl ⊢
  have hl : lv_has ls 4 [(0, .ref (q 0)), (1, .int (si)), (2, .int (ti))] := hl
  refine lv_aload_n hx hb dX_unsealingCause_0 rfl (lv_at hl 0 rfl) ?_
  refine va_get (D := D) (ci := 0) (v := .ref (q 6)) (C := RX) (T := TX) (N := 6) hx hb hts inX hown hK hP 0 rfl rfl 5 (by decide) (hts _ w_34) (fun _ h9 => h9) rfl dX_unsealingCause_1 ?_
  refine lv_iload_n hx hb dX_unsealingCause_4 rfl (lv_at hl 1 rfl) ?_
  refine va_zald hx hb hK hP 6 1 rfl rfl hsi dX_unsealingCause_5 ?_
  refine W.eq (g2 := F0 m 6 ls [.int (bi (G si.toNatClampNeg))]) rfl ?_
  refine lv_if_eq (tgt := 18) hx hb dX_unsealingCause_6 (by decide) (fun h_1 => ?_) (fun h_1 => ?_)
  · have h_1 := bi_0 h_1
    refine lv_iconst (v := 1) hx hb dX_unsealingCause_18 (by decide) ?_
    have e9 : (ga_open A B T P Y G si.toNatClampNeg ti.toNatClampNeg) = 1 := by (try simp only [decide_eq_true_eq, decide_eq_false_iff_not, Decidable.not_not, Int32.not_lt, Int32.not_le] at h_1); unfold ga_open; simp [h_1]; try (intro h9; first | exact absurd h9 (Int32.not_le.mpr h_1) | exact h_1 | done)
    refine W.eq (g2 := F0 m 19 ls [.int (ga_open A B T P Y G si.toNatClampNeg ti.toNatClampNeg)]) (by rw [e9]) ?_
    exact W.iret (v := ga_open A B T P Y G si.toNatClampNeg ti.toNatClampNeg) hx hb hr (fun t9 ht hW => ⟨rfl, ht⟩) (fun z hz => nomatch hz) dX_unsealingCause_19
  · have h_1 := bi_n h_1
    refine lv_aload_n hx hb dX_unsealingCause_9 rfl (lv_at hl 0 rfl) ?_
    refine va_get (D := D) (ci := 0) (v := .ref (q 6)) (C := RX) (T := TX) (N := 6) hx hb hts inX hown hK hP 0 rfl rfl 5 (by decide) (hts _ w_34) (fun _ h9 => h9) rfl dX_unsealingCause_10 ?_
    refine lv_iload_n hx hb dX_unsealingCause_13 rfl (lv_at hl 2 rfl) ?_
    refine va_zald hx hb hK hP 6 1 rfl rfl hti dX_unsealingCause_14 ?_
    refine W.eq (g2 := F0 m 15 ls [.int (bi (G ti.toNatClampNeg))]) rfl ?_
    refine lv_if_ne (tgt := 20) hx hb dX_unsealingCause_15 (by decide) (fun h_2 => ?_) (fun h_2 => ?_)
    · have h_2 := bi_n h_2
      refine lv_aload_n hx hb dX_unsealingCause_20 rfl (lv_at hl 0 rfl) ?_
      refine lv_iload_n hx hb dX_unsealingCause_21 rfl (lv_at hl 1 rfl) ?_
      refine kr_V 1 (b := q 0) (As := [.int (si)]) (rest := []) (r := .int (bi (decide (¬ Y si.toNatClampNeg = 0)))) hx hb hml hown hts hl.1 (mX_isSealed l D cI cZ q A B T P Y G (si) hsi) rB_stb ⟨hP, hK⟩ (gw_V w_58 w_60 w_1 w_14 w_61) (by decide) ⟨rfl, rfl⟩ ⟨Nat.le_of_ble_eq_true rfl, Nat.le_of_ble_eq_true rfl⟩ (va_recv hK hP (ci := 0) rfl (q0 := 0) rfl) rfl rfl (Nat.le_of_ble_eq_true rfl) dX_unsealingCause_22 ⟨Nat.zero_le _, Nat.zero_le _⟩ ?_
      refine lv_if_ne (tgt := 30) hx hb dX_unsealingCause_25 (by decide) (fun h_3 => ?_) (fun h_3 => ?_)
      · have h_3 := bi_n h_3
        refine lv_aload_n hx hb dX_unsealingCause_30 rfl (lv_at hl 0 rfl) ?_
        refine lv_iload_n hx hb dX_unsealingCause_31 rfl (lv_at hl 2 rfl) ?_
        refine lv_aload_n hx hb dX_unsealingCause_32 rfl (lv_at hl 0 rfl) ?_
        refine va_get (D := D) (ci := 0) (v := .ref (q 1)) (C := RX) (T := TX) (N := 6) hx hb hts inX hown hK hP 0 rfl rfl 0 (by decide) (hts _ w_29) (fun _ h9 => h9) rfl dX_unsealingCause_33 ?_
        refine lv_iload_n hx hb dX_unsealingCause_36 rfl (lv_at hl 2 rfl) ?_
        refine va_iald hx hb hK hP 1 0 rfl rfl hti dX_unsealingCause_37 ?_
        refine lv_iconst (v := 1) hx hb dX_unsealingCause_38 (by decide) ?_
        refine lv_bipush (v := 64) hx hb dX_unsealingCause_39 (by decide) ?_
        refine kr_V 4 (b := q 0) (As := [.int (ti), .int (A ti.toNatClampNeg), .int (1), .int (64)]) (rest := []) (r := .int (ga_acc B T P Y G ti.toNatClampNeg (A ti.toNatClampNeg) 1 (64))) hx hb hml hown hts hl.1 (mX_accessCause l D cI cZ q A B T P Y G (ti) (A ti.toNatClampNeg) 1 (64) hti (by first | decide | omega)) rB_stb ⟨hP, hK⟩ (gw_V w_54 w_56 w_0 w_14 w_57) (by decide) ⟨rfl, rfl⟩ ⟨Nat.le_of_ble_eq_true rfl, Nat.le_of_ble_eq_true rfl⟩ (va_recv hK hP (ci := 0) rfl (q0 := 0) rfl) rfl rfl (Nat.le_of_ble_eq_true rfl) dX_unsealingCause_41 ⟨Nat.zero_le _, Nat.zero_le _⟩ ?_
        refine lv_istore_n hx hb dX_unsealingCause_44 rfl hl (by decide) rfl (fun ls hl => ?_)
        have hl : lv_has ls 4 [(3, .int (ga_acc B T P Y G ti.toNatClampNeg (A ti.toNatClampNeg) 1 (64))), (0, .ref (q 0)), (1, .int (si)), (2, .int (ti))] := hl
        refine lv_iload_n hx hb dX_unsealingCause_45 rfl (lv_at hl 0 rfl) ?_
        refine lv_if_eq (tgt := 51) hx hb dX_unsealingCause_46 (by decide) (fun h_4 => ?_) (fun h_4 => ?_)
        · 
          refine lv_aload_n hx hb dX_unsealingCause_51 rfl (lv_at hl 1 rfl) ?_
          refine va_get (D := D) (ci := 0) (v := .ref (q 1)) (C := RX) (T := TX) (N := 6) hx hb hts inX hown hK hP 0 rfl rfl 0 (by decide) (hts _ w_29) (fun _ h9 => h9) rfl dX_unsealingCause_52 ?_
          refine lv_iload_n hx hb dX_unsealingCause_55 rfl (lv_at hl 3 rfl) ?_
          refine va_iald hx hb hK hP 1 0 rfl rfl hti dX_unsealingCause_56 ?_
          refine lv_aload_n hx hb dX_unsealingCause_57 rfl (lv_at hl 1 rfl) ?_
          refine va_get (D := D) (ci := 0) (v := .ref (q 5)) (C := RX) (T := TX) (N := 6) hx hb hts inX hown hK hP 0 rfl rfl 4 (by decide) (hts _ w_33) (fun _ h9 => h9) rfl dX_unsealingCause_58 ?_
          refine lv_iload_n hx hb dX_unsealingCause_61 rfl (lv_at hl 2 rfl) ?_
          refine va_iald hx hb hK hP 5 0 rfl rfl hsi dX_unsealingCause_62 ?_
          refine lv_icmp_ne (tgt := 70) hx hb dX_unsealingCause_63 (by decide) (fun h_5 => ?_) (fun h_5 => ?_)
          · 
            refine lv_iconst (v := 4) hx hb dX_unsealingCause_70 (by decide) ?_
            have e9 : (ga_open A B T P Y G si.toNatClampNeg ti.toNatClampNeg) = 4 := by (try simp only [decide_eq_true_eq, decide_eq_false_iff_not, Decidable.not_not, Int32.not_lt, Int32.not_le] at h_1); (try simp only [decide_eq_true_eq, decide_eq_false_iff_not, Decidable.not_not, Int32.not_lt, Int32.not_le] at h_2); (try simp only [decide_eq_true_eq, decide_eq_false_iff_not, Decidable.not_not, Int32.not_lt, Int32.not_le] at h_3); (try simp only [decide_eq_true_eq, decide_eq_false_iff_not, Decidable.not_not, Int32.not_lt, Int32.not_le] at h_4); (try simp only [decide_eq_true_eq, decide_eq_false_iff_not, Decidable.not_not, Int32.not_lt, Int32.not_le] at h_5); unfold ga_open; simp [h_1, h_2, h_3, h_4, h_5]; try (intro h9; first | exact absurd h9 (Int32.not_le.mpr h_1) | exact absurd h9 (Int32.not_le.mpr h_2) | exact absurd h9 (Int32.not_le.mpr h_3) | exact absurd h9 (Int32.not_le.mpr h_4) | exact absurd h9 (Int32.not_le.mpr h_5) | exact h_1 | exact h_2 | exact h_3 | exact h_4 | exact h_5 | exact absurd (by rw [← h_1]; exact h_2) h9 | exact absurd (by rw [← h_1]; exact h_3) h9 | exact absurd (by rw [← h_1]; exact h_4) h9 | exact absurd (by rw [← h_1]; exact h_5) h9 | exact absurd (by rw [← h_2]; exact h_1) h9 | exact absurd (by rw [← h_2]; exact h_3) h9 | exact absurd (by rw [← h_2]; exact h_4) h9 | exact absurd (by rw [← h_2]; exact h_5) h9 | exact absurd (by rw [← h_3]; exact h_1) h9 | exact absurd (by rw [← h_3]; exact h_2) h9 | exact absurd (by rw [← h_3]; exact h_4) h9 | exact absurd (by rw [← h_3]; exact h_5) h9 | exact absurd (by rw [← h_4]; exact h_1) h9 | exact absurd (by rw [← h_4]; exact h_2) h9 | exact absurd (by rw [← h_4]; exact h_3) h9 | exact absurd (by rw [← h_4]; exact h_5) h9 | exact absurd (by rw [← h_5]; exact h_1) h9 | exact absurd (by rw [← h_5]; exact h_2) h9 | exact absurd (by rw [← h_5]; exact h_3) h9 | exact absurd (by rw [← h_5]; exact h_4) h9 | done)
            refine W.eq (g2 := F0 m 71 ls [.int (ga_open A B T P Y G si.toNatClampNeg ti.toNatClampNeg)]) (by rw [e9]) ?_
            exact W.iret (v := ga_open A B T P Y G si.toNatClampNeg ti.toNatClampNeg) hx hb hr (fun t9 ht hW => ⟨rfl, ht⟩) (fun z hz => nomatch hz) dX_unsealingCause_71
          · 
            refine lv_iconst (v := 0) hx hb dX_unsealingCause_66 (by decide) ?_
            refine lv_goto (tgt := 71) hx hb dX_unsealingCause_67 (by decide) ?_
            have e9 : (ga_open A B T P Y G si.toNatClampNeg ti.toNatClampNeg) = 0 := by (try simp only [decide_eq_true_eq, decide_eq_false_iff_not, Decidable.not_not, Int32.not_lt, Int32.not_le] at h_1); (try simp only [decide_eq_true_eq, decide_eq_false_iff_not, Decidable.not_not, Int32.not_lt, Int32.not_le] at h_2); (try simp only [decide_eq_true_eq, decide_eq_false_iff_not, Decidable.not_not, Int32.not_lt, Int32.not_le] at h_3); (try simp only [decide_eq_true_eq, decide_eq_false_iff_not, Decidable.not_not, Int32.not_lt, Int32.not_le] at h_4); (try simp only [decide_eq_true_eq, decide_eq_false_iff_not, Decidable.not_not, Int32.not_lt, Int32.not_le] at h_5); unfold ga_open; simp [h_1, h_2, h_3, h_4, h_5]; try (intro h9; first | exact absurd h9 (Int32.not_le.mpr h_1) | exact absurd h9 (Int32.not_le.mpr h_2) | exact absurd h9 (Int32.not_le.mpr h_3) | exact absurd h9 (Int32.not_le.mpr h_4) | exact absurd h9 (Int32.not_le.mpr h_5) | exact h_1 | exact h_2 | exact h_3 | exact h_4 | exact h_5 | exact absurd (by rw [← h_1]; exact h_2) h9 | exact absurd (by rw [← h_1]; exact h_3) h9 | exact absurd (by rw [← h_1]; exact h_4) h9 | exact absurd (by rw [← h_1]; exact h_5) h9 | exact absurd (by rw [← h_2]; exact h_1) h9 | exact absurd (by rw [← h_2]; exact h_3) h9 | exact absurd (by rw [← h_2]; exact h_4) h9 | exact absurd (by rw [← h_2]; exact h_5) h9 | exact absurd (by rw [← h_3]; exact h_1) h9 | exact absurd (by rw [← h_3]; exact h_2) h9 | exact absurd (by rw [← h_3]; exact h_4) h9 | exact absurd (by rw [← h_3]; exact h_5) h9 | exact absurd (by rw [← h_4]; exact h_1) h9 | exact absurd (by rw [← h_4]; exact h_2) h9 | exact absurd (by rw [← h_4]; exact h_3) h9 | exact absurd (by rw [← h_4]; exact h_5) h9 | exact absurd (by rw [← h_5]; exact h_1) h9 | exact absurd (by rw [← h_5]; exact h_2) h9 | exact absurd (by rw [← h_5]; exact h_3) h9 | exact absurd (by rw [← h_5]; exact h_4) h9 | done)
            refine W.eq (g2 := F0 m 71 ls [.int (ga_open A B T P Y G si.toNatClampNeg ti.toNatClampNeg)]) (by rw [e9]) ?_
            exact W.iret (v := ga_open A B T P Y G si.toNatClampNeg ti.toNatClampNeg) hx hb hr (fun t9 ht hW => ⟨rfl, ht⟩) (fun z hz => nomatch hz) dX_unsealingCause_71
        · 
          refine lv_iload_n hx hb dX_unsealingCause_49 rfl (lv_at hl 0 rfl) ?_
          have e9 : (ga_open A B T P Y G si.toNatClampNeg ti.toNatClampNeg) = ga_acc B T P Y G ti.toNatClampNeg (A ti.toNatClampNeg) 1 (64) := by (try simp only [decide_eq_true_eq, decide_eq_false_iff_not, Decidable.not_not, Int32.not_lt, Int32.not_le] at h_1); (try simp only [decide_eq_true_eq, decide_eq_false_iff_not, Decidable.not_not, Int32.not_lt, Int32.not_le] at h_2); (try simp only [decide_eq_true_eq, decide_eq_false_iff_not, Decidable.not_not, Int32.not_lt, Int32.not_le] at h_3); (try simp only [decide_eq_true_eq, decide_eq_false_iff_not, Decidable.not_not, Int32.not_lt, Int32.not_le] at h_4); unfold ga_open; simp [h_1, h_2, h_3, h_4]; try (intro h9; first | exact absurd h9 (Int32.not_le.mpr h_1) | exact absurd h9 (Int32.not_le.mpr h_2) | exact absurd h9 (Int32.not_le.mpr h_3) | exact absurd h9 (Int32.not_le.mpr h_4) | exact h_1 | exact h_2 | exact h_3 | exact h_4 | exact absurd (by rw [← h_1]; exact h_2) h9 | exact absurd (by rw [← h_1]; exact h_3) h9 | exact absurd (by rw [← h_1]; exact h_4) h9 | exact absurd (by rw [← h_2]; exact h_1) h9 | exact absurd (by rw [← h_2]; exact h_3) h9 | exact absurd (by rw [← h_2]; exact h_4) h9 | exact absurd (by rw [← h_3]; exact h_1) h9 | exact absurd (by rw [← h_3]; exact h_2) h9 | exact absurd (by rw [← h_3]; exact h_4) h9 | exact absurd (by rw [← h_4]; exact h_1) h9 | exact absurd (by rw [← h_4]; exact h_2) h9 | exact absurd (by rw [← h_4]; exact h_3) h9 | done)
          refine W.eq (g2 := F0 m 50 ls [.int (ga_open A B T P Y G si.toNatClampNeg ti.toNatClampNeg)]) (by rw [e9]) ?_
          exact W.iret (v := ga_open A B T P Y G si.toNatClampNeg ti.toNatClampNeg) hx hb hr (fun t9 ht hW => ⟨rfl, ht⟩) (fun z hz => nomatch hz) dX_unsealingCause_50
      · have h_3 := bi_0 h_3
        refine lv_iconst (v := 2) hx hb dX_unsealingCause_28 (by decide) ?_
        have e9 : (ga_open A B T P Y G si.toNatClampNeg ti.toNatClampNeg) = 2 := by (try simp only [decide_eq_true_eq, decide_eq_false_iff_not, Decidable.not_not, Int32.not_lt, Int32.not_le] at h_1); (try simp only [decide_eq_true_eq, decide_eq_false_iff_not, Decidable.not_not, Int32.not_lt, Int32.not_le] at h_2); (try simp only [decide_eq_true_eq, decide_eq_false_iff_not, Decidable.not_not, Int32.not_lt, Int32.not_le] at h_3); unfold ga_open; simp [h_1, h_2, h_3]; try (intro h9; first | exact absurd h9 (Int32.not_le.mpr h_1) | exact absurd h9 (Int32.not_le.mpr h_2) | exact absurd h9 (Int32.not_le.mpr h_3) | exact h_1 | exact h_2 | exact h_3 | exact absurd (by rw [← h_1]; exact h_2) h9 | exact absurd (by rw [← h_1]; exact h_3) h9 | exact absurd (by rw [← h_2]; exact h_1) h9 | exact absurd (by rw [← h_2]; exact h_3) h9 | exact absurd (by rw [← h_3]; exact h_1) h9 | exact absurd (by rw [← h_3]; exact h_2) h9 | done)
        refine W.eq (g2 := F0 m 29 ls [.int (ga_open A B T P Y G si.toNatClampNeg ti.toNatClampNeg)]) (by rw [e9]) ?_
        exact W.iret (v := ga_open A B T P Y G si.toNatClampNeg ti.toNatClampNeg) hx hb hr (fun t9 ht hW => ⟨rfl, ht⟩) (fun z hz => nomatch hz) dX_unsealingCause_29
    · have h_2 := bi_0 h_2
      refine lv_iconst (v := 1) hx hb dX_unsealingCause_18 (by decide) ?_
      have e9 : (ga_open A B T P Y G si.toNatClampNeg ti.toNatClampNeg) = 1 := by (try simp only [decide_eq_true_eq, decide_eq_false_iff_not, Decidable.not_not, Int32.not_lt, Int32.not_le] at h_1); (try simp only [decide_eq_true_eq, decide_eq_false_iff_not, Decidable.not_not, Int32.not_lt, Int32.not_le] at h_2); unfold ga_open; simp [h_1, h_2]; try (intro h9; first | exact absurd h9 (Int32.not_le.mpr h_1) | exact absurd h9 (Int32.not_le.mpr h_2) | exact h_1 | exact h_2 | exact absurd (by rw [← h_1]; exact h_2) h9 | exact absurd (by rw [← h_2]; exact h_1) h9 | done)
      refine W.eq (g2 := F0 m 19 ls [.int (ga_open A B T P Y G si.toNatClampNeg ti.toNatClampNeg)]) (by rw [e9]) ?_
      exact W.iret (v := ga_open A B T P Y G si.toNatClampNeg ti.toNatClampNeg) hx hb hr (fun t9 ht hW => ⟨rfl, ht⟩) (fun z hz => nomatch hz) dX_unsealingCause_19

