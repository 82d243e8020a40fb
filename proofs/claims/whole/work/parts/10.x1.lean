/-! Contracts of GrantMath: the methods that only read. Laid by program (wip/whole/gen_x1.py). -/
abbrev xW (cI cZ : ClassId) (q : Nat → Nat) (A B T P Y : Nat → Int32) (G : Nat → Bool) : va_W := [(q 0, .inr (0, [.ref (q 1), .ref (q 2), .ref (q 3), .ref (q 4), .ref (q 5), .ref (q 6)])), (q 1, .inl (cI, 16, .inl A)), (q 2, .inl (cI, 16, .inl B)), (q 3, .inl (cI, 16, .inl T)), (q 4, .inl (cI, 16, .inl P)), (q 5, .inl (cI, 16, .inl Y)), (q 6, .inl (cZ, 16, .inl (fun k => bi (G k))))]
abbrev mW (cJ cI cZ : ClassId) (q : Nat → Nat) (e : Int32) (A B T P Y : Nat → Int32) (G : Nat → Bool) : va_W := [(q 0, .inr (1, [.int e, .ref (q 1), .ref (q 2), .ref (q 3), .ref (q 4), .ref (q 5), .ref (q 6)])), (q 1, .inl (cJ, 16, .inr (.inl (fun k => uw (A k))))), (q 2, .inl (cJ, 16, .inr (.inl (fun k => uw (B k))))), (q 3, .inl (cJ, 16, .inr (.inl (fun k => uw (T k))))), (q 4, .inl (cI, 16, .inl P)), (q 5, .inl (cI, 16, .inl Y)), (q 6, .inl (cZ, 16, .inl (fun k => bi (G k))))]
abbrev tsX (cI cZ : ClassId) : List (ClassId × FieldType) := [(cI, .int), (cZ, .boolean)]
abbrev tsM (cJ cI cZ : ClassId) : List (ClassId × FieldType) := [(cJ, .long), (cI, .int), (cZ, .boolean)]
abbrev rmk (k c n : Nat) : Room := { frames := k, cells := c, slots := n, locals := 30 * k }
theorem ub_s {g : Nat → Bool} {k : Nat} {b : Bool} : ub g k b k = b := by unfold ub; rw [if_pos rfl]
theorem uu_upd (f : Nat → Int32) (k : Nat) (v w : Int32) : upd (upd f k v) k w = upd f k w := by
  funext j
  unfold upd
  by_cases h : j = k <;> simp [h]
theorem uu_ub (f : Nat → Bool) (k : Nat) (v w : Bool) : ub (ub f k v) k w = ub f k w := by
  funext j
  unfold ub
  by_cases h : j = k <;> simp [h]
set_option maxRecDepth 100000 in
set_option maxHeartbeats 4000000 in
theorem mX_unsigned (l : Launch) (v : Int32) : Met l yX_unsigned (Cond.code yX_unsigned cX_unsigned 1 (some .long) :: gw) (rmk 0 0 0) (va_Pc [.int (v)] (fun _ => True)) (k2_QcV (.long (uw (v)))) 0 0 (fun _ => False) := by
  refine Met.ofW (cc := cX_unsigned) (maxL := 1) (ret := (some .long)) (by decide) rfl ?_
  intro p e s m args below meth c s₁ B9 hml hv
  obtain ⟨rfl, -⟩ := hv
  have hx := B9.exec
  have hb := B9.bytes
  have hr := B9.returns
  have hts := fun (w : Cond) (h : w ∈ gw) => atoms_spec (ws := _ :: gw) B9.pre w (List.mem_cons_of_mem _ h)
  have hown : s.vm.findClass RX = some m.cls := findClass_of_methodNamed B9.named
  have hlocks := B9.notSynchronized
  have hl := lv_entry ([.int (v)]) (n := 1) (Nat.le_of_ble_eq_true rfl)
  rw [lg_entry_eq]
  generalize (lg_sl ([.int (v)]) ++ List.replicate (1 - (lg_sl ([.int (v)])).length) Slot.unset).toArray = ls at hl ⊢
  have hl : lv_has ls 1 [(0, .int (v))] := hl
  refine lv_iload_n hx hb dX_unsigned_0 rfl (lv_at hl 0 rfl) ?_
  refine lv_i2l (v := (v).toInt64) hx hb dX_unsigned_1 rfl ?_
  refine lv_ldc2 (v := 4294967295) hx hb hown (hts _ w_73) dX_unsigned_2 ?_
  refine lv_land hx hb dX_unsigned_5 ?_
  refine W.eq (g2 := F0 m 6 ls [.long (uw (v))]) (by rw [← uw_and v]) ?_
  exact W.lret hx hb hr (fun t9 ht hW => ⟨rfl, ht⟩) (fun z hz => nomatch hz) dX_unsigned_6

set_option maxRecDepth 100000 in
set_option maxHeartbeats 4000000 in
theorem mX_isSealed (l : Launch) (D : va_G) (cI cZ : ClassId) (q : Nat → Nat) (A B T P Y : Nat → Int32) (G : Nat → Bool) (g : Int32) (hg : vp_in g 16) : Met l yX_isSealed (Cond.code yX_isSealed cX_isSealed 2 (some .boolean) :: gw) (rmk 0 0 0) (va_Pc [.ref (q 0), .int (g)] (rB D vwCl (xW cI cZ q A B T P Y G) (tsX cI cZ))) (k2_QcV (.int (bi (decide (¬ Y g.toNatClampNeg = 0))))) 0 0 (fun _ => False) := by
  refine Met.ofW (cc := cX_isSealed) (maxL := 2) (ret := (some .boolean)) (by decide) rfl ?_
  intro p e s m args below meth c s₁ B9 hml hv
  obtain ⟨rfl, hP, hK⟩ := hv
  have hx := B9.exec
  have hb := B9.bytes
  have hr := B9.returns
  have hts := fun (w : Cond) (h : w ∈ gw) => atoms_spec (ws := _ :: gw) B9.pre w (List.mem_cons_of_mem _ h)
  have hown : s.vm.findClass RX = some m.cls := findClass_of_methodNamed B9.named
  have hlocks := B9.notSynchronized
  have hl := lv_entry ([.ref (q 0), .int (g)]) (n := 2) (Nat.le_of_ble_eq_true rfl)
  rw [lg_entry_eq]
  generalize (lg_sl ([.ref (q 0), .int (g)]) ++ List.replicate (2 - (lg_sl ([.ref (q 0), .int (g)])).length) Slot.unset).toArray = ls at hl ⊢
  have hl : lv_has ls 2 [(0, .ref (q 0)), (1, .int (g))] := hl
  refine lv_aload_n hx hb dX_isSealed_0 rfl (lv_at hl 0 rfl) ?_
  refine va_get (D := D) (ci := 0) (v := .ref (q 5)) (C := RX) (T := TX) (N := 6) hx hb hts inX hown hK hP 0 rfl rfl 4 (by decide) (hts _ w_33) (fun _ h9 => h9) rfl dX_isSealed_1 ?_
  refine lv_iload_n hx hb dX_isSealed_4 rfl (lv_at hl 1 rfl) ?_
  refine va_iald hx hb hK hP 5 0 rfl rfl hg dX_isSealed_5 ?_
  refine lv_if_eq (tgt := 13) hx hb dX_isSealed_6 (by decide) (fun h_1 => ?_) (fun h_1 => ?_)
  · 
    refine lv_iconst (v := 0) hx hb dX_isSealed_13 (by decide) ?_
    have e9 : (decide (¬ Y g.toNatClampNeg = 0)) = false := by simp [h_1]
    refine W.eq (g2 := F0 m 14 ls [.int (bi (decide (¬ Y g.toNatClampNeg = 0)))]) (by rw [e9]; rfl) ?_
    exact W.zret (v := bi (decide (¬ Y g.toNatClampNeg = 0))) hx hb hr (bi_nar _) (fun t9 ht hW => ⟨rfl, ht⟩) (fun z hz => nomatch hz) dX_isSealed_14
  · 
    refine lv_iconst (v := 1) hx hb dX_isSealed_9 (by decide) ?_
    refine lv_goto (tgt := 14) hx hb dX_isSealed_10 (by decide) ?_
    have e9 : (decide (¬ Y g.toNatClampNeg = 0)) = true := by simp [h_1]
    refine W.eq (g2 := F0 m 14 ls [.int (bi (decide (¬ Y g.toNatClampNeg = 0)))]) (by rw [e9]; rfl) ?_
    exact W.zret (v := bi (decide (¬ Y g.toNatClampNeg = 0))) hx hb hr (bi_nar _) (fun t9 ht hW => ⟨rfl, ht⟩) (fun z hz => nomatch hz) dX_isSealed_14

set_option maxRecDepth 100000 in
set_option maxHeartbeats 4000000 in
theorem mX_hasPermissions (l : Launch) (D : va_G) (cI cZ : ClassId) (q : Nat → Nat) (A B T P Y : Nat → Int32) (G : Nat → Bool) (g u : Int32) (hg : vp_in g 16) : Met l yX_hasPermissions (Cond.code yX_hasPermissions cX_hasPermissions 3 (some .boolean) :: gw) (rmk 0 0 0) (va_Pc [.ref (q 0), .int (g), .int (u)] (rB D vwCl (xW cI cZ q A B T P Y G) (tsX cI cZ))) (k2_QcV (.int (bi (ga_pm u (P g.toNatClampNeg))))) 0 0 (fun _ => False) := by
  refine Met.ofW (cc := cX_hasPermissions) (maxL := 3) (ret := (some .boolean)) (by decide) rfl ?_
  intro p e s m args below meth c s₁ B9 hml hv
  obtain ⟨rfl, hP, hK⟩ := hv
  have hx := B9.exec
  have hb := B9.bytes
  have hr := B9.returns
  have hts := fun (w : Cond) (h : w ∈ gw) => atoms_spec (ws := _ :: gw) B9.pre w (List.mem_cons_of_mem _ h)
  have hown : s.vm.findClass RX = some m.cls := findClass_of_methodNamed B9.named
  have hlocks := B9.notSynchronized
  have hl := lv_entry ([.ref (q 0), .int (g), .int (u)]) (n := 3) (Nat.le_of_ble_eq_true rfl)
  rw [lg_entry_eq]
  generalize (lg_sl ([.ref (q 0), .int (g), .int (u)]) ++ List.replicate (3 - (lg_sl ([.ref (q 0), .int (g), .int (u)])).length) Slot.unset).toArray = ls at hl ⊢
  have hl : lv_has ls 3 [(0, .ref (q 0)), (1, .int (g)), (2, .int (u))] := hl
  refine lv_iload_n hx hb dX_hasPermissions_0 rfl (lv_at hl 2 rfl) ?_
  refine lv_aload_n hx hb dX_hasPermissions_1 rfl (lv_at hl 0 rfl) ?_
  refine va_get (D := D) (ci := 0) (v := .ref (q 4)) (C := RX) (T := TX) (N := 6) hx hb hts inX hown hK hP 0 rfl rfl 3 (by decide) (hts _ w_32) (fun _ h9 => h9) rfl dX_hasPermissions_2 ?_
  refine lv_iload_n hx hb dX_hasPermissions_5 rfl (lv_at hl 1 rfl) ?_
  refine va_iald hx hb hK hP 4 0 rfl rfl hg dX_hasPermissions_6 ?_
  refine lv_iconst (v := -1) hx hb dX_hasPermissions_7 (by decide) ?_
  refine lv_ixor hx hb dX_hasPermissions_8 ?_
  refine lv_iand hx hb dX_hasPermissions_9 ?_
  refine lv_if_ne (tgt := 17) hx hb dX_hasPermissions_10 (by decide) (fun h_1 => ?_) (fun h_1 => ?_)
  · 
    refine lv_iconst (v := 0) hx hb dX_hasPermissions_17 (by decide) ?_
    have e9 : (ga_pm u (P g.toNatClampNeg)) = false := by unfold ga_pm; exact decide_eq_false h_1
    refine W.eq (g2 := F0 m 18 ls [.int (bi (ga_pm u (P g.toNatClampNeg)))]) (by rw [e9]; rfl) ?_
    exact W.zret (v := bi (ga_pm u (P g.toNatClampNeg))) hx hb hr (bi_nar _) (fun t9 ht hW => ⟨rfl, ht⟩) (fun z hz => nomatch hz) dX_hasPermissions_18
  · 
    refine lv_iconst (v := 1) hx hb dX_hasPermissions_13 (by decide) ?_
    refine lv_goto (tgt := 18) hx hb dX_hasPermissions_14 (by decide) ?_
    have e9 : (ga_pm u (P g.toNatClampNeg)) = true := by unfold ga_pm; exact decide_eq_true h_1
    refine W.eq (g2 := F0 m 18 ls [.int (bi (ga_pm u (P g.toNatClampNeg)))]) (by rw [e9]; rfl) ?_
    exact W.zret (v := bi (ga_pm u (P g.toNatClampNeg))) hx hb hr (bi_nar _) (fun t9 ht hW => ⟨rfl, ht⟩) (fun z hz => nomatch hz) dX_hasPermissions_18

set_option maxRecDepth 100000 in
set_option maxHeartbeats 4000000 in
theorem mX_isInBounds (l : Launch) (D : va_G) (cI cZ : ClassId) (q : Nat → Nat) (A B T P Y : Nat → Int32) (G : Nat → Bool) (g a : Int32) (n : Nat) (hg : vp_in g 16) (hn : n < 1099511627776) : Met l yX_isInBounds (Cond.code yX_isInBounds cX_isInBounds 7 (some .boolean) :: gw) (rmk 1 0 0) (va_Pc [.ref (q 0), .int (g), .int (a), .long (lN n)] (rB D vwCl (xW cI cZ q A B T P Y G) (tsX cI cZ))) (k2_QcV (.int (bi (ga_in (B g.toNatClampNeg) (T g.toNatClampNeg) a n)))) 0 0 (fun _ => False) := by
  refine Met.ofW (cc := cX_isInBounds) (maxL := 7) (ret := (some .boolean)) (by decide) rfl ?_
  intro p e s m args below meth c s₁ B9 hml hv
  obtain ⟨rfl, hP, hK⟩ := hv
  have hx := B9.exec
  have hb := B9.bytes
  have hr := B9.returns
  have hts := fun (w : Cond) (h : w ∈ gw) => atoms_spec (ws := _ :: gw) B9.pre w (List.mem_cons_of_mem _ h)
  have hown : s.vm.findClass RX = some m.cls := findClass_of_methodNamed B9.named
  have hlocks := B9.notSynchronized
  have hl := lv_entry ([.ref (q 0), .int (g), .int (a), .long (lN n)]) (n := 7) (Nat.le_of_ble_eq_true rfl)
  rw [lg_entry_eq]
  generalize (lg_sl ([.ref (q 0), .int (g), .int (a), .long (lN n)]) ++ List.replicate (7 - (lg_sl ([.ref (q 0), .int (g), .int (a), .long (lN n)])).length) Slot.unset).toArray = ls at hl ⊢
  have hl : lv_has ls 7 [(0, .ref (q 0)), (1, .int (g)), (2, .int (a)), (3, .long (lN n))] := hl
  refine lv_iload_n hx hb dX_isInBounds_0 rfl (lv_at hl 2 rfl) ?_
  refine kr_S 1 (As := [.int (a)]) (rest := []) (r := .long (uw (a))) hx hb hml hown hts hl.1 (mX_unsigned l (a)) tt_stb trivial (gw_S w_70 w_71 w_14 w_72) (by decide) ⟨rfl, rfl⟩ ⟨Nat.le_of_ble_eq_true rfl, Nat.le_of_ble_eq_true rfl⟩ rfl rfl (Nat.le_of_ble_eq_true rfl) dX_isInBounds_1 ⟨Nat.zero_le _, Nat.zero_le _⟩ ?_
  refine lv_lstore hx hb dX_isInBounds_4 hl (by decide) rfl (fun ls hl => ?_)
  have hl : lv_has ls 7 [(5, .long (uw (a))), (0, .ref (q 0)), (1, .int (g)), (2, .int (a)), (3, .long (lN n))] := hl
  refine lv_lload hx hb dX_isInBounds_6 (lv_at hl 0 rfl) ?_
  refine lv_aload_n hx hb dX_isInBounds_8 rfl (lv_at hl 1 rfl) ?_
  refine va_get (D := D) (ci := 0) (v := .ref (q 2)) (C := RX) (T := TX) (N := 6) hx hb hts inX hown hK hP 0 rfl rfl 1 (by decide) (hts _ w_30) (fun _ h9 => h9) rfl dX_isInBounds_9 ?_
  refine lv_iload_n hx hb dX_isInBounds_12 rfl (lv_at hl 2 rfl) ?_
  refine va_iald hx hb hK hP 2 0 rfl rfl hg dX_isInBounds_13 ?_
  refine kr_S 1 (As := [.int (B g.toNatClampNeg)]) (rest := [.long (uw (a))]) (r := .long (uw (B g.toNatClampNeg))) hx hb hml hown hts hl.1 (mX_unsigned l (B g.toNatClampNeg)) tt_stb trivial (gw_S w_70 w_71 w_14 w_72) (by decide) ⟨rfl, rfl⟩ ⟨Nat.le_of_ble_eq_true rfl, Nat.le_of_ble_eq_true rfl⟩ rfl rfl (Nat.le_of_ble_eq_true rfl) dX_isInBounds_14 ⟨Nat.zero_le _, Nat.zero_le _⟩ ?_
  refine W.lcmp hx hb dX_isInBounds_17 ?_
  refine lv_if_lt (tgt := 42) hx hb dX_isInBounds_18 (by decide) (fun h_1 => ?_) (fun h_1 => ?_)
  · rw [lg_cmp_lt] at h_1
    refine lv_iconst (v := 0) hx hb dX_isInBounds_42 (by decide) ?_
    have e9 : (ga_in (B g.toNatClampNeg) (T g.toNatClampNeg) a n) = false := by unfold ga_in; rw [uw_lt] at h_1; simp; omega
    refine W.eq (g2 := F0 m 43 ls [.int (bi (ga_in (B g.toNatClampNeg) (T g.toNatClampNeg) a n))]) (by rw [e9]; rfl) ?_
    exact W.zret (v := bi (ga_in (B g.toNatClampNeg) (T g.toNatClampNeg) a n)) hx hb hr (bi_nar _) (fun t9 ht hW => ⟨rfl, ht⟩) (fun z hz => nomatch hz) dX_isInBounds_43
  · rw [lg_cmp_lt] at h_1
    refine lv_lload hx hb dX_isInBounds_21 (lv_at hl 0 rfl) ?_
    refine lv_lload_n hx hb dX_isInBounds_23 rfl (lv_at hl 4 rfl) ?_
    refine lv_ladd hx hb dX_isInBounds_24 ?_
    refine W.eq (g2 := F0 m 25 ls [.long (lN (un a + n))]) (by rw [show uw a = lN (un a) from rfl, lN_add]) ?_
    refine lv_aload_n hx hb dX_isInBounds_25 rfl (lv_at hl 1 rfl) ?_
    refine va_get (D := D) (ci := 0) (v := .ref (q 3)) (C := RX) (T := TX) (N := 6) hx hb hts inX hown hK hP 0 rfl rfl 2 (by decide) (hts _ w_31) (fun _ h9 => h9) rfl dX_isInBounds_26 ?_
    refine lv_iload_n hx hb dX_isInBounds_29 rfl (lv_at hl 2 rfl) ?_
    refine va_iald hx hb hK hP 3 0 rfl rfl hg dX_isInBounds_30 ?_
    refine kr_S 1 (As := [.int (T g.toNatClampNeg)]) (rest := [.long (lN (un a + n))]) (r := .long (uw (T g.toNatClampNeg))) hx hb hml hown hts hl.1 (mX_unsigned l (T g.toNatClampNeg)) tt_stb trivial (gw_S w_70 w_71 w_14 w_72) (by decide) ⟨rfl, rfl⟩ ⟨Nat.le_of_ble_eq_true rfl, Nat.le_of_ble_eq_true rfl⟩ rfl rfl (Nat.le_of_ble_eq_true rfl) dX_isInBounds_31 ⟨Nat.zero_le _, Nat.zero_le _⟩ ?_
    refine W.lcmp hx hb dX_isInBounds_34 ?_
    refine lv_if_gt (tgt := 42) hx hb dX_isInBounds_35 (by decide) (fun h_2 => ?_) (fun h_2 => ?_)
    · rw [lg_cmp_gt] at h_2
      refine lv_iconst (v := 0) hx hb dX_isInBounds_42 (by decide) ?_
      have e9 : (ga_in (B g.toNatClampNeg) (T g.toNatClampNeg) a n) = false := by unfold ga_in; rw [show uw (T g.toNatClampNeg) = lN (un (T g.toNatClampNeg)) from rfl, pk_lLT (Nat.lt_trans (un_lt _) (by decide)) (by have := un_lt a; omega)] at h_2; simp; omega
      refine W.eq (g2 := F0 m 43 ls [.int (bi (ga_in (B g.toNatClampNeg) (T g.toNatClampNeg) a n))]) (by rw [e9]; rfl) ?_
      exact W.zret (v := bi (ga_in (B g.toNatClampNeg) (T g.toNatClampNeg) a n)) hx hb hr (bi_nar _) (fun t9 ht hW => ⟨rfl, ht⟩) (fun z hz => nomatch hz) dX_isInBounds_43
    · rw [lg_cmp_gt] at h_2
      refine lv_iconst (v := 1) hx hb dX_isInBounds_38 (by decide) ?_
      refine lv_goto (tgt := 43) hx hb dX_isInBounds_39 (by decide) ?_
      have e9 : (ga_in (B g.toNatClampNeg) (T g.toNatClampNeg) a n) = true := by unfold ga_in; rw [uw_lt] at h_1; rw [show uw (T g.toNatClampNeg) = lN (un (T g.toNatClampNeg)) from rfl, pk_lLT (Nat.lt_trans (un_lt _) (by decide)) (by have := un_lt a; omega)] at h_2; simp; omega
      refine W.eq (g2 := F0 m 43 ls [.int (bi (ga_in (B g.toNatClampNeg) (T g.toNatClampNeg) a n))]) (by rw [e9]; rfl) ?_
      exact W.zret (v := bi (ga_in (B g.toNatClampNeg) (T g.toNatClampNeg) a n)) hx hb hr (bi_nar _) (fun t9 ht hW => ⟨rfl, ht⟩) (fun z hz => nomatch hz) dX_isInBounds_43

set_option maxRecDepth 100000 in
set_option maxHeartbeats 4000000 in
theorem mX_accessCause (l : Launch) (D : va_G) (cI cZ : ClassId) (q : Nat → Nat) (A B T P Y : Nat → Int32) (G : Nat → Bool) (g a : Int32) (n : Nat) (w : Int32) (hg : vp_in g 16) (hn : n < 2147483648) : Met l yX_accessCause (Cond.code yX_accessCause cX_accessCause 5 (some .int) :: gw) (rmk 2 0 0) (va_Pc [.ref (q 0), .int (g), .int (a), .int (nI n), .int (w)] (rB D vwCl (xW cI cZ q A B T P Y G) (tsX cI cZ))) (k2_QcV (.int (ga_acc B T P Y G g.toNatClampNeg a n w))) 0 0 (fun _ => False) := by
  refine Met.ofW (cc := cX_accessCause) (maxL := 5) (ret := (some .int)) (by decide) rfl ?_
  intro p e s m args below meth c s₁ B9 hml hv
  obtain ⟨rfl, hP, hK⟩ := hv
  have hx := B9.exec
  have hb := B9.bytes
  have hr := B9.returns
  have hts := fun (w : Cond) (h : w ∈ gw) => atoms_spec (ws := _ :: gw) B9.pre w (List.mem_cons_of_mem _ h)
  have hown : s.vm.findClass RX = some m.cls := findClass_of_methodNamed B9.named
  have hlocks := B9.notSynchronized
  have hl := lv_entry ([.ref (q 0), .int (g), .int (a), .int (nI n), .int (w)]) (n := 5) (Nat.le_of_ble_eq_true rfl)
  rw [lg_entry_eq]
  generalize (lg_sl ([.ref (q 0), .int (g), .int (a), .int (nI n), .int (w)]) ++ List.replicate (5 - (lg_sl ([.ref (q 0), .int (g), .int (a), .int (nI n), .int (w)])).length) Slot.unset).toArray = ls at hl ⊢
  have hl : lv_has ls 5 [(0, .ref (q 0)), (1, .int (g)), (2, .int (a)), (3, .int (nI n)), (4, .int (w))] := hl
  refine lv_aload_n hx hb dX_accessCause_0 rfl (lv_at hl 0 rfl) ?_
  refine va_get (D := D) (ci := 0) (v := .ref (q 6)) (C := RX) (T := TX) (N := 6) hx hb hts inX hown hK hP 0 rfl rfl 5 (by decide) (hts _ w_34) (fun _ h9 => h9) rfl dX_accessCause_1 ?_
  refine lv_iload_n hx hb dX_accessCause_4 rfl (lv_at hl 1 rfl) ?_
  refine va_zald hx hb hK hP 6 1 rfl rfl hg dX_accessCause_5 ?_
  refine W.eq (g2 := F0 m 6 ls [.int (bi (G g.toNatClampNeg))]) rfl ?_
  refine lv_if_ne (tgt := 11) hx hb dX_accessCause_6 (by decide) (fun h_1 => ?_) (fun h_1 => ?_)
  · have h_1 := bi_n h_1
    refine lv_aload_n hx hb dX_accessCause_11 rfl (lv_at hl 0 rfl) ?_
    refine lv_iload_n hx hb dX_accessCause_12 rfl (lv_at hl 1 rfl) ?_
    refine kr_V 1 (b := q 0) (As := [.int (g)]) (rest := []) (r := .int (bi (decide (¬ Y g.toNatClampNeg = 0)))) hx hb hml hown hts hl.1 (mX_isSealed l D cI cZ q A B T P Y G (g) hg) rB_stb ⟨hP, hK⟩ (gw_V w_58 w_60 w_1 w_14 w_61) (by decide) ⟨rfl, rfl⟩ ⟨Nat.le_of_ble_eq_true rfl, Nat.le_of_ble_eq_true rfl⟩ (va_recv hK hP (ci := 0) rfl (q0 := 0) rfl) rfl rfl (Nat.le_of_ble_eq_true rfl) dX_accessCause_13 ⟨Nat.zero_le _, Nat.zero_le _⟩ ?_
    refine lv_if_eq (tgt := 21) hx hb dX_accessCause_16 (by decide) (fun h_2 => ?_) (fun h_2 => ?_)
    · have h_2 := bi_0 h_2
      refine lv_aload_n hx hb dX_accessCause_21 rfl (lv_at hl 0 rfl) ?_
      refine lv_iload_n hx hb dX_accessCause_22 rfl (lv_at hl 1 rfl) ?_
      refine lv_iload hx hb dX_accessCause_23 (lv_at hl 4 rfl) ?_
      refine kr_V 2 (b := q 0) (As := [.int (g), .int (w)]) (rest := []) (r := .int (bi (ga_pm (w) (P g.toNatClampNeg)))) hx hb hml hown hts hl.1 (mX_hasPermissions l D cI cZ q A B T P Y G (g) (w) hg) rB_stb ⟨hP, hK⟩ (gw_V w_62 w_64 w_2 w_14 w_65) (by decide) ⟨rfl, rfl⟩ ⟨Nat.le_of_ble_eq_true rfl, Nat.le_of_ble_eq_true rfl⟩ (va_recv hK hP (ci := 0) rfl (q0 := 0) rfl) rfl rfl (Nat.le_of_ble_eq_true rfl) dX_accessCause_25 ⟨Nat.zero_le _, Nat.zero_le _⟩ ?_
      refine lv_if_ne (tgt := 33) hx hb dX_accessCause_28 (by decide) (fun h_3 => ?_) (fun h_3 => ?_)
      · have h_3 := bi_n h_3
        refine lv_aload_n hx hb dX_accessCause_33 rfl (lv_at hl 0 rfl) ?_
        refine lv_iload_n hx hb dX_accessCause_34 rfl (lv_at hl 1 rfl) ?_
        refine lv_iload_n hx hb dX_accessCause_35 rfl (lv_at hl 2 rfl) ?_
        refine lv_iload_n hx hb dX_accessCause_36 rfl (lv_at hl 3 rfl) ?_
        refine lv_i2l (v := lN n) hx hb dX_accessCause_37 (nI_l hn) ?_
        refine kr_V 3 (b := q 0) (As := [.int (g), .int (a), .long (lN n)]) (rest := []) (r := .int (bi (ga_in (B g.toNatClampNeg) (T g.toNatClampNeg) (a) (n)))) hx hb hml hown hts hl.1 (mX_isInBounds l D cI cZ q A B T P Y G (g) (a) (n) hg (by omega)) rB_stb ⟨hP, hK⟩ (gw_V w_66 w_68 w_3 w_14 w_69) (by decide) ⟨rfl, rfl⟩ ⟨Nat.le_of_ble_eq_true rfl, Nat.le_of_ble_eq_true rfl⟩ (va_recv hK hP (ci := 0) rfl (q0 := 0) rfl) rfl rfl (Nat.le_of_ble_eq_true rfl) dX_accessCause_38 ⟨Nat.zero_le _, Nat.zero_le _⟩ ?_
        refine lv_if_eq (tgt := 48) hx hb dX_accessCause_41 (by decide) (fun h_4 => ?_) (fun h_4 => ?_)
        · have h_4 := bi_0 h_4
          refine lv_iconst (v := 4) hx hb dX_accessCause_48 (by decide) ?_
          have e9 : (ga_acc B T P Y G g.toNatClampNeg a n w) = 4 := by (try simp only [decide_eq_true_eq, decide_eq_false_iff_not, Decidable.not_not] at h_1); (try simp only [decide_eq_true_eq, decide_eq_false_iff_not, Decidable.not_not] at h_2); (try simp only [decide_eq_true_eq, decide_eq_false_iff_not, Decidable.not_not] at h_3); (try simp only [decide_eq_true_eq, decide_eq_false_iff_not, Decidable.not_not] at h_4); unfold ga_acc; simp [h_1, h_2, h_3, h_4]
          refine W.eq (g2 := F0 m 49 ls [.int (ga_acc B T P Y G g.toNatClampNeg a n w)]) (by rw [e9]) ?_
          exact W.iret (v := ga_acc B T P Y G g.toNatClampNeg a n w) hx hb hr (fun t9 ht hW => ⟨rfl, ht⟩) (fun z hz => nomatch hz) dX_accessCause_49
        · have h_4 := bi_n h_4
          refine lv_iconst (v := 0) hx hb dX_accessCause_44 (by decide) ?_
          refine lv_goto (tgt := 49) hx hb dX_accessCause_45 (by decide) ?_
          have e9 : (ga_acc B T P Y G g.toNatClampNeg a n w) = 0 := by (try simp only [decide_eq_true_eq, decide_eq_false_iff_not, Decidable.not_not] at h_1); (try simp only [decide_eq_true_eq, decide_eq_false_iff_not, Decidable.not_not] at h_2); (try simp only [decide_eq_true_eq, decide_eq_false_iff_not, Decidable.not_not] at h_3); (try simp only [decide_eq_true_eq, decide_eq_false_iff_not, Decidable.not_not] at h_4); unfold ga_acc; simp [h_1, h_2, h_3, h_4]
          refine W.eq (g2 := F0 m 49 ls [.int (ga_acc B T P Y G g.toNatClampNeg a n w)]) (by rw [e9]) ?_
          exact W.iret (v := ga_acc B T P Y G g.toNatClampNeg a n w) hx hb hr (fun t9 ht hW => ⟨rfl, ht⟩) (fun z hz => nomatch hz) dX_accessCause_49
      · have h_3 := bi_0 h_3
        refine lv_iconst (v := 3) hx hb dX_accessCause_31 (by decide) ?_
        have e9 : (ga_acc B T P Y G g.toNatClampNeg a n w) = 3 := by (try simp only [decide_eq_true_eq, decide_eq_false_iff_not, Decidable.not_not] at h_1); (try simp only [decide_eq_true_eq, decide_eq_false_iff_not, Decidable.not_not] at h_2); (try simp only [decide_eq_true_eq, decide_eq_false_iff_not, Decidable.not_not] at h_3); unfold ga_acc; simp [h_1, h_2, h_3]
        refine W.eq (g2 := F0 m 32 ls [.int (ga_acc B T P Y G g.toNatClampNeg a n w)]) (by rw [e9]) ?_
        exact W.iret (v := ga_acc B T P Y G g.toNatClampNeg a n w) hx hb hr (fun t9 ht hW => ⟨rfl, ht⟩) (fun z hz => nomatch hz) dX_accessCause_32
    · have h_2 := bi_n h_2
      refine lv_iconst (v := 2) hx hb dX_accessCause_19 (by decide) ?_
      have e9 : (ga_acc B T P Y G g.toNatClampNeg a n w) = 2 := by (try simp only [decide_eq_true_eq, decide_eq_false_iff_not, Decidable.not_not] at h_1); (try simp only [decide_eq_true_eq, decide_eq_false_iff_not, Decidable.not_not] at h_2); unfold ga_acc; simp [h_1, h_2]
      refine W.eq (g2 := F0 m 20 ls [.int (ga_acc B T P Y G g.toNatClampNeg a n w)]) (by rw [e9]) ?_
      exact W.iret (v := ga_acc B T P Y G g.toNatClampNeg a n w) hx hb hr (fun t9 ht hW => ⟨rfl, ht⟩) (fun z hz => nomatch hz) dX_accessCause_20
  · have h_1 := bi_0 h_1
    refine lv_iconst (v := 1) hx hb dX_accessCause_9 (by decide) ?_
    have e9 : (ga_acc B T P Y G g.toNatClampNeg a n w) = 1 := by (try simp only [decide_eq_true_eq, decide_eq_false_iff_not, Decidable.not_not] at h_1); unfold ga_acc; simp [h_1]
    refine W.eq (g2 := F0 m 10 ls [.int (ga_acc B T P Y G g.toNatClampNeg a n w)]) (by rw [e9]) ?_
    exact W.iret (v := ga_acc B T P Y G g.toNatClampNeg a n w) hx hb hr (fun t9 ht hW => ⟨rfl, ht⟩) (fun z hz => nomatch hz) dX_accessCause_10

