/-! Contracts of the reference: its small methods. Laid by program (wip/whole/gen_m1.py). -/
section LPW
variable {p : Program} {l : Launch} {e : Env} {R : Room} {s : State} {m : MethodId} {args : Array Value} {below : List Frame} {meth : Method} {c : Code} {H : Heap} {locs : List Loc} {cells slots : Nat} {Q : State → Prop} {pc : Nat} {ls : Array Slot} {rest : List Value}
theorem lp_W (N : Nat) (Inv : Nat → Array Slot → Prop) (h0 : Inv 0 ls) (step : ∀ (k : Nat) (ls : Array Slot), k < N → Inv k ls → (∀ ls' : Array Slot, Inv (k + 1) ls' → W p l e R s m args below meth c H locs cells slots Q (F0 m pc ls' rest)) → W p l e R s m args below meth c H locs cells slots Q (F0 m pc ls rest))
    (last : ∀ ls : Array Slot, Inv N ls → W p l e R s m args below meth c H locs cells slots Q (F0 m pc ls rest)) : W p l e R s m args below meth c H locs cells slots Q (F0 m pc ls rest) := by
  have key : ∀ (d k : Nat) (ls : Array Slot), k + d = N → Inv k ls → W p l e R s m args below meth c H locs cells slots Q (F0 m pc ls rest) := by
    intro d
    induction d with
    | zero =>
      intro k ls hk hI
      obtain rfl : k = N := by omega
      exact last ls hI
    | succ d ih =>
      intro k ls hk hI
      exact step k ls (by omega) hI (fun ls' h => ih (k + 1) ls' (by omega) h)
  exact key N 0 ls (by omega) h0
end LPW
set_option maxRecDepth 100000 in
set_option maxHeartbeats 4000000 in
theorem mM_thrown (l : Launch) (D : va_G) (cJ cI cZ : ClassId) (q : Nat → Nat) (e0 : Int32) (A B T P Y : Nat → Int32) (G : Nat → Bool)  : Met l yM_thrown (Cond.code yM_thrown cM_thrown 1 (some .int) :: gw) (rmk 0 0 0) (va_Pc [.ref (q 0)] (rB D vwCl (mW cJ cI cZ q (e0) A B T P Y G) (tsM cJ cI cZ))) (k2_QcV (.int (e0))) 0 0 (fun _ => False) := by
  refine Met.ofW (cc := cM_thrown) (maxL := 1) (ret := (some .int)) (by decide) rfl ?_
  intro p e s m args below meth c s₁ B9 hml hv
  obtain ⟨rfl, hP, hK⟩ := hv
  have hx := B9.exec
  have hb := B9.bytes
  have hr := B9.returns
  have hts := fun (w : Cond) (h : w ∈ gw) => atoms_spec (ws := _ :: gw) B9.pre w (List.mem_cons_of_mem _ h)
  have hown : s.vm.findClass RM = some m.cls := findClass_of_methodNamed B9.named
  have hlocks := B9.notSynchronized
  have hl := lv_entry ([.ref (q 0)]) (n := 1) (Nat.le_of_ble_eq_true rfl)
  rw [lg_entry_eq]
  generalize (lg_sl ([.ref (q 0)]) ++ List.replicate (1 - (lg_sl ([.ref (q 0)])).length) Slot.unset).toArray = ls at hl ⊢
  have hl : lv_has ls 1 [(0, .ref (q 0))] := hl
  refine lv_aload_n hx hb dM_thrown_0 rfl (lv_at hl 0 rfl) ?_
  refine va_get (D := D) (ci := 1) (v := .int (e0)) (C := RM) (T := TM) (N := 7) hx hb hts inM hown hK hP 0 rfl rfl 0 (by decide) (hts _ w_255) (fun _ h9 => h9) rfl dM_thrown_1 ?_
  exact W.iret (v := e0) hx hb hr (fun t9 ht hW => ⟨rfl, ht⟩) (fun z hz => nomatch hz) dM_thrown_4

set_option maxRecDepth 100000 in
set_option maxHeartbeats 4000000 in
theorem mM_in (l : Launch) (a b d : Int64) : Met l yM_in (Cond.code yM_in cM_in 6 (some .boolean) :: gw) (rmk 0 0 0) (va_Pc [.long (a), .long (b), .long (d)] (fun _ => True)) (k2_QcV (.int (bi (decide (b ≤ a) && decide (a ≤ d))))) 0 0 (fun _ => False) := by
  refine Met.ofW (cc := cM_in) (maxL := 6) (ret := (some .boolean)) (by decide) rfl ?_
  intro p e s m args below meth c s₁ B9 hml hv
  obtain ⟨rfl, -⟩ := hv
  have hx := B9.exec
  have hb := B9.bytes
  have hr := B9.returns
  have hts := fun (w : Cond) (h : w ∈ gw) => atoms_spec (ws := _ :: gw) B9.pre w (List.mem_cons_of_mem _ h)
  have hown : s.vm.findClass RM = some m.cls := findClass_of_methodNamed B9.named
  have hlocks := B9.notSynchronized
  have hl := lv_entry ([.long (a), .long (b), .long (d)]) (n := 6) (Nat.le_of_ble_eq_true rfl)
  rw [lg_entry_eq]
  generalize (lg_sl ([.long (a), .long (b), .long (d)]) ++ List.replicate (6 - (lg_sl ([.long (a), .long (b), .long (d)])).length) Slot.unset).toArray = ls at hl ⊢
  have hl : lv_has ls 6 [(0, .long (a)), (2, .long (b)), (4, .long (d))] := hl
  refine lv_lload_n hx hb dM_in_0 rfl (lv_at hl 0 rfl) ?_
  refine lv_lload_n hx hb dM_in_1 rfl (lv_at hl 1 rfl) ?_
  refine W.lcmp hx hb dM_in_2 ?_
  refine lv_if_lt (tgt := 17) hx hb dM_in_3 (by decide) (fun h_1 => ?_) (fun h_1 => ?_)
  · rw [lg_cmp_lt] at h_1
    refine lv_iconst (v := 0) hx hb dM_in_17 (by decide) ?_
    have e9 : (decide (b ≤ a) && decide (a ≤ d)) = false := by have h_1 := Int64.not_le.mpr h_1; simp [h_1]
    refine W.eq (g2 := F0 m 18 ls [.int (bi (decide (b ≤ a) && decide (a ≤ d)))]) (by rw [e9]; rfl) ?_
    exact W.zret (v := bi (decide (b ≤ a) && decide (a ≤ d))) hx hb hr (bi_nar _) (fun t9 ht hW => ⟨rfl, ht⟩) (fun z hz => nomatch hz) dM_in_18
  · rw [lg_cmp_lt] at h_1
    refine lv_lload_n hx hb dM_in_6 rfl (lv_at hl 0 rfl) ?_
    refine lv_lload hx hb dM_in_7 (lv_at hl 2 rfl) ?_
    refine W.lcmp hx hb dM_in_9 ?_
    refine lv_if_gt (tgt := 17) hx hb dM_in_10 (by decide) (fun h_2 => ?_) (fun h_2 => ?_)
    · rw [lg_cmp_gt] at h_2
      refine lv_iconst (v := 0) hx hb dM_in_17 (by decide) ?_
      have e9 : (decide (b ≤ a) && decide (a ≤ d)) = false := by have h_1 := Int64.not_lt.mp h_1; have h_2 := Int64.not_le.mpr h_2; simp [h_1, h_2]
      refine W.eq (g2 := F0 m 18 ls [.int (bi (decide (b ≤ a) && decide (a ≤ d)))]) (by rw [e9]; rfl) ?_
      exact W.zret (v := bi (decide (b ≤ a) && decide (a ≤ d))) hx hb hr (bi_nar _) (fun t9 ht hW => ⟨rfl, ht⟩) (fun z hz => nomatch hz) dM_in_18
    · rw [lg_cmp_gt] at h_2
      refine lv_iconst (v := 1) hx hb dM_in_13 (by decide) ?_
      refine lv_goto (tgt := 18) hx hb dM_in_14 (by decide) ?_
      have e9 : (decide (b ≤ a) && decide (a ≤ d)) = true := by have h_1 := Int64.not_lt.mp h_1; have h_2 := Int64.not_lt.mp h_2; simp [h_1, h_2]
      refine W.eq (g2 := F0 m 18 ls [.int (bi (decide (b ≤ a) && decide (a ≤ d)))]) (by rw [e9]; rfl) ?_
      exact W.zret (v := bi (decide (b ≤ a) && decide (a ≤ d))) hx hb hr (bi_nar _) (fun t9 ht hW => ⟨rfl, ht⟩) (fun z hz => nomatch hz) dM_in_18

set_option maxRecDepth 100000 in
set_option maxHeartbeats 4000000 in
theorem mM_is (l : Launch) (g : Int32) : Met l yM_is (Cond.code yM_is cM_is 1 (some .boolean) :: gw) (rmk 1 0 0) (va_Pc [.int (g)] (fun _ => True)) (k2_QcV (.int (bi (gi g)))) 0 0 (fun _ => False) := by
  refine Met.ofW (cc := cM_is) (maxL := 1) (ret := (some .boolean)) (by decide) rfl ?_
  intro p e s m args below meth c s₁ B9 hml hv
  obtain ⟨rfl, -⟩ := hv
  have hx := B9.exec
  have hb := B9.bytes
  have hr := B9.returns
  have hts := fun (w : Cond) (h : w ∈ gw) => atoms_spec (ws := _ :: gw) B9.pre w (List.mem_cons_of_mem _ h)
  have hown : s.vm.findClass RM = some m.cls := findClass_of_methodNamed B9.named
  have hlocks := B9.notSynchronized
  have hl := lv_entry ([.int (g)]) (n := 1) (Nat.le_of_ble_eq_true rfl)
  rw [lg_entry_eq]
  generalize (lg_sl ([.int (g)]) ++ List.replicate (1 - (lg_sl ([.int (g)])).length) Slot.unset).toArray = ls at hl ⊢
  have hl : lv_has ls 1 [(0, .int (g))] := hl
  refine lv_iload_n hx hb dM_is_0 rfl (lv_at hl 0 rfl) ?_
  refine lv_i2l (v := (g).toInt64) hx hb dM_is_1 rfl ?_
  refine lv_lconst (v := 0) hx hb dM_is_2 (by decide) ?_
  refine lv_ldc2 (v := 15) hx hb hown (hts _ w_301) dM_is_3 ?_
  refine kr_S 3 (As := [.long ((g).toInt64), .long (0), .long (15)]) (rest := []) (r := .int (bi (decide ((0) ≤ ((g).toInt64)) && decide (((g).toInt64) ≤ (15))))) hx hb hml hown hts hl.1 (mM_in l ((g).toInt64) (0) (15)) tt_stb trivial (gw_S w_291 w_292 w_15 w_293) (by decide) ⟨rfl, rfl⟩ ⟨Nat.le_of_ble_eq_true rfl, Nat.le_of_ble_eq_true rfl⟩ rfl rfl (Nat.le_of_ble_eq_true rfl) dM_is_6 ⟨Nat.zero_le _, Nat.zero_le _⟩ ?_
  have e9 : bi (decide ((0) ≤ ((g).toInt64)) && decide (((g).toInt64) ≤ (15))) = bi (gi g) := by rfl
  refine W.eq (g2 := F0 m 9 ls [.int (bi (gi g))]) (by rw [e9]) ?_
  exact W.zret (v := bi (gi g)) hx hb hr (bi_nar _) (fun t9 ht hW => ⟨rfl, ht⟩) (fun z hz => nomatch hz) dM_is_9

set_option maxRecDepth 100000 in
set_option maxHeartbeats 4000000 in
theorem mM_wide (l : Launch) (v : Int32) : Met l yM_wide (Cond.code yM_wide cM_wide 1 (some .long) :: gw) (rmk 0 0 0) (va_Pc [.int (v)] (fun _ => True)) (k2_QcV (.long (uw (v)))) 0 0 (fun _ => False) := by
  refine Met.ofW (cc := cM_wide) (maxL := 1) (ret := (some .long)) (by decide) rfl ?_
  intro p e s m args below meth c s₁ B9 hml hv
  obtain ⟨rfl, -⟩ := hv
  have hx := B9.exec
  have hb := B9.bytes
  have hr := B9.returns
  have hts := fun (w : Cond) (h : w ∈ gw) => atoms_spec (ws := _ :: gw) B9.pre w (List.mem_cons_of_mem _ h)
  have hown : s.vm.findClass RM = some m.cls := findClass_of_methodNamed B9.named
  have hlocks := B9.notSynchronized
  have hl := lv_entry ([.int (v)]) (n := 1) (Nat.le_of_ble_eq_true rfl)
  rw [lg_entry_eq]
  generalize (lg_sl ([.int (v)]) ++ List.replicate (1 - (lg_sl ([.int (v)])).length) Slot.unset).toArray = ls at hl ⊢
  have hl : lv_has ls 1 [(0, .int (v))] := hl
  refine lv_iload_n hx hb dM_wide_0 rfl (lv_at hl 0 rfl) ?_
  refine lv_i2l (v := (v).toInt64) hx hb dM_wide_1 rfl ?_
  refine lv_ldc2 (v := 4294967296) hx hb hown (hts _ w_289) dM_wide_2 ?_
  refine lv_lrem hx hb dM_wide_5 (by decide) ?_
  refine lv_ldc2 (v := 4294967296) hx hb hown (hts _ w_289) dM_wide_6 ?_
  refine lv_ladd hx hb dM_wide_9 ?_
  refine lv_ldc2 (v := 4294967296) hx hb hown (hts _ w_289) dM_wide_10 ?_
  refine lv_lrem hx hb dM_wide_13 (by decide) ?_
  refine W.eq (g2 := F0 m 14 ls [.long (uw (v))]) (by rw [← uw_wide v] <;> rfl) ?_
  exact W.lret hx hb hr (fun t9 ht hW => ⟨rfl, ht⟩) (fun z hz => nomatch hz) dM_wide_14

set_option maxRecDepth 100000 in
set_option maxHeartbeats 4000000 in
theorem mM_isSealed (l : Launch) (D : va_G) (cJ cI cZ : ClassId) (q : Nat → Nat) (e0 : Int32) (A B T P Y : Nat → Int32) (G : Nat → Bool) (g : Int32) (hg : vp_in g 16) : Met l yM_isSealed (Cond.code yM_isSealed cM_isSealed 2 (some .boolean) :: gw) (rmk 0 0 0) (va_Pc [.ref (q 0), .int (g)] (rB D vwCl (mW cJ cI cZ q (e0) A B T P Y G) (tsM cJ cI cZ))) (k2_QcV (.int (bi (decide (¬ Y g.toNatClampNeg = 0))))) 0 0 (fun _ => False) := by
  refine Met.ofW (cc := cM_isSealed) (maxL := 2) (ret := (some .boolean)) (by decide) rfl ?_
  intro p e s m args below meth c s₁ B9 hml hv
  obtain ⟨rfl, hP, hK⟩ := hv
  have hx := B9.exec
  have hb := B9.bytes
  have hr := B9.returns
  have hts := fun (w : Cond) (h : w ∈ gw) => atoms_spec (ws := _ :: gw) B9.pre w (List.mem_cons_of_mem _ h)
  have hown : s.vm.findClass RM = some m.cls := findClass_of_methodNamed B9.named
  have hlocks := B9.notSynchronized
  have hl := lv_entry ([.ref (q 0), .int (g)]) (n := 2) (Nat.le_of_ble_eq_true rfl)
  rw [lg_entry_eq]
  generalize (lg_sl ([.ref (q 0), .int (g)]) ++ List.replicate (2 - (lg_sl ([.ref (q 0), .int (g)])).length) Slot.unset).toArray = ls at hl ⊢
  have hl : lv_has ls 2 [(0, .ref (q 0)), (1, .int (g))] := hl
  refine lv_aload_n hx hb dM_isSealed_0 rfl (lv_at hl 0 rfl) ?_
  refine va_get (D := D) (ci := 1) (v := .ref (q 5)) (C := RM) (T := TM) (N := 7) hx hb hts inM hown hK hP 0 rfl rfl 5 (by decide) (hts _ w_260) (fun _ h9 => h9) rfl dM_isSealed_1 ?_
  refine lv_iload_n hx hb dM_isSealed_4 rfl (lv_at hl 1 rfl) ?_
  refine va_iald hx hb hK hP 5 1 rfl rfl hg dM_isSealed_5 ?_
  refine lv_if_eq (tgt := 13) hx hb dM_isSealed_6 (by decide) (fun h_1 => ?_) (fun h_1 => ?_)
  · 
    refine lv_iconst (v := 0) hx hb dM_isSealed_13 (by decide) ?_
    have e9 : (decide (¬ Y g.toNatClampNeg = 0)) = false := by simp [h_1]
    refine W.eq (g2 := F0 m 14 ls [.int (bi (decide (¬ Y g.toNatClampNeg = 0)))]) (by rw [e9]; rfl) ?_
    exact W.zret (v := bi (decide (¬ Y g.toNatClampNeg = 0))) hx hb hr (bi_nar _) (fun t9 ht hW => ⟨rfl, ht⟩) (fun z hz => nomatch hz) dM_isSealed_14
  · 
    refine lv_iconst (v := 1) hx hb dM_isSealed_9 (by decide) ?_
    refine lv_goto (tgt := 14) hx hb dM_isSealed_10 (by decide) ?_
    have e9 : (decide (¬ Y g.toNatClampNeg = 0)) = true := by simp [h_1]
    refine W.eq (g2 := F0 m 14 ls [.int (bi (decide (¬ Y g.toNatClampNeg = 0)))]) (by rw [e9]; rfl) ?_
    exact W.zret (v := bi (decide (¬ Y g.toNatClampNeg = 0))) hx hb hr (bi_nar _) (fun t9 ht hW => ⟨rfl, ht⟩) (fun z hz => nomatch hz) dM_isSealed_14

set_option maxRecDepth 100000 in
set_option maxHeartbeats 4000000 in
theorem mM_fails_t (l : Launch) (D : va_G) (cJ cI cZ : ClassId) (q : Nat → Nat) (e0 : Int32) (A B T P Y : Nat → Int32) (G : Nat → Bool) (sz : Nat) (k9 : Int32) (hk9 : ¬ k9 = 0) : Met l yM_fails (Cond.code yM_fails cM_fails 3 (some .boolean) :: gw) (rmk 0 0 0) (va_Pc [.ref (q 0), .int (1), .int (k9)] (kB D vwCl (mW cJ cI cZ q (0) A B T P Y G) (tsM cJ cI cZ) sz)) (kQ (some (.int (1))) D vwCl (mW cJ cI cZ q (k9) A B T P Y G) (va_A (mW cJ cI cZ q (0) A B T P Y G) sz)) 0 0 (va_A (mW cJ cI cZ q (0) A B T P Y G) sz) := by
  refine Met.ofW (cc := cM_fails) (maxL := 3) (ret := (some .boolean)) (by decide) rfl ?_
  intro p e s m args below meth c s₁ B9 hml hv
  obtain ⟨rfl, hsz, hP, hK, hD0⟩ := hv
  have hx := B9.exec
  have hb := B9.bytes
  have hr := B9.returns
  have hts := fun (w : Cond) (h : w ∈ gw) => atoms_spec (ws := _ :: gw) B9.pre w (List.mem_cons_of_mem _ h)
  have hown : s.vm.findClass RM = some m.cls := findClass_of_methodNamed B9.named
  have hlocks := B9.notSynchronized
  have hl := lv_entry ([.ref (q 0), .int (1), .int (k9)]) (n := 3) (Nat.le_of_ble_eq_true rfl)
  rw [lg_entry_eq]
  generalize (lg_sl ([.ref (q 0), .int (1), .int (k9)]) ++ List.replicate (3 - (lg_sl ([.ref (q 0), .int (1), .int (k9)])).length) Slot.unset).toArray = ls at hl ⊢
  have hl : lv_has ls 3 [(0, .ref (q 0)), (1, .int (1)), (2, .int (k9))] := hl
  subst hsz
  have hD := hD0.self (sz := s.heap.size)
  generalize hAe : va_A (mW cJ cI cZ q (0) A B T P Y G) s.heap.size = A9 at hD ⊢
  have hA : ∀ z : Nat, s.heap.size ≤ z → A9 z := fun z h => by rw [← hAe]; exact Or.inr h
  have hS : va_S A9 s.heap s.heap [] := va_S.rf
  have hP : va_P D vwCl (mW cJ cI cZ q (0) A B T P Y G) s.heap := hP
  refine lv_iload_n hx hb dM_fails_0 rfl (lv_at hl 1 rfl) ?_
  refine lv_if_eq (tgt := 16) hx hb dM_fails_1 (by decide) (fun h_1 => absurd h_1 (by decide)) (fun h_1 => ?_)
  refine lv_aload_n hx hb dM_fails_4 rfl (lv_at hl 0 rfl) ?_
  refine va_get (D := D) (ci := 1) (v := .int (0)) (C := RM) (T := TM) (N := 7) hx hb hts inM hown hK hP 0 rfl rfl 0 (by decide) (hts _ w_255) (fun _ h9 => h9) rfl dM_fails_5 ?_
  refine lv_if_ne (tgt := 16) hx hb dM_fails_8 (by decide) (fun h_2 => absurd (by decide) h_2) (fun h_2 => ?_)
  refine lv_aload_n hx hb dM_fails_11 rfl (lv_at hl 0 rfl) ?_
  refine lv_iload_n hx hb dM_fails_12 rfl (lv_at hl 2 rfl) ?_
  refine va_put (D := D) (ci := 1) (v := .int (k9)) (ty := .int) (C := RM) (T := TM) (N := 7) hx hb hts inM tyM tyM_ok nmM hown hK hP hD hS 0 rfl rfl 0 (by decide) (hts _ w_255) (fun _ h9 => h9) rfl (by decide +kernel) rfl rfl (Nat.le_of_ble_eq_true rfl) dM_fails_13 (fun H locs hP hD hS => ?_)
  have hP : va_P D vwCl (mW cJ cI cZ q (k9) A B T P Y G) H := hP
  have hD : va_D A9 (mW cJ cI cZ q (k9) A B T P Y G) := hD
  refine lv_aload_n hx hb dM_fails_16 rfl (lv_at hl 0 rfl) ?_
  refine va_get (D := D) (ci := 1) (v := .int (k9)) (C := RM) (T := TM) (N := 7) hx hb hts inM hown hK hP 0 rfl rfl 0 (by decide) (hts _ w_255) (fun _ h9 => h9) rfl dM_fails_17 ?_
  refine lv_if_eq (tgt := 27) hx hb dM_fails_20 (by decide) (fun h_3 => absurd h_3 hk9) (fun h_3 => ?_)
  refine lv_iconst (v := 1) hx hb dM_fails_23 (by decide) ?_
  refine lv_goto (tgt := 28) hx hb dM_fails_24 (by decide) ?_
  exact W.zret (v := 1) hx hb hr rfl (fun t9 ht hW => ⟨rfl, by rw [ht]; exact hP, hD, hS.F ht⟩) hS.2.2 dM_fails_28

set_option maxRecDepth 100000 in
set_option maxHeartbeats 4000000 in
theorem mM_fails_f (l : Launch) (D : va_G) (cJ cI cZ : ClassId) (q : Nat → Nat) (e0 : Int32) (A B T P Y : Nat → Int32) (G : Nat → Bool) (sz : Nat) (k9 : Int32) : Met l yM_fails (Cond.code yM_fails cM_fails 3 (some .boolean) :: gw) (rmk 0 0 0) (va_Pc [.ref (q 0), .int (0), .int (k9)] (kB D vwCl (mW cJ cI cZ q (0) A B T P Y G) (tsM cJ cI cZ) sz)) (kQ (some (.int (0))) D vwCl (mW cJ cI cZ q (0) A B T P Y G) (va_A (mW cJ cI cZ q (0) A B T P Y G) sz)) 0 0 (va_A (mW cJ cI cZ q (0) A B T P Y G) sz) := by
  refine Met.ofW (cc := cM_fails) (maxL := 3) (ret := (some .boolean)) (by decide) rfl ?_
  intro p e s m args below meth c s₁ B9 hml hv
  obtain ⟨rfl, hsz, hP, hK, hD0⟩ := hv
  have hx := B9.exec
  have hb := B9.bytes
  have hr := B9.returns
  have hts := fun (w : Cond) (h : w ∈ gw) => atoms_spec (ws := _ :: gw) B9.pre w (List.mem_cons_of_mem _ h)
  have hown : s.vm.findClass RM = some m.cls := findClass_of_methodNamed B9.named
  have hlocks := B9.notSynchronized
  have hl := lv_entry ([.ref (q 0), .int (0), .int (k9)]) (n := 3) (Nat.le_of_ble_eq_true rfl)
  rw [lg_entry_eq]
  generalize (lg_sl ([.ref (q 0), .int (0), .int (k9)]) ++ List.replicate (3 - (lg_sl ([.ref (q 0), .int (0), .int (k9)])).length) Slot.unset).toArray = ls at hl ⊢
  have hl : lv_has ls 3 [(0, .ref (q 0)), (1, .int (0)), (2, .int (k9))] := hl
  subst hsz
  have hD := hD0.self (sz := s.heap.size)
  generalize hAe : va_A (mW cJ cI cZ q (0) A B T P Y G) s.heap.size = A9 at hD ⊢
  have hA : ∀ z : Nat, s.heap.size ≤ z → A9 z := fun z h => by rw [← hAe]; exact Or.inr h
  have hS : va_S A9 s.heap s.heap [] := va_S.rf
  have hP : va_P D vwCl (mW cJ cI cZ q (0) A B T P Y G) s.heap := hP
  refine lv_iload_n hx hb dM_fails_0 rfl (lv_at hl 1 rfl) ?_
  refine lv_if_eq (tgt := 16) hx hb dM_fails_1 (by decide) (fun h_1 => ?_) (fun h_1 => absurd (by decide) h_1)
  refine lv_aload_n hx hb dM_fails_16 rfl (lv_at hl 0 rfl) ?_
  refine va_get (D := D) (ci := 1) (v := .int (0)) (C := RM) (T := TM) (N := 7) hx hb hts inM hown hK hP 0 rfl rfl 0 (by decide) (hts _ w_255) (fun _ h9 => h9) rfl dM_fails_17 ?_
  refine lv_if_eq (tgt := 27) hx hb dM_fails_20 (by decide) (fun h_2 => ?_) (fun h_2 => absurd (by decide) h_2)
  refine lv_iconst (v := 0) hx hb dM_fails_27 (by decide) ?_
  exact W.zret (v := 0) hx hb hr rfl (fun t9 ht hW => ⟨rfl, by rw [ht]; exact hP, hD, hS.F ht⟩) hS.2.2 dM_fails_28

set_option maxRecDepth 100000 in
set_option maxHeartbeats 4000000 in
theorem mM_give (l : Launch) (D : va_G) (cJ cI cZ : ClassId) (q : Nat → Nat) (e0 : Int32) (A B T P Y : Nat → Int32) (G : Nat → Bool) (sz : Nat) (ri a b t v y : Int32) (g : Bool) (hri : vp_in ri 16) : Met l yM_give (Cond.code yM_give cM_give 11 none :: gw) (rmk 0 0 0) (va_Pc [.ref (q 0), .int (ri), .long (uw (a)), .long (uw (b)), .long (uw (t)), .int (v), .int (y), .int (bi (g))] (kB D vwCl (mW cJ cI cZ q (e0) A B T P Y G) (tsM cJ cI cZ) sz)) (kQ none D vwCl (mW cJ cI cZ q (e0) (upd A ri.toNatClampNeg (a)) (upd B ri.toNatClampNeg (b)) (upd T ri.toNatClampNeg (t)) (upd P ri.toNatClampNeg (v)) (upd Y ri.toNatClampNeg (y)) (ub G ri.toNatClampNeg (g))) (va_A (mW cJ cI cZ q (e0) A B T P Y G) sz)) 0 0 (va_A (mW cJ cI cZ q (e0) A B T P Y G) sz) := by
  refine Met.ofW (cc := cM_give) (maxL := 11) (ret := none) (by decide) rfl ?_
  intro p e s m args below meth c s₁ B9 hml hv
  obtain ⟨rfl, hsz, hP, hK, hD0⟩ := hv
  have hx := B9.exec
  have hb := B9.bytes
  have hr := B9.returns
  have hts := fun (w : Cond) (h : w ∈ gw) => atoms_spec (ws := _ :: gw) B9.pre w (List.mem_cons_of_mem _ h)
  have hown : s.vm.findClass RM = some m.cls := findClass_of_methodNamed B9.named
  have hlocks := B9.notSynchronized
  have hl := lv_entry ([.ref (q 0), .int (ri), .long (uw (a)), .long (uw (b)), .long (uw (t)), .int (v), .int (y), .int (bi (g))]) (n := 11) (Nat.le_of_ble_eq_true rfl)
  rw [lg_entry_eq]
  generalize (lg_sl ([.ref (q 0), .int (ri), .long (uw (a)), .long (uw (b)), .long (uw (t)), .int (v), .int (y), .int (bi (g))]) ++ List.replicate (11 - (lg_sl ([.ref (q 0), .int (ri), .long (uw (a)), .long (uw (b)), .long (uw (t)), .int (v), .int (y), .int (bi (g))])).length) Slot.unset).toArray = ls at hl ⊢
  have hl : lv_has ls 11 [(0, .ref (q 0)), (1, .int (ri)), (2, .long (uw (a))), (4, .long (uw (b))), (6, .long (uw (t))), (8, .int (v)), (9, .int (y)), (10, .int (bi (g)))] := hl
  subst hsz
  have hD := hD0.self (sz := s.heap.size)
  generalize hAe : va_A (mW cJ cI cZ q (e0) A B T P Y G) s.heap.size = A9 at hD ⊢
  have hA : ∀ z : Nat, s.heap.size ≤ z → A9 z := fun z h => by rw [← hAe]; exact Or.inr h
  have hS : va_S A9 s.heap s.heap [] := va_S.rf
  have hP : va_P D vwCl (mW cJ cI cZ q (e0) A B T P Y G) s.heap := hP
  refine lv_aload_n hx hb dM_give_0 rfl (lv_at hl 0 rfl) ?_
  refine va_get (D := D) (ci := 1) (v := .ref (q 1)) (C := RM) (T := TM) (N := 7) hx hb hts inM hown hK hP 0 rfl rfl 1 (by decide) (hts _ w_256) (fun _ h9 => h9) rfl dM_give_1 ?_
  refine lv_iload_n hx hb dM_give_4 rfl (lv_at hl 1 rfl) ?_
  refine lv_lload_n hx hb dM_give_5 rfl (lv_at hl 2 rfl) ?_
  refine va_last hx hb hK hP hD hS 1 0 rfl rfl hri dM_give_6 (fun H locs hP hD hS => ?_)
  have hP : va_P D vwCl (mW cJ cI cZ q (e0) (upd A ri.toNatClampNeg (a)) B T P Y G) H := by rw [uw_upd] at hP; exact hP
  have hD : va_D A9 (mW cJ cI cZ q (e0) (upd A ri.toNatClampNeg (a)) B T P Y G) := by rw [uw_upd] at hD; exact hD
  refine lv_aload_n hx hb dM_give_7 rfl (lv_at hl 0 rfl) ?_
  refine va_get (D := D) (ci := 1) (v := .ref (q 2)) (C := RM) (T := TM) (N := 7) hx hb hts inM hown hK hP 0 rfl rfl 2 (by decide) (hts _ w_257) (fun _ h9 => h9) rfl dM_give_8 ?_
  refine lv_iload_n hx hb dM_give_11 rfl (lv_at hl 1 rfl) ?_
  refine lv_lload hx hb dM_give_12 (lv_at hl 3 rfl) ?_
  refine va_last hx hb hK hP hD hS 2 0 rfl rfl hri dM_give_14 (fun H locs hP hD hS => ?_)
  have hP : va_P D vwCl (mW cJ cI cZ q (e0) (upd A ri.toNatClampNeg (a)) (upd B ri.toNatClampNeg (b)) T P Y G) H := by rw [uw_upd] at hP; exact hP
  have hD : va_D A9 (mW cJ cI cZ q (e0) (upd A ri.toNatClampNeg (a)) (upd B ri.toNatClampNeg (b)) T P Y G) := by rw [uw_upd] at hD; exact hD
  refine lv_aload_n hx hb dM_give_15 rfl (lv_at hl 0 rfl) ?_
  refine va_get (D := D) (ci := 1) (v := .ref (q 3)) (C := RM) (T := TM) (N := 7) hx hb hts inM hown hK hP 0 rfl rfl 3 (by decide) (hts _ w_258) (fun _ h9 => h9) rfl dM_give_16 ?_
  refine lv_iload_n hx hb dM_give_19 rfl (lv_at hl 1 rfl) ?_
  refine lv_lload hx hb dM_give_20 (lv_at hl 4 rfl) ?_
  refine va_last hx hb hK hP hD hS 3 0 rfl rfl hri dM_give_22 (fun H locs hP hD hS => ?_)
  have hP : va_P D vwCl (mW cJ cI cZ q (e0) (upd A ri.toNatClampNeg (a)) (upd B ri.toNatClampNeg (b)) (upd T ri.toNatClampNeg (t)) P Y G) H := by rw [uw_upd] at hP; exact hP
  have hD : va_D A9 (mW cJ cI cZ q (e0) (upd A ri.toNatClampNeg (a)) (upd B ri.toNatClampNeg (b)) (upd T ri.toNatClampNeg (t)) P Y G) := by rw [uw_upd] at hD; exact hD
  refine lv_aload_n hx hb dM_give_23 rfl (lv_at hl 0 rfl) ?_
  refine va_get (D := D) (ci := 1) (v := .ref (q 4)) (C := RM) (T := TM) (N := 7) hx hb hts inM hown hK hP 0 rfl rfl 4 (by decide) (hts _ w_259) (fun _ h9 => h9) rfl dM_give_24 ?_
  refine lv_iload_n hx hb dM_give_27 rfl (lv_at hl 1 rfl) ?_
  refine lv_iload hx hb dM_give_28 (lv_at hl 5 rfl) ?_
  refine va_iast hx hb hK hP hD hS 4 1 rfl rfl hri dM_give_30 (fun H locs hP hD hS => ?_)
  have hP : va_P D vwCl (mW cJ cI cZ q (e0) (upd A ri.toNatClampNeg (a)) (upd B ri.toNatClampNeg (b)) (upd T ri.toNatClampNeg (t)) (upd P ri.toNatClampNeg (v)) Y G) H := hP
  have hD : va_D A9 (mW cJ cI cZ q (e0) (upd A ri.toNatClampNeg (a)) (upd B ri.toNatClampNeg (b)) (upd T ri.toNatClampNeg (t)) (upd P ri.toNatClampNeg (v)) Y G) := hD
  refine lv_aload_n hx hb dM_give_31 rfl (lv_at hl 0 rfl) ?_
  refine va_get (D := D) (ci := 1) (v := .ref (q 5)) (C := RM) (T := TM) (N := 7) hx hb hts inM hown hK hP 0 rfl rfl 5 (by decide) (hts _ w_260) (fun _ h9 => h9) rfl dM_give_32 ?_
  refine lv_iload_n hx hb dM_give_35 rfl (lv_at hl 1 rfl) ?_
  refine lv_iload hx hb dM_give_36 (lv_at hl 6 rfl) ?_
  refine va_iast hx hb hK hP hD hS 5 1 rfl rfl hri dM_give_38 (fun H locs hP hD hS => ?_)
  have hP : va_P D vwCl (mW cJ cI cZ q (e0) (upd A ri.toNatClampNeg (a)) (upd B ri.toNatClampNeg (b)) (upd T ri.toNatClampNeg (t)) (upd P ri.toNatClampNeg (v)) (upd Y ri.toNatClampNeg (y)) G) H := hP
  have hD : va_D A9 (mW cJ cI cZ q (e0) (upd A ri.toNatClampNeg (a)) (upd B ri.toNatClampNeg (b)) (upd T ri.toNatClampNeg (t)) (upd P ri.toNatClampNeg (v)) (upd Y ri.toNatClampNeg (y)) G) := hD
  refine lv_aload_n hx hb dM_give_39 rfl (lv_at hl 0 rfl) ?_
  refine va_get (D := D) (ci := 1) (v := .ref (q 6)) (C := RM) (T := TM) (N := 7) hx hb hts inM hown hK hP 0 rfl rfl 6 (by decide) (hts _ w_261) (fun _ h9 => h9) rfl dM_give_40 ?_
  refine lv_iload_n hx hb dM_give_43 rfl (lv_at hl 1 rfl) ?_
  refine lv_iload hx hb dM_give_44 (lv_at hl 7 rfl) ?_
  refine va_zast hx hb hK hP hD hS 6 2 rfl rfl hri dM_give_46 (fun H locs hP hD hS => ?_)
  have hP : va_P D vwCl (mW cJ cI cZ q (e0) (upd A ri.toNatClampNeg (a)) (upd B ri.toNatClampNeg (b)) (upd T ri.toNatClampNeg (t)) (upd P ri.toNatClampNeg (v)) (upd Y ri.toNatClampNeg (y)) (ub G ri.toNatClampNeg (g))) H := by rw [ub_upd] at hP; exact hP
  have hD : va_D A9 (mW cJ cI cZ q (e0) (upd A ri.toNatClampNeg (a)) (upd B ri.toNatClampNeg (b)) (upd T ri.toNatClampNeg (t)) (upd P ri.toNatClampNeg (v)) (upd Y ri.toNatClampNeg (y)) (ub G ri.toNatClampNeg (g))) := by rw [ub_upd] at hD; exact hD
  exact W.vret hx hb hr (fun t9 ht hW => ⟨rfl, by rw [ht]; exact hP, hD, hS.F ht⟩) hS.2.2 dM_give_47

set_option maxRecDepth 100000 in
set_option maxHeartbeats 4000000 in
theorem mM_may (l : Launch) (D : va_G) (cJ cI cZ : ClassId) (q : Nat → Nat) (e0 : Int32) (A B T P Y : Nat → Int32) (G : Nat → Bool) (g u : Int32) (hg : vp_in g 16) : Met l yM_may (Cond.code yM_may cM_may 4 (some .boolean) :: gw) (rmk 0 0 0) (va_Pc [.ref (q 0), .int (g), .int (u)] (rB D vwCl (mW cJ cI cZ q (e0) A B T P Y G) (tsM cJ cI cZ))) (k2_QcV (.int (bi (ga_pm u (P g.toNatClampNeg))))) 0 0 (fun _ => False) := by
  refine Met.ofW (cc := cM_may) (maxL := 4) (ret := (some .boolean)) (by decide) rfl ?_
  intro p e s m args below meth c s₁ B9 hml hv
  obtain ⟨rfl, hP, hK⟩ := hv
  have hx := B9.exec
  have hb := B9.bytes
  have hr := B9.returns
  have hts := fun (w : Cond) (h : w ∈ gw) => atoms_spec (ws := _ :: gw) B9.pre w (List.mem_cons_of_mem _ h)
  have hown : s.vm.findClass RM = some m.cls := findClass_of_methodNamed B9.named
  have hlocks := B9.notSynchronized
  have hl := lv_entry ([.ref (q 0), .int (g), .int (u)]) (n := 4) (Nat.le_of_ble_eq_true rfl)
  rw [lg_entry_eq]
  generalize (lg_sl ([.ref (q 0), .int (g), .int (u)]) ++ List.replicate (4 - (lg_sl ([.ref (q 0), .int (g), .int (u)])).length) Slot.unset).toArray = ls at hl ⊢
  have hl : lv_has ls 4 [(0, .ref (q 0)), (1, .int (g)), (2, .int (u))] := hl
  refine lv_iconst (v := 0) hx hb dM_may_0 (by decide) ?_
  refine lv_istore_n hx hb dM_may_1 rfl hl (by decide) rfl (fun ls hl => ?_)
  have hl : lv_has ls 4 [(3, .int (0)), (0, .ref (q 0)), (1, .int (g)), (2, .int (u))] := hl
  refine lp_W 32 (fun k ls => lv_has ls 4 [(3, .int (nI k)), (0, .ref (q 0)), (1, .int (g)), (2, .int (u))] ∧ ∀ j, j < k → bt u j = true → bt (P g.toNatClampNeg) j = true) ⟨lv_sub hl [0, 1, 2, 3] rfl, fun j h => absurd h (Nat.not_lt_zero j)⟩ (fun k ls hk hI ih => ?_) (fun ls hI => ?_)
  · obtain ⟨hl, hI⟩ := hI
    refine lv_iload_n hx hb dM_may_2 rfl (lv_at hl 0 rfl) ?_
    refine lv_bipush (v := 32) hx hb dM_may_3 (by decide) ?_
    refine lv_icmp_ge (tgt := 38) hx hb dM_may_5 (by decide) (fun h_1 => absurd h_1 (show ¬ (32 : Int32) ≤ nI k from nI_ge (a := k) (b := 32) hk (by decide))) (fun h_1 => ?_)
    refine lv_iload_n hx hb dM_may_8 rfl (lv_at hl 3 rfl) ?_
    refine lv_iload_n hx hb dM_may_9 rfl (lv_at hl 0 rfl) ?_
    refine lv_ishr hx hb dM_may_10 ?_
    refine lv_iconst (v := 1) hx hb dM_may_11 (by decide) ?_
    refine lv_iand hx hb dM_may_12 ?_
    refine lv_iconst (v := 1) hx hb dM_may_13 (by decide) ?_
    refine lv_icmp_ne (tgt := 32) hx hb dM_may_14 (by decide) (fun h_2 => ?_) (fun h_2 => ?_)
    · 
      refine lv_iinc (k := 0) (v := nI (k + 1)) hx hb dM_may_32 hl rfl (nI_succ k).symm (by decide) rfl (fun ls hl => ?_)
      have hl : lv_has ls 4 [(3, .int (nI (k + 1))), (0, .ref (q 0)), (1, .int (g)), (2, .int (u))] := hl
      refine lv_goto (tgt := 2) hx hb dM_may_35 (by decide) ?_
      refine ih _ ⟨lv_sub hl [0, 1, 2, 3] rfl, fun j hj hj2 => ?_⟩
      rcases Nat.lt_or_ge j k with h9 | h9
      · exact hI j h9 hj2
      · obtain rfl : j = k := by omega
        exact absurd ((bq_1 u hk).mpr hj2) h_2
    · 
      refine lv_aload_n hx hb dM_may_17 rfl (lv_at hl 1 rfl) ?_
      refine va_get (D := D) (ci := 1) (v := .ref (q 4)) (C := RM) (T := TM) (N := 7) hx hb hts inM hown hK hP 0 rfl rfl 4 (by decide) (hts _ w_259) (fun _ h9 => h9) rfl dM_may_18 ?_
      refine lv_iload_n hx hb dM_may_21 rfl (lv_at hl 2 rfl) ?_
      refine va_iald hx hb hK hP 4 1 rfl rfl hg dM_may_22 ?_
      refine lv_iload_n hx hb dM_may_23 rfl (lv_at hl 0 rfl) ?_
      refine lv_ishr hx hb dM_may_24 ?_
      refine lv_iconst (v := 1) hx hb dM_may_25 (by decide) ?_
      refine lv_iand hx hb dM_may_26 ?_
      refine lv_if_ne (tgt := 32) hx hb dM_may_27 (by decide) (fun h_3 => ?_) (fun h_3 => ?_)
      · 
        refine lv_iinc (k := 0) (v := nI (k + 1)) hx hb dM_may_32 hl rfl (nI_succ k).symm (by decide) rfl (fun ls hl => ?_)
        have hl : lv_has ls 4 [(3, .int (nI (k + 1))), (0, .ref (q 0)), (1, .int (g)), (2, .int (u))] := hl
        refine lv_goto (tgt := 2) hx hb dM_may_35 (by decide) ?_
        refine ih _ ⟨lv_sub hl [0, 1, 2, 3] rfl, fun j hj hj2 => ?_⟩
        rcases Nat.lt_or_ge j k with h9 | h9
        · exact hI j h9 hj2
        · obtain rfl : j = k := by omega
          cases hbb : bt (P g.toNatClampNeg) j
          · exact absurd ((bq_0 (P g.toNatClampNeg) hk).mpr hbb) h_3
          · rfl
      · 
        refine lv_iconst (v := 0) hx hb dM_may_30 (by decide) ?_
        have e9 : (ga_pm u (P g.toNatClampNeg)) = false := by
          cases hpm : ga_pm u (P g.toNatClampNeg)
          · rfl
          · exact absurd ((pm_bits _ _).mp hpm k hk ((bq_1 u hk).mp h_2)) (by rw [(bq_0 (P g.toNatClampNeg) hk).mp h_3]; decide)
        refine W.eq (g2 := F0 m 31 ls [.int (bi (ga_pm u (P g.toNatClampNeg)))]) (by rw [e9]; rfl) ?_
        exact W.zret (v := bi (ga_pm u (P g.toNatClampNeg))) hx hb hr (bi_nar _) (fun t9 ht hW => ⟨rfl, ht⟩) (fun z hz => nomatch hz) dM_may_31
  · obtain ⟨hl, hI⟩ := hI
    refine lv_iload_n hx hb dM_may_2 rfl (lv_at hl 0 rfl) ?_
    refine lv_bipush (v := 32) hx hb dM_may_3 (by decide) ?_
    refine lv_icmp_ge (tgt := 38) hx hb dM_may_5 (by decide) (fun h_4 => ?_) (fun h_4 => absurd (by decide) h_4)
    refine lv_iconst (v := 1) hx hb dM_may_38 (by decide) ?_
    have e9 : (ga_pm u (P g.toNatClampNeg)) = true := by (exact (pm_bits _ _).mpr hI)
    refine W.eq (g2 := F0 m 39 ls [.int (bi (ga_pm u (P g.toNatClampNeg)))]) (by rw [e9]; rfl) ?_
    exact W.zret (v := bi (ga_pm u (P g.toNatClampNeg))) hx hb hr (bi_nar _) (fun t9 ht hW => ⟨rfl, ht⟩) (fun z hz => nomatch hz) dM_may_39

set_option maxRecDepth 100000 in
set_option maxHeartbeats 4000000 in
theorem mM_holds (l : Launch) (D : va_G) (cJ cI cZ : ClassId) (q : Nat → Nat) (e0 : Int32) (A B T P Y : Nat → Int32) (G : Nat → Bool) (g a : Int32) (n : Nat) (hg : vp_in g 16) (hn : n < 1099511627776) : Met l yM_holds (Cond.code yM_holds cM_holds 9 (some .boolean) :: gw) (rmk 0 0 0) (va_Pc [.ref (q 0), .int (g), .long (uw (a)), .long (lN n)] (rB D vwCl (mW cJ cI cZ q (e0) A B T P Y G) (tsM cJ cI cZ))) (k2_QcV (.int (bi (ga_in (B g.toNatClampNeg) (T g.toNatClampNeg) a n)))) 0 0 (fun _ => False) := by
  refine Met.ofW (cc := cM_holds) (maxL := 9) (ret := (some .boolean)) (by decide) rfl ?_
  intro p e s m args below meth c s₁ B9 hml hv
  obtain ⟨rfl, hP, hK⟩ := hv
  have hx := B9.exec
  have hb := B9.bytes
  have hr := B9.returns
  have hts := fun (w : Cond) (h : w ∈ gw) => atoms_spec (ws := _ :: gw) B9.pre w (List.mem_cons_of_mem _ h)
  have hown : s.vm.findClass RM = some m.cls := findClass_of_methodNamed B9.named
  have hlocks := B9.notSynchronized
  have hl := lv_entry ([.ref (q 0), .int (g), .long (uw (a)), .long (lN n)]) (n := 9) (Nat.le_of_ble_eq_true rfl)
  rw [lg_entry_eq]
  generalize (lg_sl ([.ref (q 0), .int (g), .long (uw (a)), .long (lN n)]) ++ List.replicate (9 - (lg_sl ([.ref (q 0), .int (g), .long (uw (a)), .long (lN n)])).length) Slot.unset).toArray = ls at hl ⊢
  have hl : lv_has ls 9 [(0, .ref (q 0)), (1, .int (g)), (2, .long (uw (a))), (4, .long (lN n))] := hl
  refine lv_lload hx hb dM_holds_0 (lv_at hl 3 rfl) ?_
  refine lv_lconst (v := 0) hx hb dM_holds_2 (by decide) ?_
  refine W.lcmp hx hb dM_holds_3 ?_
  refine lv_if_ne (tgt := 35) hx hb dM_holds_4 (by decide) (fun h_1 => ?_) (fun h_1 => ?_)
  · rw [lg_cmp_eq] at h_1
    refine lv_iconst (v := 0) hx hb dM_holds_35 (by decide) ?_
    refine lv_istore hx hb dM_holds_36 hl (by decide) rfl (fun ls hl => ?_)
    have hl : lv_has ls 9 [(6, .int (0)), (0, .ref (q 0)), (1, .int (g)), (2, .long (uw (a))), (4, .long (lN n))] := hl
    refine lv_iload hx hb dM_holds_38 (lv_at hl 0 rfl) ?_
    refine lv_iconst (v := 2) hx hb dM_holds_40 (by decide) ?_
    refine lv_icmp_ge (tgt := 93) hx hb dM_holds_41 (by decide) (fun h_2 => absurd h_2 (by decide)) (fun h_2 => ?_)
    refine lv_iload hx hb dM_holds_44 (lv_at hl 0 rfl) ?_
    refine lv_if_ne (tgt := 53) hx hb dM_holds_46 (by decide) (fun h_3 => absurd (by decide) h_3) (fun h_3 => ?_)
    refine lv_lload_n hx hb dM_holds_49 rfl (lv_at hl 3 rfl) ?_
    refine lv_goto (tgt := 59) hx hb dM_holds_50 (by decide) ?_
    refine lv_lstore hx hb dM_holds_59 hl (by decide) rfl (fun ls hl => ?_)
    have hl : lv_has ls 9 [(7, .long (uw (a))), (6, .int (0)), (0, .ref (q 0)), (1, .int (g)), (2, .long (uw (a))), (4, .long (lN n))] := hl
    refine lv_lload hx hb dM_holds_61 (lv_at hl 0 rfl) ?_
    refine lv_aload_n hx hb dM_holds_63 rfl (lv_at hl 2 rfl) ?_
    refine va_get (D := D) (ci := 1) (v := .ref (q 2)) (C := RM) (T := TM) (N := 7) hx hb hts inM hown hK hP 0 rfl rfl 2 (by decide) (hts _ w_257) (fun _ h9 => h9) rfl dM_holds_64 ?_
    refine lv_iload_n hx hb dM_holds_67 rfl (lv_at hl 3 rfl) ?_
    refine va_lald hx hb hK hP 2 0 rfl rfl hg dM_holds_68 ?_
    refine W.eq (g2 := F0 m 69 ls [.long (uw (B g.toNatClampNeg)), .long (uw (a))]) rfl ?_
    refine W.lcmp hx hb dM_holds_69 ?_
    refine lv_if_lt (tgt := 85) hx hb dM_holds_70 (by decide) (fun h_4 => ?_) (fun h_4 => ?_)
    · rw [lg_cmp_lt] at h_4
      refine lv_iconst (v := 0) hx hb dM_holds_85 (by decide) ?_
      have e9 : (ga_in (B g.toNatClampNeg) (T g.toNatClampNeg) a n) = false := by rw [show (0 : Int64) = lN 0 from rfl, pk_lEQ (by omega) (by omega)] at h_1; simp only [uw] at h_4; rw [pk_lLT (by have h91 := un_lt a; have h92 := un_lt (B g.toNatClampNeg); have h93 := un_lt (T g.toNatClampNeg); omega) (by have h91 := un_lt a; have h92 := un_lt (B g.toNatClampNeg); have h93 := un_lt (T g.toNatClampNeg); omega)] at h_4; unfold ga_in; simp; omega
      refine W.eq (g2 := F0 m 86 ls [.int (bi (ga_in (B g.toNatClampNeg) (T g.toNatClampNeg) a n))]) (by rw [e9]; rfl) ?_
      exact W.zret (v := bi (ga_in (B g.toNatClampNeg) (T g.toNatClampNeg) a n)) hx hb hr (bi_nar _) (fun t9 ht hW => ⟨rfl, ht⟩) (fun z hz => nomatch hz) dM_holds_86
    · rw [lg_cmp_lt] at h_4
      refine lv_lload hx hb dM_holds_73 (lv_at hl 0 rfl) ?_
      refine lv_aload_n hx hb dM_holds_75 rfl (lv_at hl 2 rfl) ?_
      refine va_get (D := D) (ci := 1) (v := .ref (q 3)) (C := RM) (T := TM) (N := 7) hx hb hts inM hown hK hP 0 rfl rfl 3 (by decide) (hts _ w_258) (fun _ h9 => h9) rfl dM_holds_76 ?_
      refine lv_iload_n hx hb dM_holds_79 rfl (lv_at hl 3 rfl) ?_
      refine va_lald hx hb hK hP 3 0 rfl rfl hg dM_holds_80 ?_
      refine W.eq (g2 := F0 m 81 ls [.long (uw (T g.toNatClampNeg)), .long (uw (a))]) rfl ?_
      refine W.lcmp hx hb dM_holds_81 ?_
      refine lv_if_lt (tgt := 87) hx hb dM_holds_82 (by decide) (fun h_5 => ?_) (fun h_5 => ?_)
      · rw [lg_cmp_lt] at h_5
        refine lv_iinc (k := 1) (v := 1) hx hb dM_holds_87 hl rfl (by decide) (by decide) rfl (fun ls hl => ?_)
        have hl : lv_has ls 9 [(6, .int (1)), (7, .long (uw (a))), (0, .ref (q 0)), (1, .int (g)), (2, .long (uw (a))), (4, .long (lN n))] := hl
        refine lv_goto (tgt := 38) hx hb dM_holds_90 (by decide) ?_
        refine lv_iload hx hb dM_holds_38 (lv_at hl 0 rfl) ?_
        refine lv_iconst (v := 2) hx hb dM_holds_40 (by decide) ?_
        refine lv_icmp_ge (tgt := 93) hx hb dM_holds_41 (by decide) (fun h_6 => absurd h_6 (by decide)) (fun h_6 => ?_)
        refine lv_iload hx hb dM_holds_44 (lv_at hl 0 rfl) ?_
        refine lv_if_ne (tgt := 53) hx hb dM_holds_46 (by decide) (fun h_7 => ?_) (fun h_7 => absurd h_7 (by decide))
        refine lv_lload_n hx hb dM_holds_53 rfl (lv_at hl 4 rfl) ?_
        refine lv_lload hx hb dM_holds_54 (lv_at hl 5 rfl) ?_
        refine lv_ladd hx hb dM_holds_56 ?_
        refine lv_lconst (v := 1) hx hb dM_holds_57 (by decide) ?_
        refine lv_lsub hx hb dM_holds_58 ?_
        refine W.eq (g2 := F0 m 59 ls [.long (lN (un a + n - 1))]) (by rw [show uw a = lN (un a) from rfl, lN_add, show (1 : Int64) = lN 1 from rfl, lN_sub (by have h90 : ¬ n = 0 := fun h91 => h_1 (by rw [h91]; rfl); omega)]) ?_
        refine lv_lstore hx hb dM_holds_59 hl (by decide) rfl (fun ls hl => ?_)
        have hl : lv_has ls 9 [(7, .long (lN (un a + n - 1))), (6, .int (1)), (0, .ref (q 0)), (1, .int (g)), (2, .long (uw (a))), (4, .long (lN n))] := hl
        refine lv_lload hx hb dM_holds_61 (lv_at hl 0 rfl) ?_
        refine lv_aload_n hx hb dM_holds_63 rfl (lv_at hl 2 rfl) ?_
        refine va_get (D := D) (ci := 1) (v := .ref (q 2)) (C := RM) (T := TM) (N := 7) hx hb hts inM hown hK hP 0 rfl rfl 2 (by decide) (hts _ w_257) (fun _ h9 => h9) rfl dM_holds_64 ?_
        refine lv_iload_n hx hb dM_holds_67 rfl (lv_at hl 3 rfl) ?_
        refine va_lald hx hb hK hP 2 0 rfl rfl hg dM_holds_68 ?_
        refine W.eq (g2 := F0 m 69 ls [.long (uw (B g.toNatClampNeg)), .long (lN (un a + n - 1))]) rfl ?_
        refine W.lcmp hx hb dM_holds_69 ?_
        refine lv_if_lt (tgt := 85) hx hb dM_holds_70 (by decide) (fun h_8 => ?_) (fun h_8 => ?_)
        · rw [lg_cmp_lt] at h_8
          refine lv_iconst (v := 0) hx hb dM_holds_85 (by decide) ?_
          have e9 : (ga_in (B g.toNatClampNeg) (T g.toNatClampNeg) a n) = false := by rw [show (0 : Int64) = lN 0 from rfl, pk_lEQ (by omega) (by omega)] at h_1; simp only [uw] at h_4; rw [pk_lLT (by have h91 := un_lt a; have h92 := un_lt (B g.toNatClampNeg); have h93 := un_lt (T g.toNatClampNeg); omega) (by have h91 := un_lt a; have h92 := un_lt (B g.toNatClampNeg); have h93 := un_lt (T g.toNatClampNeg); omega)] at h_4; simp only [uw] at h_5; rw [pk_lLT (by have h91 := un_lt a; have h92 := un_lt (B g.toNatClampNeg); have h93 := un_lt (T g.toNatClampNeg); omega) (by have h91 := un_lt a; have h92 := un_lt (B g.toNatClampNeg); have h93 := un_lt (T g.toNatClampNeg); omega)] at h_5; simp only [uw] at h_8; rw [pk_lLT (by have h91 := un_lt a; have h92 := un_lt (B g.toNatClampNeg); have h93 := un_lt (T g.toNatClampNeg); omega) (by have h91 := un_lt a; have h92 := un_lt (B g.toNatClampNeg); have h93 := un_lt (T g.toNatClampNeg); omega)] at h_8; unfold ga_in; simp; omega
          refine W.eq (g2 := F0 m 86 ls [.int (bi (ga_in (B g.toNatClampNeg) (T g.toNatClampNeg) a n))]) (by rw [e9]; rfl) ?_
          exact W.zret (v := bi (ga_in (B g.toNatClampNeg) (T g.toNatClampNeg) a n)) hx hb hr (bi_nar _) (fun t9 ht hW => ⟨rfl, ht⟩) (fun z hz => nomatch hz) dM_holds_86
        · rw [lg_cmp_lt] at h_8
          refine lv_lload hx hb dM_holds_73 (lv_at hl 0 rfl) ?_
          refine lv_aload_n hx hb dM_holds_75 rfl (lv_at hl 2 rfl) ?_
          refine va_get (D := D) (ci := 1) (v := .ref (q 3)) (C := RM) (T := TM) (N := 7) hx hb hts inM hown hK hP 0 rfl rfl 3 (by decide) (hts _ w_258) (fun _ h9 => h9) rfl dM_holds_76 ?_
          refine lv_iload_n hx hb dM_holds_79 rfl (lv_at hl 3 rfl) ?_
          refine va_lald hx hb hK hP 3 0 rfl rfl hg dM_holds_80 ?_
          refine W.eq (g2 := F0 m 81 ls [.long (uw (T g.toNatClampNeg)), .long (lN (un a + n - 1))]) rfl ?_
          refine W.lcmp hx hb dM_holds_81 ?_
          refine lv_if_lt (tgt := 87) hx hb dM_holds_82 (by decide) (fun h_9 => ?_) (fun h_9 => ?_)
          · rw [lg_cmp_lt] at h_9
            refine lv_iinc (k := 1) (v := 2) hx hb dM_holds_87 hl rfl (by decide) (by decide) rfl (fun ls hl => ?_)
            have hl : lv_has ls 9 [(6, .int (2)), (7, .long (lN (un a + n - 1))), (0, .ref (q 0)), (1, .int (g)), (2, .long (uw (a))), (4, .long (lN n))] := hl
            refine lv_goto (tgt := 38) hx hb dM_holds_90 (by decide) ?_
            refine lv_iload hx hb dM_holds_38 (lv_at hl 0 rfl) ?_
            refine lv_iconst (v := 2) hx hb dM_holds_40 (by decide) ?_
            refine lv_icmp_ge (tgt := 93) hx hb dM_holds_41 (by decide) (fun h_10 => ?_) (fun h_10 => absurd (by decide) h_10)
            refine lv_iconst (v := 1) hx hb dM_holds_93 (by decide) ?_
            have e9 : (ga_in (B g.toNatClampNeg) (T g.toNatClampNeg) a n) = true := by rw [show (0 : Int64) = lN 0 from rfl, pk_lEQ (by omega) (by omega)] at h_1; simp only [uw] at h_4; rw [pk_lLT (by have h91 := un_lt a; have h92 := un_lt (B g.toNatClampNeg); have h93 := un_lt (T g.toNatClampNeg); omega) (by have h91 := un_lt a; have h92 := un_lt (B g.toNatClampNeg); have h93 := un_lt (T g.toNatClampNeg); omega)] at h_4; simp only [uw] at h_5; rw [pk_lLT (by have h91 := un_lt a; have h92 := un_lt (B g.toNatClampNeg); have h93 := un_lt (T g.toNatClampNeg); omega) (by have h91 := un_lt a; have h92 := un_lt (B g.toNatClampNeg); have h93 := un_lt (T g.toNatClampNeg); omega)] at h_5; simp only [uw] at h_8; rw [pk_lLT (by have h91 := un_lt a; have h92 := un_lt (B g.toNatClampNeg); have h93 := un_lt (T g.toNatClampNeg); omega) (by have h91 := un_lt a; have h92 := un_lt (B g.toNatClampNeg); have h93 := un_lt (T g.toNatClampNeg); omega)] at h_8; simp only [uw] at h_9; rw [pk_lLT (by have h91 := un_lt a; have h92 := un_lt (B g.toNatClampNeg); have h93 := un_lt (T g.toNatClampNeg); omega) (by have h91 := un_lt a; have h92 := un_lt (B g.toNatClampNeg); have h93 := un_lt (T g.toNatClampNeg); omega)] at h_9; unfold ga_in; simp; omega
            refine W.eq (g2 := F0 m 94 ls [.int (bi (ga_in (B g.toNatClampNeg) (T g.toNatClampNeg) a n))]) (by rw [e9]; rfl) ?_
            exact W.zret (v := bi (ga_in (B g.toNatClampNeg) (T g.toNatClampNeg) a n)) hx hb hr (bi_nar _) (fun t9 ht hW => ⟨rfl, ht⟩) (fun z hz => nomatch hz) dM_holds_94
          · rw [lg_cmp_lt] at h_9
            refine lv_iconst (v := 0) hx hb dM_holds_85 (by decide) ?_
            have e9 : (ga_in (B g.toNatClampNeg) (T g.toNatClampNeg) a n) = false := by rw [show (0 : Int64) = lN 0 from rfl, pk_lEQ (by omega) (by omega)] at h_1; simp only [uw] at h_4; rw [pk_lLT (by have h91 := un_lt a; have h92 := un_lt (B g.toNatClampNeg); have h93 := un_lt (T g.toNatClampNeg); omega) (by have h91 := un_lt a; have h92 := un_lt (B g.toNatClampNeg); have h93 := un_lt (T g.toNatClampNeg); omega)] at h_4; simp only [uw] at h_5; rw [pk_lLT (by have h91 := un_lt a; have h92 := un_lt (B g.toNatClampNeg); have h93 := un_lt (T g.toNatClampNeg); omega) (by have h91 := un_lt a; have h92 := un_lt (B g.toNatClampNeg); have h93 := un_lt (T g.toNatClampNeg); omega)] at h_5; simp only [uw] at h_8; rw [pk_lLT (by have h91 := un_lt a; have h92 := un_lt (B g.toNatClampNeg); have h93 := un_lt (T g.toNatClampNeg); omega) (by have h91 := un_lt a; have h92 := un_lt (B g.toNatClampNeg); have h93 := un_lt (T g.toNatClampNeg); omega)] at h_8; simp only [uw] at h_9; rw [pk_lLT (by have h91 := un_lt a; have h92 := un_lt (B g.toNatClampNeg); have h93 := un_lt (T g.toNatClampNeg); omega) (by have h91 := un_lt a; have h92 := un_lt (B g.toNatClampNeg); have h93 := un_lt (T g.toNatClampNeg); omega)] at h_9; unfold ga_in; simp; omega
            refine W.eq (g2 := F0 m 86 ls [.int (bi (ga_in (B g.toNatClampNeg) (T g.toNatClampNeg) a n))]) (by rw [e9]; rfl) ?_
            exact W.zret (v := bi (ga_in (B g.toNatClampNeg) (T g.toNatClampNeg) a n)) hx hb hr (bi_nar _) (fun t9 ht hW => ⟨rfl, ht⟩) (fun z hz => nomatch hz) dM_holds_86
      · rw [lg_cmp_lt] at h_5
        refine lv_iconst (v := 0) hx hb dM_holds_85 (by decide) ?_
        have e9 : (ga_in (B g.toNatClampNeg) (T g.toNatClampNeg) a n) = false := by rw [show (0 : Int64) = lN 0 from rfl, pk_lEQ (by omega) (by omega)] at h_1; simp only [uw] at h_4; rw [pk_lLT (by have h91 := un_lt a; have h92 := un_lt (B g.toNatClampNeg); have h93 := un_lt (T g.toNatClampNeg); omega) (by have h91 := un_lt a; have h92 := un_lt (B g.toNatClampNeg); have h93 := un_lt (T g.toNatClampNeg); omega)] at h_4; simp only [uw] at h_5; rw [pk_lLT (by have h91 := un_lt a; have h92 := un_lt (B g.toNatClampNeg); have h93 := un_lt (T g.toNatClampNeg); omega) (by have h91 := un_lt a; have h92 := un_lt (B g.toNatClampNeg); have h93 := un_lt (T g.toNatClampNeg); omega)] at h_5; unfold ga_in; simp; omega
        refine W.eq (g2 := F0 m 86 ls [.int (bi (ga_in (B g.toNatClampNeg) (T g.toNatClampNeg) a n))]) (by rw [e9]; rfl) ?_
        exact W.zret (v := bi (ga_in (B g.toNatClampNeg) (T g.toNatClampNeg) a n)) hx hb hr (bi_nar _) (fun t9 ht hW => ⟨rfl, ht⟩) (fun z hz => nomatch hz) dM_holds_86
  · rw [lg_cmp_eq] at h_1
    refine lv_lload_n hx hb dM_holds_7 rfl (lv_at hl 2 rfl) ?_
    refine lv_aload_n hx hb dM_holds_8 rfl (lv_at hl 0 rfl) ?_
    refine va_get (D := D) (ci := 1) (v := .ref (q 2)) (C := RM) (T := TM) (N := 7) hx hb hts inM hown hK hP 0 rfl rfl 2 (by decide) (hts _ w_257) (fun _ h9 => h9) rfl dM_holds_9 ?_
    refine lv_iload_n hx hb dM_holds_12 rfl (lv_at hl 1 rfl) ?_
    refine va_lald hx hb hK hP 2 0 rfl rfl hg dM_holds_13 ?_
    refine W.eq (g2 := F0 m 14 ls [.long (uw (B g.toNatClampNeg)), .long (uw (a))]) rfl ?_
    refine W.lcmp hx hb dM_holds_14 ?_
    refine lv_if_lt (tgt := 33) hx hb dM_holds_15 (by decide) (fun h_11 => ?_) (fun h_11 => ?_)
    · rw [lg_cmp_lt] at h_11
      refine lv_iconst (v := 0) hx hb dM_holds_33 (by decide) ?_
      have e9 : (ga_in (B g.toNatClampNeg) (T g.toNatClampNeg) a n) = false := by rw [show (0 : Int64) = lN 0 from rfl, pk_lEQ (by omega) (by omega)] at h_1; simp only [uw] at h_11; rw [pk_lLT (by have h91 := un_lt a; have h92 := un_lt (B g.toNatClampNeg); have h93 := un_lt (T g.toNatClampNeg); omega) (by have h91 := un_lt a; have h92 := un_lt (B g.toNatClampNeg); have h93 := un_lt (T g.toNatClampNeg); omega)] at h_11; unfold ga_in; simp; omega
      refine W.eq (g2 := F0 m 34 ls [.int (bi (ga_in (B g.toNatClampNeg) (T g.toNatClampNeg) a n))]) (by rw [e9]; rfl) ?_
      exact W.zret (v := bi (ga_in (B g.toNatClampNeg) (T g.toNatClampNeg) a n)) hx hb hr (bi_nar _) (fun t9 ht hW => ⟨rfl, ht⟩) (fun z hz => nomatch hz) dM_holds_34
    · rw [lg_cmp_lt] at h_11
      refine lv_lload_n hx hb dM_holds_18 rfl (lv_at hl 2 rfl) ?_
      refine lv_aload_n hx hb dM_holds_19 rfl (lv_at hl 0 rfl) ?_
      refine va_get (D := D) (ci := 1) (v := .ref (q 3)) (C := RM) (T := TM) (N := 7) hx hb hts inM hown hK hP 0 rfl rfl 3 (by decide) (hts _ w_258) (fun _ h9 => h9) rfl dM_holds_20 ?_
      refine lv_iload_n hx hb dM_holds_23 rfl (lv_at hl 1 rfl) ?_
      refine va_lald hx hb hK hP 3 0 rfl rfl hg dM_holds_24 ?_
      refine W.eq (g2 := F0 m 25 ls [.long (uw (T g.toNatClampNeg)), .long (uw (a))]) rfl ?_
      refine W.lcmp hx hb dM_holds_25 ?_
      refine lv_if_gt (tgt := 33) hx hb dM_holds_26 (by decide) (fun h_12 => ?_) (fun h_12 => ?_)
      · rw [lg_cmp_gt] at h_12
        refine lv_iconst (v := 0) hx hb dM_holds_33 (by decide) ?_
        have e9 : (ga_in (B g.toNatClampNeg) (T g.toNatClampNeg) a n) = false := by rw [show (0 : Int64) = lN 0 from rfl, pk_lEQ (by omega) (by omega)] at h_1; simp only [uw] at h_11; rw [pk_lLT (by have h91 := un_lt a; have h92 := un_lt (B g.toNatClampNeg); have h93 := un_lt (T g.toNatClampNeg); omega) (by have h91 := un_lt a; have h92 := un_lt (B g.toNatClampNeg); have h93 := un_lt (T g.toNatClampNeg); omega)] at h_11; simp only [uw] at h_12; rw [pk_lLT (by have h91 := un_lt a; have h92 := un_lt (B g.toNatClampNeg); have h93 := un_lt (T g.toNatClampNeg); omega) (by have h91 := un_lt a; have h92 := un_lt (B g.toNatClampNeg); have h93 := un_lt (T g.toNatClampNeg); omega)] at h_12; unfold ga_in; simp; omega
        refine W.eq (g2 := F0 m 34 ls [.int (bi (ga_in (B g.toNatClampNeg) (T g.toNatClampNeg) a n))]) (by rw [e9]; rfl) ?_
        exact W.zret (v := bi (ga_in (B g.toNatClampNeg) (T g.toNatClampNeg) a n)) hx hb hr (bi_nar _) (fun t9 ht hW => ⟨rfl, ht⟩) (fun z hz => nomatch hz) dM_holds_34
      · rw [lg_cmp_gt] at h_12
        refine lv_iconst (v := 1) hx hb dM_holds_29 (by decide) ?_
        refine lv_goto (tgt := 34) hx hb dM_holds_30 (by decide) ?_
        have e9 : (ga_in (B g.toNatClampNeg) (T g.toNatClampNeg) a n) = true := by rw [show (0 : Int64) = lN 0 from rfl, pk_lEQ (by omega) (by omega)] at h_1; simp only [uw] at h_11; rw [pk_lLT (by have h91 := un_lt a; have h92 := un_lt (B g.toNatClampNeg); have h93 := un_lt (T g.toNatClampNeg); omega) (by have h91 := un_lt a; have h92 := un_lt (B g.toNatClampNeg); have h93 := un_lt (T g.toNatClampNeg); omega)] at h_11; simp only [uw] at h_12; rw [pk_lLT (by have h91 := un_lt a; have h92 := un_lt (B g.toNatClampNeg); have h93 := un_lt (T g.toNatClampNeg); omega) (by have h91 := un_lt a; have h92 := un_lt (B g.toNatClampNeg); have h93 := un_lt (T g.toNatClampNeg); omega)] at h_12; unfold ga_in; simp; omega
        refine W.eq (g2 := F0 m 34 ls [.int (bi (ga_in (B g.toNatClampNeg) (T g.toNatClampNeg) a n))]) (by rw [e9]; rfl) ?_
        exact W.zret (v := bi (ga_in (B g.toNatClampNeg) (T g.toNatClampNeg) a n)) hx hb hr (bi_nar _) (fun t9 ht hW => ⟨rfl, ht⟩) (fun z hz => nomatch hz) dM_holds_34

