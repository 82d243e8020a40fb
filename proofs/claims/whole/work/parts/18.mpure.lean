/-! Pure rows for the reference's larger methods. -/
theorem gi_nz {r : Int32} (h : vp_in r 16) : ¬ bi (gi r) = 0 := by rw [gi_in.mpr h]; decide
theorem gi_z {r : Int32} (h : ¬ vp_in r 16) : bi (gi r) = 0 := by
  cases hg : gi r
  · rfl
  · exact absurd (gi_in.mp hg) h
theorem gp_c {v c : Int32} {d : Int64} (hd : d = c.toInt64) : (decide ((0 : Int64) ≤ v.toInt64) && decide (v.toInt64 ≤ d)) = gp v c := by rw [hd]; rfl
theorem gp_nz {v c : Int32} {d : Int64} (hd : d = c.toInt64) (h0 : ¬ v < 0) (h : v ≤ c) : ¬ bi (decide ((0 : Int64) ≤ v.toInt64) && decide (v.toInt64 ≤ d)) = 0 := by rw [gp_c hd, gp_in.mpr ⟨h0, h⟩]; decide
theorem gp_z {v c : Int32} {d : Int64} (hd : d = c.toInt64) (h : ¬ (¬ v < 0 ∧ v ≤ c)) : bi (decide ((0 : Int64) ≤ v.toInt64) && decide (v.toInt64 ≤ d)) = 0 := by
  rw [gp_c hd]
  cases hg : gp v c
  · rfl
  · exact absurd (gp_in.mp hg) h
theorem gp_y {v c : Int32} {d : Int64} (hd : d = c.toInt64) (h : (decide ((0 : Int64) ≤ v.toInt64) && decide (v.toInt64 ≤ d)) = true) : ¬ v < 0 ∧ v ≤ c := by
  rw [gp_c hd] at h
  exact gp_in.mp h
theorem ln_nz {n : Nat} (h : n ≤ 65536) : ¬ bi (decide ((0 : Int64) ≤ lN n) && decide (lN n ≤ 65536)) = 0 := by
  have h1 : (0 : Int64) ≤ lN n := (pk_lLE (a := 0) (b := n) (by decide) (by omega)).mpr (by omega)
  have h2 : lN n ≤ 65536 := (pk_lLE (a := n) (b := 65536) (by omega) (by decide)).mpr h
  rw [decide_eq_true h1, decide_eq_true h2]
  decide
/-- a place is a type, told with or without sign -/
theorem ty_eq (a : Int32) : (decide ((1 : Int64) ≤ uw a) && decide (uw a ≤ 65535)) = decide (1 ≤ a ∧ a ≤ 65535) := by
  have hl := un_lt a
  have hu := un_int a
  have h1 : (1 : Int64) ≤ uw a ↔ 1 ≤ un a := pk_lLE (a := 1) (b := un a) (by decide) (by omega)
  have h2 : uw a ≤ 65535 ↔ un a ≤ 65535 := pk_lLE (a := un a) (b := 65535) (by omega) (by decide)
  have c1 : (1 : Int32).toInt = 1 := by decide
  have c2 : (65535 : Int32).toInt = 65535 := by decide
  have h3 : (1 ≤ a ∧ a ≤ 65535) ↔ (1 ≤ un a ∧ un a ≤ 65535) := by
    rw [Int32.le_iff_toInt_le, Int32.le_iff_toInt_le, c1, c2, hu]
    split <;> omega
  rw [Bool.eq_iff_iff, Bool.and_eq_true, decide_eq_true_eq, decide_eq_true_eq, decide_eq_true_eq, h1, h2, h3]
theorem ue_eq {a y : Int32} (hy : ¬ y < 0) : uw a = y.toInt64 ↔ a = y := by
  obtain ⟨j, hj, rfl⟩ := nI_of hy
  rw [nI_l hj]
  have hl := un_lt a
  constructor
  · intro h
    have h1 : un a = j := (pk_lEQ (a := un a) (b := j) (by omega) (by omega)).mp h
    rw [← nI_un a, h1]
  · intro h
    rw [h]
    show lN (un (nI j)) = lN j
    rw [show un (nI j) = j from pk_tn (by omega)]
/-- the reference adds up the bits that both have -/
theorem bt_un (x : Int32) (k : Nat) : bt x k = (un x).testBit k := by
  unfold bt un
  rw [BitVec.testBit_toNat]
theorem ra_y {x : Int32} {k : Nat} (hk : k < 32) (h : bt x k = true) : nI (un x % 2 ^ k) + ((1 : Int32) <<< (nI k &&& 31)) = nI (un x % 2 ^ (k + 1)) := by
  have h1 : (1 : Int32) <<< (nI k &&& 31) = nI (2 ^ k) := by
    have h2 := pk_shlN (n := 1) (nI k &&& 31) k (s_l k hk) (by rw [Nat.one_mul]; exact Nat.pow_lt_pow_right (by decide) hk)
    rw [Nat.one_mul] at h2
    exact h2
  rw [bt_un, Nat.testBit_eq_decide_div_mod_eq, decide_eq_true_eq] at h
  rw [h1, nI_add, Nat.mod_pow_succ, h, Nat.mul_one]
theorem ra_n {x : Int32} {k : Nat} (h : ¬ bt x k = true) : nI (un x % 2 ^ k) = nI (un x % 2 ^ (k + 1)) := by
  have h1 : bt x k = false := by cases hb : bt x k <;> simp_all
  rw [bt_un, Nat.testBit_eq_decide_div_mod_eq, decide_eq_false_iff_not] at h1
  rw [Nat.mod_pow_succ, show un x / 2 ^ k % 2 = 0 by omega, Nat.mul_zero, Nat.add_zero]
theorem un_and_le (x y : Int32) : un (x &&& y) ≤ un x := by
  unfold un
  rw [Int32.toBitVec_and, BitVec.toNat_and]
  exact Nat.and_le_left
theorem ra_8 {x y : Int32} (h : un x < 256) : nI (un (x &&& y) % 2 ^ 8) = x &&& y := by
  have h1 := un_and_le x y
  rw [Nat.mod_eq_of_lt (by omega), nI_un]
