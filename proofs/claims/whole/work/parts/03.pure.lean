/-! Numbers, booleans and bits, and what a call on the grants answers (ga_): GrantMath and the reference are both tied to these. The rows bt, b_ .. are those of kit/laws/BITS.to-paste. -/
def bt (x : Int32) (i : Nat) : Bool := x.toBitVec.getLsbD i
theorem b_ext {x y : Int32} (h : ∀ i, i < 32 → bt x i = bt y i) : x = y := Int32.toBitVec_inj.mp (BitVec.eq_of_getLsbD_eq (fun i hi => h i hi))
theorem b_and (x y : Int32) (i : Nat) : bt (x &&& y) i = (bt x i && bt y i) := by unfold bt; rw [Int32.toBitVec_and, BitVec.getLsbD_and]
theorem b_xor (x y : Int32) (i : Nat) : bt (x ^^^ y) i = (bt x i ^^ bt y i) := by unfold bt; rw [Int32.toBitVec_xor, BitVec.getLsbD_xor]
theorem b_big {x : Int32} {i : Nat} (h : 32 ≤ i) : bt x i = false := BitVec.getLsbD_of_ge _ _ h
theorem b_m1 : ∀ i, i < 32 → bt (-1) i = true := by decide +kernel
theorem b_0 (i : Nat) : bt 0 i = false := BitVec.getLsbD_zero
theorem b_1 : ∀ i, i < 32 → bt 1 i = decide (i = 0) := by decide +kernel
theorem s_l : ∀ n, n < 32 → ((nI n &&& 31).toBitVec.smod 32).toNat = n := by decide +kernel
theorem b_sshr (n : Nat) (hn : n < 32) (x : Int32) {i : Nat} (hi : i < 32) : bt (x >>> (nI n &&& 31)) i = if n + i < 32 then bt x (n + i) else bt x 31 := by
  unfold bt
  rw [Int32.toBitVec_shiftRight]
  show (x.toBitVec.sshiftRight ((nI n &&& 31).toBitVec.smod 32).toNat).getLsbD i = _
  rw [s_l n hn, BitVec.getLsbD_sshiftRight, BitVec.msb_eq_getLsbD_last]
  simp [hi]
/-- bit k of x, as the reference asks for it -/
theorem bq_bit (x : Int32) {k : Nat} (hk : k < 32) : (x >>> (nI k &&& 31)) &&& 1 = if bt x k = true then 1 else 0 := by
  apply b_ext
  intro i hi
  rw [b_and, b_1 i hi]
  by_cases h0 : i = 0
  · subst h0
    rw [b_sshr k hk x hi, if_pos (by omega), Nat.add_zero]
    cases bt x k <;> rfl
  · have h1 : decide (i = 0) = false := decide_eq_false h0
    rw [h1, Bool.and_false]
    cases bt x k
    · exact (b_0 i).symm
    · show false = bt 1 i
      rw [b_1 i hi, h1]
theorem bq_1 (x : Int32) {k : Nat} (hk : k < 32) : (x >>> (nI k &&& 31)) &&& 1 = 1 ↔ bt x k = true := by
  rw [bq_bit x hk]
  cases bt x k <;> decide
theorem bq_0 (x : Int32) {k : Nat} (hk : k < 32) : (x >>> (nI k &&& 31)) &&& 1 = 0 ↔ bt x k = false := by
  rw [bq_bit x hk]
  cases bt x k <;> decide
def bi (b : Bool) : Int32 := if b = true then 1 else 0
theorem bi_0 {b : Bool} (h : bi b = 0) : b = false := by
  cases b
  · rfl
  · exact absurd h (by decide)
theorem bi_n {b : Bool} (h : ¬ bi b = 0) : b = true := by
  cases b
  · exact absurd (by decide) h
  · rfl
theorem bi_nar (b : Bool) : narrow .boolean (.int (bi b)) = .int (bi b) := by cases b <;> rfl
theorem bi_vp (b : Bool) : vp_nar .boolean (bi b) = bi b := by cases b <;> rfl
def ub (g : Nat → Bool) (k : Nat) (b : Bool) : Nat → Bool := fun j => if j = k then b else g j
theorem ub_upd (g : Nat → Bool) (k : Nat) (b : Bool) : upd (fun j => bi (g j)) k (vp_nar .boolean (bi b)) = fun j => bi (ub g k b j) := by
  rw [bi_vp]
  funext j
  unfold upd ub
  by_cases h : j = k <;> simp [h]
def un (x : Int32) : Nat := x.toBitVec.toNat
def uw (x : Int32) : Int64 := lN (un x)
theorem un_lt (x : Int32) : un x < 4294967296 := x.toBitVec.isLt
theorem nI_un (x : Int32) : nI (un x) = x := by
  apply Int32.toBitVec_inj.1
  show BitVec.ofNat 32 x.toBitVec.toNat = x.toBitVec
  simp
theorem un_inj {x y : Int32} (h : un x = un y) : x = y := by rw [← nI_un x, ← nI_un y, h]
theorem un_add (x y : Int32) : un (x + y) = (un x + un y) % 4294967296 := by
  unfold un
  rw [Int32.toBitVec_add, BitVec.toNat_add]
theorem un_int (x : Int32) : x.toInt = if un x < 2147483648 then (un x : Int) else (un x : Int) - 4294967296 := by
  have h : x.toInt = x.toBitVec.toInt := rfl
  rw [h, BitVec.toInt_eq_toNat_cond]
  unfold un
  by_cases h2 : 2 * x.toBitVec.toNat < 2 ^ 32
  · rw [if_pos h2, if_pos (by omega)]
  · rw [if_neg h2, if_neg (by omega)]
    rfl
theorem uw_upd (f : Nat → Int32) (k : Nat) (x : Int32) : vp_updL (fun j => uw (f j)) k (uw x) = fun j => uw (upd f k x j) := by
  funext j
  unfold vp_updL upd
  by_cases h : j = k <;> simp [h]
theorem uw_and (x : Int32) : x.toInt64 &&& 4294967295 = uw x := by
  apply Int64.toBitVec_inj.1
  rw [Int64.toBitVec_and]
  show x.toBitVec.signExtend 64 &&& 4294967295#64 = BitVec.ofNat 64 x.toBitVec.toNat
  apply BitVec.eq_of_getLsbD_eq
  intro i hi
  have hm : (4294967295#64).getLsbD i = decide (i < 32) := (by decide +kernel : ∀ i, i < 64 → (4294967295#64).getLsbD i = decide (i < 32)) i hi
  rw [BitVec.getLsbD_and, hm, BitVec.getLsbD_signExtend, BitVec.getLsbD_ofNat, BitVec.testBit_toNat]
  by_cases h : i < 32
  · simp [h, hi]
  · simp [h, hi]
    exact BitVec.getLsbD_of_ge _ _ (by omega)
theorem uw_i (x : Int32) : (uw x).toInt32 = x := by
  unfold uw
  rw [lN_i, nI_un]
theorem uw_le (x y : Int32) : uw x ≤ uw y ↔ un x ≤ un y := pk_lLE (Nat.lt_trans (un_lt x) (by decide)) (Nat.lt_trans (un_lt y) (by decide))
theorem uw_lt (x y : Int32) : uw x < uw y ↔ un x < un y := pk_lLT (Nat.lt_trans (un_lt x) (by decide)) (Nat.lt_trans (un_lt y) (by decide))
/-- a sum of two, wrapped -/
theorem uw_sum (x y : Int32) : (uw x + uw y) - (uw x + uw y) / 4294967296 * 4294967296 = uw (x + y) := by
  have h1 := un_lt x
  have h2 := un_lt y
  unfold uw
  rw [lN_add, un_add]
  exact pk_lRem (b := 4294967296) (by omega) (by decide) (by decide)
theorem wd_0 (x : Int32) : x.toInt64 / 4294967296 = 0 := by
  apply Int64.toInt_inj.1
  have h1 : x.toInt64.toInt = x.toInt := by simp
  have h2 : (4294967296 : Int64).toInt = 4294967296 := by decide
  have h3 : x.toInt.tdiv 4294967296 = 0 := by
    have hu := un_int x
    have hl := un_lt x
    rcases Int.le_total 0 x.toInt with h | h
    · exact Int.tdiv_eq_zero_of_lt h (by split at hu <;> omega)
    · rw [show x.toInt = -(-x.toInt) by omega, Int.neg_tdiv, Int.tdiv_eq_zero_of_lt (by omega) (by split at hu <;> omega)]
      rfl
  rw [Int64.toInt_div, h1, h2, h3]
  decide
theorem wd_p (x : Int32) : x.toInt64 + 4294967296 = lN (if un x < 2147483648 then un x + 4294967296 else un x) := by
  apply Int64.toInt_inj.1
  have hu := un_int x
  have hl := un_lt x
  have h1 : x.toInt64.toInt = x.toInt := by simp
  have h2 : (4294967296 : Int64).toInt = 4294967296 := by decide
  rw [pk_lT (by split <;> omega), Int64.toInt_add, h1, h2, hu]
  split
  · rw [Int.bmod_def]
    split <;> omega
  · rw [Int.bmod_def]
    split <;> omega
/-- 'wide' of the reference -/
theorem uw_wide (x : Int32) : (x.toInt64 - x.toInt64 / 4294967296 * 4294967296 + 4294967296) - (x.toInt64 - x.toInt64 / 4294967296 * 4294967296 + 4294967296) / 4294967296 * 4294967296 = uw x := by
  have hl := un_lt x
  rw [wd_0, Int64.zero_mul, Int64.sub_zero, wd_p]
  have h := pk_lRem (a := if un x < 2147483648 then un x + 4294967296 else un x) (b := 4294967296) (by split <;> omega) (by decide) (by decide)
  refine h.trans ?_
  unfold uw
  congr 1
  split <;> omega
/-! what a call answers, of the grants' parts A B T P Y G -/
def ga_in (b t a : Int32) (n : Nat) : Bool := decide (un b ≤ un a) && decide (un a + n ≤ un t)
def ga_pm (w p : Int32) : Bool := decide (w &&& (p ^^^ (-1)) = 0)
def ga_acc (B T P Y : Nat → Int32) (G : Nat → Bool) (i : Nat) (a : Int32) (n : Nat) (w : Int32) : Int32 :=
  if G i = false then 1 else if ¬ Y i = 0 then 2 else if ga_pm w (P i) = false then 3 else if ga_in (B i) (T i) a n = true then 0 else 4
def ga_seal (A B T P Y : Nat → Int32) (G : Nat → Bool) (s t : Nat) : Int32 :=
  if G s = false ∨ G t = false then 1 else if ¬ Y s = 0 then 2 else if ¬ ga_acc B T P Y G t (A t) 1 32 = 0 then ga_acc B T P Y G t (A t) 1 32 else if 1 ≤ A t ∧ A t ≤ 65535 then 0 else 4
def ga_open (A B T P Y : Nat → Int32) (G : Nat → Bool) (s t : Nat) : Int32 :=
  if G s = false ∨ G t = false then 1 else if Y s = 0 then 2 else if ¬ ga_acc B T P Y G t (A t) 1 64 = 0 then ga_acc B T P Y G t (A t) 1 64 else if A t = Y s then 0 else 4
def ga_with (B T P : Nat → Int32) (G : Nat → Bool) (r s : Nat) : Bool := G r && (G s && (decide (un (B s) ≤ un (B r)) && (decide (un (T r) ≤ un (T s)) && ga_pm (P r) (P s))))
def ga_part (A B T P Y : Nat → Int32) (G : Nat → Bool) (r : Nat) (w : Int32) : Int32 :=
  if w = 0 then A r else if w = 1 then B r else if w = 2 then T r else if w = 3 then P r else if w = 4 then Y r else bi (G r)
def ga_cnt (B T P Y : Nat → Int32) (G : Nat → Bool) (a w : Int32) : Nat → Int32
  | 0 => 0
  | k + 1 => if ga_acc B T P Y G k a 1 w = 0 then ga_cnt B T P Y G a w k + 1 else ga_cnt B T P Y G a w k
