/-! sets of alerts as longs: bit by bit -/
def lB (x : Int64) (a : Nat) : Bool := x.toBitVec.getLsbD a
theorem lB_ext {x y : Int64} (h : ∀ a, a < 64 → lB x a = lB y a) : x = y := Int64.toBitVec_inj.mp (BitVec.eq_of_getLsbD_eq (fun i hi => h i hi))
theorem lB_big {x : Int64} {a : Nat} (h : 64 ≤ a) : lB x a = false := BitVec.getLsbD_of_ge _ _ h
theorem lB_0 (a : Nat) : lB 0 a = false := by simp [lB]
theorem lB_or (x y : Int64) (a : Nat) : lB (x ||| y) a = (lB x a || lB y a) := by simp [lB]
theorem lB_and (x y : Int64) (a : Nat) : lB (x &&& y) a = (lB x a && lB y a) := by simp [lB]
theorem lB_xor (x y : Int64) (a : Nat) : lB (x ^^^ y) a = (lB x a ^^ lB y a) := by simp [lB]
theorem lB_m1 {a : Nat} (h : a < 64) : lB (-1) a = true := by
  have : (-1 : Int64).toBitVec = BitVec.allOnes 64 := by decide +kernel
  unfold lB
  rw [this, BitVec.getLsbD_allOnes]
  simp [h]
theorem lB_not (x : Int64) {a : Nat} (h : a < 64) : lB (x ^^^ (-1)) a = !lB x a := by rw [lB_xor, lB_m1 h]; simp
theorem sh63 : ∀ n, n < 64 → (nI n).toInt64 &&& 63 = lN n := by decide +kernel
theorem one_shl : ∀ n, n < 64 → ((1 : Int64) <<< lN n).toBitVec = BitVec.twoPow 64 n := by decide +kernel
theorem lB_one {n a : Nat} (hn : n < 64) : lB ((1 : Int64) <<< ((nI n).toInt64 &&& 63)) a = decide (n = a) := by
  rw [sh63 n hn]
  simp [lB, one_shl n hn, hn]
theorem lN_smod : ∀ n, n < 64 → (lN n).toBitVec.smod 64 = BitVec.ofNat 64 n := by decide +kernel
theorem lB_shr0 (x : Int64) {n : Nat} (hn : n < 64) : lB (x >>> ((nI n).toInt64 &&& 63)) 0 = lB x n := by
  rw [sh63 n hn]
  unfold lB
  rw [Int64.toBitVec_shiftRight, lN_smod n hn, BitVec.sshiftRight_eq', BitVec.getLsbD_sshiftRight]
  simp [Nat.mod_eq_of_lt (show n < 2 ^ 64 by omega), hn]
theorem lB_b (b : Bool) (a : Nat) : lB (if b then 1 else 0) a = (decide (a = 0) && b) := by
  cases b
  · simp [lB]
  · by_cases h : a = 0
    · subst h; decide
    · have : (1 : Int64).toBitVec = BitVec.twoPow 64 0 := by decide +kernel
      simp only [if_true, lB, this, BitVec.getLsbD_twoPow]
      simp [h, Ne.symm h]
theorem and1 (x : Int64) : x &&& 1 = if lB x 0 then 1 else 0 := by
  refine lB_ext fun a ha => ?_
  rw [lB_and, lB_b]
  have h1 := lB_b true a
  rw [if_pos rfl] at h1
  rw [h1]
  by_cases h : a = 0
  · subst h; simp
  · simp [h]
theorem bit_at (x : Int64) {n : Nat} (hn : n < 64) : (x >>> ((nI n).toInt64 &&& 63)) &&& 1 = if lB x n then 1 else 0 := by rw [and1, lB_shr0 x hn]
/-- the set of the places below n that fit -/
def lS (p : Nat → Bool) : Nat → Int64
  | 0 => 0
  | n + 1 => lS p n ||| (if p n then (1 : Int64) <<< ((nI n).toInt64 &&& 63) else 0)
theorem lB_S (p : Nat → Bool) {n : Nat} (hn : n ≤ 64) (a : Nat) : lB (lS p n) a = (decide (a < n) && p a) := by
  induction n with
  | zero => simp [lS, lB_0]
  | succ n ih =>
    rw [lS, lB_or, ih (by omega)]
    cases hp : p n
    · simp only [Bool.false_eq_true, if_false, lB_0, Bool.or_false]
      by_cases h : a = n
      · subst h; simp [hp]
      · have : (a < n + 1) ↔ (a < n) := by omega
        simp [this]
    · simp only [if_true]
      rw [lB_one (by omega)]
      by_cases h : a = n
      · subst h; simp [hp]
      · have : (a < n + 1) ↔ (a < n) := by omega
        simp [this, Ne.symm h]
theorem lS_ext {p q : Nat → Bool} {n : Nat} (h : ∀ a, a < n → p a = q a) : lS p n = lS q n := by
  induction n with
  | zero => rfl
  | succ n ih => rw [lS, lS, ih (fun a ha => h a (by omega)), h n (by omega)]
theorem lS_of {x : Int64} {n : Nat} (hn : n ≤ 64) (h : ∀ a, n ≤ a → lB x a = false) : lS (lB x) n = x := by
  refine lB_ext fun a _ => ?_
  rw [lB_S _ hn]
  by_cases h1 : a < n
  · simp [h1]
  · simp [h1, h a (by omega)]
theorem lS_0 {p : Nat → Bool} {n : Nat} (h : ∀ a, a < n → p a = false) : lS p n = 0 := by
  induction n with
  | zero => rfl
  | succ n ih =>
    rw [lS, ih (fun a ha => h a (by omega)), h n (by omega)]
    show (0 ||| 0 : Int64) = 0
    decide
