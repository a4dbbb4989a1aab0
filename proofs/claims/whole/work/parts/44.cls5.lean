/-! LONG.BITCOUNT, NUMBEROFTRAILINGZEROS, MIN, MAX -/
/-- a number by its fields of w bits -/
def fS (w : Nat) (f : Nat → Nat) : Nat → Nat
  | 0 => 0
  | n + 1 => 2 ^ (w * n) * f n + fS w f n
theorem fS_lt {w : Nat} {f : Nat → Nat} (h : ∀ i, f i < 2 ^ w) : ∀ n, fS w f n < 2 ^ (w * n)
  | 0 => by rw [fS, Nat.mul_zero]; decide
  | n + 1 => by
    have h1 := fS_lt h n
    have h2 := h n
    rw [fS, Nat.mul_add, Nat.mul_one, Nat.pow_add]
    have h3 : 2 ^ (w * n) * f n + 2 ^ (w * n) ≤ 2 ^ (w * n) * 2 ^ w := by rw [← Nat.mul_succ]; exact Nat.mul_le_mul_left _ h2
    omega
theorem fS_bit {w : Nat} (hw : 0 < w) {f : Nat → Nat} (h : ∀ i, f i < 2 ^ w) (j : Nat) : ∀ n, (fS w f n).testBit j = (decide (j < w * n) && (f (j / w)).testBit (j % w))
  | 0 => by rw [fS, Nat.zero_testBit, Nat.mul_zero]; simp
  | n + 1 => by
    rw [fS, Nat.testBit_two_pow_mul_add _ (fS_lt h n), fS_bit hw h j n]
    by_cases h1 : j < w * n
    · have h2 : j < w * (n + 1) := Nat.lt_of_lt_of_le h1 (Nat.mul_le_mul_left _ (Nat.le_succ n))
      simp [h1, h2]
    · rw [if_neg h1]
      by_cases h2 : j < w * (n + 1)
      · have h3 : j / w = n := Nat.div_eq_of_lt_le (by rw [Nat.mul_comm]; omega) (by rw [Nat.mul_comm]; exact h2)
        have h4 : j % w = j - w * n := by have := Nat.div_add_mod j w; rw [h3] at this; omega
        simp [h2, h3, h4]
      · have h5 : 2 ^ w ≤ 2 ^ (j - w * n) := Nat.pow_le_pow_right (by decide) (by rw [Nat.mul_add, Nat.mul_one] at h2; omega)
        rw [Nat.testBit_lt_two_pow (Nat.lt_of_lt_of_le (h n) h5)]
        simp [h2]
theorem fS_ext {w : Nat} {f g : Nat → Nat} : ∀ n, (∀ i, i < n → f i = g i) → fS w f n = fS w g n
  | 0, _ => rfl
  | n + 1, h => by rw [fS, fS, h n (by omega), fS_ext n (fun i hi => h i (by omega))]
theorem fS_and {w : Nat} (hw : 0 < w) {f g : Nat → Nat} (hf : ∀ i, f i < 2 ^ w) (hg : ∀ i, g i < 2 ^ w) (n : Nat) : fS w f n &&& fS w g n = fS w (fun i => f i &&& g i) n := by
  apply Nat.eq_of_testBit_eq
  intro j
  rw [Nat.testBit_and, fS_bit hw hf, fS_bit hw hg, fS_bit hw (fun i => Nat.and_lt_two_pow _ (hg i)), Nat.testBit_and]
  cases decide (j < w * n) <;> simp
theorem fS_s {w : Nat} {f : Nat → Nat} : ∀ n, fS w f (n + 1) = f 0 + 2 ^ w * fS w (fun i => f (i + 1)) n
  | 0 => by simp [fS]
  | n + 1 => by
    have e : 2 ^ (w * (n + 1)) = 2 ^ w * 2 ^ (w * n) := by rw [Nat.mul_add, Nat.mul_one, Nat.pow_add, Nat.mul_comm]
    rw [fS, fS_s n, fS, e, Nat.mul_add, Nat.mul_assoc]
    omega
theorem fS_div {w : Nat} {f : Nat → Nat} (h : f 0 < 2 ^ w) (n : Nat) (hz : f (n + 1) = 0) : fS w f (n + 1) / 2 ^ w = fS w (fun i => f (i + 1)) (n + 1) := by
  rw [fS_s, Nat.add_mul_div_left _ _ (Nat.two_pow_pos w), Nat.div_eq_of_lt h, Nat.zero_add]
  show _ = 2 ^ (w * n) * f (n + 1) + fS w (fun i => f (i + 1)) n
  rw [hz, Nat.mul_zero, Nat.zero_add]
theorem fS_2 {w : Nat} {f : Nat → Nat} : ∀ n, fS w f (2 * n) = fS (2 * w) (fun i => f (2 * i) + 2 ^ w * f (2 * i + 1)) n
  | 0 => rfl
  | n + 1 => by
    have e1 : 2 ^ (w * (2 * n + 1)) = 2 ^ (2 * w * n) * 2 ^ w := by rw [Nat.mul_add, Nat.mul_one, Nat.pow_add]; congr 2; rw [Nat.mul_left_comm, Nat.mul_assoc]
    have e2 : 2 ^ (w * (2 * n)) = 2 ^ (2 * w * n) := by congr 1; rw [Nat.mul_left_comm, Nat.mul_assoc]
    rw [show 2 * (n + 1) = 2 * n + 1 + 1 by omega, fS, fS, fS_2 n, fS, e1, e2, Nat.mul_add, Nat.mul_assoc]
    omega
theorem fS_add {w : Nat} {f g : Nat → Nat} : ∀ n, fS w f n + fS w g n = fS w (fun i => f i + g i) n
  | 0 => rfl
  | n + 1 => by
    rw [fS, fS, fS, ← fS_add n, Nat.mul_add]
    omega
theorem fS_sub {w : Nat} {f g : Nat → Nat} (h : ∀ i, g i ≤ f i) (n : Nat) : fS w f n - fS w g n = fS w (fun i => f i - g i) n := by
  have h1 := fS_add (w := w) (f := fun i => f i - g i) (g := g) n
  have h2 : fS w (fun i => f i - g i + g i) n = fS w f n := fS_ext n (fun i _ => by have := h i; show f i - g i + g i = f i; omega)
  rw [h2] at h1
  omega
theorem fS_le {w : Nat} {f g : Nat → Nat} (h : ∀ i, g i ≤ f i) (n : Nat) : fS w g n ≤ fS w f n := by
  have h1 := fS_add (w := w) (f := fun i => f i - g i) (g := g) n
  have h2 : fS w (fun i => f i - g i + g i) n = fS w f n := fS_ext n (fun i _ => by have := h i; show f i - g i + g i = f i; omega)
  rw [h2] at h1
  omega
def fB (n i : Nat) : Nat := if n.testBit i then 1 else 0
theorem fB_1 (n i : Nat) : fB n i < 2 ^ 1 := by unfold fB; split <;> decide
theorem fB_le (n i : Nat) : fB n i ≤ 1 := by unfold fB; split <;> decide
theorem fB_is {n : Nat} (h : n < 2 ^ 64) : n = fS 1 (fB n) 64 := by
  apply Nat.eq_of_testBit_eq
  intro j
  rw [fS_bit (by decide) (fB_1 n), Nat.div_one, Nat.mod_one]
  by_cases hj : j < 64
  · rw [decide_eq_true (by omega : j < 1 * 64), Bool.true_and]
    unfold fB
    cases n.testBit j <;> decide
  · rw [decide_eq_false (by omega : ¬ j < 1 * 64), Bool.false_and]
    exact Nat.testBit_lt_two_pow (Nat.lt_of_lt_of_le h (Nat.pow_le_pow_right (by decide) (by omega)))
theorem fB_z {n i : Nat} (h : n < 2 ^ 64) (hi : 64 ≤ i) : fB n i = 0 := by
  unfold fB
  rw [Nat.testBit_lt_two_pow (Nat.lt_of_lt_of_le h (Nat.pow_le_pow_right (by decide) hi))]
  rfl
theorem fS_b64 {w : Nat} {f : Nat → Nat} (h : ∀ i, f i < 2 ^ w) {n : Nat} (hn : w * n = 64) : fS w f n < 2 ^ 64 := by rw [← hn]; exact fS_lt h n
/-- all bits of a long -/
def bC (x : Int64) : Nat := (List.range 64).countP (lB x)
theorem fB_sum (x : Int64) : ∀ n, (List.range n).countP (lB x) = ((List.range n).map (fB x.toBitVec.toNat)).sum
  | 0 => rfl
  | n + 1 => by
    rw [List.range_succ, List.countP_append, List.map_append, List.sum_append, fB_sum x n, List.map_singleton, List.sum_singleton, List.countP_singleton]
    rfl
section BC
variable {b : Nat → Nat}
theorem bc_1 (h1 : ∀ i, b i ≤ 1) (hz : b 64 = 0) : fS 1 b 64 - (fS 1 b 64 / 2 &&& 6148914691236517205) = fS 2 (fun i => b (2 * i) + b (2 * i + 1)) 32 := by
  have hb : ∀ i, b i < 2 ^ 1 := fun i => by have := h1 i; omega
  have e1 : fS 1 b 64 / 2 = fS 2 (fun i => b (2 * i + 1) + 2 * b (2 * i + 2)) 32 := by
    rw [show (2 : Nat) = 2 ^ 1 from rfl, fS_div (n := 63) (hb 0) hz]
    exact fS_2 (w := 1) (f := fun i => b (i + 1)) 32
  have e2 : (6148914691236517205 : Nat) = fS 2 (fun _ => 1) 32 := by decide +kernel
  have e3 : fS 1 b 64 = fS 2 (fun i => b (2 * i) + 2 * b (2 * i + 1)) 32 := fS_2 (w := 1) (f := b) 32
  rw [e1, e2, fS_and (by decide) (fun i => by have := h1 (2 * i + 1); have := h1 (2 * i + 2); omega) (fun i => by decide)]
  rw [show (fun i => (b (2 * i + 1) + 2 * b (2 * i + 2)) &&& 1) = (fun i => b (2 * i + 1)) from funext fun i => by rw [Nat.and_one_is_mod]; have := h1 (2 * i + 1); omega]
  rw [e3, fS_sub (fun i => by have := h1 (2 * i + 1); omega)]
  exact fS_ext 32 (fun i _ => by show b (2 * i) + 2 * b (2 * i + 1) - b (2 * i + 1) = _; omega)
theorem bc_and3 {x y : Nat} (h : x < 4) : (x + 4 * y) &&& 3 = x := by
  rw [show (3 : Nat) = 2 ^ 2 - 1 from rfl, Nat.and_two_pow_sub_one_eq_mod]; omega
theorem bc_and15 {x y : Nat} (h : x < 16) : (x + 16 * y) &&& 15 = x := by
  rw [show (15 : Nat) = 2 ^ 4 - 1 from rfl, Nat.and_two_pow_sub_one_eq_mod]; omega
theorem bc_2 (h1 : ∀ i, b i ≤ 2) (hz : b 32 = 0) : (fS 2 b 32 &&& 3689348814741910323) + (fS 2 b 32 / 4 &&& 3689348814741910323) = fS 4 (fun i => b (2 * i) + b (2 * i + 1)) 16 := by
  have hb : ∀ i, b i < 2 ^ 2 := fun i => by have := h1 i; omega
  have e1 : fS 2 b 32 / 4 = fS 4 (fun i => b (2 * i + 1) + 4 * b (2 * i + 2)) 16 := by
    rw [show (4 : Nat) = 2 ^ 2 from rfl, fS_div (n := 31) (hb 0) hz]
    exact fS_2 (w := 2) (f := fun i => b (i + 1)) 16
  have e2 : (3689348814741910323 : Nat) = fS 4 (fun _ => 3) 16 := by decide +kernel
  have e3 : fS 2 b 32 = fS 4 (fun i => b (2 * i) + 4 * b (2 * i + 1)) 16 := fS_2 (w := 2) (f := b) 16
  rw [e1, e2, e3, fS_and (by decide) (fun i => by have := h1 (2 * i); have := h1 (2 * i + 1); omega) (fun i => by decide), fS_and (by decide) (fun i => by have := h1 (2 * i + 1); have := h1 (2 * i + 2); omega) (fun i => by decide), fS_add]
  refine fS_ext 16 (fun i _ => ?_)
  have a1 := h1 (2 * i)
  have a2 := h1 (2 * i + 1)
  show ((b (2 * i) + 4 * b (2 * i + 1)) &&& 3) + ((b (2 * i + 1) + 4 * b (2 * i + 2)) &&& 3) = _
  rw [bc_and3 (by omega), bc_and3 (by omega)]
theorem bc_3 (h1 : ∀ i, b i ≤ 4) (hz : b 16 = 0) : (fS 4 b 16 + fS 4 b 16 / 16 &&& 1085102592571150095) = fS 8 (fun i => b (2 * i) + b (2 * i + 1)) 8 := by
  have hb : ∀ i, b i < 2 ^ 4 := fun i => by have := h1 i; omega
  have e1 : fS 4 b 16 / 16 = fS 4 (fun i => b (i + 1)) 16 := by
    rw [show (16 : Nat) = 2 ^ 4 from rfl, fS_div (n := 15) (hb 0) hz]
  have e2 : (1085102592571150095 : Nat) = fS 8 (fun _ => 15) 8 := by decide +kernel
  have e3 : fS 4 (fun i => b i + b (i + 1)) 16 = fS 8 (fun i => (b (2 * i) + b (2 * i + 1)) + 16 * (b (2 * i + 1) + b (2 * i + 2))) 8 := fS_2 (w := 4) (f := fun i => b i + b (i + 1)) 8
  rw [e1, fS_add, e2, e3, fS_and (by decide) (fun i => by have := h1 (2 * i); have := h1 (2 * i + 1); have := h1 (2 * i + 2); omega) (fun i => by decide)]
  refine fS_ext 8 (fun i _ => ?_)
  have a1 := h1 (2 * i)
  have a2 := h1 (2 * i + 1)
  exact bc_and15 (by omega)
theorem bc_4 {k : Nat} (hk : 0 < k ∧ k ≤ 7) (h1 : ∀ i, b i < 256) (hz : ∀ i, 8 ≤ i → b i = 0) : fS 8 b 8 / 2 ^ (8 * k) = fS 8 (fun i => b (i + k)) 8 := by
  obtain ⟨h0, h7⟩ := hk
  induction k with
  | zero => omega
  | succ k ih =>
    by_cases hk0 : k = 0
    · subst hk0
      exact fS_div (w := 8) (n := 7) (h1 0) (hz 8 (by omega))
    · rw [Nat.mul_add, Nat.mul_one, Nat.pow_add, ← Nat.div_div_eq_div_mul, ih (by omega) (by omega)]
      rw [show (8 : Nat) = 7 + 1 from rfl, fS_div (w := 7 + 1) (f := fun i => b (i + k)) (n := 7) (h1 _) (hz _ (by omega))]
      exact fS_ext (7 + 1) (fun i _ => by show b (i + 1 + k) = b (i + (k + 1)); congr 1; omega)
end BC
section CLS
variable {G : gG} {M : gM}
set_option maxHeartbeats 8000000 in
theorem bc_all (N : Nat) (hN : N < 2 ^ 64) : ∃ N1 N2 N3 N4 N5 N6, N1 = N - (N / 2 &&& 6148914691236517205) ∧ (N / 2 &&& 6148914691236517205) ≤ N ∧ N1 < 2 ^ 64 ∧ N2 = (N1 &&& 3689348814741910323) + (N1 / 4 &&& 3689348814741910323) ∧ N2 < 2 ^ 64 ∧ N2 + N2 / 16 < 2 ^ 64 ∧ N3 = (N2 + N2 / 16 &&& 1085102592571150095) ∧ N3 < 2 ^ 64 ∧ N4 = N3 + N3 / 256 ∧ N4 < 2 ^ 64 ∧ N5 = N4 + N4 / 65536 ∧ N5 < 2 ^ 64 ∧ N6 = N5 + N5 / 4294967296 ∧ N6 < 2 ^ 64 ∧ N6 % 128 = ((List.range 64).map (fB N)).sum := by
  have h1 := fB_le N
  have hz := fun i (hi : 64 ≤ i) => fB_z (i := i) hN hi
  have eN := fB_is hN
  generalize fB N = b at h1 hz eN
  have q1 := bc_1 h1 (hz 64 (by omega))
  rw [← eN] at q1
  have q2 := bc_2 (b := fun i => b (2 * i) + b (2 * i + 1)) (fun i => by have := h1 (2 * i); have := h1 (2 * i + 1); show b (2 * i) + b (2 * i + 1) ≤ 2; omega) (by show b (2 * 32) + b (2 * 32 + 1) = 0; rw [hz _ (by omega), hz _ (by omega)])
  have q3 := bc_3 (b := fun i => b (2 * (2 * i)) + b (2 * (2 * i) + 1) + (b (2 * (2 * i + 1)) + b (2 * (2 * i + 1) + 1))) (fun i => by have := h1 (2 * (2 * i)); have := h1 (2 * (2 * i) + 1); have := h1 (2 * (2 * i + 1)); have := h1 (2 * (2 * i + 1) + 1); show b (2 * (2 * i)) + b (2 * (2 * i) + 1) + (b (2 * (2 * i + 1)) + b (2 * (2 * i + 1) + 1)) ≤ 4; omega) (by show b (2 * (2 * 16)) + b (2 * (2 * 16) + 1) + (b (2 * (2 * 16 + 1)) + b (2 * (2 * 16 + 1) + 1)) = 0; rw [hz _ (by omega), hz _ (by omega), hz _ (by omega), hz _ (by omega)])
  have c1 : ∀ i, b (2 * i) + b (2 * i + 1) ≤ 2 := fun i => by have := h1 (2 * i); have := h1 (2 * i + 1); omega
  have c2 : ∀ i, b (2 * (2 * i)) + b (2 * (2 * i) + 1) + (b (2 * (2 * i + 1)) + b (2 * (2 * i + 1) + 1)) ≤ 4 := fun i => by have := c1 (2 * i); have := c1 (2 * i + 1); omega
  obtain ⟨g, hg⟩ : ∃ g : Nat → Nat, g = fun i => b (2 * (2 * (2 * i))) + b (2 * (2 * (2 * i)) + 1) + (b (2 * (2 * (2 * i) + 1)) + b (2 * (2 * (2 * i) + 1) + 1)) + (b (2 * (2 * (2 * i + 1))) + b (2 * (2 * (2 * i + 1)) + 1) + (b (2 * (2 * (2 * i + 1) + 1)) + b (2 * (2 * (2 * i + 1) + 1) + 1))) := ⟨_, rfl⟩
  rw [← hg] at q3
  have g8 : ∀ i, g i ≤ 8 := fun i => by rw [hg]; have := c2 (2 * i); have := c2 (2 * i + 1); show b (2 * (2 * (2 * i))) + b (2 * (2 * (2 * i)) + 1) + (b (2 * (2 * (2 * i) + 1)) + b (2 * (2 * (2 * i) + 1) + 1)) + (b (2 * (2 * (2 * i + 1))) + b (2 * (2 * (2 * i + 1)) + 1) + (b (2 * (2 * (2 * i + 1) + 1)) + b (2 * (2 * (2 * i + 1) + 1) + 1))) ≤ 8; omega
  have gz : ∀ i, 8 ≤ i → g i = 0 := fun i hi => by rw [hg]; show b (2 * (2 * (2 * i))) + b (2 * (2 * (2 * i)) + 1) + (b (2 * (2 * (2 * i) + 1)) + b (2 * (2 * (2 * i) + 1) + 1)) + (b (2 * (2 * (2 * i + 1))) + b (2 * (2 * (2 * i + 1)) + 1) + (b (2 * (2 * (2 * i + 1) + 1)) + b (2 * (2 * (2 * i + 1) + 1) + 1))) = 0; rw [hz _ (by omega), hz _ (by omega), hz _ (by omega), hz _ (by omega), hz _ (by omega), hz _ (by omega), hz _ (by omega), hz _ (by omega)]
  have d8 : ∀ i, g i + g (i + 1) ≤ 16 := fun i => by have := g8 i; have := g8 (i + 1); omega
  obtain ⟨g4, hg4⟩ : ∃ g4 : Nat → Nat, g4 = fun i => g i + g (i + 1) := ⟨_, rfl⟩
  have g4b : ∀ i, g4 i ≤ 16 := fun i => by rw [hg4]; exact d8 i
  have g4z : ∀ i, 8 ≤ i → g4 i = 0 := fun i hi => by rw [hg4]; show g i + g (i + 1) = 0; rw [gz i hi, gz _ (by omega)]
  obtain ⟨g5, hg5⟩ : ∃ g5 : Nat → Nat, g5 = fun i => g4 i + g4 (i + 2) := ⟨_, rfl⟩
  have g5b : ∀ i, g5 i ≤ 32 := fun i => by rw [hg5]; have := g4b i; have := g4b (i + 2); show g4 i + g4 (i + 2) ≤ 32; omega
  have g5z : ∀ i, 8 ≤ i → g5 i = 0 := fun i hi => by rw [hg5]; show g4 i + g4 (i + 2) = 0; rw [g4z i hi, g4z _ (by omega)]
  obtain ⟨g6, hg6⟩ : ∃ g6 : Nat → Nat, g6 = fun i => g5 i + g5 (i + 4) := ⟨_, rfl⟩
  have g6b : ∀ i, g6 i ≤ 64 := fun i => by rw [hg6]; have := g5b i; have := g5b (i + 4); show g5 i + g5 (i + 4) ≤ 64; omega
  have q4 : fS 8 g 8 + fS 8 g 8 / 256 = fS 8 g4 8 := by
    rw [show (256 : Nat) = 2 ^ (8 * 1) from rfl, bc_4 (k := 1) (by decide) (fun i => by have := g8 i; omega) gz, fS_add, hg4]
  have q5 : fS 8 g4 8 + fS 8 g4 8 / 65536 = fS 8 g5 8 := by
    rw [show (65536 : Nat) = 2 ^ (8 * 2) from rfl, bc_4 (k := 2) (by decide) (fun i => by have := g4b i; omega) g4z, fS_add, hg5]
  have q6 : fS 8 g5 8 + fS 8 g5 8 / 4294967296 = fS 8 g6 8 := by
    rw [show (4294967296 : Nat) = 2 ^ (8 * 4) from rfl, bc_4 (k := 4) (by decide) (fun i => by have := g5b i; omega) g5z, fS_add, hg6]
  obtain ⟨e, he⟩ : ∃ e : Nat → Nat, e = fun i => b (2 * (2 * i)) + b (2 * (2 * i) + 1) + (b (2 * (2 * i + 1)) + b (2 * (2 * i + 1) + 1)) := ⟨_, rfl⟩
  have e4 : ∀ i, e i ≤ 4 := fun i => by rw [he]; exact c2 i
  obtain ⟨c, hc⟩ : ∃ c : Nat → Nat, c = fun i => b (2 * i) + b (2 * i + 1) := ⟨_, rfl⟩
  have c3 : ∀ i, c i ≤ 2 := fun i => by rw [hc]; exact c1 i
  have q2' : (fS 2 c 32 &&& 3689348814741910323) + (fS 2 c 32 / 4 &&& 3689348814741910323) = fS 4 e 16 := by rw [hc, he]; exact q2
  have q3' : (fS 4 e 16 + fS 4 e 16 / 16 &&& 1085102592571150095) = fS 8 g 8 := by rw [he]; exact q3
  have q1' : N - (N / 2 &&& 6148914691236517205) = fS 2 c 32 := by rw [hc]; exact q1
  have hsum : ((List.range 64).map b).sum = g6 0 := by
    rw [hg6, hg5, hg4, hg]
    rw [show List.range 64 = [0, 1, 2, 3, 4, 5, 6, 7, 8, 9, 10, 11, 12, 13, 14, 15, 16, 17, 18, 19, 20, 21, 22, 23, 24, 25, 26, 27, 28, 29, 30, 31, 32, 33, 34, 35, 36, 37, 38, 39, 40, 41, 42, 43, 44, 45, 46, 47, 48, 49, 50, 51, 52, 53, 54, 55, 56, 57, 58, 59, 60, 61, 62, 63] from by decide]
    simp only [List.map_cons, List.map_nil, List.sum_cons, List.sum_nil, Nat.reduceMul, Nat.reduceAdd, Nat.add_zero]
    simp only [Nat.add_assoc]
  have l2 : fS 4 e 16 < 2 ^ 64 := fS_b64 (fun i => by have := e4 i; omega) (by decide)
  have l2' : fS 4 e 16 + fS 4 e 16 / 16 < 2 ^ 64 := by
    have h4 : fS 4 e 16 ≤ fS 4 (fun _ => 4) 16 := fS_le (fun i => e4 i) 16
    have e5 : fS 4 (fun _ => 4) 16 = 4919131752989213764 := by decide +kernel
    rw [e5] at h4
    omega
  clear hg hg4 hg5 he hc q1 q2 q3 eN hz h1 c1 c2 d8
  refine ⟨fS 2 c 32, fS 4 e 16, fS 8 g 8, fS 8 g4 8, fS 8 g5 8, fS 8 g6 8, q1'.symm, Nat.le_trans Nat.and_le_left (Nat.div_le_self _ _), fS_b64 (fun i => by have := c3 i; omega) (by decide), q2'.symm, l2, l2', q3'.symm, fS_b64 (fun i => by have := g8 i; omega) (by decide), q4.symm, fS_b64 (fun i => by have := g4b i; omega) (by decide), q5.symm, fS_b64 (fun i => by have := g5b i; omega) (by decide), q6.symm, fS_b64 (fun i => by have := g6b i; omega) (by decide), ?_⟩
  rw [hsum, fS_s (n := 7)]
  have := g6b 0
  omega
theorem gJ_ve {k : gMd} {d nc ns pc : Nat} {lv : List (Nat × Value)} {st : List Value} {Q : gP} {x y : Int64} (h : x = y) (kk : gJ G k d nc ns M pc lv (.long y :: st) Q) : gJ G k d nc ns M pc lv (.long x :: st) Q := by
  rw [h]
  exact kk
theorem l2i_nat (N : Nat) : (lN N).toInt32 = nI N := by
  apply Int32.toBitVec_inj.mp
  rw [Int64.toBitVec_toInt32, wb_tb]
  show BitVec.signExtend 32 (BitVec.ofNat 64 N) = BitVec.ofNat 32 N
  rw [BitVec.signExtend_eq_setWidth_of_le _ (by decide)]
  apply BitVec.eq_of_toNat_eq
  rw [BitVec.toNat_setWidth, BitVec.toNat_ofNat, BitVec.toNat_ofNat]
  omega
theorem l2i_127 {n : Nat} : (lN n).toInt32 &&& 127 = nI (n % 128) := by
  rw [l2i_nat]
  apply Int32.toBitVec_inj.mp
  apply BitVec.eq_of_toNat_eq
  rw [Int32.toBitVec_and]
  show (BitVec.ofNat 32 n &&& BitVec.ofNat 32 127).toNat = (BitVec.ofNat 32 (n % 128)).toNat
  rw [BitVec.toNat_and, BitVec.toNat_ofNat, BitVec.toNat_ofNat, BitVec.toNat_ofNat, show 127 % 2 ^ 32 = 2 ^ 7 - 1 from rfl, Nat.and_two_pow_sub_one_eq_mod]
  omega
set_option maxRecDepth 20000 in
theorem c13_bitCount (x : Int64) : gCon G kJ13_bitCount_95d88 0 0 0 M [.long x] (fun M2 v => M2 = M ∧ v = some (.int (nI (bC x)))) := by
  obtain ⟨N, hN, hx⟩ := wb_of x
  have hs : bC x = ((List.range 64).map (fB N)).sum := by
    rw [bC, fB_sum, hx, wb_tn hN]
  rw [hs]
  subst hx
  obtain ⟨N1, N2, N3, N4, N5, N6, e1, l1, b1, e2, b2, b2', e3, b3, e4, b4, e5, b5, e6, b6, e7⟩ := bc_all N hN
  rw [← e7]
  have k1 : lN N - (((lN N).toUInt64 >>> ((nI 1).toInt64.toUInt64 &&& Int64.toUInt64 63)).toInt64 &&& 6148914691236517205) = lN N1 := by
    rw [wb_shr hN (by decide), show (6148914691236517205 : Int64) = lN 6148914691236517205 from rfl, wb_and (by omega) (by decide), lN_sub (by rw [show (2 : Nat) ^ 1 = 2 from rfl]; exact l1), e1]
  have k2 : (lN N1 &&& 3689348814741910323) + (((lN N1).toUInt64 >>> ((nI 2).toInt64.toUInt64 &&& Int64.toUInt64 63)).toInt64 &&& 3689348814741910323) = lN N2 := by
    rw [wb_shr b1 (by decide), show (3689348814741910323 : Int64) = lN 3689348814741910323 from rfl, wb_and b1 (by decide), wb_and (by omega) (by decide), lN_add, e2]
  have k3 : (lN N2 + ((lN N2).toUInt64 >>> ((nI 4).toInt64.toUInt64 &&& Int64.toUInt64 63)).toInt64) &&& 1085102592571150095 = lN N3 := by
    rw [wb_shr b2 (by decide), lN_add, show (1085102592571150095 : Int64) = lN 1085102592571150095 from rfl, wb_and b2' (by decide), e3]
  have k4 : lN N3 + ((lN N3).toUInt64 >>> ((nI 8).toInt64.toUInt64 &&& Int64.toUInt64 63)).toInt64 = lN N4 := by
    rw [wb_shr b3 (by decide), lN_add, e4]
  have k5 : lN N4 + ((lN N4).toUInt64 >>> ((nI 16).toInt64.toUInt64 &&& Int64.toUInt64 63)).toInt64 = lN N5 := by
    rw [wb_shr b4 (by decide), lN_add, e5]
  have k6 : lN N5 + ((lN N5).toUInt64 >>> ((nI 32).toInt64.toUInt64 &&& Int64.toUInt64 63)).toInt64 = lN N6 := by
    rw [wb_shr b5 (by decide), lN_add, e6]
  refine gCon_of (by decide) (Nat.le_of_ble_eq_true rfl) ?_
  show gJ _ _ _ _ _ _ 0 [(0, _)] [] _
  refine gJ_lload_n dJ13_bitCount_95d88_0 rfl rfl ?_
  refine gJ_lload_n dJ13_bitCount_95d88_1 rfl rfl ?_
  refine gJ_iconst (v := 1) dJ13_bitCount_95d88_2 (by decide) ?_
  refine gJ_lushr dJ13_bitCount_95d88_3 ?_
  refine gJ_ldc2 (v := 6148914691236517205) dJ13_bitCount_95d88_4 cJ13_314 ?_
  refine gJ_land dJ13_bitCount_95d88_7 ?_
  refine gJ_lsub dJ13_bitCount_95d88_8 ?_
  refine gJ_ve k1 ?_
  refine gJ_lstore_n (lv2 := [(0, _)]) dJ13_bitCount_95d88_9 rfl rfl rfl ?_
  refine gJ_lload_n dJ13_bitCount_95d88_10 rfl rfl ?_
  refine gJ_ldc2 (v := 3689348814741910323) dJ13_bitCount_95d88_11 cJ13_316 ?_
  refine gJ_land dJ13_bitCount_95d88_14 ?_
  refine gJ_lload_n dJ13_bitCount_95d88_15 rfl rfl ?_
  refine gJ_iconst (v := 2) dJ13_bitCount_95d88_16 (by decide) ?_
  refine gJ_lushr dJ13_bitCount_95d88_17 ?_
  refine gJ_ldc2 (v := 3689348814741910323) dJ13_bitCount_95d88_18 cJ13_316 ?_
  refine gJ_land dJ13_bitCount_95d88_21 ?_
  refine gJ_ladd dJ13_bitCount_95d88_22 ?_
  refine gJ_ve k2 ?_
  refine gJ_lstore_n (lv2 := [(0, _)]) dJ13_bitCount_95d88_23 rfl rfl rfl ?_
  refine gJ_lload_n dJ13_bitCount_95d88_24 rfl rfl ?_
  refine gJ_lload_n dJ13_bitCount_95d88_25 rfl rfl ?_
  refine gJ_iconst (v := 4) dJ13_bitCount_95d88_26 (by decide) ?_
  refine gJ_lushr dJ13_bitCount_95d88_27 ?_
  refine gJ_ladd dJ13_bitCount_95d88_28 ?_
  refine gJ_ldc2 (v := 1085102592571150095) dJ13_bitCount_95d88_29 cJ13_318 ?_
  refine gJ_land dJ13_bitCount_95d88_32 ?_
  refine gJ_ve k3 ?_
  refine gJ_lstore_n (lv2 := [(0, _)]) dJ13_bitCount_95d88_33 rfl rfl rfl ?_
  refine gJ_lload_n dJ13_bitCount_95d88_34 rfl rfl ?_
  refine gJ_lload_n dJ13_bitCount_95d88_35 rfl rfl ?_
  refine gJ_bipush (v := 8) dJ13_bitCount_95d88_36 (by decide) ?_
  refine gJ_lushr dJ13_bitCount_95d88_38 ?_
  refine gJ_ladd dJ13_bitCount_95d88_39 ?_
  refine gJ_ve k4 ?_
  refine gJ_lstore_n (lv2 := [(0, _)]) dJ13_bitCount_95d88_40 rfl rfl rfl ?_
  refine gJ_lload_n dJ13_bitCount_95d88_41 rfl rfl ?_
  refine gJ_lload_n dJ13_bitCount_95d88_42 rfl rfl ?_
  refine gJ_bipush (v := 16) dJ13_bitCount_95d88_43 (by decide) ?_
  refine gJ_lushr dJ13_bitCount_95d88_45 ?_
  refine gJ_ladd dJ13_bitCount_95d88_46 ?_
  refine gJ_ve k5 ?_
  refine gJ_lstore_n (lv2 := [(0, _)]) dJ13_bitCount_95d88_47 rfl rfl rfl ?_
  refine gJ_lload_n dJ13_bitCount_95d88_48 rfl rfl ?_
  refine gJ_lload_n dJ13_bitCount_95d88_49 rfl rfl ?_
  refine gJ_bipush (v := 32) dJ13_bitCount_95d88_50 (by decide) ?_
  refine gJ_lushr dJ13_bitCount_95d88_52 ?_
  refine gJ_ladd dJ13_bitCount_95d88_53 ?_
  refine gJ_ve k6 ?_
  refine gJ_lstore_n (lv2 := [(0, _)]) dJ13_bitCount_95d88_54 rfl rfl rfl ?_
  refine gJ_lload_n dJ13_bitCount_95d88_55 rfl rfl ?_
  refine gJ_l2i dJ13_bitCount_95d88_56 ?_
  refine gJ_bipush (v := 127) dJ13_bitCount_95d88_57 (by decide) ?_
  refine gJ_iand dJ13_bitCount_95d88_59 ?_
  refine gJ_iret dJ13_bitCount_95d88_60 rfl ?_
  refine ⟨rfl, ?_⟩
  rw [← l2i_127]
section MM
variable {k : gMd} {d nc ns : Nat} {pc : Nat} {lv : List (Nat × Value)} {st : List Value} {Q : gP}
theorem gJ_mmmin {i : Nat} {x y : Int32} (hB : gLkB kJ9_min_7cf53 2) (hL : Cond.methodLink k.1.cls i kJ9_min_7cf53.1 ∈ gW0) (hI : Cond.static kJ9_min_7cf53.1 ∈ gW0) (hd : decode k.2.1 pc = .ok (.invokestatic i, 3)) (hst : (st.map fun v => v.category).sum ≤ 8) (hdp : 1 ≤ d) (kk : gJ G k d nc ns M (pc + 3) lv (.int (if y < x then y else x) :: st) Q) : gJ G k d nc ns M pc lv (.int y :: .int x :: st) Q := by
  intro p l e R s m args below meth c H locs cells slots Z ls C hw hs hl h1 h2 h3 h4 K
  have hts := C.2.2.2.2.1
  exact va_mmin C.1 C.2.1 (by rw [C.2.2.1]; exact hl.1.symm) C.2.2.2.1 (hts _ hL) (hts _ hI) (hts _ hB.2.1) (hts _ hB.1) (by omega) (by omega) (by omega) (by omega) hd (kk p l e R s m args below meth c H locs cells slots Z ls C hw hs hl h1 h2 h3 h4 K)
theorem gJ_mmmax {i : Nat} {x y : Int32} (hB : gLkB kJ9_max_7cf53 2) (hL : Cond.methodLink k.1.cls i kJ9_max_7cf53.1 ∈ gW0) (hI : Cond.static kJ9_max_7cf53.1 ∈ gW0) (hd : decode k.2.1 pc = .ok (.invokestatic i, 3)) (hst : (st.map fun v => v.category).sum ≤ 8) (hdp : 1 ≤ d) (kk : gJ G k d nc ns M (pc + 3) lv (.int (if x < y then y else x) :: st) Q) : gJ G k d nc ns M pc lv (.int y :: .int x :: st) Q := by
  intro p l e R s m args below meth c H locs cells slots Z ls C hw hs hl h1 h2 h3 h4 K
  have hts := C.2.2.2.2.1
  exact va_mmax C.1 C.2.1 (by rw [C.2.2.1]; exact hl.1.symm) C.2.2.2.1 (hts _ hL) (hts _ hI) (hts _ hB.2.1) (hts _ hB.1) (by omega) (by omega) (by omega) (by omega) hd (kk p l e R s m args below meth c H locs cells slots Z ls C hw hs hl h1 h2 h3 h4 K)
end MM
end CLS
