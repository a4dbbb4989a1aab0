/-! THE CLASS: bits, small helpers -/
theorem lB_nat (x : Int64) (a : Nat) : lB x a = x.toBitVec.toNat.testBit a := rfl
theorem lB_lN {n a : Nat} (h : n < 2 ^ 64) : lB (lN n) a = n.testBit a := by rw [lB_nat, wb_tn h]
theorem lB_ushr (x : Int64) {n : Nat} (hn : n < 64) (a : Nat) : lB ((x.toUInt64 >>> ((nI n).toInt64.toUInt64 &&& Int64.toUInt64 63)).toInt64) a = lB x (n + a) := by
  obtain ⟨y, hy, rfl⟩ := wb_of x
  rw [wb_shr hy hn, lB_lN (Nat.lt_of_le_of_lt (Nat.div_le_self _ _) hy), lB_lN hy, Nat.testBit_div_two_pow, Nat.add_comm]
theorem lB_shl (x : Int64) {n : Nat} (hn : n < 64) {a : Nat} (ha : a < 64) : lB (x <<< ((nI n).toInt64 &&& 63)) a = (decide (n ≤ a) && lB x (a - n)) := by
  obtain ⟨y, hy, rfl⟩ := wb_of x
  rw [wb_shl y hn, wb_mod, lB_lN (Nat.mod_lt _ (by decide)), lB_lN hy, Nat.testBit_mod_two_pow, Nat.mul_comm, Nat.testBit_two_pow_mul]
  simp [ha]
theorem cmp_b0 {b : Bool} : lg_cmp (if b then 1 else 0) 0 = 0 ↔ b = false := by rw [lg_cmp_eq]; cases b <;> decide
theorem lS_b {p : Nat → Bool} {a : Nat} : lB (lS p 60) a = (decide (a < 60) && p a) := lB_S p (by decide) a
theorem lS_and {p q : Nat → Bool} : lS p 60 &&& lS q 60 = lS (fun a => p a && q a) 60 := by
  refine lB_ext fun a _ => ?_
  rw [lB_and, lS_b, lS_b, lS_b]
  cases decide (a < 60) <;> simp
theorem lS_or {p q : Nat → Bool} : lS p 60 ||| lS q 60 = lS (fun a => p a || q a) 60 := by
  refine lB_ext fun a _ => ?_
  rw [lB_or, lS_b, lS_b, lS_b]
  cases decide (a < 60) <;> simp
theorem lS_an {p q : Nat → Bool} : lS p 60 &&& (lS q 60 ^^^ (-1)) = lS (fun a => p a && !q a) 60 := by
  refine lB_ext fun a ha => ?_
  rw [lB_and, lB_not _ ha, lS_b, lS_b, lS_b]
  cases decide (a < 60) <;> simp
theorem lS_z {p : Nat → Bool} : lS p 60 = 0 ↔ ∀ a, a < 60 → p a = false := by
  refine ⟨fun h a ha => ?_, lS_0⟩
  have h2 : lB (lS p 60) a = false := by rw [h, lB_0]
  rw [lS_b, decide_eq_true ha] at h2
  simpa using h2
theorem lS_e {p q : Nat → Bool} (h : ∀ a, a < 60 → p a = q a) : lS p 60 = lS q 60 := lS_ext h
theorem cEvery : (1152921504606846975 : Int64) = lS (fun _ => true) 60 := by decide +kernel
theorem c0_S : (0 : Int64) = lS (fun _ => false) 60 := by decide +kernel
theorem cSer_b : ∀ s, s < 12 → (281543712968705 : Int64) <<< ((nI s).toInt64 &&& 63) = lS (fun a => decide (a % 12 = s)) 60 := by decide +kernel
theorem cRow_b : ∀ r, r < 5 → (4095 : Int64) <<< ((nI (r * 12)).toInt64 &&& 63) = lS (fun a => decide (a / 12 = r)) 60 := by decide +kernel
theorem one_S : ∀ s, s < 60 → (1 : Int64) <<< ((nI s).toInt64 &&& 63) = lS (fun a => decide (a = s)) 60 := by decide +kernel
section CLS
variable {G : gG} {M : gM}
theorem c11_isSeries (x : Int32) : gCon G kX11_isSeries 0 0 0 M [.int x] (fun M2 v => M2 = M ∧ v = some (.int (gb (mIn x 0 11)))) := by
  refine gCon_of (by decide) (Nat.le_of_ble_eq_true rfl) ?_
  have h12 : ((12 : Int32) ≤ x) ↔ ¬ x ≤ 11 := by
    rw [Int32.not_le, Int32.le_iff_toInt_le, Int32.lt_iff_toInt_lt]
    have e1 : (11 : Int32).toInt = 11 := by decide
    have e2 : (12 : Int32).toInt = 12 := by decide
    omega
  show gJ _ _ _ _ _ _ 0 [(0, _)] [] _
  refine gJ_iload_n dX11_isSeries_0 rfl rfl ?_
  refine gJ_if_lt (tgt := 14) dX11_isSeries_1 (by decide) (fun c1 => ?_) (fun c1 => ?_)
  · refine gJ_iconst (v := 0) dX11_isSeries_14 (by decide) ?_
    refine gJ_zret dX11_isSeries_15 rfl (by first | exact gz0 | exact gz1 | exact gb01 _) ?_
    refine ⟨rfl, ?_⟩
    rw [mIn, decide_eq_false (Int32.not_le.mpr c1)]
    rfl
  · refine gJ_iload_n dX11_isSeries_4 rfl rfl ?_
    refine gJ_bipush (v := 12) dX11_isSeries_5 (by decide) ?_
    refine gJ_icmp_ge (tgt := 14) dX11_isSeries_7 (by decide) (fun c7 => ?_) (fun c7 => ?_)
    · refine gJ_iconst (v := 0) dX11_isSeries_14 (by decide) ?_
      refine gJ_zret dX11_isSeries_15 rfl (by first | exact gz0 | exact gz1 | exact gb01 _) ?_
      refine ⟨rfl, ?_⟩
      rw [mIn, decide_eq_false (h12.mp c7), Bool.and_false]
      rfl
    · refine gJ_iconst (v := 1) dX11_isSeries_10 (by decide) ?_
      refine gJ_goto (tgt := 15) dX11_isSeries_11 (by decide) ?_
      refine gJ_zret dX11_isSeries_15 rfl (by first | exact gz0 | exact gz1 | exact gb01 _) ?_
      refine ⟨rfl, ?_⟩
      rw [mIn, decide_eq_true (Int32.not_lt.mp c1), decide_eq_true (Classical.not_not.mp (fun h => c7 (h12.mpr h)))]
      rfl
theorem c11_isByte (x : Int32) : gCon G kX11_isByte 0 0 0 M [.int x] (fun M2 v => M2 = M ∧ v = some (.int (gb (mIn x 0 127)))) := by
  refine gCon_of (by decide) (Nat.le_of_ble_eq_true rfl) ?_
  show gJ _ _ _ _ _ _ 0 [(0, _)] [] _
  refine gJ_iload_n dX11_isByte_0 rfl rfl ?_
  refine gJ_if_lt (tgt := 14) dX11_isByte_1 (by decide) (fun c1 => ?_) (fun c1 => ?_)
  · refine gJ_iconst (v := 0) dX11_isByte_14 (by decide) ?_
    refine gJ_zret dX11_isByte_15 rfl (by first | exact gz0 | exact gz1 | exact gb01 _) ?_
    refine ⟨rfl, ?_⟩
    rw [mIn, decide_eq_false (Int32.not_le.mpr c1)]
    rfl
  · refine gJ_iload_n dX11_isByte_4 rfl rfl ?_
    refine gJ_bipush (v := 127) dX11_isByte_5 (by decide) ?_
    refine gJ_icmp_gt (tgt := 14) dX11_isByte_7 (by decide) (fun c7 => ?_) (fun c7 => ?_)
    · refine gJ_iconst (v := 0) dX11_isByte_14 (by decide) ?_
      refine gJ_zret dX11_isByte_15 rfl (by first | exact gz0 | exact gz1 | exact gb01 _) ?_
      refine ⟨rfl, ?_⟩
      rw [mIn, decide_eq_false (Int32.not_le.mpr c7), Bool.and_false]
      rfl
    · refine gJ_iconst (v := 1) dX11_isByte_10 (by decide) ?_
      refine gJ_goto (tgt := 15) dX11_isByte_11 (by decide) ?_
      refine gJ_zret dX11_isByte_15 rfl (by first | exact gz0 | exact gz1 | exact gb01 _) ?_
      refine ⟨rfl, ?_⟩
      rw [mIn, decide_eq_true (Int32.not_lt.mp c1), decide_eq_true (Int32.not_lt.mp c7)]
      rfl
theorem c11_isKind (x : Int32) : gCon G kX11_isKind 0 0 0 M [.int x] (fun M2 v => M2 = M ∧ v = some (.int (gb (mIn x 0 2)))) := by
  refine gCon_of (by decide) (Nat.le_of_ble_eq_true rfl) ?_
  show gJ _ _ _ _ _ _ 0 [(0, _)] [] _
  refine gJ_iload_n dX11_isKind_0 rfl rfl ?_
  refine gJ_if_lt (tgt := 13) dX11_isKind_1 (by decide) (fun c1 => ?_) (fun c1 => ?_)
  · refine gJ_iconst (v := 0) dX11_isKind_13 (by decide) ?_
    refine gJ_zret dX11_isKind_14 rfl (by first | exact gz0 | exact gz1 | exact gb01 _) ?_
    refine ⟨rfl, ?_⟩
    rw [mIn, decide_eq_false (Int32.not_le.mpr c1)]
    rfl
  · refine gJ_iload_n dX11_isKind_4 rfl rfl ?_
    refine gJ_iconst (v := 2) dX11_isKind_5 (by decide) ?_
    refine gJ_icmp_gt (tgt := 13) dX11_isKind_6 (by decide) (fun c6 => ?_) (fun c6 => ?_)
    · refine gJ_iconst (v := 0) dX11_isKind_13 (by decide) ?_
      refine gJ_zret dX11_isKind_14 rfl (by first | exact gz0 | exact gz1 | exact gb01 _) ?_
      refine ⟨rfl, ?_⟩
      rw [mIn, decide_eq_false (Int32.not_le.mpr c6), Bool.and_false]
      rfl
    · refine gJ_iconst (v := 1) dX11_isKind_9 (by decide) ?_
      refine gJ_goto (tgt := 14) dX11_isKind_10 (by decide) ?_
      refine gJ_zret dX11_isKind_14 rfl (by first | exact gz0 | exact gz1 | exact gb01 _) ?_
      refine ⟨rfl, ?_⟩
      rw [mIn, decide_eq_true (Int32.not_lt.mp c1), decide_eq_true (Int32.not_lt.mp c6)]
      rfl
theorem c11_isSpan (x : Int32) : gCon G kX11_isSpan 0 0 0 M [.int x] (fun M2 v => M2 = M ∧ v = some (.int (gb (mIn x 1 100)))) := by
  refine gCon_of (by decide) (Nat.le_of_ble_eq_true rfl) ?_
  show gJ _ _ _ _ _ _ 0 [(0, _)] [] _
  refine gJ_iload_n dX11_isSpan_0 rfl rfl ?_
  refine gJ_iconst (v := 1) dX11_isSpan_1 (by decide) ?_
  refine gJ_icmp_lt (tgt := 15) dX11_isSpan_2 (by decide) (fun c2 => ?_) (fun c2 => ?_)
  · refine gJ_iconst (v := 0) dX11_isSpan_15 (by decide) ?_
    refine gJ_zret dX11_isSpan_16 rfl (by first | exact gz0 | exact gz1 | exact gb01 _) ?_
    refine ⟨rfl, ?_⟩
    rw [mIn, decide_eq_false (Int32.not_le.mpr c2)]
    rfl
  · refine gJ_iload_n dX11_isSpan_5 rfl rfl ?_
    refine gJ_bipush (v := 100) dX11_isSpan_6 (by decide) ?_
    refine gJ_icmp_gt (tgt := 15) dX11_isSpan_8 (by decide) (fun c8 => ?_) (fun c8 => ?_)
    · refine gJ_iconst (v := 0) dX11_isSpan_15 (by decide) ?_
      refine gJ_zret dX11_isSpan_16 rfl (by first | exact gz0 | exact gz1 | exact gb01 _) ?_
      refine ⟨rfl, ?_⟩
      rw [mIn, decide_eq_false (Int32.not_le.mpr c8), Bool.and_false]
      rfl
    · refine gJ_iconst (v := 1) dX11_isSpan_11 (by decide) ?_
      refine gJ_goto (tgt := 16) dX11_isSpan_12 (by decide) ?_
      refine gJ_zret dX11_isSpan_16 rfl (by first | exact gz0 | exact gz1 | exact gb01 _) ?_
      refine ⟨rfl, ?_⟩
      rw [mIn, decide_eq_true (Int32.not_lt.mp c2), decide_eq_true (Int32.not_lt.mp c8)]
      rfl
theorem c11_bit (b : Bool) : gCon G kX11_bit 0 0 0 M [.int (gb b)] (fun M2 v => M2 = M ∧ v = some (.int (gb b))) := by
  refine gCon_of (by decide) (Nat.le_of_ble_eq_true rfl) ?_
  show gJ _ _ _ _ _ _ 0 [(0, _)] [] _
  refine gJ_iload_n dX11_bit_0 rfl rfl ?_
  refine gJ_if_eqB (tgt := 8) dX11_bit_1 (by decide) (fun c1 => ?_) (fun c1 => ?_)
  · refine gJ_iconst (v := 0) dX11_bit_8 (by decide) ?_
    refine gJ_iret dX11_bit_9 rfl ?_
    refine ⟨rfl, ?_⟩
    rw [c1]
    rfl
  · refine gJ_iconst (v := 1) dX11_bit_4 (by decide) ?_
    refine gJ_goto (tgt := 9) dX11_bit_5 (by decide) ?_
    refine gJ_iret dX11_bit_9 rfl ?_
    refine ⟨rfl, ?_⟩
    rw [c1]
    rfl
theorem c11_has (x : Int64) (a : Nat) (ha : a < 64) : gCon G kX11_has 0 0 0 M [.long x, .int (nI a)] (fun M2 v => M2 = M ∧ v = some (.int (gb (lB x a)))) := by
  refine gCon_of (by decide) (Nat.le_of_ble_eq_true rfl) ?_
  have hb : (x.toUInt64 >>> ((nI a).toInt64.toUInt64 &&& Int64.toUInt64 63)).toInt64 &&& 1 = if lB x a then 1 else 0 := by rw [and1, lB_ushr x ha, Nat.add_zero]
  show gJ _ _ _ _ _ _ 0 [(0, _), (2, _)] [] _
  refine gJ_lload_n dX11_has_0 rfl rfl ?_
  refine gJ_iload_n dX11_has_1 rfl rfl ?_
  refine gJ_lushr dX11_has_2 ?_
  refine gJ_lconst (v := 1) dX11_has_3 (by decide) ?_
  refine gJ_land dX11_has_4 ?_
  rw [hb]
  refine gJ_lconst (v := 0) dX11_has_5 (by decide) ?_
  refine gJ_lcmp dX11_has_6 ?_
  refine gJ_if_eq (tgt := 14) dX11_has_7 (by decide) (fun c7 => ?_) (fun c7 => ?_)
  · refine gJ_iconst (v := 0) dX11_has_14 (by decide) ?_
    refine gJ_zret dX11_has_15 rfl (by first | exact gz0 | exact gz1 | exact gb01 _) ?_
    refine ⟨rfl, ?_⟩
    rw [cmp_b0.mp c7]
    rfl
  · refine gJ_iconst (v := 1) dX11_has_10 (by decide) ?_
    refine gJ_goto (tgt := 15) dX11_has_11 (by decide) ?_
    refine gJ_zret dX11_has_15 rfl (by first | exact gz0 | exact gz1 | exact gb01 _) ?_
    refine ⟨rfl, ?_⟩
    rw [Bool.not_eq_false _ |>.mp (fun h => c7 (cmp_b0.mpr h))]
    rfl
end CLS
