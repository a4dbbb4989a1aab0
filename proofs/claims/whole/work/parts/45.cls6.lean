theorem nI_ushr {a j : Nat} (ha : a < 2 ^ 32) (hj : j < 32) : ((nI a).toUInt32 >>> ((nI j).toUInt32 &&& Int32.toUInt32 31)).toInt32 = nI (a / 2 ^ j) := by
  have hc : ∀ k, k < 32 → ((nI k).toUInt32 &&& Int32.toUInt32 31) = UInt32.ofNat k := by decide +kernel
  rw [hc j hj]
  apply Int32.toBitVec_inj.mp
  apply BitVec.eq_of_toNat_eq
  show ((nI a).toUInt32 >>> UInt32.ofNat j).toNat = (BitVec.ofNat 32 _).toNat
  have h1 : (UInt32.ofNat j).toNat = j := by
    show (BitVec.ofNat 32 j).toNat = j
    rw [BitVec.toNat_ofNat, Nat.mod_eq_of_lt (by omega)]
  have h2 : (nI a).toUInt32.toNat = a := by
    show (BitVec.ofNat 32 a).toNat = a
    rw [BitVec.toNat_ofNat, Nat.mod_eq_of_lt ha]
  rw [UInt32.toNat_shiftRight, h1, h2, Nat.mod_eq_of_lt hj, Nat.shiftRight_eq_div_pow, BitVec.toNat_ofNat, Nat.mod_eq_of_lt (Nat.lt_of_le_of_lt (Nat.div_le_self _ _) ha)]
theorem nI_and2 (a b : Nat) : nI a &&& nI b = nI (a &&& b) := by
  apply Int32.toBitVec_inj.mp
  rw [Int32.toBitVec_and]
  show BitVec.ofNat 32 a &&& BitVec.ofNat 32 b = BitVec.ofNat 32 (a &&& b)
  apply BitVec.eq_of_toNat_eq
  rw [BitVec.toNat_and, BitVec.toNat_ofNat, BitVec.toNat_ofNat, BitVec.toNat_ofNat, Nat.and_mod_two_pow]
theorem nI_not {a : Nat} (h : a < 2 ^ 32) : nI a ^^^ (-1) = nI (2 ^ 32 - (a + 1)) := by
  apply Int32.toBitVec_inj.mp
  rw [Int32.toBitVec_xor]
  have e : (-1 : Int32).toBitVec = BitVec.allOnes 32 := by decide +kernel
  rw [e, BitVec.xor_allOnes]
  apply BitVec.eq_of_toNat_eq
  show (~~~(BitVec.ofNat 32 a)).toNat = (BitVec.ofNat 32 _).toNat
  rw [BitVec.toNat_not, BitVec.toNat_ofNat, BitVec.toNat_ofNat, Nat.mod_eq_of_lt h, Nat.mod_eq_of_lt (by omega)]
  omega
theorem tz_mask {a k : Nat} (ha : a < 2 ^ 32) (hk : k < 32) (hak : a % 2 ^ (k + 1) = 2 ^ k) : (2 ^ 32 - (a + 1)) &&& (a - 1) = 2 ^ k - 1 := by
  have hpos : 0 < 2 ^ k := Nat.two_pow_pos k
  obtain ⟨h, hh⟩ : ∃ h, a = 2 ^ k * (2 * h + 1) := by
    refine ⟨a / 2 ^ (k + 1), ?_⟩
    have := Nat.div_add_mod a (2 ^ (k + 1))
    rw [hak, Nat.pow_succ] at this
    rw [Nat.mul_add, Nat.mul_one, ← Nat.mul_assoc, Nat.pow_succ]
    exact this.symm
  have e1 : a - 1 = 2 ^ k * (2 * h) + (2 ^ k - 1) := by rw [hh, Nat.mul_add, Nat.mul_one]; omega
  apply Nat.eq_of_testBit_eq
  intro j
  rw [Nat.testBit_and, Nat.testBit_two_pow_sub_succ ha, e1, Nat.testBit_two_pow_mul_add _ (by omega), Nat.testBit_two_pow_sub_one]
  have e2 : a.testBit j = if j < k then false else (2 * h + 1).testBit (j - k) := by
    rw [hh, show 2 ^ k * (2 * h + 1) = 2 ^ k * (2 * h + 1) + 0 from rfl, Nat.testBit_two_pow_mul_add _ hpos, Nat.zero_testBit]
  rw [e2]
  by_cases hj : j < k
  · have : j < 32 := by omega
    simp [hj, this]
  · rw [if_neg hj, if_neg hj, decide_eq_false hj]
    rcases Nat.eq_zero_or_pos (j - k) with h0 | h0
    · rw [h0]
      simp [Nat.testBit_zero]
    · obtain ⟨i, hi⟩ : ∃ i, j - k = i + 1 := ⟨j - k - 1, by omega⟩
      rw [hi, Nat.testBit_succ, Nat.testBit_succ, show (2 * h + 1) / 2 = h by omega, show 2 * h / 2 = h by omega]
      cases h.testBit i <;> simp
def tz1 (c s : Nat) (p : Nat × Nat) : Nat × Nat := if p.2 ≤ c then p else (p.1 + s, p.2 / 2 ^ s)
def tzN (y : Nat) : Nat := (tz1 4 2 (tz1 16 4 (tz1 256 8 (tz1 65536 16 (1, y))))).1 + (tz1 4 2 (tz1 16 4 (tz1 256 8 (tz1 65536 16 (1, y))))).2 / 2 ^ 1
theorem tzN_is : ∀ k, k < 32 → 0 < k → tzN (2 ^ k - 1) = k := by decide +kernel
section CLS
variable {G : gG} {M : gM}
theorem gJ_vi {k : gMd} {d nc ns pc : Nat} {lv : List (Nat × Value)} {st : List Value} {Q : gP} {x y : Int32} (h : x = y) (kk : gJ G k d nc ns M pc lv (.int y :: st) Q) : gJ G k d nc ns M pc lv (.int x :: st) Q := by
  rw [h]
  exact kk
theorem gJ_iushrN {k : gMd} {d nc ns pc a b : Nat} {lv : List (Nat × Value)} {st : List Value} {Q : gP} {x y : Int32} (hd : decode k.2.1 pc = .ok (.iushr, 1)) (hx : x = nI a) (hy : y = nI b) (ha : a < 2 ^ 32) (hb : b < 32) (kk : gJ G k d nc ns M (pc + 1) lv (.int (nI (a / 2 ^ b)) :: st) Q) : gJ G k d nc ns M pc lv (.int y :: .int x :: st) Q := by
  subst hx
  subst hy
  exact gJ_iushr hd (by rw [nI_ushr ha hb]; exact kk)
set_option maxRecDepth 20000 in
theorem c6_ntz0 : gCon G kJ6_numberOfTrailingZeros_0f7a4 0 0 0 M [.int 0] (fun M2 v => M2 = M ∧ v = some (.int 32)) := by
  refine gCon_of (by decide) (Nat.le_of_ble_eq_true rfl) ?_
  show gJ _ _ _ _ _ _ 0 [(0, _)] [] _
  refine gJ_iload_n dJ6_numberOfTrailingZeros_0f7a4_0 rfl rfl ?_
  refine gJ_iconst (v := -1) dJ6_numberOfTrailingZeros_0f7a4_1 (by decide) ?_
  refine gJ_ixor dJ6_numberOfTrailingZeros_0f7a4_2 ?_
  refine gJ_iload_n dJ6_numberOfTrailingZeros_0f7a4_3 rfl rfl ?_
  refine gJ_iconst (v := 1) dJ6_numberOfTrailingZeros_0f7a4_4 (by decide) ?_
  refine gJ_isub dJ6_numberOfTrailingZeros_0f7a4_5 ?_
  refine gJ_iand dJ6_numberOfTrailingZeros_0f7a4_6 ?_
  refine gJ_vi (show _ = (-1 : Int32) from by decide) ?_
  refine gJ_istore_n (lv2 := [(0, _)]) dJ6_numberOfTrailingZeros_0f7a4_7 rfl rfl rfl ?_
  refine gJ_iload_n dJ6_numberOfTrailingZeros_0f7a4_8 rfl rfl ?_
  refine gJ_if_gt (tgt := 17) dJ6_numberOfTrailingZeros_0f7a4_9 (by decide) (fun c_ => by exfalso; exact absurd c_ (by decide)) (fun _ => ?_)
  refine gJ_iload_n dJ6_numberOfTrailingZeros_0f7a4_12 rfl rfl ?_
  refine gJ_bipush (v := 32) dJ6_numberOfTrailingZeros_0f7a4_13 (by decide) ?_
  refine gJ_iand dJ6_numberOfTrailingZeros_0f7a4_15 ?_
  refine gJ_iret dJ6_numberOfTrailingZeros_0f7a4_16 rfl ?_
  exact ⟨rfl, by congr 2⟩
set_option maxRecDepth 20000 in
theorem c6_ntz (a k : Nat) (ha : a < 2 ^ 32) (hk : k < 32) (hak : a % 2 ^ (k + 1) = 2 ^ k) : gCon G kJ6_numberOfTrailingZeros_0f7a4 0 0 0 M [.int (nI a)] (fun M2 v => M2 = M ∧ v = some (.int (nI k))) := by
  have hpos : 0 < 2 ^ k := Nat.two_pow_pos k
  have h1a : 1 ≤ a := by
    rcases Nat.eq_zero_or_pos a with h | h
    · subst h; rw [Nat.zero_mod] at hak; omega
    · exact h
  have hy : (nI a ^^^ (-1)) &&& (nI a - 1) = nI (2 ^ k - 1) := by
    rw [nI_not ha, show nI a - 1 = nI (a - 1) from pk_sub (b := 1) h1a, nI_and2, tz_mask ha hk hak]
  have hlt : 2 ^ k ≤ 2 ^ 31 := Nat.pow_le_pow_right (by decide) (by omega)
  refine gCon_of (by decide) (Nat.le_of_ble_eq_true rfl) ?_
  by_cases h0 : k = 0
  · subst h0
    show gJ _ _ _ _ _ _ 0 [(0, _)] [] _
    refine gJ_iload_n dJ6_numberOfTrailingZeros_0f7a4_0 rfl rfl ?_
    refine gJ_iconst (v := -1) dJ6_numberOfTrailingZeros_0f7a4_1 (by decide) ?_
    refine gJ_ixor dJ6_numberOfTrailingZeros_0f7a4_2 ?_
    refine gJ_iload_n dJ6_numberOfTrailingZeros_0f7a4_3 rfl rfl ?_
    refine gJ_iconst (v := 1) dJ6_numberOfTrailingZeros_0f7a4_4 (by decide) ?_
    refine gJ_isub dJ6_numberOfTrailingZeros_0f7a4_5 ?_
    refine gJ_iand dJ6_numberOfTrailingZeros_0f7a4_6 ?_
    refine gJ_vi hy ?_
    refine gJ_istore_n (lv2 := [(0, _)]) dJ6_numberOfTrailingZeros_0f7a4_7 rfl rfl rfl ?_
    refine gJ_iload_n dJ6_numberOfTrailingZeros_0f7a4_8 rfl rfl ?_
    refine gJ_if_gtN (tgt := 17) (a := 0) (by first | with_reducible rfl | rfl) (by omega) dJ6_numberOfTrailingZeros_0f7a4_9 (by decide) (fun c_ => by exfalso; omega) (fun _ => ?_)
    refine gJ_iload_n dJ6_numberOfTrailingZeros_0f7a4_12 rfl rfl ?_
    refine gJ_bipush (v := 32) dJ6_numberOfTrailingZeros_0f7a4_13 (by decide) ?_
    refine gJ_iand dJ6_numberOfTrailingZeros_0f7a4_15 ?_
    refine gJ_iret dJ6_numberOfTrailingZeros_0f7a4_16 rfl ?_
    exact ⟨rfl, by congr 2⟩
  · have hz := tzN_is k hk (by omega)
    have hpos2 : 2 ^ 1 ≤ 2 ^ k := Nat.pow_le_pow_right (by decide) (by omega)
    have hyb1 : 2 ^ k - 1 < 2 ^ 31 := by omega
    have hyb2 : 0 < 2 ^ k - 1 := by omega
    clear hpos2 hpos hak hlt
    generalize 2 ^ k - 1 = y at hy hz hyb1 hyb2
    have d16 : y / 2 ^ 16 < 2 ^ 15 := by omega
    show gJ _ _ _ _ _ _ 0 [(0, _)] [] _
    refine gJ_iload_n dJ6_numberOfTrailingZeros_0f7a4_0 rfl rfl ?_
    refine gJ_iconst (v := -1) dJ6_numberOfTrailingZeros_0f7a4_1 (by decide) ?_
    refine gJ_ixor dJ6_numberOfTrailingZeros_0f7a4_2 ?_
    refine gJ_iload_n dJ6_numberOfTrailingZeros_0f7a4_3 rfl rfl ?_
    refine gJ_iconst (v := 1) dJ6_numberOfTrailingZeros_0f7a4_4 (by decide) ?_
    refine gJ_isub dJ6_numberOfTrailingZeros_0f7a4_5 ?_
    refine gJ_iand dJ6_numberOfTrailingZeros_0f7a4_6 ?_
    refine gJ_vi hy ?_
    refine gJ_istore_n (lv2 := [(0, _)]) dJ6_numberOfTrailingZeros_0f7a4_7 rfl rfl rfl ?_
    refine gJ_iload_n dJ6_numberOfTrailingZeros_0f7a4_8 rfl rfl ?_
    refine gJ_if_gtN (tgt := 17) (a := y) (by first | with_reducible rfl | rfl) (by omega) dJ6_numberOfTrailingZeros_0f7a4_9 (by decide) (fun _ => ?_) (fun c_ => by exfalso; omega)
    refine gJ_iconst (v := 1) dJ6_numberOfTrailingZeros_0f7a4_17 (by decide) ?_
    refine gJ_istore_n (lv2 := [(1, _), (0, _)]) dJ6_numberOfTrailingZeros_0f7a4_18 rfl rfl rfl ?_
    refine gJ_iload_n dJ6_numberOfTrailingZeros_0f7a4_19 rfl rfl ?_
    refine gJ_ldcw (v := 65536) dJ6_numberOfTrailingZeros_0f7a4_20 cJ6_264 ?_
    refine gJ_icmp_leN (tgt := 34) (a := y) (b := 65536) (by first | with_reducible rfl | rfl) (by first | with_reducible rfl | rfl) (by omega) (by omega) dJ6_numberOfTrailingZeros_0f7a4_23 (by decide) (fun c23 => ?_) (fun c23 => ?_)
    · refine gJ_iload_n dJ6_numberOfTrailingZeros_0f7a4_34 rfl rfl ?_
      refine gJ_sipush (v := 256) dJ6_numberOfTrailingZeros_0f7a4_35 (by decide) ?_
      refine gJ_icmp_leN (tgt := 49) (a := y) (b := 256) (by first | with_reducible rfl | rfl) (by first | with_reducible rfl | rfl) (by omega) (by omega) dJ6_numberOfTrailingZeros_0f7a4_38 (by decide) (fun c38 => ?_) (fun c38 => ?_)
      · refine gJ_iload_n dJ6_numberOfTrailingZeros_0f7a4_49 rfl rfl ?_
        refine gJ_bipush (v := 16) dJ6_numberOfTrailingZeros_0f7a4_50 (by decide) ?_
        refine gJ_icmp_leN (tgt := 62) (a := y) (b := 16) (by first | with_reducible rfl | rfl) (by first | with_reducible rfl | rfl) (by omega) (by omega) dJ6_numberOfTrailingZeros_0f7a4_52 (by decide) (fun c52 => ?_) (fun c52 => ?_)
        · refine gJ_iload_n dJ6_numberOfTrailingZeros_0f7a4_62 rfl rfl ?_
          refine gJ_iconst (v := 4) dJ6_numberOfTrailingZeros_0f7a4_63 (by decide) ?_
          refine gJ_icmp_leN (tgt := 74) (a := y) (b := 4) (by first | with_reducible rfl | rfl) (by first | with_reducible rfl | rfl) (by omega) (by omega) dJ6_numberOfTrailingZeros_0f7a4_64 (by decide) (fun c64 => ?_) (fun c64 => ?_)
          · refine gJ_iload_n dJ6_numberOfTrailingZeros_0f7a4_74 rfl rfl ?_
            refine gJ_iload_n dJ6_numberOfTrailingZeros_0f7a4_75 rfl rfl ?_
            refine gJ_iconst (v := 1) dJ6_numberOfTrailingZeros_0f7a4_76 (by decide) ?_
            refine gJ_iushrN (a := y) (b := 1) dJ6_numberOfTrailingZeros_0f7a4_77 (by first | with_reducible rfl | rfl) (by first | with_reducible rfl | rfl) (by omega) (by decide) ?_
            refine gJ_iaddN (a := 1) (b := (y / 2 ^ 1)) dJ6_numberOfTrailingZeros_0f7a4_78 (by first | with_reducible rfl | rfl) (by first | with_reducible rfl | rfl) ?_
            refine gJ_iret dJ6_numberOfTrailingZeros_0f7a4_79 rfl ?_
            refine ⟨rfl, ?_⟩
            rw [← hz]
            congr 2
            congr 1
            simp only [tzN, tz1, *, ↓reduceIte]
          · refine gJ_iincN (a := 1) (b := 2) (lv2 := [(1, _), (0, _)]) dJ6_numberOfTrailingZeros_0f7a4_67 rfl rfl rfl rfl ?_
            refine gJ_iload_n dJ6_numberOfTrailingZeros_0f7a4_70 rfl rfl ?_
            refine gJ_iconst (v := 2) dJ6_numberOfTrailingZeros_0f7a4_71 (by decide) ?_
            refine gJ_iushrN (a := y) (b := 2) dJ6_numberOfTrailingZeros_0f7a4_72 (by first | with_reducible rfl | rfl) (by first | with_reducible rfl | rfl) (by omega) (by decide) ?_
            refine gJ_istore_n (lv2 := [(0, _), (1, _)]) dJ6_numberOfTrailingZeros_0f7a4_73 rfl rfl rfl ?_
            refine gJ_iload_n dJ6_numberOfTrailingZeros_0f7a4_74 rfl rfl ?_
            refine gJ_iload_n dJ6_numberOfTrailingZeros_0f7a4_75 rfl rfl ?_
            refine gJ_iconst (v := 1) dJ6_numberOfTrailingZeros_0f7a4_76 (by decide) ?_
            refine gJ_iushrN (a := (y / 2 ^ 2)) (b := 1) dJ6_numberOfTrailingZeros_0f7a4_77 (by first | with_reducible rfl | rfl) (by first | with_reducible rfl | rfl) (by omega) (by decide) ?_
            refine gJ_iaddN (a := (1 + 2)) (b := ((y / 2 ^ 2) / 2 ^ 1)) dJ6_numberOfTrailingZeros_0f7a4_78 (by first | with_reducible rfl | rfl) (by first | with_reducible rfl | rfl) ?_
            refine gJ_iret dJ6_numberOfTrailingZeros_0f7a4_79 rfl ?_
            refine ⟨rfl, ?_⟩
            rw [← hz]
            congr 2
            congr 1
            simp only [tzN, tz1, *, ↓reduceIte]
        · refine gJ_iincN (a := 1) (b := 4) (lv2 := [(1, _), (0, _)]) dJ6_numberOfTrailingZeros_0f7a4_55 rfl rfl rfl rfl ?_
          refine gJ_iload_n dJ6_numberOfTrailingZeros_0f7a4_58 rfl rfl ?_
          refine gJ_iconst (v := 4) dJ6_numberOfTrailingZeros_0f7a4_59 (by decide) ?_
          refine gJ_iushrN (a := y) (b := 4) dJ6_numberOfTrailingZeros_0f7a4_60 (by first | with_reducible rfl | rfl) (by first | with_reducible rfl | rfl) (by omega) (by decide) ?_
          refine gJ_istore_n (lv2 := [(0, _), (1, _)]) dJ6_numberOfTrailingZeros_0f7a4_61 rfl rfl rfl ?_
          refine gJ_iload_n dJ6_numberOfTrailingZeros_0f7a4_62 rfl rfl ?_
          refine gJ_iconst (v := 4) dJ6_numberOfTrailingZeros_0f7a4_63 (by decide) ?_
          refine gJ_icmp_leN (tgt := 74) (a := (y / 2 ^ 4)) (b := 4) (by first | with_reducible rfl | rfl) (by first | with_reducible rfl | rfl) (by omega) (by omega) dJ6_numberOfTrailingZeros_0f7a4_64 (by decide) (fun c64 => ?_) (fun c64 => ?_)
          · refine gJ_iload_n dJ6_numberOfTrailingZeros_0f7a4_74 rfl rfl ?_
            refine gJ_iload_n dJ6_numberOfTrailingZeros_0f7a4_75 rfl rfl ?_
            refine gJ_iconst (v := 1) dJ6_numberOfTrailingZeros_0f7a4_76 (by decide) ?_
            refine gJ_iushrN (a := (y / 2 ^ 4)) (b := 1) dJ6_numberOfTrailingZeros_0f7a4_77 (by first | with_reducible rfl | rfl) (by first | with_reducible rfl | rfl) (by omega) (by decide) ?_
            refine gJ_iaddN (a := (1 + 4)) (b := ((y / 2 ^ 4) / 2 ^ 1)) dJ6_numberOfTrailingZeros_0f7a4_78 (by first | with_reducible rfl | rfl) (by first | with_reducible rfl | rfl) ?_
            refine gJ_iret dJ6_numberOfTrailingZeros_0f7a4_79 rfl ?_
            refine ⟨rfl, ?_⟩
            rw [← hz]
            congr 2
            congr 1
            simp only [tzN, tz1, *, ↓reduceIte]
          · refine gJ_iincN (a := (1 + 4)) (b := 2) (lv2 := [(1, _), (0, _)]) dJ6_numberOfTrailingZeros_0f7a4_67 rfl rfl rfl rfl ?_
            refine gJ_iload_n dJ6_numberOfTrailingZeros_0f7a4_70 rfl rfl ?_
            refine gJ_iconst (v := 2) dJ6_numberOfTrailingZeros_0f7a4_71 (by decide) ?_
            refine gJ_iushrN (a := (y / 2 ^ 4)) (b := 2) dJ6_numberOfTrailingZeros_0f7a4_72 (by first | with_reducible rfl | rfl) (by first | with_reducible rfl | rfl) (by omega) (by decide) ?_
            refine gJ_istore_n (lv2 := [(0, _), (1, _)]) dJ6_numberOfTrailingZeros_0f7a4_73 rfl rfl rfl ?_
            refine gJ_iload_n dJ6_numberOfTrailingZeros_0f7a4_74 rfl rfl ?_
            refine gJ_iload_n dJ6_numberOfTrailingZeros_0f7a4_75 rfl rfl ?_
            refine gJ_iconst (v := 1) dJ6_numberOfTrailingZeros_0f7a4_76 (by decide) ?_
            refine gJ_iushrN (a := ((y / 2 ^ 4) / 2 ^ 2)) (b := 1) dJ6_numberOfTrailingZeros_0f7a4_77 (by first | with_reducible rfl | rfl) (by first | with_reducible rfl | rfl) (by omega) (by decide) ?_
            refine gJ_iaddN (a := ((1 + 4) + 2)) (b := (((y / 2 ^ 4) / 2 ^ 2) / 2 ^ 1)) dJ6_numberOfTrailingZeros_0f7a4_78 (by first | with_reducible rfl | rfl) (by first | with_reducible rfl | rfl) ?_
            refine gJ_iret dJ6_numberOfTrailingZeros_0f7a4_79 rfl ?_
            refine ⟨rfl, ?_⟩
            rw [← hz]
            congr 2
            congr 1
            simp only [tzN, tz1, *, ↓reduceIte]
      · refine gJ_iincN (a := 1) (b := 8) (lv2 := [(1, _), (0, _)]) dJ6_numberOfTrailingZeros_0f7a4_41 rfl rfl rfl rfl ?_
        refine gJ_iload_n dJ6_numberOfTrailingZeros_0f7a4_44 rfl rfl ?_
        refine gJ_bipush (v := 8) dJ6_numberOfTrailingZeros_0f7a4_45 (by decide) ?_
        refine gJ_iushrN (a := y) (b := 8) dJ6_numberOfTrailingZeros_0f7a4_47 (by first | with_reducible rfl | rfl) (by first | with_reducible rfl | rfl) (by omega) (by decide) ?_
        refine gJ_istore_n (lv2 := [(0, _), (1, _)]) dJ6_numberOfTrailingZeros_0f7a4_48 rfl rfl rfl ?_
        refine gJ_iload_n dJ6_numberOfTrailingZeros_0f7a4_49 rfl rfl ?_
        refine gJ_bipush (v := 16) dJ6_numberOfTrailingZeros_0f7a4_50 (by decide) ?_
        refine gJ_icmp_leN (tgt := 62) (a := (y / 2 ^ 8)) (b := 16) (by first | with_reducible rfl | rfl) (by first | with_reducible rfl | rfl) (by omega) (by omega) dJ6_numberOfTrailingZeros_0f7a4_52 (by decide) (fun c52 => ?_) (fun c52 => ?_)
        · refine gJ_iload_n dJ6_numberOfTrailingZeros_0f7a4_62 rfl rfl ?_
          refine gJ_iconst (v := 4) dJ6_numberOfTrailingZeros_0f7a4_63 (by decide) ?_
          refine gJ_icmp_leN (tgt := 74) (a := (y / 2 ^ 8)) (b := 4) (by first | with_reducible rfl | rfl) (by first | with_reducible rfl | rfl) (by omega) (by omega) dJ6_numberOfTrailingZeros_0f7a4_64 (by decide) (fun c64 => ?_) (fun c64 => ?_)
          · refine gJ_iload_n dJ6_numberOfTrailingZeros_0f7a4_74 rfl rfl ?_
            refine gJ_iload_n dJ6_numberOfTrailingZeros_0f7a4_75 rfl rfl ?_
            refine gJ_iconst (v := 1) dJ6_numberOfTrailingZeros_0f7a4_76 (by decide) ?_
            refine gJ_iushrN (a := (y / 2 ^ 8)) (b := 1) dJ6_numberOfTrailingZeros_0f7a4_77 (by first | with_reducible rfl | rfl) (by first | with_reducible rfl | rfl) (by omega) (by decide) ?_
            refine gJ_iaddN (a := (1 + 8)) (b := ((y / 2 ^ 8) / 2 ^ 1)) dJ6_numberOfTrailingZeros_0f7a4_78 (by first | with_reducible rfl | rfl) (by first | with_reducible rfl | rfl) ?_
            refine gJ_iret dJ6_numberOfTrailingZeros_0f7a4_79 rfl ?_
            refine ⟨rfl, ?_⟩
            rw [← hz]
            congr 2
            congr 1
            simp only [tzN, tz1, *, ↓reduceIte]
          · refine gJ_iincN (a := (1 + 8)) (b := 2) (lv2 := [(1, _), (0, _)]) dJ6_numberOfTrailingZeros_0f7a4_67 rfl rfl rfl rfl ?_
            refine gJ_iload_n dJ6_numberOfTrailingZeros_0f7a4_70 rfl rfl ?_
            refine gJ_iconst (v := 2) dJ6_numberOfTrailingZeros_0f7a4_71 (by decide) ?_
            refine gJ_iushrN (a := (y / 2 ^ 8)) (b := 2) dJ6_numberOfTrailingZeros_0f7a4_72 (by first | with_reducible rfl | rfl) (by first | with_reducible rfl | rfl) (by omega) (by decide) ?_
            refine gJ_istore_n (lv2 := [(0, _), (1, _)]) dJ6_numberOfTrailingZeros_0f7a4_73 rfl rfl rfl ?_
            refine gJ_iload_n dJ6_numberOfTrailingZeros_0f7a4_74 rfl rfl ?_
            refine gJ_iload_n dJ6_numberOfTrailingZeros_0f7a4_75 rfl rfl ?_
            refine gJ_iconst (v := 1) dJ6_numberOfTrailingZeros_0f7a4_76 (by decide) ?_
            refine gJ_iushrN (a := ((y / 2 ^ 8) / 2 ^ 2)) (b := 1) dJ6_numberOfTrailingZeros_0f7a4_77 (by first | with_reducible rfl | rfl) (by first | with_reducible rfl | rfl) (by omega) (by decide) ?_
            refine gJ_iaddN (a := ((1 + 8) + 2)) (b := (((y / 2 ^ 8) / 2 ^ 2) / 2 ^ 1)) dJ6_numberOfTrailingZeros_0f7a4_78 (by first | with_reducible rfl | rfl) (by first | with_reducible rfl | rfl) ?_
            refine gJ_iret dJ6_numberOfTrailingZeros_0f7a4_79 rfl ?_
            refine ⟨rfl, ?_⟩
            rw [← hz]
            congr 2
            congr 1
            simp only [tzN, tz1, *, ↓reduceIte]
        · refine gJ_iincN (a := (1 + 8)) (b := 4) (lv2 := [(1, _), (0, _)]) dJ6_numberOfTrailingZeros_0f7a4_55 rfl rfl rfl rfl ?_
          refine gJ_iload_n dJ6_numberOfTrailingZeros_0f7a4_58 rfl rfl ?_
          refine gJ_iconst (v := 4) dJ6_numberOfTrailingZeros_0f7a4_59 (by decide) ?_
          refine gJ_iushrN (a := (y / 2 ^ 8)) (b := 4) dJ6_numberOfTrailingZeros_0f7a4_60 (by first | with_reducible rfl | rfl) (by first | with_reducible rfl | rfl) (by omega) (by decide) ?_
          refine gJ_istore_n (lv2 := [(0, _), (1, _)]) dJ6_numberOfTrailingZeros_0f7a4_61 rfl rfl rfl ?_
          refine gJ_iload_n dJ6_numberOfTrailingZeros_0f7a4_62 rfl rfl ?_
          refine gJ_iconst (v := 4) dJ6_numberOfTrailingZeros_0f7a4_63 (by decide) ?_
          refine gJ_icmp_leN (tgt := 74) (a := ((y / 2 ^ 8) / 2 ^ 4)) (b := 4) (by first | with_reducible rfl | rfl) (by first | with_reducible rfl | rfl) (by omega) (by omega) dJ6_numberOfTrailingZeros_0f7a4_64 (by decide) (fun c64 => ?_) (fun c64 => ?_)
          · refine gJ_iload_n dJ6_numberOfTrailingZeros_0f7a4_74 rfl rfl ?_
            refine gJ_iload_n dJ6_numberOfTrailingZeros_0f7a4_75 rfl rfl ?_
            refine gJ_iconst (v := 1) dJ6_numberOfTrailingZeros_0f7a4_76 (by decide) ?_
            refine gJ_iushrN (a := ((y / 2 ^ 8) / 2 ^ 4)) (b := 1) dJ6_numberOfTrailingZeros_0f7a4_77 (by first | with_reducible rfl | rfl) (by first | with_reducible rfl | rfl) (by omega) (by decide) ?_
            refine gJ_iaddN (a := ((1 + 8) + 4)) (b := (((y / 2 ^ 8) / 2 ^ 4) / 2 ^ 1)) dJ6_numberOfTrailingZeros_0f7a4_78 (by first | with_reducible rfl | rfl) (by first | with_reducible rfl | rfl) ?_
            refine gJ_iret dJ6_numberOfTrailingZeros_0f7a4_79 rfl ?_
            refine ⟨rfl, ?_⟩
            rw [← hz]
            congr 2
            congr 1
            simp only [tzN, tz1, *, ↓reduceIte]
          · refine gJ_iincN (a := ((1 + 8) + 4)) (b := 2) (lv2 := [(1, _), (0, _)]) dJ6_numberOfTrailingZeros_0f7a4_67 rfl rfl rfl rfl ?_
            refine gJ_iload_n dJ6_numberOfTrailingZeros_0f7a4_70 rfl rfl ?_
            refine gJ_iconst (v := 2) dJ6_numberOfTrailingZeros_0f7a4_71 (by decide) ?_
            refine gJ_iushrN (a := ((y / 2 ^ 8) / 2 ^ 4)) (b := 2) dJ6_numberOfTrailingZeros_0f7a4_72 (by first | with_reducible rfl | rfl) (by first | with_reducible rfl | rfl) (by omega) (by decide) ?_
            refine gJ_istore_n (lv2 := [(0, _), (1, _)]) dJ6_numberOfTrailingZeros_0f7a4_73 rfl rfl rfl ?_
            refine gJ_iload_n dJ6_numberOfTrailingZeros_0f7a4_74 rfl rfl ?_
            refine gJ_iload_n dJ6_numberOfTrailingZeros_0f7a4_75 rfl rfl ?_
            refine gJ_iconst (v := 1) dJ6_numberOfTrailingZeros_0f7a4_76 (by decide) ?_
            refine gJ_iushrN (a := (((y / 2 ^ 8) / 2 ^ 4) / 2 ^ 2)) (b := 1) dJ6_numberOfTrailingZeros_0f7a4_77 (by first | with_reducible rfl | rfl) (by first | with_reducible rfl | rfl) (by omega) (by decide) ?_
            refine gJ_iaddN (a := (((1 + 8) + 4) + 2)) (b := ((((y / 2 ^ 8) / 2 ^ 4) / 2 ^ 2) / 2 ^ 1)) dJ6_numberOfTrailingZeros_0f7a4_78 (by first | with_reducible rfl | rfl) (by first | with_reducible rfl | rfl) ?_
            refine gJ_iret dJ6_numberOfTrailingZeros_0f7a4_79 rfl ?_
            refine ⟨rfl, ?_⟩
            rw [← hz]
            congr 2
            congr 1
            simp only [tzN, tz1, *, ↓reduceIte]
    · refine gJ_iincN (a := 1) (b := 16) (lv2 := [(1, _), (0, _)]) dJ6_numberOfTrailingZeros_0f7a4_26 rfl rfl rfl rfl ?_
      refine gJ_iload_n dJ6_numberOfTrailingZeros_0f7a4_29 rfl rfl ?_
      refine gJ_bipush (v := 16) dJ6_numberOfTrailingZeros_0f7a4_30 (by decide) ?_
      refine gJ_iushrN (a := y) (b := 16) dJ6_numberOfTrailingZeros_0f7a4_32 (by first | with_reducible rfl | rfl) (by first | with_reducible rfl | rfl) (by omega) (by decide) ?_
      refine gJ_istore_n (lv2 := [(0, _), (1, _)]) dJ6_numberOfTrailingZeros_0f7a4_33 rfl rfl rfl ?_
      refine gJ_iload_n dJ6_numberOfTrailingZeros_0f7a4_34 rfl rfl ?_
      refine gJ_sipush (v := 256) dJ6_numberOfTrailingZeros_0f7a4_35 (by decide) ?_
      refine gJ_icmp_leN (tgt := 49) (a := (y / 2 ^ 16)) (b := 256) (by first | with_reducible rfl | rfl) (by first | with_reducible rfl | rfl) (by omega) (by omega) dJ6_numberOfTrailingZeros_0f7a4_38 (by decide) (fun c38 => ?_) (fun c38 => ?_)
      · refine gJ_iload_n dJ6_numberOfTrailingZeros_0f7a4_49 rfl rfl ?_
        refine gJ_bipush (v := 16) dJ6_numberOfTrailingZeros_0f7a4_50 (by decide) ?_
        refine gJ_icmp_leN (tgt := 62) (a := (y / 2 ^ 16)) (b := 16) (by first | with_reducible rfl | rfl) (by first | with_reducible rfl | rfl) (by omega) (by omega) dJ6_numberOfTrailingZeros_0f7a4_52 (by decide) (fun c52 => ?_) (fun c52 => ?_)
        · refine gJ_iload_n dJ6_numberOfTrailingZeros_0f7a4_62 rfl rfl ?_
          refine gJ_iconst (v := 4) dJ6_numberOfTrailingZeros_0f7a4_63 (by decide) ?_
          refine gJ_icmp_leN (tgt := 74) (a := (y / 2 ^ 16)) (b := 4) (by first | with_reducible rfl | rfl) (by first | with_reducible rfl | rfl) (by omega) (by omega) dJ6_numberOfTrailingZeros_0f7a4_64 (by decide) (fun c64 => ?_) (fun c64 => ?_)
          · refine gJ_iload_n dJ6_numberOfTrailingZeros_0f7a4_74 rfl rfl ?_
            refine gJ_iload_n dJ6_numberOfTrailingZeros_0f7a4_75 rfl rfl ?_
            refine gJ_iconst (v := 1) dJ6_numberOfTrailingZeros_0f7a4_76 (by decide) ?_
            refine gJ_iushrN (a := (y / 2 ^ 16)) (b := 1) dJ6_numberOfTrailingZeros_0f7a4_77 (by first | with_reducible rfl | rfl) (by first | with_reducible rfl | rfl) (by omega) (by decide) ?_
            refine gJ_iaddN (a := (1 + 16)) (b := ((y / 2 ^ 16) / 2 ^ 1)) dJ6_numberOfTrailingZeros_0f7a4_78 (by first | with_reducible rfl | rfl) (by first | with_reducible rfl | rfl) ?_
            refine gJ_iret dJ6_numberOfTrailingZeros_0f7a4_79 rfl ?_
            refine ⟨rfl, ?_⟩
            rw [← hz]
            congr 2
            congr 1
            simp only [tzN, tz1, *, ↓reduceIte]
          · refine gJ_iincN (a := (1 + 16)) (b := 2) (lv2 := [(1, _), (0, _)]) dJ6_numberOfTrailingZeros_0f7a4_67 rfl rfl rfl rfl ?_
            refine gJ_iload_n dJ6_numberOfTrailingZeros_0f7a4_70 rfl rfl ?_
            refine gJ_iconst (v := 2) dJ6_numberOfTrailingZeros_0f7a4_71 (by decide) ?_
            refine gJ_iushrN (a := (y / 2 ^ 16)) (b := 2) dJ6_numberOfTrailingZeros_0f7a4_72 (by first | with_reducible rfl | rfl) (by first | with_reducible rfl | rfl) (by omega) (by decide) ?_
            refine gJ_istore_n (lv2 := [(0, _), (1, _)]) dJ6_numberOfTrailingZeros_0f7a4_73 rfl rfl rfl ?_
            refine gJ_iload_n dJ6_numberOfTrailingZeros_0f7a4_74 rfl rfl ?_
            refine gJ_iload_n dJ6_numberOfTrailingZeros_0f7a4_75 rfl rfl ?_
            refine gJ_iconst (v := 1) dJ6_numberOfTrailingZeros_0f7a4_76 (by decide) ?_
            refine gJ_iushrN (a := ((y / 2 ^ 16) / 2 ^ 2)) (b := 1) dJ6_numberOfTrailingZeros_0f7a4_77 (by first | with_reducible rfl | rfl) (by first | with_reducible rfl | rfl) (by omega) (by decide) ?_
            refine gJ_iaddN (a := ((1 + 16) + 2)) (b := (((y / 2 ^ 16) / 2 ^ 2) / 2 ^ 1)) dJ6_numberOfTrailingZeros_0f7a4_78 (by first | with_reducible rfl | rfl) (by first | with_reducible rfl | rfl) ?_
            refine gJ_iret dJ6_numberOfTrailingZeros_0f7a4_79 rfl ?_
            refine ⟨rfl, ?_⟩
            rw [← hz]
            congr 2
            congr 1
            simp only [tzN, tz1, *, ↓reduceIte]
        · refine gJ_iincN (a := (1 + 16)) (b := 4) (lv2 := [(1, _), (0, _)]) dJ6_numberOfTrailingZeros_0f7a4_55 rfl rfl rfl rfl ?_
          refine gJ_iload_n dJ6_numberOfTrailingZeros_0f7a4_58 rfl rfl ?_
          refine gJ_iconst (v := 4) dJ6_numberOfTrailingZeros_0f7a4_59 (by decide) ?_
          refine gJ_iushrN (a := (y / 2 ^ 16)) (b := 4) dJ6_numberOfTrailingZeros_0f7a4_60 (by first | with_reducible rfl | rfl) (by first | with_reducible rfl | rfl) (by omega) (by decide) ?_
          refine gJ_istore_n (lv2 := [(0, _), (1, _)]) dJ6_numberOfTrailingZeros_0f7a4_61 rfl rfl rfl ?_
          refine gJ_iload_n dJ6_numberOfTrailingZeros_0f7a4_62 rfl rfl ?_
          refine gJ_iconst (v := 4) dJ6_numberOfTrailingZeros_0f7a4_63 (by decide) ?_
          refine gJ_icmp_leN (tgt := 74) (a := ((y / 2 ^ 16) / 2 ^ 4)) (b := 4) (by first | with_reducible rfl | rfl) (by first | with_reducible rfl | rfl) (by omega) (by omega) dJ6_numberOfTrailingZeros_0f7a4_64 (by decide) (fun c64 => ?_) (fun c64 => ?_)
          · refine gJ_iload_n dJ6_numberOfTrailingZeros_0f7a4_74 rfl rfl ?_
            refine gJ_iload_n dJ6_numberOfTrailingZeros_0f7a4_75 rfl rfl ?_
            refine gJ_iconst (v := 1) dJ6_numberOfTrailingZeros_0f7a4_76 (by decide) ?_
            refine gJ_iushrN (a := ((y / 2 ^ 16) / 2 ^ 4)) (b := 1) dJ6_numberOfTrailingZeros_0f7a4_77 (by first | with_reducible rfl | rfl) (by first | with_reducible rfl | rfl) (by omega) (by decide) ?_
            refine gJ_iaddN (a := ((1 + 16) + 4)) (b := (((y / 2 ^ 16) / 2 ^ 4) / 2 ^ 1)) dJ6_numberOfTrailingZeros_0f7a4_78 (by first | with_reducible rfl | rfl) (by first | with_reducible rfl | rfl) ?_
            refine gJ_iret dJ6_numberOfTrailingZeros_0f7a4_79 rfl ?_
            refine ⟨rfl, ?_⟩
            rw [← hz]
            congr 2
            congr 1
            simp only [tzN, tz1, *, ↓reduceIte]
          · refine gJ_iincN (a := ((1 + 16) + 4)) (b := 2) (lv2 := [(1, _), (0, _)]) dJ6_numberOfTrailingZeros_0f7a4_67 rfl rfl rfl rfl ?_
            refine gJ_iload_n dJ6_numberOfTrailingZeros_0f7a4_70 rfl rfl ?_
            refine gJ_iconst (v := 2) dJ6_numberOfTrailingZeros_0f7a4_71 (by decide) ?_
            refine gJ_iushrN (a := ((y / 2 ^ 16) / 2 ^ 4)) (b := 2) dJ6_numberOfTrailingZeros_0f7a4_72 (by first | with_reducible rfl | rfl) (by first | with_reducible rfl | rfl) (by omega) (by decide) ?_
            refine gJ_istore_n (lv2 := [(0, _), (1, _)]) dJ6_numberOfTrailingZeros_0f7a4_73 rfl rfl rfl ?_
            refine gJ_iload_n dJ6_numberOfTrailingZeros_0f7a4_74 rfl rfl ?_
            refine gJ_iload_n dJ6_numberOfTrailingZeros_0f7a4_75 rfl rfl ?_
            refine gJ_iconst (v := 1) dJ6_numberOfTrailingZeros_0f7a4_76 (by decide) ?_
            refine gJ_iushrN (a := (((y / 2 ^ 16) / 2 ^ 4) / 2 ^ 2)) (b := 1) dJ6_numberOfTrailingZeros_0f7a4_77 (by first | with_reducible rfl | rfl) (by first | with_reducible rfl | rfl) (by omega) (by decide) ?_
            refine gJ_iaddN (a := (((1 + 16) + 4) + 2)) (b := ((((y / 2 ^ 16) / 2 ^ 4) / 2 ^ 2) / 2 ^ 1)) dJ6_numberOfTrailingZeros_0f7a4_78 (by first | with_reducible rfl | rfl) (by first | with_reducible rfl | rfl) ?_
            refine gJ_iret dJ6_numberOfTrailingZeros_0f7a4_79 rfl ?_
            refine ⟨rfl, ?_⟩
            rw [← hz]
            congr 2
            congr 1
            simp only [tzN, tz1, *, ↓reduceIte]
      · refine gJ_iincN (a := (1 + 16)) (b := 8) (lv2 := [(1, _), (0, _)]) dJ6_numberOfTrailingZeros_0f7a4_41 rfl rfl rfl rfl ?_
        refine gJ_iload_n dJ6_numberOfTrailingZeros_0f7a4_44 rfl rfl ?_
        refine gJ_bipush (v := 8) dJ6_numberOfTrailingZeros_0f7a4_45 (by decide) ?_
        refine gJ_iushrN (a := (y / 2 ^ 16)) (b := 8) dJ6_numberOfTrailingZeros_0f7a4_47 (by first | with_reducible rfl | rfl) (by first | with_reducible rfl | rfl) (by omega) (by decide) ?_
        refine gJ_istore_n (lv2 := [(0, _), (1, _)]) dJ6_numberOfTrailingZeros_0f7a4_48 rfl rfl rfl ?_
        refine gJ_iload_n dJ6_numberOfTrailingZeros_0f7a4_49 rfl rfl ?_
        refine gJ_bipush (v := 16) dJ6_numberOfTrailingZeros_0f7a4_50 (by decide) ?_
        refine gJ_icmp_leN (tgt := 62) (a := ((y / 2 ^ 16) / 2 ^ 8)) (b := 16) (by first | with_reducible rfl | rfl) (by first | with_reducible rfl | rfl) (by omega) (by omega) dJ6_numberOfTrailingZeros_0f7a4_52 (by decide) (fun c52 => ?_) (fun c52 => ?_)
        · refine gJ_iload_n dJ6_numberOfTrailingZeros_0f7a4_62 rfl rfl ?_
          refine gJ_iconst (v := 4) dJ6_numberOfTrailingZeros_0f7a4_63 (by decide) ?_
          refine gJ_icmp_leN (tgt := 74) (a := ((y / 2 ^ 16) / 2 ^ 8)) (b := 4) (by first | with_reducible rfl | rfl) (by first | with_reducible rfl | rfl) (by omega) (by omega) dJ6_numberOfTrailingZeros_0f7a4_64 (by decide) (fun c64 => ?_) (fun c64 => ?_)
          · refine gJ_iload_n dJ6_numberOfTrailingZeros_0f7a4_74 rfl rfl ?_
            refine gJ_iload_n dJ6_numberOfTrailingZeros_0f7a4_75 rfl rfl ?_
            refine gJ_iconst (v := 1) dJ6_numberOfTrailingZeros_0f7a4_76 (by decide) ?_
            refine gJ_iushrN (a := ((y / 2 ^ 16) / 2 ^ 8)) (b := 1) dJ6_numberOfTrailingZeros_0f7a4_77 (by first | with_reducible rfl | rfl) (by first | with_reducible rfl | rfl) (by omega) (by decide) ?_
            refine gJ_iaddN (a := ((1 + 16) + 8)) (b := (((y / 2 ^ 16) / 2 ^ 8) / 2 ^ 1)) dJ6_numberOfTrailingZeros_0f7a4_78 (by first | with_reducible rfl | rfl) (by first | with_reducible rfl | rfl) ?_
            refine gJ_iret dJ6_numberOfTrailingZeros_0f7a4_79 rfl ?_
            refine ⟨rfl, ?_⟩
            rw [← hz]
            congr 2
            congr 1
            simp only [tzN, tz1, *, ↓reduceIte]
          · refine gJ_iincN (a := ((1 + 16) + 8)) (b := 2) (lv2 := [(1, _), (0, _)]) dJ6_numberOfTrailingZeros_0f7a4_67 rfl rfl rfl rfl ?_
            refine gJ_iload_n dJ6_numberOfTrailingZeros_0f7a4_70 rfl rfl ?_
            refine gJ_iconst (v := 2) dJ6_numberOfTrailingZeros_0f7a4_71 (by decide) ?_
            refine gJ_iushrN (a := ((y / 2 ^ 16) / 2 ^ 8)) (b := 2) dJ6_numberOfTrailingZeros_0f7a4_72 (by first | with_reducible rfl | rfl) (by first | with_reducible rfl | rfl) (by omega) (by decide) ?_
            refine gJ_istore_n (lv2 := [(0, _), (1, _)]) dJ6_numberOfTrailingZeros_0f7a4_73 rfl rfl rfl ?_
            refine gJ_iload_n dJ6_numberOfTrailingZeros_0f7a4_74 rfl rfl ?_
            refine gJ_iload_n dJ6_numberOfTrailingZeros_0f7a4_75 rfl rfl ?_
            refine gJ_iconst (v := 1) dJ6_numberOfTrailingZeros_0f7a4_76 (by decide) ?_
            refine gJ_iushrN (a := (((y / 2 ^ 16) / 2 ^ 8) / 2 ^ 2)) (b := 1) dJ6_numberOfTrailingZeros_0f7a4_77 (by first | with_reducible rfl | rfl) (by first | with_reducible rfl | rfl) (by omega) (by decide) ?_
            refine gJ_iaddN (a := (((1 + 16) + 8) + 2)) (b := ((((y / 2 ^ 16) / 2 ^ 8) / 2 ^ 2) / 2 ^ 1)) dJ6_numberOfTrailingZeros_0f7a4_78 (by first | with_reducible rfl | rfl) (by first | with_reducible rfl | rfl) ?_
            refine gJ_iret dJ6_numberOfTrailingZeros_0f7a4_79 rfl ?_
            refine ⟨rfl, ?_⟩
            rw [← hz]
            congr 2
            congr 1
            simp only [tzN, tz1, *, ↓reduceIte]
        · refine gJ_iincN (a := ((1 + 16) + 8)) (b := 4) (lv2 := [(1, _), (0, _)]) dJ6_numberOfTrailingZeros_0f7a4_55 rfl rfl rfl rfl ?_
          refine gJ_iload_n dJ6_numberOfTrailingZeros_0f7a4_58 rfl rfl ?_
          refine gJ_iconst (v := 4) dJ6_numberOfTrailingZeros_0f7a4_59 (by decide) ?_
          refine gJ_iushrN (a := ((y / 2 ^ 16) / 2 ^ 8)) (b := 4) dJ6_numberOfTrailingZeros_0f7a4_60 (by first | with_reducible rfl | rfl) (by first | with_reducible rfl | rfl) (by omega) (by decide) ?_
          refine gJ_istore_n (lv2 := [(0, _), (1, _)]) dJ6_numberOfTrailingZeros_0f7a4_61 rfl rfl rfl ?_
          refine gJ_iload_n dJ6_numberOfTrailingZeros_0f7a4_62 rfl rfl ?_
          refine gJ_iconst (v := 4) dJ6_numberOfTrailingZeros_0f7a4_63 (by decide) ?_
          refine gJ_icmp_leN (tgt := 74) (a := (((y / 2 ^ 16) / 2 ^ 8) / 2 ^ 4)) (b := 4) (by first | with_reducible rfl | rfl) (by first | with_reducible rfl | rfl) (by omega) (by omega) dJ6_numberOfTrailingZeros_0f7a4_64 (by decide) (fun c64 => ?_) (fun c64 => ?_)
          · refine gJ_iload_n dJ6_numberOfTrailingZeros_0f7a4_74 rfl rfl ?_
            refine gJ_iload_n dJ6_numberOfTrailingZeros_0f7a4_75 rfl rfl ?_
            refine gJ_iconst (v := 1) dJ6_numberOfTrailingZeros_0f7a4_76 (by decide) ?_
            refine gJ_iushrN (a := (((y / 2 ^ 16) / 2 ^ 8) / 2 ^ 4)) (b := 1) dJ6_numberOfTrailingZeros_0f7a4_77 (by first | with_reducible rfl | rfl) (by first | with_reducible rfl | rfl) (by omega) (by decide) ?_
            refine gJ_iaddN (a := (((1 + 16) + 8) + 4)) (b := ((((y / 2 ^ 16) / 2 ^ 8) / 2 ^ 4) / 2 ^ 1)) dJ6_numberOfTrailingZeros_0f7a4_78 (by first | with_reducible rfl | rfl) (by first | with_reducible rfl | rfl) ?_
            refine gJ_iret dJ6_numberOfTrailingZeros_0f7a4_79 rfl ?_
            refine ⟨rfl, ?_⟩
            rw [← hz]
            congr 2
            congr 1
            simp only [tzN, tz1, *, ↓reduceIte]
          · refine gJ_iincN (a := (((1 + 16) + 8) + 4)) (b := 2) (lv2 := [(1, _), (0, _)]) dJ6_numberOfTrailingZeros_0f7a4_67 rfl rfl rfl rfl ?_
            refine gJ_iload_n dJ6_numberOfTrailingZeros_0f7a4_70 rfl rfl ?_
            refine gJ_iconst (v := 2) dJ6_numberOfTrailingZeros_0f7a4_71 (by decide) ?_
            refine gJ_iushrN (a := (((y / 2 ^ 16) / 2 ^ 8) / 2 ^ 4)) (b := 2) dJ6_numberOfTrailingZeros_0f7a4_72 (by first | with_reducible rfl | rfl) (by first | with_reducible rfl | rfl) (by omega) (by decide) ?_
            refine gJ_istore_n (lv2 := [(0, _), (1, _)]) dJ6_numberOfTrailingZeros_0f7a4_73 rfl rfl rfl ?_
            refine gJ_iload_n dJ6_numberOfTrailingZeros_0f7a4_74 rfl rfl ?_
            refine gJ_iload_n dJ6_numberOfTrailingZeros_0f7a4_75 rfl rfl ?_
            refine gJ_iconst (v := 1) dJ6_numberOfTrailingZeros_0f7a4_76 (by decide) ?_
            refine gJ_iushrN (a := ((((y / 2 ^ 16) / 2 ^ 8) / 2 ^ 4) / 2 ^ 2)) (b := 1) dJ6_numberOfTrailingZeros_0f7a4_77 (by first | with_reducible rfl | rfl) (by first | with_reducible rfl | rfl) (by omega) (by decide) ?_
            refine gJ_iaddN (a := ((((1 + 16) + 8) + 4) + 2)) (b := (((((y / 2 ^ 16) / 2 ^ 8) / 2 ^ 4) / 2 ^ 2) / 2 ^ 1)) dJ6_numberOfTrailingZeros_0f7a4_78 (by first | with_reducible rfl | rfl) (by first | with_reducible rfl | rfl) ?_
            refine gJ_iret dJ6_numberOfTrailingZeros_0f7a4_79 rfl ?_
            refine ⟨rfl, ?_⟩
            rw [← hz]
            congr 2
            congr 1
            simp only [tzN, tz1, *, ↓reduceIte]
theorem bit_mod {N k : Nat} (h1 : N.testBit k = true) (h2 : ∀ i, i < k → N.testBit i = false) : N % 2 ^ (k + 1) = 2 ^ k := by
  apply Nat.eq_of_testBit_eq
  intro j
  rw [Nat.testBit_mod_two_pow, Nat.testBit_two_pow]
  rcases Nat.lt_trichotomy j k with h | h | h
  · rw [h2 j h, Bool.and_false, decide_eq_false (by omega : ¬ k = j)]
  · subst h; rw [h1]; simp
  · rw [decide_eq_false (by omega : ¬ j < k + 1), decide_eq_false (by omega : ¬ k = j)]; rfl
set_option maxRecDepth 20000 in
theorem c13_ntz (x : Int64) (k : Nat) (hk : k < 64) (h1 : lB x k = true) (h2 : ∀ i, i < k → lB x i = false) : gCon G kJ13_numberOfTrailingZeros_95d88 1 0 0 M [.long x] (fun M2 v => M2 = M ∧ v = some (.int (nI k))) := by
  obtain ⟨N, hN, hx⟩ := wb_of x
  have b1 : N.testBit k = true := by rw [← h1, hx, lB_lN hN]
  have b2 : ∀ i, i < k → N.testBit i = false := fun i hi => by rw [← h2 i hi, hx, lB_lN hN]
  have hm := bit_mod b1 b2
  subst hx
  have nImod : ∀ z : Nat, nI (z % 2 ^ 32) = nI z := by
    intro z
    apply Int32.toBitVec_inj.mp
    apply BitVec.eq_of_toNat_eq
    show (BitVec.ofNat 32 (z % 2 ^ 32)).toNat = (BitVec.ofNat 32 z).toNat
    rw [BitVec.toNat_ofNat, BitVec.toNat_ofNat, Nat.mod_mod]
  have e32 : (lN N).toInt32 = nI (N % 2 ^ 32) := by rw [l2i_nat, nImod]
  refine gCon_of (by decide) (Nat.le_of_ble_eq_true rfl) ?_
  by_cases hk32 : k < 32
  · have hmm : (N % 2 ^ 32) % 2 ^ (k + 1) = 2 ^ k := by rw [Nat.mod_mod_of_dvd _ (Nat.pow_dvd_pow 2 (by omega)), hm]
    have hne : ¬ nI (N % 2 ^ 32) = 0 := by
      intro h
      have : N % 2 ^ 32 = 0 := by
        have := congrArg (fun z : Int32 => z.toBitVec.toNat) h
        have e : (BitVec.ofNat 32 (N % 2 ^ 32)).toNat = 0 := this
        rw [BitVec.toNat_ofNat, Nat.mod_mod] at e
        exact e
      rw [this, Nat.zero_mod] at hmm
      have := Nat.two_pow_pos k
      omega
    show gJ _ _ _ _ _ _ 0 [(0, _)] [] _
    refine gJ_lload_n dJ13_numberOfTrailingZeros_95d88_0 rfl rfl ?_
    refine gJ_l2i dJ13_numberOfTrailingZeros_95d88_1 ?_
    refine gJ_vi e32 ?_
    refine gJ_istore_n (lv2 := [(2, _), (0, _)]) dJ13_numberOfTrailingZeros_95d88_2 rfl rfl rfl ?_
    refine gJ_iload_n dJ13_numberOfTrailingZeros_95d88_3 rfl rfl ?_
    refine gJ_if_ne (tgt := 21) dJ13_numberOfTrailingZeros_95d88_4 (by decide) (fun _ => ?_) (fun c_ => by exfalso; exact hne c_)
    refine gJ_iload_n dJ13_numberOfTrailingZeros_95d88_21 rfl rfl ?_
    refine gJ_callS (As := [_]) b_J6_numberOfTrailingZeros_0f7a4 lJ13_311 i_J6_numberOfTrailingZeros_0f7a4 dJ13_numberOfTrailingZeros_95d88_22 (c6_ntz (N % 2 ^ 32) k (Nat.mod_lt _ (by decide)) hk32 hmm) rfl (Nat.le_of_ble_eq_true rfl) rfl (by decide) (fun M22 v_ h22 => ?_)
    obtain ⟨e_, rfl⟩ := h22
    replace e_ := e_.symm
    subst e_
    refine gJ_iret dJ13_numberOfTrailingZeros_95d88_25 rfl ?_
    exact ⟨rfl, rfl⟩
  · have h0 : N % 2 ^ 32 = 0 := by
      apply Nat.eq_of_testBit_eq
      intro j
      rw [Nat.testBit_mod_two_pow, Nat.zero_testBit]
      by_cases hj : j < 32
      · rw [b2 j (by omega), Bool.and_false]
      · simp [hj]
    have hd : (N / 2 ^ 32) % 2 ^ (k - 32 + 1) = 2 ^ (k - 32) := by
      apply bit_mod
      · rw [Nat.testBit_div_two_pow]; rw [show k - 32 + 32 = k by omega]; exact b1
      · intro i hi
        rw [Nat.testBit_div_two_pow]
        exact b2 _ (by omega)
    have e32' : ((lN N).toUInt64 >>> ((nI 32).toInt64.toUInt64 &&& Int64.toUInt64 63)).toInt64.toInt32 = nI (N / 2 ^ 32) := by
      rw [wb_shr hN (by decide), l2i_nat]
    rw [h0] at e32
    show gJ _ _ _ _ _ _ 0 [(0, _)] [] _
    refine gJ_lload_n dJ13_numberOfTrailingZeros_95d88_0 rfl rfl ?_
    refine gJ_l2i dJ13_numberOfTrailingZeros_95d88_1 ?_
    refine gJ_vi e32 ?_
    refine gJ_istore_n (lv2 := [(2, _), (0, _)]) dJ13_numberOfTrailingZeros_95d88_2 rfl rfl rfl ?_
    refine gJ_iload_n dJ13_numberOfTrailingZeros_95d88_3 rfl rfl ?_
    refine gJ_if_neN (tgt := 21) (a := 0) (by first | with_reducible rfl | rfl) (by omega) dJ13_numberOfTrailingZeros_95d88_4 (by decide) (fun c_ => by exfalso; omega) (fun _ => ?_)
    refine gJ_bipush (v := 32) dJ13_numberOfTrailingZeros_95d88_7 (by decide) ?_
    refine gJ_lload_n dJ13_numberOfTrailingZeros_95d88_9 rfl rfl ?_
    refine gJ_bipush (v := 32) dJ13_numberOfTrailingZeros_95d88_10 (by decide) ?_
    refine gJ_lushr dJ13_numberOfTrailingZeros_95d88_12 ?_
    refine gJ_l2i dJ13_numberOfTrailingZeros_95d88_13 ?_
    refine gJ_vi e32' ?_
    refine gJ_callS (As := [_]) b_J6_numberOfTrailingZeros_0f7a4 lJ13_311 i_J6_numberOfTrailingZeros_0f7a4 dJ13_numberOfTrailingZeros_95d88_14 (c6_ntz (N / 2 ^ 32) (k - 32) (by omega) (by omega) hd) rfl (Nat.le_of_ble_eq_true rfl) rfl (by decide) (fun M14 v_ h14 => ?_)
    obtain ⟨e14, rfl⟩ := h14
    replace e14 := e14.symm
    subst e14
    refine gJ_iaddN (a := 32) (b := (k - 32)) dJ13_numberOfTrailingZeros_95d88_17 (by first | with_reducible rfl | rfl) (by first | with_reducible rfl | rfl) ?_
    refine gJ_goto (tgt := 25) dJ13_numberOfTrailingZeros_95d88_18 (by decide) ?_
    refine gJ_iret dJ13_numberOfTrailingZeros_95d88_25 rfl ?_
    refine ⟨rfl, ?_⟩
    congr 2
    congr 1
    omega
theorem mFind_lo {x : Int64} (hx : ∀ a, 60 ≤ a → lB x a = false) (h0 : ¬ x = 0) : ∃ k, k < 60 ∧ lB x k = true ∧ (∀ i, i < k → lB x i = false) ∧ mFind 60 (lB x) = nI k := by
  cases hf : (List.range 60).find? (lB x) with
  | none =>
    exfalso
    rw [List.find?_eq_none] at hf
    apply h0
    refine lB_ext fun a _ => ?_
    rw [lB_0]
    by_cases ha : a < 60
    · have := hf a (List.mem_range.mpr ha)
      simpa using this
    · exact hx a (by omega)
  | some k =>
    rw [List.find?_range_eq_some] at hf
    obtain ⟨a1, a2, a3⟩ := hf
    refine ⟨k, List.mem_range.mp a2, a1, fun i hi => by have := a3 i hi; simpa using this, ?_⟩
    exact mFind_hit (List.mem_range.mp a2) a1 (fun i hi => by have := a3 i hi; simpa using this)
theorem c11_lowest (x : Int64) (hx : ∀ a, 60 ≤ a → lB x a = false) : gCon G kX11_lowest 2 0 0 M [.long x] (fun M2 v => M2 = M ∧ v = some (.int (mFind 60 (lB x)))) := by
  refine gCon_of (by decide) (Nat.le_of_ble_eq_true rfl) ?_
  by_cases h0 : x = 0
  · subst h0
    show gJ _ _ _ _ _ _ 0 [(0, _)] [] _
    refine gJ_lload_n dX11_lowest_0 rfl rfl ?_
    refine gJ_lconst (v := 0) dX11_lowest_1 (by decide) ?_
    refine gJ_lcmp dX11_lowest_2 ?_
    refine gJ_if_ne (tgt := 11) dX11_lowest_3 (by decide) (fun c_ => by exfalso; exact c_ ((lg_cmp_eq _ _).mpr rfl)) (fun _ => ?_)
    refine gJ_bipush (v := -5) dX11_lowest_6 (by decide) ?_
    refine gJ_goto (tgt := 15) dX11_lowest_8 (by decide) ?_
    refine gJ_iret dX11_lowest_15 rfl ?_
    refine ⟨rfl, ?_⟩
    rw [mFind_none (fun i _ => lB_0 i)]
  · obtain ⟨k, hk, h1, h2, h3⟩ := mFind_lo hx h0
    rw [h3]
    show gJ _ _ _ _ _ _ 0 [(0, _)] [] _
    refine gJ_lload_n dX11_lowest_0 rfl rfl ?_
    refine gJ_lconst (v := 0) dX11_lowest_1 (by decide) ?_
    refine gJ_lcmp dX11_lowest_2 ?_
    refine gJ_if_ne (tgt := 11) dX11_lowest_3 (by decide) (fun _ => ?_) (fun c_ => by exfalso; exact h0 ((lg_cmp_eq _ _).mp c_))
    refine gJ_lload_n dX11_lowest_11 rfl rfl ?_
    refine gJ_callS (As := [_]) b_J13_numberOfTrailingZeros_95d88 lX11_301 i_J13_numberOfTrailingZeros_95d88 dX11_lowest_12 (c13_ntz x k (by omega) h1 h2) rfl (Nat.le_of_ble_eq_true rfl) rfl (by decide) (fun M12 v_ h12 => ?_)
    obtain ⟨e_, rfl⟩ := h12
    replace e_ := e_.symm
    subst e_
    refine gJ_iret dX11_lowest_15 rfl ?_
    exact ⟨rfl, rfl⟩
end CLS
