/-- what holds of the reference's row at any time -/
def mB (V : Nat → Int32) (i n : Nat) : Prop := ∃ x, x ≤ n ∧ V i = nI x
def mI (V : Nat → Int32) : Prop :=
  (∀ i, i < 36 → mB V i (if i % 3 = 1 then 7 else 3)) ∧ (∀ s, s < 12 → mB V (48 + s) 1) ∧
  (∀ r, r < 5 → mB V (60 + 10 * r) 1 ∧ mMs V (60 + 10 * r + 1) ∧ mB V (60 + 10 * r + 6) 2 ∧ mB V (60 + 10 * r + 8) 9999 ∧ mB V (60 + 10 * r + 9) 3) ∧
  (∀ k, k < 6 → mB V (110 + 8 * k) 1 ∧ mMs V (110 + 8 * k + 1)) ∧
  (∀ k, k < 4 → mB V (158 + 12 * k) 1 ∧ mMs V (158 + 12 * k + 1) ∧ mMs V (158 + 12 * k + 6) ∧ mB V (158 + 12 * k + 11) 7) ∧
  (∀ a, a < 60 → mB V (206 + 23 * a) 2 ∧ mB V (206 + 23 * a + 2) 20) ∧
  (∀ k, k < 128 → mB V (1586 + 2 * k) 1) ∧
  mB V 1842 60 ∧ mB V 1843 999 ∧ mB V 1844 999 ∧ mB V 1845 20 ∧ mB V 1846 7
def mHolds (V : Nat → Int32) (a : Nat) : Bool := !(decide (V (60 + 10 * (a / 12)) = 0)) && (!(decide (V (48 + a % 12) = 0)) && (mMat V a (60 + 10 * (a / 12) + 1) &&
  (if V (60 + 10 * (a / 12) + 6) = 0 then !(decide (V (60 + 10 * (a / 12) + 7) ≤ V (36 + a % 12))) else if V (60 + 10 * (a / 12) + 6) = 1 then !(decide (V (36 + a % 12) ≤ V (60 + 10 * (a / 12) + 7))) else decide (V (36 + a % 12) = V (60 + 10 * (a / 12) + 7)))))
def mSil (V : Nat → Int32) (a k : Nat) : Bool := decide (V (110 + 8 * k) = 1) && (!(decide (V 1847 < V (110 + 8 * k + 6))) && (!(decide (V (110 + 8 * k + 6) + V (110 + 8 * k + 7) ≤ V 1847)) && mMat V a (110 + 8 * k + 1)))
def mSilOf (V : Nat → Int32) (a : Nat) : Int32 := mFind 6 (mSil V a)
def mSame (V : Nat → Int32) (a b k l : Nat) : Bool := decide (V (158 + 12 * k + 11) >>> (nI l &&& 31) &&& 1 = 0) || decide (V (0 + 3 * (a % 12) + l) = V (0 + 3 * (b % 12) + l))
def mInhK (V : Nat → Int32) (a b k : Nat) : Bool := !(decide (V (158 + 12 * k) = 0)) && (mMat V b (158 + 12 * k + 1) && (mMat V a (158 + 12 * k + 6) && (List.range 3).all (mSame V a b k)))
def mInh (V : Nat → Int32) (a b : Nat) : Bool := (List.range 4).any (mInhK V a b)
def mInhP (V : Nat → Int32) (a b : Nat) : Bool := !(decide (b = a)) && (decide (V (206 + 23 * b) = 2) && mInh V a b)
def mInhOf (V : Nat → Int32) (a : Nat) : Int32 := if V (206 + 23 * a) = 2 then mFind 60 (mInhP V a) else -5
def mLate (V : Nat → Int32) (a j : Nat) : Bool := !(decide (V (206 + 23 * a + 3 + j) ≤ V 1847 - V 1844))
def mFlaps (V : Nat → Int32) (a : Nat) : Nat := (List.range (mN V (206 + 23 * a + 2))).countP (mLate V a)
def mFlapping (V : Nat → Int32) (a : Nat) : Bool := !(decide (nI (mFlaps V a) < V 1845))
def mAct (V : Nat → Int32) (a : Nat) : Bool := decide (V (206 + 23 * a) = 2) && (!(decide (0 ≤ mSilOf V a)) && (!(mFlapping V a) && !(decide (0 ≤ mInhOf V a))))
def mKey (V : Nat → Int32) (a : Nat) : Int32 := (32 : Int32) * V (0 + 3 * (a % 12)) * (V 1846 &&& 1) + (4 : Int32) * V (0 + 3 * (a % 12) + 1) * (V 1846 >>> ((1 : Int32) &&& 31) &&& 1) + V (0 + 3 * (a % 12) + 2) * (V 1846 >>> ((2 : Int32) &&& 31))
section MODEL
variable {G : gG} {M : gM} {m : Nat} {hi tn at_ fa : Int32} {V : Nat → Int32} {S : Nat → Int64}
theorem c12_isSilencedBy (hm : M.1 m = some (mO m hi tn at_ fa)) (hV : M.1 (m + 1) = some (gI 1999 V)) (hI : mI V) (a k : Nat) (ha : a < 60) (hk : k < 6) : gCon G kX12_isSilencedBy 1 0 0 M [.ref m, .int (nI a), .int (nI k)] (fun M2 v => M2 = M ∧ v = some (.int (gb (mSil V a k)))) := by
  refine gCon_of (by decide) (Nat.le_of_ble_eq_true rfl) ?_
  show gJ _ _ _ _ _ _ 0 [(0, _), (1, _), (2, _)] [] _
  refine gJ_bipush (v := 110) dX12_isSilencedBy_0 (by decide) ?_
  refine gJ_bipush (v := 8) dX12_isSilencedBy_2 (by decide) ?_
  refine gJ_iload_n dX12_isSilencedBy_4 rfl rfl ?_
  refine gJ_imulN (a := 8) (b := k) dX12_isSilencedBy_5 (by first | with_reducible rfl | rfl) (by first | with_reducible rfl | rfl) ?_
  refine gJ_iaddN (a := 110) (b := (8 * k)) dX12_isSilencedBy_6 (by first | with_reducible rfl | rfl) (by first | with_reducible rfl | rfl) ?_
  refine gJ_istore_n (lv2 := [(3, _), (0, _), (1, _), (2, _)]) dX12_isSilencedBy_7 rfl rfl rfl ?_
  refine gJ_aload_n dX12_isSilencedBy_8 rfl rfl ?_
  refine gJ_get fX12_9 dX12_isSilencedBy_9 (by first | assumption | exact gUp_s | exact gUp_n (by assumption) (by omega)) rfl ?_
  refine gJ_iload_n dX12_isSilencedBy_12 rfl rfl ?_
  refine gJ_ialdN (j := (110 + (8 * k))) dX12_isSilencedBy_13 (by first | assumption | exact gUp_s | exact gUp_n (by assumption) (by omega)) (by first | with_reducible rfl | rfl) (by omega) (by decide) ?_
  refine gJ_iconst (v := 1) dX12_isSilencedBy_14 (by decide) ?_
  refine gJ_icmp_ne (tgt := 83) dX12_isSilencedBy_15 (by decide) (fun c15 => ?_) (fun c15 => ?_)
  · refine gJ_iconst (v := 0) dX12_isSilencedBy_83 (by decide) ?_
    refine gJ_zret dX12_isSilencedBy_84 rfl (by first | exact gz0 | exact gz1 | exact gb01 _) ?_
    refine ⟨rfl, ?_⟩
    simp [mSil, *, gb]
  · refine gJ_aload_n dX12_isSilencedBy_18 rfl rfl ?_
    refine gJ_get fX12_9 dX12_isSilencedBy_19 (by first | assumption | exact gUp_s | exact gUp_n (by assumption) (by omega)) rfl ?_
    refine gJ_iload_n dX12_isSilencedBy_22 rfl rfl ?_
    refine gJ_bipush (v := 6) dX12_isSilencedBy_23 (by decide) ?_
    refine gJ_iaddN (a := (110 + (8 * k))) (b := 6) dX12_isSilencedBy_25 (by first | with_reducible rfl | rfl) (by first | with_reducible rfl | rfl) ?_
    refine gJ_ialdN (j := ((110 + (8 * k)) + 6)) dX12_isSilencedBy_26 (by first | assumption | exact gUp_s | exact gUp_n (by assumption) (by omega)) (by first | with_reducible rfl | rfl) (by omega) (by decide) ?_
    refine gJ_aload_n dX12_isSilencedBy_27 rfl rfl ?_
    refine gJ_get fX12_9 dX12_isSilencedBy_28 (by first | assumption | exact gUp_s | exact gUp_n (by assumption) (by omega)) rfl ?_
    refine gJ_sipush (v := 1847) dX12_isSilencedBy_31 (by decide) ?_
    refine gJ_ialdN (j := 1847) dX12_isSilencedBy_34 (by first | assumption | exact gUp_s | exact gUp_n (by assumption) (by omega)) (by first | with_reducible rfl | rfl) (by omega) (by decide) ?_
    refine gJ_icmp_gt (tgt := 83) dX12_isSilencedBy_35 (by decide) (fun c35 => ?_) (fun c35 => ?_)
    · refine gJ_iconst (v := 0) dX12_isSilencedBy_83 (by decide) ?_
      refine gJ_zret dX12_isSilencedBy_84 rfl (by first | exact gz0 | exact gz1 | exact gb01 _) ?_
      refine ⟨rfl, ?_⟩
      simp [mSil, *, gb]
    · refine gJ_aload_n dX12_isSilencedBy_38 rfl rfl ?_
      refine gJ_get fX12_9 dX12_isSilencedBy_39 (by first | assumption | exact gUp_s | exact gUp_n (by assumption) (by omega)) rfl ?_
      refine gJ_sipush (v := 1847) dX12_isSilencedBy_42 (by decide) ?_
      refine gJ_ialdN (j := 1847) dX12_isSilencedBy_45 (by first | assumption | exact gUp_s | exact gUp_n (by assumption) (by omega)) (by first | with_reducible rfl | rfl) (by omega) (by decide) ?_
      refine gJ_aload_n dX12_isSilencedBy_46 rfl rfl ?_
      refine gJ_get fX12_9 dX12_isSilencedBy_47 (by first | assumption | exact gUp_s | exact gUp_n (by assumption) (by omega)) rfl ?_
      refine gJ_iload_n dX12_isSilencedBy_50 rfl rfl ?_
      refine gJ_bipush (v := 6) dX12_isSilencedBy_51 (by decide) ?_
      refine gJ_iaddN (a := (110 + (8 * k))) (b := 6) dX12_isSilencedBy_53 (by first | with_reducible rfl | rfl) (by first | with_reducible rfl | rfl) ?_
      refine gJ_ialdN (j := ((110 + (8 * k)) + 6)) dX12_isSilencedBy_54 (by first | assumption | exact gUp_s | exact gUp_n (by assumption) (by omega)) (by first | with_reducible rfl | rfl) (by omega) (by decide) ?_
      refine gJ_aload_n dX12_isSilencedBy_55 rfl rfl ?_
      refine gJ_get fX12_9 dX12_isSilencedBy_56 (by first | assumption | exact gUp_s | exact gUp_n (by assumption) (by omega)) rfl ?_
      refine gJ_iload_n dX12_isSilencedBy_59 rfl rfl ?_
      refine gJ_bipush (v := 7) dX12_isSilencedBy_60 (by decide) ?_
      refine gJ_iaddN (a := (110 + (8 * k))) (b := 7) dX12_isSilencedBy_62 (by first | with_reducible rfl | rfl) (by first | with_reducible rfl | rfl) ?_
      refine gJ_ialdN (j := ((110 + (8 * k)) + 7)) dX12_isSilencedBy_63 (by first | assumption | exact gUp_s | exact gUp_n (by assumption) (by omega)) (by first | with_reducible rfl | rfl) (by omega) (by decide) ?_
      refine gJ_iadd dX12_isSilencedBy_64 ?_
      refine gJ_icmp_ge (tgt := 83) dX12_isSilencedBy_65 (by decide) (fun c65 => ?_) (fun c65 => ?_)
      · refine gJ_iconst (v := 0) dX12_isSilencedBy_83 (by decide) ?_
        refine gJ_zret dX12_isSilencedBy_84 rfl (by first | exact gz0 | exact gz1 | exact gb01 _) ?_
        refine ⟨rfl, ?_⟩
        simp [mSil, *, gb]
      · refine gJ_aload_n dX12_isSilencedBy_68 rfl rfl ?_
        refine gJ_iload_n dX12_isSilencedBy_69 rfl rfl ?_
        refine gJ_iload_n dX12_isSilencedBy_70 rfl rfl ?_
        refine gJ_iconst (v := 1) dX12_isSilencedBy_71 (by decide) ?_
        refine gJ_iaddN (a := (110 + (8 * k))) (b := 1) dX12_isSilencedBy_72 (by first | with_reducible rfl | rfl) (by first | with_reducible rfl | rfl) ?_
        refine gJ_callV (As := [_, _]) b_X12_matches lX12_98 i_X12_matches s_X12_matches dX12_isSilencedBy_73 (c12_matches hm hV a (110 + 8 * k + 1) ha (hI.2.2.2.1 k hk).2) (by assumption) rfl rfl (Nat.le_of_ble_eq_true rfl) rfl (by decide) (fun M73 v_ h73 => ?_)
        obtain ⟨rfl, rfl⟩ := h73
        refine gJ_if_eqB (tgt := 83) dX12_isSilencedBy_76 (by decide) (fun c76 => ?_) (fun c76 => ?_)
        · refine gJ_iconst (v := 0) dX12_isSilencedBy_83 (by decide) ?_
          refine gJ_zret dX12_isSilencedBy_84 rfl (by first | exact gz0 | exact gz1 | exact gb01 _) ?_
          refine ⟨rfl, ?_⟩
          simp [mSil, *, gb]
        · refine gJ_iconst (v := 1) dX12_isSilencedBy_79 (by decide) ?_
          refine gJ_goto (tgt := 84) dX12_isSilencedBy_80 (by decide) ?_
          refine gJ_zret dX12_isSilencedBy_84 rfl (by first | exact gz0 | exact gz1 | exact gb01 _) ?_
          refine ⟨rfl, ?_⟩
          simp [mSil, *, gb]
theorem c12_silenceOf (hm : M.1 m = some (mO m hi tn at_ fa)) (hV : M.1 (m + 1) = some (gI 1999 V)) (hI : mI V) (a : Nat) (ha : a < 60) : gCon G kX12_silenceOf 2 0 0 M [.ref m, .int (nI a)] (fun M2 v => M2 = M ∧ v = some (.int (mSilOf V a))) := by
  refine gCon_of (by decide) (Nat.le_of_ble_eq_true rfl) ?_
  have loop : ∀ (q j : Nat), j + q = 7 → j ≤ 6 → (∀ i, i < j → mSil V a i = false) →
      gJ G kX12_silenceOf 2 0 0 M 2 [(2, .int (nI j)), (0, .ref m), (1, .int (nI a))] [] (gQ kX12_silenceOf (fun M2 v => M2 = M ∧ v = some (.int (mSilOf V a)))) := by
    intro q
    induction q with
    | zero => intro j h1 h2; exact absurd h1 (by omega)
    | succ q ih =>
      intro j hq hj hp
      refine gJ_iload_n dX12_silenceOf_2 rfl rfl ?_
      refine gJ_bipush (v := 6) dX12_silenceOf_3 (by decide) ?_
      refine gJ_icmp_geN (tgt := 25) (a := j) (b := 6) (by first | with_reducible rfl | rfl) (by first | with_reducible rfl | rfl) (by omega) (by omega) dX12_silenceOf_5 (by decide) (fun c5 => ?_) (fun c5 => ?_)
      · refine gJ_bipush (v := -5) dX12_silenceOf_25 (by decide) ?_
        refine gJ_iret dX12_silenceOf_27 rfl ?_
        refine ⟨rfl, ?_⟩
        rw [mSilOf, mFind_none (fun i hi => hp i (by omega))]
      · refine gJ_aload_n dX12_silenceOf_8 rfl rfl ?_
        refine gJ_iload_n dX12_silenceOf_9 rfl rfl ?_
        refine gJ_iload_n dX12_silenceOf_10 rfl rfl ?_
        refine gJ_callV (As := [_, _]) b_X12_isSilencedBy lX12_101 i_X12_isSilencedBy s_X12_isSilencedBy dX12_silenceOf_11 (c12_isSilencedBy hm hV hI a j ha (by omega)) (by assumption) rfl rfl (Nat.le_of_ble_eq_true rfl) rfl (by decide) (fun M11 v_ h11 => ?_)
        obtain ⟨rfl, rfl⟩ := h11
        refine gJ_if_eqB (tgt := 19) dX12_silenceOf_14 (by decide) (fun c14 => ?_) (fun c14 => ?_)
        · refine gJ_iincN (a := j) (b := 1) (lv2 := [(2, _), (0, _), (1, _)]) dX12_silenceOf_19 rfl rfl rfl rfl ?_
          refine gJ_goto (tgt := 2) dX12_silenceOf_22 (by decide) ?_
          refine gJ_ls (ih (j + 1) (by omega) (by omega) ?_) ⟨rfl, rfl, rfl, trivial⟩
          intro i hi
          rcases Nat.lt_succ_iff_lt_or_eq.mp hi with h | rfl
          · exact hp i h
          · exact c14
        · refine gJ_iload_n dX12_silenceOf_17 rfl rfl ?_
          refine gJ_iret dX12_silenceOf_18 rfl ?_
          refine ⟨rfl, ?_⟩
          rw [mSilOf, mFind_hit (by omega) c14 hp]
  show gJ _ _ _ _ _ _ 0 [(0, _), (1, _)] [] _
  refine gJ_iconst (v := 0) dX12_silenceOf_0 (by decide) ?_
  refine gJ_istore_n (lv2 := [(2, _), (0, _), (1, _)]) dX12_silenceOf_1 rfl rfl rfl ?_
  exact gJ_ls (loop 7 0 (by omega) (by omega) (fun i hi => absurd hi (by omega))) ⟨rfl, rfl, rfl, trivial⟩
theorem c12_flaps (hm : M.1 m = some (mO m hi tn at_ fa)) (hV : M.1 (m + 1) = some (gI 1999 V)) (hI : mI V) (a : Nat) (ha : a < 60) : gCon G kX12_flaps 0 0 0 M [.ref m, .int (nI a)] (fun M2 v => M2 = M ∧ v = some (.int (nI (mFlaps V a)))) := by
  obtain ⟨n, hn, hVn⟩ := (hI.2.2.2.2.2.1 a ha).2
  have hnn := mN_of hVn (by omega)
  refine gCon_of (by decide) (Nat.le_of_ble_eq_true rfl) ?_
  have loop : ∀ (q j c : Nat), j + q = n + 1 → j ≤ n → c = (List.range j).countP (mLate V a) → c ≤ j →
      gJ G kX12_flaps 0 0 0 M 14 [(4, .int (nI j)), (3, .int (nI c)), (2, .int (nI (206 + 23 * a))), (0, .ref m), (1, .int (nI a))] [] (gQ kX12_flaps (fun M2 v => M2 = M ∧ v = some (.int (nI (mFlaps V a))))) := by
    intro q
    induction q with
    | zero => intro j c h1 h2; exact absurd h1 (by omega)
    | succ q ih =>
      intro j c hq hj hp hc
      refine gJ_iload dX12_flaps_14 rfl ?_
      refine gJ_aload_n dX12_flaps_16 rfl rfl ?_
      refine gJ_get fX12_9 dX12_flaps_17 (by first | assumption | exact gUp_s | exact gUp_n (by assumption) (by omega)) rfl ?_
      refine gJ_iload_n dX12_flaps_20 rfl rfl ?_
      refine gJ_iconst (v := 2) dX12_flaps_21 (by decide) ?_
      refine gJ_iaddN (a := (206+23*a)) (b := 2) dX12_flaps_22 (by first | with_reducible rfl | rfl) (by first | with_reducible rfl | rfl) ?_
      refine gJ_ialdN (j := ((206+23*a) + 2)) dX12_flaps_23 (by first | assumption | exact gUp_s | exact gUp_n (by assumption) (by omega)) (by first | with_reducible rfl | rfl) (by omega) (by decide) ?_
      rw [hVn]
      refine gJ_icmp_geN (tgt := 72) (a := j) (b := n) (by first | with_reducible rfl | rfl) (by first | with_reducible rfl | rfl) (by omega) (by omega) dX12_flaps_24 (by decide) (fun c24 => ?_) (fun c24 => ?_)
      · refine gJ_iload_n dX12_flaps_72 rfl rfl ?_
        refine gJ_iret dX12_flaps_73 rfl ?_
        refine ⟨rfl, ?_⟩
        rw [mFlaps, hnn, hp, show j = n by omega]
      · refine gJ_iload_n dX12_flaps_27 rfl rfl ?_
        refine gJ_aload_n dX12_flaps_28 rfl rfl ?_
        refine gJ_get fX12_9 dX12_flaps_29 (by first | assumption | exact gUp_s | exact gUp_n (by assumption) (by omega)) rfl ?_
        refine gJ_iload_n dX12_flaps_32 rfl rfl ?_
        refine gJ_iconst (v := 3) dX12_flaps_33 (by decide) ?_
        refine gJ_iaddN (a := (206+23*a)) (b := 3) dX12_flaps_34 (by first | with_reducible rfl | rfl) (by first | with_reducible rfl | rfl) ?_
        refine gJ_iload dX12_flaps_35 rfl ?_
        refine gJ_iaddN (a := ((206+23*a) + 3)) (b := j) dX12_flaps_37 (by first | with_reducible rfl | rfl) (by first | with_reducible rfl | rfl) ?_
        refine gJ_ialdN (j := (((206+23*a) + 3) + j)) dX12_flaps_38 (by first | assumption | exact gUp_s | exact gUp_n (by assumption) (by omega)) (by first | with_reducible rfl | rfl) (by omega) (by decide) ?_
        refine gJ_aload_n dX12_flaps_39 rfl rfl ?_
        refine gJ_get fX12_9 dX12_flaps_40 (by first | assumption | exact gUp_s | exact gUp_n (by assumption) (by omega)) rfl ?_
        refine gJ_sipush (v := 1847) dX12_flaps_43 (by decide) ?_
        refine gJ_ialdN (j := 1847) dX12_flaps_46 (by first | assumption | exact gUp_s | exact gUp_n (by assumption) (by omega)) (by first | with_reducible rfl | rfl) (by omega) (by decide) ?_
        refine gJ_aload_n dX12_flaps_47 rfl rfl ?_
        refine gJ_get fX12_9 dX12_flaps_48 (by first | assumption | exact gUp_s | exact gUp_n (by assumption) (by omega)) rfl ?_
        refine gJ_sipush (v := 1844) dX12_flaps_51 (by decide) ?_
        refine gJ_ialdN (j := 1844) dX12_flaps_54 (by first | assumption | exact gUp_s | exact gUp_n (by assumption) (by omega)) (by first | with_reducible rfl | rfl) (by omega) (by decide) ?_
        refine gJ_isub dX12_flaps_55 ?_
        refine gJ_icmp_le (tgt := 63) dX12_flaps_56 (by decide) (fun c56 => ?_) (fun c56 => ?_)
        · refine gJ_iconst (v := 0) dX12_flaps_63 (by decide) ?_
          refine gJ_iaddN (a := c) (b := 0) dX12_flaps_64 (by first | with_reducible rfl | rfl) (by first | with_reducible rfl | rfl) ?_
          refine gJ_istore_n (lv2 := [(3, _), (4, _), (2, _), (0, _), (1, _)]) dX12_flaps_65 rfl rfl rfl ?_
          refine gJ_iincN (a := j) (b := 1) (lv2 := [(4, _), (3, _), (2, _), (0, _), (1, _)]) dX12_flaps_66 rfl rfl rfl rfl ?_
          refine gJ_goto (tgt := 14) dX12_flaps_69 (by decide) ?_
          refine gJ_ls (ih (j + 1) _ (by omega) (by omega) ?_ (by omega)) ⟨rfl, rfl, rfl, rfl, rfl, trivial⟩
          rw [List.range_succ, List.countP_append, ← hp]
          simp [mLate, c56]
        · refine gJ_iconst (v := 1) dX12_flaps_59 (by decide) ?_
          refine gJ_goto (tgt := 64) dX12_flaps_60 (by decide) ?_
          refine gJ_iaddN (a := c) (b := 1) dX12_flaps_64 (by first | with_reducible rfl | rfl) (by first | with_reducible rfl | rfl) ?_
          refine gJ_istore_n (lv2 := [(3, _), (4, _), (2, _), (0, _), (1, _)]) dX12_flaps_65 rfl rfl rfl ?_
          refine gJ_iincN (a := j) (b := 1) (lv2 := [(4, _), (3, _), (2, _), (0, _), (1, _)]) dX12_flaps_66 rfl rfl rfl rfl ?_
          refine gJ_goto (tgt := 14) dX12_flaps_69 (by decide) ?_
          refine gJ_ls (ih (j + 1) _ (by omega) (by omega) ?_ (by omega)) ⟨rfl, rfl, rfl, rfl, rfl, trivial⟩
          rw [List.range_succ, List.countP_append, ← hp]
          simp [mLate, c56]
  show gJ _ _ _ _ _ _ 0 [(0, _), (1, _)] [] _
  refine gJ_sipush (v := 206) dX12_flaps_0 (by decide) ?_
  refine gJ_bipush (v := 23) dX12_flaps_3 (by decide) ?_
  refine gJ_iload_n dX12_flaps_5 rfl rfl ?_
  refine gJ_imulN (a := 23) (b := a) dX12_flaps_6 (by first | with_reducible rfl | rfl) (by first | with_reducible rfl | rfl) ?_
  refine gJ_iaddN (a := 206) (b := (23 * a)) dX12_flaps_7 (by first | with_reducible rfl | rfl) (by first | with_reducible rfl | rfl) ?_
  refine gJ_istore_n (lv2 := [(2, _), (0, _), (1, _)]) dX12_flaps_8 rfl rfl rfl ?_
  refine gJ_iconst (v := 0) dX12_flaps_9 (by decide) ?_
  refine gJ_istore_n (lv2 := [(3, _), (2, _), (0, _), (1, _)]) dX12_flaps_10 rfl rfl rfl ?_
  refine gJ_iconst (v := 0) dX12_flaps_11 (by decide) ?_
  refine gJ_istore (lv2 := [(4, _), (3, _), (2, _), (0, _), (1, _)]) dX12_flaps_12 rfl rfl ?_
  exact gJ_ls (loop (n + 1) 0 0 (by omega) (by omega) rfl (by omega)) ⟨rfl, rfl, rfl, rfl, rfl, trivial⟩
theorem mFlaps_le (V : Nat → Int32) (a : Nat) (hI : mI V) (ha : a < 60) : mFlaps V a ≤ 20 := by
  obtain ⟨n, hn, hVn⟩ := (hI.2.2.2.2.2.1 a ha).2
  have h := List.countP_le_length (p := mLate V a) (l := List.range (mN V (206 + 23 * a + 2)))
  rw [List.length_range, mN_of hVn (by omega)] at h
  unfold mFlaps
  rw [mN_of hVn (by omega)]
  omega
theorem c12_isFlapping (hm : M.1 m = some (mO m hi tn at_ fa)) (hV : M.1 (m + 1) = some (gI 1999 V)) (hI : mI V) (a : Nat) (ha : a < 60) : gCon G kX12_isFlapping 1 0 0 M [.ref m, .int (nI a)] (fun M2 v => M2 = M ∧ v = some (.int (gb (mFlapping V a)))) := by
  refine gCon_of (by decide) (Nat.le_of_ble_eq_true rfl) ?_
  show gJ _ _ _ _ _ _ 0 [(0, _), (1, _)] [] _
  refine gJ_aload_n dX12_isFlapping_0 rfl rfl ?_
  refine gJ_iload_n dX12_isFlapping_1 rfl rfl ?_
  refine gJ_callV (As := [_]) b_X12_flaps lX12_110 i_X12_flaps s_X12_flaps dX12_isFlapping_2 (c12_flaps hm hV hI a ha) (by assumption) rfl rfl (Nat.le_of_ble_eq_true rfl) rfl (by decide) (fun M2 v_ h2 => ?_)
  obtain ⟨rfl, rfl⟩ := h2
  refine gJ_aload_n dX12_isFlapping_5 rfl rfl ?_
  refine gJ_get fX12_9 dX12_isFlapping_6 (by first | assumption | exact gUp_s | exact gUp_n (by assumption) (by omega)) rfl ?_
  refine gJ_sipush (v := 1845) dX12_isFlapping_9 (by decide) ?_
  refine gJ_ialdN (j := 1845) dX12_isFlapping_12 (by first | assumption | exact gUp_s | exact gUp_n (by assumption) (by omega)) (by first | with_reducible rfl | rfl) (by omega) (by decide) ?_
  refine gJ_icmp_lt (tgt := 20) dX12_isFlapping_13 (by decide) (fun c13 => ?_) (fun c13 => ?_)
  · refine gJ_iconst (v := 0) dX12_isFlapping_20 (by decide) ?_
    refine gJ_zret dX12_isFlapping_21 rfl (by first | exact gz0 | exact gz1 | exact gb01 _) ?_
    refine ⟨rfl, ?_⟩
    simp [mFlapping, c13, gb]
  · refine gJ_iconst (v := 1) dX12_isFlapping_16 (by decide) ?_
    refine gJ_goto (tgt := 21) dX12_isFlapping_17 (by decide) ?_
    refine gJ_zret dX12_isFlapping_21 rfl (by first | exact gz0 | exact gz1 | exact gb01 _) ?_
    refine ⟨rfl, ?_⟩
    simp [mFlapping, c13, gb]
end MODEL
