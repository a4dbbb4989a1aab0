theorem bC_size {x : Int64} (h : ∀ a, 60 ≤ a → lB x a = false) : bC x = mSize x := by
  unfold bC mSize
  rw [show (64 : Nat) = 60 + 1 + 1 + 1 + 1 from rfl, List.range_succ, List.range_succ, List.range_succ, List.range_succ]
  simp only [List.countP_append, List.countP_singleton]
  rw [h 60 (by omega), h (60 + 1) (by omega), h (60 + 1 + 1) (by omega), h (60 + 1 + 1 + 1) (by omega)]
  rfl
theorem lS_big {P : Nat → Bool} {a : Nat} (h : 60 ≤ a) : lB (lS P 60) a = false := by rw [lS_b, decide_eq_false (by omega)]; rfl
theorem mSize_S {Q : Nat → Bool} : mSize (lS Q 60) = (List.range 60).countP Q := by
  unfold mSize
  apply List.countP_congr
  intro x hx
  rw [lS_b, decide_eq_true (List.mem_range.mp hx), Bool.true_and]
theorem cnt_le1 {Q : Nat → Bool} {a : Nat} : ∀ n, (∀ b, b < n → Q b = true → b = a) → (List.range n).countP Q ≤ if n ≤ a then 0 else 1
  | 0, _ => by simp
  | n + 1, h => by
    have ih := cnt_le1 n (fun b hb => h b (by omega))
    rw [List.range_succ, List.countP_append, List.countP_singleton]
    by_cases hq : Q n = true
    · have e := h n (by omega) hq
      rw [if_pos hq]
      rw [if_pos (by omega)] at ih
      rw [if_neg (by omega)]
      omega
    · rw [if_neg hq]
      by_cases hn : n + 1 ≤ a
      · rw [if_pos hn]; rw [if_pos (by omega)] at ih; omega
      · rw [if_neg hn]
        split at ih <;> omega
theorem cnt_pos {Q : Nat → Bool} {n b : Nat} (hb : b < n) (h : Q b = true) : 0 < (List.range n).countP Q := List.countP_pos_iff.mpr ⟨b, List.mem_range.mpr hb, h⟩
theorem cnt_two {Q : Nat → Bool} {a b : Nat} (hab : a < b) (ha : Q a = true) (hb : Q b = true) : ∀ n, b < n → 2 ≤ (List.range n).countP Q
  | 0, h => absurd h (by omega)
  | n + 1, h => by
    rw [List.range_succ, List.countP_append, List.countP_singleton]
    by_cases e : b = n
    · subst e
      have := cnt_pos hab ha
      rw [if_pos hb]
      omega
    · have := cnt_two hab ha hb n (by omega)
      omega
theorem cnt_ex {Q : Nat → Bool} (hex : ∃ b, b < 60 ∧ Q b = true) {a : Nat} (ha : a < 60) : (if (List.range 60).countP Q = 1 then !Q a else true) = true ↔ ∃ b, b < 60 ∧ b ≠ a ∧ Q b = true := by
  constructor
  · intro h
    apply Classical.byContradiction
    intro hn
    have h1 : ∀ b, b < 60 → Q b = true → b = a := fun b hb hq => Classical.byContradiction fun he => hn ⟨b, hb, he, hq⟩
    obtain ⟨b, hb, hq⟩ := hex
    have e := h1 b hb hq
    subst e
    have h2 := cnt_le1 60 h1
    rw [if_neg (by omega)] at h2
    have h3 := cnt_pos hb hq
    rw [if_pos (by omega), hq] at h
    cases h
  · rintro ⟨b, hb, hne, hq⟩
    by_cases hqa : Q a = true
    · have : 2 ≤ (List.range 60).countP Q := by
        rcases Nat.lt_or_gt_of_ne hne with h | h
        · exact cnt_two h hq hqa 60 ha
        · exact cnt_two h hqa hq 60 hb
      rw [if_neg (by omega)]
    · rw [Bool.not_eq_true _ |>.mp hqa]
      split <;> rfl
theorem mFind_ext {n : Nat} {p q : Nat → Bool} (h : ∀ i, i < n → p i = q i) : mFind n p = mFind n q := by
  unfold mFind
  rw [show (List.range n).find? p = (List.range n).find? q from ?_]
  have : ∀ l : List Nat, (∀ x ∈ l, x < n) → l.find? p = l.find? q := by
    intro l
    induction l with
    | nil => intro _; rfl
    | cons y r ih =>
      intro hl
      rw [List.find?_cons, List.find?_cons, h y (hl y List.mem_cons_self), ih (fun x hx => hl x (List.mem_cons_of_mem _ hx))]
  exact this _ (fun x hx => List.mem_range.mp hx)
def cCau (V : Nat → Int32) (k b : Nat) : Bool := cMtA V (158 + 12 * k + 1) b && cStB V 2 b
def cInhB (V : Nat → Int32) (k a : Nat) : Bool := (cMtA V (158 + 12 * k + 6) a && cStB V 2 a) && (List.range 60).any fun b => !decide (b = a) && (cCau V k b && cAlk V (V (158 + 12 * k + 11)) (a % 12) b)
def cInhd (V : Nat → Int32) (a : Nat) : Bool := (List.range 4).any fun k => decide (V (158 + 12 * k) = 1) && cInhB V k a
theorem cAlk_is {V : Nat → Int32} {k a b : Nat} : cAlk V (V (158 + 12 * k + 11)) (a % 12) b = (List.range 3).all (mSame V a b k) := by
  unfold cAlk
  rw [Bool.eq_iff_iff, List.all_eq_true, List.all_eq_true]
  have key : ∀ l, (decide (V (158 + 12 * k + 11) >>> (nI l &&& 31) &&& 1 = 0) || decide (V (3 * (b % 12) + l) = V (3 * (a % 12) + l))) = mSame V a b k l := by
    intro l
    unfold mSame
    rw [Nat.zero_add, Nat.zero_add]
    congr 1
    exact decide_eq_decide.mpr eq_comm
  constructor
  · intro h x hx
    rw [← key]
    exact h x hx
  · intro h x hx
    rw [key]
    exact h x hx
theorem mInhP_is {V : Nat → Int32} (hI : mI V) (hJ : mJ V) (hok : ∀ k, k < 4 → V (158 + 12 * k) = 1 → cOk V (158 + 12 * k + 1) ∧ cOk V (158 + 12 * k + 6)) {a b : Nat} (ha : a < 60) (hb : b < 60) (hfa : cStB V 2 a = true) : mInhP V a b = (List.range 4).any fun k => decide (V (158 + 12 * k) = 1) && (cMtA V (158 + 12 * k + 6) a && (!decide (b = a) && (cCau V k b && cAlk V (V (158 + 12 * k + 11)) (a % 12) b))) := by
  have pa := hJ a ha (by rw [of_decide_eq_true hfa]; decide)
  unfold mInhP mInh
  by_cases hfb : V (206 + 23 * b) = 2
  · have pb := hJ b hb (by rw [hfb]; decide)
    have hcb : cStB V 2 b = true := decide_eq_true hfb
    rw [decide_eq_true hfb, Bool.true_and]
    by_cases e : b = a
    · rw [decide_eq_true e]
      rw [show (!true) = false from rfl, Bool.false_and]
      symm
      refine any_f (fun k hk => ?_)
      simp
    · rw [decide_eq_false e]
      rw [show (!false) = true from rfl, Bool.true_and]
      rw [Bool.eq_iff_iff, List.any_eq_true, List.any_eq_true]
      have key : ∀ k, k < 4 → mInhK V a b k = (decide (V (158 + 12 * k) = 1) && (cMtA V (158 + 12 * k + 6) a && (true && (cCau V k b && cAlk V (V (158 + 12 * k + 11)) (a % 12) b)))) := by
        intro k hk
        unfold mInhK cCau
        rw [hcb, cAlk_is]
        obtain ⟨x, hx, hx2⟩ := (hI.2.2.2.2.1 k hk).1
        rcases (show x = 0 ∨ x = 1 by omega) with rfl | rfl
        · rw [hx2]; rfl
        · obtain ⟨o1, o2⟩ := hok k hk hx2
          rw [cMtA_is pa o2, cMtA_is pb o1, hx2, decide_eq_false (by decide : ¬ nI 1 = 0), decide_eq_true (by decide : nI 1 = 1)]
          cases mMat V b (158 + 12 * k + 1) <;> cases mMat V a (158 + 12 * k + 6) <;> simp
      constructor
      · rintro ⟨k, hk, h⟩
        exact ⟨k, hk, by rw [← key k (List.mem_range.mp hk)]; exact h⟩
      · rintro ⟨k, hk, h⟩
        exact ⟨k, hk, by rw [key k (List.mem_range.mp hk)]; exact h⟩
  · have hcb : ∀ k, cCau V k b = false := fun k => by
      unfold cCau cStB
      rw [decide_eq_false hfb, Bool.and_false]
    rw [decide_eq_false hfb, Bool.false_and, Bool.and_false]
    symm
    refine any_f (fun k hk => ?_)
    rw [hcb]
    simp
theorem mInhOf_any {V : Nat → Int32} {a : Nat} : decide (mInhOf V a < 0) = !(cStB V 2 a && (List.range 60).any (mInhP V a)) := by
  unfold mInhOf cStB
  by_cases h : V (206 + 23 * a) = 2
  · rw [if_pos h, decide_eq_true h, Bool.true_and]
    cases hany : (List.range 60).any (mInhP V a) with
    | false =>
      rw [mFind_none (fun i hi => Bool.not_eq_true _ |>.mp (fun ht => by rw [any_t hi ht] at hany; cases hany))]
      decide
    | true =>
      obtain ⟨x, hx, hx2⟩ := List.any_eq_true.mp hany
      cases hf : (List.range 60).find? (mInhP V a) with
      | none =>
        rw [List.find?_eq_none] at hf
        exact absurd hx2 (hf x hx)
      | some j =>
        have hj : j < 60 := List.mem_range.mp (List.mem_of_find?_eq_some hf)
        rw [mFind, hf]
        exact decide_eq_false (Int32.not_lt.mpr (nI_pos' (by omega)))
  · rw [if_neg h, decide_eq_false h, Bool.false_and]
    decide
theorem cInhd_is {V : Nat → Int32} (hI : mI V) (hJ : mJ V) (hok : ∀ k, k < 4 → V (158 + 12 * k) = 1 → cOk V (158 + 12 * k + 1) ∧ cOk V (158 + 12 * k + 6)) {a : Nat} (ha : a < 60) : cInhd V a = !decide (mInhOf V a < 0) := by
  rw [mInhOf_any, Bool.not_not]
  cases hfa : cStB V 2 a with
  | false =>
    rw [Bool.false_and]
    refine any_f (fun k hk => ?_)
    rw [cInhB, hfa]
    simp
  | true =>
    rw [Bool.true_and, Bool.eq_iff_iff]
    unfold cInhd
    rw [List.any_eq_true, List.any_eq_true]
    constructor
    · rintro ⟨k, hk, h⟩
      rw [cInhB, hfa, Bool.and_eq_true, Bool.and_eq_true, Bool.and_eq_true, List.any_eq_true] at h
      obtain ⟨h1, ⟨h2, -⟩, b, hb, h3⟩ := h
      refine ⟨b, hb, ?_⟩
      rw [mInhP_is hI hJ hok ha (List.mem_range.mp hb) hfa]
      exact any_t (List.mem_range.mp hk) (by rw [h1, h2, h3]; rfl)
    · rintro ⟨b, hb, h⟩
      rw [mInhP_is hI hJ hok ha (List.mem_range.mp hb) hfa, List.any_eq_true] at h
      obtain ⟨k, hk, h⟩ := h
      rw [Bool.and_eq_true, Bool.and_eq_true] at h
      obtain ⟨h1, h2, h3⟩ := h
      refine ⟨k, hk, ?_⟩
      rw [cInhB, hfa, h1, h2, any_t (List.mem_range.mp hb) h3]
      rfl
section CLS
variable {G : gG} {M : gM} {E s T : Nat} {V : Nat → Int32} {S D : Nat → Int64}
theorem cIn_ok {IN : Nat → Option Nat} (hN : ∀ k, k < 4 → cInh M E V k (IN k)) : ∀ k, k < 4 → V (158 + 12 * k) = 1 → cOk V (158 + 12 * k + 1) ∧ cOk V (158 + 12 * k + 6) := by
  intro k hk hv
  rcases hN k hk with ⟨hv0, -⟩ | ⟨-, q, mq, nq, -, -, -, hm, hn⟩
  · rw [hv0] at hv; exact absurd hv (by decide)
  · exact ⟨cMat_ok hm, cMat_ok hn⟩
set_option maxHeartbeats 2000000 in
set_option maxRecDepth 20000 in
theorem c9_inhibitedBy (h : cR T M E s V S D) (hI : mI V) (k q mq nq : Nat) (hk : k < 4) (hq : M.1 q = some (gO 2 [.ref mq, .ref nq, .int (V (158 + 12 * k + 11))])) (hm : cMat M E mq V (158 + 12 * k + 1)) (hn : cMat M E nq V (158 + 12 * k + 6)) : gCon G kX9_inhibitedBy 1 0 0 M [.ref s, .ref q] (fun M2 v => M2 = M ∧ v = some (.long (lS (cInhB V k) 60))) := by
  obtain ⟨-, hs, ⟨X, RU, SI, IN, h0, h1, h2, h3, h4, h5, h6, h7, h8, hX, hR, hS, hN⟩, ⟨X2, R, C, a0, a1, a2, a3, aX, aR⟩, -, -⟩ := h
  refine gCon_of (by decide) (Nat.le_of_ble_eq_true rfl) ?_
  have loop : ∀ (n j : Nat), j + n = 13 → j ≤ 12 → ∀ x : Int64, x = lS (fun a => decide (a % 12 < j) && cInhB V k a) 60 →
      gJ G kX9_inhibitedBy 1 0 0 M 47 [(8, .int (nI j)), (6, .long x), (4, .long (lS (fun a => cMtA V (158 + 12 * k + 6) a && cStB V 2 a) 60)), (2, .long (lS (cCau V k) 60)), (0, .ref s), (1, .ref q)] [] (gQ kX9_inhibitedBy (fun M2 v => M2 = M ∧ v = some (.long (lS (cInhB V k) 60)))) := by
    intro n
    induction n with
    | zero => intro j h1 h2; exact absurd h1 (by omega)
    | succ n ih =>
      intro j hn2 hj x hx
      by_cases h12 : j < 12
      · obtain ⟨Q, hQ⟩ : ∃ Q : Nat → Bool, Q = fun b => cCau V k b && cAlk V (V (158 + 12 * k + 11)) j b := ⟨_, rfl⟩
        have hand : lS (cCau V k) 60 &&& lS (cAlk V (V (158 + 12 * k + 11)) j) 60 = lS Q 60 := by rw [lS_and, hQ]
        have hB : ∀ a, a < 60 → a % 12 = j → (cInhB V k a = true ↔ (cMtA V (158 + 12 * k + 6) a && cStB V 2 a) = true ∧ ∃ b, b < 60 ∧ b ≠ a ∧ Q b = true) := by
          intro a ha e
          unfold cInhB
          rw [Bool.and_eq_true, List.any_eq_true, e, hQ]
          constructor
          · rintro ⟨g1, b, g2, g3⟩
            rw [Bool.and_eq_true] at g3
            exact ⟨g1, b, List.mem_range.mp g2, by simpa using g3.1, g3.2⟩
          · rintro ⟨g1, b, g2, g3, g4⟩
            exact ⟨g1, b, List.mem_range.mpr g2, by rw [decide_eq_false g3]; exact g4⟩
        have next0 : lS Q 60 = 0 → lS (fun a => decide (a % 12 < j + 1) && cInhB V k a) 60 = x := by
          intro hz
          rw [hx]
          refine lS_ext fun a ha => ?_
          by_cases e : a % 12 = j
          · have : cInhB V k a = false := Bool.not_eq_true _ |>.mp (fun ht => by
              obtain ⟨-, b, hb, -, hqb⟩ := (hB a ha e).mp ht
              rw [lS_z.mp hz b hb] at hqb
              cases hqb)
            rw [this, Bool.and_false, Bool.and_false]
          · have e2 : (a % 12 < j + 1) ↔ (a % 12 < j) := by omega
            simp only [e2]
        have next1 : ¬ lS Q 60 = 0 → ∀ y : Int64, y = lS (fun a => if (List.range 60).countP Q = 1 then !Q a else true) 60 → lS (fun a => decide (a % 12 < j + 1) && cInhB V k a) 60 = x ||| (lS (fun a => cMtA V (158 + 12 * k + 6) a && cStB V 2 a) 60 &&& lS (fun a => decide (a % 12 = j)) 60 &&& y) := by
          intro hz y hy
          have hex : ∃ b, b < 60 ∧ Q b = true := Classical.byContradiction fun hno => hz (lS_0 (fun b hb => Bool.not_eq_true _ |>.mp (fun ht => hno ⟨b, hb, ht⟩)))
          rw [hx, hy, lS_and, lS_and, lS_or]
          refine lS_ext fun a ha => ?_
          by_cases e : a % 12 = j
          · have e1 : ¬ a % 12 < j := by omega
            have e2 : a % 12 < j + 1 := by omega
            rw [decide_eq_true e2, decide_eq_false e1, decide_eq_true e, Bool.true_and, Bool.false_and, Bool.false_or, Bool.and_true]
            rw [Bool.eq_iff_iff, hB a ha e, ← cnt_ex hex ha]
            exact ⟨fun h => by rw [h.1, h.2]; rfl, fun h => by rw [Bool.and_eq_true] at h; exact h⟩
          · have e2 : (a % 12 < j + 1) ↔ (a % 12 < j) := by omega
            rw [decide_eq_false e]
            simp [e2]
        refine gJ_iload dX9_inhibitedBy_47 rfl ?_
        refine gJ_bipush (v := 12) dX9_inhibitedBy_49 (by decide) ?_
        refine gJ_icmp_geN (tgt := 127) (a := j) (b := 12) (by first | with_reducible rfl | rfl) (by first | with_reducible rfl | rfl) (by omega) (by omega) dX9_inhibitedBy_51 (by decide) (fun c_ => by exfalso; omega) (fun _ => ?_)
        refine gJ_lload_n dX9_inhibitedBy_54 rfl rfl ?_
        refine gJ_aload_n dX9_inhibitedBy_55 rfl rfl ?_
        refine gJ_get fX9_12 dX9_inhibitedBy_56 (by first | with_reducible assumption | with_reducible exact gUp_s | with_reducible exact gUp_n (by with_reducible assumption) (by omega) | exact gUp_n (by assumption) (by omega) | exact gUp_s | assumption) rfl ?_
        refine gJ_iload dX9_inhibitedBy_59 rfl ?_
        refine gJ_aload_n dX9_inhibitedBy_61 rfl rfl ?_
        refine gJ_get fX9_158 dX9_inhibitedBy_62 (by first | with_reducible assumption | with_reducible exact gUp_s | with_reducible exact gUp_n (by with_reducible assumption) (by omega) | exact gUp_n (by assumption) (by omega) | exact gUp_s | assumption) rfl ?_
        refine gJ_callV (As := [_, _]) b_X7_alike lX9_161 i_X7_alike s_X7_alike dX9_inhibitedBy_65 (c7_alike h0 h1 h8 hI j h12 _) (by first | with_reducible assumption | with_reducible exact gUp_s | with_reducible exact gUp_n (by with_reducible assumption) (by omega) | exact gUp_n (by assumption) (by omega) | exact gUp_s | assumption) rfl rfl (Nat.le_of_ble_eq_true rfl) rfl (by decide) (fun M65 v_ h65 => ?_)
        obtain ⟨e65, rfl⟩ := h65
        replace e65 := e65.symm
        subst e65
        refine gJ_land dX9_inhibitedBy_68 ?_
        rw [hand]
        refine gJ_lstore (lv2 := [(9, _), (8, _), (6, _), (4, _), (2, _), (0, _), (1, _)]) dX9_inhibitedBy_69 rfl rfl ?_
        refine gJ_lload dX9_inhibitedBy_71 rfl ?_
        refine gJ_lconst (v := 0) dX9_inhibitedBy_73 (by decide) ?_
        refine gJ_lcmp dX9_inhibitedBy_74 ?_
        refine gJ_if_ne (tgt := 81) dX9_inhibitedBy_75 (by decide) (fun c75 => ?_) (fun c75 => ?_)
        · refine gJ_lload dX9_inhibitedBy_81 rfl ?_
          refine gJ_callS (As := [_]) b_J13_bitCount_95d88 lX9_91 i_J13_bitCount_95d88 dX9_inhibitedBy_83 (c13_bitCount _) rfl (Nat.le_of_ble_eq_true rfl) rfl (by decide) (fun M83 v_ h83 => ?_)
          obtain ⟨e83, rfl⟩ := h83
          replace e83 := e83.symm
          subst e83
          rw [bC_size (fun a h => lS_big h), mSize_S]
          refine gJ_iconst (v := 1) dX9_inhibitedBy_86 (by decide) ?_
          refine gJ_icmp_neN (tgt := 99) (a := ((List.range 60).countP Q)) (b := 1) (by first | with_reducible rfl | rfl) (by first | with_reducible rfl | rfl) (Nat.lt_of_le_of_lt List.countP_le_length (by rw [List.length_range]; decide)) (by omega) dX9_inhibitedBy_87 (by decide) (fun c87 => ?_) (fun c87 => ?_)
          · refine gJ_ldc2 (v := 1152921504606846975) dX9_inhibitedBy_99 cX9_169 ?_
            refine gJ_lstore (lv2 := [(11, _), (9, _), (8, _), (6, _), (4, _), (2, _), (0, _), (1, _)]) dX9_inhibitedBy_102 rfl rfl ?_
            refine gJ_lload dX9_inhibitedBy_104 rfl ?_
            refine gJ_lload dX9_inhibitedBy_106 rfl ?_
            refine gJ_ldc2 (v := 281543712968705) dX9_inhibitedBy_108 cX9_171 ?_
            refine gJ_iload dX9_inhibitedBy_111 rfl ?_
            refine gJ_lshl dX9_inhibitedBy_113 ?_
            rw [cSer_b j h12]
            refine gJ_land dX9_inhibitedBy_114 ?_
            refine gJ_lload dX9_inhibitedBy_115 rfl ?_
            refine gJ_land dX9_inhibitedBy_117 ?_
            refine gJ_lor dX9_inhibitedBy_118 ?_
            refine gJ_lstore (lv2 := [(6, _), (11, _), (9, _), (8, _), (4, _), (2, _), (0, _), (1, _)]) dX9_inhibitedBy_119 rfl rfl ?_
            refine gJ_iincN (a := j) (b := 1) (lv2 := [(8, _), (6, _), (11, _), (9, _), (4, _), (2, _), (0, _), (1, _)]) dX9_inhibitedBy_121 rfl rfl rfl rfl ?_
            refine gJ_goto (tgt := 47) dX9_inhibitedBy_124 (by decide) ?_
            refine gJ_ls (ih (j + 1) (by omega) (by omega) _ ?_) ⟨rfl, rfl, rfl, rfl, rfl, rfl, trivial⟩
            rw [next1 (fun h => c75 ((lg_cmp_eq _ _).mpr h)) _ (cEvery.trans (lS_ext (fun a _ => by rw [if_neg c87])))]
          · refine gJ_lload dX9_inhibitedBy_90 rfl ?_
            refine gJ_ldc2 (v := -1) dX9_inhibitedBy_92 cX9_111 ?_
            refine gJ_lxor dX9_inhibitedBy_95 ?_
            refine gJ_goto (tgt := 102) dX9_inhibitedBy_96 (by decide) ?_
            refine gJ_lstore (lv2 := [(11, _), (9, _), (8, _), (6, _), (4, _), (2, _), (0, _), (1, _)]) dX9_inhibitedBy_102 rfl rfl ?_
            refine gJ_lload dX9_inhibitedBy_104 rfl ?_
            refine gJ_lload dX9_inhibitedBy_106 rfl ?_
            refine gJ_ldc2 (v := 281543712968705) dX9_inhibitedBy_108 cX9_171 ?_
            refine gJ_iload dX9_inhibitedBy_111 rfl ?_
            refine gJ_lshl dX9_inhibitedBy_113 ?_
            rw [cSer_b j h12]
            refine gJ_land dX9_inhibitedBy_114 ?_
            refine gJ_lload dX9_inhibitedBy_115 rfl ?_
            refine gJ_land dX9_inhibitedBy_117 ?_
            refine gJ_lor dX9_inhibitedBy_118 ?_
            refine gJ_lstore (lv2 := [(6, _), (11, _), (9, _), (8, _), (4, _), (2, _), (0, _), (1, _)]) dX9_inhibitedBy_119 rfl rfl ?_
            refine gJ_iincN (a := j) (b := 1) (lv2 := [(8, _), (6, _), (11, _), (9, _), (4, _), (2, _), (0, _), (1, _)]) dX9_inhibitedBy_121 rfl rfl rfl rfl ?_
            refine gJ_goto (tgt := 47) dX9_inhibitedBy_124 (by decide) ?_
            refine gJ_ls (ih (j + 1) (by omega) (by omega) _ ?_) ⟨rfl, rfl, rfl, rfl, rfl, rfl, trivial⟩
            have e5 := next1 (fun h => c75 ((lg_cmp_eq _ _).mpr h)) _ rfl
            rw [e5]
            congr 1
            rw [lS_and, lS_an, lS_and]
            exact lS_ext (fun a _ => by rw [if_pos c87])
        · refine gJ_goto (tgt := 121) dX9_inhibitedBy_78 (by decide) ?_
          refine gJ_iincN (a := j) (b := 1) (lv2 := [(8, _), (9, _), (6, _), (4, _), (2, _), (0, _), (1, _)]) dX9_inhibitedBy_121 rfl rfl rfl rfl ?_
          refine gJ_goto (tgt := 47) dX9_inhibitedBy_124 (by decide) ?_
          refine gJ_ls (ih (j + 1) (by omega) (by omega) _ ?_) ⟨rfl, rfl, rfl, rfl, rfl, rfl, trivial⟩
          rw [next0 ((lg_cmp_eq _ _).mp c75)]
      · have e12 : j = 12 := by omega
        subst e12
        refine gJ_iload dX9_inhibitedBy_47 rfl ?_
        refine gJ_bipush (v := 12) dX9_inhibitedBy_49 (by decide) ?_
        refine gJ_icmp_geN (tgt := 127) (a := 12) (b := 12) (by first | with_reducible rfl | rfl) (by first | with_reducible rfl | rfl) (by omega) (by omega) dX9_inhibitedBy_51 (by decide) (fun _ => ?_) (fun c_ => by exfalso; omega)
        refine gJ_lload dX9_inhibitedBy_127 rfl ?_
        refine gJ_lret dX9_inhibitedBy_129 rfl ?_
        refine ⟨rfl, ?_⟩
        rw [hx]
        exact congrArg (fun z => some (Value.long z)) (lS_ext (fun a _ => by rw [decide_eq_true (Nat.mod_lt a (by decide : 0 < 12)), Bool.true_and]))
  show gJ _ _ _ _ _ _ 0 [(0, _), (1, _)] [] _
  refine gJ_aload_n dX9_inhibitedBy_0 rfl rfl ?_
  refine gJ_get fX9_12 dX9_inhibitedBy_1 (by first | with_reducible assumption | with_reducible exact gUp_s | with_reducible exact gUp_n (by with_reducible assumption) (by omega) | exact gUp_n (by assumption) (by omega) | exact gUp_s | assumption) rfl ?_
  refine gJ_aload_n dX9_inhibitedBy_4 rfl rfl ?_
  refine gJ_get fX9_155 dX9_inhibitedBy_5 (by first | with_reducible assumption | with_reducible exact gUp_s | with_reducible exact gUp_n (by with_reducible assumption) (by omega) | exact gUp_n (by assumption) (by omega) | exact gUp_s | assumption) rfl ?_
  refine gJ_callV (As := [_]) b_X7_matched lX9_134 i_X7_matched s_X7_matched dX9_inhibitedBy_8 (c7_matched h0 h8 mq (158 + 12 * k + 1) hm (hI.2.2.2.2.1 k hk).2.1) (by first | with_reducible assumption | with_reducible exact gUp_s | with_reducible exact gUp_n (by with_reducible assumption) (by omega) | exact gUp_n (by assumption) (by omega) | exact gUp_s | assumption) rfl rfl (Nat.le_of_ble_eq_true rfl) rfl (by decide) (fun M8 v_ h8 => ?_)
  obtain ⟨e8, rfl⟩ := h8
  replace e8 := e8.symm
  subst e8
  refine gJ_aload_n dX9_inhibitedBy_11 rfl rfl ?_
  refine gJ_get fX9_21 dX9_inhibitedBy_12 (by first | with_reducible assumption | with_reducible exact gUp_s | with_reducible exact gUp_n (by with_reducible assumption) (by omega) | exact gUp_n (by assumption) (by omega) | exact gUp_s | assumption) rfl ?_
  refine gJ_get fX9_104 dX9_inhibitedBy_15 (by first | with_reducible assumption | with_reducible exact gUp_s | with_reducible exact gUp_n (by with_reducible assumption) (by omega) | exact gUp_n (by assumption) (by omega) | exact gUp_s | assumption) rfl ?_
  refine gJ_land dX9_inhibitedBy_18 ?_
  rw [lS_and]
  refine gJ_lstore_n (lv2 := [(2, _), (0, _), (1, _)]) dX9_inhibitedBy_19 rfl rfl rfl ?_
  refine gJ_aload_n dX9_inhibitedBy_20 rfl rfl ?_
  refine gJ_get fX9_12 dX9_inhibitedBy_21 (by first | with_reducible assumption | with_reducible exact gUp_s | with_reducible exact gUp_n (by with_reducible assumption) (by omega) | exact gUp_n (by assumption) (by omega) | exact gUp_s | assumption) rfl ?_
  refine gJ_aload_n dX9_inhibitedBy_24 rfl rfl ?_
  refine gJ_get fX9_150 dX9_inhibitedBy_25 (by first | with_reducible assumption | with_reducible exact gUp_s | with_reducible exact gUp_n (by with_reducible assumption) (by omega) | exact gUp_n (by assumption) (by omega) | exact gUp_s | assumption) rfl ?_
  refine gJ_callV (As := [_]) b_X7_matched lX9_134 i_X7_matched s_X7_matched dX9_inhibitedBy_28 (c7_matched h0 h8 nq (158 + 12 * k + 6) hn (hI.2.2.2.2.1 k hk).2.2.1) (by first | with_reducible assumption | with_reducible exact gUp_s | with_reducible exact gUp_n (by with_reducible assumption) (by omega) | exact gUp_n (by assumption) (by omega) | exact gUp_s | assumption) rfl rfl (Nat.le_of_ble_eq_true rfl) rfl (by decide) (fun M28 v_ h28 => ?_)
  obtain ⟨e28, rfl⟩ := h28
  replace e28 := e28.symm
  subst e28
  refine gJ_aload_n dX9_inhibitedBy_31 rfl rfl ?_
  refine gJ_get fX9_21 dX9_inhibitedBy_32 (by first | with_reducible assumption | with_reducible exact gUp_s | with_reducible exact gUp_n (by with_reducible assumption) (by omega) | exact gUp_n (by assumption) (by omega) | exact gUp_s | assumption) rfl ?_
  refine gJ_get fX9_104 dX9_inhibitedBy_35 (by first | with_reducible assumption | with_reducible exact gUp_s | with_reducible exact gUp_n (by with_reducible assumption) (by omega) | exact gUp_n (by assumption) (by omega) | exact gUp_s | assumption) rfl ?_
  refine gJ_land dX9_inhibitedBy_38 ?_
  rw [lS_and]
  refine gJ_lstore (lv2 := [(4, _), (2, _), (0, _), (1, _)]) dX9_inhibitedBy_39 rfl rfl ?_
  refine gJ_lconst (v := 0) dX9_inhibitedBy_41 (by decide) ?_
  refine gJ_lstore (lv2 := [(6, _), (4, _), (2, _), (0, _), (1, _)]) dX9_inhibitedBy_42 rfl rfl ?_
  refine gJ_iconst (v := 0) dX9_inhibitedBy_44 (by decide) ?_
  refine gJ_istore (lv2 := [(8, _), (6, _), (4, _), (2, _), (0, _), (1, _)]) dX9_inhibitedBy_45 rfl rfl ?_
  exact gJ_ls (loop 13 0 (by omega) (by omega) 0 (lS_0 (fun a _ => by simp)).symm) ⟨rfl, rfl, rfl, rfl, rfl, rfl, trivial⟩
end CLS
