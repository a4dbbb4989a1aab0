theorem later_is {m x : Int32} {t : Nat} (hm : m = nI t) (ht : t ≤ 200000) : (if m + 1 < x then x else m + 1) = (if m < x then x else m + 1) := by
  subst hm
  have e1 : nI t + 1 = nI (t + 1) := by rw [show (1 : Int32) = nI 1 from rfl, nI_add]
  rw [e1]
  have h1 : (nI t).toInt = (t : Int) := nI_toInt (by omega)
  have h2 : (nI (t + 1)).toInt = ((t + 1 : Nat) : Int) := nI_toInt (by omega)
  by_cases h : nI (t + 1) < x
  · rw [if_pos h, if_pos]
    rw [Int32.lt_iff_toInt_lt] at h ⊢
    omega
  · rw [if_neg h]
    by_cases h3 : nI t < x
    · rw [if_pos h3]
      apply Int32.toInt_inj.mp
      rw [Int32.lt_iff_toInt_lt] at h h3
      omega
    · rw [if_neg h3]
section CLS
variable {G : gG} {M : gM} {p E p2 : Nat} {V : Nat → Int32} {S D : Nat → Int64}
theorem c2_forgetAll {W : Nat → Int32} {S2 : Nat → Int64} (h : cRG M p V S D) (hW : ∀ k, k < 128 → W (1586 + 2 * k) = 0) : gCon G kX2_forgetAll 0 0 0 M [.ref p] (fun M2 v => gFr M M2 p 5 ∧ cRG M2 p W S2 D ∧ v = none) := by
  obtain ⟨A, B, h0, h1, h2, h3, h4, h5⟩ := h
  refine gCon_of (by decide) (Nat.le_of_ble_eq_true rfl) ?_
  have loop : ∀ (q j : Nat), j + q = 129 → j ≤ 128 → ∀ U : Nat → Int32, (∀ i, i < j → U i = 0) →
      gJ G kX2_forgetAll 0 0 0 (gUp M (p + 1) (gZ 128 U)) 2 [(1, .int (nI j)), (0, .ref p)] [] (gQ kX2_forgetAll (fun M2 v => gFr M M2 p 5 ∧ cRG M2 p W S2 D ∧ v = none)) := by
    intro q
    induction q with
    | zero => intro j h1 h2; exact absurd h1 (by omega)
    | succ q ih =>
      intro j hq hj U hU
      refine gJ_iload_n dX2_forgetAll_2 rfl rfl ?_
      refine gJ_sipush (v := 128) dX2_forgetAll_3 (by decide) ?_
      refine gJ_icmp_geN (tgt := 22) (a := j) (b := 128) (by first | with_reducible rfl | rfl) (by first | with_reducible rfl | rfl) (by omega) (by omega) dX2_forgetAll_6 (by decide) (fun c6 => ?_) (fun c6 => ?_)
      · refine gJ_sw (fun H => gW_sw (gsw_Z (g := cOpen W) (fun i hi => by rw [hU i (by omega), cOpen_at hi, hW i hi]))) ?_
        refine gJ_vret dX2_forgetAll_22 rfl ?_
        exact ⟨gFr_u gFr_r (by omega), ⟨A, B, gUp_n h0 (by omega), gUp_s, gUp_n h2 (by omega), gUp_n h3 (by omega), gUp_n h4 (by omega), fun k hk ho => absurd ((hW k hk).symm.trans ho) (by decide)⟩, rfl⟩
      · refine gJ_aload_n dX2_forgetAll_9 rfl rfl ?_
        refine gJ_get fX2_9 dX2_forgetAll_10 (by repeat (first | exact gUp_s | assumption | refine gUp_n ?_ (by omega))) rfl ?_
        refine gJ_iload_n dX2_forgetAll_13 rfl rfl ?_
        refine gJ_iconst (v := 0) dX2_forgetAll_14 (by decide) ?_
        refine gJ_zastN (j := j) dX2_forgetAll_15 (by repeat (first | exact gUp_s | assumption | refine gUp_n ?_ (by omega))) (by first | with_reducible rfl | rfl) (by omega) (by decide) (by decide) ?_
        try rw [gUp_up]
        refine gJ_iincN (a := j) (b := 1) (lv2 := [(1, _), (0, _)]) dX2_forgetAll_16 rfl rfl rfl rfl ?_
        refine gJ_goto (tgt := 2) dX2_forgetAll_19 (by decide) ?_
        refine gJ_ls (ih (j + 1) (by omega) (by omega) _ (fun i hi => ?_)) ⟨rfl, rfl, trivial⟩
        by_cases e : i = j
        · subst e; exact pk_us
        · rw [pk_un e]; exact hU i (by omega)
  show gJ _ _ _ _ _ _ 0 [(0, _)] [] _
  refine gJ_iconst (v := 0) dX2_forgetAll_0 (by decide) ?_
  refine gJ_istore_n (lv2 := [(1, _), (0, _)]) dX2_forgetAll_1 rfl rfl rfl ?_
  have L := loop 129 0 (by omega) (by omega) (cOpen V) (fun i hi => absurd hi (by omega))
  rw [gUp_id h1] at L
  exact gJ_ls L ⟨rfl, rfl, trivial⟩
theorem c2_countOpen (h : cRG M p V S D) : gCon G kX2_countOpen 0 0 0 M [.ref p] (fun M2 v => M2 = M ∧ v = some (.int (nI ((List.range 128).countP (fun k => !decide (V (1586 + 2 * k) = 0)))))) := by
  obtain ⟨A, B, h0, h1, h2, h3, h4, h5⟩ := h
  refine gCon_of (by decide) (Nat.le_of_ble_eq_true rfl) ?_
  have loop : ∀ (q j c : Nat), j + q = 129 → j ≤ 128 → c = (List.range j).countP (fun k => !decide (V (1586 + 2 * k) = 0)) → c ≤ j →
      gJ G kX2_countOpen 0 0 0 M 4 [(2, .int (nI j)), (1, .int (nI c)), (0, .ref p)] [] (gQ kX2_countOpen (fun M2 v => M2 = M ∧ v = some (.int (nI ((List.range 128).countP (fun k => !decide (V (1586 + 2 * k) = 0))))))) := by
    intro q
    induction q with
    | zero => intro j c h1 h2; exact absurd h1 (by omega)
    | succ q ih =>
      intro j c hq hj hp hc
      refine gJ_iload_n dX2_countOpen_4 rfl rfl ?_
      refine gJ_sipush (v := 128) dX2_countOpen_5 (by decide) ?_
      refine gJ_icmp_geN (tgt := 29) (a := j) (b := 128) (by first | with_reducible rfl | rfl) (by first | with_reducible rfl | rfl) (by omega) (by omega) dX2_countOpen_8 (by decide) (fun c8 => ?_) (fun c8 => ?_)
      · refine gJ_iload_n dX2_countOpen_29 rfl rfl ?_
        refine gJ_iret dX2_countOpen_30 rfl ?_
        refine ⟨rfl, ?_⟩
        rw [hp, show j = 128 by omega]
      · refine gJ_aload_n dX2_countOpen_11 rfl rfl ?_
        refine gJ_get fX2_9 dX2_countOpen_12 (by first | with_reducible assumption | with_reducible exact gUp_s | with_reducible exact gUp_n (by with_reducible assumption) (by omega) | exact gUp_n (by assumption) (by omega) | exact gUp_s | assumption) rfl ?_
        refine gJ_iload_n dX2_countOpen_15 rfl rfl ?_
        refine gJ_zaldN (j := j) dX2_countOpen_16 (by first | with_reducible assumption | with_reducible exact gUp_s | with_reducible exact gUp_n (by with_reducible assumption) (by omega) | exact gUp_n (by assumption) (by omega) | exact gUp_s | assumption) (by first | with_reducible rfl | rfl) (by omega) (by decide) ?_
        rw [cOpen_at (by omega)]
        refine gJ_if_eq (tgt := 23) dX2_countOpen_17 (by decide) (fun c17 => ?_) (fun c17 => ?_)
        · refine gJ_iincN (a := j) (b := 1) (lv2 := [(2, _), (1, _), (0, _)]) dX2_countOpen_23 rfl rfl rfl rfl ?_
          refine gJ_goto (tgt := 4) dX2_countOpen_26 (by decide) ?_
          refine gJ_ls (ih (j + 1) c (by omega) (by omega) ?_ (by omega)) ⟨rfl, rfl, rfl, trivial⟩
          rw [List.range_succ, List.countP_append, ← hp]
          simp [c17]
        · refine gJ_iincN (a := c) (b := 1) (lv2 := [(1, _), (2, _), (0, _)]) dX2_countOpen_20 rfl rfl rfl rfl ?_
          refine gJ_iincN (a := j) (b := 1) (lv2 := [(2, _), (1, _), (0, _)]) dX2_countOpen_23 rfl rfl rfl rfl ?_
          refine gJ_goto (tgt := 4) dX2_countOpen_26 (by decide) ?_
          refine gJ_ls (ih (j + 1) (c + 1) (by omega) (by omega) ?_ (by omega)) ⟨rfl, rfl, rfl, trivial⟩
          rw [List.range_succ, List.countP_append, ← hp]
          simp [c17]
  show gJ _ _ _ _ _ _ 0 [(0, _)] [] _
  refine gJ_iconst (v := 0) dX2_countOpen_0 (by decide) ?_
  refine gJ_istore_n (lv2 := [(1, _), (0, _)]) dX2_countOpen_1 rfl rfl rfl ?_
  refine gJ_iconst (v := 0) dX2_countOpen_2 (by decide) ?_
  refine gJ_istore_n (lv2 := [(2, _), (1, _), (0, _)]) dX2_countOpen_3 rfl rfl rfl ?_
  exact gJ_ls (loop 129 0 0 (by omega) (by omega) rfl (by omega)) ⟨rfl, rfl, rfl, trivial⟩
theorem c2_countNonEmpty (h : cRG M p V S D) : gCon G kX2_countNonEmpty 0 0 0 M [.ref p] (fun M2 v => M2 = M ∧ v = some (.int (nI ((List.range 128).countP (fun k => !decide (D k = 0)))))) := by
  obtain ⟨A, B, h0, h1, h2, h3, h4, h5⟩ := h
  refine gCon_of (by decide) (Nat.le_of_ble_eq_true rfl) ?_
  have loop : ∀ (q j c : Nat), j + q = 129 → j ≤ 128 → c = (List.range j).countP (fun k => !decide (D k = 0)) → c ≤ j →
      gJ G kX2_countNonEmpty 0 0 0 M 4 [(2, .int (nI j)), (1, .int (nI c)), (0, .ref p)] [] (gQ kX2_countNonEmpty (fun M2 v => M2 = M ∧ v = some (.int (nI ((List.range 128).countP (fun k => !decide (D k = 0))))))) := by
    intro q
    induction q with
    | zero => intro j c h1 h2; exact absurd h1 (by omega)
    | succ q ih =>
      intro j c hq hj hp hc
      refine gJ_iload_n dX2_countNonEmpty_4 rfl rfl ?_
      refine gJ_sipush (v := 128) dX2_countNonEmpty_5 (by decide) ?_
      refine gJ_icmp_geN (tgt := 31) (a := j) (b := 128) (by first | with_reducible rfl | rfl) (by first | with_reducible rfl | rfl) (by omega) (by omega) dX2_countNonEmpty_8 (by decide) (fun c8 => ?_) (fun c8 => ?_)
      · refine gJ_iload_n dX2_countNonEmpty_31 rfl rfl ?_
        refine gJ_iret dX2_countNonEmpty_32 rfl ?_
        refine ⟨rfl, ?_⟩
        rw [hp, show j = 128 by omega]
      · refine gJ_aload_n dX2_countNonEmpty_11 rfl rfl ?_
        refine gJ_get fX2_23 dX2_countNonEmpty_12 (by first | with_reducible assumption | with_reducible exact gUp_s | with_reducible exact gUp_n (by with_reducible assumption) (by omega) | exact gUp_n (by assumption) (by omega) | exact gUp_s | assumption) rfl ?_
        refine gJ_iload_n dX2_countNonEmpty_15 rfl rfl ?_
        refine gJ_laldN (j := j) dX2_countNonEmpty_16 (by first | with_reducible assumption | with_reducible exact gUp_s | with_reducible exact gUp_n (by with_reducible assumption) (by omega) | exact gUp_n (by assumption) (by omega) | exact gUp_s | assumption) (by first | with_reducible rfl | rfl) (by omega) (by decide) ?_
        refine gJ_lconst (v := 0) dX2_countNonEmpty_17 (by decide) ?_
        refine gJ_lcmp dX2_countNonEmpty_18 ?_
        refine gJ_if_eq (tgt := 25) dX2_countNonEmpty_19 (by decide) (fun c19 => ?_) (fun c19 => ?_)
        · refine gJ_iincN (a := j) (b := 1) (lv2 := [(2, _), (1, _), (0, _)]) dX2_countNonEmpty_25 rfl rfl rfl rfl ?_
          refine gJ_goto (tgt := 4) dX2_countNonEmpty_28 (by decide) ?_
          rw [lg_cmp_eq] at c19
          refine gJ_ls (ih (j + 1) c (by omega) (by omega) ?_ (by omega)) ⟨rfl, rfl, rfl, trivial⟩
          rw [List.range_succ, List.countP_append, ← hp]
          simp [c19]
        · refine gJ_iincN (a := c) (b := 1) (lv2 := [(1, _), (2, _), (0, _)]) dX2_countNonEmpty_22 rfl rfl rfl rfl ?_
          refine gJ_iincN (a := j) (b := 1) (lv2 := [(2, _), (1, _), (0, _)]) dX2_countNonEmpty_25 rfl rfl rfl rfl ?_
          refine gJ_goto (tgt := 4) dX2_countNonEmpty_28 (by decide) ?_
          rw [lg_cmp_eq] at c19
          refine gJ_ls (ih (j + 1) (c + 1) (by omega) (by omega) ?_ (by omega)) ⟨rfl, rfl, rfl, trivial⟩
          rw [List.range_succ, List.countP_append, ← hp]
          simp [c19]
  show gJ _ _ _ _ _ _ 0 [(0, _)] [] _
  refine gJ_iconst (v := 0) dX2_countNonEmpty_0 (by decide) ?_
  refine gJ_istore_n (lv2 := [(1, _), (0, _)]) dX2_countNonEmpty_1 rfl rfl rfl ?_
  refine gJ_iconst (v := 0) dX2_countNonEmpty_2 (by decide) ?_
  refine gJ_istore_n (lv2 := [(2, _), (1, _), (0, _)]) dX2_countNonEmpty_3 rfl rfl rfl ?_
  exact gJ_ls (loop 129 0 0 (by omega) (by omega) rfl (by omega)) ⟨rfl, rfl, rfl, trivial⟩
/-- the key with as many filled ones below it -/
def cKeyQ (D : Nat → Int64) (i k : Nat) : Bool := !decide (D k = 0) && decide ((List.range k).countP (fun k => !decide (D k = 0)) = i)
def cKeyAt (D : Nat → Int64) (i : Nat) : Int32 := if (List.range 128).any (cKeyQ D i) = true then mFind 128 (cKeyQ D i) else -1
theorem c2_keyAt (h : cRG M p V S D) (i : Nat) (hi : i < 2 ^ 30) : gCon G kX2_keyAt 0 0 0 M [.ref p, .int (nI i)] (fun M2 v => M2 = M ∧ v = some (.int (cKeyAt D i))) := by
  obtain ⟨A, B, h0, h1, h2, h3, h4, h5⟩ := h
  refine gCon_of (by decide) (Nat.le_of_ble_eq_true rfl) ?_
  have loop : ∀ (q j c : Nat), j + q = 129 → j ≤ 128 → c = (List.range j).countP (fun k => !decide (D k = 0)) → c ≤ i → (∀ k, k < j → cKeyQ D i k = false) →
      gJ G kX2_keyAt 0 0 0 M 4 [(3, .int (nI j)), (2, .int (nI (i - c))), (0, .ref p), (1, .int (nI i))] [] (gQ kX2_keyAt (fun M2 v => M2 = M ∧ v = some (.int (cKeyAt D i)))) := by
    intro q
    induction q with
    | zero => intro j c h1 h2; exact absurd h1 (by omega)
    | succ q ih =>
      intro j c hq hj hp hc hn
      have ext : ∀ (b : Bool), cKeyQ D i j = false → ∀ k, k < j + 1 → cKeyQ D i k = false := by
        intro _ hb k hk
        rcases Nat.lt_succ_iff_lt_or_eq.mp hk with h | rfl
        · exact hn k h
        · exact hb
      refine gJ_iload_n dX2_keyAt_4 rfl rfl ?_
      refine gJ_sipush (v := 128) dX2_keyAt_5 (by decide) ?_
      refine gJ_icmp_geN (tgt := 40) (a := j) (b := 128) (by first | with_reducible rfl | rfl) (by first | with_reducible rfl | rfl) (by omega) (by omega) dX2_keyAt_8 (by decide) (fun c8 => ?_) (fun c8 => ?_)
      · refine gJ_iconst (v := -1) dX2_keyAt_40 (by decide) ?_
        refine gJ_iret dX2_keyAt_41 rfl ?_
        refine ⟨rfl, ?_⟩
        have e1 : j = 128 := by omega
        subst e1
        rw [cKeyAt, if_neg (by rw [any_f hn]; exact Bool.false_ne_true)]
      · refine gJ_aload_n dX2_keyAt_11 rfl rfl ?_
        refine gJ_get fX2_23 dX2_keyAt_12 (by first | with_reducible assumption | with_reducible exact gUp_s | with_reducible exact gUp_n (by with_reducible assumption) (by omega) | exact gUp_n (by assumption) (by omega) | exact gUp_s | assumption) rfl ?_
        refine gJ_iload_n dX2_keyAt_15 rfl rfl ?_
        refine gJ_laldN (j := j) dX2_keyAt_16 (by first | with_reducible assumption | with_reducible exact gUp_s | with_reducible exact gUp_n (by with_reducible assumption) (by omega) | exact gUp_n (by assumption) (by omega) | exact gUp_s | assumption) (by first | with_reducible rfl | rfl) (by omega) (by decide) ?_
        refine gJ_lconst (v := 0) dX2_keyAt_17 (by decide) ?_
        refine gJ_lcmp dX2_keyAt_18 ?_
        refine gJ_if_ne (tgt := 25) dX2_keyAt_19 (by decide) (fun c19 => ?_) (fun c19 => ?_)
        · refine gJ_iload_n dX2_keyAt_25 rfl rfl ?_
          refine gJ_if_neN (tgt := 31) (a := (i-c)) (by first | with_reducible rfl | rfl) (by omega) dX2_keyAt_26 (by decide) (fun c26 => ?_) (fun c26 => ?_)
          · refine gJ_iinc (v := _ + (-1)) (lv2 := [(2, _), (3, _), (0, _), (1, _)]) dX2_keyAt_31 rfl rfl rfl rfl ?_
            refine gJ_iincN (a := j) (b := 1) (lv2 := [(3, _), (2, _), (0, _), (1, _)]) dX2_keyAt_34 rfl rfl rfl rfl ?_
            refine gJ_goto (tgt := 4) dX2_keyAt_37 (by decide) ?_
            have hd : decide (D j = 0) = false := decide_eq_false (fun h => c19 ((lg_cmp_eq _ _).mpr h))
            refine gJ_ls (ih (j + 1) (c + 1) (by omega) (by omega) ?_ (by omega) (ext true ?_)) ⟨rfl, ?_, rfl, rfl, trivial⟩
            · rw [List.range_succ, List.countP_append, ← hp]
              simp [of_decide_eq_false hd]
            · rw [cKeyQ, ← hp, decide_eq_false (by omega : ¬ c = i), Bool.and_false]
            · obtain ⟨z_, hz_⟩ : ∃ z, i - c = z + 1 := ⟨i - c - 1, by omega⟩
              show some (Value.int (nI (i - c) + -1)) = some (Value.int (nI (i - (c + 1))))
              rw [hz_, pk_m1, show i - (c + 1) = z_ by omega]
          · refine gJ_iload_n dX2_keyAt_29 rfl rfl ?_
            refine gJ_iret dX2_keyAt_30 rfl ?_
            refine ⟨rfl, ?_⟩
            have hQ : cKeyQ D i j = true := by rw [cKeyQ, ← hp, decide_eq_false (fun h => c19 ((lg_cmp_eq _ _).mpr h)), decide_eq_true (by omega : c = i)]; rfl
            rw [cKeyAt, if_pos (any_t (by omega) hQ), mFind_hit (by omega) hQ hn]
        · refine gJ_goto (tgt := 34) dX2_keyAt_22 (by decide) ?_
          refine gJ_iincN (a := j) (b := 1) (lv2 := [(3, _), (2, _), (0, _), (1, _)]) dX2_keyAt_34 rfl rfl rfl rfl ?_
          refine gJ_goto (tgt := 4) dX2_keyAt_37 (by decide) ?_
          have hd : D j = 0 := (lg_cmp_eq _ _).mp c19
          refine gJ_ls (ih (j + 1) c (by omega) (by omega) ?_ hc (ext true ?_)) ⟨rfl, rfl, rfl, rfl, trivial⟩
          · rw [List.range_succ, List.countP_append, ← hp]
            simp [hd]
          · rw [cKeyQ, decide_eq_true hd]; rfl
  show gJ _ _ _ _ _ _ 0 [(0, _), (1, _)] [] _
  refine gJ_iload_n dX2_keyAt_0 rfl rfl ?_
  refine gJ_istore_n (lv2 := [(2, _), (0, _), (1, _)]) dX2_keyAt_1 rfl rfl rfl ?_
  refine gJ_iconst (v := 0) dX2_keyAt_2 (by decide) ?_
  refine gJ_istore_n (lv2 := [(3, _), (2, _), (0, _), (1, _)]) dX2_keyAt_3 rfl rfl rfl ?_
  exact gJ_ls (loop 129 0 0 (by omega) (by omega) rfl (by omega) (fun k hk => absurd hk (by omega))) ⟨rfl, rfl, rfl, rfl, trivial⟩
def cNext (V : Nat → Int32) (S D : Nat → Int64) (k : Nat) : Int32 := if D k = 0 then (if V (1586 + 2 * k) = 1 then V 1847 + 1 else -5) else if V (1586 + 2 * k) = 1 then (if D k &&& (S k ^^^ (-1)) = 0 then mLater V (V (1586 + 2 * k + 1) + V 1843) else if mLater V (V (1586 + 2 * k + 1) + V 1843) ≤ mLater V (V (1586 + 2 * k + 1) + V 1842) then mLater V (V (1586 + 2 * k + 1) + V 1843) else mLater V (V (1586 + 2 * k + 1) + V 1842)) else V 1847 + 1
theorem min_later {V : Nat → Int32} {L g r t : Nat} (hL : L ≤ 200000) (hg : g ≤ 999) (hr : r ≤ 999) (ht : t ≤ 200000) (hV : V 1847 = nI t) : mLater V (nI L + (if nI g < nI r then nI g else nI r)) = if mLater V (nI L + nI r) ≤ mLater V (nI L + nI g) then mLater V (nI L + nI r) else mLater V (nI L + nI g) := by
  have lat : ∀ z, z < 2 ^ 30 → mLater V (nI z) = nI (if t < z then z else t + 1) := by
    intro z hz
    unfold mLater
    rw [hV]
    by_cases h : t < z
    · rw [if_pos ((nI_ltI (by omega) (by omega)).mpr h), if_pos h]
    · rw [if_neg (fun h2 => h ((nI_ltI (by omega) (by omega)).mp h2)), if_neg h, show (1 : Int32) = nI 1 from rfl, nI_add]
  rw [nI_add, nI_add, lat _ (by omega), lat _ (by omega)]
  have em : (if nI g < nI r then nI g else nI r) = nI (if g < r then g else r) := by
    by_cases h : g < r
    · rw [if_pos ((nI_ltI (by omega) (by omega)).mpr h), if_pos h]
    · rw [if_neg (fun h2 => h ((nI_ltI (by omega) (by omega)).mp h2)), if_neg h]
  rw [em, nI_add, lat _ (by split <;> omega)]
  have ec : (nI (if t < L + r then L + r else t + 1) ≤ nI (if t < L + g then L + g else t + 1)) ↔ (if t < L + r then L + r else t + 1) ≤ (if t < L + g then L + g else t + 1) := nI_leI (by split <;> omega) (by split <;> omega)
  by_cases h : (if t < L + r then L + r else t + 1) ≤ (if t < L + g then L + g else t + 1)
  · rw [if_pos (ec.mpr h)]
    congr 1
    by_cases h1 : g < r <;> by_cases h2 : t < L + r <;> by_cases h3 : t < L + g <;> simp only [h1, h2, h3, if_true, if_false] at h ⊢ <;> first | omega | (split <;> omega)
  · rw [if_neg (fun h2 => h (ec.mp h2))]
    congr 1
    by_cases h1 : g < r <;> by_cases h2 : t < L + r <;> by_cases h3 : t < L + g <;> simp only [h1, h2, h3, if_true, if_false] at h ⊢ <;> first | omega | (split <;> omega)
set_option maxHeartbeats 1000000 in
set_option maxRecDepth 20000 in
theorem c2_nextMinute {t : Nat} (h : cRG M p V S D) (hS : M.1 p2 = some (cSu p2)) (h7 : M.1 (p2 + 7) = some (gI 5 (cPar V))) (hI : mI V) (ht : t ≤ 200000) (hV : V 1847 = nI t) (k : Nat) (hk : k < 128) : gCon G kX2_nextMinute 1 0 0 M [.ref p, .int (nI k), .int (V 1847), .ref p2] (fun M2 v => M2 = M ∧ v = some (.int (cNext V S D k))) := by
  have hN := c2_newcomers (G := G) h hI k hk
  obtain ⟨A, B, h0, h1, h2, h3, h4, h5⟩ := h
  have p0 : cPar V 0 = V 1842 := cPar_at (by decide)
  have p1 : cPar V 1 = V 1843 := cPar_at (by decide)
  have hmax := fun x : Int32 => later_is (x := x) hV ht
  refine gCon_of (by decide) (Nat.le_of_ble_eq_true rfl) ?_
  rcases cOp hI hk with ho | ho
  · have e : cOpen V k = nI 0 := (cOpen_at hk).trans ho
    have hn1 : ¬ V (1586 + 2 * k) = 1 := by rw [ho]; decide
    show gJ _ _ _ _ _ _ 0 [(0, _), (1, _), (2, _), (3, _)] [] _
    refine gJ_aload_n dX2_nextMinute_0 rfl rfl ?_
    refine gJ_get fX2_23 dX2_nextMinute_1 (by first | with_reducible assumption | with_reducible exact gUp_s | with_reducible exact gUp_n (by with_reducible assumption) (by omega) | exact gUp_n (by assumption) (by omega) | exact gUp_s | assumption) rfl ?_
    refine gJ_iload_n dX2_nextMinute_4 rfl rfl ?_
    refine gJ_laldN (j := k) dX2_nextMinute_5 (by first | with_reducible assumption | with_reducible exact gUp_s | with_reducible exact gUp_n (by with_reducible assumption) (by omega) | exact gUp_n (by assumption) (by omega) | exact gUp_s | assumption) (by first | with_reducible rfl | rfl) (by omega) (by decide) ?_
    refine gJ_lconst (v := 0) dX2_nextMinute_6 (by decide) ?_
    refine gJ_lcmp dX2_nextMinute_7 ?_
    refine gJ_if_ne (tgt := 15) dX2_nextMinute_8 (by decide) (fun c8 => ?_) (fun c8 => ?_)
    · refine gJ_iconst (v := 0) dX2_nextMinute_15 (by decide) ?_
      refine gJ_istore (lv2 := [(4, _), (0, _), (1, _), (2, _), (3, _)]) dX2_nextMinute_16 rfl rfl ?_
      refine gJ_aload_n dX2_nextMinute_18 rfl rfl ?_
      refine gJ_get fX2_9 dX2_nextMinute_19 (by first | with_reducible assumption | with_reducible exact gUp_s | with_reducible exact gUp_n (by with_reducible assumption) (by omega) | exact gUp_n (by assumption) (by omega) | exact gUp_s | assumption) rfl ?_
      refine gJ_iload_n dX2_nextMinute_22 rfl rfl ?_
      refine gJ_zaldN (j := k) dX2_nextMinute_23 (by first | with_reducible assumption | with_reducible exact gUp_s | with_reducible exact gUp_n (by with_reducible assumption) (by omega) | exact gUp_n (by assumption) (by omega) | exact gUp_s | assumption) (by first | with_reducible rfl | rfl) (by omega) (by decide) ?_
      rw [e]
      refine gJ_if_neN (tgt := 35) (a := 0) (by first | with_reducible rfl | rfl) (by omega) dX2_nextMinute_24 (by decide) (fun c_ => by exfalso; omega) (fun _ => ?_)
      refine gJ_iload dX2_nextMinute_27 rfl ?_
      refine gJ_if_eqN (tgt := 35) (a := 0) (by first | with_reducible rfl | rfl) (by omega) dX2_nextMinute_29 (by decide) (fun _ => ?_) (fun c_ => by exfalso; omega)
      refine gJ_aload_n dX2_nextMinute_35 rfl rfl ?_
      refine gJ_get fX2_9 dX2_nextMinute_36 (by first | with_reducible assumption | with_reducible exact gUp_s | with_reducible exact gUp_n (by with_reducible assumption) (by omega) | exact gUp_n (by assumption) (by omega) | exact gUp_s | assumption) rfl ?_
      refine gJ_iload_n dX2_nextMinute_39 rfl rfl ?_
      refine gJ_zaldN (j := k) dX2_nextMinute_40 (by first | with_reducible assumption | with_reducible exact gUp_s | with_reducible exact gUp_n (by with_reducible assumption) (by omega) | exact gUp_n (by assumption) (by omega) | exact gUp_s | assumption) (by first | with_reducible rfl | rfl) (by omega) (by decide) ?_
      rw [e]
      refine gJ_if_eqN (tgt := 49) (a := 0) (by first | with_reducible rfl | rfl) (by omega) dX2_nextMinute_41 (by decide) (fun _ => ?_) (fun c_ => by exfalso; omega)
      refine gJ_iload_n dX2_nextMinute_49 rfl rfl ?_
      refine gJ_iconst (v := 1) dX2_nextMinute_50 (by decide) ?_
      refine gJ_iadd dX2_nextMinute_51 ?_
      refine gJ_iret dX2_nextMinute_52 rfl ?_
      refine ⟨rfl, ?_⟩
      rw [cNext, if_neg (fun h => c8 ((lg_cmp_eq _ _).mpr h)), if_neg hn1]
    · refine gJ_iconst (v := 1) dX2_nextMinute_11 (by decide) ?_
      refine gJ_goto (tgt := 16) dX2_nextMinute_12 (by decide) ?_
      refine gJ_istore (lv2 := [(4, _), (0, _), (1, _), (2, _), (3, _)]) dX2_nextMinute_16 rfl rfl ?_
      refine gJ_aload_n dX2_nextMinute_18 rfl rfl ?_
      refine gJ_get fX2_9 dX2_nextMinute_19 (by first | with_reducible assumption | with_reducible exact gUp_s | with_reducible exact gUp_n (by with_reducible assumption) (by omega) | exact gUp_n (by assumption) (by omega) | exact gUp_s | assumption) rfl ?_
      refine gJ_iload_n dX2_nextMinute_22 rfl rfl ?_
      refine gJ_zaldN (j := k) dX2_nextMinute_23 (by first | with_reducible assumption | with_reducible exact gUp_s | with_reducible exact gUp_n (by with_reducible assumption) (by omega) | exact gUp_n (by assumption) (by omega) | exact gUp_s | assumption) (by first | with_reducible rfl | rfl) (by omega) (by decide) ?_
      rw [e]
      refine gJ_if_neN (tgt := 35) (a := 0) (by first | with_reducible rfl | rfl) (by omega) dX2_nextMinute_24 (by decide) (fun c_ => by exfalso; omega) (fun _ => ?_)
      refine gJ_iload dX2_nextMinute_27 rfl ?_
      refine gJ_if_eqN (tgt := 35) (a := 1) (by first | with_reducible rfl | rfl) (by omega) dX2_nextMinute_29 (by decide) (fun c_ => by exfalso; omega) (fun _ => ?_)
      refine gJ_bipush (v := -5) dX2_nextMinute_32 (by decide) ?_
      refine gJ_iret dX2_nextMinute_34 rfl ?_
      refine ⟨rfl, ?_⟩
      rw [cNext, if_pos ((lg_cmp_eq _ _).mp c8), if_neg hn1]
  · have e : cOpen V k = nI 1 := (cOpen_at hk).trans ho
    obtain ⟨eA, eB, L, hL, eL⟩ := h5 k hk ho
    have hC : cNew V S D k = D k &&& (S k ^^^ (-1)) := by rw [cNew, if_pos ho]
    rw [hC] at hN
    obtain ⟨g, hg, hg2⟩ := hI.2.2.2.2.2.2.2.1
    obtain ⟨r, hr, hr2⟩ := hI.2.2.2.2.2.2.2.2.1
    have hml := min_later (V := V) (L := L) (g := g) (r := r) hL (by omega) hr ht hV
    rw [← eL, ← hg2, ← hr2] at hml
    show gJ _ _ _ _ _ _ 0 [(0, _), (1, _), (2, _), (3, _)] [] _
    refine gJ_aload_n dX2_nextMinute_0 rfl rfl ?_
    refine gJ_get fX2_23 dX2_nextMinute_1 (by first | with_reducible assumption | with_reducible exact gUp_s | with_reducible exact gUp_n (by with_reducible assumption) (by omega) | exact gUp_n (by assumption) (by omega) | exact gUp_s | assumption) rfl ?_
    refine gJ_iload_n dX2_nextMinute_4 rfl rfl ?_
    refine gJ_laldN (j := k) dX2_nextMinute_5 (by first | with_reducible assumption | with_reducible exact gUp_s | with_reducible exact gUp_n (by with_reducible assumption) (by omega) | exact gUp_n (by assumption) (by omega) | exact gUp_s | assumption) (by first | with_reducible rfl | rfl) (by omega) (by decide) ?_
    refine gJ_lconst (v := 0) dX2_nextMinute_6 (by decide) ?_
    refine gJ_lcmp dX2_nextMinute_7 ?_
    refine gJ_if_ne (tgt := 15) dX2_nextMinute_8 (by decide) (fun c8 => ?_) (fun c8 => ?_)
    · refine gJ_iconst (v := 0) dX2_nextMinute_15 (by decide) ?_
      refine gJ_istore (lv2 := [(4, _), (0, _), (1, _), (2, _), (3, _)]) dX2_nextMinute_16 rfl rfl ?_
      refine gJ_aload_n dX2_nextMinute_18 rfl rfl ?_
      refine gJ_get fX2_9 dX2_nextMinute_19 (by first | with_reducible assumption | with_reducible exact gUp_s | with_reducible exact gUp_n (by with_reducible assumption) (by omega) | exact gUp_n (by assumption) (by omega) | exact gUp_s | assumption) rfl ?_
      refine gJ_iload_n dX2_nextMinute_22 rfl rfl ?_
      refine gJ_zaldN (j := k) dX2_nextMinute_23 (by first | with_reducible assumption | with_reducible exact gUp_s | with_reducible exact gUp_n (by with_reducible assumption) (by omega) | exact gUp_n (by assumption) (by omega) | exact gUp_s | assumption) (by first | with_reducible rfl | rfl) (by omega) (by decide) ?_
      rw [e]
      refine gJ_if_neN (tgt := 35) (a := 1) (by first | with_reducible rfl | rfl) (by omega) dX2_nextMinute_24 (by decide) (fun _ => ?_) (fun c_ => by exfalso; omega)
      refine gJ_aload_n dX2_nextMinute_35 rfl rfl ?_
      refine gJ_get fX2_9 dX2_nextMinute_36 (by first | with_reducible assumption | with_reducible exact gUp_s | with_reducible exact gUp_n (by with_reducible assumption) (by omega) | exact gUp_n (by assumption) (by omega) | exact gUp_s | assumption) rfl ?_
      refine gJ_iload_n dX2_nextMinute_39 rfl rfl ?_
      refine gJ_zaldN (j := k) dX2_nextMinute_40 (by first | with_reducible assumption | with_reducible exact gUp_s | with_reducible exact gUp_n (by with_reducible assumption) (by omega) | exact gUp_n (by assumption) (by omega) | exact gUp_s | assumption) (by first | with_reducible rfl | rfl) (by omega) (by decide) ?_
      rw [e]
      refine gJ_if_eqN (tgt := 49) (a := 1) (by first | with_reducible rfl | rfl) (by omega) dX2_nextMinute_41 (by decide) (fun c_ => by exfalso; omega) (fun _ => ?_)
      refine gJ_iload dX2_nextMinute_44 rfl ?_
      refine gJ_if_eqN (tgt := 53) (a := 0) (by first | with_reducible rfl | rfl) (by omega) dX2_nextMinute_46 (by decide) (fun _ => ?_) (fun c_ => by exfalso; omega)
      refine gJ_aload_n dX2_nextMinute_53 rfl rfl ?_
      refine gJ_get fX2_46 dX2_nextMinute_54 (by first | with_reducible assumption | with_reducible exact gUp_s | with_reducible exact gUp_n (by with_reducible assumption) (by omega) | exact gUp_n (by assumption) (by omega) | exact gUp_s | assumption) rfl ?_
      refine gJ_iconst (v := 1) dX2_nextMinute_57 (by decide) ?_
      refine gJ_ialdN (j := 1) dX2_nextMinute_58 (by first | with_reducible assumption | with_reducible exact gUp_s | with_reducible exact gUp_n (by with_reducible assumption) (by omega) | exact gUp_n (by assumption) (by omega) | exact gUp_s | assumption) (by first | with_reducible rfl | rfl) (by omega) (by decide) ?_
      rw [p1]
      refine gJ_istore (lv2 := [(5, _), (4, _), (0, _), (1, _), (2, _), (3, _)]) dX2_nextMinute_59 rfl rfl ?_
      refine gJ_aload_n dX2_nextMinute_61 rfl rfl ?_
      refine gJ_iload_n dX2_nextMinute_62 rfl rfl ?_
      refine gJ_callV (As := [_]) b_X2_newcomers lX2_42 i_X2_newcomers s_X2_newcomers dX2_nextMinute_63 (hN) (by first | with_reducible assumption | with_reducible exact gUp_s | with_reducible exact gUp_n (by with_reducible assumption) (by omega) | exact gUp_n (by assumption) (by omega) | exact gUp_s | assumption) rfl rfl (Nat.le_of_ble_eq_true rfl) rfl (by decide) (fun M63 v_ h63 => ?_)
      obtain ⟨e_, rfl⟩ := h63
      replace e_ := e_.symm
      subst e_
      refine gJ_lconst (v := 0) dX2_nextMinute_66 (by decide) ?_
      refine gJ_lcmp dX2_nextMinute_67 ?_
      refine gJ_if_eq (tgt := 84) dX2_nextMinute_68 (by decide) (fun c68 => ?_) (fun c68 => ?_)
      · refine gJ_iload_n dX2_nextMinute_84 rfl rfl ?_
        refine gJ_iconst (v := 1) dX2_nextMinute_85 (by decide) ?_
        refine gJ_iadd dX2_nextMinute_86 ?_
        refine gJ_aload_n dX2_nextMinute_87 rfl rfl ?_
        refine gJ_get fX2_15 dX2_nextMinute_88 (by first | with_reducible assumption | with_reducible exact gUp_s | with_reducible exact gUp_n (by with_reducible assumption) (by omega) | exact gUp_n (by assumption) (by omega) | exact gUp_s | assumption) rfl ?_
        refine gJ_iload_n dX2_nextMinute_91 rfl rfl ?_
        refine gJ_ialdN (j := k) dX2_nextMinute_92 (by first | with_reducible assumption | with_reducible exact gUp_s | with_reducible exact gUp_n (by with_reducible assumption) (by omega) | exact gUp_n (by assumption) (by omega) | exact gUp_s | assumption) (by first | with_reducible rfl | rfl) (by omega) (by decide) ?_
        refine gJ_iload dX2_nextMinute_93 rfl ?_
        refine gJ_iadd dX2_nextMinute_95 ?_
        refine gJ_mmmax b_J9_max_7cf53 lX2_55 i_J9_max_7cf53 dX2_nextMinute_96 (by decide) (by omega) ?_
        rw [hmax]
        refine gJ_iret dX2_nextMinute_99 rfl ?_
        refine ⟨rfl, ?_⟩
        rw [cNext, if_neg (fun h => c8 ((lg_cmp_eq _ _).mpr h)), if_pos ho, if_pos ((lg_cmp_eq _ _).mp c68), ← eA]
        rfl
      · refine gJ_iload dX2_nextMinute_71 rfl ?_
        refine gJ_aload_n dX2_nextMinute_73 rfl rfl ?_
        refine gJ_get fX2_46 dX2_nextMinute_74 (by first | with_reducible assumption | with_reducible exact gUp_s | with_reducible exact gUp_n (by with_reducible assumption) (by omega) | exact gUp_n (by assumption) (by omega) | exact gUp_s | assumption) rfl ?_
        refine gJ_iconst (v := 0) dX2_nextMinute_77 (by decide) ?_
        refine gJ_ialdN (j := 0) dX2_nextMinute_78 (by first | with_reducible assumption | with_reducible exact gUp_s | with_reducible exact gUp_n (by with_reducible assumption) (by omega) | exact gUp_n (by assumption) (by omega) | exact gUp_s | assumption) (by first | with_reducible rfl | rfl) (by omega) (by decide) ?_
        rw [p0]
        refine gJ_mmmin b_J9_min_7cf53 lX2_49 i_J9_min_7cf53 dX2_nextMinute_79 (by decide) (by omega) ?_
        refine gJ_istore (lv2 := [(5, _), (4, _), (0, _), (1, _), (2, _), (3, _)]) dX2_nextMinute_82 rfl rfl ?_
        refine gJ_iload_n dX2_nextMinute_84 rfl rfl ?_
        refine gJ_iconst (v := 1) dX2_nextMinute_85 (by decide) ?_
        refine gJ_iadd dX2_nextMinute_86 ?_
        refine gJ_aload_n dX2_nextMinute_87 rfl rfl ?_
        refine gJ_get fX2_15 dX2_nextMinute_88 (by first | with_reducible assumption | with_reducible exact gUp_s | with_reducible exact gUp_n (by with_reducible assumption) (by omega) | exact gUp_n (by assumption) (by omega) | exact gUp_s | assumption) rfl ?_
        refine gJ_iload_n dX2_nextMinute_91 rfl rfl ?_
        refine gJ_ialdN (j := k) dX2_nextMinute_92 (by first | with_reducible assumption | with_reducible exact gUp_s | with_reducible exact gUp_n (by with_reducible assumption) (by omega) | exact gUp_n (by assumption) (by omega) | exact gUp_s | assumption) (by first | with_reducible rfl | rfl) (by omega) (by decide) ?_
        refine gJ_iload dX2_nextMinute_93 rfl ?_
        refine gJ_iadd dX2_nextMinute_95 ?_
        refine gJ_mmmax b_J9_max_7cf53 lX2_55 i_J9_max_7cf53 dX2_nextMinute_96 (by decide) (by omega) ?_
        rw [hmax]
        refine gJ_iret dX2_nextMinute_99 rfl ?_
        refine ⟨rfl, ?_⟩
        rw [cNext, if_neg (fun h => c8 ((lg_cmp_eq _ _).mpr h)), if_pos ho, if_neg (fun h => c68 ((lg_cmp_eq _ _).mpr h)), ← eA, ← hml]
        rfl
    · refine gJ_iconst (v := 1) dX2_nextMinute_11 (by decide) ?_
      refine gJ_goto (tgt := 16) dX2_nextMinute_12 (by decide) ?_
      refine gJ_istore (lv2 := [(4, _), (0, _), (1, _), (2, _), (3, _)]) dX2_nextMinute_16 rfl rfl ?_
      refine gJ_aload_n dX2_nextMinute_18 rfl rfl ?_
      refine gJ_get fX2_9 dX2_nextMinute_19 (by first | with_reducible assumption | with_reducible exact gUp_s | with_reducible exact gUp_n (by with_reducible assumption) (by omega) | exact gUp_n (by assumption) (by omega) | exact gUp_s | assumption) rfl ?_
      refine gJ_iload_n dX2_nextMinute_22 rfl rfl ?_
      refine gJ_zaldN (j := k) dX2_nextMinute_23 (by first | with_reducible assumption | with_reducible exact gUp_s | with_reducible exact gUp_n (by with_reducible assumption) (by omega) | exact gUp_n (by assumption) (by omega) | exact gUp_s | assumption) (by first | with_reducible rfl | rfl) (by omega) (by decide) ?_
      rw [e]
      refine gJ_if_neN (tgt := 35) (a := 1) (by first | with_reducible rfl | rfl) (by omega) dX2_nextMinute_24 (by decide) (fun _ => ?_) (fun c_ => by exfalso; omega)
      refine gJ_aload_n dX2_nextMinute_35 rfl rfl ?_
      refine gJ_get fX2_9 dX2_nextMinute_36 (by first | with_reducible assumption | with_reducible exact gUp_s | with_reducible exact gUp_n (by with_reducible assumption) (by omega) | exact gUp_n (by assumption) (by omega) | exact gUp_s | assumption) rfl ?_
      refine gJ_iload_n dX2_nextMinute_39 rfl rfl ?_
      refine gJ_zaldN (j := k) dX2_nextMinute_40 (by first | with_reducible assumption | with_reducible exact gUp_s | with_reducible exact gUp_n (by with_reducible assumption) (by omega) | exact gUp_n (by assumption) (by omega) | exact gUp_s | assumption) (by first | with_reducible rfl | rfl) (by omega) (by decide) ?_
      rw [e]
      refine gJ_if_eqN (tgt := 49) (a := 1) (by first | with_reducible rfl | rfl) (by omega) dX2_nextMinute_41 (by decide) (fun c_ => by exfalso; omega) (fun _ => ?_)
      refine gJ_iload dX2_nextMinute_44 rfl ?_
      refine gJ_if_eqN (tgt := 53) (a := 1) (by first | with_reducible rfl | rfl) (by omega) dX2_nextMinute_46 (by decide) (fun c_ => by exfalso; omega) (fun _ => ?_)
      refine gJ_iload_n dX2_nextMinute_49 rfl rfl ?_
      refine gJ_iconst (v := 1) dX2_nextMinute_50 (by decide) ?_
      refine gJ_iadd dX2_nextMinute_51 ?_
      refine gJ_iret dX2_nextMinute_52 rfl ?_
      refine ⟨rfl, ?_⟩
      rw [cNext, if_pos ((lg_cmp_eq _ _).mp c8), if_pos ho]
end CLS
