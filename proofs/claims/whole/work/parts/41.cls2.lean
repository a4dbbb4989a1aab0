/-! THE CLASS' SETUP at p: labels p+1, values p+2, hasValue p+3, rules p+4, silences p+5, inhibitions p+6, parameters p+7, labelSets p+8 -/
def cSu (p : Nat) : gE := gO 6 [.ref (p + 1), .ref (p + 2), .ref (p + 3), .ref (p + 4), .ref (p + 5), .ref (p + 6), .ref (p + 7), .ref (p + 8)]
def cLab (V : Nat → Int32) : Nat → Int32 := fun i => if i < 36 then V (3 * (i % 12) + i / 12) else 0
def cHas (V : Nat → Int32) : Nat → Int32 := fun i => if i < 12 then V (48 + i) else 0
def cPar (V : Nat → Int32) : Nat → Int32 := fun i => if i < 5 then V (1842 + i) else 0
theorem cLab_at {V : Nat → Int32} {l s : Nat} (hl : l < 3) (hs : s < 12) : cLab V (l * 12 + s) = V (3 * s + l) := by
  unfold cLab
  rw [if_pos (by omega), show (l * 12 + s) % 12 = s by omega, show (l * 12 + s) / 12 = l by omega]
theorem cHas_at {V : Nat → Int32} {s : Nat} (hs : s < 12) : cHas V s = V (48 + s) := if_pos hs
theorem cPar_at {V : Nat → Int32} {s : Nat} (hs : s < 5) : cPar V s = V (1842 + s) := if_pos hs
def cFs (l : Nat) : Nat := if l = 0 then 0 else if l = 1 then 4 else if l = 2 then 12 else 16
def cSz (l : Nat) : Nat := if l = 1 then 8 else 4
/-- whether an alert is in a label's set -/
def cSet (V : Nat → Int32) (i a : Nat) : Bool := if i < 4 then decide (V (3 * (a % 12)) = nI i) else if i < 12 then decide (V (3 * (a % 12) + 1) = nI (i - 4)) else if i < 16 then decide (V (3 * (a % 12) + 2) = nI (i - 12)) else decide (V (60 + 10 * (a / 12)) = 1) && decide (V (60 + 10 * (a / 12) + 9) = nI (i - 16))
def cSets (V : Nat → Int32) : Nat → Int64 := fun i => if i < 20 then lS (cSet V i) 60 else 0
theorem cSets_at {V : Nat → Int32} {i : Nat} (h : i < 20) : cSets V i = lS (cSet V i) 60 := if_pos h
/-- a sequence of matchers: the object q -/
def cMat (M : gM) (E q : Nat) (V : Nat → Int32) (f : Nat) : Prop := E ≤ q ∧ ∃ q1 q2 L Z, E ≤ q1 ∧ E ≤ q2 ∧ M.1 q = some (gO 4 [.ref q1, .ref q2, .int (V f)]) ∧ M.1 q1 = some (gI 4 L) ∧ M.1 q2 = some (gZ 4 Z) ∧ ∀ j, j < mN V f → mN V (f + (j + 1)) % 16 < cSz (mN V (f + (j + 1)) % 64 / 16) ∧ L j = nI (cFs (mN V (f + (j + 1)) % 64 / 16) + mN V (f + (j + 1)) % 16) ∧ Z j = gb (decide (64 ≤ mN V (f + (j + 1))))
def cSgn (x : Int32) : Int32 := if x = 0 then 60 else if x = 1 then 62 else 61
def cRul (M : gM) (E : Nat) (V : Nat → Int32) (r : Nat) (o : Option Nat) : Prop := (V (60 + 10 * r) = 0 ∧ o = none) ∨ (V (60 + 10 * r) = 1 ∧ ∃ q mq, o = some q ∧ E ≤ q ∧ M.1 q = some (gO 5 [.ref mq, .int (cSgn (V (60 + 10 * r + 6))), .int (V (60 + 10 * r + 7)), .int (V (60 + 10 * r + 8)), .int (V (60 + 10 * r + 9))]) ∧ cMat M E mq V (60 + 10 * r + 1))
def cSil (M : gM) (E : Nat) (V : Nat → Int32) (k : Nat) (o : Option Nat) : Prop := (V (110 + 8 * k) = 0 ∧ o = none) ∨ (V (110 + 8 * k) = 1 ∧ ∃ q mq, o = some q ∧ E ≤ q ∧ M.1 q = some (gO 7 [.ref mq, .int (V (110 + 8 * k + 6)), .int (V (110 + 8 * k + 7))]) ∧ cMat M E mq V (110 + 8 * k + 1))
def cInh (M : gM) (E : Nat) (V : Nat → Int32) (k : Nat) (o : Option Nat) : Prop := (V (158 + 12 * k) = 0 ∧ o = none) ∨ (V (158 + 12 * k) = 1 ∧ ∃ q mq nq, o = some q ∧ E ≤ q ∧ M.1 q = some (gO 2 [.ref mq, .ref nq, .int (V (158 + 12 * k + 11))]) ∧ cMat M E mq V (158 + 12 * k + 1) ∧ cMat M E nq V (158 + 12 * k + 6))
def cKey (V : Nat → Int32) (s : Nat) : Nat := 32 * mN V (3 * s) * (mN V 1846 % 2) + 4 * mN V (3 * s + 1) * (mN V 1846 / 2 % 2) + mN V (3 * s + 2) * (mN V 1846 / 4)
def cWait (V : Nat → Int32) (a : Nat) : Int32 := if V (60 + 10 * (a / 12)) = 0 then 0 else V (60 + 10 * (a / 12) + 8)
theorem mB_N {V : Nat → Int32} {i n : Nat} (h : mB V i n) (hn : n < 2 ^ 31) : mN V i ≤ n ∧ V i = nI (mN V i) := by
  obtain ⟨x, h1, h2⟩ := h
  rw [mN_of h2 (by omega)]
  exact ⟨h1, h2⟩
theorem cKey_lt {V : Nat → Int32} (hI : mI V) {s : Nat} (hs : s < 12) : cKey V s < 128 := by
  obtain ⟨h0, -⟩ := mB_N (hI.1 (3 * s) (by omega)) (by split <;> decide)
  obtain ⟨h1, -⟩ := mB_N (hI.1 (3 * s + 1) (by omega)) (by split <;> decide)
  obtain ⟨h2, -⟩ := mB_N (hI.1 (3 * s + 2) (by omega)) (by split <;> decide)
  obtain ⟨h3, -⟩ := mB_N hI.2.2.2.2.2.2.2.2.2.2.2 (by decide)
  rw [if_neg (by omega)] at h0 h2
  rw [if_pos (by omega)] at h1
  unfold cKey
  generalize mN V 1846 = y at h3
  generalize mN V (3 * s) = a at h0
  generalize mN V (3 * s + 1) = b at h1
  generalize mN V (3 * s + 2) = c at h2
  rcases (show y = 0 ∨ y = 1 ∨ y = 2 ∨ y = 3 ∨ y = 4 ∨ y = 5 ∨ y = 6 ∨ y = 7 by omega) with rfl | rfl | rfl | rfl | rfl | rfl | rfl | rfl <;> simp <;> omega
theorem key_a : ∀ y, y ≤ 7 → (nI y &&& 1 = nI (y % 2)) ∧ (nI y >>> ((1 : Int32) &&& 31) &&& 1 = nI (y / 2 % 2)) ∧ (nI y >>> ((2 : Int32) &&& 31) = nI (y / 4)) ∧ ((nI y &&& 1 = 0) ↔ y % 2 = 0) ∧ ((nI y &&& 2 = 0) ↔ y / 2 % 2 = 0) ∧ ((nI y &&& 4 = 0) ↔ y / 4 = 0) := by decide +kernel
theorem mKey_N {V : Nat → Int32} (hI : mI V) {a : Nat} (ha : a < 60) : mKey V a = nI (cKey V (a % 12)) := by
  obtain ⟨-, h0⟩ := mB_N (hI.1 (3 * (a % 12)) (by omega)) (by split <;> decide)
  obtain ⟨-, h1⟩ := mB_N (hI.1 (3 * (a % 12) + 1) (by omega)) (by split <;> decide)
  obtain ⟨-, h2⟩ := mB_N (hI.1 (3 * (a % 12) + 2) (by omega)) (by split <;> decide)
  obtain ⟨h3, h4⟩ := mB_N hI.2.2.2.2.2.2.2.2.2.2.2 (by decide)
  obtain ⟨k1, k2, k3, -⟩ := key_a _ h3
  unfold mKey cKey
  rw [Nat.zero_add, h0, h1, h2, h4, k1, k2, k3]
  rw [show (32 : Int32) = nI 32 from rfl, show (4 : Int32) = nI 4 from rfl, pk_mul, pk_mul, pk_mul, pk_mul, pk_mul, nI_add, nI_add]
theorem mGr_c {V : Nat → Int32} {x : Int64} (hs : ∀ a, lB x a = true → ∃ j, j ≤ 3 ∧ mSev V a = nI j) : ∀ n, (mGr V x n = -5 ∧ ∀ a, a < n → lB x a = false) ∨ (∃ j, j ≤ 3 ∧ mGr V x n = nI j ∧ (∃ a, a < n ∧ lB x a = true ∧ mSev V a = nI j) ∧ ∀ a, a < n → lB x a = true → ∃ i, i ≤ j ∧ mSev V a = nI i)
  | 0 => Or.inl ⟨rfl, fun a h => absurd h (by omega)⟩
  | n + 1 => by
    have lt5 : ∀ j, j ≤ 3 → (-5 : Int32) < nI j := by decide +kernel
    rcases mGr_c hs n with ⟨h1, h2⟩ | ⟨j, hj, h1, ⟨a, ha, h2, h3⟩, h4⟩
    · by_cases hx : lB x n = true
      · obtain ⟨i, hi, h5⟩ := hs n hx
        refine Or.inr ⟨i, hi, by rw [mGr, if_pos ⟨hx, by rw [h1, h5]; exact lt5 i hi⟩, h5], ⟨n, by omega, hx, h5⟩, fun a ha hxa => ?_⟩
        rcases Nat.lt_succ_iff_lt_or_eq.mp ha with h | rfl
        · rw [h2 a h] at hxa; cases hxa
        · exact ⟨i, Nat.le_refl _, h5⟩
      · refine Or.inl ⟨by rw [mGr, if_neg (fun h => hx h.1), h1], fun a ha => ?_⟩
        rcases Nat.lt_succ_iff_lt_or_eq.mp ha with h | rfl
        · exact h2 a h
        · exact Bool.not_eq_true _ ▸ hx
    · by_cases hx : lB x n = true ∧ mGr V x n < mSev V n
      · obtain ⟨i, hi, h5⟩ := hs n hx.1
        have hji : j < i := by rw [h1, h5] at hx; exact (nI_ltI (by omega) (by omega)).mp hx.2
        refine Or.inr ⟨i, hi, by rw [mGr, if_pos hx, h5], ⟨n, by omega, hx.1, h5⟩, fun b hb hxb => ?_⟩
        rcases Nat.lt_succ_iff_lt_or_eq.mp hb with h | rfl
        · obtain ⟨k, hk, h6⟩ := h4 b h hxb
          exact ⟨k, by omega, h6⟩
        · exact ⟨i, Nat.le_refl _, h5⟩
      · refine Or.inr ⟨j, hj, by rw [mGr, if_neg hx, h1], ⟨a, by omega, h2, h3⟩, fun b hb hxb => ?_⟩
        rcases Nat.lt_succ_iff_lt_or_eq.mp hb with h | rfl
        · exact h4 b h hxb
        · obtain ⟨i, hi, h5⟩ := hs b hxb
          refine ⟨i, ?_, h5⟩
          apply Nat.not_lt.mp
          intro hji
          exact hx ⟨hxb, by rw [h1, h5]; exact (nI_ltI (by omega) (by omega)).mpr hji⟩
theorem mGr_hit {V : Nat → Int32} {x : Int64} (hs : ∀ a, lB x a = true → ∃ j, j ≤ 3 ∧ mSev V a = nI j) {n k : Nat} (hk : k ≤ 3) (h1 : ∃ a, a < n ∧ lB x a = true ∧ mSev V a = nI k) (h2 : ∀ a, a < n → lB x a = true → ∃ i, i ≤ k ∧ mSev V a = nI i) : mGr V x n = nI k := by
  obtain ⟨a, ha, ha2, ha3⟩ := h1
  rcases mGr_c hs n with ⟨-, h4⟩ | ⟨j, hj, h3, ⟨b, hb, hb2, hb3⟩, h4⟩
  · rw [h4 a ha] at ha2; cases ha2
  · obtain ⟨i, hi, e1⟩ := h4 a ha ha2
    obtain ⟨i2, hi2, e2⟩ := h2 b hb hb2
    have e3 : k = i := (nI_eq (by omega) (by omega)).mp (ha3.symm.trans e1)
    have e4 : j = i2 := (nI_eq (by omega) (by omega)).mp (hb3.symm.trans e2)
    rw [h3, show j = k by omega]
theorem mGr_none {V : Nat → Int32} {x : Int64} {n : Nat} (h : ∀ a, a < n → lB x a = false) : mGr V x n = -5 := by
  induction n with
  | zero => rfl
  | succ n ih => rw [mGr, if_neg (fun h2 => by rw [h n (by omega)] at h2; cases h2.1), ih (fun a ha => h a (by omega))]
section CLS
variable {G : gG} {M : gM} {p E : Nat} {V : Nat → Int32}
theorem c7_slots (h0 : M.1 p = some (cSu p)) (kind : Nat) (hk : kind < 3) : gCon G kX7_slots 0 0 0 M [.ref p, .int (nI kind)] (fun M2 v => M2 = M ∧ v = some (.ref (p + 4 + kind))) := by
  refine gCon_of (by decide) (Nat.le_of_ble_eq_true rfl) ?_
  rcases (show kind = 0 ∨ kind = 1 ∨ kind = 2 by omega) with rfl | rfl | rfl
  · skip
    show gJ _ _ _ _ _ _ 0 [(0, _), (1, _)] [] _
    refine gJ_iload_n dX7_slots_0 rfl rfl ?_
    refine gJ_if_neN (tgt := 9) (a := 0) (by first | with_reducible rfl | rfl) (by omega) dX7_slots_1 (by decide) (fun c_ => by exfalso; omega) (fun _ => ?_)
    refine gJ_aload_n dX7_slots_4 rfl rfl ?_
    refine gJ_get fX7_24 dX7_slots_5 (by first | with_reducible assumption | with_reducible exact gUp_s | with_reducible exact gUp_n (by with_reducible assumption) (by omega) | exact gUp_n (by assumption) (by omega) | exact gUp_s | assumption) rfl ?_
    refine gJ_aret dX7_slots_8 rfl (Or.inr ⟨_, rfl⟩) ?_
    exact ⟨rfl, rfl⟩
  · skip
    show gJ _ _ _ _ _ _ 0 [(0, _), (1, _)] [] _
    refine gJ_iload_n dX7_slots_0 rfl rfl ?_
    refine gJ_if_neN (tgt := 9) (a := 1) (by first | with_reducible rfl | rfl) (by omega) dX7_slots_1 (by decide) (fun _ => ?_) (fun c_ => by exfalso; omega)
    refine gJ_iload_n dX7_slots_9 rfl rfl ?_
    refine gJ_iconst (v := 1) dX7_slots_10 (by decide) ?_
    refine gJ_icmp_neN (tgt := 21) (a := 1) (b := 1) (by first | with_reducible rfl | rfl) (by first | with_reducible rfl | rfl) (by omega) (by omega) dX7_slots_11 (by decide) (fun c_ => by exfalso; omega) (fun _ => ?_)
    refine gJ_aload_n dX7_slots_14 rfl rfl ?_
    refine gJ_get fX7_30 dX7_slots_15 (by first | with_reducible assumption | with_reducible exact gUp_s | with_reducible exact gUp_n (by with_reducible assumption) (by omega) | exact gUp_n (by assumption) (by omega) | exact gUp_s | assumption) rfl ?_
    refine gJ_goto (tgt := 25) dX7_slots_18 (by decide) ?_
    refine gJ_aret dX7_slots_25 rfl (Or.inr ⟨_, rfl⟩) ?_
    exact ⟨rfl, rfl⟩
  · skip
    show gJ _ _ _ _ _ _ 0 [(0, _), (1, _)] [] _
    refine gJ_iload_n dX7_slots_0 rfl rfl ?_
    refine gJ_if_neN (tgt := 9) (a := 2) (by first | with_reducible rfl | rfl) (by omega) dX7_slots_1 (by decide) (fun _ => ?_) (fun c_ => by exfalso; omega)
    refine gJ_iload_n dX7_slots_9 rfl rfl ?_
    refine gJ_iconst (v := 1) dX7_slots_10 (by decide) ?_
    refine gJ_icmp_neN (tgt := 21) (a := 2) (b := 1) (by first | with_reducible rfl | rfl) (by first | with_reducible rfl | rfl) (by omega) (by omega) dX7_slots_11 (by decide) (fun _ => ?_) (fun c_ => by exfalso; omega)
    refine gJ_aload_n dX7_slots_21 rfl rfl ?_
    refine gJ_get fX7_36 dX7_slots_22 (by first | with_reducible assumption | with_reducible exact gUp_s | with_reducible exact gUp_n (by with_reducible assumption) (by omega) | exact gUp_n (by assumption) (by omega) | exact gUp_s | assumption) rfl ?_
    refine gJ_aret dX7_slots_25 rfl (Or.inr ⟨_, rfl⟩) ?_
    exact ⟨rfl, rfl⟩
theorem c7_countValues (h0 : M.1 p = some (cSu p)) (h3 : M.1 (p + 3) = some (gZ 12 (cHas V))) : gCon G kX7_countValues 0 0 0 M [.ref p] (fun M2 v => M2 = M ∧ v = some (.int (nI ((List.range 12).countP (fun s => !decide (V (48 + s) = 0)))))) := by
  refine gCon_of (by decide) (Nat.le_of_ble_eq_true rfl) ?_
  have loop : ∀ (q j c : Nat), j + q = 13 → j ≤ 12 → c = (List.range j).countP (fun s => !decide (V (48 + s) = 0)) → c ≤ j →
      gJ G kX7_countValues 0 0 0 M 4 [(2, .int (nI j)), (1, .int (nI c)), (0, .ref p)] [] (gQ kX7_countValues (fun M2 v => M2 = M ∧ v = some (.int (nI ((List.range 12).countP (fun s => !decide (V (48 + s) = 0))))))) := by
    intro q
    induction q with
    | zero => intro j c h1 h2; exact absurd h1 (by omega)
    | succ q ih =>
      intro j c hq hj hp hc
      refine gJ_iload_n dX7_countValues_4 rfl rfl ?_
      refine gJ_bipush (v := 12) dX7_countValues_5 (by decide) ?_
      refine gJ_icmp_geN (tgt := 28) (a := j) (b := 12) (by first | with_reducible rfl | rfl) (by first | with_reducible rfl | rfl) (by omega) (by omega) dX7_countValues_7 (by decide) (fun c7 => ?_) (fun c7 => ?_)
      · refine gJ_iload_n dX7_countValues_28 rfl rfl ?_
        refine gJ_iret dX7_countValues_29 rfl ?_
        refine ⟨rfl, ?_⟩
        rw [hp, show j = 12 by omega]
      · refine gJ_aload_n dX7_countValues_10 rfl rfl ?_
        refine gJ_get fX7_18 dX7_countValues_11 (by first | with_reducible assumption | with_reducible exact gUp_s | with_reducible exact gUp_n (by with_reducible assumption) (by omega) | exact gUp_n (by assumption) (by omega) | exact gUp_s | assumption) rfl ?_
        refine gJ_iload_n dX7_countValues_14 rfl rfl ?_
        refine gJ_zaldN (j := j) dX7_countValues_15 (by first | with_reducible assumption | with_reducible exact gUp_s | with_reducible exact gUp_n (by with_reducible assumption) (by omega) | exact gUp_n (by assumption) (by omega) | exact gUp_s | assumption) (by first | with_reducible rfl | rfl) (by omega) (by decide) ?_
        rw [cHas_at (by omega)]
        refine gJ_if_eq (tgt := 22) dX7_countValues_16 (by decide) (fun c16 => ?_) (fun c16 => ?_)
        · refine gJ_iincN (a := j) (b := 1) (lv2 := [(2, _), (1, _), (0, _)]) dX7_countValues_22 rfl rfl rfl rfl ?_
          refine gJ_goto (tgt := 4) dX7_countValues_25 (by decide) ?_
          have c16' : V (48 + j) = 0 := c16
          refine gJ_ls (ih (j + 1) c (by omega) (by omega) ?_ (by omega)) ⟨rfl, rfl, rfl, trivial⟩
          rw [List.range_succ, List.countP_append, ← hp]
          simp [c16']
        · refine gJ_iincN (a := c) (b := 1) (lv2 := [(1, _), (2, _), (0, _)]) dX7_countValues_19 rfl rfl rfl rfl ?_
          refine gJ_iincN (a := j) (b := 1) (lv2 := [(2, _), (1, _), (0, _)]) dX7_countValues_22 rfl rfl rfl rfl ?_
          refine gJ_goto (tgt := 4) dX7_countValues_25 (by decide) ?_
          have c16' : ¬ V (48 + j) = 0 := c16
          refine gJ_ls (ih (j + 1) (c + 1) (by omega) (by omega) ?_ (by omega)) ⟨rfl, rfl, rfl, trivial⟩
          rw [List.range_succ, List.countP_append, ← hp]
          simp [c16']
  show gJ _ _ _ _ _ _ 0 [(0, _)] [] _
  refine gJ_iconst (v := 0) dX7_countValues_0 (by decide) ?_
  refine gJ_istore_n (lv2 := [(1, _), (0, _)]) dX7_countValues_1 rfl rfl rfl ?_
  refine gJ_iconst (v := 0) dX7_countValues_2 (by decide) ?_
  refine gJ_istore_n (lv2 := [(2, _), (1, _), (0, _)]) dX7_countValues_3 rfl rfl rfl ?_
  exact gJ_ls (loop 13 0 0 (by omega) (by omega) rfl (by omega)) ⟨rfl, rfl, rfl, trivial⟩
set_option maxRecDepth 20000 in
theorem c7_keyOf (h0 : M.1 p = some (cSu p)) (h1 : M.1 (p + 1) = some (gI 36 (cLab V))) (h7 : M.1 (p + 7) = some (gI 5 (cPar V))) (hI : mI V) (s : Nat) (hs : s < 12) : gCon G kX7_keyOf 0 0 0 M [.ref p, .int (nI s)] (fun M2 v => M2 = M ∧ v = some (.int (nI (cKey V s)))) := by
  obtain ⟨b0, e0⟩ := mB_N (hI.1 (3 * s) (by omega)) (by split <;> decide)
  obtain ⟨b1, e1⟩ := mB_N (hI.1 (3 * s + 1) (by omega)) (by split <;> decide)
  obtain ⟨b2, e2⟩ := mB_N (hI.1 (3 * s + 2) (by omega)) (by split <;> decide)
  obtain ⟨b3, e3⟩ := mB_N hI.2.2.2.2.2.2.2.2.2.2.2 (by decide)
  obtain ⟨-, -, -, k4, k5, k6⟩ := key_a _ b3
  have y1 := Nat.mod_lt (mN V 1846) (show 0 < 2 by decide)
  have y2 := Nat.mod_lt (mN V 1846 / 2) (show 0 < 2 by decide)
  have y4 : mN V 1846 / 4 ≤ 1 := by omega
  have l0 : cLab V (0 + s) = nI (mN V (3 * s)) := by rw [← e0]; exact cLab_at (l := 0) (by decide) hs
  have l1 : cLab V (12 + s) = nI (mN V (3 * s + 1)) := by rw [← e1]; exact cLab_at (l := 1) (by decide) hs
  have l2 : cLab V (24 + s) = nI (mN V (3 * s + 2)) := by rw [← e2]; exact cLab_at (l := 2) (by decide) hs
  have lp : cPar V 4 = nI (mN V 1846) := (cPar_at (by decide)).trans e3
  refine gCon_of (by decide) (Nat.le_of_ble_eq_true rfl) ?_
  show gJ _ _ _ _ _ _ 0 [(0, _), (1, _)] [] _
  refine gJ_aload_n dX7_keyOf_0 rfl rfl ?_
  refine gJ_get fX7_40 dX7_keyOf_1 (by first | with_reducible assumption | with_reducible exact gUp_s | with_reducible exact gUp_n (by with_reducible assumption) (by omega) | exact gUp_n (by assumption) (by omega) | exact gUp_s | assumption) rfl ?_
  refine gJ_iconst (v := 4) dX7_keyOf_4 (by decide) ?_
  refine gJ_ialdN (j := 4) dX7_keyOf_5 (by first | with_reducible assumption | with_reducible exact gUp_s | with_reducible exact gUp_n (by with_reducible assumption) (by omega) | exact gUp_n (by assumption) (by omega) | exact gUp_s | assumption) (by first | with_reducible rfl | rfl) (by omega) (by decide) ?_
  rw [lp]
  refine gJ_istore_n (lv2 := [(2, _), (0, _), (1, _)]) dX7_keyOf_6 rfl rfl rfl ?_
  refine gJ_iconst (v := 0) dX7_keyOf_7 (by decide) ?_
  refine gJ_istore_n (lv2 := [(3, _), (2, _), (0, _), (1, _)]) dX7_keyOf_8 rfl rfl rfl ?_
  refine gJ_iload_n dX7_keyOf_9 rfl rfl ?_
  refine gJ_iconst (v := 1) dX7_keyOf_10 (by decide) ?_
  refine gJ_iand dX7_keyOf_11 ?_
  refine gJ_if_eq (tgt := 29) dX7_keyOf_12 (by decide) (fun c12 => ?_) (fun c12 => ?_)
  · refine gJ_iload_n dX7_keyOf_29 rfl rfl ?_
    refine gJ_iconst (v := 2) dX7_keyOf_30 (by decide) ?_
    refine gJ_iand dX7_keyOf_31 ?_
    refine gJ_if_eq (tgt := 49) dX7_keyOf_32 (by decide) (fun c32 => ?_) (fun c32 => ?_)
    · refine gJ_iload_n dX7_keyOf_49 rfl rfl ?_
      refine gJ_iconst (v := 4) dX7_keyOf_50 (by decide) ?_
      refine gJ_iand dX7_keyOf_51 ?_
      refine gJ_if_eq (tgt := 67) dX7_keyOf_52 (by decide) (fun c52 => ?_) (fun c52 => ?_)
      · refine gJ_iload_n dX7_keyOf_67 rfl rfl ?_
        refine gJ_iret dX7_keyOf_68 rfl ?_
        refine ⟨rfl, ?_⟩
        (try rw [k4] at c12)
        (try rw [k5] at c32)
        (try rw [k6] at c52)
        (try show some (Value.int (nI 0)) = some (Value.int (nI (cKey V s))))
        refine congrArg (fun z => some (Value.int (nI z))) ?_
        unfold cKey
        first | rw [show mN V 1846 % 2 = 0 from c12] | rw [show mN V 1846 % 2 = 1 by omega]
        first | rw [show mN V 1846 / 2 % 2 = 0 from c32] | rw [show mN V 1846 / 2 % 2 = 1 by omega]
        first | rw [show mN V 1846 / 4 = 0 from c52] | rw [show mN V 1846 / 4 = 1 by omega]
        omega
      · refine gJ_iload_n dX7_keyOf_55 rfl rfl ?_
        refine gJ_aload_n dX7_keyOf_56 rfl rfl ?_
        refine gJ_get fX7_9 dX7_keyOf_57 (by first | with_reducible assumption | with_reducible exact gUp_s | with_reducible exact gUp_n (by with_reducible assumption) (by omega) | exact gUp_n (by assumption) (by omega) | exact gUp_s | assumption) rfl ?_
        refine gJ_bipush (v := 24) dX7_keyOf_60 (by decide) ?_
        refine gJ_iload_n dX7_keyOf_62 rfl rfl ?_
        refine gJ_iaddN (a := 24) (b := s) dX7_keyOf_63 (by first | with_reducible rfl | rfl) (by first | with_reducible rfl | rfl) ?_
        refine gJ_ialdN (j := (24 + s)) dX7_keyOf_64 (by first | with_reducible assumption | with_reducible exact gUp_s | with_reducible exact gUp_n (by with_reducible assumption) (by omega) | exact gUp_n (by assumption) (by omega) | exact gUp_s | assumption) (by first | with_reducible rfl | rfl) (by omega) (by decide) ?_
        rw [l2]
        refine gJ_iaddN (a := 0) (b := (mN V (3 * s + 2))) dX7_keyOf_65 (by first | with_reducible rfl | rfl) (by first | with_reducible rfl | rfl) ?_
        refine gJ_istore_n (lv2 := [(3, _), (2, _), (0, _), (1, _)]) dX7_keyOf_66 rfl rfl rfl ?_
        refine gJ_iload_n dX7_keyOf_67 rfl rfl ?_
        refine gJ_iret dX7_keyOf_68 rfl ?_
        refine ⟨rfl, ?_⟩
        (try rw [k4] at c12)
        (try rw [k5] at c32)
        (try rw [k6] at c52)
        (try show some (Value.int (nI 0)) = some (Value.int (nI (cKey V s))))
        refine congrArg (fun z => some (Value.int (nI z))) ?_
        unfold cKey
        first | rw [show mN V 1846 % 2 = 0 from c12] | rw [show mN V 1846 % 2 = 1 by omega]
        first | rw [show mN V 1846 / 2 % 2 = 0 from c32] | rw [show mN V 1846 / 2 % 2 = 1 by omega]
        first | rw [show mN V 1846 / 4 = 0 from c52] | rw [show mN V 1846 / 4 = 1 by omega]
        omega
    · refine gJ_iload_n dX7_keyOf_35 rfl rfl ?_
      refine gJ_iconst (v := 4) dX7_keyOf_36 (by decide) ?_
      refine gJ_aload_n dX7_keyOf_37 rfl rfl ?_
      refine gJ_get fX7_9 dX7_keyOf_38 (by first | with_reducible assumption | with_reducible exact gUp_s | with_reducible exact gUp_n (by with_reducible assumption) (by omega) | exact gUp_n (by assumption) (by omega) | exact gUp_s | assumption) rfl ?_
      refine gJ_bipush (v := 12) dX7_keyOf_41 (by decide) ?_
      refine gJ_iload_n dX7_keyOf_43 rfl rfl ?_
      refine gJ_iaddN (a := 12) (b := s) dX7_keyOf_44 (by first | with_reducible rfl | rfl) (by first | with_reducible rfl | rfl) ?_
      refine gJ_ialdN (j := (12 + s)) dX7_keyOf_45 (by first | with_reducible assumption | with_reducible exact gUp_s | with_reducible exact gUp_n (by with_reducible assumption) (by omega) | exact gUp_n (by assumption) (by omega) | exact gUp_s | assumption) (by first | with_reducible rfl | rfl) (by omega) (by decide) ?_
      rw [l1]
      refine gJ_imulN (a := 4) (b := (mN V (3 * s + 1))) dX7_keyOf_46 (by first | with_reducible rfl | rfl) (by first | with_reducible rfl | rfl) ?_
      refine gJ_iaddN (a := 0) (b := (4 * (mN V (3 * s + 1)))) dX7_keyOf_47 (by first | with_reducible rfl | rfl) (by first | with_reducible rfl | rfl) ?_
      refine gJ_istore_n (lv2 := [(3, _), (2, _), (0, _), (1, _)]) dX7_keyOf_48 rfl rfl rfl ?_
      refine gJ_iload_n dX7_keyOf_49 rfl rfl ?_
      refine gJ_iconst (v := 4) dX7_keyOf_50 (by decide) ?_
      refine gJ_iand dX7_keyOf_51 ?_
      refine gJ_if_eq (tgt := 67) dX7_keyOf_52 (by decide) (fun c52 => ?_) (fun c52 => ?_)
      · refine gJ_iload_n dX7_keyOf_67 rfl rfl ?_
        refine gJ_iret dX7_keyOf_68 rfl ?_
        refine ⟨rfl, ?_⟩
        (try rw [k4] at c12)
        (try rw [k5] at c32)
        (try rw [k6] at c52)
        (try show some (Value.int (nI 0)) = some (Value.int (nI (cKey V s))))
        refine congrArg (fun z => some (Value.int (nI z))) ?_
        unfold cKey
        first | rw [show mN V 1846 % 2 = 0 from c12] | rw [show mN V 1846 % 2 = 1 by omega]
        first | rw [show mN V 1846 / 2 % 2 = 0 from c32] | rw [show mN V 1846 / 2 % 2 = 1 by omega]
        first | rw [show mN V 1846 / 4 = 0 from c52] | rw [show mN V 1846 / 4 = 1 by omega]
        omega
      · refine gJ_iload_n dX7_keyOf_55 rfl rfl ?_
        refine gJ_aload_n dX7_keyOf_56 rfl rfl ?_
        refine gJ_get fX7_9 dX7_keyOf_57 (by first | with_reducible assumption | with_reducible exact gUp_s | with_reducible exact gUp_n (by with_reducible assumption) (by omega) | exact gUp_n (by assumption) (by omega) | exact gUp_s | assumption) rfl ?_
        refine gJ_bipush (v := 24) dX7_keyOf_60 (by decide) ?_
        refine gJ_iload_n dX7_keyOf_62 rfl rfl ?_
        refine gJ_iaddN (a := 24) (b := s) dX7_keyOf_63 (by first | with_reducible rfl | rfl) (by first | with_reducible rfl | rfl) ?_
        refine gJ_ialdN (j := (24 + s)) dX7_keyOf_64 (by first | with_reducible assumption | with_reducible exact gUp_s | with_reducible exact gUp_n (by with_reducible assumption) (by omega) | exact gUp_n (by assumption) (by omega) | exact gUp_s | assumption) (by first | with_reducible rfl | rfl) (by omega) (by decide) ?_
        rw [l2]
        refine gJ_iaddN (a := (0 + (4 * (mN V (3 * s + 1))))) (b := (mN V (3 * s + 2))) dX7_keyOf_65 (by first | with_reducible rfl | rfl) (by first | with_reducible rfl | rfl) ?_
        refine gJ_istore_n (lv2 := [(3, _), (2, _), (0, _), (1, _)]) dX7_keyOf_66 rfl rfl rfl ?_
        refine gJ_iload_n dX7_keyOf_67 rfl rfl ?_
        refine gJ_iret dX7_keyOf_68 rfl ?_
        refine ⟨rfl, ?_⟩
        (try rw [k4] at c12)
        (try rw [k5] at c32)
        (try rw [k6] at c52)
        (try show some (Value.int (nI 0)) = some (Value.int (nI (cKey V s))))
        refine congrArg (fun z => some (Value.int (nI z))) ?_
        unfold cKey
        first | rw [show mN V 1846 % 2 = 0 from c12] | rw [show mN V 1846 % 2 = 1 by omega]
        first | rw [show mN V 1846 / 2 % 2 = 0 from c32] | rw [show mN V 1846 / 2 % 2 = 1 by omega]
        first | rw [show mN V 1846 / 4 = 0 from c52] | rw [show mN V 1846 / 4 = 1 by omega]
        omega
  · refine gJ_iload_n dX7_keyOf_15 rfl rfl ?_
    refine gJ_bipush (v := 32) dX7_keyOf_16 (by decide) ?_
    refine gJ_aload_n dX7_keyOf_18 rfl rfl ?_
    refine gJ_get fX7_9 dX7_keyOf_19 (by first | with_reducible assumption | with_reducible exact gUp_s | with_reducible exact gUp_n (by with_reducible assumption) (by omega) | exact gUp_n (by assumption) (by omega) | exact gUp_s | assumption) rfl ?_
    refine gJ_iconst (v := 0) dX7_keyOf_22 (by decide) ?_
    refine gJ_iload_n dX7_keyOf_23 rfl rfl ?_
    refine gJ_iaddN (a := 0) (b := s) dX7_keyOf_24 (by first | with_reducible rfl | rfl) (by first | with_reducible rfl | rfl) ?_
    refine gJ_ialdN (j := (0 + s)) dX7_keyOf_25 (by first | with_reducible assumption | with_reducible exact gUp_s | with_reducible exact gUp_n (by with_reducible assumption) (by omega) | exact gUp_n (by assumption) (by omega) | exact gUp_s | assumption) (by first | with_reducible rfl | rfl) (by omega) (by decide) ?_
    rw [l0]
    refine gJ_imulN (a := 32) (b := (mN V (3 * s))) dX7_keyOf_26 (by first | with_reducible rfl | rfl) (by first | with_reducible rfl | rfl) ?_
    refine gJ_iaddN (a := 0) (b := (32 * (mN V (3 * s)))) dX7_keyOf_27 (by first | with_reducible rfl | rfl) (by first | with_reducible rfl | rfl) ?_
    refine gJ_istore_n (lv2 := [(3, _), (2, _), (0, _), (1, _)]) dX7_keyOf_28 rfl rfl rfl ?_
    refine gJ_iload_n dX7_keyOf_29 rfl rfl ?_
    refine gJ_iconst (v := 2) dX7_keyOf_30 (by decide) ?_
    refine gJ_iand dX7_keyOf_31 ?_
    refine gJ_if_eq (tgt := 49) dX7_keyOf_32 (by decide) (fun c32 => ?_) (fun c32 => ?_)
    · refine gJ_iload_n dX7_keyOf_49 rfl rfl ?_
      refine gJ_iconst (v := 4) dX7_keyOf_50 (by decide) ?_
      refine gJ_iand dX7_keyOf_51 ?_
      refine gJ_if_eq (tgt := 67) dX7_keyOf_52 (by decide) (fun c52 => ?_) (fun c52 => ?_)
      · refine gJ_iload_n dX7_keyOf_67 rfl rfl ?_
        refine gJ_iret dX7_keyOf_68 rfl ?_
        refine ⟨rfl, ?_⟩
        (try rw [k4] at c12)
        (try rw [k5] at c32)
        (try rw [k6] at c52)
        (try show some (Value.int (nI 0)) = some (Value.int (nI (cKey V s))))
        refine congrArg (fun z => some (Value.int (nI z))) ?_
        unfold cKey
        first | rw [show mN V 1846 % 2 = 0 from c12] | rw [show mN V 1846 % 2 = 1 by omega]
        first | rw [show mN V 1846 / 2 % 2 = 0 from c32] | rw [show mN V 1846 / 2 % 2 = 1 by omega]
        first | rw [show mN V 1846 / 4 = 0 from c52] | rw [show mN V 1846 / 4 = 1 by omega]
        omega
      · refine gJ_iload_n dX7_keyOf_55 rfl rfl ?_
        refine gJ_aload_n dX7_keyOf_56 rfl rfl ?_
        refine gJ_get fX7_9 dX7_keyOf_57 (by first | with_reducible assumption | with_reducible exact gUp_s | with_reducible exact gUp_n (by with_reducible assumption) (by omega) | exact gUp_n (by assumption) (by omega) | exact gUp_s | assumption) rfl ?_
        refine gJ_bipush (v := 24) dX7_keyOf_60 (by decide) ?_
        refine gJ_iload_n dX7_keyOf_62 rfl rfl ?_
        refine gJ_iaddN (a := 24) (b := s) dX7_keyOf_63 (by first | with_reducible rfl | rfl) (by first | with_reducible rfl | rfl) ?_
        refine gJ_ialdN (j := (24 + s)) dX7_keyOf_64 (by first | with_reducible assumption | with_reducible exact gUp_s | with_reducible exact gUp_n (by with_reducible assumption) (by omega) | exact gUp_n (by assumption) (by omega) | exact gUp_s | assumption) (by first | with_reducible rfl | rfl) (by omega) (by decide) ?_
        rw [l2]
        refine gJ_iaddN (a := (0 + (32 * (mN V (3 * s))))) (b := (mN V (3 * s + 2))) dX7_keyOf_65 (by first | with_reducible rfl | rfl) (by first | with_reducible rfl | rfl) ?_
        refine gJ_istore_n (lv2 := [(3, _), (2, _), (0, _), (1, _)]) dX7_keyOf_66 rfl rfl rfl ?_
        refine gJ_iload_n dX7_keyOf_67 rfl rfl ?_
        refine gJ_iret dX7_keyOf_68 rfl ?_
        refine ⟨rfl, ?_⟩
        (try rw [k4] at c12)
        (try rw [k5] at c32)
        (try rw [k6] at c52)
        (try show some (Value.int (nI 0)) = some (Value.int (nI (cKey V s))))
        refine congrArg (fun z => some (Value.int (nI z))) ?_
        unfold cKey
        first | rw [show mN V 1846 % 2 = 0 from c12] | rw [show mN V 1846 % 2 = 1 by omega]
        first | rw [show mN V 1846 / 2 % 2 = 0 from c32] | rw [show mN V 1846 / 2 % 2 = 1 by omega]
        first | rw [show mN V 1846 / 4 = 0 from c52] | rw [show mN V 1846 / 4 = 1 by omega]
        omega
    · refine gJ_iload_n dX7_keyOf_35 rfl rfl ?_
      refine gJ_iconst (v := 4) dX7_keyOf_36 (by decide) ?_
      refine gJ_aload_n dX7_keyOf_37 rfl rfl ?_
      refine gJ_get fX7_9 dX7_keyOf_38 (by first | with_reducible assumption | with_reducible exact gUp_s | with_reducible exact gUp_n (by with_reducible assumption) (by omega) | exact gUp_n (by assumption) (by omega) | exact gUp_s | assumption) rfl ?_
      refine gJ_bipush (v := 12) dX7_keyOf_41 (by decide) ?_
      refine gJ_iload_n dX7_keyOf_43 rfl rfl ?_
      refine gJ_iaddN (a := 12) (b := s) dX7_keyOf_44 (by first | with_reducible rfl | rfl) (by first | with_reducible rfl | rfl) ?_
      refine gJ_ialdN (j := (12 + s)) dX7_keyOf_45 (by first | with_reducible assumption | with_reducible exact gUp_s | with_reducible exact gUp_n (by with_reducible assumption) (by omega) | exact gUp_n (by assumption) (by omega) | exact gUp_s | assumption) (by first | with_reducible rfl | rfl) (by omega) (by decide) ?_
      rw [l1]
      refine gJ_imulN (a := 4) (b := (mN V (3 * s + 1))) dX7_keyOf_46 (by first | with_reducible rfl | rfl) (by first | with_reducible rfl | rfl) ?_
      refine gJ_iaddN (a := (0 + (32 * (mN V (3 * s))))) (b := (4 * (mN V (3 * s + 1)))) dX7_keyOf_47 (by first | with_reducible rfl | rfl) (by first | with_reducible rfl | rfl) ?_
      refine gJ_istore_n (lv2 := [(3, _), (2, _), (0, _), (1, _)]) dX7_keyOf_48 rfl rfl rfl ?_
      refine gJ_iload_n dX7_keyOf_49 rfl rfl ?_
      refine gJ_iconst (v := 4) dX7_keyOf_50 (by decide) ?_
      refine gJ_iand dX7_keyOf_51 ?_
      refine gJ_if_eq (tgt := 67) dX7_keyOf_52 (by decide) (fun c52 => ?_) (fun c52 => ?_)
      · refine gJ_iload_n dX7_keyOf_67 rfl rfl ?_
        refine gJ_iret dX7_keyOf_68 rfl ?_
        refine ⟨rfl, ?_⟩
        (try rw [k4] at c12)
        (try rw [k5] at c32)
        (try rw [k6] at c52)
        (try show some (Value.int (nI 0)) = some (Value.int (nI (cKey V s))))
        refine congrArg (fun z => some (Value.int (nI z))) ?_
        unfold cKey
        first | rw [show mN V 1846 % 2 = 0 from c12] | rw [show mN V 1846 % 2 = 1 by omega]
        first | rw [show mN V 1846 / 2 % 2 = 0 from c32] | rw [show mN V 1846 / 2 % 2 = 1 by omega]
        first | rw [show mN V 1846 / 4 = 0 from c52] | rw [show mN V 1846 / 4 = 1 by omega]
        omega
      · refine gJ_iload_n dX7_keyOf_55 rfl rfl ?_
        refine gJ_aload_n dX7_keyOf_56 rfl rfl ?_
        refine gJ_get fX7_9 dX7_keyOf_57 (by first | with_reducible assumption | with_reducible exact gUp_s | with_reducible exact gUp_n (by with_reducible assumption) (by omega) | exact gUp_n (by assumption) (by omega) | exact gUp_s | assumption) rfl ?_
        refine gJ_bipush (v := 24) dX7_keyOf_60 (by decide) ?_
        refine gJ_iload_n dX7_keyOf_62 rfl rfl ?_
        refine gJ_iaddN (a := 24) (b := s) dX7_keyOf_63 (by first | with_reducible rfl | rfl) (by first | with_reducible rfl | rfl) ?_
        refine gJ_ialdN (j := (24 + s)) dX7_keyOf_64 (by first | with_reducible assumption | with_reducible exact gUp_s | with_reducible exact gUp_n (by with_reducible assumption) (by omega) | exact gUp_n (by assumption) (by omega) | exact gUp_s | assumption) (by first | with_reducible rfl | rfl) (by omega) (by decide) ?_
        rw [l2]
        refine gJ_iaddN (a := ((0 + (32 * (mN V (3 * s)))) + (4 * (mN V (3 * s + 1))))) (b := (mN V (3 * s + 2))) dX7_keyOf_65 (by first | with_reducible rfl | rfl) (by first | with_reducible rfl | rfl) ?_
        refine gJ_istore_n (lv2 := [(3, _), (2, _), (0, _), (1, _)]) dX7_keyOf_66 rfl rfl rfl ?_
        refine gJ_iload_n dX7_keyOf_67 rfl rfl ?_
        refine gJ_iret dX7_keyOf_68 rfl ?_
        refine ⟨rfl, ?_⟩
        (try rw [k4] at c12)
        (try rw [k5] at c32)
        (try rw [k6] at c52)
        (try show some (Value.int (nI 0)) = some (Value.int (nI (cKey V s))))
        refine congrArg (fun z => some (Value.int (nI z))) ?_
        unfold cKey
        first | rw [show mN V 1846 % 2 = 0 from c12] | rw [show mN V 1846 % 2 = 1 by omega]
        first | rw [show mN V 1846 / 2 % 2 = 0 from c32] | rw [show mN V 1846 / 2 % 2 = 1 by omega]
        first | rw [show mN V 1846 / 4 = 0 from c52] | rw [show mN V 1846 / 4 = 1 by omega]
        omega
theorem c6_accepts {q mq : Nat} {sg bd wt sv : Int32} {z : Nat} (hz : z ≤ 2) (hsg : sg = cSgn (nI z)) (h0 : M.1 q = some (gO 5 [.ref mq, .int sg, .int bd, .int wt, .int sv])) (x : Int32) : gCon G kX6_accepts 0 0 0 M [.ref q, .int x] (fun M2 v => M2 = M ∧ v = some (.int (gb (if z = 0 then !decide (bd ≤ x) else if z = 1 then !decide (x ≤ bd) else decide (x = bd))))) := by
  refine gCon_of (by decide) (Nat.le_of_ble_eq_true rfl) ?_
  rcases (show z = 0 ∨ z = 1 ∨ z = 2 by omega) with rfl | rfl | rfl
  · have e : sg = nI 60 := hsg
    subst e
    show gJ _ _ _ _ _ _ 0 [(0, _), (1, _)] [] _
    refine gJ_aload_n dX6_accepts_0 rfl rfl ?_
    refine gJ_get fX6_13 dX6_accepts_1 (by first | with_reducible assumption | with_reducible exact gUp_s | with_reducible exact gUp_n (by with_reducible assumption) (by omega) | exact gUp_n (by assumption) (by omega) | exact gUp_s | assumption) rfl ?_
    refine gJ_bipush (v := 60) dX6_accepts_4 (by decide) ?_
    refine gJ_icmp_neN (tgt := 23) (a := 60) (b := 60) (by first | with_reducible rfl | rfl) (by first | with_reducible rfl | rfl) (by omega) (by omega) dX6_accepts_6 (by decide) (fun c_ => by exfalso; omega) (fun _ => ?_)
    refine gJ_iload_n dX6_accepts_9 rfl rfl ?_
    refine gJ_aload_n dX6_accepts_10 rfl rfl ?_
    refine gJ_get fX6_17 dX6_accepts_11 (by first | with_reducible assumption | with_reducible exact gUp_s | with_reducible exact gUp_n (by with_reducible assumption) (by omega) | exact gUp_n (by assumption) (by omega) | exact gUp_s | assumption) rfl ?_
    refine gJ_icmp_ge (tgt := 21) dX6_accepts_14 (by decide) (fun c14 => ?_) (fun c14 => ?_)
    · refine gJ_iconst (v := 0) dX6_accepts_21 (by decide) ?_
      refine gJ_zret dX6_accepts_22 rfl (by first | exact gz0 | exact gz1 | exact gb01 _) ?_
      refine ⟨rfl, ?_⟩
      rw [if_pos rfl, decide_eq_true c14]
      rfl
    · refine gJ_iconst (v := 1) dX6_accepts_17 (by decide) ?_
      refine gJ_goto (tgt := 22) dX6_accepts_18 (by decide) ?_
      refine gJ_zret dX6_accepts_22 rfl (by first | exact gz0 | exact gz1 | exact gb01 _) ?_
      refine ⟨rfl, ?_⟩
      rw [if_pos rfl, decide_eq_false c14]
      rfl
  · have e : sg = nI 62 := hsg
    subst e
    show gJ _ _ _ _ _ _ 0 [(0, _), (1, _)] [] _
    refine gJ_aload_n dX6_accepts_0 rfl rfl ?_
    refine gJ_get fX6_13 dX6_accepts_1 (by first | with_reducible assumption | with_reducible exact gUp_s | with_reducible exact gUp_n (by with_reducible assumption) (by omega) | exact gUp_n (by assumption) (by omega) | exact gUp_s | assumption) rfl ?_
    refine gJ_bipush (v := 60) dX6_accepts_4 (by decide) ?_
    refine gJ_icmp_neN (tgt := 23) (a := 62) (b := 60) (by first | with_reducible rfl | rfl) (by first | with_reducible rfl | rfl) (by omega) (by omega) dX6_accepts_6 (by decide) (fun _ => ?_) (fun c_ => by exfalso; omega)
    refine gJ_aload_n dX6_accepts_23 rfl rfl ?_
    refine gJ_get fX6_13 dX6_accepts_24 (by first | with_reducible assumption | with_reducible exact gUp_s | with_reducible exact gUp_n (by with_reducible assumption) (by omega) | exact gUp_n (by assumption) (by omega) | exact gUp_s | assumption) rfl ?_
    refine gJ_bipush (v := 62) dX6_accepts_27 (by decide) ?_
    refine gJ_icmp_neN (tgt := 46) (a := 62) (b := 62) (by first | with_reducible rfl | rfl) (by first | with_reducible rfl | rfl) (by omega) (by omega) dX6_accepts_29 (by decide) (fun c_ => by exfalso; omega) (fun _ => ?_)
    refine gJ_iload_n dX6_accepts_32 rfl rfl ?_
    refine gJ_aload_n dX6_accepts_33 rfl rfl ?_
    refine gJ_get fX6_17 dX6_accepts_34 (by first | with_reducible assumption | with_reducible exact gUp_s | with_reducible exact gUp_n (by with_reducible assumption) (by omega) | exact gUp_n (by assumption) (by omega) | exact gUp_s | assumption) rfl ?_
    refine gJ_icmp_le (tgt := 44) dX6_accepts_37 (by decide) (fun c37 => ?_) (fun c37 => ?_)
    · refine gJ_iconst (v := 0) dX6_accepts_44 (by decide) ?_
      refine gJ_zret dX6_accepts_45 rfl (by first | exact gz0 | exact gz1 | exact gb01 _) ?_
      refine ⟨rfl, ?_⟩
      rw [if_neg (by decide), if_pos rfl, decide_eq_true c37]
      rfl
    · refine gJ_iconst (v := 1) dX6_accepts_40 (by decide) ?_
      refine gJ_goto (tgt := 45) dX6_accepts_41 (by decide) ?_
      refine gJ_zret dX6_accepts_45 rfl (by first | exact gz0 | exact gz1 | exact gb01 _) ?_
      refine ⟨rfl, ?_⟩
      rw [if_neg (by decide), if_pos rfl, decide_eq_false c37]
      rfl
  · have e : sg = nI 61 := hsg
    subst e
    show gJ _ _ _ _ _ _ 0 [(0, _), (1, _)] [] _
    refine gJ_aload_n dX6_accepts_0 rfl rfl ?_
    refine gJ_get fX6_13 dX6_accepts_1 (by first | with_reducible assumption | with_reducible exact gUp_s | with_reducible exact gUp_n (by with_reducible assumption) (by omega) | exact gUp_n (by assumption) (by omega) | exact gUp_s | assumption) rfl ?_
    refine gJ_bipush (v := 60) dX6_accepts_4 (by decide) ?_
    refine gJ_icmp_neN (tgt := 23) (a := 61) (b := 60) (by first | with_reducible rfl | rfl) (by first | with_reducible rfl | rfl) (by omega) (by omega) dX6_accepts_6 (by decide) (fun _ => ?_) (fun c_ => by exfalso; omega)
    refine gJ_aload_n dX6_accepts_23 rfl rfl ?_
    refine gJ_get fX6_13 dX6_accepts_24 (by first | with_reducible assumption | with_reducible exact gUp_s | with_reducible exact gUp_n (by with_reducible assumption) (by omega) | exact gUp_n (by assumption) (by omega) | exact gUp_s | assumption) rfl ?_
    refine gJ_bipush (v := 62) dX6_accepts_27 (by decide) ?_
    refine gJ_icmp_neN (tgt := 46) (a := 61) (b := 62) (by first | with_reducible rfl | rfl) (by first | with_reducible rfl | rfl) (by omega) (by omega) dX6_accepts_29 (by decide) (fun _ => ?_) (fun c_ => by exfalso; omega)
    refine gJ_iload_n dX6_accepts_46 rfl rfl ?_
    refine gJ_aload_n dX6_accepts_47 rfl rfl ?_
    refine gJ_get fX6_17 dX6_accepts_48 (by first | with_reducible assumption | with_reducible exact gUp_s | with_reducible exact gUp_n (by with_reducible assumption) (by omega) | exact gUp_n (by assumption) (by omega) | exact gUp_s | assumption) rfl ?_
    refine gJ_icmp_ne (tgt := 58) dX6_accepts_51 (by decide) (fun c51 => ?_) (fun c51 => ?_)
    · refine gJ_iconst (v := 0) dX6_accepts_58 (by decide) ?_
      refine gJ_zret dX6_accepts_59 rfl (by first | exact gz0 | exact gz1 | exact gb01 _) ?_
      refine ⟨rfl, ?_⟩
      rw [if_neg (by decide), if_neg (by decide), decide_eq_false c51]
      rfl
    · refine gJ_iconst (v := 1) dX6_accepts_54 (by decide) ?_
      refine gJ_goto (tgt := 59) dX6_accepts_55 (by decide) ?_
      refine gJ_zret dX6_accepts_59 rfl (by first | exact gz0 | exact gz1 | exact gb01 _) ?_
      refine ⟨rfl, ?_⟩
      rw [if_neg (by decide), if_neg (by decide), decide_eq_true c51]
      rfl
theorem c8_isOn {q mq : Nat} {fr ln : Int32} (h0 : M.1 q = some (gO 7 [.ref mq, .int fr, .int ln])) (x : Int32) : gCon G kX8_isOn 0 0 0 M [.ref q, .int x] (fun M2 v => M2 = M ∧ v = some (.int (gb (!decide (x < fr) && !decide (fr + ln ≤ x))))) := by
  refine gCon_of (by decide) (Nat.le_of_ble_eq_true rfl) ?_
  show gJ _ _ _ _ _ _ 0 [(0, _), (1, _)] [] _
  refine gJ_aload_n dX8_isOn_0 rfl rfl ?_
  refine gJ_get fX8_13 dX8_isOn_1 (by first | with_reducible assumption | with_reducible exact gUp_s | with_reducible exact gUp_n (by with_reducible assumption) (by omega) | exact gUp_n (by assumption) (by omega) | exact gUp_s | assumption) rfl ?_
  refine gJ_iload_n dX8_isOn_4 rfl rfl ?_
  refine gJ_icmp_gt (tgt := 25) dX8_isOn_5 (by decide) (fun c5 => ?_) (fun c5 => ?_)
  · refine gJ_iconst (v := 0) dX8_isOn_25 (by decide) ?_
    refine gJ_zret dX8_isOn_26 rfl (by first | exact gz0 | exact gz1 | exact gb01 _) ?_
    refine ⟨rfl, ?_⟩
    rw [decide_eq_true c5]
    rfl
  · refine gJ_iload_n dX8_isOn_8 rfl rfl ?_
    refine gJ_aload_n dX8_isOn_9 rfl rfl ?_
    refine gJ_get fX8_13 dX8_isOn_10 (by first | with_reducible assumption | with_reducible exact gUp_s | with_reducible exact gUp_n (by with_reducible assumption) (by omega) | exact gUp_n (by assumption) (by omega) | exact gUp_s | assumption) rfl ?_
    refine gJ_aload_n dX8_isOn_13 rfl rfl ?_
    refine gJ_get fX8_17 dX8_isOn_14 (by first | with_reducible assumption | with_reducible exact gUp_s | with_reducible exact gUp_n (by with_reducible assumption) (by omega) | exact gUp_n (by assumption) (by omega) | exact gUp_s | assumption) rfl ?_
    refine gJ_iadd dX8_isOn_17 ?_
    refine gJ_icmp_ge (tgt := 25) dX8_isOn_18 (by decide) (fun c18 => ?_) (fun c18 => ?_)
    · refine gJ_iconst (v := 0) dX8_isOn_25 (by decide) ?_
      refine gJ_zret dX8_isOn_26 rfl (by first | exact gz0 | exact gz1 | exact gb01 _) ?_
      refine ⟨rfl, ?_⟩
      rw [decide_eq_true c18, Bool.not_true, Bool.and_false]
      rfl
    · refine gJ_iconst (v := 1) dX8_isOn_21 (by decide) ?_
      refine gJ_goto (tgt := 26) dX8_isOn_22 (by decide) ?_
      refine gJ_zret dX8_isOn_26 rfl (by first | exact gz0 | exact gz1 | exact gb01 _) ?_
      refine ⟨rfl, ?_⟩
      rw [decide_eq_false c5, decide_eq_false c18]
      rfl
theorem c7_waitOf {RU : Nat → Option Nat} (h0 : M.1 p = some (cSu p)) (h4 : M.1 (p + 4) = some (gR 3 5 RU)) (hR : ∀ r, r < 5 → cRul M E V r (RU r)) (a : Nat) (ha : a < 60) : gCon G kX7_waitOf 0 0 0 M [.ref p, .int (nI a)] (fun M2 v => M2 = M ∧ v = some (.int (cWait V a))) := by
  refine gCon_of (by decide) (Nat.le_of_ble_eq_true rfl) ?_
  rcases hR (a / 12) (by omega) with ⟨hv, ho⟩ | ⟨hv, q, mq, ho, hE, hq, -⟩
  · skip
    show gJ _ _ _ _ _ _ 0 [(0, _), (1, _)] [] _
    refine gJ_aload_n dX7_waitOf_0 rfl rfl ?_
    refine gJ_get fX7_24 dX7_waitOf_1 (by first | with_reducible assumption | with_reducible exact gUp_s | with_reducible exact gUp_n (by with_reducible assumption) (by omega) | exact gUp_n (by assumption) (by omega) | exact gUp_s | assumption) rfl ?_
    refine gJ_iload_n dX7_waitOf_4 rfl rfl ?_
    refine gJ_bipush (v := 12) dX7_waitOf_5 (by decide) ?_
    refine gJ_idivN (a := a) (b := 12) dX7_waitOf_7 (by first | with_reducible rfl | rfl) (by first | with_reducible rfl | rfl) (by omega) (by decide) ?_
    refine gJ_aaldN (j := (a / 12)) dX7_waitOf_8 (by first | with_reducible assumption | with_reducible exact gUp_s | with_reducible exact gUp_n (by with_reducible assumption) (by omega) | exact gUp_n (by assumption) (by omega) | exact gUp_s | assumption) rfl (by first | with_reducible rfl | rfl) (by omega) (by decide) ho ?_
    refine gJ_astore_nN (lv2 := [(2, _), (0, _), (1, _)]) dX7_waitOf_9 rfl rfl rfl ?_
    refine gJ_aload_nN dX7_waitOf_10 rfl rfl ?_
    refine gJ_ifnonnullN dX7_waitOf_11 ?_
    refine gJ_iconst (v := 0) dX7_waitOf_14 (by decide) ?_
    refine gJ_goto (tgt := 22) dX7_waitOf_15 (by decide) ?_
    refine gJ_iret dX7_waitOf_22 rfl ?_
    refine ⟨rfl, ?_⟩
    rw [cWait, if_pos hv]
  · skip
    show gJ _ _ _ _ _ _ 0 [(0, _), (1, _)] [] _
    refine gJ_aload_n dX7_waitOf_0 rfl rfl ?_
    refine gJ_get fX7_24 dX7_waitOf_1 (by first | with_reducible assumption | with_reducible exact gUp_s | with_reducible exact gUp_n (by with_reducible assumption) (by omega) | exact gUp_n (by assumption) (by omega) | exact gUp_s | assumption) rfl ?_
    refine gJ_iload_n dX7_waitOf_4 rfl rfl ?_
    refine gJ_bipush (v := 12) dX7_waitOf_5 (by decide) ?_
    refine gJ_idivN (a := a) (b := 12) dX7_waitOf_7 (by first | with_reducible rfl | rfl) (by first | with_reducible rfl | rfl) (by omega) (by decide) ?_
    refine gJ_aaldS (j := (a / 12)) dX7_waitOf_8 (by first | with_reducible assumption | with_reducible exact gUp_s | with_reducible exact gUp_n (by with_reducible assumption) (by omega) | exact gUp_n (by assumption) (by omega) | exact gUp_s | assumption) rfl (by first | with_reducible rfl | rfl) (by omega) (by decide) ho ?_
    refine gJ_astore_n (lv2 := [(2, _), (0, _), (1, _)]) dX7_waitOf_9 rfl rfl rfl ?_
    refine gJ_aload_n dX7_waitOf_10 rfl rfl ?_
    refine gJ_ifnonnull (tgt := 18) dX7_waitOf_11 (by decide) ?_
    refine gJ_aload_n dX7_waitOf_18 rfl rfl ?_
    refine gJ_get fX7_97 dX7_waitOf_19 (by first | with_reducible assumption | with_reducible exact gUp_s | with_reducible exact gUp_n (by with_reducible assumption) (by omega) | exact gUp_n (by assumption) (by omega) | exact gUp_s | assumption) rfl ?_
    refine gJ_iret dX7_waitOf_22 rfl ?_
    refine ⟨rfl, ?_⟩
    rw [cWait, if_neg (by rw [hv]; decide)]
set_option maxRecDepth 20000 in
theorem c7_greatestSeverity (h0 : M.1 p = some (cSu p)) (h8 : M.1 (p + 8) = some (gL 20 (cSets V))) (hI : mI V) (x : Int64) (hx : ∀ a, lB x a = true → a < 60 ∧ V (60 + 10 * (a / 12)) = 1) : gCon G kX7_greatestSeverity 0 0 0 M [.ref p, .long x] (fun M2 v => M2 = M ∧ v = some (.int (mGr V x 60))) := by
  have hs : ∀ a, lB x a = true → ∃ j, j ≤ 3 ∧ mSev V a = nI j := fun a ha => (hI.2.2.1 (a / 12) (by have := (hx a ha).1; omega)).2.2.2.2
  have hsh : ∀ s a, lB x a = true → (cSet V (16 + s) a = true ↔ mSev V a = nI s) := by
    intro s a ha
    unfold cSet mSev
    rw [if_neg (by omega), if_neg (by omega), if_neg (by omega), (hx a ha).2]
    simp
  have hz : ∀ s, s ≤ 3 → ((x &&& cSets V (16 + s) = 0) ↔ ∀ a, lB x a = true → ¬ mSev V a = nI s) := by
    intro s hs3
    rw [cSets_at (by omega)]
    constructor
    · intro h a ha hsv
      have h2 : lB (x &&& lS (cSet V (16 + s)) 60) a = true := by
        rw [lB_and, ha, lS_b, decide_eq_true (hx a ha).1, (hsh s a ha).mpr hsv]
        rfl
      rw [h, lB_0] at h2
      cases h2
    · intro h
      refine lB_ext fun a _ => ?_
      rw [lB_and, lB_0]
      by_cases ha : lB x a = true
      · rw [ha, lS_b, Bool.not_eq_true _ |>.mp (fun h2 => h a ha ((hsh s a ha).mp h2))]
        simp
      · rw [Bool.not_eq_true _ |>.mp ha]
        rfl
  refine gCon_of (by decide) (Nat.le_of_ble_eq_true rfl) ?_
  have loop : ∀ (q : Nat), q ≤ 4 → (∀ a, lB x a = true → ∃ j, j < q ∧ mSev V a = nI j) →
      gJ G kX7_greatestSeverity 0 0 0 M 6 [(3, .int (nI q + -1)), (0, .ref p), (1, .long x)] [] (gQ kX7_greatestSeverity (fun M2 v => M2 = M ∧ v = some (.int (mGr V x 60)))) := by
    intro q
    induction q with
    | zero =>
      intro hq h
      refine gJ_iload_n dX7_greatestSeverity_6 rfl rfl ?_
      refine gJ_if_lt (tgt := 37) dX7_greatestSeverity_7 (by decide) (fun _ => ?_) (fun c_ => by exfalso; exact absurd c_ (by decide))
      refine gJ_bipush (v := -5) dX7_greatestSeverity_37 (by decide) ?_
      refine gJ_iret dX7_greatestSeverity_39 rfl ?_
      refine ⟨rfl, ?_⟩
      rw [mGr_none (fun a ha => Bool.not_eq_true _ |>.mp (fun h2 => by obtain ⟨j, hj, -⟩ := h a h2; omega))]
    | succ q ih =>
      intro hq h
      rw [pk_m1]
      refine gJ_iload_n dX7_greatestSeverity_6 rfl rfl ?_
      refine gJ_if_ltN (tgt := 37) (a := q) (by first | with_reducible rfl | rfl) (by omega) dX7_greatestSeverity_7 (by decide) (fun c_ => by exfalso; omega) (fun _ => ?_)
      refine gJ_lload_n dX7_greatestSeverity_10 rfl rfl ?_
      refine gJ_aload_n dX7_greatestSeverity_11 rfl rfl ?_
      refine gJ_get fX7_43 dX7_greatestSeverity_12 (by first | with_reducible assumption | with_reducible exact gUp_s | with_reducible exact gUp_n (by with_reducible assumption) (by omega) | exact gUp_n (by assumption) (by omega) | exact gUp_s | assumption) rfl ?_
      refine gJ_getsN (q := 0) (by decide) gX7_56 dX7_greatestSeverity_15 ?_
      refine gJ_iconst (v := 3) dX7_greatestSeverity_18 (by decide) ?_
      refine gJ_taldN (j := 3) dX7_greatestSeverity_19 (q := 0) (by decide) (by first | with_reducible rfl | rfl) (by decide) (by decide) ?_
      refine gJ_iload_n dX7_greatestSeverity_20 rfl rfl ?_
      refine gJ_iaddN (a := 16) (b := q) dX7_greatestSeverity_21 (by first | with_reducible rfl | rfl) (by first | with_reducible rfl | rfl) ?_
      refine gJ_laldN (j := (16 + q)) dX7_greatestSeverity_22 (by first | with_reducible assumption | with_reducible exact gUp_s | with_reducible exact gUp_n (by with_reducible assumption) (by omega) | exact gUp_n (by assumption) (by omega) | exact gUp_s | assumption) (by first | with_reducible rfl | rfl) (by omega) (by decide) ?_
      refine gJ_land dX7_greatestSeverity_23 ?_
      refine gJ_lconst (v := 0) dX7_greatestSeverity_24 (by decide) ?_
      refine gJ_lcmp dX7_greatestSeverity_25 ?_
      refine gJ_if_eq (tgt := 31) dX7_greatestSeverity_26 (by decide) (fun c26 => ?_) (fun c26 => ?_)
      · refine gJ_iinc (v := _ + (-1)) (lv2 := [(3, _), (0, _), (1, _)]) dX7_greatestSeverity_31 rfl rfl rfl rfl ?_
        refine gJ_goto (tgt := 6) dX7_greatestSeverity_34 (by decide) ?_
        refine gJ_ls (ih (by omega) (fun a ha => ?_)) ⟨rfl, rfl, rfl, trivial⟩
        obtain ⟨j, hj, hj2⟩ := h a ha
        have hne := (hz q (by omega)).mp ((lg_cmp_eq _ _).mp c26) a ha
        refine ⟨j, ?_, hj2⟩
        rcases Nat.lt_succ_iff_lt_or_eq.mp hj with h3 | rfl
        · exact h3
        · exact absurd hj2 hne
      · refine gJ_iload_n dX7_greatestSeverity_29 rfl rfl ?_
        refine gJ_iret dX7_greatestSeverity_30 rfl ?_
        refine ⟨rfl, ?_⟩
        have hn := mt (fun h5 => (lg_cmp_eq _ _).mpr ((hz q (by omega)).mpr h5)) c26
        have hex : ∃ a, a < 60 ∧ lB x a = true ∧ mSev V a = nI q := Classical.byContradiction (fun hno => hn (fun a ha hsv => hno ⟨a, (hx a ha).1, ha, hsv⟩))
        rw [mGr_hit hs (by omega) hex (fun a _ ha => by obtain ⟨j, hj, hj2⟩ := h a ha; exact ⟨j, by omega, hj2⟩)]
  show gJ _ _ _ _ _ _ 0 [(0, _), (1, _)] [] _
  refine gJ_getsN (q := 1) (by decide) gX7_100 dX7_greatestSeverity_0 ?_
  refine gJ_iconst (v := 3) dX7_greatestSeverity_3 (by decide) ?_
  refine gJ_taldN (j := 3) dX7_greatestSeverity_4 (q := 1) (by decide) (by first | with_reducible rfl | rfl) (by decide) (by decide) ?_
  refine gJ_istore_n (lv2 := [(3, _), (0, _), (1, _)]) dX7_greatestSeverity_5 rfl rfl rfl ?_
  exact gJ_ls (loop 4 (by omega) (fun a ha => by obtain ⟨j, hj, hj2⟩ := hs a ha; exact ⟨j, by omega, hj2⟩)) ⟨(by rw [show (nI 4 + -1 : Int32) = 3 from by decide]; rfl), rfl, rfl, trivial⟩
end CLS
