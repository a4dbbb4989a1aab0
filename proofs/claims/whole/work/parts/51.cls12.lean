/-! THE CLASS' STATE at s: setup s+1, states s+10, groups s+14, log s+19; what its readers answer -/
def cSta (s : Nat) (x : Int32) : gE := gO 8 [.int x, .ref (s + 1), .ref (s + 10), .ref (s + 14), .ref (s + 19)]
def cR (T : Nat) (M : gM) (E s : Nat) (V : Nat → Int32) (S D : Nat → Int64) : Prop := V 1847 = nI T ∧ M.1 s = some (cSta s (V 1847)) ∧ cRS M E (s + 1) V ∧ cRA (fun _ => T) M (s + 10) V ∧ cRG M (s + 14) V S D ∧ cRL (128 * T) M (s + 19) V
/-- firing alerts are those of rules that are there -/
def mJ (V : Nat → Int32) : Prop := ∀ a, a < 60 → ¬ V (206 + 23 * a) = 0 → V (60 + 10 * (a / 12)) = 1
def cSilB (V : Nat → Int32) (k a : Nat) : Bool := decide (V (110 + 8 * k) = 1) && ((!decide (V 1847 < V (110 + 8 * k + 6)) && !decide (V (110 + 8 * k + 6) + V (110 + 8 * k + 7) ≤ V 1847)) && cMtA V (110 + 8 * k + 1) a)
def cSild (V : Nat → Int32) (a : Nat) : Bool := (List.range 6).any fun k => cSilB V k a
theorem cSilB_is {V : Nat → Int32} {k a : Nat} (hp : V (60 + 10 * (a / 12)) = 1) (ho : V (110 + 8 * k) = 1 → cOk V (110 + 8 * k + 1)) : cSilB V k a = mSil V a k := by
  unfold cSilB mSil
  by_cases h : V (110 + 8 * k) = 1
  · rw [cMtA_is hp (ho h), Bool.and_assoc]
  · rw [decide_eq_false h]; rfl
theorem mSilOf_any {V : Nat → Int32} {a : Nat} : ¬ mSilOf V a < 0 ↔ (List.range 6).any (mSil V a) = true := by
  unfold mSilOf
  constructor
  · intro h
    apply Classical.byContradiction
    intro hn
    apply h
    rw [mFind_none (fun i hi => Bool.not_eq_true _ |>.mp (fun ht => hn (any_t hi ht)))]
    decide
  · intro h
    obtain ⟨x, hx, hx2⟩ := List.any_eq_true.mp h
    cases hf : (List.range 6).find? (mSil V a) with
    | none =>
      rw [List.find?_eq_none] at hf
      exact absurd hx2 (hf x hx)
    | some j =>
      have hj : j < 6 := List.mem_range.mp (List.mem_of_find?_eq_some hf)
      rw [mFind, hf]
      exact Int32.not_lt.mpr (nI_pos' (by omega))
section CLS
variable {G : gG} {M : gM} {E s T : Nat} {V : Nat → Int32} {S D : Nat → Int64}
set_option maxRecDepth 20000 in
theorem c9_silencedBy (h : cR T M E s V S D) (hI : mI V) (k : Nat) (hk : k < 6) : gCon G kX9_silencedBy 1 0 0 M [.ref s, .int (nI k)] (fun M2 v => M2 = M ∧ v = some (.long (lS (cSilB V k) 60))) := by
  obtain ⟨-, hs, ⟨X, RU, SI, IN, h0, h1, h2, h3, h4, h5, h6, h7, h8, hX, hR, hS, hN⟩, -, -, -⟩ := h
  refine gCon_of (by decide) (Nat.le_of_ble_eq_true rfl) ?_
  rcases hS k hk with ⟨hv, ho⟩ | ⟨hv, q, mq, ho, hE, hq, hm⟩
  · have hz : lS (cSilB V k) 60 = 0 := lS_0 (fun a _ => by rw [cSilB, hv]; rfl)
    rw [hz]
    show gJ _ _ _ _ _ _ 0 [(0, _), (1, _)] [] _
    refine gJ_aload_n dX9_silencedBy_0 rfl rfl ?_
    refine gJ_get fX9_12 dX9_silencedBy_1 (by first | with_reducible assumption | with_reducible exact gUp_s | with_reducible exact gUp_n (by with_reducible assumption) (by omega) | exact gUp_n (by assumption) (by omega) | exact gUp_s | assumption) rfl ?_
    refine gJ_get fX9_120 dX9_silencedBy_4 (by first | with_reducible assumption | with_reducible exact gUp_s | with_reducible exact gUp_n (by with_reducible assumption) (by omega) | exact gUp_n (by assumption) (by omega) | exact gUp_s | assumption) rfl ?_
    refine gJ_iload_n dX9_silencedBy_7 rfl rfl ?_
    refine gJ_aaldN (j := k) dX9_silencedBy_8 (by first | with_reducible assumption | with_reducible exact gUp_s | with_reducible exact gUp_n (by with_reducible assumption) (by omega) | exact gUp_n (by assumption) (by omega) | exact gUp_s | assumption) rfl (by first | with_reducible rfl | rfl) (by omega) (by decide) ho ?_
    refine gJ_astore_nN (lv2 := [(2, _), (0, _), (1, _)]) dX9_silencedBy_9 rfl rfl rfl ?_
    refine gJ_aload_nN dX9_silencedBy_10 rfl rfl ?_
    refine gJ_ifnullN (tgt := 39) dX9_silencedBy_11 (by decide) ?_
    refine gJ_lconst (v := 0) dX9_silencedBy_39 (by decide) ?_
    refine gJ_lret dX9_silencedBy_40 rfl ?_
    exact ⟨rfl, rfl⟩
  · skip
    show gJ _ _ _ _ _ _ 0 [(0, _), (1, _)] [] _
    refine gJ_aload_n dX9_silencedBy_0 rfl rfl ?_
    refine gJ_get fX9_12 dX9_silencedBy_1 (by first | with_reducible assumption | with_reducible exact gUp_s | with_reducible exact gUp_n (by with_reducible assumption) (by omega) | exact gUp_n (by assumption) (by omega) | exact gUp_s | assumption) rfl ?_
    refine gJ_get fX9_120 dX9_silencedBy_4 (by first | with_reducible assumption | with_reducible exact gUp_s | with_reducible exact gUp_n (by with_reducible assumption) (by omega) | exact gUp_n (by assumption) (by omega) | exact gUp_s | assumption) rfl ?_
    refine gJ_iload_n dX9_silencedBy_7 rfl rfl ?_
    refine gJ_aaldS (j := k) dX9_silencedBy_8 (by first | with_reducible assumption | with_reducible exact gUp_s | with_reducible exact gUp_n (by with_reducible assumption) (by omega) | exact gUp_n (by assumption) (by omega) | exact gUp_s | assumption) rfl (by first | with_reducible rfl | rfl) (by omega) (by decide) ho ?_
    refine gJ_astore_n (lv2 := [(2, _), (0, _), (1, _)]) dX9_silencedBy_9 rfl rfl rfl ?_
    refine gJ_aload_n dX9_silencedBy_10 rfl rfl ?_
    refine gJ_ifnull dX9_silencedBy_11 ?_
    refine gJ_aload_n dX9_silencedBy_14 rfl rfl ?_
    refine gJ_aload_n dX9_silencedBy_15 rfl rfl ?_
    refine gJ_get fX9_39 dX9_silencedBy_16 (by first | with_reducible assumption | with_reducible exact gUp_s | with_reducible exact gUp_n (by with_reducible assumption) (by omega) | exact gUp_n (by assumption) (by omega) | exact gUp_s | assumption) rfl ?_
    refine gJ_callV (As := [_]) b_X8_isOn lX9_124 i_X8_isOn s_X8_isOn dX9_silencedBy_19 (c8_isOn hq (V 1847)) (by first | with_reducible assumption | with_reducible exact gUp_s | with_reducible exact gUp_n (by with_reducible assumption) (by omega) | exact gUp_n (by assumption) (by omega) | exact gUp_s | assumption) rfl rfl (Nat.le_of_ble_eq_true rfl) rfl (by decide) (fun M19 v_ h19 => ?_)
    obtain ⟨e19, rfl⟩ := h19
    replace e19 := e19.symm
    subst e19
    refine gJ_if_eqB (tgt := 39) dX9_silencedBy_22 (by decide) (fun c22 => ?_) (fun c22 => ?_)
    · refine gJ_lconst (v := 0) dX9_silencedBy_39 (by decide) ?_
      refine gJ_lret dX9_silencedBy_40 rfl ?_
      refine ⟨rfl, ?_⟩
      rw [show lS (cSilB V k) 60 = 0 from lS_0 (fun a _ => by rw [cSilB, c22, Bool.false_and, Bool.and_false])]
    · refine gJ_aload_n dX9_silencedBy_25 rfl rfl ?_
      refine gJ_get fX9_12 dX9_silencedBy_26 (by first | with_reducible assumption | with_reducible exact gUp_s | with_reducible exact gUp_n (by with_reducible assumption) (by omega) | exact gUp_n (by assumption) (by omega) | exact gUp_s | assumption) rfl ?_
      refine gJ_aload_n dX9_silencedBy_29 rfl rfl ?_
      refine gJ_get fX9_130 dX9_silencedBy_30 (by first | with_reducible assumption | with_reducible exact gUp_s | with_reducible exact gUp_n (by with_reducible assumption) (by omega) | exact gUp_n (by assumption) (by omega) | exact gUp_s | assumption) rfl ?_
      refine gJ_callV (As := [_]) b_X7_matched lX9_134 i_X7_matched s_X7_matched dX9_silencedBy_33 (c7_matched h0 h8 mq (110 + 8 * k + 1) hm (hI.2.2.2.1 k hk).2) (by first | with_reducible assumption | with_reducible exact gUp_s | with_reducible exact gUp_n (by with_reducible assumption) (by omega) | exact gUp_n (by assumption) (by omega) | exact gUp_s | assumption) rfl rfl (Nat.le_of_ble_eq_true rfl) rfl (by decide) (fun M33 v_ h33 => ?_)
      obtain ⟨e33, rfl⟩ := h33
      replace e33 := e33.symm
      subst e33
      refine gJ_goto (tgt := 40) dX9_silencedBy_36 (by decide) ?_
      refine gJ_lret dX9_silencedBy_40 rfl ?_
      refine ⟨rfl, ?_⟩
      exact congrArg (fun z => some (Value.long z)) (lS_ext (fun a _ => by rw [cSilB, c22, hv]; rfl))
theorem c9_silenced (h : cR T M E s V S D) (hI : mI V) : gCon G kX9_silenced 2 0 0 M [.ref s] (fun M2 v => M2 = M ∧ v = some (.long (lS (cSild V) 60))) := by
  have hC := fun k hk => c9_silencedBy (G := G) h hI k hk
  obtain ⟨-, hs, -⟩ := h
  refine gCon_of (by decide) (Nat.le_of_ble_eq_true rfl) ?_
  have loop : ∀ (q k : Nat), k + q = 7 → k ≤ 6 → ∀ x : Int64, x = lS (fun a => (List.range k).any fun k => cSilB V k a) 60 →
      gJ G kX9_silenced 2 0 0 M 4 [(3, .int (nI k)), (1, .long x), (0, .ref s)] [] (gQ kX9_silenced (fun M2 v => M2 = M ∧ v = some (.long (lS (cSild V) 60)))) := by
    intro q
    induction q with
    | zero => intro k h1 h2; exact absurd h1 (by omega)
    | succ q ih =>
      intro k hq hk x hx
      refine gJ_iload_n dX9_silenced_4 rfl rfl ?_
      refine gJ_bipush (v := 6) dX9_silenced_5 (by decide) ?_
      refine gJ_icmp_geN (tgt := 24) (a := k) (b := 6) (by first | with_reducible rfl | rfl) (by first | with_reducible rfl | rfl) (by omega) (by omega) dX9_silenced_7 (by decide) (fun c7 => ?_) (fun c7 => ?_)
      · refine gJ_lload_n dX9_silenced_24 rfl rfl ?_
        refine gJ_lret dX9_silenced_25 rfl ?_
        refine ⟨rfl, ?_⟩
        rw [hx, show k = 6 by omega]
        rfl
      · refine gJ_lload_n dX9_silenced_10 rfl rfl ?_
        refine gJ_aload_n dX9_silenced_11 rfl rfl ?_
        refine gJ_iload_n dX9_silenced_12 rfl rfl ?_
        refine gJ_callV (As := [_]) b_X9_silencedBy lX9_138 i_X9_silencedBy s_X9_silencedBy dX9_silenced_13 (hC k (by omega)) (by first | with_reducible assumption | with_reducible exact gUp_s | with_reducible exact gUp_n (by with_reducible assumption) (by omega) | exact gUp_n (by assumption) (by omega) | exact gUp_s | assumption) rfl rfl (Nat.le_of_ble_eq_true rfl) rfl (by decide) (fun M13 v_ h13 => ?_)
        obtain ⟨e13, rfl⟩ := h13
        replace e13 := e13.symm
        subst e13
        refine gJ_lor dX9_silenced_16 ?_
        refine gJ_lstore_n (lv2 := [(1, _), (3, _), (0, _)]) dX9_silenced_17 rfl rfl rfl ?_
        refine gJ_iincN (a := k) (b := 1) (lv2 := [(3, _), (1, _), (0, _)]) dX9_silenced_18 rfl rfl rfl rfl ?_
        refine gJ_goto (tgt := 4) dX9_silenced_21 (by decide) ?_
        refine gJ_ls (ih (k + 1) (by omega) (by omega) _ ?_) ⟨rfl, rfl, rfl, trivial⟩
        rw [hx, lS_or]
        refine lS_ext (fun a _ => ?_)
        rw [List.range_succ, List.any_append]
        simp
  show gJ _ _ _ _ _ _ 0 [(0, _)] [] _
  refine gJ_lconst (v := 0) dX9_silenced_0 (by decide) ?_
  refine gJ_lstore_n (lv2 := [(1, _), (0, _)]) dX9_silenced_1 rfl rfl rfl ?_
  refine gJ_iconst (v := 0) dX9_silenced_2 (by decide) ?_
  refine gJ_istore_n (lv2 := [(3, _), (1, _), (0, _)]) dX9_silenced_3 rfl rfl rfl ?_
  exact gJ_ls (loop 7 0 (by omega) (by omega) _ (lS_0 (fun a _ => rfl)).symm) ⟨rfl, rfl, rfl, trivial⟩
theorem c9_lowestSilenceOf (h : cR T M E s V S D) (hI : mI V) (a : Nat) (ha : a < 60) (hp : V (60 + 10 * (a / 12)) = 1) : gCon G kX9_lowestSilenceOf 2 0 0 M [.ref s, .int (nI a)] (fun M2 v => M2 = M ∧ v = some (.int (mSilOf V a))) := by
  have hC := fun k hk => c9_silencedBy (G := G) h hI k hk
  obtain ⟨-, hs, ⟨X, RU, SI, IN, h0, h1, h2, h3, h4, h5, h6, h7, h8, hX, hR, hS, hN⟩, -⟩ := h
  have hok : ∀ k, k < 6 → V (110 + 8 * k) = 1 → cOk V (110 + 8 * k + 1) := by
    intro k hk hv
    rcases hS k hk with ⟨hv0, -⟩ | ⟨-, q, mq, -, -, -, hm⟩
    · rw [hv0] at hv; exact absurd hv (by decide)
    · exact cMat_ok hm
  have hb : ∀ k, k < 6 → lB (lS (cSilB V k) 60) a = mSil V a k := fun k hk => by rw [lS_b, decide_eq_true ha, Bool.true_and, cSilB_is hp (hok k hk)]
  refine gCon_of (by decide) (Nat.le_of_ble_eq_true rfl) ?_
  have loop : ∀ (q k : Nat), k + q = 7 → k ≤ 6 → (∀ i, i < k → mSil V a i = false) →
      gJ G kX9_lowestSilenceOf 2 0 0 M 2 [(2, .int (nI k)), (0, .ref s), (1, .int (nI a))] [] (gQ kX9_lowestSilenceOf (fun M2 v => M2 = M ∧ v = some (.int (mSilOf V a)))) := by
    intro q
    induction q with
    | zero => intro k h1 h2; exact absurd h1 (by omega)
    | succ q ih =>
      intro k hq hk hn
      refine gJ_iload_n dX9_lowestSilenceOf_2 rfl rfl ?_
      refine gJ_bipush (v := 6) dX9_lowestSilenceOf_3 (by decide) ?_
      refine gJ_icmp_geN (tgt := 28) (a := k) (b := 6) (by first | with_reducible rfl | rfl) (by first | with_reducible rfl | rfl) (by omega) (by omega) dX9_lowestSilenceOf_5 (by decide) (fun c5 => ?_) (fun c5 => ?_)
      · refine gJ_bipush (v := -5) dX9_lowestSilenceOf_28 (by decide) ?_
        refine gJ_iret dX9_lowestSilenceOf_30 rfl ?_
        refine ⟨rfl, ?_⟩
        rw [mSilOf, mFind_none (fun i hi => hn i (by omega))]
      · refine gJ_aload_n dX9_lowestSilenceOf_8 rfl rfl ?_
        refine gJ_iload_n dX9_lowestSilenceOf_9 rfl rfl ?_
        refine gJ_callV (As := [_]) b_X9_silencedBy lX9_138 i_X9_silencedBy s_X9_silencedBy dX9_lowestSilenceOf_10 (hC k (by omega)) (by first | with_reducible assumption | with_reducible exact gUp_s | with_reducible exact gUp_n (by with_reducible assumption) (by omega) | exact gUp_n (by assumption) (by omega) | exact gUp_s | assumption) rfl rfl (Nat.le_of_ble_eq_true rfl) rfl (by decide) (fun M10 v_ h10 => ?_)
        obtain ⟨e10, rfl⟩ := h10
        replace e10 := e10.symm
        subst e10
        refine gJ_iload_n dX9_lowestSilenceOf_13 rfl rfl ?_
        refine gJ_callSN (As := [_, _]) b_X11_has lX9_142 i_X11_has dX9_lowestSilenceOf_14 (c11_has _ a (by omega)) rfl (Nat.le_of_ble_eq_true rfl) rfl (by decide) (fun M14 v_ h14 => ?_)
        obtain ⟨e14, rfl⟩ := h14
        replace e14 := e14.symm
        subst e14
        rw [hb k (by omega)]
        refine gJ_if_eqB (tgt := 22) dX9_lowestSilenceOf_17 (by decide) (fun c17 => ?_) (fun c17 => ?_)
        · refine gJ_iincN (a := k) (b := 1) (lv2 := [(2, _), (0, _), (1, _)]) dX9_lowestSilenceOf_22 rfl rfl rfl rfl ?_
          refine gJ_goto (tgt := 2) dX9_lowestSilenceOf_25 (by decide) ?_
          refine gJ_ls (ih (k + 1) (by omega) (by omega) (fun i hi => ?_)) ⟨rfl, rfl, rfl, trivial⟩
          rcases Nat.lt_succ_iff_lt_or_eq.mp hi with h | rfl
          · exact hn i h
          · exact c17
        · refine gJ_iload_n dX9_lowestSilenceOf_20 rfl rfl ?_
          refine gJ_iret dX9_lowestSilenceOf_21 rfl ?_
          refine ⟨rfl, ?_⟩
          rw [mSilOf, mFind_hit (by omega) c17 hn]
  show gJ _ _ _ _ _ _ 0 [(0, _), (1, _)] [] _
  refine gJ_iconst (v := 0) dX9_lowestSilenceOf_0 (by decide) ?_
  refine gJ_istore_n (lv2 := [(2, _), (0, _), (1, _)]) dX9_lowestSilenceOf_1 rfl rfl rfl ?_
  exact gJ_ls (loop 7 0 (by omega) (by omega) (fun i hi => absurd hi (by omega))) ⟨rfl, rfl, rfl, trivial⟩
theorem c9_windowStart (h : cR T M E s V S D) : gCon G kX9_windowStart 0 0 0 M [.ref s] (fun M2 v => M2 = M ∧ v = some (.int (V 1847 - V 1844))) := by
  obtain ⟨-, hs, ⟨X, RU, SI, IN, h0, h1, h2, h3, h4, h5, h6, h7, h8, hX, hR, hS, hN⟩, -⟩ := h
  have p2 : cPar V 2 = V 1844 := cPar_at (by decide)
  refine gCon_of (by decide) (Nat.le_of_ble_eq_true rfl) ?_
  show gJ _ _ _ _ _ _ 0 [(0, _)] [] _
  refine gJ_aload_n dX9_windowStart_0 rfl rfl ?_
  refine gJ_get fX9_39 dX9_windowStart_1 (by first | with_reducible assumption | with_reducible exact gUp_s | with_reducible exact gUp_n (by with_reducible assumption) (by omega) | exact gUp_n (by assumption) (by omega) | exact gUp_s | assumption) rfl ?_
  refine gJ_aload_n dX9_windowStart_4 rfl rfl ?_
  refine gJ_get fX9_12 dX9_windowStart_5 (by first | with_reducible assumption | with_reducible exact gUp_s | with_reducible exact gUp_n (by with_reducible assumption) (by omega) | exact gUp_n (by assumption) (by omega) | exact gUp_s | assumption) rfl ?_
  refine gJ_get fX9_173 dX9_windowStart_8 (by first | with_reducible assumption | with_reducible exact gUp_s | with_reducible exact gUp_n (by with_reducible assumption) (by omega) | exact gUp_n (by assumption) (by omega) | exact gUp_s | assumption) rfl ?_
  refine gJ_iconst (v := 2) dX9_windowStart_11 (by decide) ?_
  refine gJ_ialdN (j := 2) dX9_windowStart_12 (by first | with_reducible assumption | with_reducible exact gUp_s | with_reducible exact gUp_n (by with_reducible assumption) (by omega) | exact gUp_n (by assumption) (by omega) | exact gUp_s | assumption) (by first | with_reducible rfl | rfl) (by omega) (by decide) ?_
  rw [p2]
  refine gJ_isub dX9_windowStart_13 ?_
  refine gJ_iret dX9_windowStart_14 rfl ?_
  exact ⟨rfl, rfl⟩
theorem cLate_fl {V : Nat → Int32} {a : Nat} : cLate V (V 1847 - V 1844) a = mFlaps V a := rfl
theorem c9_flapping (h : cR T M E s V S D) (hT : T ≤ 200000) (P : Nat → Bool) : gCon G kX9_flapping 2 0 0 M [.ref s, .long (lS P 60)] (fun M2 v => M2 = M ∧ v = some (.long (lS (fun a => P a && mFlapping V a) 60))) := by
  have hw := c9_windowStart (G := G) h
  obtain ⟨-, hs, ⟨X, RU, SI, IN, h0, h1, h2, h3, h4, h5, h6, h7, h8, hX, hR, hS, hN⟩, hA, -⟩ := h
  have hF := c0_flapping (G := G) hA (fun _ _ => hT) (V 1847 - V 1844) (V 1845) P
  obtain ⟨o, ho⟩ : ∃ o, M.1 (s + 10) = some (gO 0 o) := by obtain ⟨X, R, C, h0, -⟩ := hA; exact ⟨_, h0⟩
  have p3 : cPar V 3 = V 1845 := cPar_at (by decide)
  refine gCon_of (by decide) (Nat.le_of_ble_eq_true rfl) ?_
  show gJ _ _ _ _ _ _ 0 [(0, _), (1, _)] [] _
  refine gJ_aload_n dX9_flapping_0 rfl rfl ?_
  refine gJ_get fX9_21 dX9_flapping_1 (by first | with_reducible assumption | with_reducible exact gUp_s | with_reducible exact gUp_n (by with_reducible assumption) (by omega) | exact gUp_n (by assumption) (by omega) | exact gUp_s | assumption) rfl ?_
  refine gJ_lload_n dX9_flapping_4 rfl rfl ?_
  refine gJ_aload_n dX9_flapping_5 rfl rfl ?_
  refine gJ_callV (As := []) b_X9_windowStart lX9_177 i_X9_windowStart s_X9_windowStart dX9_flapping_6 (hw) (by first | with_reducible assumption | with_reducible exact gUp_s | with_reducible exact gUp_n (by with_reducible assumption) (by omega) | exact gUp_n (by assumption) (by omega) | exact gUp_s | assumption) rfl rfl (Nat.le_of_ble_eq_true rfl) rfl (by decide) (fun M6 v_ h6 => ?_)
  obtain ⟨e_, rfl⟩ := h6
  replace e_ := e_.symm
  subst e_
  refine gJ_aload_n dX9_flapping_9 rfl rfl ?_
  refine gJ_get fX9_12 dX9_flapping_10 (by first | with_reducible assumption | with_reducible exact gUp_s | with_reducible exact gUp_n (by with_reducible assumption) (by omega) | exact gUp_n (by assumption) (by omega) | exact gUp_s | assumption) rfl ?_
  refine gJ_get fX9_173 dX9_flapping_13 (by first | with_reducible assumption | with_reducible exact gUp_s | with_reducible exact gUp_n (by with_reducible assumption) (by omega) | exact gUp_n (by assumption) (by omega) | exact gUp_s | assumption) rfl ?_
  refine gJ_iconst (v := 3) dX9_flapping_16 (by decide) ?_
  refine gJ_ialdN (j := 3) dX9_flapping_17 (by first | with_reducible assumption | with_reducible exact gUp_s | with_reducible exact gUp_n (by with_reducible assumption) (by omega) | exact gUp_n (by assumption) (by omega) | exact gUp_s | assumption) (by first | with_reducible rfl | rfl) (by omega) (by decide) ?_
  rw [p3]
  refine gJ_callV (As := [_, _, _]) b_X0_flapping lX9_180 i_X0_flapping s_X0_flapping dX9_flapping_18 (hF) ho rfl rfl (Nat.le_of_ble_eq_true rfl) rfl (by decide) (fun M18 v_ h18 => ?_)
  obtain ⟨e18, rfl⟩ := h18
  replace e18 := e18.symm
  subst e18
  refine gJ_lret dX9_flapping_21 rfl ?_
  exact ⟨rfl, rfl⟩
end CLS
