/-! THE CLASS' TAPE at p: bytes p+1 -/
def cTp (p t : Nat) (s : zP) : gE := gO 9 [.ref (p + 1), .int (nI t), .int (nI s.1), .int (gb s.2)]
def zSk (T : Nat → Int32) (t : Nat) (c : Int32) (s : zP) : zP := if zH T t s = c then (s.1 + 1, s.2) else s
def zEnd (t : Nat) (s : zP) : zP := if s.1 < t then (s.1, true) else s
theorem zSk_le {T : Nat → Int32} {t : Nat} {c : Int32} {s : zP} (hc : c ≠ -1) (h : s.1 ≤ t) : (zSk T t c s).1 ≤ t := by
  unfold zSk
  split
  · have e : zH T t s = c := by assumption
    exact (zH_lt (s := s) (by rw [e]; exact hc)).1
  · exact h
def cLof (c : Int32) : Int32 := if zL true c = 4 then -5 else nI (zL true c)
section TAPE
variable {G : gG} {M : gM} {p t : Nat} {T : Nat → Int32} {s s2 : zP}
theorem cTp_go {k : gMd} {d nc ns pc t2 : Nat} {lv : List (Nat × Value)} {st : List Value} {Q : gP} (kk : gJ G k d nc ns (gUp M p (cTp p t2 s2)) pc lv st Q) : gJ G k d nc ns (gUp M p (cTp p t2 s2)) pc lv st Q := kk
theorem c10_peek (ht : t ≤ 60) (hs : s.1 ≤ t) (hm : M.1 p = some (cTp p t s)) (hT : M.1 (p + 1) = some (gI 60 T)) : gCon G kX10_peek 0 0 0 M [.ref p] (fun M2 v => M2 = M ∧ v = some (.int (zH T t s))) := by
  obtain ⟨a, w⟩ := s
  have ha : a ≤ t := hs
  refine gCon_of (by decide) (Nat.le_of_ble_eq_true rfl) ?_
  cases w with
  | true =>
    rw [zH_w]
    show gJ _ _ _ _ _ _ 0 [(0, _)] [] _
    refine gJ_aload_n dX10_peek_0 rfl rfl ?_
    refine gJ_get fX10_22 dX10_peek_1 (by first | with_reducible assumption | with_reducible exact gUp_s | with_reducible exact gUp_n (by with_reducible assumption) (by omega) | exact gUp_n (by assumption) (by omega) | exact gUp_s | assumption) rfl ?_
    refine gJ_if_neB (tgt := 39) dX10_peek_4 (by decide) (fun _ => ?_) (fun c_ => by exfalso; cases c_)
    refine gJ_iconst (v := -1) dX10_peek_39 (by decide) ?_
    refine gJ_iret dX10_peek_40 rfl ?_
    exact ⟨rfl, rfl⟩
  | false =>
    show gJ _ _ _ _ _ _ 0 [(0, _)] [] _
    refine gJ_aload_n dX10_peek_0 rfl rfl ?_
    refine gJ_get fX10_22 dX10_peek_1 (by first | with_reducible assumption | with_reducible exact gUp_s | with_reducible exact gUp_n (by with_reducible assumption) (by omega) | exact gUp_n (by assumption) (by omega) | exact gUp_s | assumption) rfl ?_
    refine gJ_if_neB (tgt := 39) dX10_peek_4 (by decide) (fun c_ => by exfalso; cases c_) (fun _ => ?_)
    refine gJ_aload_n dX10_peek_7 rfl rfl ?_
    refine gJ_get fX10_19 dX10_peek_8 (by first | with_reducible assumption | with_reducible exact gUp_s | with_reducible exact gUp_n (by with_reducible assumption) (by omega) | exact gUp_n (by assumption) (by omega) | exact gUp_s | assumption) rfl ?_
    refine gJ_aload_n dX10_peek_11 rfl rfl ?_
    refine gJ_get fX10_15 dX10_peek_12 (by first | with_reducible assumption | with_reducible exact gUp_s | with_reducible exact gUp_n (by with_reducible assumption) (by omega) | exact gUp_n (by assumption) (by omega) | exact gUp_s | assumption) rfl ?_
    refine gJ_icmp_geN (tgt := 39) (a := a) (b := t) (by first | with_reducible rfl | rfl) (by first | with_reducible rfl | rfl) (by omega) (by omega) dX10_peek_15 (by decide) (fun c15 => ?_) (fun c15 => ?_)
    · refine gJ_iconst (v := -1) dX10_peek_39 (by decide) ?_
      refine gJ_iret dX10_peek_40 rfl ?_
      refine ⟨rfl, ?_⟩
      rw [zH, if_neg (fun h => absurd h.2 (Nat.not_lt.mpr c15))]
    · refine gJ_aload_n dX10_peek_18 rfl rfl ?_
      refine gJ_get fX10_19 dX10_peek_19 (by first | with_reducible assumption | with_reducible exact gUp_s | with_reducible exact gUp_n (by with_reducible assumption) (by omega) | exact gUp_n (by assumption) (by omega) | exact gUp_s | assumption) rfl ?_
      refine gJ_bipush (v := 60) dX10_peek_22 (by decide) ?_
      refine gJ_icmp_geN (tgt := 39) (a := a) (b := 60) (by first | with_reducible rfl | rfl) (by first | with_reducible rfl | rfl) (by omega) (by omega) dX10_peek_24 (by decide) (fun c_ => by exfalso; omega) (fun _ => ?_)
      refine gJ_aload_n dX10_peek_27 rfl rfl ?_
      refine gJ_get fX10_11 dX10_peek_28 (by first | with_reducible assumption | with_reducible exact gUp_s | with_reducible exact gUp_n (by with_reducible assumption) (by omega) | exact gUp_n (by assumption) (by omega) | exact gUp_s | assumption) rfl ?_
      refine gJ_aload_n dX10_peek_31 rfl rfl ?_
      refine gJ_get fX10_19 dX10_peek_32 (by first | with_reducible assumption | with_reducible exact gUp_s | with_reducible exact gUp_n (by with_reducible assumption) (by omega) | exact gUp_n (by assumption) (by omega) | exact gUp_s | assumption) rfl ?_
      refine gJ_ialdN (j := a) dX10_peek_35 (by first | with_reducible assumption | with_reducible exact gUp_s | with_reducible exact gUp_n (by with_reducible assumption) (by omega) | exact gUp_n (by assumption) (by omega) | exact gUp_s | assumption) (by first | with_reducible rfl | rfl) (by omega) (by decide) ?_
      refine gJ_goto (tgt := 40) dX10_peek_36 (by decide) ?_
      refine gJ_iret dX10_peek_40 rfl ?_
      refine ⟨rfl, ?_⟩
      rw [zH, if_pos ⟨rfl, Nat.not_le.mp c15⟩]
theorem c10_skip (ht : t ≤ 60) (hs : s.1 ≤ t) (hm : M.1 p = some (cTp p t s)) (hT : M.1 (p + 1) = some (gI 60 T)) (c : Int32) : gCon G kX10_skip 1 0 0 M [.ref p, .int c] (fun M2 v => M2 = gUp M p (cTp p t (zSk T t c s)) ∧ v = some (.int (gb (decide (zH T t s = c))))) := by
  refine gCon_of (by decide) (Nat.le_of_ble_eq_true rfl) ?_
  show gJ _ _ _ _ _ _ 0 [(0, _), (1, _)] [] _
  refine gJ_aload_n dX10_skip_0 rfl rfl ?_
  refine gJ_callV (As := []) b_X10_peek lX10_37 i_X10_peek s_X10_peek dX10_skip_1 (c10_peek ht hs hm hT) (by first | with_reducible assumption | with_reducible exact gUp_s | with_reducible exact gUp_n (by with_reducible assumption) (by omega) | exact gUp_n (by assumption) (by omega) | exact gUp_s | assumption) rfl rfl (Nat.le_of_ble_eq_true rfl) rfl (by decide) (fun M1 v_ h1 => ?_)
  obtain ⟨e1, rfl⟩ := h1
  replace e1 := e1.symm
  subst e1
  refine gJ_iload_n dX10_skip_4 rfl rfl ?_
  refine gJ_icmp_eq (tgt := 10) dX10_skip_5 (by decide) (fun c5 => ?_) (fun c5 => ?_)
  · refine gJ_aload_n dX10_skip_10 rfl rfl ?_
    refine gJ_dup dX10_skip_11 rfl ?_
    refine gJ_get fX10_19 dX10_skip_12 (by first | with_reducible assumption | with_reducible exact gUp_s | with_reducible exact gUp_n (by with_reducible assumption) (by omega) | exact gUp_n (by assumption) (by omega) | exact gUp_s | assumption) rfl ?_
    refine gJ_iconst (v := 1) dX10_skip_15 (by decide) ?_
    refine gJ_iaddN (a := s.1) (b := 1) dX10_skip_16 (by first | with_reducible rfl | rfl) (by first | with_reducible rfl | rfl) ?_
    refine gJ_put fX10_19 dX10_skip_17 (by first | with_reducible assumption | with_reducible exact gUp_s | with_reducible exact gUp_n (by with_reducible assumption) (by omega) | exact gUp_n (by assumption) (by omega) | exact gUp_s | assumption) rfl rfl (Nat.le_of_ble_eq_true rfl) ?_
    refine gJ_iconst (v := 1) dX10_skip_20 (by decide) ?_
    refine gJ_zret dX10_skip_21 rfl (by first | exact gz0 | exact gz1 | exact gb01 _) ?_
    rw [zSk, if_pos c5, decide_eq_true c5]
    exact ⟨rfl, rfl⟩
  · refine gJ_iconst (v := 0) dX10_skip_8 (by decide) ?_
    refine gJ_zret dX10_skip_9 rfl (by first | exact gz0 | exact gz1 | exact gb01 _) ?_
    rw [zSk, if_neg c5, decide_eq_false c5, gUp_id hm]
    exact ⟨rfl, rfl⟩
theorem c10_expect (ht : t ≤ 60) (hs : s.1 ≤ t) (hm : M.1 p = some (cTp p t s)) (hT : M.1 (p + 1) = some (gI 60 T)) (c : Int32) : gCon G kX10_expect 2 0 0 M [.ref p, .int c] (fun M2 v => M2 = gUp M p (cTp p t (zEx T t c s)) ∧ v = none) := by
  refine gCon_of (by decide) (Nat.le_of_ble_eq_true rfl) ?_
  show gJ _ _ _ _ _ _ 0 [(0, _), (1, _)] [] _
  refine gJ_aload_n dX10_expect_0 rfl rfl ?_
  refine gJ_iload_n dX10_expect_1 rfl rfl ?_
  refine gJ_callV (As := [_]) b_X10_skip lX10_41 i_X10_skip s_X10_skip dX10_expect_2 (c10_skip ht hs hm hT c) (by first | with_reducible assumption | with_reducible exact gUp_s | with_reducible exact gUp_n (by with_reducible assumption) (by omega) | exact gUp_n (by assumption) (by omega) | exact gUp_s | assumption) rfl rfl (Nat.le_of_ble_eq_true rfl) rfl (by decide) (fun M2 v_ h2 => ?_)
  obtain ⟨e2, rfl⟩ := h2
  replace e2 := e2.symm
  subst e2
  refine gJ_if_neB (tgt := 13) dX10_expect_5 (by decide) (fun c5 => ?_) (fun c5 => ?_)
  · refine gJ_vret dX10_expect_13 rfl ?_
    have c5' := of_decide_eq_true c5
    rw [zSk, if_pos c5', zEx, if_pos c5']
    exact ⟨rfl, rfl⟩
  · refine gJ_aload_n dX10_expect_8 rfl rfl ?_
    refine gJ_iconst (v := 1) dX10_expect_9 (by decide) ?_
    refine gJ_put fX10_22 dX10_expect_10 (by first | with_reducible assumption | with_reducible exact gUp_s | with_reducible exact gUp_n (by with_reducible assumption) (by omega) | exact gUp_n (by assumption) (by omega) | exact gUp_s | assumption) rfl rfl (Nat.le_of_ble_eq_true rfl) ?_
    refine gJ_vret dX10_expect_13 rfl ?_
    have c5' := of_decide_eq_false c5
    rw [gUp_up, zEx, if_neg c5']
    refine ⟨?_, rfl⟩
    rw [zSk, if_neg c5']
    rfl
theorem c10_readDigit (ht : t ≤ 60) (hB : zB T) (hs : s.1 ≤ t) (hm : M.1 p = some (cTp p t s)) (hT : M.1 (p + 1) = some (gI 60 T)) (mo : Nat) (hmo : mo ≤ 9) : gCon G kX10_readDigit 1 0 0 M [.ref p, .int (nI mo)] (fun M2 v => M2 = gUp M p (cTp p t (zDg T t mo s).2) ∧ v = some (.int (nI (zDg T t mo s).1))) := by
  have hin := zDg_in (t := t) (s := s) hB hmo
  refine gCon_of (by decide) (Nat.le_of_ble_eq_true rfl) ?_
  show gJ _ _ _ _ _ _ 0 [(0, _), (1, _)] [] _
  refine gJ_aload_n dX10_readDigit_0 rfl rfl ?_
  refine gJ_callV (As := []) b_X10_peek lX10_37 i_X10_peek s_X10_peek dX10_readDigit_1 (c10_peek ht hs hm hT) (by first | with_reducible assumption | with_reducible exact gUp_s | with_reducible exact gUp_n (by with_reducible assumption) (by omega) | exact gUp_n (by assumption) (by omega) | exact gUp_s | assumption) rfl rfl (Nat.le_of_ble_eq_true rfl) rfl (by decide) (fun M1 v_ h1 => ?_)
  obtain ⟨e1, rfl⟩ := h1
  replace e1 := e1.symm
  subst e1
  refine gJ_bipush (v := 48) dX10_readDigit_4 (by decide) ?_
  refine gJ_isub dX10_readDigit_6 ?_
  refine gJ_istore_n (lv2 := [(2, _), (0, _), (1, _)]) dX10_readDigit_7 rfl rfl rfl ?_
  refine gJ_iload_n dX10_readDigit_8 rfl rfl ?_
  refine gJ_if_lt (tgt := 17) dX10_readDigit_9 (by decide) (fun c9 => ?_) (fun c9 => ?_)
  · refine gJ_aload_n dX10_readDigit_17 rfl rfl ?_
    refine gJ_iconst (v := 1) dX10_readDigit_18 (by decide) ?_
    refine gJ_put fX10_22 dX10_readDigit_19 (by first | with_reducible assumption | with_reducible exact gUp_s | with_reducible exact gUp_n (by with_reducible assumption) (by omega) | exact gUp_n (by assumption) (by omega) | exact gUp_s | assumption) rfl rfl (Nat.le_of_ble_eq_true rfl) ?_
    refine gJ_iconst (v := 0) dX10_readDigit_22 (by decide) ?_
    refine gJ_iret dX10_readDigit_23 rfl ?_
    have hc : ¬ (48 ≤ zN T t s ∧ zN T t s ≤ 48 + mo) := by rw [mIn, decide_eq_false (Int32.not_le.mpr c9), Bool.false_and] at hin; exact of_decide_eq_false hin.symm
    rw [zDg, if_neg hc]
    exact ⟨rfl, rfl⟩
  · refine gJ_iload_n dX10_readDigit_12 rfl rfl ?_
    refine gJ_iload_n dX10_readDigit_13 rfl rfl ?_
    refine gJ_icmp_le (tgt := 24) dX10_readDigit_14 (by decide) (fun c14 => ?_) (fun c14 => ?_)
    · refine gJ_aload_n dX10_readDigit_24 rfl rfl ?_
      refine gJ_dup dX10_readDigit_25 rfl ?_
      refine gJ_get fX10_19 dX10_readDigit_26 (by first | with_reducible assumption | with_reducible exact gUp_s | with_reducible exact gUp_n (by with_reducible assumption) (by omega) | exact gUp_n (by assumption) (by omega) | exact gUp_s | assumption) rfl ?_
      refine gJ_iconst (v := 1) dX10_readDigit_29 (by decide) ?_
      refine gJ_iaddN (a := s.1) (b := 1) dX10_readDigit_30 (by first | with_reducible rfl | rfl) (by first | with_reducible rfl | rfl) ?_
      refine gJ_put fX10_19 dX10_readDigit_31 (by first | with_reducible assumption | with_reducible exact gUp_s | with_reducible exact gUp_n (by with_reducible assumption) (by omega) | exact gUp_n (by assumption) (by omega) | exact gUp_s | assumption) rfl rfl (Nat.le_of_ble_eq_true rfl) ?_
      refine gJ_iload_n dX10_readDigit_34 rfl rfl ?_
      refine gJ_iret dX10_readDigit_35 rfl ?_
      have hc : 48 ≤ zN T t s ∧ zN T t s ≤ 48 + mo := by rw [mIn, decide_eq_true (Int32.not_lt.mp c9), decide_eq_true c14] at hin; exact of_decide_eq_true hin.symm
      rw [zDg, if_pos hc]
      exact ⟨rfl, by rw [zDg_v hB hc.1]⟩
    · refine gJ_aload_n dX10_readDigit_17 rfl rfl ?_
      refine gJ_iconst (v := 1) dX10_readDigit_18 (by decide) ?_
      refine gJ_put fX10_22 dX10_readDigit_19 (by first | with_reducible assumption | with_reducible exact gUp_s | with_reducible exact gUp_n (by with_reducible assumption) (by omega) | exact gUp_n (by assumption) (by omega) | exact gUp_s | assumption) rfl rfl (Nat.le_of_ble_eq_true rfl) ?_
      refine gJ_iconst (v := 0) dX10_readDigit_22 (by decide) ?_
      refine gJ_iret dX10_readDigit_23 rfl ?_
      have hc : ¬ (48 ≤ zN T t s ∧ zN T t s ≤ 48 + mo) := by rw [mIn, decide_eq_false c14, Bool.and_false] at hin; exact of_decide_eq_false hin.symm
      rw [zDg, if_neg hc]
      exact ⟨rfl, rfl⟩
theorem zN_ge {T : Nat → Int32} {t : Nat} {s : zP} (hB : zB T) : (zH T t s < 48 ↔ ¬ 48 ≤ zN T t s) ∧ (zH T t s ≤ 57 ↔ zN T t s ≤ 57) := by
  rcases zH_v (t := t) (s := s) hB with h | ⟨b, hb, h⟩
  · rw [zN, h]; decide
  · rw [zN, h, nI_clamp (by omega)]
    refine ⟨?_, nI_leI (b := 57) (by omega) (by decide)⟩
    exact (nI_ltI (b := 48) (by omega) (by decide)).trans (by omega)
set_option maxRecDepth 20000 in
theorem c10_readNumber (ht : t ≤ 60) (hB : zB T) (hs : s.1 ≤ t) (hm : M.1 p = some (cTp p t s)) (hT : M.1 (p + 1) = some (gI 60 T)) : gCon G kX10_readNumber 2 0 0 M [.ref p] (fun M2 v => M2 = gUp M p (cTp p t (zNm T t s).2) ∧ v = some (.int (nI (zNm T t s).1))) := by
  refine gCon_of (by decide) (Nat.le_of_ble_eq_true rfl) ?_
  have loop : ∀ (R : Nat × zP) (q j : Nat), j + q = 4 → 1 ≤ j → ∀ (n : Nat) (b : zP), b.1 ≤ t → n < 10 ^ j → zNmL T t q (n, b) = R →
      gJ G kX10_readNumber 2 0 0 (gUp M p (cTp p t b)) 9 [(2, .int (nI j)), (1, .int (nI n)), (0, .ref p)] [] (gQ kX10_readNumber (fun M2 v => M2 = gUp M p (cTp p t R.2) ∧ v = some (.int (nI R.1)))) := by
    intro R q
    induction q with
    | zero =>
      intro j hj hj1 n b hb hn hr
      subst hr
      have hj4 : j = 4 := by omega
      subst hj4
      refine gJ_iload_n dX10_readNumber_9 rfl rfl ?_
      refine gJ_iconst (v := 4) dX10_readNumber_10 (by decide) ?_
      refine gJ_icmp_geN (tgt := 57) (a := 4) (b := 4) (by first | with_reducible rfl | rfl) (by first | with_reducible rfl | rfl) (by omega) (by omega) dX10_readNumber_11 (by decide) (fun _ => ?_) (fun c_ => by exfalso; omega)
      refine gJ_iload_n dX10_readNumber_57 rfl rfl ?_
      refine gJ_iret dX10_readNumber_58 rfl ?_
      exact ⟨rfl, rfl⟩
    | succ q ih =>
      intro j hj hj1 n b hb hn hr
      have hn2 : n < 10000 := Nat.lt_of_lt_of_le hn (Nat.pow_le_pow_right (n := 10) (by decide) (by omega : j ≤ 4))
      have hpow : 10 ^ (j + 1) = 10 * 10 ^ j := by rw [Nat.pow_succ, Nat.mul_comm]
      have hge := zN_ge (t := t) (s := b) hB
      have hTU : (gUp M p (cTp p t b)).1 (p + 1) = some (gI 60 T) := gUp_n hT (by omega)
      rw [zNmL] at hr
      refine gJ_iload_n dX10_readNumber_9 rfl rfl ?_
      refine gJ_iconst (v := 4) dX10_readNumber_10 (by decide) ?_
      refine gJ_icmp_geN (tgt := 57) (a := j) (b := 4) (by first | with_reducible rfl | rfl) (by first | with_reducible rfl | rfl) (by omega) (by omega) dX10_readNumber_11 (by decide) (fun c_ => by exfalso; omega) (fun _ => ?_)
      refine gJ_iload_n dX10_readNumber_14 rfl rfl ?_
      refine gJ_if_eqN (tgt := 57) (a := n) (by first | with_reducible rfl | rfl) (by omega) dX10_readNumber_15 (by decide) (fun c15 => ?_) (fun c15 => ?_)
      · refine gJ_iload_n dX10_readNumber_57 rfl rfl ?_
        refine gJ_iret dX10_readNumber_58 rfl ?_
        rw [if_neg (fun h => h.1 (by omega))] at hr
        subst hr
        exact ⟨rfl, rfl⟩
      · refine gJ_aload_n dX10_readNumber_18 rfl rfl ?_
        refine gJ_callV (As := []) b_X10_peek lX10_37 i_X10_peek s_X10_peek dX10_readNumber_19 (c10_peek ht hb gUp_s hTU) (by first | with_reducible assumption | with_reducible exact gUp_s | with_reducible exact gUp_n (by with_reducible assumption) (by omega) | exact gUp_n (by assumption) (by omega) | exact gUp_s | assumption) rfl rfl (Nat.le_of_ble_eq_true rfl) rfl (by decide) (fun M19 v_ h19 => ?_)
        obtain ⟨e_, rfl⟩ := h19
        replace e_ := e_.symm
        subst e_
        refine gJ_bipush (v := 48) dX10_readNumber_22 (by decide) ?_
        refine gJ_icmp_lt (tgt := 57) dX10_readNumber_24 (by decide) (fun c24 => ?_) (fun c24 => ?_)
        · refine gJ_iload_n dX10_readNumber_57 rfl rfl ?_
          refine gJ_iret dX10_readNumber_58 rfl ?_
          rw [if_neg (fun h => hge.1.mp c24 h.2.1)] at hr
          subst hr
          exact ⟨rfl, rfl⟩
        · refine gJ_aload_n dX10_readNumber_27 rfl rfl ?_
          refine gJ_callV (As := []) b_X10_peek lX10_37 i_X10_peek s_X10_peek dX10_readNumber_28 (c10_peek ht hb gUp_s hTU) (by first | with_reducible assumption | with_reducible exact gUp_s | with_reducible exact gUp_n (by with_reducible assumption) (by omega) | exact gUp_n (by assumption) (by omega) | exact gUp_s | assumption) rfl rfl (Nat.le_of_ble_eq_true rfl) rfl (by decide) (fun M28 v_ h28 => ?_)
          obtain ⟨e_, rfl⟩ := h28
          replace e_ := e_.symm
          subst e_
          refine gJ_bipush (v := 57) dX10_readNumber_31 (by decide) ?_
          refine gJ_icmp_le (tgt := 39) dX10_readNumber_33 (by decide) (fun c33 => ?_) (fun c33 => ?_)
          · refine gJ_bipush (v := 10) dX10_readNumber_39 (by decide) ?_
            refine gJ_iload_n dX10_readNumber_41 rfl rfl ?_
            refine gJ_imulN (a := 10) (b := n) dX10_readNumber_42 (by first | with_reducible rfl | rfl) (by first | with_reducible rfl | rfl) ?_
            refine gJ_aload_n dX10_readNumber_43 rfl rfl ?_
            refine gJ_bipush (v := 9) dX10_readNumber_44 (by decide) ?_
            refine gJ_callV (As := [_]) b_X10_readDigit lX10_55 i_X10_readDigit s_X10_readDigit dX10_readNumber_46 (c10_readDigit ht hB hb gUp_s hTU 9 (by decide)) (by first | with_reducible assumption | with_reducible exact gUp_s | with_reducible exact gUp_n (by with_reducible assumption) (by omega) | exact gUp_n (by assumption) (by omega) | exact gUp_s | assumption) rfl rfl (Nat.le_of_ble_eq_true rfl) rfl (by decide) (fun M46 v_ h46 => ?_)
            obtain ⟨e_, rfl⟩ := h46
            replace e_ := e_.symm
            rw [gUp_up] at e_
            subst e_
            refine gJ_iaddN (a := (10 * n)) (b := (zDg T t 9 b).1) dX10_readNumber_49 (by first | with_reducible rfl | rfl) (by first | with_reducible rfl | rfl) ?_
            refine gJ_istore_n (lv2 := [(1, _), (2, _), (0, _)]) dX10_readNumber_50 rfl rfl rfl ?_
            refine gJ_iincN (a := j) (b := 1) (lv2 := [(2, _), (1, _), (0, _)]) dX10_readNumber_51 rfl rfl rfl rfl ?_
            refine gJ_goto (tgt := 9) dX10_readNumber_54 (by decide) ?_
            have h1_ : 48 ≤ zN T t b := Classical.byContradiction (fun h => c24 (hge.1.mpr h))
            have h2_ := hge.2.mp c33
            rw [if_pos ⟨by omega, h1_, h2_⟩] at hr
            have hd := zDg_m (T := T) (t := t) (m := 9) (s := b)
            exact gJ_ls (ih (j + 1) (by omega) (by omega) (10 * n + (zDg T t 9 b).1) (zDg T t 9 b).2 (zDg_le hb) (by omega) hr) ⟨rfl, rfl, rfl, trivial⟩
          · refine gJ_goto (tgt := 57) dX10_readNumber_36 (by decide) ?_
            refine gJ_iload_n dX10_readNumber_57 rfl rfl ?_
            refine gJ_iret dX10_readNumber_58 rfl ?_
            rw [if_neg (fun h => c33 (hge.2.mpr h.2.2))] at hr
            subst hr
            exact ⟨rfl, rfl⟩
  show gJ _ _ _ _ _ _ 0 [(0, _)] [] _
  refine gJ_aload_n dX10_readNumber_0 rfl rfl ?_
  refine gJ_bipush (v := 9) dX10_readNumber_1 (by decide) ?_
  refine gJ_callV (As := [_]) b_X10_readDigit lX10_55 i_X10_readDigit s_X10_readDigit dX10_readNumber_3 (c10_readDigit ht hB hs hm hT 9 (by decide)) (by first | with_reducible assumption | with_reducible exact gUp_s | with_reducible exact gUp_n (by with_reducible assumption) (by omega) | exact gUp_n (by assumption) (by omega) | exact gUp_s | assumption) rfl rfl (Nat.le_of_ble_eq_true rfl) rfl (by decide) (fun M3 v_ h3 => ?_)
  obtain ⟨e3, rfl⟩ := h3
  replace e3 := e3.symm
  subst e3
  refine gJ_istore_n (lv2 := [(1, _), (0, _)]) dX10_readNumber_6 rfl rfl rfl ?_
  refine gJ_iconst (v := 1) dX10_readNumber_7 (by decide) ?_
  refine gJ_istore_n (lv2 := [(2, _), (1, _), (0, _)]) dX10_readNumber_8 rfl rfl rfl ?_
  have hd := zDg_m (T := T) (t := t) (m := 9) (s := s)
  exact gJ_ls (loop (zNm T t s) 3 1 (by omega) (by omega) (zDg T t 9 s).1 (zDg T t 9 s).2 (zDg_le hs) (by omega) rfl) ⟨rfl, rfl, rfl, trivial⟩
theorem c10_expectEnd (ht : t ≤ 60) (hs : s.1 ≤ t) (hm : M.1 p = some (cTp p t s)) : gCon G kX10_expectEnd 0 0 0 M [.ref p] (fun M2 v => M2 = gUp M p (cTp p t (zEnd t s)) ∧ v = none) := by
  refine gCon_of (by decide) (Nat.le_of_ble_eq_true rfl) ?_
  show gJ _ _ _ _ _ _ 0 [(0, _)] [] _
  refine gJ_aload_n dX10_expectEnd_0 rfl rfl ?_
  refine gJ_get fX10_19 dX10_expectEnd_1 (by first | with_reducible assumption | with_reducible exact gUp_s | with_reducible exact gUp_n (by with_reducible assumption) (by omega) | exact gUp_n (by assumption) (by omega) | exact gUp_s | assumption) rfl ?_
  refine gJ_aload_n dX10_expectEnd_4 rfl rfl ?_
  refine gJ_get fX10_15 dX10_expectEnd_5 (by first | with_reducible assumption | with_reducible exact gUp_s | with_reducible exact gUp_n (by with_reducible assumption) (by omega) | exact gUp_n (by assumption) (by omega) | exact gUp_s | assumption) rfl ?_
  refine gJ_icmp_geN (tgt := 16) (a := s.1) (b := t) (by first | with_reducible rfl | rfl) (by first | with_reducible rfl | rfl) (by omega) (by omega) dX10_expectEnd_8 (by decide) (fun c8 => ?_) (fun c8 => ?_)
  · refine gJ_vret dX10_expectEnd_16 rfl ?_
    rw [zEnd, if_neg (by omega), gUp_id hm]
    exact ⟨rfl, rfl⟩
  · refine gJ_aload_n dX10_expectEnd_11 rfl rfl ?_
    refine gJ_iconst (v := 1) dX10_expectEnd_12 (by decide) ?_
    refine gJ_put fX10_22 dX10_expectEnd_13 (by first | with_reducible assumption | with_reducible exact gUp_s | with_reducible exact gUp_n (by with_reducible assumption) (by omega) | exact gUp_n (by assumption) (by omega) | exact gUp_s | assumption) rfl rfl (Nat.le_of_ble_eq_true rfl) ?_
    refine gJ_vret dX10_expectEnd_16 rfl ?_
    rw [zEnd, if_pos (by omega)]
    exact ⟨rfl, rfl⟩
theorem c10_rewind (hm : M.1 p = some (cTp p t s)) : gCon G kX10_rewind 0 0 0 M [.ref p] (fun M2 v => M2 = gUp M p (cTp p t (0, false)) ∧ v = none) := by
  refine gCon_of (by decide) (Nat.le_of_ble_eq_true rfl) ?_
  show gJ _ _ _ _ _ _ 0 [(0, _)] [] _
  refine gJ_aload_n dX10_rewind_0 rfl rfl ?_
  refine gJ_iconst (v := 0) dX10_rewind_1 (by decide) ?_
  refine gJ_put fX10_19 dX10_rewind_2 (by first | with_reducible assumption | with_reducible exact gUp_s | with_reducible exact gUp_n (by with_reducible assumption) (by omega) | exact gUp_n (by assumption) (by omega) | exact gUp_s | assumption) rfl rfl (Nat.le_of_ble_eq_true rfl) ?_
  refine gJ_aload_n dX10_rewind_5 rfl rfl ?_
  refine gJ_iconst (v := 0) dX10_rewind_6 (by decide) ?_
  refine gJ_put fX10_22 dX10_rewind_7 (by first | with_reducible assumption | with_reducible exact gUp_s | with_reducible exact gUp_n (by with_reducible assumption) (by omega) | exact gUp_n (by assumption) (by omega) | exact gUp_s | assumption) rfl rfl (Nat.le_of_ble_eq_true rfl) ?_
  refine gJ_vret dX10_rewind_10 rfl ?_
  rw [gUp_up]
  exact ⟨rfl, rfl⟩
theorem c10_clear (hm : M.1 p = some (cTp p t s)) : gCon G kX10_clear 0 0 0 M [.ref p] (fun M2 v => M2 = gUp M p (cTp p 0 s) ∧ v = none) := by
  refine gCon_of (by decide) (Nat.le_of_ble_eq_true rfl) ?_
  show gJ _ _ _ _ _ _ 0 [(0, _)] [] _
  refine gJ_aload_n dX10_clear_0 rfl rfl ?_
  refine gJ_iconst (v := 0) dX10_clear_1 (by decide) ?_
  refine gJ_put fX10_15 dX10_clear_2 (by first | with_reducible assumption | with_reducible exact gUp_s | with_reducible exact gUp_n (by with_reducible assumption) (by omega) | exact gUp_n (by assumption) (by omega) | exact gUp_s | assumption) rfl rfl (Nat.le_of_ble_eq_true rfl) ?_
  refine gJ_vret dX10_clear_5 rfl ?_
  exact ⟨rfl, rfl⟩
theorem c10_hasRoomFor (ht : t ≤ 60) (hm : M.1 p = some (cTp p t s)) (n : Nat) (hn : n ≤ 5) : gCon G kX10_hasRoomFor 0 0 0 M [.ref p, .int (nI n)] (fun M2 v => M2 = M ∧ v = some (.int (gb (decide (t + n ≤ 60))))) := by
  refine gCon_of (by decide) (Nat.le_of_ble_eq_true rfl) ?_
  show gJ _ _ _ _ _ _ 0 [(0, _), (1, _)] [] _
  refine gJ_aload_n dX10_hasRoomFor_0 rfl rfl ?_
  refine gJ_get fX10_15 dX10_hasRoomFor_1 (by first | with_reducible assumption | with_reducible exact gUp_s | with_reducible exact gUp_n (by with_reducible assumption) (by omega) | exact gUp_n (by assumption) (by omega) | exact gUp_s | assumption) rfl ?_
  refine gJ_iload_n dX10_hasRoomFor_4 rfl rfl ?_
  refine gJ_iaddN (a := t) (b := n) dX10_hasRoomFor_5 (by first | with_reducible rfl | rfl) (by first | with_reducible rfl | rfl) ?_
  refine gJ_bipush (v := 60) dX10_hasRoomFor_6 (by decide) ?_
  refine gJ_icmp_gtN (tgt := 15) (a := (t + n)) (b := 60) (by first | with_reducible rfl | rfl) (by first | with_reducible rfl | rfl) (by omega) (by omega) dX10_hasRoomFor_8 (by decide) (fun c8 => ?_) (fun c8 => ?_)
  · refine gJ_iconst (v := 0) dX10_hasRoomFor_15 (by decide) ?_
    refine gJ_zret dX10_hasRoomFor_16 rfl (by first | exact gz0 | exact gz1 | exact gb01 _) ?_
    refine ⟨rfl, ?_⟩
    rw [decide_eq_false (by omega)]
    rfl
  · refine gJ_iconst (v := 1) dX10_hasRoomFor_11 (by decide) ?_
    refine gJ_goto (tgt := 16) dX10_hasRoomFor_12 (by decide) ?_
    refine gJ_zret dX10_hasRoomFor_16 rfl (by first | exact gz0 | exact gz1 | exact gb01 _) ?_
    refine ⟨rfl, ?_⟩
    rw [decide_eq_true (by omega)]
    rfl
theorem c10_append (ht : t < 60) (hm : M.1 p = some (cTp p t s)) (hT : M.1 (p + 1) = some (gI 60 T)) (b : Int32) : gCon G kX10_append 0 0 0 M [.ref p, .int b] (fun M2 v => M2 = gUp (gUp M p (cTp p (t + 1) s)) (p + 1) (gI 60 (upd T t b)) ∧ v = none) := by
  refine gCon_of (by decide) (Nat.le_of_ble_eq_true rfl) ?_
  show gJ _ _ _ _ _ _ 0 [(0, _), (1, _)] [] _
  refine gJ_aload_n dX10_append_0 rfl rfl ?_
  refine gJ_get fX10_15 dX10_append_1 (by first | with_reducible assumption | with_reducible exact gUp_s | with_reducible exact gUp_n (by with_reducible assumption) (by omega) | exact gUp_n (by assumption) (by omega) | exact gUp_s | assumption) rfl ?_
  refine gJ_bipush (v := 60) dX10_append_4 (by decide) ?_
  refine gJ_icmp_geN (tgt := 26) (a := t) (b := 60) (by first | with_reducible rfl | rfl) (by first | with_reducible rfl | rfl) (by omega) (by omega) dX10_append_6 (by decide) (fun c_ => by exfalso; omega) (fun _ => ?_)
  refine gJ_aload_n dX10_append_9 rfl rfl ?_
  refine gJ_get fX10_11 dX10_append_10 (by first | with_reducible assumption | with_reducible exact gUp_s | with_reducible exact gUp_n (by with_reducible assumption) (by omega) | exact gUp_n (by assumption) (by omega) | exact gUp_s | assumption) rfl ?_
  refine gJ_aload_n dX10_append_13 rfl rfl ?_
  refine gJ_dup dX10_append_14 rfl ?_
  refine gJ_get fX10_15 dX10_append_15 (by first | with_reducible assumption | with_reducible exact gUp_s | with_reducible exact gUp_n (by with_reducible assumption) (by omega) | exact gUp_n (by assumption) (by omega) | exact gUp_s | assumption) rfl ?_
  refine gJ_dup_x1 dX10_append_18 rfl rfl ?_
  refine gJ_iconst (v := 1) dX10_append_19 (by decide) ?_
  refine gJ_iaddN (a := t) (b := 1) dX10_append_20 (by first | with_reducible rfl | rfl) (by first | with_reducible rfl | rfl) ?_
  refine gJ_put fX10_15 dX10_append_21 (by first | with_reducible assumption | with_reducible exact gUp_s | with_reducible exact gUp_n (by with_reducible assumption) (by omega) | exact gUp_n (by assumption) (by omega) | exact gUp_s | assumption) rfl rfl (Nat.le_of_ble_eq_true rfl) ?_
  refine gJ_iload_n dX10_append_24 rfl rfl ?_
  refine gJ_iastN (j := t) dX10_append_25 (by first | with_reducible assumption | with_reducible exact gUp_s | with_reducible exact gUp_n (by with_reducible assumption) (by omega) | exact gUp_n (by assumption) (by omega) | exact gUp_s | assumption) (by first | with_reducible rfl | rfl) (by omega) (by decide) ?_
  try rw [gUp_up]
  refine gJ_vret dX10_append_26 rfl ?_
  exact ⟨rfl, rfl⟩
theorem c10_labelOf (c : Int32) : gCon G kX10_labelOf 0 0 0 M [.int c] (fun M2 v => M2 = M ∧ v = some (.int (cLof c))) := by
  refine gCon_of (by decide) (Nat.le_of_ble_eq_true rfl) ?_
  show gJ _ _ _ _ _ _ 0 [(0, _)] [] _
  refine gJ_iload_n dX10_labelOf_0 rfl rfl ?_
  by_cases h1 : c = 116
  · subst h1
    refine gJ_lookup (tgt := 44) dX10_labelOf_1 (by decide) (off := 43) (by decide) (by decide) ?_
    refine gJ_iconst (v := 0) dX10_labelOf_44 (by decide) ?_
    refine gJ_iret dX10_labelOf_45 rfl ?_
    exact ⟨rfl, rfl⟩
  · by_cases h2 : c = 104
    · subst h2
      refine gJ_lookup (tgt := 46) dX10_labelOf_1 (by decide) (off := 45) (by decide) (by decide) ?_
      refine gJ_iconst (v := 1) dX10_labelOf_46 (by decide) ?_
      refine gJ_iret dX10_labelOf_47 rfl ?_
      exact ⟨rfl, rfl⟩
    · by_cases h3 : c = 122
      · subst h3
        refine gJ_lookup (tgt := 48) dX10_labelOf_1 (by decide) (off := 47) (by decide) (by decide) ?_
        refine gJ_iconst (v := 2) dX10_labelOf_48 (by decide) ?_
        refine gJ_iret dX10_labelOf_49 rfl ?_
        exact ⟨rfl, rfl⟩
      · by_cases h4 : c = 115
        · subst h4
          refine gJ_lookup (tgt := 50) dX10_labelOf_1 (by decide) (off := 49) (by decide) (by decide) ?_
          refine gJ_iconst (v := 3) dX10_labelOf_50 (by decide) ?_
          refine gJ_iret dX10_labelOf_51 rfl ?_
          exact ⟨rfl, rfl⟩
        · have e0 : cLof c = -5 := by
            have : zL true c = 4 := by rw [zL, if_neg h1, if_neg h2, if_neg h3, if_neg (fun h => h4 h.1)]
            rw [cLof, if_pos this]
          rw [e0]
          have n1 : ¬ c.toInt = 104 := fun h => h2 (Int32.toInt_inj.mp (h.trans (by decide)))
          have n2 : ¬ c.toInt = 115 := fun h => h4 (Int32.toInt_inj.mp (h.trans (by decide)))
          have n3 : ¬ c.toInt = 116 := fun h => h1 (Int32.toInt_inj.mp (h.trans (by decide)))
          have n4 : ¬ c.toInt = 122 := fun h => h3 (Int32.toInt_inj.mp (h.trans (by decide)))
          refine gJ_lookup (tgt := 52) dX10_labelOf_1 (by decide) (off := 51) (by simp [Op.lookupswitch.offset, n1, n2, n3, n4, Ne.symm n1, Ne.symm n2, Ne.symm n3, Ne.symm n4]) (by decide) ?_
          refine gJ_bipush (v := -5) dX10_labelOf_52 (by decide) ?_
          refine gJ_iret dX10_labelOf_54 rfl ?_
          exact ⟨rfl, rfl⟩
end TAPE
