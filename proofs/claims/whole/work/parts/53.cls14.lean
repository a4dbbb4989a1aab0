theorem mSilOf_nn {V : Nat → Int32} {a : Nat} : decide (0 ≤ mSilOf V a) = (List.range 6).any (mSil V a) := by
  rw [Bool.eq_iff_iff, decide_eq_true_eq, ← mSilOf_any, Int32.not_lt]
theorem cSild_is {V : Nat → Int32} {a : Nat} (hp : V (60 + 10 * (a / 12)) = 1) (hok : ∀ k, k < 6 → V (110 + 8 * k) = 1 → cOk V (110 + 8 * k + 1)) : cSild V a = decide (0 ≤ mSilOf V a) := by
  rw [mSilOf_nn, cSild, Bool.eq_iff_iff, List.any_eq_true, List.any_eq_true]
  constructor
  · rintro ⟨k, hk, h⟩
    exact ⟨k, hk, by rw [← cSilB_is hp (hok k (List.mem_range.mp hk))]; exact h⟩
  · rintro ⟨k, hk, h⟩
    exact ⟨k, hk, by rw [cSilB_is hp (hok k (List.mem_range.mp hk))]; exact h⟩
section CLS
variable {G : gG} {M : gM} {E s T : Nat} {V : Nat → Int32} {S D : Nat → Int64}
theorem cSi_ok {SI : Nat → Option Nat} (hS : ∀ k, k < 6 → cSil M E V k (SI k)) : ∀ k, k < 6 → V (110 + 8 * k) = 1 → cOk V (110 + 8 * k + 1) := by
  intro k hk hv
  rcases hS k hk with ⟨hv0, -⟩ | ⟨-, q, mq, -, -, -, hm⟩
  · rw [hv0] at hv; exact absurd hv (by decide)
  · exact cMat_ok hm
set_option maxRecDepth 20000 in
theorem c9_inhibited (h : cR T M E s V S D) (hI : mI V) : gCon G kX9_inhibited 2 0 0 M [.ref s] (fun M2 v => M2 = M ∧ v = some (.long (lS (cInhd V) 60))) := by
  have hC := fun k q mq nq hk hq hm hn => c9_inhibitedBy (G := G) h hI k q mq nq hk hq hm hn
  obtain ⟨-, hs, ⟨X, RU, SI, IN, h0, h1, h2, h3, h4, h5, h6, h7, h8, hX, hR, hS, hN⟩, -⟩ := h
  refine gCon_of (by decide) (Nat.le_of_ble_eq_true rfl) ?_
  have loop : ∀ (q k : Nat), k + q = 5 → k ≤ 4 → ∀ x : Int64, x = lS (fun a => (List.range k).any fun k => decide (V (158 + 12 * k) = 1) && cInhB V k a) 60 →
      gJ G kX9_inhibited 2 0 0 M 4 [(3, .int (nI k)), (1, .long x), (0, .ref s)] [] (gQ kX9_inhibited (fun M2 v => M2 = M ∧ v = some (.long (lS (cInhd V) 60)))) := by
    intro q
    induction q with
    | zero => intro k h1 h2; exact absurd h1 (by omega)
    | succ q ih =>
      intro k hq hk x hx
      by_cases h4 : k < 4
      · rcases hN k h4 with ⟨hv, ho⟩ | ⟨hv, o, mq, nq, ho, hE, hq2, hm, hn⟩
        · skip
          refine gJ_iload_n dX9_inhibited_4 rfl rfl ?_
          refine gJ_iconst (v := 4) dX9_inhibited_5 (by decide) ?_
          refine gJ_icmp_geN (tgt := 40) (a := k) (b := 4) (by first | with_reducible rfl | rfl) (by first | with_reducible rfl | rfl) (by omega) (by omega) dX9_inhibited_6 (by decide) (fun c_ => by exfalso; omega) (fun _ => ?_)
          refine gJ_aload_n dX9_inhibited_9 rfl rfl ?_
          refine gJ_get fX9_12 dX9_inhibited_10 (by first | with_reducible assumption | with_reducible exact gUp_s | with_reducible exact gUp_n (by with_reducible assumption) (by omega) | exact gUp_n (by assumption) (by omega) | exact gUp_s | assumption) rfl ?_
          refine gJ_get fX9_146 dX9_inhibited_13 (by first | with_reducible assumption | with_reducible exact gUp_s | with_reducible exact gUp_n (by with_reducible assumption) (by omega) | exact gUp_n (by assumption) (by omega) | exact gUp_s | assumption) rfl ?_
          refine gJ_iload_n dX9_inhibited_16 rfl rfl ?_
          refine gJ_aaldN (j := k) dX9_inhibited_17 (by first | with_reducible assumption | with_reducible exact gUp_s | with_reducible exact gUp_n (by with_reducible assumption) (by omega) | exact gUp_n (by assumption) (by omega) | exact gUp_s | assumption) rfl (by first | with_reducible rfl | rfl) (by omega) (by decide) ho ?_
          refine gJ_astoreN (lv2 := [(4, _), (3, _), (1, _), (0, _)]) dX9_inhibited_18 rfl rfl ?_
          refine gJ_aloadN dX9_inhibited_20 rfl ?_
          refine gJ_ifnullN (tgt := 34) dX9_inhibited_22 (by decide) ?_
          refine gJ_iincN (a := k) (b := 1) (lv2 := [(3, _), (4, _), (1, _), (0, _)]) dX9_inhibited_34 rfl rfl rfl rfl ?_
          refine gJ_goto (tgt := 4) dX9_inhibited_37 (by decide) ?_
          refine gJ_ls (ih (k + 1) (by omega) (by omega) _ ?_) ⟨rfl, rfl, rfl, trivial⟩
          rw [hx]
          refine lS_ext (fun a _ => ?_)
          rw [List.range_succ, List.any_append, List.any_cons, hv]
          simp
        · skip
          refine gJ_iload_n dX9_inhibited_4 rfl rfl ?_
          refine gJ_iconst (v := 4) dX9_inhibited_5 (by decide) ?_
          refine gJ_icmp_geN (tgt := 40) (a := k) (b := 4) (by first | with_reducible rfl | rfl) (by first | with_reducible rfl | rfl) (by omega) (by omega) dX9_inhibited_6 (by decide) (fun c_ => by exfalso; omega) (fun _ => ?_)
          refine gJ_aload_n dX9_inhibited_9 rfl rfl ?_
          refine gJ_get fX9_12 dX9_inhibited_10 (by first | with_reducible assumption | with_reducible exact gUp_s | with_reducible exact gUp_n (by with_reducible assumption) (by omega) | exact gUp_n (by assumption) (by omega) | exact gUp_s | assumption) rfl ?_
          refine gJ_get fX9_146 dX9_inhibited_13 (by first | with_reducible assumption | with_reducible exact gUp_s | with_reducible exact gUp_n (by with_reducible assumption) (by omega) | exact gUp_n (by assumption) (by omega) | exact gUp_s | assumption) rfl ?_
          refine gJ_iload_n dX9_inhibited_16 rfl rfl ?_
          refine gJ_aaldS (j := k) dX9_inhibited_17 (by first | with_reducible assumption | with_reducible exact gUp_s | with_reducible exact gUp_n (by with_reducible assumption) (by omega) | exact gUp_n (by assumption) (by omega) | exact gUp_s | assumption) rfl (by first | with_reducible rfl | rfl) (by omega) (by decide) ho ?_
          refine gJ_astore (lv2 := [(4, _), (3, _), (1, _), (0, _)]) dX9_inhibited_18 rfl rfl ?_
          refine gJ_aload dX9_inhibited_20 rfl ?_
          refine gJ_ifnull dX9_inhibited_22 ?_
          refine gJ_lload_n dX9_inhibited_25 rfl rfl ?_
          refine gJ_aload_n dX9_inhibited_26 rfl rfl ?_
          refine gJ_aload dX9_inhibited_27 rfl ?_
          refine gJ_callV (As := [_]) b_X9_inhibitedBy lX9_165 i_X9_inhibitedBy s_X9_inhibitedBy dX9_inhibited_29 (hC k o mq nq h4 hq2 hm hn) (by first | with_reducible assumption | with_reducible exact gUp_s | with_reducible exact gUp_n (by with_reducible assumption) (by omega) | exact gUp_n (by assumption) (by omega) | exact gUp_s | assumption) rfl rfl (Nat.le_of_ble_eq_true rfl) rfl (by decide) (fun M29 v_ h29 => ?_)
          obtain ⟨e29, rfl⟩ := h29
          replace e29 := e29.symm
          subst e29
          refine gJ_lor dX9_inhibited_32 ?_
          refine gJ_lstore_n (lv2 := [(1, _), (4, _), (3, _), (0, _)]) dX9_inhibited_33 rfl rfl rfl ?_
          refine gJ_iincN (a := k) (b := 1) (lv2 := [(3, _), (1, _), (4, _), (0, _)]) dX9_inhibited_34 rfl rfl rfl rfl ?_
          refine gJ_goto (tgt := 4) dX9_inhibited_37 (by decide) ?_
          refine gJ_ls (ih (k + 1) (by omega) (by omega) _ ?_) ⟨rfl, rfl, rfl, trivial⟩
          rw [hx, lS_or]
          refine lS_ext (fun a _ => ?_)
          rw [List.range_succ, List.any_append, List.any_cons, hv]
          simp
      · have e4 : k = 4 := by omega
        subst e4
        refine gJ_iload_n dX9_inhibited_4 rfl rfl ?_
        refine gJ_iconst (v := 4) dX9_inhibited_5 (by decide) ?_
        refine gJ_icmp_geN (tgt := 40) (a := 4) (b := 4) (by first | with_reducible rfl | rfl) (by first | with_reducible rfl | rfl) (by omega) (by omega) dX9_inhibited_6 (by decide) (fun _ => ?_) (fun c_ => by exfalso; omega)
        refine gJ_lload_n dX9_inhibited_40 rfl rfl ?_
        refine gJ_lret dX9_inhibited_41 rfl ?_
        exact ⟨rfl, by rw [hx]; rfl⟩
  show gJ _ _ _ _ _ _ 0 [(0, _)] [] _
  refine gJ_lconst (v := 0) dX9_inhibited_0 (by decide) ?_
  refine gJ_lstore_n (lv2 := [(1, _), (0, _)]) dX9_inhibited_1 rfl rfl rfl ?_
  refine gJ_iconst (v := 0) dX9_inhibited_2 (by decide) ?_
  refine gJ_istore_n (lv2 := [(3, _), (1, _), (0, _)]) dX9_inhibited_3 rfl rfl rfl ?_
  exact gJ_ls (loop 5 0 (by omega) (by omega) _ (lS_0 (fun a _ => rfl)).symm) ⟨rfl, rfl, rfl, trivial⟩
set_option maxHeartbeats 1000000 in
set_option maxRecDepth 20000 in
theorem c9_inhibitorsOf (h : cR T M E s V S D) (hI : mI V) (hJ : mJ V) (a : Nat) (ha : a < 60) : gCon G kX9_inhibitorsOf 1 0 0 M [.ref s, .int (nI a)] (fun M2 v => M2 = M ∧ v = some (.long (lS (fun b => cStB V 2 a && mInhP V a b) 60))) := by
  obtain ⟨-, hs, ⟨X, RU, SI, IN, h0, h1, h2, h3, h4, h5, h6, h7, h8, hX, hR, hS, hN⟩, ⟨X2, R, C, a0, a1, a2, a3, aX, aR⟩, -, -⟩ := h
  have hok := cIn_ok hN
  have hb : lB (lS (cStB V 2) 60) a = cStB V 2 a := by rw [lS_b, decide_eq_true ha, Bool.true_and]
  refine gCon_of (by decide) (Nat.le_of_ble_eq_true rfl) ?_
  cases hfa : cStB V 2 a with
  | false =>
    show gJ _ _ _ _ _ _ 0 [(0, _), (1, _)] [] _
    refine gJ_aload_n dX9_inhibitorsOf_0 rfl rfl ?_
    refine gJ_get fX9_21 dX9_inhibitorsOf_1 (by first | with_reducible assumption | with_reducible exact gUp_s | with_reducible exact gUp_n (by with_reducible assumption) (by omega) | exact gUp_n (by assumption) (by omega) | exact gUp_s | assumption) rfl ?_
    refine gJ_get fX9_104 dX9_inhibitorsOf_4 (by first | with_reducible assumption | with_reducible exact gUp_s | with_reducible exact gUp_n (by with_reducible assumption) (by omega) | exact gUp_n (by assumption) (by omega) | exact gUp_s | assumption) rfl ?_
    refine gJ_iload_n dX9_inhibitorsOf_7 rfl rfl ?_
    refine gJ_callSN (As := [_, _]) b_X11_has lX9_142 i_X11_has dX9_inhibitorsOf_8 (c11_has _ a (by omega)) rfl (Nat.le_of_ble_eq_true rfl) rfl (by decide) (fun M8 v_ h8 => ?_)
    obtain ⟨e8, rfl⟩ := h8
    replace e8 := e8.symm
    subst e8
    rw [hb, hfa]
    refine gJ_if_neB (tgt := 16) dX9_inhibitorsOf_11 (by decide) (fun c_ => by exfalso; cases c_) (fun _ => ?_)
    refine gJ_lconst (v := 0) dX9_inhibitorsOf_14 (by decide) ?_
    refine gJ_lret dX9_inhibitorsOf_15 rfl ?_
    refine ⟨rfl, ?_⟩
    rw [lS_0 (fun b _ => Bool.false_and _)]
  | true =>
    have loop : ∀ (q k : Nat), k + q = 5 → k ≤ 4 → ∀ x : Int64, x = lS (fun b => (List.range k).any fun k => decide (V (158 + 12 * k) = 1) && (cMtA V (158 + 12 * k + 6) a && (cMtA V (158 + 12 * k + 1) b && cAlk V (V (158 + 12 * k + 11)) (a % 12) b))) 60 →
        gJ G kX9_inhibitorsOf 1 0 0 M 21 [(4, .int (nI k)), (2, .long x), (0, .ref s), (1, .int (nI a))] [] (gQ kX9_inhibitorsOf (fun M2 v => M2 = M ∧ v = some (.long (lS (fun b => true && mInhP V a b) 60)))) := by
      intro q
      induction q with
      | zero => intro k h1 h2; exact absurd h1 (by omega)
      | succ q ih =>
        intro k hq hk x hx
        by_cases hk4 : k < 4
        · rcases hN k hk4 with ⟨hv, ho⟩ | ⟨hv, o, mq, nq, ho, hE, hq2, hm, hn⟩
          · skip
            refine gJ_iload dX9_inhibitorsOf_21 rfl ?_
            refine gJ_iconst (v := 4) dX9_inhibitorsOf_23 (by decide) ?_
            refine gJ_icmp_geN (tgt := 104) (a := k) (b := 4) (by first | with_reducible rfl | rfl) (by first | with_reducible rfl | rfl) (by omega) (by omega) dX9_inhibitorsOf_24 (by decide) (fun c_ => by exfalso; omega) (fun _ => ?_)
            refine gJ_aload_n dX9_inhibitorsOf_27 rfl rfl ?_
            refine gJ_get fX9_12 dX9_inhibitorsOf_28 (by first | with_reducible assumption | with_reducible exact gUp_s | with_reducible exact gUp_n (by with_reducible assumption) (by omega) | exact gUp_n (by assumption) (by omega) | exact gUp_s | assumption) rfl ?_
            refine gJ_get fX9_146 dX9_inhibitorsOf_31 (by first | with_reducible assumption | with_reducible exact gUp_s | with_reducible exact gUp_n (by with_reducible assumption) (by omega) | exact gUp_n (by assumption) (by omega) | exact gUp_s | assumption) rfl ?_
            refine gJ_iload dX9_inhibitorsOf_34 rfl ?_
            refine gJ_aaldN (j := k) dX9_inhibitorsOf_36 (by first | with_reducible assumption | with_reducible exact gUp_s | with_reducible exact gUp_n (by with_reducible assumption) (by omega) | exact gUp_n (by assumption) (by omega) | exact gUp_s | assumption) rfl (by first | with_reducible rfl | rfl) (by omega) (by decide) ho ?_
            refine gJ_astoreN (lv2 := [(5, _), (4, _), (2, _), (0, _), (1, _)]) dX9_inhibitorsOf_37 rfl rfl ?_
            refine gJ_aloadN dX9_inhibitorsOf_39 rfl ?_
            refine gJ_ifnullN (tgt := 98) dX9_inhibitorsOf_41 (by decide) ?_
            refine gJ_iincN (a := k) (b := 1) (lv2 := [(4, _), (5, _), (2, _), (0, _), (1, _)]) dX9_inhibitorsOf_98 rfl rfl rfl rfl ?_
            refine gJ_goto (tgt := 21) dX9_inhibitorsOf_101 (by decide) ?_
            refine gJ_ls (ih (k + 1) (by omega) (by omega) _ ?_) ⟨rfl, rfl, rfl, rfl, trivial⟩
            rw [hx]
            refine lS_ext (fun b _ => ?_)
            rw [List.range_succ, List.any_append, List.any_cons, hv]
            simp
          · have hbt : lB (lS (cMtA V (158 + 12 * k + 6)) 60) a = cMtA V (158 + 12 * k + 6) a := by rw [lS_b, decide_eq_true ha, Bool.true_and]
            refine gJ_iload dX9_inhibitorsOf_21 rfl ?_
            refine gJ_iconst (v := 4) dX9_inhibitorsOf_23 (by decide) ?_
            refine gJ_icmp_geN (tgt := 104) (a := k) (b := 4) (by first | with_reducible rfl | rfl) (by first | with_reducible rfl | rfl) (by omega) (by omega) dX9_inhibitorsOf_24 (by decide) (fun c_ => by exfalso; omega) (fun _ => ?_)
            refine gJ_aload_n dX9_inhibitorsOf_27 rfl rfl ?_
            refine gJ_get fX9_12 dX9_inhibitorsOf_28 (by first | with_reducible assumption | with_reducible exact gUp_s | with_reducible exact gUp_n (by with_reducible assumption) (by omega) | exact gUp_n (by assumption) (by omega) | exact gUp_s | assumption) rfl ?_
            refine gJ_get fX9_146 dX9_inhibitorsOf_31 (by first | with_reducible assumption | with_reducible exact gUp_s | with_reducible exact gUp_n (by with_reducible assumption) (by omega) | exact gUp_n (by assumption) (by omega) | exact gUp_s | assumption) rfl ?_
            refine gJ_iload dX9_inhibitorsOf_34 rfl ?_
            refine gJ_aaldS (j := k) dX9_inhibitorsOf_36 (by first | with_reducible assumption | with_reducible exact gUp_s | with_reducible exact gUp_n (by with_reducible assumption) (by omega) | exact gUp_n (by assumption) (by omega) | exact gUp_s | assumption) rfl (by first | with_reducible rfl | rfl) (by omega) (by decide) ho ?_
            refine gJ_astore (lv2 := [(5, _), (4, _), (2, _), (0, _), (1, _)]) dX9_inhibitorsOf_37 rfl rfl ?_
            refine gJ_aload dX9_inhibitorsOf_39 rfl ?_
            refine gJ_ifnull dX9_inhibitorsOf_41 ?_
            refine gJ_aload_n dX9_inhibitorsOf_44 rfl rfl ?_
            refine gJ_get fX9_12 dX9_inhibitorsOf_45 (by first | with_reducible assumption | with_reducible exact gUp_s | with_reducible exact gUp_n (by with_reducible assumption) (by omega) | exact gUp_n (by assumption) (by omega) | exact gUp_s | assumption) rfl ?_
            refine gJ_aload dX9_inhibitorsOf_48 rfl ?_
            refine gJ_get fX9_150 dX9_inhibitorsOf_50 (by first | with_reducible assumption | with_reducible exact gUp_s | with_reducible exact gUp_n (by with_reducible assumption) (by omega) | exact gUp_n (by assumption) (by omega) | exact gUp_s | assumption) rfl ?_
            refine gJ_callV (As := [_]) b_X7_matched lX9_134 i_X7_matched s_X7_matched dX9_inhibitorsOf_53 (c7_matched h0 h8 nq (158 + 12 * k + 6) hn (hI.2.2.2.2.1 k hk4).2.2.1) (by first | with_reducible assumption | with_reducible exact gUp_s | with_reducible exact gUp_n (by with_reducible assumption) (by omega) | exact gUp_n (by assumption) (by omega) | exact gUp_s | assumption) rfl rfl (Nat.le_of_ble_eq_true rfl) rfl (by decide) (fun M53 v_ h53 => ?_)
            obtain ⟨e53, rfl⟩ := h53
            replace e53 := e53.symm
            subst e53
            refine gJ_iload_n dX9_inhibitorsOf_56 rfl rfl ?_
            refine gJ_callSN (As := [_, _]) b_X11_has lX9_142 i_X11_has dX9_inhibitorsOf_57 (c11_has _ a (by omega)) rfl (Nat.le_of_ble_eq_true rfl) rfl (by decide) (fun M57 v_ h57 => ?_)
            obtain ⟨e57, rfl⟩ := h57
            replace e57 := e57.symm
            subst e57
            rw [hbt]
            refine gJ_if_neB (tgt := 66) dX9_inhibitorsOf_60 (by decide) (fun c60 => ?_) (fun c60 => ?_)
            · refine gJ_lload_n dX9_inhibitorsOf_66 rfl rfl ?_
              refine gJ_aload_n dX9_inhibitorsOf_67 rfl rfl ?_
              refine gJ_get fX9_12 dX9_inhibitorsOf_68 (by first | with_reducible assumption | with_reducible exact gUp_s | with_reducible exact gUp_n (by with_reducible assumption) (by omega) | exact gUp_n (by assumption) (by omega) | exact gUp_s | assumption) rfl ?_
              refine gJ_aload dX9_inhibitorsOf_71 rfl ?_
              refine gJ_get fX9_155 dX9_inhibitorsOf_73 (by first | with_reducible assumption | with_reducible exact gUp_s | with_reducible exact gUp_n (by with_reducible assumption) (by omega) | exact gUp_n (by assumption) (by omega) | exact gUp_s | assumption) rfl ?_
              refine gJ_callV (As := [_]) b_X7_matched lX9_134 i_X7_matched s_X7_matched dX9_inhibitorsOf_76 (c7_matched h0 h8 mq (158 + 12 * k + 1) hm (hI.2.2.2.2.1 k hk4).2.1) (by first | with_reducible assumption | with_reducible exact gUp_s | with_reducible exact gUp_n (by with_reducible assumption) (by omega) | exact gUp_n (by assumption) (by omega) | exact gUp_s | assumption) rfl rfl (Nat.le_of_ble_eq_true rfl) rfl (by decide) (fun M76 v_ h76 => ?_)
              obtain ⟨e76, rfl⟩ := h76
              replace e76 := e76.symm
              subst e76
              refine gJ_aload_n dX9_inhibitorsOf_79 rfl rfl ?_
              refine gJ_get fX9_12 dX9_inhibitorsOf_80 (by first | with_reducible assumption | with_reducible exact gUp_s | with_reducible exact gUp_n (by with_reducible assumption) (by omega) | exact gUp_n (by assumption) (by omega) | exact gUp_s | assumption) rfl ?_
              refine gJ_iload_n dX9_inhibitorsOf_83 rfl rfl ?_
              refine gJ_bipush (v := 12) dX9_inhibitorsOf_84 (by decide) ?_
              refine gJ_iremN (a := a) (b := 12) dX9_inhibitorsOf_86 (by first | with_reducible rfl | rfl) (by first | with_reducible rfl | rfl) (by omega) (by decide) ?_
              refine gJ_aload dX9_inhibitorsOf_87 rfl ?_
              refine gJ_get fX9_158 dX9_inhibitorsOf_89 (by first | with_reducible assumption | with_reducible exact gUp_s | with_reducible exact gUp_n (by with_reducible assumption) (by omega) | exact gUp_n (by assumption) (by omega) | exact gUp_s | assumption) rfl ?_
              refine gJ_callV (As := [_, _]) b_X7_alike lX9_161 i_X7_alike s_X7_alike dX9_inhibitorsOf_92 (c7_alike h0 h1 h8 hI (a % 12) (by omega) _) (by first | with_reducible assumption | with_reducible exact gUp_s | with_reducible exact gUp_n (by with_reducible assumption) (by omega) | exact gUp_n (by assumption) (by omega) | exact gUp_s | assumption) rfl rfl (Nat.le_of_ble_eq_true rfl) rfl (by decide) (fun M92 v_ h92 => ?_)
              obtain ⟨e92, rfl⟩ := h92
              replace e92 := e92.symm
              subst e92
              refine gJ_land dX9_inhibitorsOf_95 ?_
              refine gJ_lor dX9_inhibitorsOf_96 ?_
              refine gJ_lstore_n (lv2 := [(2, _), (5, _), (4, _), (0, _), (1, _)]) dX9_inhibitorsOf_97 rfl rfl rfl ?_
              refine gJ_iincN (a := k) (b := 1) (lv2 := [(4, _), (2, _), (5, _), (0, _), (1, _)]) dX9_inhibitorsOf_98 rfl rfl rfl rfl ?_
              refine gJ_goto (tgt := 21) dX9_inhibitorsOf_101 (by decide) ?_
              refine gJ_ls (ih (k + 1) (by omega) (by omega) _ ?_) ⟨rfl, rfl, rfl, rfl, trivial⟩
              rw [hx, lS_and, lS_or]
              refine lS_ext (fun b _ => ?_)
              rw [List.range_succ, List.any_append, List.any_cons, hv, c60]
              simp
            · refine gJ_goto (tgt := 98) dX9_inhibitorsOf_63 (by decide) ?_
              refine gJ_iincN (a := k) (b := 1) (lv2 := [(4, _), (5, _), (2, _), (0, _), (1, _)]) dX9_inhibitorsOf_98 rfl rfl rfl rfl ?_
              refine gJ_goto (tgt := 21) dX9_inhibitorsOf_101 (by decide) ?_
              refine gJ_ls (ih (k + 1) (by omega) (by omega) _ ?_) ⟨rfl, rfl, rfl, rfl, trivial⟩
              rw [hx]
              refine lS_ext (fun b _ => ?_)
              rw [List.range_succ, List.any_append, List.any_cons, hv, c60]
              simp
        · have e4 : k = 4 := by omega
          subst e4
          refine gJ_iload dX9_inhibitorsOf_21 rfl ?_
          refine gJ_iconst (v := 4) dX9_inhibitorsOf_23 (by decide) ?_
          refine gJ_icmp_geN (tgt := 104) (a := 4) (b := 4) (by first | with_reducible rfl | rfl) (by first | with_reducible rfl | rfl) (by omega) (by omega) dX9_inhibitorsOf_24 (by decide) (fun _ => ?_) (fun c_ => by exfalso; omega)
          refine gJ_lload_n dX9_inhibitorsOf_104 rfl rfl ?_
          refine gJ_aload_n dX9_inhibitorsOf_105 rfl rfl ?_
          refine gJ_get fX9_21 dX9_inhibitorsOf_106 (by first | with_reducible assumption | with_reducible exact gUp_s | with_reducible exact gUp_n (by with_reducible assumption) (by omega) | exact gUp_n (by assumption) (by omega) | exact gUp_s | assumption) rfl ?_
          refine gJ_get fX9_104 dX9_inhibitorsOf_109 (by first | with_reducible assumption | with_reducible exact gUp_s | with_reducible exact gUp_n (by with_reducible assumption) (by omega) | exact gUp_n (by assumption) (by omega) | exact gUp_s | assumption) rfl ?_
          refine gJ_land dX9_inhibitorsOf_112 ?_
          refine gJ_lconst (v := 1) dX9_inhibitorsOf_113 (by decide) ?_
          refine gJ_iload_n dX9_inhibitorsOf_114 rfl rfl ?_
          refine gJ_lshl dX9_inhibitorsOf_115 ?_
          refine gJ_ldc2 (v := -1) dX9_inhibitorsOf_116 cX9_111 ?_
          refine gJ_lxor dX9_inhibitorsOf_119 ?_
          refine gJ_land dX9_inhibitorsOf_120 ?_
          refine gJ_lret dX9_inhibitorsOf_121 rfl ?_
          refine ⟨rfl, ?_⟩
          rw [hx, lS_and, lS_nb ha]
          refine congrArg (fun z => some (Value.long z)) (lS_ext (fun b hb2 => ?_))
          rw [Bool.true_and, mInhP_is hI hJ hok ha hb2 hfa]
          rw [Bool.eq_iff_iff]
          constructor
          · intro h_
            rw [Bool.and_eq_true, Bool.and_eq_true, List.any_eq_true] at h_
            obtain ⟨⟨⟨k, hk, g1⟩, g2⟩, g3⟩ := h_
            refine any_t (List.mem_range.mp hk) ?_
            rw [Bool.and_eq_true, Bool.and_eq_true, Bool.and_eq_true] at g1
            rw [g1.1, g1.2.1, g3, cCau, g1.2.2.1, g2, g1.2.2.2]
            rfl
          · intro h_
            rw [List.any_eq_true] at h_
            obtain ⟨k, hk, g1⟩ := h_
            rw [Bool.and_eq_true, Bool.and_eq_true, Bool.and_eq_true, cCau, Bool.and_eq_true, Bool.and_eq_true] at g1
            rw [Bool.and_eq_true, Bool.and_eq_true]
            refine ⟨⟨any_t (List.mem_range.mp hk) ?_, g1.2.2.2.1.2⟩, g1.2.2.1⟩
            rw [g1.1, g1.2.1, g1.2.2.2.1.1, g1.2.2.2.2]
            rfl
    show gJ _ _ _ _ _ _ 0 [(0, _), (1, _)] [] _
    refine gJ_aload_n dX9_inhibitorsOf_0 rfl rfl ?_
    refine gJ_get fX9_21 dX9_inhibitorsOf_1 (by first | with_reducible assumption | with_reducible exact gUp_s | with_reducible exact gUp_n (by with_reducible assumption) (by omega) | exact gUp_n (by assumption) (by omega) | exact gUp_s | assumption) rfl ?_
    refine gJ_get fX9_104 dX9_inhibitorsOf_4 (by first | with_reducible assumption | with_reducible exact gUp_s | with_reducible exact gUp_n (by with_reducible assumption) (by omega) | exact gUp_n (by assumption) (by omega) | exact gUp_s | assumption) rfl ?_
    refine gJ_iload_n dX9_inhibitorsOf_7 rfl rfl ?_
    refine gJ_callSN (As := [_, _]) b_X11_has lX9_142 i_X11_has dX9_inhibitorsOf_8 (c11_has _ a (by omega)) rfl (Nat.le_of_ble_eq_true rfl) rfl (by decide) (fun M8 v_ h8 => ?_)
    obtain ⟨e8, rfl⟩ := h8
    replace e8 := e8.symm
    subst e8
    rw [hb, hfa]
    refine gJ_if_neB (tgt := 16) dX9_inhibitorsOf_11 (by decide) (fun _ => ?_) (fun c_ => by exfalso; cases c_)
    refine gJ_lconst (v := 0) dX9_inhibitorsOf_16 (by decide) ?_
    refine gJ_lstore_n (lv2 := [(2, _), (0, _), (1, _)]) dX9_inhibitorsOf_17 rfl rfl rfl ?_
    refine gJ_iconst (v := 0) dX9_inhibitorsOf_18 (by decide) ?_
    refine gJ_istore (lv2 := [(4, _), (2, _), (0, _), (1, _)]) dX9_inhibitorsOf_19 rfl rfl ?_
    exact gJ_ls (loop 5 0 (by omega) (by omega) _ (lS_0 (fun a _ => rfl)).symm) ⟨rfl, rfl, rfl, rfl, trivial⟩
set_option maxRecDepth 20000 in
theorem c9_active (h : cR T M E s V S D) (hT : T ≤ 200000) (hI : mI V) (hJ : mJ V) : gCon G kX9_active 3 0 0 M [.ref s] (fun M2 v => M2 = M ∧ v = some (.long (mActs V))) := by
  have hs1 := c9_silenced (G := G) h hI
  have hs2 := c9_inhibited (G := G) h hI
  have hs3 := fun P => c9_flapping (G := G) h hT P
  obtain ⟨-, hs, ⟨X, RU, SI, IN, h0, h1, h2, h3, h4, h5, h6, h7, h8, hX, hR, hS, hN⟩, ⟨X2, R, C, a0, a1, a2, a3, aX, aR⟩, -, -⟩ := h
  have hok := cIn_ok hN
  have hok2 := cSi_ok hS
  have fin : lS (fun a => (cStB V 2 a && !cSild V a) && !cInhd V a) 60 &&& (lS (fun a => ((cStB V 2 a && !cSild V a) && !cInhd V a) && mFlapping V a) 60 ^^^ (-1)) = mActs V := by
    rw [lS_an, mActs]
    refine lS_ext fun a ha => ?_
    unfold mAct
    cases hf : cStB V 2 a with
    | false =>
      have hf2 : decide (V (206 + 23 * a) = 2) = false := hf
      rw [hf2]
      simp
    | true =>
      have hf2 : decide (V (206 + 23 * a) = 2) = true := hf
      have hp := hJ a ha (by rw [of_decide_eq_true hf2]; decide)
      rw [hf2, cSild_is hp hok2, cInhd_is hI hJ hok ha]
      have e0 : decide (0 ≤ mInhOf V a) = !decide (mInhOf V a < 0) := by
        rw [Bool.eq_iff_iff, decide_eq_true_eq, ← Int32.not_lt]
        simp
      rw [e0]
      cases decide (0 ≤ mSilOf V a) <;> cases decide (mInhOf V a < 0) <;> cases mFlapping V a <;> rfl
  refine gCon_of (by decide) (Nat.le_of_ble_eq_true rfl) ?_
  show gJ _ _ _ _ _ _ 0 [(0, _)] [] _
  refine gJ_aload_n dX9_active_0 rfl rfl ?_
  refine gJ_get fX9_21 dX9_active_1 (by first | with_reducible assumption | with_reducible exact gUp_s | with_reducible exact gUp_n (by with_reducible assumption) (by omega) | exact gUp_n (by assumption) (by omega) | exact gUp_s | assumption) rfl ?_
  refine gJ_get fX9_104 dX9_active_4 (by first | with_reducible assumption | with_reducible exact gUp_s | with_reducible exact gUp_n (by with_reducible assumption) (by omega) | exact gUp_n (by assumption) (by omega) | exact gUp_s | assumption) rfl ?_
  refine gJ_aload_n dX9_active_7 rfl rfl ?_
  refine gJ_callV (As := []) b_X9_silenced lX9_108 i_X9_silenced s_X9_silenced dX9_active_8 (hs1) (by first | with_reducible assumption | with_reducible exact gUp_s | with_reducible exact gUp_n (by with_reducible assumption) (by omega) | exact gUp_n (by assumption) (by omega) | exact gUp_s | assumption) rfl rfl (Nat.le_of_ble_eq_true rfl) rfl (by decide) (fun M8 v_ h8 => ?_)
  obtain ⟨e8, rfl⟩ := h8
  replace e8 := e8.symm
  subst e8
  refine gJ_ldc2 (v := -1) dX9_active_11 cX9_111 ?_
  refine gJ_lxor dX9_active_14 ?_
  refine gJ_land dX9_active_15 ?_
  rw [lS_an]
  refine gJ_aload_n dX9_active_16 rfl rfl ?_
  refine gJ_callV (As := []) b_X9_inhibited lX9_113 i_X9_inhibited s_X9_inhibited dX9_active_17 (hs2) (by first | with_reducible assumption | with_reducible exact gUp_s | with_reducible exact gUp_n (by with_reducible assumption) (by omega) | exact gUp_n (by assumption) (by omega) | exact gUp_s | assumption) rfl rfl (Nat.le_of_ble_eq_true rfl) rfl (by decide) (fun M17 v_ h17 => ?_)
  obtain ⟨e17, rfl⟩ := h17
  replace e17 := e17.symm
  subst e17
  refine gJ_ldc2 (v := -1) dX9_active_20 cX9_111 ?_
  refine gJ_lxor dX9_active_23 ?_
  refine gJ_land dX9_active_24 ?_
  rw [lS_an]
  refine gJ_lstore_n (lv2 := [(1, _), (0, _)]) dX9_active_25 rfl rfl rfl ?_
  refine gJ_lload_n dX9_active_26 rfl rfl ?_
  refine gJ_aload_n dX9_active_27 rfl rfl ?_
  refine gJ_lload_n dX9_active_28 rfl rfl ?_
  refine gJ_callV (As := [_]) b_X9_flapping lX9_116 i_X9_flapping s_X9_flapping dX9_active_29 (hs3 (fun a => (cStB V 2 a && !cSild V a) && !cInhd V a)) (by first | with_reducible assumption | with_reducible exact gUp_s | with_reducible exact gUp_n (by with_reducible assumption) (by omega) | exact gUp_n (by assumption) (by omega) | exact gUp_s | assumption) rfl rfl (Nat.le_of_ble_eq_true rfl) rfl (by decide) (fun M29 v_ h29 => ?_)
  obtain ⟨e29, rfl⟩ := h29
  replace e29 := e29.symm
  subst e29
  refine gJ_ldc2 (v := -1) dX9_active_32 cX9_111 ?_
  refine gJ_lxor dX9_active_35 ?_
  refine gJ_land dX9_active_36 ?_
  refine gJ_lret dX9_active_37 rfl ?_
  exact ⟨rfl, by rw [fin]⟩
set_option maxRecDepth 20000 in
theorem c9_countSilencesInUse (h : cR T M E s V S D) (hI : mI V) (hJ : mJ V) : gCon G kX9_countSilencesInUse 2 0 0 M [.ref s] (fun M2 v => M2 = M ∧ v = some (.int (nI ((List.range 6).countP (mUse V))))) := by
  have hC := fun k hk => c9_silencedBy (G := G) h hI k hk
  obtain ⟨-, hs, ⟨X, RU, SI, IN, h0, h1, h2, h3, h4, h5, h6, h7, h8, hX, hR, hS, hN⟩, ⟨X2, R, C, a0, a1, a2, a3, aX, aR⟩, -, -⟩ := h
  have hok2 := cSi_ok hS
  have hU : ∀ k, k < 6 → (lS (cSilB V k) 60 &&& lS (cStB V 2) 60 = 0 ↔ mUse V k = false) := by
    intro k hk
    rw [lS_and, lS_z]
    have key : ∀ a, a < 60 → (cSilB V k a && cStB V 2 a) = (decide (V (206 + 23 * a) = 2) && mSil V a k) := by
      intro a ha
      unfold cStB
      by_cases hf : V (206 + 23 * a) = 2
      · rw [cSilB_is (hJ a ha (by rw [hf]; decide)) (hok2 k hk), Bool.and_comm]
      · rw [decide_eq_false hf, Bool.and_false, Bool.false_and]
    constructor
    · intro h
      exact any_f (fun a ha => by rw [← key a ha]; exact h a ha)
    · intro h a ha
      rw [key a ha]
      exact Bool.not_eq_true _ |>.mp (fun ht => by
        have : mUse V k = true := any_t (p := fun a => decide (V (206 + 23 * a) = 2) && mSil V a k) ha ht
        rw [h] at this
        cases this)
  refine gCon_of (by decide) (Nat.le_of_ble_eq_true rfl) ?_
  have loop : ∀ (q k c : Nat), k + q = 7 → k ≤ 6 → c = (List.range k).countP (mUse V) → c ≤ k →
      gJ G kX9_countSilencesInUse 2 0 0 M 4 [(2, .int (nI k)), (1, .int (nI c)), (0, .ref s)] [] (gQ kX9_countSilencesInUse (fun M2 v => M2 = M ∧ v = some (.int (nI ((List.range 6).countP (mUse V)))))) := by
    intro q
    induction q with
    | zero => intro k c h1 h2; exact absurd h1 (by omega)
    | succ q ih =>
      intro k c hq hk hp hc
      refine gJ_iload_n dX9_countSilencesInUse_4 rfl rfl ?_
      refine gJ_bipush (v := 6) dX9_countSilencesInUse_5 (by decide) ?_
      refine gJ_icmp_geN (tgt := 37) (a := k) (b := 6) (by first | with_reducible rfl | rfl) (by first | with_reducible rfl | rfl) (by omega) (by omega) dX9_countSilencesInUse_7 (by decide) (fun c7 => ?_) (fun c7 => ?_)
      · refine gJ_iload_n dX9_countSilencesInUse_37 rfl rfl ?_
        refine gJ_iret dX9_countSilencesInUse_38 rfl ?_
        refine ⟨rfl, ?_⟩
        rw [hp, show k = 6 by omega]
      · refine gJ_aload_n dX9_countSilencesInUse_10 rfl rfl ?_
        refine gJ_iload_n dX9_countSilencesInUse_11 rfl rfl ?_
        refine gJ_callV (As := [_]) b_X9_silencedBy lX9_138 i_X9_silencedBy s_X9_silencedBy dX9_countSilencesInUse_12 (hC k (by omega)) (by first | with_reducible assumption | with_reducible exact gUp_s | with_reducible exact gUp_n (by with_reducible assumption) (by omega) | exact gUp_n (by assumption) (by omega) | exact gUp_s | assumption) rfl rfl (Nat.le_of_ble_eq_true rfl) rfl (by decide) (fun M12 v_ h12 => ?_)
        obtain ⟨e12, rfl⟩ := h12
        replace e12 := e12.symm
        subst e12
        refine gJ_aload_n dX9_countSilencesInUse_15 rfl rfl ?_
        refine gJ_get fX9_21 dX9_countSilencesInUse_16 (by first | with_reducible assumption | with_reducible exact gUp_s | with_reducible exact gUp_n (by with_reducible assumption) (by omega) | exact gUp_n (by assumption) (by omega) | exact gUp_s | assumption) rfl ?_
        refine gJ_get fX9_104 dX9_countSilencesInUse_19 (by first | with_reducible assumption | with_reducible exact gUp_s | with_reducible exact gUp_n (by with_reducible assumption) (by omega) | exact gUp_n (by assumption) (by omega) | exact gUp_s | assumption) rfl ?_
        refine gJ_land dX9_countSilencesInUse_22 ?_
        refine gJ_lconst (v := 0) dX9_countSilencesInUse_23 (by decide) ?_
        refine gJ_lcmp dX9_countSilencesInUse_24 ?_
        refine gJ_if_eq (tgt := 31) dX9_countSilencesInUse_25 (by decide) (fun c25 => ?_) (fun c25 => ?_)
        · refine gJ_iincN (a := k) (b := 1) (lv2 := [(2, _), (1, _), (0, _)]) dX9_countSilencesInUse_31 rfl rfl rfl rfl ?_
          refine gJ_goto (tgt := 4) dX9_countSilencesInUse_34 (by decide) ?_
          have hm := (hU k (by omega)).mp ((lg_cmp_eq _ _).mp c25)
          refine gJ_ls (ih (k + 1) c (by omega) (by omega) ?_ (by omega)) ⟨rfl, rfl, rfl, trivial⟩
          rw [List.range_succ, List.countP_append, ← hp]
          simp [hm]
        · refine gJ_iincN (a := c) (b := 1) (lv2 := [(1, _), (2, _), (0, _)]) dX9_countSilencesInUse_28 rfl rfl rfl rfl ?_
          refine gJ_iincN (a := k) (b := 1) (lv2 := [(2, _), (1, _), (0, _)]) dX9_countSilencesInUse_31 rfl rfl rfl rfl ?_
          refine gJ_goto (tgt := 4) dX9_countSilencesInUse_34 (by decide) ?_
          have hm : mUse V k = true := Bool.not_eq_false _ |>.mp (fun h => c25 ((lg_cmp_eq _ _).mpr ((hU k (by omega)).mpr h)))
          refine gJ_ls (ih (k + 1) (c + 1) (by omega) (by omega) ?_ (by omega)) ⟨rfl, rfl, rfl, trivial⟩
          rw [List.range_succ, List.countP_append, ← hp]
          simp [hm]
  show gJ _ _ _ _ _ _ 0 [(0, _)] [] _
  refine gJ_iconst (v := 0) dX9_countSilencesInUse_0 (by decide) ?_
  refine gJ_istore_n (lv2 := [(1, _), (0, _)]) dX9_countSilencesInUse_1 rfl rfl rfl ?_
  refine gJ_iconst (v := 0) dX9_countSilencesInUse_2 (by decide) ?_
  refine gJ_istore_n (lv2 := [(2, _), (1, _), (0, _)]) dX9_countSilencesInUse_3 rfl rfl rfl ?_
  exact gJ_ls (loop 7 0 0 (by omega) (by omega) rfl (by omega)) ⟨rfl, rfl, rfl, trivial⟩
end CLS
