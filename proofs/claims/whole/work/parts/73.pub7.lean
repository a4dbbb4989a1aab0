section CLS
variable {G : gG} {M : gM} {b t : Nat} {V IV : Nat → Int32} {S IS : Nat → Int64} {hi : Bool} {U : Nat → Int32}
theorem i_lt0 {x : Int32} : decide (0 ≤ x) = !decide (x < 0) := by
  rw [Bool.eq_iff_iff, decide_eq_true_eq, ← Int32.not_lt]
  simp
theorem cAll_c : (1152921504606846975 : Int64) = lS (fun _ => true) 60 := by decide +kernel
theorem mIn_out {x : Int32} {n : Nat} (hn : n < 2 ^ 31) (h : mIn x 0 (nI n) = false) : x.toInt < 0 ∨ (n : Int) < x.toInt := by
  apply Classical.byContradiction
  intro hc
  have h2 : mIn x 0 (nI n) = true := by
    have e1 : (0 : Int32).toInt = 0 := by decide
    have h0 : ¬ x < 0 := by rw [Int32.lt_iff_toInt_lt, e1]; omega
    obtain ⟨j, hj, rfl⟩ := nI_of h0
    have e2 : (nI j).toInt = j := nI_toInt hj
    rw [mIn, decide_eq_true (nI_pos' hj : (0 : Int32) ≤ nI j), decide_eq_true ((nI_leI hj hn).mpr (by omega))]
    rfl
  rw [h] at h2
  cases h2
theorem cInh_first {a : Nat} : mFind 60 (lB (lS (fun c => cStB V 2 a && mInhP V a c) 60)) = mInhOf V a := by
  unfold mInhOf
  by_cases h : V (206 + 23 * a) = 2
  · rw [if_pos h]
    refine mFind_ext (fun i hi => ?_)
    rw [lS_b, decide_eq_true hi, cStB, decide_eq_true h]
    rfl
  · rw [if_neg h]
    exact mFind_none (fun i hi => by rw [lS_b, cStB, decide_eq_false h, Bool.false_and, Bool.and_false])
theorem cInh_any {a : Nat} : (lS (fun c => cStB V 2 a && mInhP V a c) 60 = 0) ↔ mInhOf V a < 0 := by
  have e := mInhOf_any (V := V) (a := a)
  rw [lS_z]
  constructor
  · intro h
    have h2 : (cStB V 2 a && (List.range 60).any (mInhP V a)) = false := by
      cases hc : cStB V 2 a with
      | false => rfl
      | true =>
        rw [Bool.true_and]
        refine any_f (fun c hc2 => ?_)
        have := h c hc2
        rwa [hc, Bool.true_and] at this
    rw [h2] at e
    exact of_decide_eq_true e
  · intro h c hc2
    rw [decide_eq_true h] at e
    cases hc : cStB V 2 a with
    | false => rfl
    | true =>
      rw [hc, Bool.true_and] at e
      have e3 : (List.range 60).any (mInhP V a) = false := by
        cases hz : (List.range 60).any (mInhP V a) with
        | false => rfl
        | true => rw [hz] at e; cases e
      rw [Bool.true_and]
      cases hp : mInhP V a c with
      | false => rfl
      | true => rw [any_t hc2 hp] at e3; cases e3
set_option maxHeartbeats 1000000 in
set_option maxRecDepth 20000 in
theorem c11_alerts (h : cX M b V S IV IS hi U t) (hI : mI V) (hJ : mJ V) (x : Int32) : gCon G kX11_alerts 4 0 0 M [.ref b, .int x] (fun M2 v => M2 = M ∧ v = some (.long (aAlerts V x))) := by
  obtain ⟨h0, -, -, ⟨T, D, hT, hR⟩, -⟩ := h
  have hAct := c9_active (G := G) hR (by omega) hI hJ
  have hSil := c9_silenced (G := G) hR hI
  have hInh := c9_inhibited (G := G) hR hI
  have hFl := c9_flapping (G := G) hR (by omega) (cStB V 2)
  obtain ⟨hV, hs, ⟨X, RU, SI, IN, s0, s1, s2, s3, s4, s5, s6, s7, s8, sX, sR, sS, sN⟩, ⟨X2, R, C, a0, a1, a2, a3, aX, aR⟩, -, -⟩ := hR
  have hHo := c7_holding (G := G) s0 s2 sX s3 s4 sR s8 hI
  have hok := cIn_ok sN
  have hok2 := cSi_ok sS
  refine gCon_of (by decide) (Nat.le_of_ble_eq_true rfl) ?_
  have sw : gJ G kX11_alerts 4 0 0 M 1 [(0, .ref b), (1, .int x)] [.int x] (gQ kX11_alerts (fun M2 v => M2 = M ∧ v = some (.long (aAlerts V x)))) := by
    cases hx : mIn x 0 6 with
    | false =>
      have hA : aAlerts V x = -1 := by rw [aAlerts, if_neg (by rw [hx]; exact Bool.false_ne_true)]
      rw [hA]
      refine gJ_tableOut (tgt := 130) dX11_alerts_1 (mIn_out (n := 6) (by decide) hx) (by decide) ?_
      refine gJ_ldc2 (v := -1) dX11_alerts_130 cX11_227 ?_
      refine gJ_lret dX11_alerts_133 rfl ?_
      exact ⟨rfl, rfl⟩
    | true =>
      obtain ⟨z, hz1, hz0, rfl, hz3⟩ := mIn_nat (lo := 0) (hi := 6) hx (by decide)
      have hA : aAlerts V (nI z) = lS (fun a => mOfK V a z) 60 := by rw [aAlerts, if_pos hx, hz3]
      rw [hA]
      rcases (show z = 0 ∨ z = 1 ∨ z = 2 ∨ z = 3 ∨ z = 4 ∨ z = 5 ∨ z = 6 by omega) with rfl | rfl | rfl | rfl | rfl | rfl | rfl
      · refine gJ_tableIn (off := 43) (tgt := 44) dX11_alerts_1 (by decide) (by decide) (by decide) (by decide) ?_
        refine gJ_aload_n dX11_alerts_44 rfl rfl ?_
        refine gJ_get fX11_19 dX11_alerts_45 (by first | with_reducible assumption | with_reducible exact gUp_s | with_reducible exact gUp_n (by with_reducible assumption) (by omega) | exact gUp_n (by assumption) (by omega) | exact gUp_s | assumption) rfl ?_
        refine gJ_get fX11_124 dX11_alerts_48 (by first | with_reducible assumption | with_reducible exact gUp_s | with_reducible exact gUp_n (by with_reducible assumption) (by omega) | exact gUp_n (by assumption) (by omega) | exact gUp_s | assumption) rfl ?_
        refine gJ_get fX11_217 dX11_alerts_51 (by first | with_reducible assumption | with_reducible exact gUp_s | with_reducible exact gUp_n (by with_reducible assumption) (by omega) | exact gUp_n (by assumption) (by omega) | exact gUp_s | assumption) rfl ?_
        refine gJ_lret dX11_alerts_54 rfl ?_
        exact ⟨rfl, rfl⟩
      · refine gJ_tableIn (off := 54) (tgt := 55) dX11_alerts_1 (by decide) (by decide) (by decide) (by decide) ?_
        refine gJ_aload_n dX11_alerts_55 rfl rfl ?_
        refine gJ_get fX11_19 dX11_alerts_56 (by first | with_reducible assumption | with_reducible exact gUp_s | with_reducible exact gUp_n (by with_reducible assumption) (by omega) | exact gUp_n (by assumption) (by omega) | exact gUp_s | assumption) rfl ?_
        refine gJ_get fX11_124 dX11_alerts_59 (by first | with_reducible assumption | with_reducible exact gUp_s | with_reducible exact gUp_n (by with_reducible assumption) (by omega) | exact gUp_n (by assumption) (by omega) | exact gUp_s | assumption) rfl ?_
        refine gJ_get fX11_221 dX11_alerts_62 (by first | with_reducible assumption | with_reducible exact gUp_s | with_reducible exact gUp_n (by with_reducible assumption) (by omega) | exact gUp_n (by assumption) (by omega) | exact gUp_s | assumption) rfl ?_
        refine gJ_lret dX11_alerts_65 rfl ?_
        exact ⟨rfl, rfl⟩
      · refine gJ_tableIn (off := 65) (tgt := 66) dX11_alerts_1 (by decide) (by decide) (by decide) (by decide) ?_
        refine gJ_aload_n dX11_alerts_66 rfl rfl ?_
        refine gJ_get fX11_19 dX11_alerts_67 (by first | with_reducible assumption | with_reducible exact gUp_s | with_reducible exact gUp_n (by with_reducible assumption) (by omega) | exact gUp_n (by assumption) (by omega) | exact gUp_s | assumption) rfl ?_
        refine gJ_get fX11_124 dX11_alerts_70 (by first | with_reducible assumption | with_reducible exact gUp_s | with_reducible exact gUp_n (by with_reducible assumption) (by omega) | exact gUp_n (by assumption) (by omega) | exact gUp_s | assumption) rfl ?_
        refine gJ_get fX11_221 dX11_alerts_73 (by first | with_reducible assumption | with_reducible exact gUp_s | with_reducible exact gUp_n (by with_reducible assumption) (by omega) | exact gUp_n (by assumption) (by omega) | exact gUp_s | assumption) rfl ?_
        refine gJ_aload_n dX11_alerts_76 rfl rfl ?_
        refine gJ_get fX11_19 dX11_alerts_77 (by first | with_reducible assumption | with_reducible exact gUp_s | with_reducible exact gUp_n (by with_reducible assumption) (by omega) | exact gUp_n (by assumption) (by omega) | exact gUp_s | assumption) rfl ?_
        refine gJ_callV (As := []) b_X9_silenced lX11_175 i_X9_silenced s_X9_silenced dX11_alerts_80 (hSil) (by first | with_reducible assumption | with_reducible exact gUp_s | with_reducible exact gUp_n (by with_reducible assumption) (by omega) | exact gUp_n (by assumption) (by omega) | exact gUp_s | assumption) rfl rfl (Nat.le_of_ble_eq_true rfl) rfl (by decide) (fun M80 v_ h80 => ?_)
        obtain ⟨e_, rfl⟩ := h80
        replace e_ := e_.symm
        subst e_
        refine gJ_land dX11_alerts_83 ?_
        refine gJ_lret dX11_alerts_84 rfl ?_
        refine ⟨rfl, ?_⟩
        rw [lS_and]
        refine congrArg (fun z => some (Value.long z)) (lS_ext (fun a ha => ?_))
        show (cStB V 2 a && cSild V a) = (decide (V (206 + 23 * a) = 2) && !(decide (mSilOf V a < 0)))
        unfold cStB
        by_cases hf : V (206 + 23 * a) = 2
        · rw [cSild_is (hJ a ha (by rw [hf]; decide)) hok2, i_lt0]
        · rw [decide_eq_false hf, Bool.false_and, Bool.false_and]
      · refine gJ_tableIn (off := 84) (tgt := 85) dX11_alerts_1 (by decide) (by decide) (by decide) (by decide) ?_
        refine gJ_aload_n dX11_alerts_85 rfl rfl ?_
        refine gJ_get fX11_19 dX11_alerts_86 (by first | with_reducible assumption | with_reducible exact gUp_s | with_reducible exact gUp_n (by with_reducible assumption) (by omega) | exact gUp_n (by assumption) (by omega) | exact gUp_s | assumption) rfl ?_
        refine gJ_callV (As := []) b_X9_inhibited lX11_224 i_X9_inhibited s_X9_inhibited dX11_alerts_89 (hInh) (by first | with_reducible assumption | with_reducible exact gUp_s | with_reducible exact gUp_n (by with_reducible assumption) (by omega) | exact gUp_n (by assumption) (by omega) | exact gUp_s | assumption) rfl rfl (Nat.le_of_ble_eq_true rfl) rfl (by decide) (fun M89 v_ h89 => ?_)
        obtain ⟨e_, rfl⟩ := h89
        replace e_ := e_.symm
        subst e_
        refine gJ_lret dX11_alerts_92 rfl ?_
        refine ⟨rfl, ?_⟩
        exact congrArg (fun z => some (Value.long z)) (lS_ext (fun a ha => cInhd_is hI hJ hok ha))
      · refine gJ_tableIn (off := 92) (tgt := 93) dX11_alerts_1 (by decide) (by decide) (by decide) (by decide) ?_
        refine gJ_aload_n dX11_alerts_93 rfl rfl ?_
        refine gJ_get fX11_19 dX11_alerts_94 (by first | with_reducible assumption | with_reducible exact gUp_s | with_reducible exact gUp_n (by with_reducible assumption) (by omega) | exact gUp_n (by assumption) (by omega) | exact gUp_s | assumption) rfl ?_
        refine gJ_aload_n dX11_alerts_97 rfl rfl ?_
        refine gJ_get fX11_19 dX11_alerts_98 (by first | with_reducible assumption | with_reducible exact gUp_s | with_reducible exact gUp_n (by with_reducible assumption) (by omega) | exact gUp_n (by assumption) (by omega) | exact gUp_s | assumption) rfl ?_
        refine gJ_get fX11_124 dX11_alerts_101 (by first | with_reducible assumption | with_reducible exact gUp_s | with_reducible exact gUp_n (by with_reducible assumption) (by omega) | exact gUp_n (by assumption) (by omega) | exact gUp_s | assumption) rfl ?_
        refine gJ_get fX11_221 dX11_alerts_104 (by first | with_reducible assumption | with_reducible exact gUp_s | with_reducible exact gUp_n (by with_reducible assumption) (by omega) | exact gUp_n (by assumption) (by omega) | exact gUp_s | assumption) rfl ?_
        refine gJ_callV (As := [_]) b_X9_flapping lX11_189 i_X9_flapping s_X9_flapping dX11_alerts_107 (hFl) (by first | with_reducible assumption | with_reducible exact gUp_s | with_reducible exact gUp_n (by with_reducible assumption) (by omega) | exact gUp_n (by assumption) (by omega) | exact gUp_s | assumption) rfl rfl (Nat.le_of_ble_eq_true rfl) rfl (by decide) (fun M107 v_ h107 => ?_)
        obtain ⟨e_, rfl⟩ := h107
        replace e_ := e_.symm
        subst e_
        refine gJ_lret dX11_alerts_110 rfl ?_
        exact ⟨rfl, rfl⟩
      · refine gJ_tableIn (off := 110) (tgt := 111) dX11_alerts_1 (by decide) (by decide) (by decide) (by decide) ?_
        refine gJ_aload_n dX11_alerts_111 rfl rfl ?_
        refine gJ_get fX11_19 dX11_alerts_112 (by first | with_reducible assumption | with_reducible exact gUp_s | with_reducible exact gUp_n (by with_reducible assumption) (by omega) | exact gUp_n (by assumption) (by omega) | exact gUp_s | assumption) rfl ?_
        refine gJ_callV (As := []) b_X9_active lX11_193 i_X9_active s_X9_active dX11_alerts_115 (hAct) (by first | with_reducible assumption | with_reducible exact gUp_s | with_reducible exact gUp_n (by with_reducible assumption) (by omega) | exact gUp_n (by assumption) (by omega) | exact gUp_s | assumption) rfl rfl (Nat.le_of_ble_eq_true rfl) rfl (by decide) (fun M115 v_ h115 => ?_)
        obtain ⟨e_, rfl⟩ := h115
        replace e_ := e_.symm
        subst e_
        refine gJ_lret dX11_alerts_118 rfl ?_
        exact ⟨rfl, rfl⟩
      · refine gJ_tableIn (off := 118) (tgt := 119) dX11_alerts_1 (by decide) (by decide) (by decide) (by decide) ?_
        refine gJ_aload_n dX11_alerts_119 rfl rfl ?_
        refine gJ_get fX11_19 dX11_alerts_120 (by first | with_reducible assumption | with_reducible exact gUp_s | with_reducible exact gUp_n (by with_reducible assumption) (by omega) | exact gUp_n (by assumption) (by omega) | exact gUp_s | assumption) rfl ?_
        refine gJ_get fX11_37 dX11_alerts_123 (by first | with_reducible assumption | with_reducible exact gUp_s | with_reducible exact gUp_n (by with_reducible assumption) (by omega) | exact gUp_n (by assumption) (by omega) | exact gUp_s | assumption) rfl ?_
        refine gJ_callV (As := []) b_X7_holding lX11_214 i_X7_holding s_X7_holding dX11_alerts_126 (hHo) (by first | with_reducible assumption | with_reducible exact gUp_s | with_reducible exact gUp_n (by with_reducible assumption) (by omega) | exact gUp_n (by assumption) (by omega) | exact gUp_s | assumption) rfl rfl (Nat.le_of_ble_eq_true rfl) rfl (by decide) (fun M126 v_ h126 => ?_)
        obtain ⟨e_, rfl⟩ := h126
        replace e_ := e_.symm
        subst e_
        refine gJ_lret dX11_alerts_129 rfl ?_
        exact ⟨rfl, rfl⟩
  show gJ _ _ _ _ _ _ 0 [(0, _), (1, _)] [] _
  refine gJ_iload_n dX11_alerts_0 rfl rfl ?_
  exact sw
set_option maxHeartbeats 8000000 in
set_option maxRecDepth 20000 in
theorem c11_alert (h : cX M b V S IV IS hi U t) (hI : mI V) (hJ : mJ V) (r s w : Int32) : gCon G kX11_alert 4 0 0 M [.ref b, .int r, .int s, .int w] (fun M2 v => M2 = M ∧ v = some (.int (aAlert V r s w))) := by
  obtain ⟨h0, -, -, ⟨T, D, hT, hR⟩, -⟩ := h
  have hAct := c9_active (G := G) hR (by omega) hI hJ
  have hSil := c9_silenced (G := G) hR hI
  have hInh := fun a ha => c9_inhibitorsOf (G := G) hR hI hJ a ha
  have hFl := c9_flapping (G := G) hR (by omega) (fun _ => true)
  have hLs := fun a ha hp => c9_lowestSilenceOf (G := G) hR hI a ha hp
  have hWs := c9_windowStart (G := G) hR
  obtain ⟨hV, hs, ⟨X, RU, SI, IN, s0, s1, s2, s3, s4, s5, s6, s7, s8, sX, sR, sS, sN⟩, hA, -, -⟩ := hR
  have hHo := c7_holding (G := G) s0 s2 sX s3 s4 sR s8 hI
  have hok2 := cSi_ok sS
  obtain ⟨oa, hoa⟩ : ∃ o, M.1 (b + 3 + 10) = some (gO 0 o) := by obtain ⟨_, _, _, q0, -⟩ := hA; exact ⟨_, q0⟩
  have hE := c11_holdsEntry (G := G) 0 (by decide) (n := 5) (by omega) s4 r
  rw [show (mIn r 0 (nI (5 - 1)) && (RU r.toNatClampNeg).isSome) = mOne V 0 r from cSlots_one (kind := 0) (fun k hk => cOneR sR k hk) r] at hE
  refine gCon_of (by decide) (Nat.le_of_ble_eq_true rfl) ?_
  have sw : ∀ (r' s' : Nat), r' < 5 → s' < 12 → V (60 + 10 * r') = 1 → gJ G kX11_alert 4 0 0 M 35 [(4, .int (nI (r' * 12 + s'))), (0, .ref b), (1, .int (nI r')), (2, .int (nI s')), (3, .int w)] [.int w] (gQ kX11_alert (fun M2 v => M2 = M ∧ v = some (.int (if mIn w 0 10 = true then mAlertN V (r' * 12 + s') w.toNatClampNeg else -1)))) := by
    intro r' s' hr hs2 hp1
    have hS12 : (r' * 12 + s') % 12 = s' := by omega
    have hR12 : (r' * 12 + s') / 12 = r' := by omega
    obtain ⟨a, ea⟩ : ∃ a, a = r' * 12 + s' := ⟨_, rfl⟩
    rw [← ea] at hS12 hR12 ⊢
    have ha : a < 60 := by omega
    have hp : V (60 + 10 * (a / 12)) = 1 := by rw [hR12]; exact hp1
    cases hw : mIn w 0 10 with
    | false =>
      refine gJ_tableOut (tgt := 266) dX11_alert_35 (mIn_out (n := 10) (by decide) hw) (by decide) ?_
      rw [if_neg Bool.false_ne_true]
      refine gJ_iconst (v := -1) dX11_alert_266 (by decide) ?_
      refine gJ_iret dX11_alert_267 rfl ?_
      exact ⟨rfl, rfl⟩
    | true =>
      obtain ⟨z, hz1, hz0, rfl, hz3⟩ := mIn_nat (lo := 0) (hi := 10) hw (by decide)
      rw [if_pos rfl, hz3]
      rcases (show z = 0 ∨ z = 1 ∨ z = 2 ∨ z = 3 ∨ z = 4 ∨ z = 5 ∨ z = 6 ∨ z = 7 ∨ z = 8 ∨ z = 9 ∨ z = 10 by omega) with rfl | rfl | rfl | rfl | rfl | rfl | rfl | rfl | rfl | rfl | rfl
      · refine gJ_tableIn (off := 57) (tgt := 92) dX11_alert_35 (by decide) (by decide) (by decide) (by decide) ?_
        refine gJ_aload_n dX11_alert_92 rfl rfl ?_
        refine gJ_get fX11_19 dX11_alert_93 (by first | with_reducible assumption | with_reducible exact gUp_s | with_reducible exact gUp_n (by with_reducible assumption) (by omega) | exact gUp_n (by assumption) (by omega) | exact gUp_s | assumption) rfl ?_
        refine gJ_get fX11_124 dX11_alert_96 (by first | with_reducible assumption | with_reducible exact gUp_s | with_reducible exact gUp_n (by with_reducible assumption) (by omega) | exact gUp_n (by assumption) (by omega) | exact gUp_s | assumption) rfl ?_
        refine gJ_iload dX11_alert_99 rfl ?_
        refine gJ_callV (As := [_]) b_X0_stateOf lX11_169 i_X0_stateOf s_X0_stateOf dX11_alert_101 (c0_stateOf hA hI a ha) hoa rfl rfl (Nat.le_of_ble_eq_true rfl) rfl (by decide) (fun M101 v_ h101 => ?_)
        obtain ⟨e_, rfl⟩ := h101
        replace e_ := e_.symm
        subst e_
        refine gJ_iret dX11_alert_104 rfl ?_
        exact ⟨rfl, rfl⟩
      · refine gJ_tableIn (off := 70) (tgt := 105) dX11_alert_35 (by decide) (by decide) (by decide) (by decide) ?_
        refine gJ_aload_n dX11_alert_105 rfl rfl ?_
        refine gJ_get fX11_19 dX11_alert_106 (by first | with_reducible assumption | with_reducible exact gUp_s | with_reducible exact gUp_n (by with_reducible assumption) (by omega) | exact gUp_n (by assumption) (by omega) | exact gUp_s | assumption) rfl ?_
        refine gJ_get fX11_124 dX11_alert_109 (by first | with_reducible assumption | with_reducible exact gUp_s | with_reducible exact gUp_n (by with_reducible assumption) (by omega) | exact gUp_n (by assumption) (by omega) | exact gUp_s | assumption) rfl ?_
        refine gJ_iload dX11_alert_112 rfl ?_
        refine gJ_callV (As := [_]) b_X0_sinceOf lX11_172 i_X0_sinceOf s_X0_sinceOf dX11_alert_114 (c0_sinceOf hA hI a ha) hoa rfl rfl (Nat.le_of_ble_eq_true rfl) rfl (by decide) (fun M114 v_ h114 => ?_)
        obtain ⟨e_, rfl⟩ := h114
        replace e_ := e_.symm
        subst e_
        refine gJ_iret dX11_alert_117 rfl ?_
        exact ⟨rfl, rfl⟩
      · refine gJ_tableIn (off := 83) (tgt := 118) dX11_alert_35 (by decide) (by decide) (by decide) (by decide) ?_
        refine gJ_aload_n dX11_alert_118 rfl rfl ?_
        refine gJ_get fX11_19 dX11_alert_119 (by first | with_reducible assumption | with_reducible exact gUp_s | with_reducible exact gUp_n (by with_reducible assumption) (by omega) | exact gUp_n (by assumption) (by omega) | exact gUp_s | assumption) rfl ?_
        refine gJ_callV (As := []) b_X9_silenced lX11_175 i_X9_silenced s_X9_silenced dX11_alert_122 (hSil) (by first | with_reducible assumption | with_reducible exact gUp_s | with_reducible exact gUp_n (by with_reducible assumption) (by omega) | exact gUp_n (by assumption) (by omega) | exact gUp_s | assumption) rfl rfl (Nat.le_of_ble_eq_true rfl) rfl (by decide) (fun M122 v_ h122 => ?_)
        obtain ⟨e_, rfl⟩ := h122
        replace e_ := e_.symm
        subst e_
        refine gJ_iload dX11_alert_125 rfl ?_
        refine gJ_callS (As := [_, _]) b_X11_has lX11_179 i_X11_has dX11_alert_127 (c11_has _ a (by omega)) rfl (Nat.le_of_ble_eq_true rfl) rfl (by decide) (fun M127 v_ h127 => ?_)
        obtain ⟨e_, rfl⟩ := h127
        replace e_ := e_.symm
        subst e_
        rw [lS_b, decide_eq_true ha, Bool.true_and, cSild_is hp hok2, i_lt0]
        refine gJ_callS (As := [_]) b_X11_bit lX11_51 i_X11_bit dX11_alert_130 (c11_bit _) rfl (Nat.le_of_ble_eq_true rfl) rfl (by decide) (fun M130 v_ h130 => ?_)
        obtain ⟨e_, rfl⟩ := h130
        replace e_ := e_.symm
        subst e_
        refine gJ_iret dX11_alert_133 rfl ?_
        refine ⟨rfl, ?_⟩
        show some (Value.int (gb !decide (mSilOf V a < 0))) = some (Value.int (if mSilOf V a < 0 then 0 else 1))
        by_cases hz : mSilOf V a < 0
        · rw [if_pos hz, decide_eq_true hz]; rfl
        · rw [if_neg hz, decide_eq_false hz]; rfl
      · refine gJ_tableIn (off := 99) (tgt := 134) dX11_alert_35 (by decide) (by decide) (by decide) (by decide) ?_
        refine gJ_aload_n dX11_alert_134 rfl rfl ?_
        refine gJ_get fX11_19 dX11_alert_135 (by first | with_reducible assumption | with_reducible exact gUp_s | with_reducible exact gUp_n (by with_reducible assumption) (by omega) | exact gUp_n (by assumption) (by omega) | exact gUp_s | assumption) rfl ?_
        refine gJ_iload dX11_alert_138 rfl ?_
        refine gJ_callV (As := [_]) b_X9_inhibitorsOf lX11_183 i_X9_inhibitorsOf s_X9_inhibitorsOf dX11_alert_140 (hInh a ha) (by first | with_reducible assumption | with_reducible exact gUp_s | with_reducible exact gUp_n (by with_reducible assumption) (by omega) | exact gUp_n (by assumption) (by omega) | exact gUp_s | assumption) rfl rfl (Nat.le_of_ble_eq_true rfl) rfl (by decide) (fun M140 v_ h140 => ?_)
        obtain ⟨e_, rfl⟩ := h140
        replace e_ := e_.symm
        subst e_
        refine gJ_lconst (v := 0) dX11_alert_143 (by decide) ?_
        refine gJ_lcmp dX11_alert_144 ?_
        refine gJ_if_eq (tgt := 152) dX11_alert_145 (by decide) (fun c145 => ?_) (fun c145 => ?_)
        · refine gJ_iconst (v := 0) dX11_alert_152 (by decide) ?_
          show gJ _ _ _ _ _ _ _ _ (Value.int (gb false) :: _) _
          refine gJ_callS (As := [_]) b_X11_bit lX11_51 i_X11_bit dX11_alert_153 (c11_bit _) rfl (Nat.le_of_ble_eq_true rfl) rfl (by decide) (fun M153 v_ h153 => ?_)
          obtain ⟨e_, rfl⟩ := h153
          replace e_ := e_.symm
          subst e_
          refine gJ_iret dX11_alert_156 rfl ?_
          refine ⟨rfl, ?_⟩
          rw [lg_cmp_eq, cInh_any] at c145
          show _ = some (Value.int (if mInhOf V a < 0 then 0 else 1))
          rw [if_pos c145]
          rfl
        · refine gJ_iconst (v := 1) dX11_alert_148 (by decide) ?_
          show gJ _ _ _ _ _ _ _ _ (Value.int (gb true) :: _) _
          refine gJ_goto (tgt := 153) dX11_alert_149 (by decide) ?_
          refine gJ_callS (As := [_]) b_X11_bit lX11_51 i_X11_bit dX11_alert_153 (c11_bit _) rfl (Nat.le_of_ble_eq_true rfl) rfl (by decide) (fun M153 v_ h153 => ?_)
          obtain ⟨e_, rfl⟩ := h153
          replace e_ := e_.symm
          subst e_
          refine gJ_iret dX11_alert_156 rfl ?_
          refine ⟨rfl, ?_⟩
          rw [lg_cmp_eq, cInh_any] at c145
          show _ = some (Value.int (if mInhOf V a < 0 then 0 else 1))
          rw [if_neg c145]
          rfl
      · refine gJ_tableIn (off := 122) (tgt := 157) dX11_alert_35 (by decide) (by decide) (by decide) (by decide) ?_
        refine gJ_aload_n dX11_alert_157 rfl rfl ?_
        refine gJ_get fX11_19 dX11_alert_158 (by first | with_reducible assumption | with_reducible exact gUp_s | with_reducible exact gUp_n (by with_reducible assumption) (by omega) | exact gUp_n (by assumption) (by omega) | exact gUp_s | assumption) rfl ?_
        refine gJ_ldc2 (v := 1152921504606846975) dX11_alert_161 cX11_187 ?_
        rw [cAll_c]
        refine gJ_callV (As := [_]) b_X9_flapping lX11_189 i_X9_flapping s_X9_flapping dX11_alert_164 (hFl) (by first | with_reducible assumption | with_reducible exact gUp_s | with_reducible exact gUp_n (by with_reducible assumption) (by omega) | exact gUp_n (by assumption) (by omega) | exact gUp_s | assumption) rfl rfl (Nat.le_of_ble_eq_true rfl) rfl (by decide) (fun M164 v_ h164 => ?_)
        obtain ⟨e_, rfl⟩ := h164
        replace e_ := e_.symm
        subst e_
        refine gJ_iload dX11_alert_167 rfl ?_
        refine gJ_callS (As := [_, _]) b_X11_has lX11_179 i_X11_has dX11_alert_169 (c11_has _ a (by omega)) rfl (Nat.le_of_ble_eq_true rfl) rfl (by decide) (fun M169 v_ h169 => ?_)
        obtain ⟨e_, rfl⟩ := h169
        replace e_ := e_.symm
        subst e_
        rw [lS_b, decide_eq_true ha, Bool.true_and, Bool.true_and]
        refine gJ_callS (As := [_]) b_X11_bit lX11_51 i_X11_bit dX11_alert_172 (c11_bit _) rfl (Nat.le_of_ble_eq_true rfl) rfl (by decide) (fun M172 v_ h172 => ?_)
        obtain ⟨e_, rfl⟩ := h172
        replace e_ := e_.symm
        subst e_
        refine gJ_iret dX11_alert_175 rfl ?_
        exact ⟨rfl, rfl⟩
      · refine gJ_tableIn (off := 141) (tgt := 176) dX11_alert_35 (by decide) (by decide) (by decide) (by decide) ?_
        refine gJ_aload_n dX11_alert_176 rfl rfl ?_
        refine gJ_get fX11_19 dX11_alert_177 (by first | with_reducible assumption | with_reducible exact gUp_s | with_reducible exact gUp_n (by with_reducible assumption) (by omega) | exact gUp_n (by assumption) (by omega) | exact gUp_s | assumption) rfl ?_
        refine gJ_callV (As := []) b_X9_active lX11_193 i_X9_active s_X9_active dX11_alert_180 (hAct) (by first | with_reducible assumption | with_reducible exact gUp_s | with_reducible exact gUp_n (by with_reducible assumption) (by omega) | exact gUp_n (by assumption) (by omega) | exact gUp_s | assumption) rfl rfl (Nat.le_of_ble_eq_true rfl) rfl (by decide) (fun M180 v_ h180 => ?_)
        obtain ⟨e_, rfl⟩ := h180
        replace e_ := e_.symm
        subst e_
        refine gJ_iload dX11_alert_183 rfl ?_
        refine gJ_callS (As := [_, _]) b_X11_has lX11_179 i_X11_has dX11_alert_185 (c11_has _ a (by omega)) rfl (Nat.le_of_ble_eq_true rfl) rfl (by decide) (fun M185 v_ h185 => ?_)
        obtain ⟨e_, rfl⟩ := h185
        replace e_ := e_.symm
        subst e_
        rw [mActs, lS_b, decide_eq_true ha, Bool.true_and]
        refine gJ_callS (As := [_]) b_X11_bit lX11_51 i_X11_bit dX11_alert_188 (c11_bit _) rfl (Nat.le_of_ble_eq_true rfl) rfl (by decide) (fun M188 v_ h188 => ?_)
        obtain ⟨e_, rfl⟩ := h188
        replace e_ := e_.symm
        subst e_
        refine gJ_iret dX11_alert_191 rfl ?_
        exact ⟨rfl, rfl⟩
      · refine gJ_tableIn (off := 157) (tgt := 192) dX11_alert_35 (by decide) (by decide) (by decide) (by decide) ?_
        refine gJ_aload_n dX11_alert_192 rfl rfl ?_
        refine gJ_get fX11_19 dX11_alert_193 (by first | with_reducible assumption | with_reducible exact gUp_s | with_reducible exact gUp_n (by with_reducible assumption) (by omega) | exact gUp_n (by assumption) (by omega) | exact gUp_s | assumption) rfl ?_
        refine gJ_get fX11_124 dX11_alert_196 (by first | with_reducible assumption | with_reducible exact gUp_s | with_reducible exact gUp_n (by with_reducible assumption) (by omega) | exact gUp_n (by assumption) (by omega) | exact gUp_s | assumption) rfl ?_
        refine gJ_iload dX11_alert_199 rfl ?_
        refine gJ_aload_n dX11_alert_201 rfl rfl ?_
        refine gJ_get fX11_19 dX11_alert_202 (by first | with_reducible assumption | with_reducible exact gUp_s | with_reducible exact gUp_n (by with_reducible assumption) (by omega) | exact gUp_n (by assumption) (by omega) | exact gUp_s | assumption) rfl ?_
        refine gJ_callV (As := []) b_X9_windowStart lX11_196 i_X9_windowStart s_X9_windowStart dX11_alert_205 (hWs) (by first | with_reducible assumption | with_reducible exact gUp_s | with_reducible exact gUp_n (by with_reducible assumption) (by omega) | exact gUp_n (by assumption) (by omega) | exact gUp_s | assumption) rfl rfl (Nat.le_of_ble_eq_true rfl) rfl (by decide) (fun M205 v_ h205 => ?_)
        obtain ⟨e_, rfl⟩ := h205
        replace e_ := e_.symm
        subst e_
        refine gJ_callV (As := [_, _]) b_X0_transitionsAfter lX11_200 i_X0_transitionsAfter s_X0_transitionsAfter dX11_alert_208 (c0_transitionsAfter hA (fun _ _ => by omega) a ha _) hoa rfl rfl (Nat.le_of_ble_eq_true rfl) rfl (by decide) (fun M208 v_ h208 => ?_)
        obtain ⟨e_, rfl⟩ := h208
        replace e_ := e_.symm
        subst e_
        refine gJ_iret dX11_alert_211 rfl ?_
        exact ⟨rfl, rfl⟩
      · refine gJ_tableIn (off := 177) (tgt := 212) dX11_alert_35 (by decide) (by decide) (by decide) (by decide) ?_
        refine gJ_aload_n dX11_alert_212 rfl rfl ?_
        refine gJ_get fX11_19 dX11_alert_213 (by first | with_reducible assumption | with_reducible exact gUp_s | with_reducible exact gUp_n (by with_reducible assumption) (by omega) | exact gUp_n (by assumption) (by omega) | exact gUp_s | assumption) rfl ?_
        refine gJ_get fX11_37 dX11_alert_216 (by first | with_reducible assumption | with_reducible exact gUp_s | with_reducible exact gUp_n (by with_reducible assumption) (by omega) | exact gUp_n (by assumption) (by omega) | exact gUp_s | assumption) rfl ?_
        refine gJ_iload_n dX11_alert_219 rfl rfl ?_
        refine gJ_callV (As := [_]) b_X7_keyOf lX11_204 i_X7_keyOf s_X7_keyOf dX11_alert_220 (c7_keyOf s0 s1 s7 hI s' hs2) (by first | with_reducible assumption | with_reducible exact gUp_s | with_reducible exact gUp_n (by with_reducible assumption) (by omega) | exact gUp_n (by assumption) (by omega) | exact gUp_s | assumption) rfl rfl (Nat.le_of_ble_eq_true rfl) rfl (by decide) (fun M220 v_ h220 => ?_)
        obtain ⟨e_, rfl⟩ := h220
        replace e_ := e_.symm
        subst e_
        refine gJ_iret dX11_alert_223 rfl ?_
        refine ⟨rfl, ?_⟩
        show _ = some (Value.int (mKey V a))
        rw [mKey_N hI ha, hS12]
      · refine gJ_tableIn (off := 189) (tgt := 224) dX11_alert_35 (by decide) (by decide) (by decide) (by decide) ?_
        refine gJ_aload_n dX11_alert_224 rfl rfl ?_
        refine gJ_get fX11_19 dX11_alert_225 (by first | with_reducible assumption | with_reducible exact gUp_s | with_reducible exact gUp_n (by with_reducible assumption) (by omega) | exact gUp_n (by assumption) (by omega) | exact gUp_s | assumption) rfl ?_
        refine gJ_iload dX11_alert_228 rfl ?_
        refine gJ_callV (As := [_]) b_X9_lowestSilenceOf lX11_207 i_X9_lowestSilenceOf s_X9_lowestSilenceOf dX11_alert_230 (hLs a ha hp) (by first | with_reducible assumption | with_reducible exact gUp_s | with_reducible exact gUp_n (by with_reducible assumption) (by omega) | exact gUp_n (by assumption) (by omega) | exact gUp_s | assumption) rfl rfl (Nat.le_of_ble_eq_true rfl) rfl (by decide) (fun M230 v_ h230 => ?_)
        obtain ⟨e_, rfl⟩ := h230
        replace e_ := e_.symm
        subst e_
        refine gJ_iret dX11_alert_233 rfl ?_
        exact ⟨rfl, rfl⟩
      · refine gJ_tableIn (off := 199) (tgt := 234) dX11_alert_35 (by decide) (by decide) (by decide) (by decide) ?_
        refine gJ_aload_n dX11_alert_234 rfl rfl ?_
        refine gJ_get fX11_19 dX11_alert_235 (by first | with_reducible assumption | with_reducible exact gUp_s | with_reducible exact gUp_n (by with_reducible assumption) (by omega) | exact gUp_n (by assumption) (by omega) | exact gUp_s | assumption) rfl ?_
        refine gJ_iload dX11_alert_238 rfl ?_
        refine gJ_callV (As := [_]) b_X9_inhibitorsOf lX11_183 i_X9_inhibitorsOf s_X9_inhibitorsOf dX11_alert_240 (hInh a ha) (by first | with_reducible assumption | with_reducible exact gUp_s | with_reducible exact gUp_n (by with_reducible assumption) (by omega) | exact gUp_n (by assumption) (by omega) | exact gUp_s | assumption) rfl rfl (Nat.le_of_ble_eq_true rfl) rfl (by decide) (fun M240 v_ h240 => ?_)
        obtain ⟨e_, rfl⟩ := h240
        replace e_ := e_.symm
        subst e_
        refine gJ_callS (As := [_]) b_X11_lowest lX11_210 i_X11_lowest dX11_alert_243 (c11_lowest _ (fun c hc => lS_big hc)) rfl (Nat.le_of_ble_eq_true rfl) rfl (by decide) (fun M243 v_ h243 => ?_)
        obtain ⟨e_, rfl⟩ := h243
        replace e_ := e_.symm
        subst e_
        refine gJ_iret dX11_alert_246 rfl ?_
        refine ⟨rfl, ?_⟩
        rw [cInh_first]
        rfl
      · refine gJ_tableIn (off := 212) (tgt := 247) dX11_alert_35 (by decide) (by decide) (by decide) (by decide) ?_
        refine gJ_aload_n dX11_alert_247 rfl rfl ?_
        refine gJ_get fX11_19 dX11_alert_248 (by first | with_reducible assumption | with_reducible exact gUp_s | with_reducible exact gUp_n (by with_reducible assumption) (by omega) | exact gUp_n (by assumption) (by omega) | exact gUp_s | assumption) rfl ?_
        refine gJ_get fX11_37 dX11_alert_251 (by first | with_reducible assumption | with_reducible exact gUp_s | with_reducible exact gUp_n (by with_reducible assumption) (by omega) | exact gUp_n (by assumption) (by omega) | exact gUp_s | assumption) rfl ?_
        refine gJ_callV (As := []) b_X7_holding lX11_214 i_X7_holding s_X7_holding dX11_alert_254 (hHo) (by first | with_reducible assumption | with_reducible exact gUp_s | with_reducible exact gUp_n (by with_reducible assumption) (by omega) | exact gUp_n (by assumption) (by omega) | exact gUp_s | assumption) rfl rfl (Nat.le_of_ble_eq_true rfl) rfl (by decide) (fun M254 v_ h254 => ?_)
        obtain ⟨e_, rfl⟩ := h254
        replace e_ := e_.symm
        subst e_
        refine gJ_iload dX11_alert_257 rfl ?_
        refine gJ_callS (As := [_, _]) b_X11_has lX11_179 i_X11_has dX11_alert_259 (c11_has _ a (by omega)) rfl (Nat.le_of_ble_eq_true rfl) rfl (by decide) (fun M259 v_ h259 => ?_)
        obtain ⟨e_, rfl⟩ := h259
        replace e_ := e_.symm
        subst e_
        rw [lS_b, decide_eq_true ha, Bool.true_and]
        refine gJ_callS (As := [_]) b_X11_bit lX11_51 i_X11_bit dX11_alert_262 (c11_bit _) rfl (Nat.le_of_ble_eq_true rfl) rfl (by decide) (fun M262 v_ h262 => ?_)
        obtain ⟨e_, rfl⟩ := h262
        replace e_ := e_.symm
        subst e_
        refine gJ_iret dX11_alert_265 rfl ?_
        exact ⟨rfl, rfl⟩
  show gJ _ _ _ _ _ _ 0 [(0, _), (1, _), (2, _), (3, _)] [] _
  refine gJ_aload_n dX11_alert_0 rfl rfl ?_
  refine gJ_get fX11_19 dX11_alert_1 (by first | with_reducible assumption | with_reducible exact gUp_s | with_reducible exact gUp_n (by with_reducible assumption) (by omega) | exact gUp_n (by assumption) (by omega) | exact gUp_s | assumption) rfl ?_
  refine gJ_get fX11_37 dX11_alert_4 (by first | with_reducible assumption | with_reducible exact gUp_s | with_reducible exact gUp_n (by with_reducible assumption) (by omega) | exact gUp_n (by assumption) (by omega) | exact gUp_s | assumption) rfl ?_
  refine gJ_get fX11_165 dX11_alert_7 (by first | with_reducible assumption | with_reducible exact gUp_s | with_reducible exact gUp_n (by with_reducible assumption) (by omega) | exact gUp_n (by assumption) (by omega) | exact gUp_s | assumption) rfl ?_
  refine gJ_iload_n dX11_alert_10 rfl rfl ?_
  refine gJ_callS (As := [_, _]) b_X11_holdsEntry lX11_120 i_X11_holdsEntry dX11_alert_11 (hE) rfl (Nat.le_of_ble_eq_true rfl) rfl (by decide) (fun M11 v_ h11 => ?_)
  obtain ⟨e_, rfl⟩ := h11
  replace e_ := e_.symm
  subst e_
  refine gJ_if_eqB (tgt := 24) dX11_alert_14 (by decide) (fun c14 => ?_) (fun c14 => ?_)
  · refine gJ_iconst (v := -1) dX11_alert_24 (by decide) ?_
    refine gJ_iret dX11_alert_25 rfl ?_
    refine ⟨rfl, ?_⟩
    rw [aAlert, c14, Bool.false_and]
    rfl
  · refine gJ_iload_n dX11_alert_17 rfl rfl ?_
    refine gJ_callS (As := [_]) b_X11_isSeries lX11_29 i_X11_isSeries dX11_alert_18 (c11_isSeries s) rfl (Nat.le_of_ble_eq_true rfl) rfl (by decide) (fun M18 v_ h18 => ?_)
    obtain ⟨e_, rfl⟩ := h18
    replace e_ := e_.symm
    subst e_
    refine gJ_if_neB (tgt := 26) dX11_alert_21 (by decide) (fun c21 => ?_) (fun c21 => ?_)
    · have hr0 : mIn r 0 (nI 4) = true := (by cases hz : mIn r 0 (nI 4) with | true => rfl | false => rw [mOne, show mIn r 0 (nI (mMst 0 - 1)) = false from hz] at c14; cases c14)
      obtain ⟨r', hr1, -, hr2, hr3⟩ := mIn_nat (lo := 0) (hi := 4) hr0 (by decide)
      subst hr2
      obtain ⟨s', hs1, -, hs2, hs3⟩ := mIn_nat (lo := 0) (hi := 11) c21 (by decide)
      subst hs2
      have hp1 : V (60 + 10 * r') = 1 := (by have hz := c14; rw [mOne, Bool.and_eq_true, hr3] at hz; exact of_decide_eq_true hz.2)
      have hAl : aAlert V (nI r') (nI s') w = (if mIn w 0 10 = true then mAlertN V (r' * 12 + s') w.toNatClampNeg else -1) := (by rw [aAlert, c14, c21, hr3, hs3, Bool.true_and, Bool.true_and, show 12 * r' + s' = r' * 12 + s' by omega])
      refine gJ_iload_n dX11_alert_26 rfl rfl ?_
      refine gJ_bipush (v := 12) dX11_alert_27 (by decide) ?_
      refine gJ_imulN (a := r') (b := 12) dX11_alert_29 (by first | with_reducible rfl | rfl) (by first | with_reducible rfl | rfl) ?_
      refine gJ_iload_n dX11_alert_30 rfl rfl ?_
      refine gJ_iaddN (a := (r' * 12)) (b := s') dX11_alert_31 (by first | with_reducible rfl | rfl) (by first | with_reducible rfl | rfl) ?_
      refine gJ_istore (lv2 := [(4, _), (0, _), (1, _), (2, _), (3, _)]) dX11_alert_32 rfl rfl ?_
      refine gJ_iload_n dX11_alert_34 rfl rfl ?_
      rw [hAl]
      exact gJ_ls (sw r' s' (by omega) (by omega) hp1) ⟨rfl, rfl, rfl, rfl, rfl, trivial⟩
    · refine gJ_iconst (v := -1) dX11_alert_24 (by decide) ?_
      refine gJ_iret dX11_alert_25 rfl ?_
      refine ⟨rfl, ?_⟩
      rw [aAlert, c21, Bool.false_and, Bool.and_false]
      rfl
end CLS
