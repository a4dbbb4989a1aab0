section CLS
variable {G : gG} {M : gM} {b t : Nat} {V IV : Nat → Int32} {S IS : Nat → Int64} {hi : Bool} {U : Nat → Int32}
theorem aParB_is {z : Nat} (hz : z < 5) (x : Int32) : aParB z x = mIn x ((gSt 2).2.2 z) ((gSt 3).2.2 z) := by
  rcases (show z = 0 ∨ z = 1 ∨ z = 2 ∨ z = 3 ∨ z = 4 by omega) with rfl | rfl | rfl | rfl | rfl <;> rfl
set_option maxHeartbeats 1000000 in
set_option maxRecDepth 20000 in
theorem c11_parameter (h : cX M b V S IV IS hi U t) (hI : mI V) (w x : Int32) : gCon G kX11_parameter 1 0 0 M [.ref b, .int w, .int x] (fun M2 v => gFr M M2 b 66 ∧ cX M2 b (aPar (V, S) w x).2.1 (aPar (V, S) w x).2.2 IV IS hi U t ∧ v = some (.int (aPar (V, S) w x).1)) := by
  have h' := h
  obtain ⟨h0, -, -, ⟨T, D, hT, hV, hs, hS, hA, hG, hL⟩, -⟩ := h
  have hS' := hS
  obtain ⟨X, RU, SI, IN, s0, s1, s2, s3, s4, s5, s6, s7, s8, sX, sR, sS, sN⟩ := hS
  obtain ⟨og, hog⟩ : ∃ o, M.1 (b + 17) = some (gO 1 o) := by obtain ⟨_, _, q0, -⟩ := hG; exact ⟨_, q0⟩
  refine gCon_of (by decide) (Nat.le_of_ble_eq_true rfl) ?_
  have e5 : ((5 : Int32) ≤ w) ↔ ¬ w ≤ 4 := by
    rw [Int32.not_le, Int32.le_iff_toInt_le, Int32.lt_iff_toInt_lt]
    have e1 : (4 : Int32).toInt = 4 := by decide
    have e2 : (5 : Int32).toInt = 5 := by decide
    omega
  have main : ∀ z : Nat, z < 5 → gJ G kX11_parameter 1 0 0 M 11 [(0, .ref b), (1, .int (nI z)), (2, .int x)] [] (gQ kX11_parameter (fun M2 v => gFr M M2 b 66 ∧ cX M2 b (aPar (V, S) (nI z) x).2.1 (aPar (V, S) (nI z) x).2.2 IV IS hi U t ∧ v = some (.int (aPar (V, S) (nI z) x).1))) := by
    intro z hz
    have hin4 : mIn (nI z) 0 4 = true := by rw [mIn, decide_eq_true (nI_pos' (by omega) : (0 : Int32) ≤ nI z), decide_eq_true (show nI z ≤ (4 : Int32) from (nI_leI (b := 4) (by omega) (by decide)).mpr (by omega))]; rfl
    have hA' : aPar (V, S) (nI z) x = if aParB z x = true then (V (1842 + z), aParT (V, S) z x) else (-2, (V, S)) := by
      unfold aPar
      rw [if_pos hin4, nI_clamp (by omega)]
    rw [hA', aParB_is hz]
    have hp := cPar_at (V := V) hz
    have hup := cPar_up (V := V) (x := x) hz
    have hpl : (gSt 2).2.1 = 5 := rfl
    have stores : ∀ M1 : gM, M1 = gUp M (b + 4 + 7) (gI 5 (upd (cPar V) z x)) → gFr M M1 (b + 4) 9 ∧ cRS M1 (b + 75) (b + 4) (upd V (1842 + z) x) := by
      intro M1 hM1
      subst hM1
      have hf : gFr M (gUp M (b + 4 + 7) (gI 5 (upd (cPar V) z x))) (b + 4) 9 := gFr_u gFr_r (by omega)
      have hk := gFr_kp hf (E := b + 75) (by omega)
      have lo : ∀ i, i < 1842 → upd V (1842 + z) x i = V i := fun i hi => pk_un (by omega)
      refine ⟨hf, X, RU, SI, IN, gUp_n s0 (by omega), by rw [cLab_V (fun i hi => lo i (by omega))]; exact gUp_n s1 (by omega), gUp_n s2 (by omega), by rw [cHas_V (fun i hi => lo i (by omega))]; exact gUp_n s3 (by omega), gUp_n s4 (by omega), gUp_n s5 (by omega), gUp_n s6 (by omega), by rw [← hup]; exact gUp_s, by rw [cSets_V (fun i hi => lo i (by omega))]; exact gUp_n s8 (by omega), fun j hj hz => by rw [lo _ (by omega)] at hz ⊢; exact sX j hj hz, fun r hr => cRul_kp (cRul_V (sR r hr) hr hI (fun i hi => lo i (by omega))) hk, fun r hr => cSil_kp (cSil_V (sS r hr) hr hI (fun i hi => lo i (by omega))) hk, fun r hr => cInh_kp (cInh_V (sN r hr) hr hI (fun i hi => lo i (by omega))) hk⟩
    obtain ⟨hf1, hS1⟩ := stores _ rfl
    have plain : cX (gUp M (b + 4 + 7) (gI 5 (upd (cPar V) z x))) b (upd V (1842 + z) x) S IV IS hi U t := cX_setup h' hf1 hS1 (fun i h1 h2 => pk_un (by omega))
    have hG1 := cRG_fr hG hf1 (by omega)
    have clr : ∀ W, W = mClr (upd V (1842 + z) x) → ∀ M2 : gM, gFr (gUp M (b + 4 + 7) (gI 5 (upd (cPar V) z x))) M2 (b + 17) 5 → cRG M2 (b + 17) W (fun _ => 0) D → cX M2 b W (fun _ => 0) IV IS hi U t := by
      intro W hW M2 hf2 hG2
      have wlo : ∀ i, i < 1586 ∨ 1842 ≤ i → W i = upd V (1842 + z) x i := fun i hi => by rw [hW, mClr, if_neg (by omega)]
      have wv : ∀ i, (i < 1586 ∨ 1847 ≤ i) → W i = V i := fun i hi => by rw [wlo i (by omega), pk_un (by omega)]
      refine cX_now (cX_setup h' hf1 hS1 (fun i h1 h2 => pk_un (by omega))) (gFr_w hf2 (by omega) (by omega)) ⟨T, D, hT, by rw [wv _ (by omega)]; exact hV, ?_, ?_, ?_, hG2, ?_⟩
      · rw [wv _ (by omega)]; exact gFr_g hf2 (gFr_g hf1 hs (by omega)) (by omega)
      · have w206 : ∀ i, i < 206 → W i = V i := fun i hi => wv i (by omega)
        have hk : gKp M M2 (b + 75) := fun q c hq hc => gFr_kp hf2 (E := b + 75) (by omega) q c hq (gFr_kp hf1 (E := b + 75) (by omega) q c hq hc)
        refine ⟨X, RU, SI, IN, gFr_g hf2 (gUp_n s0 (by omega)) (by omega), by rw [cLab_V w206]; exact gFr_g hf2 (gUp_n s1 (by omega)) (by omega), gFr_g hf2 (gUp_n s2 (by omega)) (by omega), by rw [cHas_V w206]; exact gFr_g hf2 (gUp_n s3 (by omega)) (by omega), gFr_g hf2 (gUp_n s4 (by omega)) (by omega), gFr_g hf2 (gUp_n s5 (by omega)) (by omega), gFr_g hf2 (gUp_n s6 (by omega)) (by omega), by rw [cPar_V (fun i h1 h2 => wlo i (by omega)), ← hup]; exact gFr_g hf2 gUp_s (by omega), by rw [cSets_V w206]; exact gFr_g hf2 (gUp_n s8 (by omega)) (by omega), fun j hj hz => by rw [w206 _ (by omega)] at hz ⊢; exact sX j hj hz, fun r hr => cRul_kp (cRul_V (sR r hr) hr hI w206) hk, fun r hr => cSil_kp (cSil_V (sS r hr) hr hI w206) hk, fun r hr => cInh_kp (cInh_V (sN r hr) hr hI w206) hk⟩
      · exact cRA_V (cRA_fr (cRA_fr hA hf1 (by omega)) hf2 (by omega)) (fun i h1 h2 => wv i (by omega))
      · exact cRL_V (cRL_fr (cRL_fr hL hf1 (by omega)) hf2 (by omega)) (fun i h1 h2 => wv i (by omega))
    have clr0 : z = 4 → ∀ k, k < 128 → (mClr (upd V (1842 + z) x)) (1586 + 2 * k) = 0 := fun _ k hk => by rw [mClr, if_pos (by omega)]
    have hFo := c2_forgetAll (G := G) (W := mClr (upd V (1842 + z) x)) (S2 := fun _ => 0) hG1 (fun k hk => by rw [mClr, if_pos (by omega)])
    have hs1 : (gUp M (b + 4 + 7) (gI 5 (upd (cPar V) z x))).1 b = some (cAE b hi) := gUp_n h0 (by omega)
    have hst : (gUp M (b + 4 + 7) (gI 5 (upd (cPar V) z x))).1 (b + 3) = some (cSta (b + 3) (V 1847)) := gUp_n hs (by omega)
    have hog1 : (gUp M (b + 4 + 7) (gI 5 (upd (cPar V) z x))).1 (b + 17) = some (gO 1 og) := gUp_n hog (by omega)
    refine gJ_iload_n dX11_parameter_11 rfl rfl ?_
    refine gJ_gets (q := 2) (by decide) gX11_136 dX11_parameter_12 ?_
    refine gJ_iload_n dX11_parameter_15 rfl rfl ?_
    refine gJ_taldN (j := z) dX11_parameter_16 (q := 2) (by decide) (by first | with_reducible rfl | rfl) (show z < 5 by omega) (by decide) ?_
    refine gJ_icmp_lt (tgt := 29) dX11_parameter_17 (by decide) (fun c17 => ?_) (fun c17 => ?_)
    · refine gJ_bipush (v := -2) dX11_parameter_29 (by decide) ?_
      refine gJ_iret dX11_parameter_31 rfl ?_
      rw [if_neg (by rw [mIn, decide_eq_false (Int32.not_le.mpr c17), Bool.false_and]; exact Bool.false_ne_true)]
      exact ⟨gFr_r, h', rfl⟩
    · refine gJ_iload_n dX11_parameter_20 rfl rfl ?_
      refine gJ_gets (q := 3) (by decide) gX11_139 dX11_parameter_21 ?_
      refine gJ_iload_n dX11_parameter_24 rfl rfl ?_
      refine gJ_taldN (j := z) dX11_parameter_25 (q := 3) (by decide) (by first | with_reducible rfl | rfl) (show z < 5 by omega) (by decide) ?_
      refine gJ_icmp_le (tgt := 32) dX11_parameter_26 (by decide) (fun c26 => ?_) (fun c26 => ?_)
      · have hinx : mIn x ((gSt 2).2.2 z) ((gSt 3).2.2 z) = true := (by rw [mIn, decide_eq_true (Int32.not_lt.mp c17), decide_eq_true c26]; rfl)
        refine gJ_aload_n dX11_parameter_32 rfl rfl ?_
        refine gJ_get fX11_19 dX11_parameter_33 (by first | with_reducible assumption | with_reducible exact gUp_s | with_reducible exact gUp_n (by with_reducible assumption) (by omega) | exact gUp_n (by assumption) (by omega) | exact gUp_s | assumption) rfl ?_
        refine gJ_get fX11_37 dX11_parameter_36 (by first | with_reducible assumption | with_reducible exact gUp_s | with_reducible exact gUp_n (by with_reducible assumption) (by omega) | exact gUp_n (by assumption) (by omega) | exact gUp_s | assumption) rfl ?_
        refine gJ_get fX11_142 dX11_parameter_39 (by first | with_reducible assumption | with_reducible exact gUp_s | with_reducible exact gUp_n (by with_reducible assumption) (by omega) | exact gUp_n (by assumption) (by omega) | exact gUp_s | assumption) rfl ?_
        refine gJ_iload_n dX11_parameter_42 rfl rfl ?_
        refine gJ_ialdN (j := z) dX11_parameter_43 (by first | with_reducible assumption | with_reducible exact gUp_s | with_reducible exact gUp_n (by with_reducible assumption) (by omega) | exact gUp_n (by assumption) (by omega) | exact gUp_s | assumption) (by first | with_reducible rfl | rfl) (by omega) (by decide) ?_
        rw [hp]
        refine gJ_istore_n (lv2 := [(3, _), (0, _), (1, _), (2, _)]) dX11_parameter_44 rfl rfl rfl ?_
        refine gJ_aload_n dX11_parameter_45 rfl rfl ?_
        refine gJ_get fX11_19 dX11_parameter_46 (by first | with_reducible assumption | with_reducible exact gUp_s | with_reducible exact gUp_n (by with_reducible assumption) (by omega) | exact gUp_n (by assumption) (by omega) | exact gUp_s | assumption) rfl ?_
        refine gJ_get fX11_37 dX11_parameter_49 (by first | with_reducible assumption | with_reducible exact gUp_s | with_reducible exact gUp_n (by with_reducible assumption) (by omega) | exact gUp_n (by assumption) (by omega) | exact gUp_s | assumption) rfl ?_
        refine gJ_get fX11_142 dX11_parameter_52 (by first | with_reducible assumption | with_reducible exact gUp_s | with_reducible exact gUp_n (by with_reducible assumption) (by omega) | exact gUp_n (by assumption) (by omega) | exact gUp_s | assumption) rfl ?_
        refine gJ_iload_n dX11_parameter_55 rfl rfl ?_
        refine gJ_iload_n dX11_parameter_56 rfl rfl ?_
        refine gJ_iastN (j := z) dX11_parameter_57 (by assumption) (by first | with_reducible rfl | rfl) (by omega) (by decide) ?_
        try rw [gUp_up]
        refine gJ_iload_n dX11_parameter_58 rfl rfl ?_
        refine gJ_iconst (v := 4) dX11_parameter_59 (by decide) ?_
        refine gJ_icmp_neN (tgt := 78) (a := z) (b := 4) (by first | with_reducible rfl | rfl) (by first | with_reducible rfl | rfl) (by omega) (by omega) dX11_parameter_60 (by decide) (fun c60 => ?_) (fun c60 => ?_)
        · refine gJ_iload_n dX11_parameter_78 rfl rfl ?_
          refine gJ_iret dX11_parameter_79 rfl ?_
          rw [if_pos hinx]
          have hT' : aParT (V, S) z x = (upd V (1842 + z) x, S) := if_neg (fun h => c60 h.1)
          rw [hT']
          exact ⟨gFr_w hf1 (by omega) (by omega), plain, rfl⟩
        · refine gJ_iload_n dX11_parameter_63 rfl rfl ?_
          refine gJ_iload_n dX11_parameter_64 rfl rfl ?_
          refine gJ_icmp_eq (tgt := 78) dX11_parameter_65 (by decide) (fun c65 => ?_) (fun c65 => ?_)
          · refine gJ_iload_n dX11_parameter_78 rfl rfl ?_
            refine gJ_iret dX11_parameter_79 rfl ?_
            rw [if_pos hinx]
            have hT' : aParT (V, S) z x = (upd V (1842 + z) x, S) := if_neg (fun h => h.2 c65.symm)
            rw [hT']
            exact ⟨gFr_w hf1 (by omega) (by omega), plain, rfl⟩
          · refine gJ_aload_n dX11_parameter_68 rfl rfl ?_
            refine gJ_get fX11_19 dX11_parameter_69 (by first | with_reducible assumption | with_reducible exact gUp_s | with_reducible exact gUp_n (by with_reducible assumption) (by omega) | exact gUp_n (by assumption) (by omega) | exact gUp_s | assumption) rfl ?_
            refine gJ_get fX11_145 dX11_parameter_72 (by first | with_reducible assumption | with_reducible exact gUp_s | with_reducible exact gUp_n (by with_reducible assumption) (by omega) | exact gUp_n (by assumption) (by omega) | exact gUp_s | assumption) rfl ?_
            refine gJ_callV (As := []) b_X2_forgetAll lX11_149 i_X2_forgetAll s_X2_forgetAll dX11_parameter_75 (hFo) hog1 rfl rfl (Nat.le_of_ble_eq_true rfl) rfl (by decide) (fun M75 v_ h75 => ?_)
            obtain ⟨hf75, hG75, rfl⟩ := h75
            refine gJ_iload_n dX11_parameter_78 rfl rfl ?_
            refine gJ_iret dX11_parameter_79 rfl ?_
            rw [if_pos hinx]
            have hT' : aParT (V, S) z x = (mClr (upd V (1842 + z) x), fun _ => 0) := if_pos ⟨by omega, fun h => c65 h.symm⟩
            rw [hT']
            exact ⟨gFr_t (gFr_w hf1 (by omega) (by omega)) (gFr_w hf75 (by omega) (by omega)), clr _ rfl _ hf75 hG75, rfl⟩
      · refine gJ_bipush (v := -2) dX11_parameter_29 (by decide) ?_
        refine gJ_iret dX11_parameter_31 rfl ?_
        rw [if_neg (by rw [mIn, decide_eq_false c26, Bool.and_false]; exact Bool.false_ne_true)]
        exact ⟨gFr_r, h', rfl⟩
  show gJ _ _ _ _ _ _ 0 [(0, _), (1, _), (2, _)] [] _
  refine gJ_iload_n dX11_parameter_0 rfl rfl ?_
  refine gJ_if_lt (tgt := 9) dX11_parameter_1 (by decide) (fun c1 => ?_) (fun c1 => ?_)
  · refine gJ_iconst (v := -1) dX11_parameter_9 (by decide) ?_
    refine gJ_iret dX11_parameter_10 rfl ?_
    have hA' : aPar (V, S) w x = (-1, (V, S)) := by rw [aPar, if_neg (by rw [mIn, decide_eq_false (Int32.not_le.mpr c1), Bool.false_and]; exact Bool.false_ne_true)]
    rw [hA']
    exact ⟨gFr_r, h', rfl⟩
  · refine gJ_iload_n dX11_parameter_4 rfl rfl ?_
    refine gJ_iconst (v := 5) dX11_parameter_5 (by decide) ?_
    refine gJ_icmp_lt (tgt := 11) dX11_parameter_6 (by decide) (fun c6 => ?_) (fun c6 => ?_)
    · have hw4 : mIn w 0 4 = true := (by rw [mIn, decide_eq_true (Int32.not_lt.mp c1), decide_eq_true (Classical.not_not.mp (fun h => Int32.not_lt.mpr (e5.mpr h) c6))]; rfl)
      obtain ⟨z, hz1, hz0, rfl, hz3⟩ := mIn_nat (lo := 0) (hi := 4) hw4 (by decide)
      exact gJ_ls (main z (by omega)) ⟨rfl, rfl, rfl, trivial⟩
    · refine gJ_iconst (v := -1) dX11_parameter_9 (by decide) ?_
      refine gJ_iret dX11_parameter_10 rfl ?_
      have hA' : aPar (V, S) w x = (-1, (V, S)) := by rw [aPar, if_neg (by rw [mIn, decide_eq_false (e5.mp (Int32.not_lt.mp c6)), Bool.and_false]; exact Bool.false_ne_true)]
      rw [hA']
      exact ⟨gFr_r, h', rfl⟩
set_option maxHeartbeats 1000000 in
set_option maxRecDepth 20000 in
theorem c11_pass (h : cX M b V S IV IS hi U t) (hI : mI V) (hJ : mJ V) (x : Int32) : gCon G kX11_pass 6 0 0 M [.ref b, .int x] (fun M2 v => gFr M M2 b 66 ∧ cX M2 b (aPass (V, S) x).2.1 (aPass (V, S) x).2.2 IV IS hi U t ∧ v = some (.int (aPass (V, S) x).1)) := by
  have h' := h
  obtain ⟨h0, -, -, ⟨T, D, hT, hR⟩, -⟩ := h
  have hs := hR.2.1
  have hV := hR.1
  refine gCon_of (by decide) (Nat.le_of_ble_eq_true rfl) ?_
  show gJ _ _ _ _ _ _ 0 [(0, _), (1, _)] [] _
  refine gJ_iload_n dX11_pass_0 rfl rfl ?_
  refine gJ_callS (As := [_]) b_X11_isSpan lX11_154 i_X11_isSpan dX11_pass_1 (c11_isSpan x) rfl (Nat.le_of_ble_eq_true rfl) rfl (by decide) (fun M1 v_ h1 => ?_)
  obtain ⟨e_, rfl⟩ := h1
  replace e_ := e_.symm
  subst e_
  refine gJ_if_neB (tgt := 10) dX11_pass_4 (by decide) (fun c4 => ?_) (fun c4 => ?_)
  · obtain ⟨n, hn1, hn0, hn2, hn3⟩ := mIn_nat (lo := 1) (hi := 100) c4 (by decide)
    subst hn2
    refine gJ_aload_n dX11_pass_10 rfl rfl ?_
    refine gJ_get fX11_19 dX11_pass_11 (by first | with_reducible assumption | with_reducible exact gUp_s | with_reducible exact gUp_n (by with_reducible assumption) (by omega) | exact gUp_n (by assumption) (by omega) | exact gUp_s | assumption) rfl ?_
    refine gJ_get fX11_157 dX11_pass_14 (by first | with_reducible assumption | with_reducible exact gUp_s | with_reducible exact gUp_n (by with_reducible assumption) (by omega) | exact gUp_n (by assumption) (by omega) | exact gUp_s | assumption) rfl ?_
    refine gJ_iload_n dX11_pass_17 rfl rfl ?_
    refine gJ_iadd dX11_pass_18 ?_
    refine gJ_ldc (v := 99999) dX11_pass_19 cX11_160 ?_
    refine gJ_icmp_le (tgt := 27) dX11_pass_21 (by decide) (fun c21 => ?_) (fun c21 => ?_)
    · refine gJ_aload_n dX11_pass_27 rfl rfl ?_
      refine gJ_get fX11_19 dX11_pass_28 (by first | with_reducible assumption | with_reducible exact gUp_s | with_reducible exact gUp_n (by with_reducible assumption) (by omega) | exact gUp_n (by assumption) (by omega) | exact gUp_s | assumption) rfl ?_
      refine gJ_iload_n dX11_pass_31 rfl rfl ?_
      refine gJ_callV (As := [_]) b_X9_steps lX11_161 i_X9_steps s_X9_steps dX11_pass_32 (c9_steps hR (by omega) n hn1 (by omega) hI hJ) (by first | with_reducible assumption | with_reducible exact gUp_s | with_reducible exact gUp_n (by with_reducible assumption) (by omega) | exact gUp_n (by assumption) (by omega) | exact gUp_s | assumption) rfl rfl (Nat.le_of_ble_eq_true rfl) rfl (by decide) (fun M32 v_ h32 => ?_)
      obtain ⟨hf32, ⟨D2, hR2⟩, e32⟩ := h32
      subst e32
      refine gJ_iret dX11_pass_35 rfl ?_
      have hA : aPass (V, S) (nI n) = (mTot (V, S) n, mIt (V, S) n) := by rw [aPass, c4, if_pos rfl, if_pos c21, hn3]
      rw [hA]
      have hTn : T + n ≤ 99999 := (by have h2 : V 1847 + nI n = nI (T + n) := (by rw [hV, nI_add]); rw [h2] at c21; exact (nI_leI (b := 99999) (by omega) (by decide)).mp c21)
      exact ⟨gFr_w hf32 (by omega) (by omega), cX_now h' hf32 ⟨T + n, D2, hTn, hR2⟩, rfl⟩
    · refine gJ_bipush (v := -4) dX11_pass_24 (by decide) ?_
      refine gJ_iret dX11_pass_26 rfl ?_
      have hA : aPass (V, S) (nI n) = (-4, (V, S)) := by rw [aPass, c4, if_pos rfl, if_neg c21]
      rw [hA]
      exact ⟨gFr_r, h', rfl⟩
  · refine gJ_bipush (v := -2) dX11_pass_7 (by decide) ?_
    refine gJ_iret dX11_pass_9 rfl ?_
    have hA : aPass (V, S) x = (-2, (V, S)) := by rw [aPass, c4]; rfl
    rw [hA]
    exact ⟨gFr_r, h', rfl⟩
set_option maxHeartbeats 1000000 in
set_option maxRecDepth 20000 in
theorem c11_ahead (h : cX M b V S IV IS hi U t) (hI : mI V) (hJ : mJ V) (x : Int32) : gCon G kX11_ahead 6 0 0 M [.ref b, .int x] (fun M2 v => gFr M M2 b 66 ∧ cX M2 b V S IV IS hi U t ∧ v = some (.int (aAhead (V, S) x))) := by
  have h' := h
  obtain ⟨h0, -, -, ⟨T, D, hT, hR⟩, -, ⟨T3, W3, S3, D3, hR3⟩⟩ := h
  have hs3 := hR3.2.1
  have hC := c9_copyFrom (G := G) hR3 hR hI (by omega) (by omega)
  refine gCon_of (by decide) (Nat.le_of_ble_eq_true rfl) ?_
  show gJ _ _ _ _ _ _ 0 [(0, _), (1, _)] [] _
  refine gJ_iload_n dX11_ahead_0 rfl rfl ?_
  refine gJ_callS (As := [_]) b_X11_isSpan lX11_154 i_X11_isSpan dX11_ahead_1 (c11_isSpan x) rfl (Nat.le_of_ble_eq_true rfl) rfl (by decide) (fun M1 v_ h1 => ?_)
  obtain ⟨e_, rfl⟩ := h1
  replace e_ := e_.symm
  subst e_
  refine gJ_if_neB (tgt := 10) dX11_ahead_4 (by decide) (fun c4 => ?_) (fun c4 => ?_)
  · obtain ⟨n, hn1, hn0, hn2, hn3⟩ := mIn_nat (lo := 1) (hi := 100) c4 (by decide)
    subst hn2
    refine gJ_aload_n dX11_ahead_10 rfl rfl ?_
    refine gJ_get fX11_26 dX11_ahead_11 (by first | with_reducible assumption | with_reducible exact gUp_s | with_reducible exact gUp_n (by with_reducible assumption) (by omega) | exact gUp_n (by assumption) (by omega) | exact gUp_s | assumption) rfl ?_
    refine gJ_aload_n dX11_ahead_14 rfl rfl ?_
    refine gJ_get fX11_19 dX11_ahead_15 (by first | with_reducible assumption | with_reducible exact gUp_s | with_reducible exact gUp_n (by with_reducible assumption) (by omega) | exact gUp_n (by assumption) (by omega) | exact gUp_s | assumption) rfl ?_
    refine gJ_callV (As := [_]) b_X9_copyFrom lX11_273 i_X9_copyFrom s_X9_copyFrom dX11_ahead_18 (hC) hs3 rfl rfl (Nat.le_of_ble_eq_true rfl) rfl (by decide) (fun M18 v_ h18 => ?_)
    obtain ⟨hf18, hR18, rfl⟩ := h18
    have h018 := gFr_g hf18 h0 (by omega)
    have hs18 := hR18.2.1
    refine gJ_aload_n dX11_ahead_21 rfl rfl ?_
    refine gJ_get fX11_26 dX11_ahead_22 (by first | with_reducible assumption | with_reducible exact gUp_s | with_reducible exact gUp_n (by with_reducible assumption) (by omega) | exact gUp_n (by assumption) (by omega) | exact gUp_s | assumption) rfl ?_
    refine gJ_iload_n dX11_ahead_25 rfl rfl ?_
    refine gJ_callV (As := [_]) b_X9_steps lX11_161 i_X9_steps s_X9_steps dX11_ahead_26 (c9_steps hR18 (by omega) n hn1 (by omega) hI hJ) hs18 rfl rfl (Nat.le_of_ble_eq_true rfl) rfl (by decide) (fun M26 v_ h26 => ?_)
    obtain ⟨hf26, ⟨D2, hR2⟩, e26⟩ := h26
    subst e26
    refine gJ_iret dX11_ahead_29 rfl ?_
    have hA : aAhead (V, S) (nI n) = mTot (V, S) n := by rw [aAhead, c4, if_pos rfl, hn3]
    rw [hA]
    exact ⟨gFr_t (gFr_w hf18 (by omega) (by omega)) (gFr_w hf26 (by omega) (by omega)), cX_trial h' (gFr_t hf18 hf26) ⟨_, _, _, _, hR2⟩, rfl⟩
  · refine gJ_bipush (v := -2) dX11_ahead_7 (by decide) ?_
    refine gJ_iret dX11_ahead_9 rfl ?_
    have hA : aAhead (V, S) x = -2 := by rw [aAhead, c4]; rfl
    rw [hA]
    exact ⟨gFr_r, h', rfl⟩
set_option maxHeartbeats 1000000 in
set_option maxRecDepth 20000 in
theorem c11_next (h : cX M b V S IV IS hi U t) (hI : mI V) (hJ : mJ V) (x : Int32) : gCon G kX11_next 6 0 0 M [.ref b, .int x] (fun M2 v => gFr M M2 b 66 ∧ cX M2 b V S IV IS hi U t ∧ v = some (.int (aNext (V, S) x))) := by
  have h' := h
  obtain ⟨h0, -, -, ⟨T, D, hT, hR⟩, -, ⟨T3, W3, S3, D3, hR3⟩⟩ := h
  have hs3 := hR3.2.1
  have hC := c9_copyFrom (G := G) hR3 hR hI (by omega) (by omega)
  refine gCon_of (by decide) (Nat.le_of_ble_eq_true rfl) ?_
  have loop : ∀ (n : Nat), n ≤ 100 → ∀ (q j : Nat), j + q = n → ∀ (M1 : gM) (D1 : Nat → Int64), gFr M M1 (b + 45) 21 → cR (T + j) M1 (b + 75) (b + 45) (mIt (V, S) j).1 (mIt (V, S) j).2 D1 → mNx (V, S) n = mNx (mIt (V, S) j) q →
      gJ G kX11_next 6 0 0 M1 23 [(2, .int (nI j)), (0, .ref b), (1, .int (nI n))] [] (gQ kX11_next (fun M2 v => gFr M M2 b 66 ∧ cX M2 b V S IV IS hi U t ∧ v = some (.int (mNx (V, S) n)))) := by
    intro n hn q
    induction q with
    | zero =>
      intro j hj M1 D1 hf hR1 hx
      refine gJ_iload_n dX11_next_23 rfl rfl ?_
      refine gJ_iload_n dX11_next_24 rfl rfl ?_
      refine gJ_icmp_geN (tgt := 52) (a := j) (b := n) (by first | with_reducible rfl | rfl) (by first | with_reducible rfl | rfl) (by omega) (by omega) dX11_next_25 (by decide) (fun _ => ?_) (fun c_ => by exfalso; omega)
      refine gJ_bipush (v := -5) dX11_next_52 (by decide) ?_
      refine gJ_iret dX11_next_54 rfl ?_
      exact ⟨gFr_w hf (by omega) (by omega), cX_trial h' hf ⟨_, _, _, _, hR1⟩, by rw [hx]; rfl⟩
    | succ q ih =>
      intro j hj M1 D1 hf hR1 hx
      have h01 := gFr_g hf h0 (by omega)
      have hs1 := hR1.2.1
      have hst := c9_step (G := G) hR1 (by omega) (by omega) (mIt_I (p := (V, S)) hI j) (mIt_J (p := (V, S)) hI hJ j)
      obtain ⟨c, hc1, hc2⟩ := mCnt_c (mIt_I (p := (V, S)) hI j)
      have hc2' : mCnt ((mIt (V, S) j).1, (mIt (V, S) j).2) = nI c := hc2
      refine gJ_iload_n dX11_next_23 rfl rfl ?_
      refine gJ_iload_n dX11_next_24 rfl rfl ?_
      refine gJ_icmp_geN (tgt := 52) (a := j) (b := n) (by first | with_reducible rfl | rfl) (by first | with_reducible rfl | rfl) (by omega) (by omega) dX11_next_25 (by decide) (fun c_ => by exfalso; omega) (fun _ => ?_)
      refine gJ_aload_n dX11_next_28 rfl rfl ?_
      refine gJ_get fX11_26 dX11_next_29 (by first | with_reducible assumption | with_reducible exact gUp_s | with_reducible exact gUp_n (by with_reducible assumption) (by omega) | exact gUp_n (by assumption) (by omega) | exact gUp_s | assumption) rfl ?_
      refine gJ_callV (As := []) b_X9_step lX11_277 i_X9_step s_X9_step dX11_next_32 (hst) hs1 rfl rfl (Nat.le_of_ble_eq_true rfl) rfl (by decide) (fun M32 v_ h32 => ?_)
      obtain ⟨hf32, ⟨D2, hR32⟩, e32⟩ := h32
      subst e32
      rw [hc2']
      have h032 := gFr_g hf32 h01 (by omega)
      have hs32 := hR32.2.1
      refine gJ_if_leN (tgt := 46) (a := c) (by first | with_reducible rfl | rfl) (by omega) dX11_next_35 (by decide) (fun c35 => ?_) (fun c35 => ?_)
      · refine gJ_iincN (a := j) (b := 1) (lv2 := [(2, _), (0, _), (1, _)]) dX11_next_46 rfl rfl rfl rfl ?_
        refine gJ_goto (tgt := 23) dX11_next_49 (by decide) ?_
        refine gJ_ls (ih (j + 1) (by omega) M32 D2 (gFr_t hf hf32) hR32 ?_) ⟨rfl, rfl, rfl, trivial⟩
        rw [hx, mNx, if_pos (by rw [hc2, show c = 0 by omega]; rfl), ← mIt]
      · refine gJ_aload_n dX11_next_38 rfl rfl ?_
        refine gJ_get fX11_26 dX11_next_39 (by first | with_reducible assumption | with_reducible exact gUp_s | with_reducible exact gUp_n (by with_reducible assumption) (by omega) | exact gUp_n (by assumption) (by omega) | exact gUp_s | assumption) rfl ?_
        refine gJ_get fX11_157 dX11_next_42 (by first | with_reducible assumption | with_reducible exact gUp_s | with_reducible exact gUp_n (by with_reducible assumption) (by omega) | exact gUp_n (by assumption) (by omega) | exact gUp_s | assumption) rfl ?_
        refine gJ_iret dX11_next_45 rfl ?_
        refine ⟨gFr_t (gFr_w hf (by omega) (by omega)) (gFr_w hf32 (by omega) (by omega)), cX_trial h' (gFr_t hf hf32) ⟨_, _, _, _, hR32⟩, ?_⟩
        rw [hx, mNx, if_neg (by rw [hc2]; exact nI_ne0 (by omega) (by omega))]
  show gJ _ _ _ _ _ _ 0 [(0, _), (1, _)] [] _
  refine gJ_iload_n dX11_next_0 rfl rfl ?_
  refine gJ_callS (As := [_]) b_X11_isSpan lX11_154 i_X11_isSpan dX11_next_1 (c11_isSpan x) rfl (Nat.le_of_ble_eq_true rfl) rfl (by decide) (fun M1 v_ h1 => ?_)
  obtain ⟨e_, rfl⟩ := h1
  replace e_ := e_.symm
  subst e_
  refine gJ_if_neB (tgt := 10) dX11_next_4 (by decide) (fun c4 => ?_) (fun c4 => ?_)
  · obtain ⟨n, hn1, hn0, hn2, hn3⟩ := mIn_nat (lo := 1) (hi := 100) c4 (by decide)
    subst hn2
    refine gJ_aload_n dX11_next_10 rfl rfl ?_
    refine gJ_get fX11_26 dX11_next_11 (by first | with_reducible assumption | with_reducible exact gUp_s | with_reducible exact gUp_n (by with_reducible assumption) (by omega) | exact gUp_n (by assumption) (by omega) | exact gUp_s | assumption) rfl ?_
    refine gJ_aload_n dX11_next_14 rfl rfl ?_
    refine gJ_get fX11_19 dX11_next_15 (by first | with_reducible assumption | with_reducible exact gUp_s | with_reducible exact gUp_n (by with_reducible assumption) (by omega) | exact gUp_n (by assumption) (by omega) | exact gUp_s | assumption) rfl ?_
    refine gJ_callV (As := [_]) b_X9_copyFrom lX11_273 i_X9_copyFrom s_X9_copyFrom dX11_next_18 (hC) hs3 rfl rfl (Nat.le_of_ble_eq_true rfl) rfl (by decide) (fun M18 v_ h18 => ?_)
    obtain ⟨hf18, hR18, rfl⟩ := h18
    refine gJ_iconst (v := 0) dX11_next_21 (by decide) ?_
    refine gJ_istore_n (lv2 := [(2, _), (0, _), (1, _)]) dX11_next_22 rfl rfl rfl ?_
    have hA : aNext (V, S) (nI n) = mNx (V, S) n := by rw [aNext, c4, if_pos rfl, hn3]
    rw [hA]
    exact gJ_ls (loop n hn1 n 0 (by omega) M18 D3 hf18 hR18 rfl) ⟨rfl, rfl, rfl, trivial⟩
  · refine gJ_bipush (v := -2) dX11_next_7 (by decide) ?_
    refine gJ_iret dX11_next_9 rfl ?_
    have hA : aNext (V, S) x = -2 := by rw [aNext, c4]; rfl
    rw [hA]
    exact ⟨gFr_r, h', rfl⟩
theorem c11_image (h : cX M b V S IV IS hi U t) (hI : mI V) (hJ : mJ V) : gCon G kX11_image 3 0 0 M [.ref b] (fun M2 v => gFr M M2 b 66 ∧ cX M2 b V S V S true U t ∧ v = some (.int (V 1847))) := by
  have h' := h
  obtain ⟨h0, ⟨s, h1⟩, h2, ⟨T, D, hT, hR⟩, ⟨T2, W2, S2, D2, hT2, hI2, hJ2, hR2, he2⟩, ⟨T3, W3, S3, D3, hR3⟩⟩ := h
  have hs2 := hR2.2.1
  have hs := hR.2.1
  have hC := c9_copyFrom (G := G) hR2 hR hI (by omega) (by omega)
  refine gCon_of (by decide) (Nat.le_of_ble_eq_true rfl) ?_
  show gJ _ _ _ _ _ _ 0 [(0, _)] [] _
  refine gJ_aload_n dX11_image_0 rfl rfl ?_
  refine gJ_get fX11_23 dX11_image_1 (by first | with_reducible assumption | with_reducible exact gUp_s | with_reducible exact gUp_n (by with_reducible assumption) (by omega) | exact gUp_n (by assumption) (by omega) | exact gUp_s | assumption) rfl ?_
  refine gJ_aload_n dX11_image_4 rfl rfl ?_
  refine gJ_get fX11_19 dX11_image_5 (by first | with_reducible assumption | with_reducible exact gUp_s | with_reducible exact gUp_n (by with_reducible assumption) (by omega) | exact gUp_n (by assumption) (by omega) | exact gUp_s | assumption) rfl ?_
  refine gJ_callV (As := [_]) b_X9_copyFrom lX11_273 i_X9_copyFrom s_X9_copyFrom dX11_image_8 (hC) hs2 rfl rfl (Nat.le_of_ble_eq_true rfl) rfl (by decide) (fun M8 v_ h8 => ?_)
  obtain ⟨hf8, hR8, rfl⟩ := h8
  have h08 := gFr_g hf8 h0 (by omega)
  have hs8 := gFr_g hf8 hs (by omega)
  refine gJ_aload_n dX11_image_11 rfl rfl ?_
  refine gJ_iconst (v := 1) dX11_image_12 (by decide) ?_
  refine gJ_put fX11_280 dX11_image_13 h08 rfl rfl (Nat.le_of_ble_eq_true rfl) ?_
  refine gJ_aload_n dX11_image_16 rfl rfl ?_
  refine gJ_get fX11_19 dX11_image_17 gUp_s rfl ?_
  refine gJ_get fX11_157 dX11_image_20 (gUp_n hs8 (by omega)) rfl ?_
  refine gJ_iret dX11_image_23 rfl ?_
  have hf2 : gFr M8 (gUp M8 b (cAE b true)) b 1 := gFr_u gFr_r (by omega)
  have hfa : gFr M (gUp M8 b (cAE b true)) b 66 := gFr_u (gFr_w hf8 (by omega) (by omega)) (by omega)
  refine ⟨hfa, ⟨gUp_s, ⟨s, gFr_g hf2 (gFr_g hf8 h1 (by omega)) (by omega)⟩, gFr_g hf2 (gFr_g hf8 h2 (by omega)) (by omega), ⟨T, D, hT, cR_fr (cR_fr hR hf8 (by omega) (by omega)) hf2 (by omega) (by omega)⟩, ⟨T, V, S, D2, hT, hI, hJ, cR_fr hR8 hf2 (by omega) (by omega), fun _ => ⟨rfl, rfl⟩⟩, ⟨T3, W3, S3, D3, cR_fr (cR_fr hR3 hf8 (by omega) (by omega)) hf2 (by omega) (by omega)⟩⟩, rfl⟩
theorem c11_undo (h : cX M b V S IV IS hi U t) : gCon G kX11_undo 3 0 0 M [.ref b] (fun M2 v => gFr M M2 b 66 ∧ cX M2 b (if hi = true then IV else V) (if hi = true then IS else S) IV IS hi U t ∧ v = some (.int (if hi = true then IV 1847 else -3))) := by
  have h' := h
  obtain ⟨h0, ⟨s, h1⟩, h2, ⟨T, D, hT, hR⟩, ⟨T2, W2, S2, D2, hT2, hI2, hJ2, hR2, he2⟩, ⟨T3, W3, S3, D3, hR3⟩⟩ := h
  have hs := hR.2.1
  have hC := c9_copyFrom (G := G) hR hR2 hI2 (by omega) (by omega)
  refine gCon_of (by decide) (Nat.le_of_ble_eq_true rfl) ?_
  cases hi with
  | false =>
    rw [if_neg Bool.false_ne_true, if_neg Bool.false_ne_true, if_neg Bool.false_ne_true]
    show gJ _ _ _ _ _ _ 0 [(0, _)] [] _
    refine gJ_aload_n dX11_undo_0 rfl rfl ?_
    refine gJ_get fX11_280 dX11_undo_1 (by first | with_reducible assumption | with_reducible exact gUp_s | with_reducible exact gUp_n (by with_reducible assumption) (by omega) | exact gUp_n (by assumption) (by omega) | exact gUp_s | assumption) rfl ?_
    refine gJ_if_neB (tgt := 10) dX11_undo_4 (by decide) (fun c_ => by exfalso; cases c_) (fun _ => ?_)
    refine gJ_bipush (v := -3) dX11_undo_7 (by decide) ?_
    refine gJ_iret dX11_undo_9 rfl ?_
    exact ⟨gFr_r, h', rfl⟩
  | true =>
    obtain ⟨rfl, rfl⟩ := he2 rfl
    rw [if_pos rfl, if_pos rfl, if_pos rfl]
    show gJ _ _ _ _ _ _ 0 [(0, _)] [] _
    refine gJ_aload_n dX11_undo_0 rfl rfl ?_
    refine gJ_get fX11_280 dX11_undo_1 (by first | with_reducible assumption | with_reducible exact gUp_s | with_reducible exact gUp_n (by with_reducible assumption) (by omega) | exact gUp_n (by assumption) (by omega) | exact gUp_s | assumption) rfl ?_
    refine gJ_if_neB (tgt := 10) dX11_undo_4 (by decide) (fun _ => ?_) (fun c_ => by exfalso; cases c_)
    refine gJ_aload_n dX11_undo_10 rfl rfl ?_
    refine gJ_get fX11_19 dX11_undo_11 (by first | with_reducible assumption | with_reducible exact gUp_s | with_reducible exact gUp_n (by with_reducible assumption) (by omega) | exact gUp_n (by assumption) (by omega) | exact gUp_s | assumption) rfl ?_
    refine gJ_aload_n dX11_undo_14 rfl rfl ?_
    refine gJ_get fX11_23 dX11_undo_15 (by first | with_reducible assumption | with_reducible exact gUp_s | with_reducible exact gUp_n (by with_reducible assumption) (by omega) | exact gUp_n (by assumption) (by omega) | exact gUp_s | assumption) rfl ?_
    refine gJ_callV (As := [_]) b_X9_copyFrom lX11_273 i_X9_copyFrom s_X9_copyFrom dX11_undo_18 (hC) hs rfl rfl (Nat.le_of_ble_eq_true rfl) rfl (by decide) (fun M18 v_ h18 => ?_)
    obtain ⟨hf18, hR18, rfl⟩ := h18
    have h018 := gFr_g hf18 h0 (by omega)
    have hs18 := hR18.2.1
    refine gJ_aload_n dX11_undo_21 rfl rfl ?_
    refine gJ_get fX11_19 dX11_undo_22 (by first | with_reducible assumption | with_reducible exact gUp_s | with_reducible exact gUp_n (by with_reducible assumption) (by omega) | exact gUp_n (by assumption) (by omega) | exact gUp_s | assumption) rfl ?_
    refine gJ_get fX11_157 dX11_undo_25 (by first | with_reducible assumption | with_reducible exact gUp_s | with_reducible exact gUp_n (by with_reducible assumption) (by omega) | exact gUp_n (by assumption) (by omega) | exact gUp_s | assumption) rfl ?_
    refine gJ_iret dX11_undo_28 rfl ?_
    exact ⟨gFr_w hf18 (by omega) (by omega), cX_now h' hf18 ⟨T2, D, hT2, hR18⟩, rfl⟩
end CLS
