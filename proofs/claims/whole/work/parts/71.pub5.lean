theorem cLab_W {V W : Nat → Int32} (h : ∀ i, i < 36 → W i = V i) : cLab W = cLab V := by
  funext i
  unfold cLab
  by_cases hi : i < 36
  · rw [if_pos hi, if_pos hi, h _ (by omega)]
  · rw [if_neg hi, if_neg hi]
theorem cHas_W {V W : Nat → Int32} (h : ∀ i, 48 ≤ i → i < 60 → W i = V i) : cHas W = cHas V := by
  funext i
  unfold cHas
  by_cases hi : i < 12
  · rw [if_pos hi, if_pos hi, h _ (by omega) (by omega)]
  · rw [if_neg hi, if_neg hi]
section CLS
variable {G : gG} {M : gM} {E p : Nat} {V W : Nat → Int32} {X : Nat → Int32} {RU SI IN : Nat → Option Nat}
/-- one slot of the setup takes another entry -/
theorem cRS_putS (s0 : M.1 p = some (cSu p)) (s1 : M.1 (p + 1) = some (gI 36 (cLab V))) (s2 : M.1 (p + 2) = some (gI 12 X)) (s3 : M.1 (p + 3) = some (gZ 12 (cHas V))) (s4 : M.1 (p + 4) = some (gR 3 5 RU)) (s6 : M.1 (p + 6) = some (gR 5 4 IN)) (s7 : M.1 (p + 7) = some (gI 5 (cPar V))) (s8 : M.1 (p + 8) = some (gL 20 (cSets V))) (sX : ∀ s, s < 12 → ¬ V (48 + s) = 0 → X s = V (36 + s)) (sR : ∀ r, r < 5 → cRul M E V r (RU r)) (sS : ∀ k, k < 6 → cSil M E V k (SI k)) (sN : ∀ k, k < 4 → cInh M E V k (IN k)) (hI : mI V) (hE : p + 9 ≤ E) (k : Nat) (hk : k < 6) (o : Option Nat) (hW : ∀ i, i < 110 + 8 * k ∨ 118 + 8 * k ≤ i → W i = V i) (ho : cSil (gUp M (p + 5) (gR 4 6 (va_up SI k o))) E W k o) : cRS (gUp M (p + 5) (gR 4 6 (va_up SI k o))) E p W := by
  have hk1 : gKp M (gUp M (p + 5) (gR 4 6 (va_up SI k o))) E := fun q c hq hc => gUp_n hc (by omega)
  refine ⟨X, RU, va_up SI k o, IN, gUp_n s0 (by omega), by rw [cLab_W (fun i hi => hW i (by omega))]; exact gUp_n s1 (by omega), gUp_n s2 (by omega), by rw [cHas_W (fun i h1 h2 => hW i (by omega))]; exact gUp_n s3 (by omega), gUp_n s4 (by omega), gUp_s, gUp_n s6 (by omega), by rw [cPar_V (fun i h1 h2 => hW i (by omega))]; exact gUp_n s7 (by omega), by rw [cSets_W (fun i hi => hW i (by omega)) (fun r hr => ⟨hW _ (by omega), hW _ (by omega)⟩)]; exact gUp_n s8 (by omega), fun j hj hz => ?_, fun r hr => cRul_kp (cRul_W (sR r hr) hr hI (fun i h1 h2 => hW i (by omega))) hk1, fun r hr => ?_, fun r hr => cInh_kp (cInh_W (sN r hr) hr hI (fun i h1 h2 => hW i (by omega))) hk1⟩
  · rw [hW _ (by omega)] at hz ⊢; exact sX j hj hz
  · by_cases e : r = k
    · subst e
      have e2 : va_up SI r o r = o := if_pos rfl
      rw [e2]; exact ho
    · have e2 : va_up SI k o r = SI r := if_neg e
      rw [e2]; exact cSil_kp (cSil_W (sS r hr) hr hI (fun i h1 h2 => hW i (by omega))) hk1
theorem cRS_putI (s0 : M.1 p = some (cSu p)) (s1 : M.1 (p + 1) = some (gI 36 (cLab V))) (s2 : M.1 (p + 2) = some (gI 12 X)) (s3 : M.1 (p + 3) = some (gZ 12 (cHas V))) (s4 : M.1 (p + 4) = some (gR 3 5 RU)) (s5 : M.1 (p + 5) = some (gR 4 6 SI)) (s7 : M.1 (p + 7) = some (gI 5 (cPar V))) (s8 : M.1 (p + 8) = some (gL 20 (cSets V))) (sX : ∀ s, s < 12 → ¬ V (48 + s) = 0 → X s = V (36 + s)) (sR : ∀ r, r < 5 → cRul M E V r (RU r)) (sS : ∀ k, k < 6 → cSil M E V k (SI k)) (sN : ∀ k, k < 4 → cInh M E V k (IN k)) (hI : mI V) (hE : p + 9 ≤ E) (k : Nat) (hk : k < 4) (o : Option Nat) (hW : ∀ i, i < 158 + 12 * k ∨ 170 + 12 * k ≤ i → W i = V i) (ho : cInh (gUp M (p + 6) (gR 5 4 (va_up IN k o))) E W k o) : cRS (gUp M (p + 6) (gR 5 4 (va_up IN k o))) E p W := by
  have hk1 : gKp M (gUp M (p + 6) (gR 5 4 (va_up IN k o))) E := fun q c hq hc => gUp_n hc (by omega)
  refine ⟨X, RU, SI, va_up IN k o, gUp_n s0 (by omega), by rw [cLab_W (fun i hi => hW i (by omega))]; exact gUp_n s1 (by omega), gUp_n s2 (by omega), by rw [cHas_W (fun i h1 h2 => hW i (by omega))]; exact gUp_n s3 (by omega), gUp_n s4 (by omega), gUp_n s5 (by omega), gUp_s, by rw [cPar_V (fun i h1 h2 => hW i (by omega))]; exact gUp_n s7 (by omega), by rw [cSets_W (fun i hi => hW i (by omega)) (fun r hr => ⟨hW _ (by omega), hW _ (by omega)⟩)]; exact gUp_n s8 (by omega), fun j hj hz => ?_, fun r hr => cRul_kp (cRul_W (sR r hr) hr hI (fun i h1 h2 => hW i (by omega))) hk1, fun r hr => cSil_kp (cSil_W (sS r hr) hr hI (fun i h1 h2 => hW i (by omega))) hk1, fun r hr => ?_⟩
  · rw [hW _ (by omega)] at hz ⊢; exact sX j hj hz
  · by_cases e : r = k
    · subst e
      have e2 : va_up IN r o r = o := if_pos rfl
      rw [e2]; exact ho
    · have e2 : va_up IN k o r = IN r := if_neg e
      rw [e2]; exact cInh_kp (cInh_W (sN r hr) hr hI (fun i h1 h2 => hW i (by omega))) hk1
/-- only the setup of a state has changed -/
theorem cR_setup {M2 : gM} {s T : Nat} {S D : Nat → Int64} (h : cR T M E s V S D) (hf : gFr M M2 (s + 1) 9) (hr : cRS M2 E (s + 1) W) (hW : ∀ i, 206 ≤ i → (i < 1842 ∨ 1847 ≤ i) → W i = V i) : cR T M2 E s W S D := by
  obtain ⟨h0, h1, -, hA, hG, hL⟩ := h
  exact ⟨by rw [hW _ (by omega) (by omega)]; exact h0, by rw [hW _ (by omega) (by omega)]; exact gFr_g hf h1 (by omega), hr, cRA_V (cRA_fr hA hf (by omega)) (fun i h1 h2 => hW i (by omega) (by omega)), cRG_V (cRG_fr hG hf (by omega)) (fun i h1 h2 => hW i (by omega) (by omega)), cRL_V (cRL_fr hL hf (by omega)) (fun i h1 h2 => hW i (by omega) (by omega))⟩
end CLS
section CLS
variable {G : gG} {M : gM} {b t : Nat} {V IV : Nat → Int32} {S IS : Nat → Int64} {hi : Bool} {U : Nat → Int32}
set_option maxHeartbeats 1000000 in
set_option maxRecDepth 20000 in
theorem c11_saved (h : cX M b V S IV IS hi U t) (hI : mI V) (hJ : mJ V) (k x : Int32) : gCon G kX11_saved 6 0 0 M [.ref b, .int k, .int x] (fun M2 v => gFr M M2 b 66 ∧ cX M2 b V S IV IS hi U t ∧ v = some (.int (aSaved (V, S) k x))) := by
  have h' := h
  obtain ⟨h0, -, -, ⟨T, D, hT, hR⟩, -, ⟨T3, W3, S3, D3, hR3⟩⟩ := h
  have hs3 := hR3.2.1
  have hs := hR.2.1
  have hC := c9_copyFrom (G := G) hR3 hR hI (by omega) (by omega)
  obtain ⟨X, RU, SI, IN, s0, s1, s2, s3, s4, s5, s6, s7, s8, sX, sR, sS, sN⟩ := hR.2.2.1
  have hE := c11_holdsEntry (G := G) 1 (by decide) (n := 6) (by omega) s5 k
  rw [show (mIn k 0 (nI (6 - 1)) && (SI k.toNatClampNeg).isSome) = mOne V 1 k from cSlots_one (kind := 1) (fun k hk => cOneS sS k hk) k] at hE
  refine gCon_of (by decide) (Nat.le_of_ble_eq_true rfl) ?_
  show gJ _ _ _ _ _ _ 0 [(0, _), (1, _), (2, _)] [] _
  refine gJ_aload_n dX11_saved_0 rfl rfl ?_
  refine gJ_get fX11_19 dX11_saved_1 (by first | with_reducible assumption | with_reducible exact gUp_s | with_reducible exact gUp_n (by with_reducible assumption) (by omega) | exact gUp_n (by assumption) (by omega) | exact gUp_s | assumption) rfl ?_
  refine gJ_get fX11_37 dX11_saved_4 (by first | with_reducible assumption | with_reducible exact gUp_s | with_reducible exact gUp_n (by with_reducible assumption) (by omega) | exact gUp_n (by assumption) (by omega) | exact gUp_s | assumption) rfl ?_
  refine gJ_get fX11_94 dX11_saved_7 (by first | with_reducible assumption | with_reducible exact gUp_s | with_reducible exact gUp_n (by with_reducible assumption) (by omega) | exact gUp_n (by assumption) (by omega) | exact gUp_s | assumption) rfl ?_
  refine gJ_iload_n dX11_saved_10 rfl rfl ?_
  refine gJ_callS (As := [_, _]) b_X11_holdsEntry lX11_120 i_X11_holdsEntry dX11_saved_11 (hE) rfl (Nat.le_of_ble_eq_true rfl) rfl (by decide) (fun M11 v_ h11 => ?_)
  obtain ⟨e_, rfl⟩ := h11
  replace e_ := e_.symm
  subst e_
  refine gJ_if_neB (tgt := 19) dX11_saved_14 (by decide) (fun c14 => ?_) (fun c14 => ?_)
  · refine gJ_iload_n dX11_saved_19 rfl rfl ?_
    refine gJ_callS (As := [_]) b_X11_isSpan lX11_154 i_X11_isSpan dX11_saved_20 (c11_isSpan x) rfl (Nat.le_of_ble_eq_true rfl) rfl (by decide) (fun M20 v_ h20 => ?_)
    obtain ⟨e_, rfl⟩ := h20
    replace e_ := e_.symm
    subst e_
    refine gJ_if_neB (tgt := 29) dX11_saved_23 (by decide) (fun c23 => ?_) (fun c23 => ?_)
    · have hk0 : mIn k 0 (nI (6 - 1)) = true := (by cases hz : mIn k 0 (nI (6 - 1)) with | true => rfl | false => rw [mOne, show mIn k 0 (nI (mMst 1 - 1)) = false from hz] at c14; cases c14)
      obtain ⟨n, hn1, hn0, hn2, hn3⟩ := mIn_nat (lo := 1) (hi := 100) c23 (by decide)
      subst hn2
      obtain ⟨j, hj1, hj0, hj2, hj3⟩ := mIn_nat (lo := 0) (hi := 5) hk0 (by decide)
      subst hj2
      refine gJ_aload_n dX11_saved_29 rfl rfl ?_
      refine gJ_get fX11_26 dX11_saved_30 (by first | with_reducible assumption | with_reducible exact gUp_s | with_reducible exact gUp_n (by with_reducible assumption) (by omega) | exact gUp_n (by assumption) (by omega) | exact gUp_s | assumption) rfl ?_
      refine gJ_aload_n dX11_saved_33 rfl rfl ?_
      refine gJ_get fX11_19 dX11_saved_34 (by first | with_reducible assumption | with_reducible exact gUp_s | with_reducible exact gUp_n (by with_reducible assumption) (by omega) | exact gUp_n (by assumption) (by omega) | exact gUp_s | assumption) rfl ?_
      refine gJ_callV (As := [_]) b_X9_copyFrom lX11_273 i_X9_copyFrom s_X9_copyFrom dX11_saved_37 (hC) hs3 rfl rfl (Nat.le_of_ble_eq_true rfl) rfl (by decide) (fun M37 v_ h37 => ?_)
      obtain ⟨hf37, hR37, rfl⟩ := h37
      have h037 := gFr_g hf37 h0 (by omega)
      have hs37 := hR37.2.1
      have hn37 := cR_fr hR hf37 (by omega) (by omega)
      refine gJ_aload_n dX11_saved_40 rfl rfl ?_
      refine gJ_get fX11_26 dX11_saved_41 (by first | with_reducible assumption | with_reducible exact gUp_s | with_reducible exact gUp_n (by with_reducible assumption) (by omega) | exact gUp_n (by assumption) (by omega) | exact gUp_s | assumption) rfl ?_
      refine gJ_iload_n dX11_saved_44 rfl rfl ?_
      refine gJ_callV (As := [_]) b_X9_steps lX11_161 i_X9_steps s_X9_steps dX11_saved_45 (c9_steps hR37 (by omega) n hn1 (by omega) hI hJ) hs37 rfl rfl (Nat.le_of_ble_eq_true rfl) rfl (by decide) (fun M45 v_ h45 => ?_)
      obtain ⟨hf45, ⟨D2, hR45⟩, e45⟩ := h45
      subst e45
      have h045 := gFr_g hf45 h037 (by omega)
      have hs45 := hR45.2.1
      have hn45 := cR_fr hn37 hf45 (by omega) (by omega)
      refine gJ_istore_n (lv2 := [(3, _), (0, _), (1, _), (2, _)]) dX11_saved_48 rfl rfl rfl ?_
      refine gJ_aload_n dX11_saved_49 rfl rfl ?_
      refine gJ_get fX11_26 dX11_saved_50 (by first | with_reducible assumption | with_reducible exact gUp_s | with_reducible exact gUp_n (by with_reducible assumption) (by omega) | exact gUp_n (by assumption) (by omega) | exact gUp_s | assumption) rfl ?_
      refine gJ_aload_n dX11_saved_53 rfl rfl ?_
      refine gJ_get fX11_19 dX11_saved_54 (by first | with_reducible assumption | with_reducible exact gUp_s | with_reducible exact gUp_n (by with_reducible assumption) (by omega) | exact gUp_n (by assumption) (by omega) | exact gUp_s | assumption) rfl ?_
      refine gJ_callV (As := [_]) b_X9_copyFrom lX11_273 i_X9_copyFrom s_X9_copyFrom dX11_saved_57 (c9_copyFrom hR45 hn45 hI (by omega) (by omega)) hs45 rfl rfl (Nat.le_of_ble_eq_true rfl) rfl (by decide) (fun M57 v_ h57 => ?_)
      obtain ⟨hf57, hR57, rfl⟩ := h57
      have h057 := gFr_g hf57 h045 (by omega)
      have hs57 := hR57.2.1
      obtain ⟨X2, RU2, SI2, IN2, t0, t1, t2, t3, t4, t5, t6, t7, t8, tX, tR, tS, tN⟩ := hR57.2.2.1
      refine gJ_aload_n dX11_saved_60 rfl rfl ?_
      refine gJ_get fX11_26 dX11_saved_61 (by first | with_reducible assumption | with_reducible exact gUp_s | with_reducible exact gUp_n (by with_reducible assumption) (by omega) | exact gUp_n (by assumption) (by omega) | exact gUp_s | assumption) rfl ?_
      refine gJ_get fX11_37 dX11_saved_64 (by first | with_reducible assumption | with_reducible exact gUp_s | with_reducible exact gUp_n (by with_reducible assumption) (by omega) | exact gUp_n (by assumption) (by omega) | exact gUp_s | assumption) rfl ?_
      refine gJ_get fX11_94 dX11_saved_67 (by first | with_reducible assumption | with_reducible exact gUp_s | with_reducible exact gUp_n (by with_reducible assumption) (by omega) | exact gUp_n (by assumption) (by omega) | exact gUp_s | assumption) rfl ?_
      refine gJ_iload_n dX11_saved_70 rfl rfl ?_
      refine gJ_null dX11_saved_71 ?_
      refine gJ_aastNN (j := j) dX11_saved_72 t5 rfl rfl (by omega) (by decide) ?_
      try rw [gUp_up]
      have hfU : gFr M57 (gUp M57 (b + 45 + 1 + 5) (gR 4 6 (va_up SI2 j none))) (b + 45 + 1) 9 := gFr_u gFr_r (by omega)
      have hSU : cRS (gUp M57 (b + 45 + 1 + 5) (gR 4 6 (va_up SI2 j none))) (b + 75) (b + 45 + 1) (upd V (110 + 8 * j) 0) := cRS_putS t0 t1 t2 t3 t4 t6 t7 t8 tX tR tS tN hI (by omega) j (by omega) none (fun i hi => pk_un (by omega)) (Or.inl ⟨pk_us, rfl⟩)
      have hRU := cR_setup hR57 hfU hSU (fun i h1 h2 => pk_un (by omega))
      have h0U := gFr_g hfU h057 (by omega)
      have hsU := hRU.2.1
      have hJU : mJ (upd V (110 + 8 * j) 0) := (fun a ha hz => by rw [pk_un (by omega)] at hz ⊢; exact hJ a ha hz)
      refine gJ_aload_n dX11_saved_73 rfl rfl ?_
      refine gJ_get fX11_26 dX11_saved_74 (by first | with_reducible assumption | with_reducible exact gUp_s | with_reducible exact gUp_n (by with_reducible assumption) (by omega) | exact gUp_n (by assumption) (by omega) | exact gUp_s | assumption) rfl ?_
      refine gJ_iload_n dX11_saved_77 rfl rfl ?_
      refine gJ_callV (As := [_]) b_X9_steps lX11_161 i_X9_steps s_X9_steps dX11_saved_78 (c9_steps hRU (by omega) n hn1 (by omega) (mI_sil hI (by omega)) hJU) hsU rfl rfl (Nat.le_of_ble_eq_true rfl) rfl (by decide) (fun M78 v_ h78 => ?_)
      obtain ⟨hf78, ⟨D4, hR78⟩, e78⟩ := h78
      subst e78
      refine gJ_iload_n dX11_saved_81 rfl rfl ?_
      refine gJ_isub dX11_saved_82 ?_
      refine gJ_sipush (v := 1000) dX11_saved_83 (by decide) ?_
      refine gJ_iadd dX11_saved_86 ?_
      refine gJ_iret dX11_saved_87 rfl ?_
      have hA : aSaved (V, S) (nI j) (nI n) = mTot (upd V (110 + 8 * j) 0, S) n - mTot (V, S) n + 1000 := by rw [aSaved, c14, if_pos rfl, c23, if_pos rfl, hj3, hn3]
      rw [hA]
      have hfz : gFr M M78 (b + 45) 21 := gFr_t hf37 (gFr_t hf45 (gFr_t hf57 (gFr_t (gFr_w hfU (by omega) (by omega)) hf78)))
      exact ⟨gFr_w hfz (by omega) (by omega), cX_trial h' hfz ⟨_, _, _, _, hR78⟩, rfl⟩
    · refine gJ_bipush (v := -2) dX11_saved_26 (by decide) ?_
      refine gJ_iret dX11_saved_28 rfl ?_
      have hA : aSaved (V, S) k x = -2 := by rw [aSaved, c14, if_pos rfl, c23]; rfl
      rw [hA]
      exact ⟨gFr_r, h', rfl⟩
  · refine gJ_iconst (v := -1) dX11_saved_17 (by decide) ?_
    refine gJ_iret dX11_saved_18 rfl ?_
    have hA : aSaved (V, S) k x = -1 := by rw [aSaved, c14]; rfl
    rw [hA]
    exact ⟨gFr_r, h', rfl⟩
theorem cKeeps {n : Nat} (hn : n < 2 ^ 30) {x i : Int32} (hx : x = nI n) : (!decide (i < 0) && (!decide (30 ≤ i) && !decide (nI n ≤ i))) = mIn i 0 ((if x < 30 then x else 30) - 1) := by
  subst hx
  have q30 : (30 : Int32) = nI 30 := rfl
  obtain ⟨u, hu1, hu2⟩ : ∃ u, (if nI n < (30 : Int32) then nI n else (30 : Int32)) = nI u ∧ ((u = n ∧ n ≤ 30) ∨ (u = 30 ∧ 30 ≤ n)) := by
    rw [q30]
    by_cases h : n < 30
    · exact ⟨n, if_pos ((nI_ltI (by omega) (by decide)).mpr h), Or.inl ⟨rfl, by omega⟩⟩
    · exact ⟨30, if_neg (fun h2 => h ((nI_ltI (by omega) (by decide)).mp h2)), Or.inr ⟨rfl, by omega⟩⟩
  rw [hu1]
  by_cases h0 : i < 0
  · rw [mIn, decide_eq_true h0, decide_eq_false (Int32.not_le.mpr h0)]; rfl
  · obtain ⟨j, hj, rfl⟩ := nI_of h0
    have e30 : ((30 : Int32) ≤ nI j) ↔ 30 ≤ j := nI_leI (a := 30) (by decide) (by omega)
    have en : (nI n ≤ nI j) ↔ n ≤ j := nI_leI (by omega) (by omega)
    rw [decide_eq_false h0, mIn, decide_eq_true (nI_pos' hj : (0 : Int32) ≤ nI j)]
    by_cases hm : u = 0
    · have hn0 : n ≤ j := by omega
      rw [decide_eq_true (en.mpr hn0), hm]
      have : ¬ nI j ≤ nI 0 - 1 := Int32.not_le.mpr (Int32.lt_of_lt_of_le (by decide : nI 0 - 1 < 0) (nI_pos' hj))
      rw [decide_eq_false this]
      simp
    · rw [show nI u - 1 = nI (u - 1) from pk_sub (b := 1) (by omega)]
      have e2 : (nI j ≤ nI (u - 1)) ↔ j ≤ u - 1 := nI_leI (by omega) (by omega)
      rw [Bool.eq_iff_iff]
      simp only [Bool.not_false, Bool.true_and, Bool.and_eq_true, Bool.not_eq_true', decide_eq_true_eq, decide_eq_false_iff_not, e30, en, e2]
      omega
set_option maxRecDepth 20000 in
theorem c11_sent (h : cX M b V S IV IS hi U t) (hI : mI V) (i w : Int32) : gCon G kX11_sent 1 0 0 M [.ref b, .int i, .int w] (fun M2 v => M2 = M ∧ v = some (.int (aSent V i w))) := by
  obtain ⟨h0, -, -, ⟨T, D, hT, hV, hs, hS, hA, hG, ⟨n, L, hn, hv, l0, l1, l2⟩⟩, -⟩ := h
  have hn30 : n < 2 ^ 30 := by omega
  have hK := c4_keeps (G := G) n hn30 l0 i
  rw [cKeeps hn30 hv] at hK
  refine gCon_of (by decide) (Nat.le_of_ble_eq_true rfl) ?_
  have e5 : ((5 : Int32) ≤ w) ↔ ¬ w ≤ 4 := by
    rw [Int32.not_le, Int32.le_iff_toInt_le, Int32.lt_iff_toInt_lt]
    have e1 : (4 : Int32).toInt = 4 := by decide
    have e2 : (5 : Int32).toInt = 5 := by decide
    omega
  show gJ _ _ _ _ _ _ 0 [(0, _), (1, _), (2, _)] [] _
  refine gJ_aload_n dX11_sent_0 rfl rfl ?_
  refine gJ_get fX11_19 dX11_sent_1 (by first | with_reducible assumption | with_reducible exact gUp_s | with_reducible exact gUp_n (by with_reducible assumption) (by omega) | exact gUp_n (by assumption) (by omega) | exact gUp_s | assumption) rfl ?_
  refine gJ_get fX11_261 dX11_sent_4 (by first | with_reducible assumption | with_reducible exact gUp_s | with_reducible exact gUp_n (by with_reducible assumption) (by omega) | exact gUp_n (by assumption) (by omega) | exact gUp_s | assumption) rfl ?_
  refine gJ_iload_n dX11_sent_7 rfl rfl ?_
  refine gJ_callV (As := [_]) b_X4_keeps lX11_265 i_X4_keeps s_X4_keeps dX11_sent_8 (hK) (by first | with_reducible assumption | with_reducible exact gUp_s | with_reducible exact gUp_n (by with_reducible assumption) (by omega) | exact gUp_n (by assumption) (by omega) | exact gUp_s | assumption) rfl rfl (Nat.le_of_ble_eq_true rfl) rfl (by decide) (fun M8 v_ h8 => ?_)
  obtain ⟨e_, rfl⟩ := h8
  replace e_ := e_.symm
  subst e_
  refine gJ_if_eqB (tgt := 23) dX11_sent_11 (by decide) (fun c11 => ?_) (fun c11 => ?_)
  · refine gJ_iconst (v := -1) dX11_sent_23 (by decide) ?_
    refine gJ_iret dX11_sent_24 rfl ?_
    refine ⟨rfl, ?_⟩
    rw [aSent, c11, Bool.false_and]
    rfl
  · refine gJ_iload_n dX11_sent_14 rfl rfl ?_
    refine gJ_if_lt (tgt := 23) dX11_sent_15 (by decide) (fun c15 => ?_) (fun c15 => ?_)
    · refine gJ_iconst (v := -1) dX11_sent_23 (by decide) ?_
      refine gJ_iret dX11_sent_24 rfl ?_
      refine ⟨rfl, ?_⟩
      rw [aSent, if_neg (by rw [show mIn w 0 4 = false by rw [mIn, decide_eq_false (Int32.not_le.mpr c15), Bool.false_and], Bool.and_false]; exact Bool.false_ne_true)]
    · refine gJ_iload_n dX11_sent_18 rfl rfl ?_
      refine gJ_iconst (v := 5) dX11_sent_19 (by decide) ?_
      refine gJ_icmp_lt (tgt := 25) dX11_sent_20 (by decide) (fun c20 => ?_) (fun c20 => ?_)
      · have hw : mIn w 0 4 = true := (by rw [mIn, decide_eq_true (Int32.not_lt.mp c15), decide_eq_true (Classical.not_not.mp (fun h => Int32.not_lt.mpr (e5.mpr h) c20))]; rfl)
        obtain ⟨w', hw1, hw0, hw2, hw3⟩ := mIn_nat (lo := 0) (hi := 4) hw (by decide)
        subst hw2
        have c11' := c11
        rw [← cKeeps hn30 hv] at c11'
        simp only [Bool.and_eq_true, Bool.not_eq_true', decide_eq_false_iff_not] at c11'
        obtain ⟨g0, g1, g2⟩ := c11'
        obtain ⟨i', hi', hi2⟩ := nI_of g0
        subst hi2
        have hi30 : i' < 30 := (by have g := (not_congr (nI_leI (a := 30) (by decide) (by omega : i' < 2 ^ 31))).mp g1; omega)
        have hin : i' < n := (by have g := (not_congr (nI_leI (a := n) (by omega) (by omega : i' < 2 ^ 31))).mp g2; omega)
        refine gJ_aload_n dX11_sent_25 rfl rfl ?_
        refine gJ_get fX11_19 dX11_sent_26 (by first | with_reducible assumption | with_reducible exact gUp_s | with_reducible exact gUp_n (by with_reducible assumption) (by omega) | exact gUp_n (by assumption) (by omega) | exact gUp_s | assumption) rfl ?_
        refine gJ_get fX11_261 dX11_sent_29 (by first | with_reducible assumption | with_reducible exact gUp_s | with_reducible exact gUp_n (by with_reducible assumption) (by omega) | exact gUp_n (by assumption) (by omega) | exact gUp_s | assumption) rfl ?_
        refine gJ_iload_n dX11_sent_32 rfl rfl ?_
        refine gJ_iload_n dX11_sent_33 rfl rfl ?_
        refine gJ_callV (As := [_, _]) b_X4_read lX11_270 i_X4_read s_X4_read dX11_sent_34 (c4_read n L hn30 l0 l1 i' w' hin hi30 (by omega)) (by first | with_reducible assumption | with_reducible exact gUp_s | with_reducible exact gUp_n (by with_reducible assumption) (by omega) | exact gUp_n (by assumption) (by omega) | exact gUp_s | assumption) rfl rfl (Nat.le_of_ble_eq_true rfl) rfl (by decide) (fun M34 v_ h34 => ?_)
        obtain ⟨e_, rfl⟩ := h34
        replace e_ := e_.symm
        subst e_
        refine gJ_iret dX11_sent_37 rfl ?_
        refine ⟨rfl, ?_⟩
        rw [l2 i' hin hi30 w' (by omega), aSent, if_pos (by rw [c11, hw]; rfl), nI_clamp (by omega), nI_clamp (by omega)]
      · refine gJ_iconst (v := -1) dX11_sent_23 (by decide) ?_
        refine gJ_iret dX11_sent_24 rfl ?_
        refine ⟨rfl, ?_⟩
        rw [aSent, if_neg (by rw [show mIn w 0 4 = false by rw [mIn, decide_eq_false (e5.mp (Int32.not_lt.mp c20)), Bool.and_false], Bool.and_false]; exact Bool.false_ne_true)]
end CLS
