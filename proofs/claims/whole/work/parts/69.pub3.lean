/-! THE CLASS AS A WHOLE at b: tape b+1, now b+3, snapshot b+24, trial b+45; entries from b+75 on -/
def cX (M : gM) (b : Nat) (V : Nat → Int32) (S : Nat → Int64) (IV : Nat → Int32) (IS : Nat → Int64) (hi : Bool) (U : Nat → Int32) (t : Nat) : Prop :=
  M.1 b = some (cAE b hi) ∧ (∃ s, M.1 (b + 1) = some (cTp (b + 1) t s)) ∧ M.1 (b + 2) = some (gI 60 U) ∧ (∃ T D, T ≤ 99999 ∧ cR T M (b + 75) (b + 3) V S D) ∧ (∃ T W WS D, T ≤ 99999 ∧ mI W ∧ mJ W ∧ cR T M (b + 75) (b + 24) W WS D ∧ (hi = true → W = IV ∧ WS = IS)) ∧ ∃ T W WS D, cR T M (b + 75) (b + 45) W WS D
theorem cR_fr {T : Nat} {M M2 : gM} {E s a n : Nat} {V : Nat → Int32} {S D : Nat → Int64} (h : cR T M E s V S D) (hf : gFr M M2 a n) (hd : s + 21 ≤ a ∨ a + n ≤ s) (hE : a + n ≤ E) : cR T M2 E s V S D := cR_k h (fun x h1 h2 => hf.2 x (by omega)) (gFr_kp hf hE)
section CLS
variable {G : gG} {M : gM} {b t : Nat} {V IV : Nat → Int32} {S IS : Nat → Int64} {hi : Bool} {U : Nat → Int32}
theorem cX_now {M2 : gM} {W : Nat → Int32} {WS : Nat → Int64} (h : cX M b V S IV IS hi U t) (hf : gFr M M2 (b + 3) 21) (hr : ∃ T D, T ≤ 99999 ∧ cR T M2 (b + 75) (b + 3) W WS D) : cX M2 b W WS IV IS hi U t := by
  obtain ⟨h0, ⟨s, h1⟩, h2, -, ⟨T2, W2, WS2, D2, hT2, hI2, hJ2, hR2, he2⟩, ⟨T3, W3, WS3, D3, hR3⟩⟩ := h
  exact ⟨gFr_g hf h0 (by omega), ⟨s, gFr_g hf h1 (by omega)⟩, gFr_g hf h2 (by omega), hr, ⟨T2, W2, WS2, D2, hT2, hI2, hJ2, cR_fr hR2 hf (by omega) (by omega), he2⟩, ⟨T3, W3, WS3, D3, cR_fr hR3 hf (by omega) (by omega)⟩⟩
theorem cX_trial {M2 : gM} (h : cX M b V S IV IS hi U t) (hf : gFr M M2 (b + 45) 21) (hr : ∃ T W WS D, cR T M2 (b + 75) (b + 45) W WS D) : cX M2 b V S IV IS hi U t := by
  obtain ⟨h0, ⟨s, h1⟩, h2, ⟨T, D, hT, hR⟩, ⟨T2, W2, WS2, D2, hT2, hI2, hJ2, hR2, he2⟩, -⟩ := h
  exact ⟨gFr_g hf h0 (by omega), ⟨s, gFr_g hf h1 (by omega)⟩, gFr_g hf h2 (by omega), ⟨T, D, hT, cR_fr hR hf (by omega) (by omega)⟩, ⟨T2, W2, WS2, D2, hT2, hI2, hJ2, cR_fr hR2 hf (by omega) (by omega), he2⟩, hr⟩
/-- only the setup of the present state has changed -/
theorem cX_setup {M2 : gM} {W : Nat → Int32} (h : cX M b V S IV IS hi U t) (hf : gFr M M2 (b + 4) 9) (hr : cRS M2 (b + 75) (b + 4) W) (hW : ∀ i, 206 ≤ i → (i < 1842 ∨ 1847 ≤ i) → W i = V i) : cX M2 b W S IV IS hi U t := by
  refine cX_now h (gFr_w hf (by omega) (by omega)) ?_
  obtain ⟨-, -, -, ⟨T, D, hT, h0, h1, -, hA, hG, hL⟩, -⟩ := h
  exact ⟨T, D, hT, by rw [hW _ (by omega) (by omega)]; exact h0, by rw [hW _ (by omega) (by omega)]; exact gFr_g hf h1 (by omega), hr, cRA_V (cRA_fr hA hf (by omega)) (fun i h1 h2 => hW i (by omega) (by omega)), cRG_V (cRG_fr hG hf (by omega)) (fun i h1 h2 => hW i (by omega) (by omega)), cRL_V (cRL_fr hL hf (by omega)) (fun i h1 h2 => hW i (by omega) (by omega))⟩
set_option maxHeartbeats 1000000 in
set_option maxRecDepth 20000 in
theorem c11_label (h : cX M b V S IV IS hi U t) (hI : mI V) (s l x : Int32) : gCon G kX11_label 2 0 0 M [.ref b, .int s, .int l, .int x] (fun M2 v => gFr M M2 b 66 ∧ cX M2 b (aLabel V s l x).2 S IV IS hi U t ∧ v = some (.int (aLabel V s l x).1)) := by
  have h' := h
  obtain ⟨h0, -, -, ⟨T, D, hT, -, hs, hS, -⟩, -⟩ := h
  have ho : ∃ o, M.1 (b + 4) = some (gO 6 o) := by obtain ⟨_, _, _, _, q0, -⟩ := hS; exact ⟨_, q0⟩
  obtain ⟨o, ho⟩ := ho
  have e3 : ((3 : Int32) ≤ l) ↔ ¬ l ≤ 2 := by
    rw [Int32.not_le, Int32.le_iff_toInt_le, Int32.lt_iff_toInt_lt]
    have e1 : (2 : Int32).toInt = 2 := by decide
    have e2 : (3 : Int32).toInt = 3 := by decide
    omega
  refine gCon_of (by decide) (Nat.le_of_ble_eq_true rfl) ?_
  have main : ∀ s' l' : Nat, s' < 12 → l' < 3 → gJ G kX11_label 2 0 0 M 18 [(0, .ref b), (1, .int (nI s')), (2, .int (nI l')), (3, .int x)] [] (gQ kX11_label (fun M2 v => gFr M M2 b 66 ∧ cX M2 b (aLabel V (nI s') (nI l') x).2 S IV IS hi U t ∧ v = some (.int (aLabel V (nI s') (nI l') x).1))) := by
    intro s' l' hs12 hl3
    have hsl : (mIn (nI s') 0 11 && mIn (nI l') 0 2) = true := by
      rw [mIn, mIn, decide_eq_true (nI_pos' (by omega) : (0 : Int32) ≤ nI s'), decide_eq_true (show nI s' ≤ (11 : Int32) from (nI_leI (b := 11) (by omega) (by decide)).mpr (by omega)), decide_eq_true (nI_pos' (by omega) : (0 : Int32) ≤ nI l'), decide_eq_true (show nI l' ≤ (2 : Int32) from (nI_leI (b := 2) (by omega) (by decide)).mpr (by omega))]
      rfl
    have hA : aLabel V (nI s') (nI l') x = if mIn x 0 (if l' = 1 then 7 else 3) = true then (V (0 + 3 * s' + l'), upd V (0 + 3 * s' + l') x) else (-2, V) := by
      unfold aLabel
      rw [if_pos hsl, nI_clamp (by omega), nI_clamp (by omega)]
    have hg1 : (gSt 1).2.2 l' = (if l' = 1 then 7 else 3) := by rcases (show l' = 0 ∨ l' = 1 ∨ l' = 2 by omega) with rfl | rfl | rfl <;> rfl
    rw [hA]
    refine gJ_iload_n dX11_label_18 rfl rfl ?_
    refine gJ_if_lt (tgt := 31) dX11_label_19 (by decide) (fun c19 => ?_) (fun c19 => ?_)
    · refine gJ_bipush (v := -2) dX11_label_31 (by decide) ?_
      refine gJ_iret dX11_label_33 rfl ?_
      rw [if_neg (by rw [mIn, decide_eq_false (Int32.not_le.mpr c19), Bool.false_and]; exact Bool.false_ne_true)]
      exact ⟨gFr_r, h', rfl⟩
    · refine gJ_iload_n dX11_label_22 rfl rfl ?_
      refine gJ_gets (q := 1) (by decide) gX11_33 dX11_label_23 ?_
      refine gJ_iload_n dX11_label_26 rfl rfl ?_
      refine gJ_taldN (j := l') dX11_label_27 (q := 1) (by decide) (by first | with_reducible rfl | rfl) (show l' < 4 by omega) (by decide) ?_
      rw [hg1]
      refine gJ_icmp_le (tgt := 34) dX11_label_28 (by decide) (fun c28 => ?_) (fun c28 => ?_)
      · have hin : mIn x 0 (if l' = 1 then 7 else 3) = true := (by rw [mIn, decide_eq_true (Int32.not_lt.mp c19), decide_eq_true c28]; rfl)
        have hxv : ∃ v, v ≤ (if l' = 1 then 7 else 3) ∧ x = nI v := (by by_cases e : l' = 1; rw [if_pos e] at hin ⊢; obtain ⟨v, hv1, -, hv2, -⟩ := mIn_nat (lo := 0) (hi := 7) hin (by decide); exact ⟨v, hv1, hv2⟩; rw [if_neg e] at hin ⊢; obtain ⟨v, hv1, -, hv2, -⟩ := mIn_nat (lo := 0) (hi := 3) hin (by decide); exact ⟨v, hv1, hv2⟩)
        have hC := c7_relabel (G := G) hS (by omega) hI s' l' hs12 hl3 x hxv
        refine gJ_aload_n dX11_label_34 rfl rfl ?_
        refine gJ_get fX11_19 dX11_label_35 (by first | with_reducible assumption | with_reducible exact gUp_s | with_reducible exact gUp_n (by with_reducible assumption) (by omega) | exact gUp_n (by assumption) (by omega) | exact gUp_s | assumption) rfl ?_
        refine gJ_get fX11_37 dX11_label_38 (by first | with_reducible assumption | with_reducible exact gUp_s | with_reducible exact gUp_n (by with_reducible assumption) (by omega) | exact gUp_n (by assumption) (by omega) | exact gUp_s | assumption) rfl ?_
        refine gJ_iload_n dX11_label_41 rfl rfl ?_
        refine gJ_iload_n dX11_label_42 rfl rfl ?_
        refine gJ_iload_n dX11_label_43 rfl rfl ?_
        refine gJ_callV (As := [_, _, _]) b_X7_relabel lX11_41 i_X7_relabel s_X7_relabel dX11_label_44 (hC) ho rfl rfl (Nat.le_of_ble_eq_true rfl) rfl (by decide) (fun M44 v_ h44 => ?_)
        obtain ⟨hf, hr, rfl⟩ := h44
        refine gJ_iret dX11_label_47 rfl ?_
        rw [if_pos hin]
        rw [show 0 + 3 * s' + l' = 3 * s' + l' by omega]
        exact ⟨gFr_w hf (by omega) (by omega), cX_setup h' hf hr (fun i h1 h2 => pk_un (by omega)), rfl⟩
      · refine gJ_bipush (v := -2) dX11_label_31 (by decide) ?_
        refine gJ_iret dX11_label_33 rfl ?_
        rw [if_neg (by rw [mIn, decide_eq_false c28, Bool.and_false]; exact Bool.false_ne_true)]
        exact ⟨gFr_r, h', rfl⟩
  show gJ _ _ _ _ _ _ 0 [(0, _), (1, _), (2, _), (3, _)] [] _
  refine gJ_iload_n dX11_label_0 rfl rfl ?_
  refine gJ_callS (As := [_]) b_X11_isSeries lX11_29 i_X11_isSeries dX11_label_1 (c11_isSeries s) rfl (Nat.le_of_ble_eq_true rfl) rfl (by decide) (fun M1 v_ h1 => ?_)
  obtain ⟨e_, rfl⟩ := h1
  replace e_ := e_.symm
  subst e_
  refine gJ_if_eqB (tgt := 16) dX11_label_4 (by decide) (fun c4 => ?_) (fun c4 => ?_)
  · refine gJ_iconst (v := -1) dX11_label_16 (by decide) ?_
    refine gJ_iret dX11_label_17 rfl ?_
    have hA : aLabel V s l x = (-1, V) := by rw [aLabel, if_neg (by rw [c4, Bool.false_and]; exact Bool.false_ne_true)]
    rw [hA]
    exact ⟨gFr_r, h', rfl⟩
  · refine gJ_iload_n dX11_label_7 rfl rfl ?_
    refine gJ_if_lt (tgt := 16) dX11_label_8 (by decide) (fun c8 => ?_) (fun c8 => ?_)
    · refine gJ_iconst (v := -1) dX11_label_16 (by decide) ?_
      refine gJ_iret dX11_label_17 rfl ?_
      have hA : aLabel V s l x = (-1, V) := by rw [aLabel, if_neg (by rw [show mIn l 0 2 = false by rw [mIn, decide_eq_false (Int32.not_le.mpr c8), Bool.false_and], Bool.and_false]; exact Bool.false_ne_true)]
      rw [hA]
      exact ⟨gFr_r, h', rfl⟩
    · refine gJ_iload_n dX11_label_11 rfl rfl ?_
      refine gJ_iconst (v := 3) dX11_label_12 (by decide) ?_
      refine gJ_icmp_lt (tgt := 18) dX11_label_13 (by decide) (fun c13 => ?_) (fun c13 => ?_)
      · have hl2 : mIn l 0 2 = true := (by rw [mIn, decide_eq_true (Int32.not_lt.mp c8), decide_eq_true (Classical.not_not.mp (fun h => Int32.not_lt.mpr (e3.mpr h) c13))]; rfl)
        obtain ⟨s', hs1, hs0, rfl, hs3⟩ := mIn_nat (lo := 0) (hi := 11) c4 (by decide)
        obtain ⟨l', hl1, hl0, rfl, hl3⟩ := mIn_nat (lo := 0) (hi := 2) hl2 (by decide)
        exact gJ_ls (main s' l' (by omega) (by omega)) ⟨rfl, rfl, rfl, rfl, trivial⟩
      · refine gJ_iconst (v := -1) dX11_label_16 (by decide) ?_
        refine gJ_iret dX11_label_17 rfl ?_
        have hA : aLabel V s l x = (-1, V) := by rw [aLabel, if_neg (by rw [show mIn l 0 2 = false by rw [mIn, decide_eq_false (e3.mp (Int32.not_lt.mp c13)), Bool.and_false], Bool.and_false]; exact Bool.false_ne_true)]
        rw [hA]
        exact ⟨gFr_r, h', rfl⟩
set_option maxHeartbeats 1000000 in
set_option maxRecDepth 20000 in
theorem c11_sample (h : cX M b V S IV IS hi U t) (hI : mI V) (s x : Int32) : gCon G kX11_sample 1 0 0 M [.ref b, .int s, .int x] (fun M2 v => gFr M M2 b 66 ∧ cX M2 b (aSample V s x).2 S IV IS hi U t ∧ v = some (.int (aSample V s x).1)) := by
  have h' := h
  obtain ⟨h0, -, -, ⟨T, D, hT, -, hs, ⟨X, RU, SI, IN, s0, s1, s2, s3, s4, s5, s6, s7, s8, sX, sR, sS, sN⟩, -⟩, -⟩ := h
  refine gCon_of (by decide) (Nat.le_of_ble_eq_true rfl) ?_
  have main : ∀ s' : Nat, s' < 12 → gJ G kX11_sample 1 0 0 M 9 [(0, .ref b), (1, .int (nI s')), (2, .int x)] [] (gQ kX11_sample (fun M2 v => gFr M M2 b 66 ∧ cX M2 b (upd (upd V (48 + s') 1) (36 + s') x) S IV IS hi U t ∧ v = some (.int (V (48 + s'))))) := by
    intro s' hs12
    have hh := cHas_at (V := V) hs12
    obtain ⟨z, hz1, hz2⟩ := hI.2.1 s' hs12
    have hzb : V (48 + s') = gb (decide (z = 1)) := by
      rw [hz2]
      rcases (show z = 0 ∨ z = 1 by omega) with rfl | rfl <;> rfl
    have fin : ∀ M2 : gM, M2 = gUp (gUp M (b + 4 + 3) (gZ 12 (upd (cHas V) s' 1))) (b + 4 + 2) (gI 12 (upd X s' x)) → gFr M M2 b 66 ∧ cX M2 b (upd (upd V (48 + s') 1) (36 + s') x) S IV IS hi U t := by
      intro M2 hM
      subst hM
      have hf : gFr M (gUp (gUp M (b + 4 + 3) (gZ 12 (upd (cHas V) s' 1))) (b + 4 + 2) (gI 12 (upd X s' x))) (b + 4) 9 := gFr_u (gFr_u gFr_r (by omega)) (by omega)
      have hk := gFr_kp hf (E := b + 75) (by omega)
      refine ⟨gFr_w hf (by omega) (by omega), cX_setup h' hf ⟨upd X s' x, RU, SI, IN, gUp_n (gUp_n s0 (by omega)) (by omega), ?_, gUp_s, ?_, gUp_n (gUp_n s4 (by omega)) (by omega), gUp_n (gUp_n s5 (by omega)) (by omega), gUp_n (gUp_n s6 (by omega)) (by omega), ?_, ?_, fun j hj hz => ?_, fun r hr => cRul_kp (cRul_W (sR r hr) hr hI (fun i h1 h2 => by rw [pk_un (by omega), pk_un (by omega)])) hk, fun r hr => cSil_kp (cSil_W (sS r hr) hr hI (fun i h1 h2 => by rw [pk_un (by omega), pk_un (by omega)])) hk, fun r hr => cInh_kp (cInh_W (sN r hr) hr hI (fun i h1 h2 => by rw [pk_un (by omega), pk_un (by omega)])) hk⟩ (fun i h1 h2 => by rw [pk_un (by omega), pk_un (by omega)])⟩
      · rw [show cLab (upd (upd V (48 + s') 1) (36 + s') x) = cLab V from funext (fun i => by unfold cLab; by_cases hi : i < 36; rw [if_pos hi, if_pos hi, pk_un (by omega), pk_un (by omega)]; rw [if_neg hi, if_neg hi])]
        exact gUp_n (gUp_n s1 (by omega)) (by omega)
      · rw [show cHas (upd (upd V (48 + s') 1) (36 + s') x) = upd (cHas V) s' 1 from by
          rw [cHas_up hs12]
          funext i
          unfold cHas
          by_cases hi : i < 12
          · rw [if_pos hi, if_pos hi, pk_un (by omega)]
          · rw [if_neg hi, if_neg hi]]
        exact gUp_n gUp_s (by omega)
      · rw [show cPar (upd (upd V (48 + s') 1) (36 + s') x) = cPar V from funext (fun i => by unfold cPar; by_cases hi : i < 5; rw [if_pos hi, if_pos hi, pk_un (by omega), pk_un (by omega)]; rw [if_neg hi, if_neg hi])]
        exact gUp_n (gUp_n s7 (by omega)) (by omega)
      · rw [cSets_W (V := V) (fun i hi => by rw [pk_un (by omega), pk_un (by omega)]) (fun r hr => ⟨by rw [pk_un (by omega), pk_un (by omega)], by rw [pk_un (by omega), pk_un (by omega)]⟩)]
        exact gUp_n (gUp_n s8 (by omega)) (by omega)
      · by_cases e : j = s'
        · subst e; rw [pk_us, pk_us]
        · rw [pk_un (by omega), pk_un (by omega)] at hz
          rw [pk_un e, pk_un (by omega), pk_un (by omega)]
          exact sX j hj hz
    refine gJ_aload_n dX11_sample_9 rfl rfl ?_
    refine gJ_get fX11_19 dX11_sample_10 (by repeat (first | exact gUp_s | assumption | refine gUp_n ?_ (by omega))) rfl ?_
    refine gJ_get fX11_37 dX11_sample_13 (by repeat (first | exact gUp_s | assumption | refine gUp_n ?_ (by omega))) rfl ?_
    refine gJ_get fX11_47 dX11_sample_16 (by repeat (first | exact gUp_s | assumption | refine gUp_n ?_ (by omega))) rfl ?_
    refine gJ_iload_n dX11_sample_19 rfl rfl ?_
    refine gJ_zaldN (j := s') dX11_sample_20 (by repeat (first | exact gUp_s | assumption | refine gUp_n ?_ (by omega))) (by first | with_reducible rfl | rfl) (by omega) (by decide) ?_
    rw [hh, hzb]
    refine gJ_callS (As := [_]) b_X11_bit lX11_51 i_X11_bit dX11_sample_21 (c11_bit (decide (z = 1))) rfl (Nat.le_of_ble_eq_true rfl) rfl (by decide) (fun M21 v_ h21 => ?_)
    obtain ⟨e_, rfl⟩ := h21
    replace e_ := e_.symm
    subst e_
    refine gJ_istore_n (lv2 := [(3, _), (0, _), (1, _), (2, _)]) dX11_sample_24 rfl rfl rfl ?_
    refine gJ_aload_n dX11_sample_25 rfl rfl ?_
    refine gJ_get fX11_19 dX11_sample_26 (by repeat (first | exact gUp_s | assumption | refine gUp_n ?_ (by omega))) rfl ?_
    refine gJ_get fX11_37 dX11_sample_29 (by repeat (first | exact gUp_s | assumption | refine gUp_n ?_ (by omega))) rfl ?_
    refine gJ_get fX11_47 dX11_sample_32 (by repeat (first | exact gUp_s | assumption | refine gUp_n ?_ (by omega))) rfl ?_
    refine gJ_iload_n dX11_sample_35 rfl rfl ?_
    refine gJ_iconst (v := 1) dX11_sample_36 (by decide) ?_
    refine gJ_zastN (j := s') dX11_sample_37 (by repeat (first | exact gUp_s | assumption | refine gUp_n ?_ (by omega))) (by first | with_reducible rfl | rfl) (by omega) (by decide) (by decide) ?_
    try rw [gUp_up]
    refine gJ_aload_n dX11_sample_38 rfl rfl ?_
    refine gJ_get fX11_19 dX11_sample_39 (by repeat (first | exact gUp_s | assumption | refine gUp_n ?_ (by omega))) rfl ?_
    refine gJ_get fX11_37 dX11_sample_42 (by repeat (first | exact gUp_s | assumption | refine gUp_n ?_ (by omega))) rfl ?_
    refine gJ_get fX11_55 dX11_sample_45 (by repeat (first | exact gUp_s | assumption | refine gUp_n ?_ (by omega))) rfl ?_
    refine gJ_iload_n dX11_sample_48 rfl rfl ?_
    refine gJ_iload_n dX11_sample_49 rfl rfl ?_
    refine gJ_iastN (j := s') dX11_sample_50 (by repeat (first | exact gUp_s | assumption | refine gUp_n ?_ (by omega))) (by first | with_reducible rfl | rfl) (by omega) (by decide) ?_
    try rw [gUp_up]
    refine gJ_iload_n dX11_sample_51 rfl rfl ?_
    refine gJ_iret dX11_sample_52 rfl ?_
    obtain ⟨f1, f2⟩ := fin _ rfl
    exact ⟨f1, f2, rfl⟩
  show gJ _ _ _ _ _ _ 0 [(0, _), (1, _), (2, _)] [] _
  refine gJ_iload_n dX11_sample_0 rfl rfl ?_
  refine gJ_callS (As := [_]) b_X11_isSeries lX11_29 i_X11_isSeries dX11_sample_1 (c11_isSeries s) rfl (Nat.le_of_ble_eq_true rfl) rfl (by decide) (fun M1 v_ h1 => ?_)
  obtain ⟨e_, rfl⟩ := h1
  replace e_ := e_.symm
  subst e_
  refine gJ_if_neB (tgt := 9) dX11_sample_4 (by decide) (fun c4 => ?_) (fun c4 => ?_)
  · obtain ⟨s', hs1, hs0, rfl, hs3⟩ := mIn_nat (lo := 0) (hi := 11) c4 (by decide)
    have hA : aSample V (nI s') x = (V (48 + s'), upd (upd V (48 + s') 1) (36 + s') x) := by rw [aSample, c4, hs3]; rfl
    rw [hA]
    exact gJ_ls (main s' (by omega)) ⟨rfl, rfl, rfl, trivial⟩
  · refine gJ_iconst (v := -1) dX11_sample_7 (by decide) ?_
    refine gJ_iret dX11_sample_8 rfl ?_
    have hA : aSample V s x = (-1, V) := by rw [aSample, c4]; rfl
    rw [hA]
    exact ⟨gFr_r, h', rfl⟩
set_option maxHeartbeats 1000000 in
set_option maxRecDepth 20000 in
theorem c11_drop (h : cX M b V S IV IS hi U t) (hI : mI V) (s : Int32) : gCon G kX11_drop 1 0 0 M [.ref b, .int s] (fun M2 v => gFr M M2 b 66 ∧ cX M2 b (aDrop V s).2 S IV IS hi U t ∧ v = some (.int (aDrop V s).1)) := by
  have h' := h
  obtain ⟨h0, -, -, ⟨T, D, hT, -, hs, ⟨X, RU, SI, IN, s0, s1, s2, s3, s4, s5, s6, s7, s8, sX, sR, sS, sN⟩, -⟩, -⟩ := h
  refine gCon_of (by decide) (Nat.le_of_ble_eq_true rfl) ?_
  have main : ∀ s' : Nat, s' < 12 → gJ G kX11_drop 1 0 0 M 9 [(0, .ref b), (1, .int (nI s'))] [] (gQ kX11_drop (fun M2 v => gFr M M2 b 66 ∧ cX M2 b (upd (upd V (48 + s') 0) (36 + s') 0) S IV IS hi U t ∧ v = some (.int (V (48 + s'))))) := by
    intro s' hs12
    have hh := cHas_at (V := V) hs12
    obtain ⟨z, hz1, hz2⟩ := hI.2.1 s' hs12
    have hzb : V (48 + s') = gb (decide (z = 1)) := by
      rw [hz2]
      rcases (show z = 0 ∨ z = 1 by omega) with rfl | rfl <;> rfl
    have fin : ∀ M2 : gM, M2 = gUp M (b + 4 + 3) (gZ 12 (upd (cHas V) s' 0)) → gFr M M2 b 66 ∧ cX M2 b (upd (upd V (48 + s') 0) (36 + s') 0) S IV IS hi U t := by
      intro M2 hM
      subst hM
      have hf : gFr M (gUp M (b + 4 + 3) (gZ 12 (upd (cHas V) s' 0))) (b + 4) 9 := gFr_u gFr_r (by omega)
      have hk := gFr_kp hf (E := b + 75) (by omega)
      refine ⟨gFr_w hf (by omega) (by omega), cX_setup h' hf ⟨X, RU, SI, IN, gUp_n s0 (by omega), ?_, gUp_n s2 (by omega), ?_, gUp_n s4 (by omega), gUp_n s5 (by omega), gUp_n s6 (by omega), ?_, ?_, fun j hj hz => ?_, fun r hr => cRul_kp (cRul_W (sR r hr) hr hI (fun i h1 h2 => by rw [pk_un (by omega), pk_un (by omega)])) hk, fun r hr => cSil_kp (cSil_W (sS r hr) hr hI (fun i h1 h2 => by rw [pk_un (by omega), pk_un (by omega)])) hk, fun r hr => cInh_kp (cInh_W (sN r hr) hr hI (fun i h1 h2 => by rw [pk_un (by omega), pk_un (by omega)])) hk⟩ (fun i h1 h2 => by rw [pk_un (by omega), pk_un (by omega)])⟩
      · rw [show cLab (upd (upd V (48 + s') 0) (36 + s') 0) = cLab V from funext (fun i => by unfold cLab; by_cases hi : i < 36; rw [if_pos hi, if_pos hi, pk_un (by omega), pk_un (by omega)]; rw [if_neg hi, if_neg hi])]
        exact gUp_n s1 (by omega)
      · rw [show cHas (upd (upd V (48 + s') 0) (36 + s') 0) = upd (cHas V) s' 0 from by
          rw [cHas_up hs12]
          funext i
          unfold cHas
          by_cases hi : i < 12
          · rw [if_pos hi, if_pos hi, pk_un (by omega)]
          · rw [if_neg hi, if_neg hi]]
        exact gUp_s
      · rw [show cPar (upd (upd V (48 + s') 0) (36 + s') 0) = cPar V from funext (fun i => by unfold cPar; by_cases hi : i < 5; rw [if_pos hi, if_pos hi, pk_un (by omega), pk_un (by omega)]; rw [if_neg hi, if_neg hi])]
        exact gUp_n s7 (by omega)
      · rw [cSets_W (V := V) (fun i hi => by rw [pk_un (by omega), pk_un (by omega)]) (fun r hr => ⟨by rw [pk_un (by omega), pk_un (by omega)], by rw [pk_un (by omega), pk_un (by omega)]⟩)]
        exact gUp_n s8 (by omega)
      · by_cases e : j = s'
        · subst e; rw [pk_un (by omega), pk_us] at hz; exact absurd rfl hz
        · rw [pk_un (by omega), pk_un (by omega)] at hz
          rw [pk_un (by omega), pk_un (by omega)]
          exact sX j hj hz
    refine gJ_aload_n dX11_drop_9 rfl rfl ?_
    refine gJ_get fX11_19 dX11_drop_10 (by repeat (first | exact gUp_s | assumption | refine gUp_n ?_ (by omega))) rfl ?_
    refine gJ_get fX11_37 dX11_drop_13 (by repeat (first | exact gUp_s | assumption | refine gUp_n ?_ (by omega))) rfl ?_
    refine gJ_get fX11_47 dX11_drop_16 (by repeat (first | exact gUp_s | assumption | refine gUp_n ?_ (by omega))) rfl ?_
    refine gJ_iload_n dX11_drop_19 rfl rfl ?_
    refine gJ_zaldN (j := s') dX11_drop_20 (by repeat (first | exact gUp_s | assumption | refine gUp_n ?_ (by omega))) (by first | with_reducible rfl | rfl) (by omega) (by decide) ?_
    rw [hh, hzb]
    refine gJ_callS (As := [_]) b_X11_bit lX11_51 i_X11_bit dX11_drop_21 (c11_bit (decide (z = 1))) rfl (Nat.le_of_ble_eq_true rfl) rfl (by decide) (fun M21 v_ h21 => ?_)
    obtain ⟨e_, rfl⟩ := h21
    replace e_ := e_.symm
    subst e_
    refine gJ_istore_n (lv2 := [(2, _), (0, _), (1, _)]) dX11_drop_24 rfl rfl rfl ?_
    refine gJ_aload_n dX11_drop_25 rfl rfl ?_
    refine gJ_get fX11_19 dX11_drop_26 (by repeat (first | exact gUp_s | assumption | refine gUp_n ?_ (by omega))) rfl ?_
    refine gJ_get fX11_37 dX11_drop_29 (by repeat (first | exact gUp_s | assumption | refine gUp_n ?_ (by omega))) rfl ?_
    refine gJ_get fX11_47 dX11_drop_32 (by repeat (first | exact gUp_s | assumption | refine gUp_n ?_ (by omega))) rfl ?_
    refine gJ_iload_n dX11_drop_35 rfl rfl ?_
    refine gJ_iconst (v := 0) dX11_drop_36 (by decide) ?_
    refine gJ_zastN (j := s') dX11_drop_37 (by repeat (first | exact gUp_s | assumption | refine gUp_n ?_ (by omega))) (by first | with_reducible rfl | rfl) (by omega) (by decide) (by decide) ?_
    try rw [gUp_up]
    refine gJ_iload_n dX11_drop_38 rfl rfl ?_
    refine gJ_iret dX11_drop_39 rfl ?_
    obtain ⟨f1, f2⟩ := fin _ rfl
    exact ⟨f1, f2, rfl⟩
  show gJ _ _ _ _ _ _ 0 [(0, _), (1, _)] [] _
  refine gJ_iload_n dX11_drop_0 rfl rfl ?_
  refine gJ_callS (As := [_]) b_X11_isSeries lX11_29 i_X11_isSeries dX11_drop_1 (c11_isSeries s) rfl (Nat.le_of_ble_eq_true rfl) rfl (by decide) (fun M1 v_ h1 => ?_)
  obtain ⟨e_, rfl⟩ := h1
  replace e_ := e_.symm
  subst e_
  refine gJ_if_neB (tgt := 9) dX11_drop_4 (by decide) (fun c4 => ?_) (fun c4 => ?_)
  · obtain ⟨s', hs1, hs0, rfl, hs3⟩ := mIn_nat (lo := 0) (hi := 11) c4 (by decide)
    have hA : aDrop V (nI s') = (V (48 + s'), upd (upd V (48 + s') 0) (36 + s') 0) := by rw [aDrop, c4, hs3]; rfl
    rw [hA]
    exact gJ_ls (main s' (by omega)) ⟨rfl, rfl, trivial⟩
  · refine gJ_iconst (v := -1) dX11_drop_7 (by decide) ?_
    refine gJ_iret dX11_drop_8 rfl ?_
    have hA : aDrop V s = (-1, V) := by rw [aDrop, c4]; rfl
    rw [hA]
    exact ⟨gFr_r, h', rfl⟩
end CLS
