theorem zEnd_1 {t : Nat} {s : zP} : (zEnd t s).1 = s.1 := by
  unfold zEnd
  split <;> rfl
theorem zEnd_b {t : Nat} {s : zP} : (zEnd t s).2 = true ↔ (s.2 = true ∨ s.1 < t) := by
  unfold zEnd
  split
  · rename_i h
    exact ⟨fun _ => Or.inr h, fun _ => rfl⟩
  · rename_i h
    exact ⟨fun h2 => Or.inl h2, fun h2 => h2.elim id (fun h3 => absurd h3 h)⟩
theorem cMat_put {M : gM} {E E2 q f g : Nat} {F W : Nat → Int32} (h : cMat M E q F f) (hf : mMs F f) (hE : E2 ≤ E) (hW : ∀ i, i < 5 → W (g + i) = F (f + i)) : cMat M E2 q W g := by
  obtain ⟨e0, q1, q2, L, Z, e1, e2, g0, g1, g2, g3⟩ := h
  obtain ⟨-, n, hn, hVn, -⟩ := hf
  have hnn := mN_of hVn (by omega)
  have eN : ∀ i, i < 5 → mN W (g + i) = mN F (f + i) := fun i h1 => by unfold mN; rw [hW i h1]
  refine ⟨by omega, q1, q2, L, Z, by omega, by omega, by rw [show W g = F f from hW 0 (by omega)]; exact g0, g1, g2, fun j hj => ?_⟩
  rw [show mN W g = mN F f from eN 0 (by omega)] at hj
  rw [eN (j + 1) (by omega)]
  exact g3 j hj
/-- what changes at an addition: the class' own cells, and fresh ones -/
def cFx (M M2 : gM) (b : Nat) : Prop := M.2 ≤ M2.2 ∧ ∀ x, x < M.2 → (x < b ∨ b + 66 ≤ x) → M2.1 x = M.1 x
section CLS
variable {G : gG} {M : gM} {b t : Nat} {V IV : Nat → Int32} {S IS : Nat → Int64} {hi : Bool} {U : Nat → Int32}
theorem nI_nm5 {i : Nat} (h : i < 2 ^ 31) : ¬ nI i = (-5 : Int32) := fun e => absurd (nI_pos' h) (by rw [e]; decide)
theorem cX_keep {M2 : gM} {t2 : Nat} (h : cX M b V S IV IS hi U t) (hx : ∀ x, b ≤ x → x < b + 66 → x ≠ b + 1 → M2.1 x = M.1 x) (hk : gKp M M2 (b + 75)) (h1 : ∃ s, M2.1 (b + 1) = some (cTp (b + 1) t2 s)) : cX M2 b V S IV IS hi U t2 := by
  obtain ⟨h0, -, h2, ⟨T, D, hT, hR⟩, ⟨T2, W2, WS2, D2, hT2, hI2, hJ2, hR2, he2⟩, ⟨T3, W3, WS3, D3, hR3⟩⟩ := h
  exact ⟨(hx _ (by omega) (by omega) (by omega)).trans h0, h1, (hx _ (by omega) (by omega) (by omega)).trans h2, ⟨T, D, hT, cR_k hR (fun x h1 h2 => hx x (by omega) (by omega) (by omega)) hk⟩, ⟨T2, W2, WS2, D2, hT2, hI2, hJ2, cR_k hR2 (fun x h1 h2 => hx x (by omega) (by omega) (by omega)) hk, he2⟩, ⟨T3, W3, WS3, D3, cR_k hR3 (fun x h1 h2 => hx x (by omega) (by omega) (by omega)) hk⟩⟩
set_option maxRecDepth 20000 in
theorem c11_add110 {nc ns : Nat} {M2 : gM} {s : zP} {k kind : Nat} (h0 : M2.1 b = some (cAE b hi)) (h1 : M2.1 (b + 1) = some (cTp (b + 1) t s)) {Q : gPq} (hQ : Q (gUp M2 (b + 1) (cTp (b + 1) 0 s)) (some (.int (if s.2 = true then -100 - nI s.1 else nI k)))) : gJ G kX11_add 6 nc ns M2 110 [(2, .int (nI k)), (0, .ref b), (1, .int (nI kind))] [] (gQ kX11_add Q) := by
  have hC := c10_clear (G := G) h1
  obtain ⟨p1, w⟩ := s
  cases w with
  | true =>
    rw [if_pos rfl] at hQ
    refine gJ_aload_n dX11_add_110 rfl rfl ?_
    refine gJ_get fX11_12 dX11_add_111 (by first | with_reducible assumption | with_reducible exact gUp_s | with_reducible exact gUp_n (by with_reducible assumption) (by omega) | exact gUp_n (by assumption) (by omega) | exact gUp_s | assumption) rfl ?_
    refine gJ_get fX11_110 dX11_add_114 (by first | with_reducible assumption | with_reducible exact gUp_s | with_reducible exact gUp_n (by with_reducible assumption) (by omega) | exact gUp_n (by assumption) (by omega) | exact gUp_s | assumption) rfl ?_
    refine gJ_if_eqB (tgt := 133) dX11_add_117 (by decide) (fun c_ => by exfalso; cases c_) (fun _ => ?_)
    refine gJ_bipush (v := -100) dX11_add_120 (by decide) ?_
    refine gJ_aload_n dX11_add_122 rfl rfl ?_
    refine gJ_get fX11_12 dX11_add_123 (by first | with_reducible assumption | with_reducible exact gUp_s | with_reducible exact gUp_n (by with_reducible assumption) (by omega) | exact gUp_n (by assumption) (by omega) | exact gUp_s | assumption) rfl ?_
    refine gJ_get fX11_114 dX11_add_126 (by first | with_reducible assumption | with_reducible exact gUp_s | with_reducible exact gUp_n (by with_reducible assumption) (by omega) | exact gUp_n (by assumption) (by omega) | exact gUp_s | assumption) rfl ?_
    refine gJ_isub dX11_add_129 ?_
    refine gJ_goto (tgt := 134) dX11_add_130 (by decide) ?_
    refine gJ_istore_n (lv2 := [(3, _), (2, _), (0, _), (1, _)]) dX11_add_134 rfl rfl rfl ?_
    refine gJ_aload_n dX11_add_135 rfl rfl ?_
    refine gJ_get fX11_12 dX11_add_136 (by first | with_reducible assumption | with_reducible exact gUp_s | with_reducible exact gUp_n (by with_reducible assumption) (by omega) | exact gUp_n (by assumption) (by omega) | exact gUp_s | assumption) rfl ?_
    refine gJ_callV (As := []) b_X10_clear lX11_117 i_X10_clear s_X10_clear dX11_add_139 (hC) h1 rfl rfl (Nat.le_of_ble_eq_true rfl) rfl (by decide) (fun M139 v_ h139 => ?_)
    obtain ⟨e_, rfl⟩ := h139
    replace e_ := e_.symm
    subst e_
    refine gJ_iload_n dX11_add_142 rfl rfl ?_
    refine gJ_iret dX11_add_143 rfl ?_
    exact hQ
  | false =>
    rw [if_neg Bool.false_ne_true] at hQ
    refine gJ_aload_n dX11_add_110 rfl rfl ?_
    refine gJ_get fX11_12 dX11_add_111 (by first | with_reducible assumption | with_reducible exact gUp_s | with_reducible exact gUp_n (by with_reducible assumption) (by omega) | exact gUp_n (by assumption) (by omega) | exact gUp_s | assumption) rfl ?_
    refine gJ_get fX11_110 dX11_add_114 (by first | with_reducible assumption | with_reducible exact gUp_s | with_reducible exact gUp_n (by with_reducible assumption) (by omega) | exact gUp_n (by assumption) (by omega) | exact gUp_s | assumption) rfl ?_
    refine gJ_if_eqB (tgt := 133) dX11_add_117 (by decide) (fun _ => ?_) (fun c_ => by exfalso; cases c_)
    refine gJ_iload_n dX11_add_133 rfl rfl ?_
    refine gJ_istore_n (lv2 := [(3, _), (2, _), (0, _), (1, _)]) dX11_add_134 rfl rfl rfl ?_
    refine gJ_aload_n dX11_add_135 rfl rfl ?_
    refine gJ_get fX11_12 dX11_add_136 (by first | with_reducible assumption | with_reducible exact gUp_s | with_reducible exact gUp_n (by with_reducible assumption) (by omega) | exact gUp_n (by assumption) (by omega) | exact gUp_s | assumption) rfl ?_
    refine gJ_callV (As := []) b_X10_clear lX11_117 i_X10_clear s_X10_clear dX11_add_139 (hC) h1 rfl rfl (Nat.le_of_ble_eq_true rfl) rfl (by decide) (fun M139 v_ h139 => ?_)
    obtain ⟨e_, rfl⟩ := h139
    replace e_ := e_.symm
    subst e_
    refine gJ_iload_n dX11_add_142 rfl rfl ?_
    refine gJ_iret dX11_add_143 rfl ?_
    exact hQ
set_option maxHeartbeats 2000000 in
set_option maxRecDepth 20000 in
theorem c11_add_0 (h : cX M b V S IV IS hi U t) (ht : t ≤ 60) (hB : zB U) (hI : mI V) (hbM : b + 75 ≤ M.2) : gJ G kX11_add 6 7 25 M 9 [(0, .ref b), (1, .int (nI 0))] [] (gQ kX11_add (fun M2 v => cFx M M2 b ∧ cX M2 b (aAddK V U t 0).2.1 S IV IS hi U (aAddK V U t 0).2.2 ∧ v = some (.int (aAddK V U t 0).1))) := by
  refine gJ_lt fun hlt => ?_
  have h' := h
  obtain ⟨h0, ⟨s, h1⟩, h2, ⟨T, D, hT, hV, hs, ⟨X, RU, SI, IN, s0, s1, s2, s3, s4, s5, s6, s7, s8, sX, sR, sS, sN⟩, -⟩, -⟩ := h
  have hLf := c11_lowestFree (G := G) 0 (by decide) (n := 5) (by omega) s4
  have hfr := cSlots_free (kind := 0) (V := V) (f := RU) (fun k hk => cOneR sR k hk)
  rw [show mFind 5 (fun k => (RU k).isNone) = if mMany V 0 = mMst 0 then -5 else nI (mFree V 0) from hfr] at hLf
  by_cases hfull : mMany V 0 = mMst 0
  · rw [if_pos hfull] at hLf
    have hA : aAddK V U t 0 = (-4, V, t) := by rw [aAddK, if_pos hfull]
    rw [hA]
    refine gJ_aload_n dX11_add_9 rfl rfl ?_
    refine gJ_get fX11_19 dX11_add_10 (by first | with_reducible assumption | with_reducible exact gUp_s | with_reducible exact gUp_n (by with_reducible assumption) (by omega) | exact gUp_n (by assumption) (by omega) | exact gUp_s | assumption) rfl ?_
    refine gJ_get fX11_37 dX11_add_13 (by first | with_reducible assumption | with_reducible exact gUp_s | with_reducible exact gUp_n (by with_reducible assumption) (by omega) | exact gUp_n (by assumption) (by omega) | exact gUp_s | assumption) rfl ?_
    refine gJ_iload_n dX11_add_16 rfl rfl ?_
    refine gJ_callV (As := [_]) b_X7_slots lX11_75 i_X7_slots s_X7_slots dX11_add_17 (c7_slots s0 0 (by decide)) (by first | with_reducible assumption | with_reducible exact gUp_s | with_reducible exact gUp_n (by with_reducible assumption) (by omega) | exact gUp_n (by assumption) (by omega) | exact gUp_s | assumption) rfl rfl (Nat.le_of_ble_eq_true rfl) rfl (by decide) (fun M17 v_ h17 => ?_)
    obtain ⟨e_, rfl⟩ := h17
    replace e_ := e_.symm
    subst e_
    refine gJ_callS (As := [_]) b_X11_lowestFree lX11_79 i_X11_lowestFree dX11_add_20 (hLf) rfl (Nat.le_of_ble_eq_true rfl) rfl (by decide) (fun M20 v_ h20 => ?_)
    obtain ⟨e_, rfl⟩ := h20
    replace e_ := e_.symm
    subst e_
    refine gJ_istore_n (lv2 := [(2, _), (0, _), (1, _)]) dX11_add_23 rfl rfl rfl ?_
    refine gJ_iload_n dX11_add_24 rfl rfl ?_
    refine gJ_bipush (v := -5) dX11_add_25 (by decide) ?_
    refine gJ_icmp_ne (tgt := 33) dX11_add_27 (by decide) (fun c_ => by exfalso; exact c_ rfl) (fun _ => ?_)
    refine gJ_bipush (v := -4) dX11_add_30 (by decide) ?_
    refine gJ_iret dX11_add_32 rfl ?_
    exact ⟨⟨Nat.le_refl _, fun _ _ _ => rfl⟩, h', rfl⟩
  · rw [if_neg hfull] at hLf
    obtain ⟨hk1, hk2, -⟩ := mFree_is hfull
    obtain ⟨r, hr⟩ : ∃ r, r = zRu U t (fun _ => 0) (0, false) := ⟨_, rfl⟩
    have hKr : zK U t 0 = r := by
      rw [hr]
      exact (if_pos rfl)
    have hok : zOk 0 r.1 := hKr ▸ zK_ok (T := U) (t := t) (kind := 0) (by decide)
    have hbad : (zEnd t r.2).2 = true → aAddK V U t 0 = (-100 - nI r.2.1, V, 0) := fun hz => by rw [aAddK, if_neg hfull, hKr, if_pos (zEnd_b.mp hz)]
    have hgood : (zEnd t r.2).2 = false → aAddK V U t 0 = (nI (mFree V 0), mPut V 0 (mFree V 0) r.1, 0) := fun hz => by rw [aAddK, if_neg hfull, hKr, if_neg (fun h2 => by rw [zEnd_b.mpr h2] at hz; cases hz)]
    generalize mFree V 0 = k at hk1 hk2 hLf hgood
    have hk5 : k < 5 := hk1
    have hz0 : V (60 + 10 * k) = 0 := by
      obtain ⟨x, x1, x2⟩ := hI.2.2.1 k hk5 |>.1
      rcases (show x = 0 ∨ x = 1 by omega) with rfl | rfl
      · exact x2
      · have hx : mOneN V 0 k = true := decide_eq_true x2
        rw [hx] at hk2; cases hk2
    have hRd : gCon G kX10_readRule 5 4 16 (gUp M (b + 1) (cTp (b + 1) t (0, false))) [.ref (b + 1)] (fun M2 v => cRdR (gUp M (b + 1) (cTp (b + 1) t (0, false))) M2 (b + 1) t r v) := by
      rw [hr]
      exact c10_readRule (G := G) (M := gUp M (b + 1) (cTp (b + 1) t (0, false))) (p := b + 1) ht hB gUp_s (gUp_n h2 (by omega))
    have hRw := c10_rewind (G := G) h1
    clear hr hKr
    have nul : ∀ (M2 : gM), cRd (gUp M (b + 1) (cTp (b + 1) t (0, false))) M2 (b + 1) t r → (zEnd t r.2).2 = true → gJ G kX11_add 6 3 9 M2 59 [(2, .int (nI k)), (0, .ref b), (1, .int (nI 0))] [.null, .int (nI k), .ref (b + 3 + 1)] (gQ kX11_add (fun M2 v => cFx M M2 b ∧ cX M2 b (aAddK V U t 0).2.1 S IV IS hi U (aAddK V U t 0).2.2 ∧ v = some (.int (aAddK V U t 0).1))) := by
      intro M2 ⟨hf, hq, h1b⟩ hz
      rw [hbad hz]
      have hold : ∀ x, x < M.2 → x ≠ b + 1 → M2.1 x = M.1 x := fun x hx hxp => (hf.2 x hx hxp).trans (gUp_n rfl hxp)
      have hmz : M.2 ≤ M2.2 := hf.1
      have hX2 : cX M2 b V S IV IS hi U t := cX_keep h' (fun x y1 y2 y3 => hold x (by omega) y3) (fun q c hq hc => (hold q (hlt q c hc) (by omega)).trans hc) ⟨_, h1b⟩
      obtain ⟨n0, -, n2, ⟨T2, D2, -, nR⟩, -⟩ := id hX2
      have nS := nR.2.2.1
      obtain ⟨X', RU', SI', IN', t0, t1, t2, t3, t4, t5, t6, t7, t8, tX, tR, tS, tN⟩ := id nS
      have hPn := c7_putNone (G := G) nS (by omega) hI hI k hk5 (fun _ _ => rfl) hz0
      refine gJ_callV (As := [_, _]) b_X7_putRule lX11_90 i_X7_putRule s_X7_putRule dX11_add_59 (hPn) t0 rfl rfl (Nat.le_of_ble_eq_true rfl) rfl (by decide) (fun M59 v_ h59 => ?_)
      obtain ⟨hf59, hS59, rfl⟩ := h59
      have hXs := cX_setup hX2 hf59 hS59 (fun _ _ _ => rfl)
      refine gJ_iload_n dX11_add_62 rfl rfl ?_
      refine gJ_iconst (v := 1) dX11_add_63 (by decide) ?_
      refine gJ_icmp_neN (tgt := 86) (a := 0) (b := 1) (by first | with_reducible rfl | rfl) (by first | with_reducible rfl | rfl) (by omega) (by omega) dX11_add_64 (by decide) (fun _ => ?_) (fun c_ => by exfalso; omega)
      refine gJ_iload_n dX11_add_86 rfl rfl ?_
      refine gJ_iconst (v := 2) dX11_add_87 (by decide) ?_
      refine gJ_icmp_neN (tgt := 110) (a := 0) (b := 2) (by first | with_reducible rfl | rfl) (by first | with_reducible rfl | rfl) (by omega) (by omega) dX11_add_88 (by decide) (fun _ => ?_) (fun c_ => by exfalso; omega)
      obtain ⟨o0, -, o2, -⟩ := id hXs
      refine gJ_ls (c11_add110 o0 (gFr_g hf59 h1b (by omega)) (Q := fun M2 v => cFx M M2 b ∧ cX M2 b V S IV IS hi U 0 ∧ v = some (.int (-100 - nI r.2.1))) ⟨⟨?_, fun x hx hx2 => (gUp_n rfl (by omega)).trans ((hf59.2 x (by omega)).trans (hold x hx (by omega)))⟩, cX_tape hXs (gFr_u gFr_r (by omega)) ⟨_, gUp_s⟩ (gUp_n o2 (by omega)), by rw [if_pos hz, zEnd_1]⟩) ⟨rfl, rfl, rfl, trivial⟩
      show M.2 ≤ M59.2
      have := hf59.1
      omega
    have val : ∀ (M2 : gM) (o mq : Nat), cRd (gUp M (b + 1) (cTp (b + 1) t (0, false))) M2 (b + 1) t r → (zEnd t r.2).2 = false → M.2 ≤ o → M2.1 o = some (gO 5 [.ref mq, .int (cSgn (r.1 6)), .int (r.1 7), .int (r.1 8), .int (r.1 9)]) → cMat M2 M.2 mq r.1 1 →  gJ G kX11_add 6 3 9 M2 59 [(2, .int (nI k)), (0, .ref b), (1, .int (nI 0))] [.ref o, .int (nI k), .ref (b + 3 + 1)] (gQ kX11_add (fun M2 v => cFx M M2 b ∧ cX M2 b (aAddK V U t 0).2.1 S IV IS hi U (aAddK V U t 0).2.2 ∧ v = some (.int (aAddK V U t 0).1))) := by
      intro M2 o mq ⟨hf, hq, h1b⟩ hz ho hov hm
      rw [hgood hz]
      have hIW := mPut_I (kind := 0) (k := k) hI (by decide) hk1 hok
      have wo : ∀ i, (i < 60 + 10 * k ∨ 60 + 10 * k + 10 ≤ i) → mPut V 0 k r.1 i = V i := fun i hi => mPut_o (b := 60 + 10 * k) rfl hi
      have wa : ∀ i, i < 10 → mPut V 0 k r.1 (60 + 10 * k + i) = upd r.1 0 1 i := fun i hi => mPut_in (b := 60 + 10 * k) i rfl hi
      have w0 : mPut V 0 k r.1 (60 + 10 * k) = 1 := (wa 0 (by omega)).trans pk_us
      have wi : ∀ i, 1 ≤ i → i < 10 → mPut V 0 k r.1 (60 + 10 * k + i) = r.1 i := fun i hi hi2 => (wa i hi2).trans (pk_un (by omega))
      have hold : ∀ x, x < M.2 → x ≠ b + 1 → M2.1 x = M.1 x := fun x hx hxp => (hf.2 x hx hxp).trans (gUp_n rfl hxp)
      have hmz : M.2 ≤ M2.2 := hf.1
      have hX2 : cX M2 b V S IV IS hi U t := cX_keep h' (fun x y1 y2 y3 => hold x (by omega) y3) (fun q c hq hc => (hold q (hlt q c hc) (by omega)).trans hc) ⟨_, h1b⟩
      obtain ⟨n0, -, n2, ⟨T2, D2, -, nR⟩, -⟩ := id hX2
      have nS := nR.2.2.1
      obtain ⟨X', RU', SI', IN', t0, t1, t2, t3, t4, t5, t6, t7, t8, tX, tR, tS, tN⟩ := id nS
      have hcr : cRul M2 (b + 75) (mPut V 0 k r.1) k (some o) := Or.inr ⟨w0, o, mq, rfl, by omega, by rw [wi 6 (by omega) (by omega), wi 7 (by omega) (by omega), wi 8 (by omega) (by omega), wi 9 (by omega) (by omega)]; exact hov, cMat_put hm hok.1 hbM (fun i hi => by rw [show 60 + 10 * k + 1 + i = 60 + 10 * k + (1 + i) by omega, wi _ (by omega) (by omega)])⟩
      have hPn := c7_putSome (G := G) nS (by omega) hI hIW k hk5 (fun i hi => wo i (by omega)) o (by omega) hov hcr
      refine gJ_callV (As := [_, _]) b_X7_putRule lX11_90 i_X7_putRule s_X7_putRule dX11_add_59 (hPn) t0 rfl rfl (Nat.le_of_ble_eq_true rfl) rfl (by decide) (fun M59 v_ h59 => ?_)
      obtain ⟨hf59, hS59, rfl⟩ := h59
      have hXs := cX_setup hX2 hf59 hS59 (fun i y1 y2 => wo i (by omega))
      refine gJ_iload_n dX11_add_62 rfl rfl ?_
      refine gJ_iconst (v := 1) dX11_add_63 (by decide) ?_
      refine gJ_icmp_neN (tgt := 86) (a := 0) (b := 1) (by first | with_reducible rfl | rfl) (by first | with_reducible rfl | rfl) (by omega) (by omega) dX11_add_64 (by decide) (fun _ => ?_) (fun c_ => by exfalso; omega)
      refine gJ_iload_n dX11_add_86 rfl rfl ?_
      refine gJ_iconst (v := 2) dX11_add_87 (by decide) ?_
      refine gJ_icmp_neN (tgt := 110) (a := 0) (b := 2) (by first | with_reducible rfl | rfl) (by first | with_reducible rfl | rfl) (by omega) (by omega) dX11_add_88 (by decide) (fun _ => ?_) (fun c_ => by exfalso; omega)
      obtain ⟨o0, -, o2, -⟩ := id hXs
      refine gJ_ls (c11_add110 o0 (gFr_g hf59 h1b (by omega)) (Q := fun M2 v => cFx M M2 b ∧ cX M2 b (mPut V 0 k r.1) S IV IS hi U 0 ∧ v = some (.int (nI k))) ⟨⟨?_, fun x hx hx2 => (gUp_n rfl (by omega)).trans ((hf59.2 x (by omega)).trans (hold x hx (by omega)))⟩, cX_tape hXs (gFr_u gFr_r (by omega)) ⟨_, gUp_s⟩ (gUp_n o2 (by omega)), by rw [if_neg (by rw [hz]; exact Bool.false_ne_true)]⟩) ⟨rfl, rfl, rfl, trivial⟩
      show M.2 ≤ M59.2
      have := hf59.1
      omega
    refine gJ_aload_n dX11_add_9 rfl rfl ?_
    refine gJ_get fX11_19 dX11_add_10 (by repeat (first | exact gUp_s | assumption | refine gUp_n ?_ (by omega))) rfl ?_
    refine gJ_get fX11_37 dX11_add_13 (by repeat (first | exact gUp_s | assumption | refine gUp_n ?_ (by omega))) rfl ?_
    refine gJ_iload_n dX11_add_16 rfl rfl ?_
    refine gJ_callV (As := [_]) b_X7_slots lX11_75 i_X7_slots s_X7_slots dX11_add_17 (c7_slots s0 0 (by decide)) (by first | with_reducible assumption | with_reducible exact gUp_s | with_reducible exact gUp_n (by with_reducible assumption) (by omega) | exact gUp_n (by assumption) (by omega) | exact gUp_s | assumption) rfl rfl (Nat.le_of_ble_eq_true rfl) rfl (by decide) (fun M17 v_ h17 => ?_)
    obtain ⟨e_, rfl⟩ := h17
    replace e_ := e_.symm
    subst e_
    refine gJ_callS (As := [_]) b_X11_lowestFree lX11_79 i_X11_lowestFree dX11_add_20 (hLf) rfl (Nat.le_of_ble_eq_true rfl) rfl (by decide) (fun M20 v_ h20 => ?_)
    obtain ⟨e_, rfl⟩ := h20
    replace e_ := e_.symm
    subst e_
    refine gJ_istore_n (lv2 := [(2, _), (0, _), (1, _)]) dX11_add_23 rfl rfl rfl ?_
    refine gJ_iload_n dX11_add_24 rfl rfl ?_
    refine gJ_bipush (v := -5) dX11_add_25 (by decide) ?_
    refine gJ_icmp_ne (tgt := 33) dX11_add_27 (by decide) (fun _ => ?_) (fun c_ => by exfalso; exact absurd c_ (nI_nm5 (by omega)))
    refine gJ_aload_n dX11_add_33 rfl rfl ?_
    refine gJ_get fX11_12 dX11_add_34 (by repeat (first | exact gUp_s | assumption | refine gUp_n ?_ (by omega))) rfl ?_
    refine gJ_callV (As := []) b_X10_rewind lX11_83 i_X10_rewind s_X10_rewind dX11_add_37 (hRw) h1 rfl rfl (Nat.le_of_ble_eq_true rfl) rfl (by decide) (fun M37 v_ h37 => ?_)
    obtain ⟨e_, rfl⟩ := h37
    replace e_ := e_.symm
    subst e_
    refine gJ_iload_n dX11_add_40 rfl rfl ?_
    refine gJ_if_neN (tgt := 62) (a := 0) (by first | with_reducible rfl | rfl) (by omega) dX11_add_41 (by decide) (fun c_ => by exfalso; omega) (fun _ => ?_)
    refine gJ_aload_n dX11_add_44 rfl rfl ?_
    refine gJ_get fX11_19 dX11_add_45 (by repeat (first | exact gUp_s | assumption | refine gUp_n ?_ (by omega))) rfl ?_
    refine gJ_get fX11_37 dX11_add_48 (by repeat (first | exact gUp_s | assumption | refine gUp_n ?_ (by omega))) rfl ?_
    refine gJ_iload_n dX11_add_51 rfl rfl ?_
    refine gJ_aload_n dX11_add_52 rfl rfl ?_
    refine gJ_get fX11_12 dX11_add_53 (by repeat (first | exact gUp_s | assumption | refine gUp_n ?_ (by omega))) rfl ?_
    refine gJ_callV (As := []) b_X10_readRule lX11_86 i_X10_readRule s_X10_readRule dX11_add_56 (hRd) gUp_s rfl rfl (Nat.le_of_ble_eq_true rfl) rfl (by decide) (fun M56 v_ h56 => ?_)
    obtain ⟨hrd, hc⟩ := h56
    rcases hc with ⟨hz, rfl⟩ | ⟨hz, o, mq, rfl, ho, hov, hm⟩
    · exact gJ_ls (nul _ hrd hz) ⟨rfl, rfl, rfl, trivial⟩
    · exact gJ_ls (val _ o mq hrd hz ho hov hm) ⟨rfl, rfl, rfl, trivial⟩
set_option maxHeartbeats 2000000 in
set_option maxRecDepth 20000 in
theorem c11_add_1 (h : cX M b V S IV IS hi U t) (ht : t ≤ 60) (hB : zB U) (hI : mI V) (hbM : b + 75 ≤ M.2) : gJ G kX11_add 6 7 25 M 9 [(0, .ref b), (1, .int (nI 1))] [] (gQ kX11_add (fun M2 v => cFx M M2 b ∧ cX M2 b (aAddK V U t 1).2.1 S IV IS hi U (aAddK V U t 1).2.2 ∧ v = some (.int (aAddK V U t 1).1))) := by
  refine gJ_lt fun hlt => ?_
  have h' := h
  obtain ⟨h0, ⟨s, h1⟩, h2, ⟨T, D, hT, hV, hs, ⟨X, RU, SI, IN, s0, s1, s2, s3, s4, s5, s6, s7, s8, sX, sR, sS, sN⟩, -⟩, -⟩ := h
  have hLf := c11_lowestFree (G := G) 1 (by decide) (n := 6) (by omega) s5
  have hfr := cSlots_free (kind := 1) (V := V) (f := SI) (fun k hk => cOneS sS k hk)
  rw [show mFind 6 (fun k => (SI k).isNone) = if mMany V 1 = mMst 1 then -5 else nI (mFree V 1) from hfr] at hLf
  by_cases hfull : mMany V 1 = mMst 1
  · rw [if_pos hfull] at hLf
    have hA : aAddK V U t 1 = (-4, V, t) := by rw [aAddK, if_pos hfull]
    rw [hA]
    refine gJ_aload_n dX11_add_9 rfl rfl ?_
    refine gJ_get fX11_19 dX11_add_10 (by first | with_reducible assumption | with_reducible exact gUp_s | with_reducible exact gUp_n (by with_reducible assumption) (by omega) | exact gUp_n (by assumption) (by omega) | exact gUp_s | assumption) rfl ?_
    refine gJ_get fX11_37 dX11_add_13 (by first | with_reducible assumption | with_reducible exact gUp_s | with_reducible exact gUp_n (by with_reducible assumption) (by omega) | exact gUp_n (by assumption) (by omega) | exact gUp_s | assumption) rfl ?_
    refine gJ_iload_n dX11_add_16 rfl rfl ?_
    refine gJ_callV (As := [_]) b_X7_slots lX11_75 i_X7_slots s_X7_slots dX11_add_17 (c7_slots s0 1 (by decide)) (by first | with_reducible assumption | with_reducible exact gUp_s | with_reducible exact gUp_n (by with_reducible assumption) (by omega) | exact gUp_n (by assumption) (by omega) | exact gUp_s | assumption) rfl rfl (Nat.le_of_ble_eq_true rfl) rfl (by decide) (fun M17 v_ h17 => ?_)
    obtain ⟨e_, rfl⟩ := h17
    replace e_ := e_.symm
    subst e_
    refine gJ_callS (As := [_]) b_X11_lowestFree lX11_79 i_X11_lowestFree dX11_add_20 (hLf) rfl (Nat.le_of_ble_eq_true rfl) rfl (by decide) (fun M20 v_ h20 => ?_)
    obtain ⟨e_, rfl⟩ := h20
    replace e_ := e_.symm
    subst e_
    refine gJ_istore_n (lv2 := [(2, _), (0, _), (1, _)]) dX11_add_23 rfl rfl rfl ?_
    refine gJ_iload_n dX11_add_24 rfl rfl ?_
    refine gJ_bipush (v := -5) dX11_add_25 (by decide) ?_
    refine gJ_icmp_ne (tgt := 33) dX11_add_27 (by decide) (fun c_ => by exfalso; exact c_ rfl) (fun _ => ?_)
    refine gJ_bipush (v := -4) dX11_add_30 (by decide) ?_
    refine gJ_iret dX11_add_32 rfl ?_
    exact ⟨⟨Nat.le_refl _, fun _ _ _ => rfl⟩, h', rfl⟩
  · rw [if_neg hfull] at hLf
    obtain ⟨hk1, hk2, -⟩ := mFree_is hfull
    obtain ⟨r, hr⟩ : ∃ r, r = zS U t (fun _ => 0) (0, false) := ⟨_, rfl⟩
    have hKr : zK U t 1 = r := by
      rw [hr]
      exact (by rw [zK, if_neg (by decide), if_pos rfl])
    have hok : zOk 1 r.1 := hKr ▸ zK_ok (T := U) (t := t) (kind := 1) (by decide)
    have hbad : (zEnd t r.2).2 = true → aAddK V U t 1 = (-100 - nI r.2.1, V, 0) := fun hz => by rw [aAddK, if_neg hfull, hKr, if_pos (zEnd_b.mp hz)]
    have hgood : (zEnd t r.2).2 = false → aAddK V U t 1 = (nI (mFree V 1), mPut V 1 (mFree V 1) r.1, 0) := fun hz => by rw [aAddK, if_neg hfull, hKr, if_neg (fun h2 => by rw [zEnd_b.mpr h2] at hz; cases hz)]
    generalize mFree V 1 = k at hk1 hk2 hLf hgood
    have hk5 : k < 6 := hk1
    have hz0 : V (110 + 8 * k) = 0 := by
      obtain ⟨x, x1, x2⟩ := hI.2.2.2.1 k hk5 |>.1
      rcases (show x = 0 ∨ x = 1 by omega) with rfl | rfl
      · exact x2
      · have hx : mOneN V 1 k = true := decide_eq_true x2
        rw [hx] at hk2; cases hk2
    have hRd : gCon G kX10_readSilence 4 4 14 (gUp M (b + 1) (cTp (b + 1) t (0, false))) [.ref (b + 1)] (fun M2 v => cRdS (gUp M (b + 1) (cTp (b + 1) t (0, false))) M2 (b + 1) t r v) := by
      rw [hr]
      exact c10_readSilence (G := G) (M := gUp M (b + 1) (cTp (b + 1) t (0, false))) (p := b + 1) ht hB gUp_s (gUp_n h2 (by omega))
    have hRw := c10_rewind (G := G) h1
    clear hr hKr
    have nul : ∀ (M2 : gM), cRd (gUp M (b + 1) (cTp (b + 1) t (0, false))) M2 (b + 1) t r → (zEnd t r.2).2 = true → gJ G kX11_add 6 3 11 M2 85 [(2, .int (nI k)), (0, .ref b), (1, .int (nI 1))] [.null, .int (nI k), .ref (b + 3 + 1 + 5)] (gQ kX11_add (fun M2 v => cFx M M2 b ∧ cX M2 b (aAddK V U t 1).2.1 S IV IS hi U (aAddK V U t 1).2.2 ∧ v = some (.int (aAddK V U t 1).1))) := by
      intro M2 ⟨hf, hq, h1b⟩ hz
      rw [hbad hz]
      have hold : ∀ x, x < M.2 → x ≠ b + 1 → M2.1 x = M.1 x := fun x hx hxp => (hf.2 x hx hxp).trans (gUp_n rfl hxp)
      have hmz : M.2 ≤ M2.2 := hf.1
      have hX2 : cX M2 b V S IV IS hi U t := cX_keep h' (fun x y1 y2 y3 => hold x (by omega) y3) (fun q c hq hc => (hold q (hlt q c hc) (by omega)).trans hc) ⟨_, h1b⟩
      obtain ⟨n0, -, n2, ⟨T2, D2, -, nR⟩, -⟩ := id hX2
      have nS := nR.2.2.1
      obtain ⟨X', RU', SI', IN', t0, t1, t2, t3, t4, t5, t6, t7, t8, tX, tR, tS, tN⟩ := id nS
      have hfU : gFr M2 (gUp M2 (b + 3 + 1 + 5) (gR 4 6 (va_up SI' k none))) (b + 3 + 1) 9 := gFr_u gFr_r (by omega)
      have hSU : cRS (gUp M2 (b + 3 + 1 + 5) (gR 4 6 (va_up SI' k none))) (b + 75) (b + 3 + 1) V := cRS_putS t0 t1 t2 t3 t4 t6 t7 t8 tX tR tS tN hI (by omega) k hk5 none (fun _ _ => rfl) (Or.inl ⟨hz0, rfl⟩)
      have hXs := cX_setup hX2 hfU hSU (fun _ _ _ => rfl)
      refine gJ_aastNN (j := k) dX11_add_85 t5 rfl (by first | with_reducible rfl | rfl) (by omega) (by decide) ?_
      try rw [gUp_up]
      refine gJ_iload_n dX11_add_86 rfl rfl ?_
      refine gJ_iconst (v := 2) dX11_add_87 (by decide) ?_
      refine gJ_icmp_neN (tgt := 110) (a := 1) (b := 2) (by first | with_reducible rfl | rfl) (by first | with_reducible rfl | rfl) (by omega) (by omega) dX11_add_88 (by decide) (fun _ => ?_) (fun c_ => by exfalso; omega)
      obtain ⟨o0, -, o2, -⟩ := id hXs
      refine gJ_ls (c11_add110 o0 (gFr_g hfU h1b (by omega)) (Q := fun M2 v => cFx M M2 b ∧ cX M2 b V S IV IS hi U 0 ∧ v = some (.int (-100 - nI r.2.1))) ⟨⟨?_, fun x hx hx2 => (gUp_n rfl (by omega)).trans ((hfU.2 x (by omega)).trans (hold x hx (by omega)))⟩, cX_tape hXs (gFr_u gFr_r (by omega)) ⟨_, gUp_s⟩ (gUp_n o2 (by omega)), by rw [if_pos hz, zEnd_1]⟩) ⟨rfl, rfl, rfl, trivial⟩
      show M.2 ≤ M2.2
      have := hfU.1
      omega
    have val : ∀ (M2 : gM) (o mq : Nat), cRd (gUp M (b + 1) (cTp (b + 1) t (0, false))) M2 (b + 1) t r → (zEnd t r.2).2 = false → M.2 ≤ o → M2.1 o = some (gO 7 [.ref mq, .int (r.1 6), .int (r.1 7)]) → cMat M2 M.2 mq r.1 1 →  gJ G kX11_add 6 3 11 M2 85 [(2, .int (nI k)), (0, .ref b), (1, .int (nI 1))] [.ref o, .int (nI k), .ref (b + 3 + 1 + 5)] (gQ kX11_add (fun M2 v => cFx M M2 b ∧ cX M2 b (aAddK V U t 1).2.1 S IV IS hi U (aAddK V U t 1).2.2 ∧ v = some (.int (aAddK V U t 1).1))) := by
      intro M2 o mq ⟨hf, hq, h1b⟩ hz ho hov hm
      rw [hgood hz]
      have hIW := mPut_I (kind := 1) (k := k) hI (by decide) hk1 hok
      have wo : ∀ i, (i < 110 + 8 * k ∨ 110 + 8 * k + 8 ≤ i) → mPut V 1 k r.1 i = V i := fun i hi => mPut_o (b := 110 + 8 * k) rfl hi
      have wa : ∀ i, i < 8 → mPut V 1 k r.1 (110 + 8 * k + i) = upd r.1 0 1 i := fun i hi => mPut_in (b := 110 + 8 * k) i rfl hi
      have w0 : mPut V 1 k r.1 (110 + 8 * k) = 1 := (wa 0 (by omega)).trans pk_us
      have wi : ∀ i, 1 ≤ i → i < 8 → mPut V 1 k r.1 (110 + 8 * k + i) = r.1 i := fun i hi hi2 => (wa i hi2).trans (pk_un (by omega))
      have hold : ∀ x, x < M.2 → x ≠ b + 1 → M2.1 x = M.1 x := fun x hx hxp => (hf.2 x hx hxp).trans (gUp_n rfl hxp)
      have hmz : M.2 ≤ M2.2 := hf.1
      have hX2 : cX M2 b V S IV IS hi U t := cX_keep h' (fun x y1 y2 y3 => hold x (by omega) y3) (fun q c hq hc => (hold q (hlt q c hc) (by omega)).trans hc) ⟨_, h1b⟩
      obtain ⟨n0, -, n2, ⟨T2, D2, -, nR⟩, -⟩ := id hX2
      have nS := nR.2.2.1
      obtain ⟨X', RU', SI', IN', t0, t1, t2, t3, t4, t5, t6, t7, t8, tX, tR, tS, tN⟩ := id nS
      have hent : cSil M2 (b + 75) (mPut V 1 k r.1) k (some o) := Or.inr ⟨w0, o, mq, rfl, by omega, by rw [wi 6 (by omega) (by omega), wi 7 (by omega) (by omega)]; exact hov, cMat_put hm hok.1 hbM (fun i hi => by rw [show 110 + 8 * k + 1 + i = 110 + 8 * k + (1 + i) by omega, wi _ (by omega) (by omega)])⟩
      have hfU : gFr M2 (gUp M2 (b + 3 + 1 + 5) (gR 4 6 (va_up SI' k (some o)))) (b + 3 + 1) 9 := gFr_u gFr_r (by omega)
      have hSU : cRS (gUp M2 (b + 3 + 1 + 5) (gR 4 6 (va_up SI' k (some o)))) (b + 75) (b + 3 + 1) (mPut V 1 k r.1) := cRS_putS t0 t1 t2 t3 t4 t6 t7 t8 tX tR tS tN hI (by omega) k hk5 (some o) (fun i hi => wo i (by omega)) (cSil_kp hent (fun q c hq hc => gUp_n hc (by omega)))
      have hXs := cX_setup hX2 hfU hSU (fun i y1 y2 => wo i (by omega))
      refine gJ_aastN_ (j := k) dX11_add_85 t5 rfl hov rfl (by first | with_reducible rfl | rfl) (by omega) (by decide) ?_
      try rw [gUp_up]
      refine gJ_iload_n dX11_add_86 rfl rfl ?_
      refine gJ_iconst (v := 2) dX11_add_87 (by decide) ?_
      refine gJ_icmp_neN (tgt := 110) (a := 1) (b := 2) (by first | with_reducible rfl | rfl) (by first | with_reducible rfl | rfl) (by omega) (by omega) dX11_add_88 (by decide) (fun _ => ?_) (fun c_ => by exfalso; omega)
      obtain ⟨o0, -, o2, -⟩ := id hXs
      refine gJ_ls (c11_add110 o0 (gFr_g hfU h1b (by omega)) (Q := fun M2 v => cFx M M2 b ∧ cX M2 b (mPut V 1 k r.1) S IV IS hi U 0 ∧ v = some (.int (nI k))) ⟨⟨?_, fun x hx hx2 => (gUp_n rfl (by omega)).trans ((hfU.2 x (by omega)).trans (hold x hx (by omega)))⟩, cX_tape hXs (gFr_u gFr_r (by omega)) ⟨_, gUp_s⟩ (gUp_n o2 (by omega)), by rw [if_neg (by rw [hz]; exact Bool.false_ne_true)]⟩) ⟨rfl, rfl, rfl, trivial⟩
      show M.2 ≤ M2.2
      have := hfU.1
      omega
    refine gJ_aload_n dX11_add_9 rfl rfl ?_
    refine gJ_get fX11_19 dX11_add_10 (by repeat (first | exact gUp_s | assumption | refine gUp_n ?_ (by omega))) rfl ?_
    refine gJ_get fX11_37 dX11_add_13 (by repeat (first | exact gUp_s | assumption | refine gUp_n ?_ (by omega))) rfl ?_
    refine gJ_iload_n dX11_add_16 rfl rfl ?_
    refine gJ_callV (As := [_]) b_X7_slots lX11_75 i_X7_slots s_X7_slots dX11_add_17 (c7_slots s0 1 (by decide)) (by first | with_reducible assumption | with_reducible exact gUp_s | with_reducible exact gUp_n (by with_reducible assumption) (by omega) | exact gUp_n (by assumption) (by omega) | exact gUp_s | assumption) rfl rfl (Nat.le_of_ble_eq_true rfl) rfl (by decide) (fun M17 v_ h17 => ?_)
    obtain ⟨e_, rfl⟩ := h17
    replace e_ := e_.symm
    subst e_
    refine gJ_callS (As := [_]) b_X11_lowestFree lX11_79 i_X11_lowestFree dX11_add_20 (hLf) rfl (Nat.le_of_ble_eq_true rfl) rfl (by decide) (fun M20 v_ h20 => ?_)
    obtain ⟨e_, rfl⟩ := h20
    replace e_ := e_.symm
    subst e_
    refine gJ_istore_n (lv2 := [(2, _), (0, _), (1, _)]) dX11_add_23 rfl rfl rfl ?_
    refine gJ_iload_n dX11_add_24 rfl rfl ?_
    refine gJ_bipush (v := -5) dX11_add_25 (by decide) ?_
    refine gJ_icmp_ne (tgt := 33) dX11_add_27 (by decide) (fun _ => ?_) (fun c_ => by exfalso; exact absurd c_ (nI_nm5 (by omega)))
    refine gJ_aload_n dX11_add_33 rfl rfl ?_
    refine gJ_get fX11_12 dX11_add_34 (by repeat (first | exact gUp_s | assumption | refine gUp_n ?_ (by omega))) rfl ?_
    refine gJ_callV (As := []) b_X10_rewind lX11_83 i_X10_rewind s_X10_rewind dX11_add_37 (hRw) h1 rfl rfl (Nat.le_of_ble_eq_true rfl) rfl (by decide) (fun M37 v_ h37 => ?_)
    obtain ⟨e_, rfl⟩ := h37
    replace e_ := e_.symm
    subst e_
    refine gJ_iload_n dX11_add_40 rfl rfl ?_
    refine gJ_if_neN (tgt := 62) (a := 1) (by first | with_reducible rfl | rfl) (by omega) dX11_add_41 (by decide) (fun _ => ?_) (fun c_ => by exfalso; omega)
    refine gJ_iload_n dX11_add_62 rfl rfl ?_
    refine gJ_iconst (v := 1) dX11_add_63 (by decide) ?_
    refine gJ_icmp_neN (tgt := 86) (a := 1) (b := 1) (by first | with_reducible rfl | rfl) (by first | with_reducible rfl | rfl) (by omega) (by omega) dX11_add_64 (by decide) (fun c_ => by exfalso; omega) (fun _ => ?_)
    refine gJ_aload_n dX11_add_67 rfl rfl ?_
    refine gJ_get fX11_19 dX11_add_68 (by repeat (first | exact gUp_s | assumption | refine gUp_n ?_ (by omega))) rfl ?_
    refine gJ_get fX11_37 dX11_add_71 (by repeat (first | exact gUp_s | assumption | refine gUp_n ?_ (by omega))) rfl ?_
    refine gJ_get fX11_94 dX11_add_74 (by repeat (first | exact gUp_s | assumption | refine gUp_n ?_ (by omega))) rfl ?_
    refine gJ_iload_n dX11_add_77 rfl rfl ?_
    refine gJ_aload_n dX11_add_78 rfl rfl ?_
    refine gJ_get fX11_12 dX11_add_79 (by repeat (first | exact gUp_s | assumption | refine gUp_n ?_ (by omega))) rfl ?_
    refine gJ_callV (As := []) b_X10_readSilence lX11_98 i_X10_readSilence s_X10_readSilence dX11_add_82 (hRd) gUp_s rfl rfl (Nat.le_of_ble_eq_true rfl) rfl (by decide) (fun M82 v_ h82 => ?_)
    obtain ⟨hrd, hc⟩ := h82
    rcases hc with ⟨hz, rfl⟩ | ⟨hz, o, mq, rfl, ho, hov, hm⟩
    · exact gJ_ls (nul _ hrd hz) ⟨rfl, rfl, rfl, trivial⟩
    · exact gJ_ls (val _ o mq hrd hz ho hov hm) ⟨rfl, rfl, rfl, trivial⟩
set_option maxHeartbeats 2000000 in
set_option maxRecDepth 20000 in
theorem c11_add_2 (h : cX M b V S IV IS hi U t) (ht : t ≤ 60) (hB : zB U) (hI : mI V) (hbM : b + 75 ≤ M.2) : gJ G kX11_add 6 7 25 M 9 [(0, .ref b), (1, .int (nI 2))] [] (gQ kX11_add (fun M2 v => cFx M M2 b ∧ cX M2 b (aAddK V U t 2).2.1 S IV IS hi U (aAddK V U t 2).2.2 ∧ v = some (.int (aAddK V U t 2).1))) := by
  refine gJ_lt fun hlt => ?_
  have h' := h
  obtain ⟨h0, ⟨s, h1⟩, h2, ⟨T, D, hT, hV, hs, ⟨X, RU, SI, IN, s0, s1, s2, s3, s4, s5, s6, s7, s8, sX, sR, sS, sN⟩, -⟩, -⟩ := h
  have hLf := c11_lowestFree (G := G) 2 (by decide) (n := 4) (by omega) s6
  have hfr := cSlots_free (kind := 2) (V := V) (f := IN) (fun k hk => cOneI sN k hk)
  rw [show mFind 4 (fun k => (IN k).isNone) = if mMany V 2 = mMst 2 then -5 else nI (mFree V 2) from hfr] at hLf
  by_cases hfull : mMany V 2 = mMst 2
  · rw [if_pos hfull] at hLf
    have hA : aAddK V U t 2 = (-4, V, t) := by rw [aAddK, if_pos hfull]
    rw [hA]
    refine gJ_aload_n dX11_add_9 rfl rfl ?_
    refine gJ_get fX11_19 dX11_add_10 (by first | with_reducible assumption | with_reducible exact gUp_s | with_reducible exact gUp_n (by with_reducible assumption) (by omega) | exact gUp_n (by assumption) (by omega) | exact gUp_s | assumption) rfl ?_
    refine gJ_get fX11_37 dX11_add_13 (by first | with_reducible assumption | with_reducible exact gUp_s | with_reducible exact gUp_n (by with_reducible assumption) (by omega) | exact gUp_n (by assumption) (by omega) | exact gUp_s | assumption) rfl ?_
    refine gJ_iload_n dX11_add_16 rfl rfl ?_
    refine gJ_callV (As := [_]) b_X7_slots lX11_75 i_X7_slots s_X7_slots dX11_add_17 (c7_slots s0 2 (by decide)) (by first | with_reducible assumption | with_reducible exact gUp_s | with_reducible exact gUp_n (by with_reducible assumption) (by omega) | exact gUp_n (by assumption) (by omega) | exact gUp_s | assumption) rfl rfl (Nat.le_of_ble_eq_true rfl) rfl (by decide) (fun M17 v_ h17 => ?_)
    obtain ⟨e_, rfl⟩ := h17
    replace e_ := e_.symm
    subst e_
    refine gJ_callS (As := [_]) b_X11_lowestFree lX11_79 i_X11_lowestFree dX11_add_20 (hLf) rfl (Nat.le_of_ble_eq_true rfl) rfl (by decide) (fun M20 v_ h20 => ?_)
    obtain ⟨e_, rfl⟩ := h20
    replace e_ := e_.symm
    subst e_
    refine gJ_istore_n (lv2 := [(2, _), (0, _), (1, _)]) dX11_add_23 rfl rfl rfl ?_
    refine gJ_iload_n dX11_add_24 rfl rfl ?_
    refine gJ_bipush (v := -5) dX11_add_25 (by decide) ?_
    refine gJ_icmp_ne (tgt := 33) dX11_add_27 (by decide) (fun c_ => by exfalso; exact c_ rfl) (fun _ => ?_)
    refine gJ_bipush (v := -4) dX11_add_30 (by decide) ?_
    refine gJ_iret dX11_add_32 rfl ?_
    exact ⟨⟨Nat.le_refl _, fun _ _ _ => rfl⟩, h', rfl⟩
  · rw [if_neg hfull] at hLf
    obtain ⟨hk1, hk2, -⟩ := mFree_is hfull
    obtain ⟨r, hr⟩ : ∃ r, r = zIn U t (fun _ => 0) (0, false) := ⟨_, rfl⟩
    have hKr : zK U t 2 = r := by
      rw [hr]
      exact (by rw [zK, if_neg (by decide), if_neg (by decide)])
    have hok : zOk 2 r.1 := hKr ▸ zK_ok (T := U) (t := t) (kind := 2) (by decide)
    have hbad : (zEnd t r.2).2 = true → aAddK V U t 2 = (-100 - nI r.2.1, V, 0) := fun hz => by rw [aAddK, if_neg hfull, hKr, if_pos (zEnd_b.mp hz)]
    have hgood : (zEnd t r.2).2 = false → aAddK V U t 2 = (nI (mFree V 2), mPut V 2 (mFree V 2) r.1, 0) := fun hz => by rw [aAddK, if_neg hfull, hKr, if_neg (fun h2 => by rw [zEnd_b.mpr h2] at hz; cases hz)]
    generalize mFree V 2 = k at hk1 hk2 hLf hgood
    have hk5 : k < 4 := hk1
    have hz0 : V (158 + 12 * k) = 0 := by
      obtain ⟨x, x1, x2⟩ := hI.2.2.2.2.1 k hk5 |>.1
      rcases (show x = 0 ∨ x = 1 by omega) with rfl | rfl
      · exact x2
      · have hx : mOneN V 2 k = true := decide_eq_true x2
        rw [hx] at hk2; cases hk2
    have hRd : gCon G kX10_readInhibition 4 7 25 (gUp M (b + 1) (cTp (b + 1) t (0, false))) [.ref (b + 1)] (fun M2 v => cRdI (gUp M (b + 1) (cTp (b + 1) t (0, false))) M2 (b + 1) t r v) := by
      rw [hr]
      exact c10_readInhibition (G := G) (M := gUp M (b + 1) (cTp (b + 1) t (0, false))) (p := b + 1) ht hB gUp_s (gUp_n h2 (by omega))
    have hRw := c10_rewind (G := G) h1
    clear hr hKr
    have nul : ∀ (M2 : gM), cRd (gUp M (b + 1) (cTp (b + 1) t (0, false))) M2 (b + 1) t r → (zEnd t r.2).2 = true → gJ G kX11_add 6 0 0 M2 109 [(2, .int (nI k)), (0, .ref b), (1, .int (nI 2))] [.null, .int (nI k), .ref (b + 3 + 1 + 6)] (gQ kX11_add (fun M2 v => cFx M M2 b ∧ cX M2 b (aAddK V U t 2).2.1 S IV IS hi U (aAddK V U t 2).2.2 ∧ v = some (.int (aAddK V U t 2).1))) := by
      intro M2 ⟨hf, hq, h1b⟩ hz
      rw [hbad hz]
      have hold : ∀ x, x < M.2 → x ≠ b + 1 → M2.1 x = M.1 x := fun x hx hxp => (hf.2 x hx hxp).trans (gUp_n rfl hxp)
      have hmz : M.2 ≤ M2.2 := hf.1
      have hX2 : cX M2 b V S IV IS hi U t := cX_keep h' (fun x y1 y2 y3 => hold x (by omega) y3) (fun q c hq hc => (hold q (hlt q c hc) (by omega)).trans hc) ⟨_, h1b⟩
      obtain ⟨n0, -, n2, ⟨T2, D2, -, nR⟩, -⟩ := id hX2
      have nS := nR.2.2.1
      obtain ⟨X', RU', SI', IN', t0, t1, t2, t3, t4, t5, t6, t7, t8, tX, tR, tS, tN⟩ := id nS
      have hfU : gFr M2 (gUp M2 (b + 3 + 1 + 6) (gR 5 4 (va_up IN' k none))) (b + 3 + 1) 9 := gFr_u gFr_r (by omega)
      have hSU : cRS (gUp M2 (b + 3 + 1 + 6) (gR 5 4 (va_up IN' k none))) (b + 75) (b + 3 + 1) V := cRS_putI t0 t1 t2 t3 t4 t5 t7 t8 tX tR tS tN hI (by omega) k hk5 none (fun _ _ => rfl) (Or.inl ⟨hz0, rfl⟩)
      have hXs := cX_setup hX2 hfU hSU (fun _ _ _ => rfl)
      refine gJ_aastNN (j := k) dX11_add_109 t6 rfl (by first | with_reducible rfl | rfl) (by omega) (by decide) ?_
      try rw [gUp_up]
      obtain ⟨o0, -, o2, -⟩ := id hXs
      refine gJ_ls (c11_add110 o0 (gFr_g hfU h1b (by omega)) (Q := fun M2 v => cFx M M2 b ∧ cX M2 b V S IV IS hi U 0 ∧ v = some (.int (-100 - nI r.2.1))) ⟨⟨?_, fun x hx hx2 => (gUp_n rfl (by omega)).trans ((hfU.2 x (by omega)).trans (hold x hx (by omega)))⟩, cX_tape hXs (gFr_u gFr_r (by omega)) ⟨_, gUp_s⟩ (gUp_n o2 (by omega)), by rw [if_pos hz, zEnd_1]⟩) ⟨rfl, rfl, rfl, trivial⟩
      show M.2 ≤ M2.2
      have := hfU.1
      omega
    have val : ∀ (M2 : gM) (o mq nq : Nat), cRd (gUp M (b + 1) (cTp (b + 1) t (0, false))) M2 (b + 1) t r → (zEnd t r.2).2 = false → M.2 ≤ o → M2.1 o = some (gO 2 [.ref mq, .ref nq, .int (r.1 11)]) → cMat M2 M.2 mq r.1 1 → cMat M2 M.2 nq r.1 6 →  gJ G kX11_add 6 0 0 M2 109 [(2, .int (nI k)), (0, .ref b), (1, .int (nI 2))] [.ref o, .int (nI k), .ref (b + 3 + 1 + 6)] (gQ kX11_add (fun M2 v => cFx M M2 b ∧ cX M2 b (aAddK V U t 2).2.1 S IV IS hi U (aAddK V U t 2).2.2 ∧ v = some (.int (aAddK V U t 2).1))) := by
      intro M2 o mq nq ⟨hf, hq, h1b⟩ hz ho hov hm hm2
      rw [hgood hz]
      have hIW := mPut_I (kind := 2) (k := k) hI (by decide) hk1 hok
      have wo : ∀ i, (i < 158 + 12 * k ∨ 158 + 12 * k + 12 ≤ i) → mPut V 2 k r.1 i = V i := fun i hi => mPut_o (b := 158 + 12 * k) rfl hi
      have wa : ∀ i, i < 12 → mPut V 2 k r.1 (158 + 12 * k + i) = upd r.1 0 1 i := fun i hi => mPut_in (b := 158 + 12 * k) i rfl hi
      have w0 : mPut V 2 k r.1 (158 + 12 * k) = 1 := (wa 0 (by omega)).trans pk_us
      have wi : ∀ i, 1 ≤ i → i < 12 → mPut V 2 k r.1 (158 + 12 * k + i) = r.1 i := fun i hi hi2 => (wa i hi2).trans (pk_un (by omega))
      have hold : ∀ x, x < M.2 → x ≠ b + 1 → M2.1 x = M.1 x := fun x hx hxp => (hf.2 x hx hxp).trans (gUp_n rfl hxp)
      have hmz : M.2 ≤ M2.2 := hf.1
      have hX2 : cX M2 b V S IV IS hi U t := cX_keep h' (fun x y1 y2 y3 => hold x (by omega) y3) (fun q c hq hc => (hold q (hlt q c hc) (by omega)).trans hc) ⟨_, h1b⟩
      obtain ⟨n0, -, n2, ⟨T2, D2, -, nR⟩, -⟩ := id hX2
      have nS := nR.2.2.1
      obtain ⟨X', RU', SI', IN', t0, t1, t2, t3, t4, t5, t6, t7, t8, tX, tR, tS, tN⟩ := id nS
      have hent : cInh M2 (b + 75) (mPut V 2 k r.1) k (some o) := Or.inr ⟨w0, o, mq, nq, rfl, by omega, by rw [wi 11 (by omega) (by omega)]; exact hov, cMat_put hm hok.1 hbM (fun i hi => by rw [show 158 + 12 * k + 1 + i = 158 + 12 * k + (1 + i) by omega, wi _ (by omega) (by omega)]), cMat_put hm2 (hok.2.2 rfl).1 hbM (fun i hi => by rw [show 158 + 12 * k + 6 + i = 158 + 12 * k + (6 + i) by omega, wi _ (by omega) (by omega)])⟩
      have hfU : gFr M2 (gUp M2 (b + 3 + 1 + 6) (gR 5 4 (va_up IN' k (some o)))) (b + 3 + 1) 9 := gFr_u gFr_r (by omega)
      have hSU : cRS (gUp M2 (b + 3 + 1 + 6) (gR 5 4 (va_up IN' k (some o)))) (b + 75) (b + 3 + 1) (mPut V 2 k r.1) := cRS_putI t0 t1 t2 t3 t4 t5 t7 t8 tX tR tS tN hI (by omega) k hk5 (some o) (fun i hi => wo i (by omega)) (cInh_kp hent (fun q c hq hc => gUp_n hc (by omega)))
      have hXs := cX_setup hX2 hfU hSU (fun i y1 y2 => wo i (by omega))
      refine gJ_aastN_ (j := k) dX11_add_109 t6 rfl hov rfl (by first | with_reducible rfl | rfl) (by omega) (by decide) ?_
      try rw [gUp_up]
      obtain ⟨o0, -, o2, -⟩ := id hXs
      refine gJ_ls (c11_add110 o0 (gFr_g hfU h1b (by omega)) (Q := fun M2 v => cFx M M2 b ∧ cX M2 b (mPut V 2 k r.1) S IV IS hi U 0 ∧ v = some (.int (nI k))) ⟨⟨?_, fun x hx hx2 => (gUp_n rfl (by omega)).trans ((hfU.2 x (by omega)).trans (hold x hx (by omega)))⟩, cX_tape hXs (gFr_u gFr_r (by omega)) ⟨_, gUp_s⟩ (gUp_n o2 (by omega)), by rw [if_neg (by rw [hz]; exact Bool.false_ne_true)]⟩) ⟨rfl, rfl, rfl, trivial⟩
      show M.2 ≤ M2.2
      have := hfU.1
      omega
    refine gJ_aload_n dX11_add_9 rfl rfl ?_
    refine gJ_get fX11_19 dX11_add_10 (by repeat (first | exact gUp_s | assumption | refine gUp_n ?_ (by omega))) rfl ?_
    refine gJ_get fX11_37 dX11_add_13 (by repeat (first | exact gUp_s | assumption | refine gUp_n ?_ (by omega))) rfl ?_
    refine gJ_iload_n dX11_add_16 rfl rfl ?_
    refine gJ_callV (As := [_]) b_X7_slots lX11_75 i_X7_slots s_X7_slots dX11_add_17 (c7_slots s0 2 (by decide)) (by first | with_reducible assumption | with_reducible exact gUp_s | with_reducible exact gUp_n (by with_reducible assumption) (by omega) | exact gUp_n (by assumption) (by omega) | exact gUp_s | assumption) rfl rfl (Nat.le_of_ble_eq_true rfl) rfl (by decide) (fun M17 v_ h17 => ?_)
    obtain ⟨e_, rfl⟩ := h17
    replace e_ := e_.symm
    subst e_
    refine gJ_callS (As := [_]) b_X11_lowestFree lX11_79 i_X11_lowestFree dX11_add_20 (hLf) rfl (Nat.le_of_ble_eq_true rfl) rfl (by decide) (fun M20 v_ h20 => ?_)
    obtain ⟨e_, rfl⟩ := h20
    replace e_ := e_.symm
    subst e_
    refine gJ_istore_n (lv2 := [(2, _), (0, _), (1, _)]) dX11_add_23 rfl rfl rfl ?_
    refine gJ_iload_n dX11_add_24 rfl rfl ?_
    refine gJ_bipush (v := -5) dX11_add_25 (by decide) ?_
    refine gJ_icmp_ne (tgt := 33) dX11_add_27 (by decide) (fun _ => ?_) (fun c_ => by exfalso; exact absurd c_ (nI_nm5 (by omega)))
    refine gJ_aload_n dX11_add_33 rfl rfl ?_
    refine gJ_get fX11_12 dX11_add_34 (by repeat (first | exact gUp_s | assumption | refine gUp_n ?_ (by omega))) rfl ?_
    refine gJ_callV (As := []) b_X10_rewind lX11_83 i_X10_rewind s_X10_rewind dX11_add_37 (hRw) h1 rfl rfl (Nat.le_of_ble_eq_true rfl) rfl (by decide) (fun M37 v_ h37 => ?_)
    obtain ⟨e_, rfl⟩ := h37
    replace e_ := e_.symm
    subst e_
    refine gJ_iload_n dX11_add_40 rfl rfl ?_
    refine gJ_if_neN (tgt := 62) (a := 2) (by first | with_reducible rfl | rfl) (by omega) dX11_add_41 (by decide) (fun _ => ?_) (fun c_ => by exfalso; omega)
    refine gJ_iload_n dX11_add_62 rfl rfl ?_
    refine gJ_iconst (v := 1) dX11_add_63 (by decide) ?_
    refine gJ_icmp_neN (tgt := 86) (a := 2) (b := 1) (by first | with_reducible rfl | rfl) (by first | with_reducible rfl | rfl) (by omega) (by omega) dX11_add_64 (by decide) (fun _ => ?_) (fun c_ => by exfalso; omega)
    refine gJ_iload_n dX11_add_86 rfl rfl ?_
    refine gJ_iconst (v := 2) dX11_add_87 (by decide) ?_
    refine gJ_icmp_neN (tgt := 110) (a := 2) (b := 2) (by first | with_reducible rfl | rfl) (by first | with_reducible rfl | rfl) (by omega) (by omega) dX11_add_88 (by decide) (fun c_ => by exfalso; omega) (fun _ => ?_)
    refine gJ_aload_n dX11_add_91 rfl rfl ?_
    refine gJ_get fX11_19 dX11_add_92 (by repeat (first | exact gUp_s | assumption | refine gUp_n ?_ (by omega))) rfl ?_
    refine gJ_get fX11_37 dX11_add_95 (by repeat (first | exact gUp_s | assumption | refine gUp_n ?_ (by omega))) rfl ?_
    refine gJ_get fX11_102 dX11_add_98 (by repeat (first | exact gUp_s | assumption | refine gUp_n ?_ (by omega))) rfl ?_
    refine gJ_iload_n dX11_add_101 rfl rfl ?_
    refine gJ_aload_n dX11_add_102 rfl rfl ?_
    refine gJ_get fX11_12 dX11_add_103 (by repeat (first | exact gUp_s | assumption | refine gUp_n ?_ (by omega))) rfl ?_
    refine gJ_callV (As := []) b_X10_readInhibition lX11_106 i_X10_readInhibition s_X10_readInhibition dX11_add_106 (hRd) gUp_s rfl rfl (Nat.le_of_ble_eq_true rfl) rfl (by decide) (fun M106 v_ h106 => ?_)
    obtain ⟨hrd, hc⟩ := h106
    rcases hc with ⟨hz, rfl⟩ | ⟨hz, o, mq, nq, rfl, ho, hov, hm, hm2⟩
    · exact gJ_ls (nul _ hrd hz) ⟨rfl, rfl, rfl, trivial⟩
    · exact gJ_ls (val _ o mq nq hrd hz ho hov hm hm2) ⟨rfl, rfl, rfl, trivial⟩
set_option maxHeartbeats 1000000 in
set_option maxRecDepth 20000 in
theorem c11_add (h : cX M b V S IV IS hi U t) (ht : t ≤ 60) (hB : zB U) (hI : mI V) (hbM : b + 75 ≤ M.2) (w : Int32) : gCon G kX11_add 6 7 25 M [.ref b, .int w] (fun M2 v => cFx M M2 b ∧ cX M2 b (aAdd V U t w).2.1 S IV IS hi U (aAdd V U t w).2.2 ∧ v = some (.int (aAdd V U t w).1)) := by
  refine gCon_of (by decide) (Nat.le_of_ble_eq_true rfl) ?_
  show gJ _ _ _ _ _ _ 0 [(0, _), (1, _)] [] _
  refine gJ_iload_n dX11_add_0 rfl rfl ?_
  refine gJ_callS (As := [_]) b_X11_isKind lX11_72 i_X11_isKind dX11_add_1 (c11_isKind w) rfl (Nat.le_of_ble_eq_true rfl) rfl (by decide) (fun M1 v_ h1 => ?_)
  obtain ⟨e_, rfl⟩ := h1
  replace e_ := e_.symm
  subst e_
  refine gJ_if_neB (tgt := 9) dX11_add_4 (by decide) (fun c4 => ?_) (fun c4 => ?_)
  · obtain ⟨z, hz1, hz0, rfl, hz3⟩ := mIn_nat (lo := 0) (hi := 2) c4 (by decide)
    have hA : aAdd V U t (nI z) = aAddK V U t z := by rw [aAdd, if_pos c4, hz3]
    rw [hA]
    rcases (show z = 0 ∨ z = 1 ∨ z = 2 by omega) with rfl | rfl | rfl
    · exact gJ_ls (c11_add_0 h ht hB hI hbM) ⟨rfl, rfl, trivial⟩
    · exact gJ_ls (c11_add_1 h ht hB hI hbM) ⟨rfl, rfl, trivial⟩
    · exact gJ_ls (c11_add_2 h ht hB hI hbM) ⟨rfl, rfl, trivial⟩
  · refine gJ_iconst (v := -1) dX11_add_7 (by decide) ?_
    refine gJ_iret dX11_add_8 rfl ?_
    have hA : aAdd V U t w = (-1, V, t) := by rw [aAdd, c4]; rfl
    rw [hA]
    exact ⟨⟨Nat.le_refl _, fun _ _ _ => rfl⟩, h, rfl⟩
end CLS
