theorem zS_v {T F : Nat → Int32} {t : Nat} {s : zP} : (zS6 T t F s).1 6 = nI (zNm T t s).1 ∧ (zS6 T t F s).1 7 = nI (zNm T t (zEx T t 43 (zNm T t s).2)).1 ∧ (zS6 T t F s).2 = (zNm T t (zEx T t 43 (zNm T t s).2)).2 ∧ ∀ i, i < 6 → (zS6 T t F s).1 i = F i := by
  rw [zS6, zS7]
  dsimp only
  refine ⟨?_, pk_us, rfl, fun i hi => ?_⟩
  · rw [pk_un (by decide), pk_us]
  · rw [pk_un (by omega), pk_un (by omega)]
def cRdS (M M2 : gM) (p t : Nat) (r : (Nat → Int32) × zP) (v : Option Value) : Prop := cRd M M2 p t r ∧ (((zEnd t r.2).2 = true ∧ v = some .null) ∨ ((zEnd t r.2).2 = false ∧ ∃ o mq, v = some (.ref o) ∧ M.2 ≤ o ∧ M2.1 o = some (gO 7 [.ref mq, .int (r.1 6), .int (r.1 7)]) ∧ cMat M2 M.2 mq r.1 1))
def cRdI (M M2 : gM) (p t : Nat) (r : (Nat → Int32) × zP) (v : Option Value) : Prop := cRd M M2 p t r ∧ (((zEnd t r.2).2 = true ∧ v = some .null) ∨ ((zEnd t r.2).2 = false ∧ ∃ o mq nq, v = some (.ref o) ∧ M.2 ≤ o ∧ M2.1 o = some (gO 2 [.ref mq, .ref nq, .int (r.1 11)]) ∧ cMat M2 M.2 mq r.1 1 ∧ cMat M2 M.2 nq r.1 6))
section TAPE
variable {G : gG} {M : gM} {p t : Nat} {T : Nat → Int32} {s s2 : zP}
set_option maxHeartbeats 4000000 in
set_option maxRecDepth 20000 in
theorem c10_readSilence (ht : t ≤ 60) (hB : zB T) (hm : M.1 p = some (cTp p t (0, false))) (hT : M.1 (p + 1) = some (gI 60 T)) : gCon G kX10_readSilence 4 4 14 M [.ref p] (fun M2 v => cRdS M M2 p t (zS T t (fun _ => 0) (0, false)) v) := by
  have hs0 : ((0, false) : zP).1 ≤ t := Nat.zero_le _
  have hA := c10_readMatchers (G := G) ht hB hs0 hm hT false
  obtain ⟨ok1, ok2, -⟩ := zMs_ok (T := T) (t := t) (sev := true) (s := (0, false)) hs0
  refine gCon_of (by decide) (Nat.le_of_ble_eq_true rfl) ?_
  refine gJ_lt fun hlt => ?_
  have hpq : p + 1 < M.2 := hlt _ _ hT
  obtain ⟨F1, hF1⟩ : ∃ F1, F1 = upd (zLay 1 (zMs T t true (0, false)).1 (zMs T t true (0, false)).2.1 (fun _ => 0)) 1 (nI (zMs T t true (0, false)).1) := ⟨_, rfl⟩
  have hz : zS T t (fun _ => 0) (0, false) = zS6 T t F1 (zEx T t 64 (zMs T t true (0, false)).2.2) := by rw [zS, hF1]
  have hFn : F1 1 = nI (zMs T t true (0, false)).1 := by rw [hF1, pk_us]
  have hFc : ∀ j, j < (zMs T t true (0, false)).1 → F1 (1 + (j + 1)) = nI ((zMs T t true (0, false)).2.1 j) ∧ (zMs T t true (0, false)).2.1 j < 128 := fun j hj => ⟨by rw [hF1, pk_un (by omega), zLay, if_pos (by omega), show 1 + (j + 1) - (1 + 1) = j by omega], ok1.2 j⟩
  rw [hz]
  clear hF1 hz
  have hA' : gCon G kX10_readMatchers 3 3 11 M [.ref p, .int (gb false)] (fun M2 v => v = some (.ref M.2) ∧ cTf M M2 p M.2 ∧ p + 1 < M.2 ∧ M2.2 = M.2 + 3 ∧ M2.1 p = some (cTp p t (zMs T t true (0, false)).2.2) ∧ cMr M2 M.2 (zMs T t true (0, false))) := hA
  clear hA
  generalize zMs T t true (0, false) = R at *
  have key : ∀ (M1 : gM), cTf M M1 p M.2 → M1.2 = M.2 + 3 → M1.1 p = some (cTp p t R.2.2) → cMr M1 M.2 R → gJ G kX10_readSilence 4 1 3 M1 6 [(1, .ref M.2), (0, .ref p)] [] (gQ kX10_readSilence (fun M2 v => cRdS M M2 p t (zS6 T t F1 (zEx T t 64 R.2.2)) v)) := by
    intro M1 hf h2 hp hmr
    obtain ⟨q, hq⟩ : ∃ q, q = M.2 := ⟨_, rfl⟩
    rw [← hq] at hf h2 hmr hpq ⊢
    have hT1 : M1.1 (p + 1) = some (gI 60 T) := (hf.2 _ hpq (by omega)).trans hT
    have hTU : ∀ c, (gUp M1 p c).1 (p + 1) = some (gI 60 T) := fun c => gUp_n hT1 (by omega)
    have hw : (zEx T t 64 R.2.2).2 = false → R.2.2.2 = false := zEx_w2
    have hC9 := c10_expect (G := G) (M := M1) (s := R.2.2) ht ok1.1 hp hT1 64
    have l1 := zEx_le (T := T) (t := t) (c := 64) (s := R.2.2) (by decide) ok1.1
    obtain ⟨v6, v7, vs, vl⟩ := zS_v (T := T) (F := F1) (t := t) (s := zEx T t 64 R.2.2)
    have w1 : (zNm T t (zEx T t 43 (zNm T t (zEx T t 64 R.2.2)).2)).2.2 = false → (zEx T t 64 R.2.2).2 = false := fun h => zNm_w2 (zEx_w2 (zNm_w2 h))
    generalize zEx T t 64 R.2.2 = s1 at *
    have hC13 := c10_readNumber (G := G) (M := gUp M1 p (cTp p t s1)) (s := s1) ht hB l1 gUp_s (hTU _)
    have l2 := zNm_le (T := T) (t := t) (s := s1) l1
    generalize zNm T t s1 = n1 at *
    have hC20 := c10_expect (G := G) (M := gUp M1 p (cTp p t n1.2)) (s := n1.2) ht l2 gUp_s (hTU _) 43
    have l3 := zEx_le (T := T) (t := t) (c := 43) (s := n1.2) (by decide) l2
    generalize zEx T t 43 n1.2 = s3 at *
    have hC24 := c10_readNumber (G := G) (M := gUp M1 p (cTp p t s3)) (s := s3) ht hB l3 gUp_s (hTU _)
    have l4 := zNm_le (T := T) (t := t) (s := s3) l3
    generalize zNm T t s3 = n2 at *
    have hC29 := c10_expectEnd (G := G) (M := gUp M1 p (cTp p t n2.2)) (s := n2.2) ht l4 gUp_s
    have we : (zEnd t n2.2).2 = false → n2.2.2 = false := zEnd_w2
    rw [← vs] at hC29 we l4
    have vs2 : n2.2 = (zS6 T t F1 s1).2 := vs.symm
    have hC24' : gCon G kX10_readNumber 2 0 0 (gUp M1 p (cTp p t s3)) [.ref p] (fun M2 v => M2 = gUp (gUp M1 p (cTp p t s3)) p (cTp p t (zS6 T t F1 s1).2) ∧ v = some (.int (nI n2.1))) := by rw [← vs2]; exact hC24
    rw [← vs] at w1
    generalize hr : zS6 T t F1 s1 = r at *
    have hsE : ∃ sE, sE = zEnd t r.2 := ⟨_, rfl⟩
    obtain ⟨sE, hsE⟩ := hsE
    have hd : cRdS M (gUp M1 p (cTp p t sE)) p t r (some .null) ∨ sE.2 = false := by
      cases hb : sE.2 with
      | false => exact Or.inr rfl
      | true =>
        refine Or.inl ⟨⟨⟨?_, fun x hx hxp => (gUp_n rfl hxp).trans (hf.2 x (by omega) hxp)⟩, by omega, by rw [← hsE]; exact gUp_s⟩, Or.inl ⟨by rw [← hsE]; exact hb, rfl⟩⟩
        show M.2 ≤ M1.2
        omega
    rw [← hsE] at hC29 we
    have hC29' : gCon G kX10_expectEnd 0 0 0 (gUp M1 p (cTp p t r.2)) [.ref p] (fun M2 v => M2 = gUp (gUp M1 p (cTp p t r.2)) p (cTp p t sE) ∧ v = none) := hC29
    obtain ⟨b13, w13⟩ := sE
    cases w13 with
    | true =>
      have hd1 := hd.resolve_right (fun h => by cases h)
      refine gJ_aload_n dX10_readSilence_6 rfl rfl ?_
      refine gJ_bipush (v := 64) dX10_readSilence_7 (by decide) ?_
      refine gJ_callV (As := [_]) b_X10_expect lX10_48 i_X10_expect s_X10_expect dX10_readSilence_9 (hC9) hp rfl rfl (Nat.le_of_ble_eq_true rfl) rfl (by decide) (fun M9 v_ h9 => ?_)
      obtain ⟨e_, rfl⟩ := h9
      replace e_ := e_.symm
      subst e_
      refine gJ_aload_n dX10_readSilence_12 rfl rfl ?_
      refine gJ_callV (As := []) b_X10_readNumber lX10_45 i_X10_readNumber s_X10_readNumber dX10_readSilence_13 (hC13) gUp_s rfl rfl (Nat.le_of_ble_eq_true rfl) rfl (by decide) (fun M13 v_ h13 => ?_)
      obtain ⟨e_, rfl⟩ := h13
      replace e_ := e_.symm
      rw [gUp_up] at e_
      subst e_
      refine gJ_istore_n (lv2 := [(2, _), (1, _), (0, _)]) dX10_readSilence_16 rfl rfl rfl ?_
      refine gJ_aload_n dX10_readSilence_17 rfl rfl ?_
      refine gJ_bipush (v := 43) dX10_readSilence_18 (by decide) ?_
      refine gJ_callV (As := [_]) b_X10_expect lX10_48 i_X10_expect s_X10_expect dX10_readSilence_20 (hC20) gUp_s rfl rfl (Nat.le_of_ble_eq_true rfl) rfl (by decide) (fun M20 v_ h20 => ?_)
      obtain ⟨e_, rfl⟩ := h20
      replace e_ := e_.symm
      rw [gUp_up] at e_
      subst e_
      refine gJ_aload_n dX10_readSilence_23 rfl rfl ?_
      refine gJ_callV (As := []) b_X10_readNumber lX10_45 i_X10_readNumber s_X10_readNumber dX10_readSilence_24 (hC24') gUp_s rfl rfl (Nat.le_of_ble_eq_true rfl) rfl (by decide) (fun M24 v_ h24 => ?_)
      obtain ⟨e_, rfl⟩ := h24
      replace e_ := e_.symm
      rw [gUp_up] at e_
      subst e_
      refine gJ_istore_n (lv2 := [(3, _), (2, _), (1, _), (0, _)]) dX10_readSilence_27 rfl rfl rfl ?_
      refine gJ_aload_n dX10_readSilence_28 rfl rfl ?_
      refine gJ_callV (As := []) b_X10_expectEnd lX10_59 i_X10_expectEnd s_X10_expectEnd dX10_readSilence_29 (hC29') gUp_s rfl rfl (Nat.le_of_ble_eq_true rfl) rfl (by decide) (fun M29 v_ h29 => ?_)
      obtain ⟨e_, rfl⟩ := h29
      replace e_ := e_.symm
      rw [gUp_up] at e_
      subst e_
      refine gJ_aload_n dX10_readSilence_32 rfl rfl ?_
      refine gJ_get fX10_22 dX10_readSilence_33 (by first | with_reducible assumption | with_reducible exact gUp_s | with_reducible exact gUp_n (by with_reducible assumption) (by omega) | exact gUp_n (by assumption) (by omega) | exact gUp_s | assumption) rfl ?_
      refine gJ_if_eqB (tgt := 43) dX10_readSilence_36 (by decide) (fun c_ => by exfalso; cases c_) (fun _ => ?_)
      refine gJ_null dX10_readSilence_39 ?_
      refine gJ_goto (tgt := 53) dX10_readSilence_40 (by decide) ?_
      refine gJ_aretN dX10_readSilence_53 rfl (Or.inl ⟨_, rfl⟩) ?_
      exact hd1
    | false =>
      have hnew : gCon G kX8_init 2 0 0 (gNew (gUp M1 p (cTp p t (b13, false))) (gO 7 [.null, .int 0, .int 0])) [.ref (q + 3), .ref q, .int (nI n1.1), .int (nI n2.1)] (fun M2 w => M2 = gUp (gNew (gUp M1 p (cTp p t (b13, false))) (gO 7 [.null, .int 0, .int 0])) (q + 3) (gO 7 [.ref q, .int (nI n1.1), .int (nI n2.1)]) ∧ w = none) := c8_init (by rw [← h2]; exact gNew_s)
      have hRw := hw (w1 (we rfl))
      have fin : cRdS M (gUp (gNew (gUp M1 p (cTp p t (b13, false))) (gO 7 [.null, .int 0, .int 0])) (q + 3) (gO 7 [.ref q, .int (nI n1.1), .int (nI n2.1)])) p t r (some (.ref (q + 3))) := by
        have old : ∀ x, x ≠ p → x ≠ q + 3 → (gUp (gNew (gUp M1 p (cTp p t (b13, false))) (gO 7 [.null, .int 0, .int 0])) (q + 3) (gO 7 [.ref q, .int (nI n1.1), .int (nI n2.1)])).1 x = M1.1 x := fun x h1 h3 => gUp_n (gNew_n (gUp_n rfl h1) (by show x ≠ M1.2; omega)) h3
        refine ⟨⟨⟨?_, fun x hx hxp => (old x hxp (by omega)).trans (hf.2 x (by omega) hxp)⟩, by omega, ?_⟩, Or.inr ⟨by rw [← hsE], q + 3, q, rfl, by omega, ?_, ?_⟩⟩
        · show M.2 ≤ M1.2 + 1
          omega
        · rw [← hsE]; exact gUp_n (gNew_n gUp_s (by show p ≠ M1.2; omega)) (by omega)
        · rw [v6, v7]; exact gUp_s
        · exact cMr_mat hmr (by omega) hRw (fun x c h1 h3 hx => (old x (by omega) (by omega)).trans hx) (by rw [vl 1 (by omega)]; exact hFn) ok2 (fun j hj => by rw [vl _ (by omega)]; exact hFc j hj)
      refine gJ_aload_n dX10_readSilence_6 rfl rfl ?_
      refine gJ_bipush (v := 64) dX10_readSilence_7 (by decide) ?_
      refine gJ_callV (As := [_]) b_X10_expect lX10_48 i_X10_expect s_X10_expect dX10_readSilence_9 (hC9) hp rfl rfl (Nat.le_of_ble_eq_true rfl) rfl (by decide) (fun M9 v_ h9 => ?_)
      obtain ⟨e_, rfl⟩ := h9
      replace e_ := e_.symm
      subst e_
      refine gJ_aload_n dX10_readSilence_12 rfl rfl ?_
      refine gJ_callV (As := []) b_X10_readNumber lX10_45 i_X10_readNumber s_X10_readNumber dX10_readSilence_13 (hC13) gUp_s rfl rfl (Nat.le_of_ble_eq_true rfl) rfl (by decide) (fun M13 v_ h13 => ?_)
      obtain ⟨e_, rfl⟩ := h13
      replace e_ := e_.symm
      rw [gUp_up] at e_
      subst e_
      refine gJ_istore_n (lv2 := [(2, _), (1, _), (0, _)]) dX10_readSilence_16 rfl rfl rfl ?_
      refine gJ_aload_n dX10_readSilence_17 rfl rfl ?_
      refine gJ_bipush (v := 43) dX10_readSilence_18 (by decide) ?_
      refine gJ_callV (As := [_]) b_X10_expect lX10_48 i_X10_expect s_X10_expect dX10_readSilence_20 (hC20) gUp_s rfl rfl (Nat.le_of_ble_eq_true rfl) rfl (by decide) (fun M20 v_ h20 => ?_)
      obtain ⟨e_, rfl⟩ := h20
      replace e_ := e_.symm
      rw [gUp_up] at e_
      subst e_
      refine gJ_aload_n dX10_readSilence_23 rfl rfl ?_
      refine gJ_callV (As := []) b_X10_readNumber lX10_45 i_X10_readNumber s_X10_readNumber dX10_readSilence_24 (hC24') gUp_s rfl rfl (Nat.le_of_ble_eq_true rfl) rfl (by decide) (fun M24 v_ h24 => ?_)
      obtain ⟨e_, rfl⟩ := h24
      replace e_ := e_.symm
      rw [gUp_up] at e_
      subst e_
      refine gJ_istore_n (lv2 := [(3, _), (2, _), (1, _), (0, _)]) dX10_readSilence_27 rfl rfl rfl ?_
      refine gJ_aload_n dX10_readSilence_28 rfl rfl ?_
      refine gJ_callV (As := []) b_X10_expectEnd lX10_59 i_X10_expectEnd s_X10_expectEnd dX10_readSilence_29 (hC29') gUp_s rfl rfl (Nat.le_of_ble_eq_true rfl) rfl (by decide) (fun M29 v_ h29 => ?_)
      obtain ⟨e_, rfl⟩ := h29
      replace e_ := e_.symm
      rw [gUp_up] at e_
      subst e_
      refine gJ_aload_n dX10_readSilence_32 rfl rfl ?_
      refine gJ_get fX10_22 dX10_readSilence_33 (by first | with_reducible assumption | with_reducible exact gUp_s | with_reducible exact gUp_n (by with_reducible assumption) (by omega) | exact gUp_n (by assumption) (by omega) | exact gUp_s | assumption) rfl ?_
      refine gJ_if_eqB (tgt := 43) dX10_readSilence_36 (by decide) (fun _ => ?_) (fun c_ => by exfalso; cases c_)
      refine gJ_new (k := kX10_readSilence) nX10_71 dX10_readSilence_43 ?_
      show gJ _ _ _ _ _ _ _ _ (Value.ref M1.2 :: _) _
      rw [h2]
      refine gJ_dup dX10_readSilence_46 rfl ?_
      refine gJ_aload_n dX10_readSilence_47 rfl rfl ?_
      refine gJ_iload_n dX10_readSilence_48 rfl rfl ?_
      refine gJ_iload_n dX10_readSilence_49 rfl rfl ?_
      refine gJ_callI (As := [_, _, _]) b_X8_init lX10_73 i_X8_init rfl rfl dX10_readSilence_50 (hnew) rfl (Nat.le_of_ble_eq_true rfl) rfl (by decide) (fun M50 v_ h50 => ?_)
      obtain ⟨e_, rfl⟩ := h50
      replace e_ := e_.symm
      subst e_
      refine gJ_aret dX10_readSilence_53 rfl (Or.inl ⟨_, rfl⟩) ?_
      exact fin
  show gJ _ _ _ _ _ _ 0 [(0, _)] [] _
  refine gJ_aload_n dX10_readSilence_0 rfl rfl ?_
  refine gJ_iconst (v := 0) dX10_readSilence_1 (by decide) ?_
  refine gJ_callV (As := [_]) b_X10_readMatchers lX10_67 i_X10_readMatchers s_X10_readMatchers dX10_readSilence_2 (hA') (by first | with_reducible assumption | with_reducible exact gUp_s | with_reducible exact gUp_n (by with_reducible assumption) (by omega) | exact gUp_n (by assumption) (by omega) | exact gUp_s | assumption) rfl rfl (Nat.le_of_ble_eq_true rfl) rfl (by decide) (fun M2 v_ h2 => ?_)
  obtain ⟨rfl, hf2, -, h22, hp2, hmr2⟩ := h2
  refine gJ_astore_n (lv2 := [(1, _), (0, _)]) dX10_readSilence_5 rfl rfl rfl ?_
  exact gJ_ls (key M2 hf2 h22 hp2 hmr2) ⟨rfl, rfl, trivial⟩
end TAPE
