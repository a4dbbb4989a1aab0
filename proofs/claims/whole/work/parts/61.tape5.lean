/-- an entry's sequence, as the relation has it -/
theorem cMr_mat {M M2 : gM} {q E : Nat} {R : zR} {V : Nat → Int32} {f : Nat} (h : cMr M q R) (hE : E ≤ q) (hw : R.2.2.2 = false) (hk : ∀ x c, q ≤ x → x < q + 3 → M.1 x = some c → M2.1 x = some c) (hn : V f = nI R.1) (hR : R.1 ≤ 4) (hc : ∀ j, j < R.1 → V (f + (j + 1)) = nI (R.2.1 j) ∧ R.2.1 j < 128) : cMat M2 E q V f := by
  obtain ⟨n, L, Z, -, hq, hq1, hq2, hok⟩ := h
  obtain ⟨e1, e2⟩ := hok hw
  subst e1
  refine ⟨hE, q + 1, q + 2, L, Z, by omega, by omega, by rw [hn]; exact hk _ _ (by omega) (by omega) hq, hk _ _ (by omega) (by omega) hq1, hk _ _ (by omega) (by omega) hq2, fun j hj => ?_⟩
  rw [mN_of hn (by omega)] at hj
  obtain ⟨c1, c2⟩ := hc j hj
  rw [mN_of c1 (by omega)]
  exact e2 j hj
/-- what stands behind a reading that made an entry, or none -/
def cRd (M M2 : gM) (p t : Nat) (r : (Nat → Int32) × zP) : Prop := cTf M M2 p M.2 ∧ p + 1 < M.2 ∧ M2.1 p = some (cTp p t (zEnd t r.2))
section TAPE
variable {G : gG} {M : gM} {p t : Nat} {T : Nat → Int32} {s s2 : zP}
set_option maxHeartbeats 4000000 in
set_option maxRecDepth 20000 in
theorem c10_rule52 {M1 : gM} {q : Nat} (ht : t ≤ 60) (hB : zB T) (hs : s.1 ≤ t) (hp : M1.1 p = some (cTp p t s)) (hT : M1.1 (p + 1) = some (gI 60 T)) (hpq : p + 1 < q) (h2 : M1.2 = q + 3) (c : Int32) (Q : gPq) (hQ1 : (zEnd t (zCh T t (zSk T t 45 s))).2 = true → Q (gUp M1 p (cTp p t (zEnd t (zCh T t (zSk T t 45 s))))) (some .null)) (hQ2 : (zEnd t (zCh T t (zSk T t 45 s))).2 = false → ∀ M2 : gM, M2.2 = q + 4 → M2.1 p = some (cTp p t (zEnd t (zCh T t (zSk T t 45 s)))) → M2.1 (q + 3) = some (gO 5 [.ref q, .int c, .int (if zH T t s = 45 then -(nI (zNm T t (zSk T t 45 s)).1) else nI (zNm T t (zSk T t 45 s)).1), .int (nI (zNm T t (zEx T t 114 (zEx T t 111 (zEx T t 102 (zNm T t (zSk T t 45 s)).2)))).1), .int (nI (zDg T t 3 (zEx T t 118 (zEx T t 101 (zEx T t 115 (zNm T t (zEx T t 114 (zEx T t 111 (zEx T t 102 (zNm T t (zSk T t 45 s)).2)))).2)))).1)]) → (∀ x, x ≠ p → x ≠ q + 3 → M2.1 x = M1.1 x) → Q M2 (some (.ref (q + 3)))) :
    gJ G kX10_readRule 5 1 5 M1 52 [(2, .int c), (1, .ref q), (0, .ref p)] [] (gQ kX10_readRule Q) := by
  have hTU : ∀ c, (gUp M1 p c).1 (p + 1) = some (gI 60 T) := fun c => gUp_n hT (by omega)
  unfold zCh at hQ1 hQ2
  have hC55 := c10_skip (G := G) (M := M1) (s := s) ht hs hp hT 45
  have l_s3 := zSk_le (T := T) (t := t) (c := 45) (s := s) (by decide) hs
  generalize zSk T t 45 s = s3 at *
  have hC60 := c10_readNumber (G := G) (M := (gUp M1 p (cTp p t s3))) (s := s3) ht hB l_s3 gUp_s (hTU _)
  have l_n1 := zNm_le (T := T) l_s3
  generalize zNm T t s3 = n1 at *
  have hC68 := c10_expect (G := G) (M := (gUp M1 p (cTp p t n1.2))) (s := n1.2) ht l_n1 gUp_s (hTU _) 102
  have l_s5 := zEx_le (T := T) (c := 102) (by decide) l_n1
  generalize zEx T t 102 n1.2 = s5 at *
  have hC74 := c10_expect (G := G) (M := (gUp M1 p (cTp p t s5))) (s := s5) ht l_s5 gUp_s (hTU _) 111
  have l_s6 := zEx_le (T := T) (c := 111) (by decide) l_s5
  generalize zEx T t 111 s5 = s6 at *
  have hC80 := c10_expect (G := G) (M := (gUp M1 p (cTp p t s6))) (s := s6) ht l_s6 gUp_s (hTU _) 114
  have l_s7 := zEx_le (T := T) (c := 114) (by decide) l_s6
  generalize zEx T t 114 s6 = s7 at *
  have hC84 := c10_readNumber (G := G) (M := (gUp M1 p (cTp p t s7))) (s := s7) ht hB l_s7 gUp_s (hTU _)
  have l_n2 := zNm_le (T := T) l_s7
  generalize zNm T t s7 = n2 at *
  have hC92 := c10_expect (G := G) (M := (gUp M1 p (cTp p t n2.2))) (s := n2.2) ht l_n2 gUp_s (hTU _) 115
  have l_s9 := zEx_le (T := T) (c := 115) (by decide) l_n2
  generalize zEx T t 115 n2.2 = s9 at *
  have hC98 := c10_expect (G := G) (M := (gUp M1 p (cTp p t s9))) (s := s9) ht l_s9 gUp_s (hTU _) 101
  have l_s10 := zEx_le (T := T) (c := 101) (by decide) l_s9
  generalize zEx T t 101 s9 = s10 at *
  have hC104 := c10_expect (G := G) (M := (gUp M1 p (cTp p t s10))) (s := s10) ht l_s10 gUp_s (hTU _) 118
  have l_s11 := zEx_le (T := T) (c := 118) (by decide) l_s10
  generalize zEx T t 118 s10 = s11 at *
  have hC113 := c10_readDigit (G := G) (M := (gUp M1 p (cTp p t s11))) (s := s11) ht hB l_s11 gUp_s (hTU _) 3 (by decide)
  have l_n3 := zDg_le (T := T) (m := 3) l_s11
  generalize zDg T t 3 s11 = n3 at *
  have hC119 := c10_expectEnd (G := G) (M := (gUp M1 p (cTp p t n3.2))) (s := n3.2) ht l_n3 gUp_s
  generalize zEnd t n3.2 = s13 at *
  obtain ⟨b13, w13⟩ := s13
  cases w13 with
  | true =>
    refine gJ_aload_n dX10_readRule_52 rfl rfl ?_
    refine gJ_bipush (v := 45) dX10_readRule_53 (by decide) ?_
    refine gJ_callV (As := [_]) b_X10_skip lX10_41 i_X10_skip s_X10_skip dX10_readRule_55 (hC55) hp rfl rfl (Nat.le_of_ble_eq_true rfl) rfl (by decide) (fun M55 v_ h55 => ?_)
    obtain ⟨e_, rfl⟩ := h55
    replace e_ := e_.symm
    subst e_
    refine gJ_istore_n (lv2 := [(3, _), (2, _), (1, _), (0, _)]) dX10_readRule_58 rfl rfl rfl ?_
    refine gJ_aload_n dX10_readRule_59 rfl rfl ?_
    refine gJ_callV (As := []) b_X10_readNumber lX10_45 i_X10_readNumber s_X10_readNumber dX10_readRule_60 (hC60) gUp_s rfl rfl (Nat.le_of_ble_eq_true rfl) rfl (by decide) (fun M60 v_ h60 => ?_)
    obtain ⟨e_, rfl⟩ := h60
    replace e_ := e_.symm
    rw [gUp_up] at e_
    subst e_
    refine gJ_istore (lv2 := [(4, _), (3, _), (2, _), (1, _), (0, _)]) dX10_readRule_63 rfl rfl ?_
    refine gJ_aload_n dX10_readRule_65 rfl rfl ?_
    refine gJ_bipush (v := 102) dX10_readRule_66 (by decide) ?_
    refine gJ_callV (As := [_]) b_X10_expect lX10_48 i_X10_expect s_X10_expect dX10_readRule_68 (hC68) gUp_s rfl rfl (Nat.le_of_ble_eq_true rfl) rfl (by decide) (fun M68 v_ h68 => ?_)
    obtain ⟨e_, rfl⟩ := h68
    replace e_ := e_.symm
    rw [gUp_up] at e_
    subst e_
    refine gJ_aload_n dX10_readRule_71 rfl rfl ?_
    refine gJ_bipush (v := 111) dX10_readRule_72 (by decide) ?_
    refine gJ_callV (As := [_]) b_X10_expect lX10_48 i_X10_expect s_X10_expect dX10_readRule_74 (hC74) gUp_s rfl rfl (Nat.le_of_ble_eq_true rfl) rfl (by decide) (fun M74 v_ h74 => ?_)
    obtain ⟨e_, rfl⟩ := h74
    replace e_ := e_.symm
    rw [gUp_up] at e_
    subst e_
    refine gJ_aload_n dX10_readRule_77 rfl rfl ?_
    refine gJ_bipush (v := 114) dX10_readRule_78 (by decide) ?_
    refine gJ_callV (As := [_]) b_X10_expect lX10_48 i_X10_expect s_X10_expect dX10_readRule_80 (hC80) gUp_s rfl rfl (Nat.le_of_ble_eq_true rfl) rfl (by decide) (fun M80 v_ h80 => ?_)
    obtain ⟨e_, rfl⟩ := h80
    replace e_ := e_.symm
    rw [gUp_up] at e_
    subst e_
    refine gJ_aload_n dX10_readRule_83 rfl rfl ?_
    refine gJ_callV (As := []) b_X10_readNumber lX10_45 i_X10_readNumber s_X10_readNumber dX10_readRule_84 (hC84) gUp_s rfl rfl (Nat.le_of_ble_eq_true rfl) rfl (by decide) (fun M84 v_ h84 => ?_)
    obtain ⟨e_, rfl⟩ := h84
    replace e_ := e_.symm
    rw [gUp_up] at e_
    subst e_
    refine gJ_istore (lv2 := [(5, _), (4, _), (3, _), (2, _), (1, _), (0, _)]) dX10_readRule_87 rfl rfl ?_
    refine gJ_aload_n dX10_readRule_89 rfl rfl ?_
    refine gJ_bipush (v := 115) dX10_readRule_90 (by decide) ?_
    refine gJ_callV (As := [_]) b_X10_expect lX10_48 i_X10_expect s_X10_expect dX10_readRule_92 (hC92) gUp_s rfl rfl (Nat.le_of_ble_eq_true rfl) rfl (by decide) (fun M92 v_ h92 => ?_)
    obtain ⟨e_, rfl⟩ := h92
    replace e_ := e_.symm
    rw [gUp_up] at e_
    subst e_
    refine gJ_aload_n dX10_readRule_95 rfl rfl ?_
    refine gJ_bipush (v := 101) dX10_readRule_96 (by decide) ?_
    refine gJ_callV (As := [_]) b_X10_expect lX10_48 i_X10_expect s_X10_expect dX10_readRule_98 (hC98) gUp_s rfl rfl (Nat.le_of_ble_eq_true rfl) rfl (by decide) (fun M98 v_ h98 => ?_)
    obtain ⟨e_, rfl⟩ := h98
    replace e_ := e_.symm
    rw [gUp_up] at e_
    subst e_
    refine gJ_aload_n dX10_readRule_101 rfl rfl ?_
    refine gJ_bipush (v := 118) dX10_readRule_102 (by decide) ?_
    refine gJ_callV (As := [_]) b_X10_expect lX10_48 i_X10_expect s_X10_expect dX10_readRule_104 (hC104) gUp_s rfl rfl (Nat.le_of_ble_eq_true rfl) rfl (by decide) (fun M104 v_ h104 => ?_)
    obtain ⟨e_, rfl⟩ := h104
    replace e_ := e_.symm
    rw [gUp_up] at e_
    subst e_
    refine gJ_aload_n dX10_readRule_107 rfl rfl ?_
    refine gJ_getsN (q := 1) (by decide) gX10_52 dX10_readRule_108 ?_
    refine gJ_iconst (v := 3) dX10_readRule_111 (by decide) ?_
    refine gJ_taldN (j := 3) dX10_readRule_112 (q := 1) (by decide) (by first | with_reducible rfl | rfl) (by decide) (by decide) ?_
    refine gJ_callV (As := [_]) b_X10_readDigit lX10_55 i_X10_readDigit s_X10_readDigit dX10_readRule_113 (hC113) gUp_s rfl rfl (Nat.le_of_ble_eq_true rfl) rfl (by decide) (fun M113 v_ h113 => ?_)
    obtain ⟨e_, rfl⟩ := h113
    replace e_ := e_.symm
    rw [gUp_up] at e_
    subst e_
    refine gJ_istore (lv2 := [(6, _), (5, _), (4, _), (3, _), (2, _), (1, _), (0, _)]) dX10_readRule_116 rfl rfl ?_
    refine gJ_aload_n dX10_readRule_118 rfl rfl ?_
    refine gJ_callV (As := []) b_X10_expectEnd lX10_59 i_X10_expectEnd s_X10_expectEnd dX10_readRule_119 (hC119) gUp_s rfl rfl (Nat.le_of_ble_eq_true rfl) rfl (by decide) (fun M119 v_ h119 => ?_)
    obtain ⟨e_, rfl⟩ := h119
    replace e_ := e_.symm
    rw [gUp_up] at e_
    subst e_
    refine gJ_aload_n dX10_readRule_122 rfl rfl ?_
    refine gJ_get fX10_22 dX10_readRule_123 (by first | with_reducible assumption | with_reducible exact gUp_s | with_reducible exact gUp_n (by with_reducible assumption) (by omega) | exact gUp_n (by assumption) (by omega) | exact gUp_s | assumption) rfl ?_
    refine gJ_if_eqB (tgt := 133) dX10_readRule_126 (by decide) (fun c_ => by exfalso; cases c_) (fun _ => ?_)
    refine gJ_null dX10_readRule_129 ?_
    refine gJ_goto (tgt := 158) dX10_readRule_130 (by decide) ?_
    refine gJ_aretN dX10_readRule_158 rfl (Or.inl ⟨_, rfl⟩) ?_
    exact hQ1 rfl
  | false =>
    have hnew : ∀ v : Int32, v = (if zH T t s = 45 then -(nI n1.1) else nI n1.1) → gCon G kX6_init 2 0 0 (gNew (gUp M1 p (cTp p t (b13, false))) (gO 5 [.null, .int 0, .int 0, .int 0, .int 0])) [.ref (q + 3), .ref q, .int c, .int v, .int (nI n2.1), .int (nI n3.1)] (fun M2 w => M2 = gUp (gNew (gUp M1 p (cTp p t (b13, false))) (gO 5 [.null, .int 0, .int 0, .int 0, .int 0])) (q + 3) (gO 5 [.ref q, .int c, .int v, .int (nI n2.1), .int (nI n3.1)]) ∧ w = none) := fun v _ => c6_init (by rw [← h2]; exact gNew_s)
    have fin : ∀ v : Int32, v = (if zH T t s = 45 then -(nI n1.1) else nI n1.1) → Q (gUp (gNew (gUp M1 p (cTp p t (b13, false))) (gO 5 [.null, .int 0, .int 0, .int 0, .int 0])) (q + 3) (gO 5 [.ref q, .int c, .int v, .int (nI n2.1), .int (nI n3.1)])) (some (.ref (q + 3))) := by
      intro v hv
      subst hv
      refine hQ2 rfl _ ?_ ?_ gUp_s (fun x hx1 hx2 => ?_)
      · show M1.2 + 1 = q + 4
        omega
      · exact gUp_n (gNew_n gUp_s (by show p ≠ M1.2; omega)) (by omega)
      · exact gUp_n (gNew_n (gUp_n rfl hx1) (by show x ≠ M1.2; omega)) hx2
    refine gJ_aload_n dX10_readRule_52 rfl rfl ?_
    refine gJ_bipush (v := 45) dX10_readRule_53 (by decide) ?_
    refine gJ_callV (As := [_]) b_X10_skip lX10_41 i_X10_skip s_X10_skip dX10_readRule_55 (hC55) hp rfl rfl (Nat.le_of_ble_eq_true rfl) rfl (by decide) (fun M55 v_ h55 => ?_)
    obtain ⟨e_, rfl⟩ := h55
    replace e_ := e_.symm
    subst e_
    refine gJ_istore_n (lv2 := [(3, _), (2, _), (1, _), (0, _)]) dX10_readRule_58 rfl rfl rfl ?_
    refine gJ_aload_n dX10_readRule_59 rfl rfl ?_
    refine gJ_callV (As := []) b_X10_readNumber lX10_45 i_X10_readNumber s_X10_readNumber dX10_readRule_60 (hC60) gUp_s rfl rfl (Nat.le_of_ble_eq_true rfl) rfl (by decide) (fun M60 v_ h60 => ?_)
    obtain ⟨e_, rfl⟩ := h60
    replace e_ := e_.symm
    rw [gUp_up] at e_
    subst e_
    refine gJ_istore (lv2 := [(4, _), (3, _), (2, _), (1, _), (0, _)]) dX10_readRule_63 rfl rfl ?_
    refine gJ_aload_n dX10_readRule_65 rfl rfl ?_
    refine gJ_bipush (v := 102) dX10_readRule_66 (by decide) ?_
    refine gJ_callV (As := [_]) b_X10_expect lX10_48 i_X10_expect s_X10_expect dX10_readRule_68 (hC68) gUp_s rfl rfl (Nat.le_of_ble_eq_true rfl) rfl (by decide) (fun M68 v_ h68 => ?_)
    obtain ⟨e_, rfl⟩ := h68
    replace e_ := e_.symm
    rw [gUp_up] at e_
    subst e_
    refine gJ_aload_n dX10_readRule_71 rfl rfl ?_
    refine gJ_bipush (v := 111) dX10_readRule_72 (by decide) ?_
    refine gJ_callV (As := [_]) b_X10_expect lX10_48 i_X10_expect s_X10_expect dX10_readRule_74 (hC74) gUp_s rfl rfl (Nat.le_of_ble_eq_true rfl) rfl (by decide) (fun M74 v_ h74 => ?_)
    obtain ⟨e_, rfl⟩ := h74
    replace e_ := e_.symm
    rw [gUp_up] at e_
    subst e_
    refine gJ_aload_n dX10_readRule_77 rfl rfl ?_
    refine gJ_bipush (v := 114) dX10_readRule_78 (by decide) ?_
    refine gJ_callV (As := [_]) b_X10_expect lX10_48 i_X10_expect s_X10_expect dX10_readRule_80 (hC80) gUp_s rfl rfl (Nat.le_of_ble_eq_true rfl) rfl (by decide) (fun M80 v_ h80 => ?_)
    obtain ⟨e_, rfl⟩ := h80
    replace e_ := e_.symm
    rw [gUp_up] at e_
    subst e_
    refine gJ_aload_n dX10_readRule_83 rfl rfl ?_
    refine gJ_callV (As := []) b_X10_readNumber lX10_45 i_X10_readNumber s_X10_readNumber dX10_readRule_84 (hC84) gUp_s rfl rfl (Nat.le_of_ble_eq_true rfl) rfl (by decide) (fun M84 v_ h84 => ?_)
    obtain ⟨e_, rfl⟩ := h84
    replace e_ := e_.symm
    rw [gUp_up] at e_
    subst e_
    refine gJ_istore (lv2 := [(5, _), (4, _), (3, _), (2, _), (1, _), (0, _)]) dX10_readRule_87 rfl rfl ?_
    refine gJ_aload_n dX10_readRule_89 rfl rfl ?_
    refine gJ_bipush (v := 115) dX10_readRule_90 (by decide) ?_
    refine gJ_callV (As := [_]) b_X10_expect lX10_48 i_X10_expect s_X10_expect dX10_readRule_92 (hC92) gUp_s rfl rfl (Nat.le_of_ble_eq_true rfl) rfl (by decide) (fun M92 v_ h92 => ?_)
    obtain ⟨e_, rfl⟩ := h92
    replace e_ := e_.symm
    rw [gUp_up] at e_
    subst e_
    refine gJ_aload_n dX10_readRule_95 rfl rfl ?_
    refine gJ_bipush (v := 101) dX10_readRule_96 (by decide) ?_
    refine gJ_callV (As := [_]) b_X10_expect lX10_48 i_X10_expect s_X10_expect dX10_readRule_98 (hC98) gUp_s rfl rfl (Nat.le_of_ble_eq_true rfl) rfl (by decide) (fun M98 v_ h98 => ?_)
    obtain ⟨e_, rfl⟩ := h98
    replace e_ := e_.symm
    rw [gUp_up] at e_
    subst e_
    refine gJ_aload_n dX10_readRule_101 rfl rfl ?_
    refine gJ_bipush (v := 118) dX10_readRule_102 (by decide) ?_
    refine gJ_callV (As := [_]) b_X10_expect lX10_48 i_X10_expect s_X10_expect dX10_readRule_104 (hC104) gUp_s rfl rfl (Nat.le_of_ble_eq_true rfl) rfl (by decide) (fun M104 v_ h104 => ?_)
    obtain ⟨e_, rfl⟩ := h104
    replace e_ := e_.symm
    rw [gUp_up] at e_
    subst e_
    refine gJ_aload_n dX10_readRule_107 rfl rfl ?_
    refine gJ_getsN (q := 1) (by decide) gX10_52 dX10_readRule_108 ?_
    refine gJ_iconst (v := 3) dX10_readRule_111 (by decide) ?_
    refine gJ_taldN (j := 3) dX10_readRule_112 (q := 1) (by decide) (by first | with_reducible rfl | rfl) (by decide) (by decide) ?_
    refine gJ_callV (As := [_]) b_X10_readDigit lX10_55 i_X10_readDigit s_X10_readDigit dX10_readRule_113 (hC113) gUp_s rfl rfl (Nat.le_of_ble_eq_true rfl) rfl (by decide) (fun M113 v_ h113 => ?_)
    obtain ⟨e_, rfl⟩ := h113
    replace e_ := e_.symm
    rw [gUp_up] at e_
    subst e_
    refine gJ_istore (lv2 := [(6, _), (5, _), (4, _), (3, _), (2, _), (1, _), (0, _)]) dX10_readRule_116 rfl rfl ?_
    refine gJ_aload_n dX10_readRule_118 rfl rfl ?_
    refine gJ_callV (As := []) b_X10_expectEnd lX10_59 i_X10_expectEnd s_X10_expectEnd dX10_readRule_119 (hC119) gUp_s rfl rfl (Nat.le_of_ble_eq_true rfl) rfl (by decide) (fun M119 v_ h119 => ?_)
    obtain ⟨e_, rfl⟩ := h119
    replace e_ := e_.symm
    rw [gUp_up] at e_
    subst e_
    refine gJ_aload_n dX10_readRule_122 rfl rfl ?_
    refine gJ_get fX10_22 dX10_readRule_123 (by first | with_reducible assumption | with_reducible exact gUp_s | with_reducible exact gUp_n (by with_reducible assumption) (by omega) | exact gUp_n (by assumption) (by omega) | exact gUp_s | assumption) rfl ?_
    refine gJ_if_eqB (tgt := 133) dX10_readRule_126 (by decide) (fun _ => ?_) (fun c_ => by exfalso; cases c_)
    refine gJ_new (k := kX10_readRule) nX10_62 dX10_readRule_133 ?_
    show gJ _ _ _ _ _ _ _ _ (Value.ref M1.2 :: _) _
    rw [h2]
    refine gJ_dup dX10_readRule_136 rfl ?_
    refine gJ_aload_n dX10_readRule_137 rfl rfl ?_
    refine gJ_iload_n dX10_readRule_138 rfl rfl ?_
    refine gJ_iload_n dX10_readRule_139 rfl rfl ?_
    refine gJ_if_eqB (tgt := 149) dX10_readRule_140 (by decide) (fun c140 => ?_) (fun c140 => ?_)
    · refine gJ_iload dX10_readRule_149 rfl ?_
      refine gJ_iload dX10_readRule_151 rfl ?_
      refine gJ_iload dX10_readRule_153 rfl ?_
      refine gJ_callI (As := [_, _, _, _, _]) b_X6_init lX10_64 i_X6_init rfl rfl dX10_readRule_155 (hnew _ (by rw [if_neg (of_decide_eq_false c140)])) rfl (Nat.le_of_ble_eq_true rfl) rfl (by decide) (fun M155 v_ h155 => ?_)
      obtain ⟨e_, rfl⟩ := h155
      replace e_ := e_.symm
      subst e_
      refine gJ_aret dX10_readRule_158 rfl (Or.inl ⟨_, rfl⟩) ?_
      exact fin _ (by rw [if_neg (of_decide_eq_false c140)])
    · refine gJ_iload dX10_readRule_143 rfl ?_
      refine gJ_ineg dX10_readRule_145 ?_
      refine gJ_goto (tgt := 151) dX10_readRule_146 (by decide) ?_
      refine gJ_iload dX10_readRule_151 rfl ?_
      refine gJ_iload dX10_readRule_153 rfl ?_
      refine gJ_callI (As := [_, _, _, _, _]) b_X6_init lX10_64 i_X6_init rfl rfl dX10_readRule_155 (hnew _ (by rw [if_pos (of_decide_eq_true c140)])) rfl (Nat.le_of_ble_eq_true rfl) rfl (by decide) (fun M155 v_ h155 => ?_)
      obtain ⟨e_, rfl⟩ := h155
      replace e_ := e_.symm
      subst e_
      refine gJ_aret dX10_readRule_158 rfl (Or.inl ⟨_, rfl⟩) ?_
      exact fin _ (by rw [if_pos (of_decide_eq_true c140)])
end TAPE
