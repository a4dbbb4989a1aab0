theorem zR7_v {T F : Nat → Int32} {t : Nat} {neg : Bool} {s : zP} : (zR7 T t neg F s).1 7 = (if neg = true then -(nI (zNm T t s).1) else nI (zNm T t s).1) ∧ (zR7 T t neg F s).1 8 = nI (zNm T t (zEx T t 114 (zEx T t 111 (zEx T t 102 (zNm T t s).2)))).1 ∧ (zR7 T t neg F s).1 9 = nI (zDg T t 3 (zEx T t 118 (zEx T t 101 (zEx T t 115 (zNm T t (zEx T t 114 (zEx T t 111 (zEx T t 102 (zNm T t s).2)))).2)))).1 ∧ ∀ i, i < 7 → (zR7 T t neg F s).1 i = F i := by
  rw [zR7, zR8, zR9]
  dsimp only
  refine ⟨?_, ?_, pk_us, fun i hi => ?_⟩
  · rw [pk_un (by decide), pk_un (by decide), pk_us]
  · rw [pk_un (by decide), pk_us]
  · rw [pk_un (by omega), pk_un (by omega), pk_un (by omega)]
theorem zR6_v {T F : Nat → Int32} {t : Nat} {s : zP} : (zR6 T t F s).1 6 = (if zH T t s = 60 then 0 else if zH T t s = 62 then 1 else 2) ∧ (zR6 T t F s).1 7 = (if zH T t (zSs T t s) = 45 then -(nI (zNm T t (zSk T t 45 (zSs T t s))).1) else nI (zNm T t (zSk T t 45 (zSs T t s))).1) ∧ (zR6 T t F s).1 8 = nI (zNm T t (zEx T t 114 (zEx T t 111 (zEx T t 102 (zNm T t (zSk T t 45 (zSs T t s))).2)))).1 ∧ (zR6 T t F s).1 9 = nI (zDg T t 3 (zEx T t 118 (zEx T t 101 (zEx T t 115 (zNm T t (zEx T t 114 (zEx T t 111 (zEx T t 102 (zNm T t (zSk T t 45 (zSs T t s))).2)))).2)))).1 ∧ ∀ i, i < 6 → (zR6 T t F s).1 i = F i := by
  have e : zR6 T t F s = zR6b T t (upd F 6 (if zH T t s = 60 then 0 else if zH T t s = 62 then 1 else 2)) (zSs T t s) := by rw [zR6, zSs]
  rw [e]
  generalize zSs T t s = s2
  generalize (if zH T t s = 60 then (0 : Int32) else if zH T t s = 62 then 1 else 2) = cd
  unfold zR6b zSk
  by_cases h : zH T t s2 = 45
  · rw [if_pos h, if_pos h, if_pos h]
    obtain ⟨k1, k2, k3, k4⟩ := zR7_v (T := T) (t := t) (neg := true) (F := upd F 6 cd) (s := (s2.1 + 1, s2.2))
    rw [if_pos rfl] at k1
    exact ⟨by rw [k4 6 (by omega), pk_us], k1, k2, k3, fun i hi => by rw [k4 i (by omega), pk_un (by omega)]⟩
  · rw [if_neg h, if_neg h, if_neg h]
    obtain ⟨k1, k2, k3, k4⟩ := zR7_v (T := T) (t := t) (neg := false) (F := upd F 6 cd) (s := s2)
    rw [if_neg Bool.false_ne_true] at k1
    exact ⟨by rw [k4 6 (by omega), pk_us], k1, k2, k3, fun i hi => by rw [k4 i (by omega), pk_un (by omega)]⟩
/-- what a rule's reading gives -/
def cRdR (M M2 : gM) (p t : Nat) (r : (Nat → Int32) × zP) (v : Option Value) : Prop := cRd M M2 p t r ∧ (((zEnd t r.2).2 = true ∧ v = some .null) ∨ ((zEnd t r.2).2 = false ∧ ∃ o mq, v = some (.ref o) ∧ M.2 ≤ o ∧ M2.1 o = some (gO 5 [.ref mq, .int (cSgn (r.1 6)), .int (r.1 7), .int (r.1 8), .int (r.1 9)]) ∧ cMat M2 M.2 mq r.1 1))
section TAPE
variable {G : gG} {M : gM} {p t : Nat} {T : Nat → Int32} {s s2 : zP}
set_option maxHeartbeats 4000000 in
set_option maxRecDepth 20000 in
theorem c10_rule21 {M1 : gM} {F1 : Nat → Int32} {R : zR} {q : Nat} (ht : t ≤ 60) (hB : zB T) (hq : q = M.2) (hs : s.1 ≤ t) (hp : M1.1 p = some (cTp p t s)) (hT : M1.1 (p + 1) = some (gI 60 T)) (hpq : p + 1 < q) (hf : cTf M M1 p q) (h2 : M1.2 = q + 3) (hmr : cMr M1 q R) (hw : s.2 = false → R.2.2.2 = false) (hR4 : R.1 ≤ 4) (hF1 : F1 1 = nI R.1) (hFc : ∀ j, j < R.1 → F1 (1 + (j + 1)) = nI (R.2.1 j) ∧ R.2.1 j < 128) :
    gJ G kX10_readRule 5 1 5 M1 21 [(0, .ref p)] [.ref q] (gQ kX10_readRule (fun M2 v => cRdR M M2 p t (zR6 T t F1 s) v)) := by
  have hP := c10_peek (G := G) ht hs hp hT
  have hS := c10_startsRuleSign (G := G) ht hs hp hT
  obtain ⟨v6, v7, v8, v9, vl⟩ := zR6_v (T := T) (F := F1) (t := t) (s := s)
  have est := zR6_st (T := T) (F := F1) (t := t) (s := s)
  have key : ∀ c, c = zH T t s → gJ G kX10_readRule 5 1 5 (gUp M1 p (cTp p t (zSs T t s))) 52 [(2, .int c), (1, .ref q), (0, .ref p)] [] (gQ kX10_readRule (fun M2 v => cRdR M M2 p t (zR6 T t F1 s) v)) := by
    intro c hc
    have hsl : (zSs T t s).1 ≤ t := by
      unfold zSs
      by_cases h : zH T t s = 60 ∨ zH T t s = 62 ∨ zH T t s = 61
      · rw [if_pos h]; exact zSg_lt h
      · rw [if_neg h]; exact hs
    refine c10_rule52 (G := G) ht hB hsl gUp_s (gUp_n hT (by omega)) hpq h2 c _ (fun he => ?_) (fun he M2 g2 gp go gx => ?_)
    · refine ⟨⟨⟨?_, fun x hx hxp => ?_⟩, by omega, ?_⟩, Or.inl ⟨?_, rfl⟩⟩
      · show M.2 ≤ M1.2
        omega
      · exact (gUp_n (gUp_n rfl hxp) hxp).trans (hf.2 x (by omega) hxp)
      · rw [est]; exact gUp_s
      · rw [est]; exact he
    · have hz := zSs_w2 (zSk_w2 (zCh_w2 (zEnd_w2 he)))
      refine ⟨⟨⟨by omega, fun x hx hxp => ?_⟩, by omega, ?_⟩, Or.inr ⟨?_, q + 3, q, rfl, by omega, ?_, ?_⟩⟩
      · exact (gx x hxp (by omega)).trans ((gUp_n rfl hxp).trans (hf.2 x (by omega) hxp))
      · rw [est]; exact gp
      · rw [est]; exact he
      · rw [v6, v7, v8, v9, go]
        congr 2
        congr 3
        rw [hc]
        rcases hz.2 with h | h | h <;> rw [h] <;> decide
      · refine cMr_mat hmr (by omega) (hw hz.1) (fun x c h1 h3 hx => (gx x (by omega) (by omega)).trans (gUp_n hx (by omega))) (by rw [vl 1 (by omega)]; exact hF1) hR4 (fun j hj => ?_)
        rw [vl _ (by omega)]
        exact hFc j hj
  by_cases hsg : zH T t s = 60 ∨ zH T t s = 62 ∨ zH T t s = 61
  · rw [zSs, if_pos hsg] at key
    rw [decide_eq_true hsg] at hS
    refine gJ_astore_n (lv2 := [(1, _), (0, _)]) dX10_readRule_21 rfl rfl rfl ?_
    refine gJ_aload_n dX10_readRule_22 rfl rfl ?_
    refine gJ_callV (As := []) b_X10_peek lX10_37 i_X10_peek s_X10_peek dX10_readRule_23 (hP) hp rfl rfl (Nat.le_of_ble_eq_true rfl) rfl (by decide) (fun M23 v_ h23 => ?_)
    obtain ⟨e_, rfl⟩ := h23
    replace e_ := e_.symm
    subst e_
    refine gJ_istore_n (lv2 := [(2, _), (1, _), (0, _)]) dX10_readRule_26 rfl rfl rfl ?_
    refine gJ_aload_n dX10_readRule_27 rfl rfl ?_
    refine gJ_callV (As := []) b_X10_startsRuleSign lX10_26 i_X10_startsRuleSign s_X10_startsRuleSign dX10_readRule_28 (hS) hp rfl rfl (Nat.le_of_ble_eq_true rfl) rfl (by decide) (fun M28 v_ h28 => ?_)
    obtain ⟨e_, rfl⟩ := h28
    replace e_ := e_.symm
    subst e_
    refine gJ_if_eqB (tgt := 47) dX10_readRule_31 (by decide) (fun c_ => by exfalso; cases c_) (fun _ => ?_)
    refine gJ_aload_n dX10_readRule_34 rfl rfl ?_
    refine gJ_dup dX10_readRule_35 rfl ?_
    refine gJ_get fX10_19 dX10_readRule_36 (by first | with_reducible assumption | with_reducible exact gUp_s | with_reducible exact gUp_n (by with_reducible assumption) (by omega) | exact gUp_n (by assumption) (by omega) | exact gUp_s | assumption) rfl ?_
    refine gJ_iconst (v := 1) dX10_readRule_39 (by decide) ?_
    refine gJ_iaddN (a := s.1) (b := 1) dX10_readRule_40 (by first | with_reducible rfl | rfl) (by first | with_reducible rfl | rfl) ?_
    refine gJ_put fX10_19 dX10_readRule_41 (by first | with_reducible assumption | with_reducible exact gUp_s | with_reducible exact gUp_n (by with_reducible assumption) (by omega) | exact gUp_n (by assumption) (by omega) | exact gUp_s | assumption) rfl rfl (Nat.le_of_ble_eq_true rfl) ?_
    refine gJ_goto (tgt := 52) dX10_readRule_44 (by decide) ?_
    exact gJ_ls (key _ rfl) ⟨rfl, rfl, rfl, trivial⟩
  · rw [zSs, if_neg hsg] at key
    rw [decide_eq_false hsg] at hS
    refine gJ_astore_n (lv2 := [(1, _), (0, _)]) dX10_readRule_21 rfl rfl rfl ?_
    refine gJ_aload_n dX10_readRule_22 rfl rfl ?_
    refine gJ_callV (As := []) b_X10_peek lX10_37 i_X10_peek s_X10_peek dX10_readRule_23 (hP) hp rfl rfl (Nat.le_of_ble_eq_true rfl) rfl (by decide) (fun M23 v_ h23 => ?_)
    obtain ⟨e_, rfl⟩ := h23
    replace e_ := e_.symm
    subst e_
    refine gJ_istore_n (lv2 := [(2, _), (1, _), (0, _)]) dX10_readRule_26 rfl rfl rfl ?_
    refine gJ_aload_n dX10_readRule_27 rfl rfl ?_
    refine gJ_callV (As := []) b_X10_startsRuleSign lX10_26 i_X10_startsRuleSign s_X10_startsRuleSign dX10_readRule_28 (hS) hp rfl rfl (Nat.le_of_ble_eq_true rfl) rfl (by decide) (fun M28 v_ h28 => ?_)
    obtain ⟨e_, rfl⟩ := h28
    replace e_ := e_.symm
    subst e_
    refine gJ_if_eqB (tgt := 47) dX10_readRule_31 (by decide) (fun _ => ?_) (fun c_ => by exfalso; cases c_)
    refine gJ_aload_n dX10_readRule_47 rfl rfl ?_
    refine gJ_iconst (v := 1) dX10_readRule_48 (by decide) ?_
    refine gJ_put fX10_22 dX10_readRule_49 (by first | with_reducible assumption | with_reducible exact gUp_s | with_reducible exact gUp_n (by with_reducible assumption) (by omega) | exact gUp_n (by assumption) (by omega) | exact gUp_s | assumption) rfl rfl (Nat.le_of_ble_eq_true rfl) ?_
    exact gJ_ls (key _ rfl) ⟨rfl, rfl, rfl, trivial⟩
set_option maxHeartbeats 2000000 in
set_option maxRecDepth 20000 in
theorem c10_readRule (ht : t ≤ 60) (hB : zB T) (hm : M.1 p = some (cTp p t (0, false))) (hT : M.1 (p + 1) = some (gI 60 T)) : gCon G kX10_readRule 5 4 16 M [.ref p] (fun M2 v => cRdR M M2 p t (zRu T t (fun _ => 0) (0, false)) v) := by
  have hs0 : ((0, false) : zP).1 ≤ t := Nat.zero_le _
  have hS := c10_startsRuleSign (G := G) ht hs0 hm hT
  refine gCon_of (by decide) (Nat.le_of_ble_eq_true rfl) ?_
  refine gJ_lt fun hlt => ?_
  have hpq : p + 1 < M.2 := hlt _ _ hT
  by_cases hsg : zH T t (0, false) = 60 ∨ zH T t (0, false) = 62 ∨ zH T t (0, false) = 61
  · rw [zRu, if_pos hsg]
    rw [decide_eq_true hsg] at hS
    have hI := c5_init (G := G) (M := gNew M (gO 4 [.null, .null, .int 0])) (q := M.2) rfl gNew_s
    show gJ _ _ _ _ _ _ 0 [(0, _)] [] _
    refine gJ_aload_n dX10_readRule_0 rfl rfl ?_
    refine gJ_callV (As := []) b_X10_startsRuleSign lX10_26 i_X10_startsRuleSign s_X10_startsRuleSign dX10_readRule_1 (hS) (by first | with_reducible assumption | with_reducible exact gUp_s | with_reducible exact gUp_n (by with_reducible assumption) (by omega) | exact gUp_n (by assumption) (by omega) | exact gUp_s | assumption) rfl rfl (Nat.le_of_ble_eq_true rfl) rfl (by decide) (fun M1 v_ h1 => ?_)
    obtain ⟨e_, rfl⟩ := h1
    replace e_ := e_.symm
    subst e_
    refine gJ_if_eqB (tgt := 17) dX10_readRule_4 (by decide) (fun c_ => by exfalso; cases c_) (fun _ => ?_)
    refine gJ_new (k := kX10_readRule) nX10_30 dX10_readRule_7 ?_
    refine gJ_dup dX10_readRule_10 rfl ?_
    refine gJ_callIN (As := []) b_X5_init lX10_32 i_X5_init rfl rfl dX10_readRule_11 (hI) rfl (Nat.le_of_ble_eq_true rfl) rfl (by decide) (fun M11 v_ h11 => ?_)
    obtain ⟨rfl, h112, hf11, hq11, hq111, hq211⟩ := h11
    have hold : ∀ x, x < M.2 → M11.1 x = M.1 x := (fun x hx => (hf11 x hx).trans (gNew_n rfl (by omega)))
    refine gJ_goto (tgt := 21) dX10_readRule_14 (by decide) ?_
    exact gJ_ls (c10_rule21 (R := (0, fun _ => 0, (0, false))) ht hB rfl hs0 ((hold p (by omega)).trans hm) ((hold _ hpq).trans hT) hpq ⟨by omega, fun x hx _ => hold x hx⟩ h112 ⟨0, _, _, Nat.le_refl _, hq11, hq111, hq211, fun _ => ⟨rfl, fun j hj => absurd hj (by omega)⟩⟩ (fun h => h) (by decide) rfl (fun j hj => absurd hj (by omega))) ⟨rfl, trivial⟩
  · rw [zRu, if_neg hsg]
    rw [decide_eq_false hsg] at hS
    have hA := c10_readMatchersAhead (G := G) ht hB hs0 hm hT
    obtain ⟨ok1, ok2, -⟩ := zMs_ok (T := T) (t := t) (sev := false) (s := (0, false)) hs0
    show gJ _ _ _ _ _ _ 0 [(0, _)] [] _
    refine gJ_aload_n dX10_readRule_0 rfl rfl ?_
    refine gJ_callV (As := []) b_X10_startsRuleSign lX10_26 i_X10_startsRuleSign s_X10_startsRuleSign dX10_readRule_1 (hS) (by first | with_reducible assumption | with_reducible exact gUp_s | with_reducible exact gUp_n (by with_reducible assumption) (by omega) | exact gUp_n (by assumption) (by omega) | exact gUp_s | assumption) rfl rfl (Nat.le_of_ble_eq_true rfl) rfl (by decide) (fun M1 v_ h1 => ?_)
    obtain ⟨e_, rfl⟩ := h1
    replace e_ := e_.symm
    subst e_
    refine gJ_if_eqB (tgt := 17) dX10_readRule_4 (by decide) (fun _ => ?_) (fun c_ => by exfalso; cases c_)
    refine gJ_aload_n dX10_readRule_17 rfl rfl ?_
    refine gJ_callV (As := []) b_X10_readMatchersAhead lX10_33 i_X10_readMatchersAhead s_X10_readMatchersAhead dX10_readRule_18 (hA) (by first | with_reducible assumption | with_reducible exact gUp_s | with_reducible exact gUp_n (by with_reducible assumption) (by omega) | exact gUp_n (by assumption) (by omega) | exact gUp_s | assumption) rfl rfl (Nat.le_of_ble_eq_true rfl) rfl (by decide) (fun M18 v_ h18 => ?_)
    obtain ⟨rfl, hf18, -, h182, hp18, hmr18⟩ := h18
    exact gJ_ls (c10_rule21 (R := zMs T t false (0, false)) ht hB rfl (zEx_le (by decide) ok1.1) hp18 ((hf18.2 _ hpq (by omega)).trans hT) hpq hf18 h182 hmr18 zEx_w2 ok2 pk_us (fun j hj => ⟨by rw [pk_un (by omega), zLay, if_pos (by omega), show 1 + (j + 1) - (1 + 1) = j by omega], ok1.2 j⟩)) ⟨rfl, trivial⟩
end TAPE
