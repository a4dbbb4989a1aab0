/-- a rule's text from its number on: the state -/
def zCh (T : Nat → Int32) (t : Nat) (s : zP) : zP := (zDg T t 3 (zEx T t 118 (zEx T t 101 (zEx T t 115 (zNm T t (zEx T t 114 (zEx T t 111 (zEx T t 102 (zNm T t s).2)))).2)))).2
def zSs (T : Nat → Int32) (t : Nat) (s : zP) : zP := if zH T t s = 60 ∨ zH T t s = 62 ∨ zH T t s = 61 then (s.1 + 1, s.2) else (s.1, true)
theorem zR7_st {T F : Nat → Int32} {t : Nat} {neg : Bool} {s : zP} : (zR7 T t neg F s).2 = zCh T t s := by
  rw [zR7, zR8, zR9, zCh]
theorem zR6b_st {T F : Nat → Int32} {t : Nat} {s : zP} : (zR6b T t F s).2 = zCh T t (zSk T t 45 s) := by
  unfold zR6b zSk
  split <;> exact zR7_st
theorem zR6_st {T F : Nat → Int32} {t : Nat} {s : zP} : (zR6 T t F s).2 = zCh T t (zSk T t 45 (zSs T t s)) := by
  rw [zR6, zR6b_st, zSs]
theorem zEx_w2 {T : Nat → Int32} {t : Nat} {c : Int32} {s : zP} (h : (zEx T t c s).2 = false) : s.2 = false := by
  unfold zEx at h
  split at h
  · exact h
  · cases h
theorem zDg_w2 {T : Nat → Int32} {t m : Nat} {s : zP} (h : (zDg T t m s).2.2 = false) : s.2 = false := by
  unfold zDg at h
  split at h
  · exact h
  · cases h
theorem zNm_w2 {T : Nat → Int32} {t : Nat} {s : zP} (h : (zNm T t s).2.2 = false) : s.2 = false := by
  obtain ⟨a, w⟩ := s
  cases w with
  | false => rfl
  | true => rw [zNm_w] at h; cases h
theorem zSk_w2 {T : Nat → Int32} {t : Nat} {c : Int32} {s : zP} (h : (zSk T t c s).2 = false) : s.2 = false := by
  unfold zSk at h
  split at h <;> exact h
theorem zSs_w2 {T : Nat → Int32} {t : Nat} {s : zP} (h : (zSs T t s).2 = false) : s.2 = false ∧ (zH T t s = 60 ∨ zH T t s = 62 ∨ zH T t s = 61) := by
  unfold zSs at h
  split at h
  · exact ⟨h, by assumption⟩
  · cases h
theorem zEnd_w2 {t : Nat} {s : zP} (h : (zEnd t s).2 = false) : s.2 = false := by
  unfold zEnd at h
  split at h
  · cases h
  · exact h
theorem zCh_w2 {T : Nat → Int32} {t : Nat} {s : zP} (h : (zCh T t s).2 = false) : s.2 = false := by
  unfold zCh at h
  exact zNm_w2 (zEx_w2 (zEx_w2 (zEx_w2 (zNm_w2 (zEx_w2 (zEx_w2 (zEx_w2 (zDg_w2 h))))))))
section TAPE
variable {G : gG} {M : gM} {p t q : Nat} {T : Nat → Int32} {s s2 : zP}
theorem c1_init : gCon G kX1_init 1 0 0 M [.ref q] (fun M2 v => M2 = M ∧ v = none) := by
  refine gCon_of (by decide) (Nat.le_of_ble_eq_true rfl) ?_
  show gJ _ _ _ _ _ _ 0 [(0, _)] [] _
  refine gJ_aload_n dX1_init_0 rfl rfl ?_
  refine gJ_objInit oX1_1 dX1_init_1 (by decide) (by omega) ?_
  refine gJ_vret dX1_init_4 rfl ?_
  exact ⟨rfl, rfl⟩
theorem c6_init {mq : Nat} {a0 : Value} {a1 a2 a3 a4 x1 x2 x3 x4 : Int32} (hm : M.1 q = some (gO 5 [a0, .int a1, .int a2, .int a3, .int a4])) : gCon G kX6_init 2 0 0 M [.ref q, .ref mq, .int x1, .int x2, .int x3, .int x4] (fun M2 v => M2 = gUp M q (gO 5 [.ref mq, .int x1, .int x2, .int x3, .int x4]) ∧ v = none) := by
  refine gCon_of (by decide) (Nat.le_of_ble_eq_true rfl) ?_
  show gJ _ _ _ _ _ _ 0 [(0, _), (1, _), (2, _), (3, _), (4, _), (5, _)] [] _
  refine gJ_aload_n dX6_init_0 rfl rfl ?_
  refine gJ_callIN (As := []) b_X1_init lX6_1 i_X1_init rfl rfl dX6_init_1 (c1_init) rfl (Nat.le_of_ble_eq_true rfl) rfl (by decide) (fun M1 v_ h1 => ?_)
  obtain ⟨e1, rfl⟩ := h1
  replace e1 := e1.symm
  subst e1
  refine gJ_aload_n dX6_init_4 rfl rfl ?_
  refine gJ_aload_n dX6_init_5 rfl rfl ?_
  refine gJ_putF fX6_7 rfl rfl dX6_init_6 (by first | with_reducible assumption | with_reducible exact gUp_s | with_reducible exact gUp_n (by with_reducible assumption) (by omega) | exact gUp_n (by assumption) (by omega) | exact gUp_s | assumption) rfl rfl (Nat.le_of_ble_eq_true rfl) ?_
  refine gJ_aload_n dX6_init_9 rfl rfl ?_
  refine gJ_iload_n dX6_init_10 rfl rfl ?_
  refine gJ_putF fX6_13 rfl rfl dX6_init_11 (by first | with_reducible assumption | with_reducible exact gUp_s | with_reducible exact gUp_n (by with_reducible assumption) (by omega) | exact gUp_n (by assumption) (by omega) | exact gUp_s | assumption) rfl rfl (Nat.le_of_ble_eq_true rfl) ?_
  refine gJ_aload_n dX6_init_14 rfl rfl ?_
  refine gJ_iload_n dX6_init_15 rfl rfl ?_
  refine gJ_putF fX6_17 rfl rfl dX6_init_16 (by first | with_reducible assumption | with_reducible exact gUp_s | with_reducible exact gUp_n (by with_reducible assumption) (by omega) | exact gUp_n (by assumption) (by omega) | exact gUp_s | assumption) rfl rfl (Nat.le_of_ble_eq_true rfl) ?_
  refine gJ_aload_n dX6_init_19 rfl rfl ?_
  refine gJ_iload dX6_init_20 rfl ?_
  refine gJ_putF fX6_20 rfl rfl dX6_init_22 (by first | with_reducible assumption | with_reducible exact gUp_s | with_reducible exact gUp_n (by with_reducible assumption) (by omega) | exact gUp_n (by assumption) (by omega) | exact gUp_s | assumption) rfl rfl (Nat.le_of_ble_eq_true rfl) ?_
  refine gJ_aload_n dX6_init_25 rfl rfl ?_
  refine gJ_iload dX6_init_26 rfl ?_
  refine gJ_putF fX6_23 rfl rfl dX6_init_28 (by first | with_reducible assumption | with_reducible exact gUp_s | with_reducible exact gUp_n (by with_reducible assumption) (by omega) | exact gUp_n (by assumption) (by omega) | exact gUp_s | assumption) rfl rfl (Nat.le_of_ble_eq_true rfl) ?_
  refine gJ_vret dX6_init_31 rfl ?_
  refine ⟨?_, rfl⟩
  rw [gUp_up, gUp_up, gUp_up, gUp_up]
  rfl
theorem c8_init {mq : Nat} {a0 : Value} {a1 a2 x1 x2 : Int32} (hm : M.1 q = some (gO 7 [a0, .int a1, .int a2])) : gCon G kX8_init 2 0 0 M [.ref q, .ref mq, .int x1, .int x2] (fun M2 v => M2 = gUp M q (gO 7 [.ref mq, .int x1, .int x2]) ∧ v = none) := by
  refine gCon_of (by decide) (Nat.le_of_ble_eq_true rfl) ?_
  show gJ _ _ _ _ _ _ 0 [(0, _), (1, _), (2, _), (3, _)] [] _
  refine gJ_aload_n dX8_init_0 rfl rfl ?_
  refine gJ_callIN (As := []) b_X1_init lX8_1 i_X1_init rfl rfl dX8_init_1 (c1_init) rfl (Nat.le_of_ble_eq_true rfl) rfl (by decide) (fun M1 v_ h1 => ?_)
  obtain ⟨e1, rfl⟩ := h1
  replace e1 := e1.symm
  subst e1
  refine gJ_aload_n dX8_init_4 rfl rfl ?_
  refine gJ_aload_n dX8_init_5 rfl rfl ?_
  refine gJ_putF fX8_7 rfl rfl dX8_init_6 (by first | with_reducible assumption | with_reducible exact gUp_s | with_reducible exact gUp_n (by with_reducible assumption) (by omega) | exact gUp_n (by assumption) (by omega) | exact gUp_s | assumption) rfl rfl (Nat.le_of_ble_eq_true rfl) ?_
  refine gJ_aload_n dX8_init_9 rfl rfl ?_
  refine gJ_iload_n dX8_init_10 rfl rfl ?_
  refine gJ_putF fX8_13 rfl rfl dX8_init_11 (by first | with_reducible assumption | with_reducible exact gUp_s | with_reducible exact gUp_n (by with_reducible assumption) (by omega) | exact gUp_n (by assumption) (by omega) | exact gUp_s | assumption) rfl rfl (Nat.le_of_ble_eq_true rfl) ?_
  refine gJ_aload_n dX8_init_14 rfl rfl ?_
  refine gJ_iload_n dX8_init_15 rfl rfl ?_
  refine gJ_putF fX8_17 rfl rfl dX8_init_16 (by first | with_reducible assumption | with_reducible exact gUp_s | with_reducible exact gUp_n (by with_reducible assumption) (by omega) | exact gUp_n (by assumption) (by omega) | exact gUp_s | assumption) rfl rfl (Nat.le_of_ble_eq_true rfl) ?_
  refine gJ_vret dX8_init_19 rfl ?_
  refine ⟨?_, rfl⟩
  rw [gUp_up, gUp_up]
  rfl
theorem c3_init {mq nq : Nat} {a0 a1 : Value} {a2 x2 : Int32} (hm : M.1 q = some (gO 2 [a0, a1, .int a2])) : gCon G kX3_init 2 0 0 M [.ref q, .ref mq, .ref nq, .int x2] (fun M2 v => M2 = gUp M q (gO 2 [.ref mq, .ref nq, .int x2]) ∧ v = none) := by
  refine gCon_of (by decide) (Nat.le_of_ble_eq_true rfl) ?_
  show gJ _ _ _ _ _ _ 0 [(0, _), (1, _), (2, _), (3, _)] [] _
  refine gJ_aload_n dX3_init_0 rfl rfl ?_
  refine gJ_callIN (As := []) b_X1_init lX3_1 i_X1_init rfl rfl dX3_init_1 (c1_init) rfl (Nat.le_of_ble_eq_true rfl) rfl (by decide) (fun M1 v_ h1 => ?_)
  obtain ⟨e1, rfl⟩ := h1
  replace e1 := e1.symm
  subst e1
  refine gJ_aload_n dX3_init_4 rfl rfl ?_
  refine gJ_aload_n dX3_init_5 rfl rfl ?_
  refine gJ_putF fX3_7 rfl rfl dX3_init_6 (by first | with_reducible assumption | with_reducible exact gUp_s | with_reducible exact gUp_n (by with_reducible assumption) (by omega) | exact gUp_n (by assumption) (by omega) | exact gUp_s | assumption) rfl rfl (Nat.le_of_ble_eq_true rfl) ?_
  refine gJ_aload_n dX3_init_9 rfl rfl ?_
  refine gJ_aload_n dX3_init_10 rfl rfl ?_
  refine gJ_putF fX3_13 rfl rfl dX3_init_11 (by first | with_reducible assumption | with_reducible exact gUp_s | with_reducible exact gUp_n (by with_reducible assumption) (by omega) | exact gUp_n (by assumption) (by omega) | exact gUp_s | assumption) rfl rfl (Nat.le_of_ble_eq_true rfl) ?_
  refine gJ_aload_n dX3_init_14 rfl rfl ?_
  refine gJ_iload_n dX3_init_15 rfl rfl ?_
  refine gJ_putF fX3_16 rfl rfl dX3_init_16 (by first | with_reducible assumption | with_reducible exact gUp_s | with_reducible exact gUp_n (by with_reducible assumption) (by omega) | exact gUp_n (by assumption) (by omega) | exact gUp_s | assumption) rfl rfl (Nat.le_of_ble_eq_true rfl) ?_
  refine gJ_vret dX3_init_19 rfl ?_
  refine ⟨?_, rfl⟩
  rw [gUp_up, gUp_up]
  rfl
theorem c10_startsRuleSign (ht : t ≤ 60) (hs : s.1 ≤ t) (hm : M.1 p = some (cTp p t s)) (hT : M.1 (p + 1) = some (gI 60 T)) : gCon G kX10_startsRuleSign 1 0 0 M [.ref p] (fun M2 v => M2 = M ∧ v = some (.int (gb (decide (zH T t s = 60 ∨ zH T t s = 62 ∨ zH T t s = 61))))) := by
  refine gCon_of (by decide) (Nat.le_of_ble_eq_true rfl) ?_
  show gJ _ _ _ _ _ _ 0 [(0, _)] [] _
  refine gJ_aload_n dX10_startsRuleSign_0 rfl rfl ?_
  refine gJ_callV (As := []) b_X10_peek lX10_37 i_X10_peek s_X10_peek dX10_startsRuleSign_1 (c10_peek ht hs hm hT) (by first | with_reducible assumption | with_reducible exact gUp_s | with_reducible exact gUp_n (by with_reducible assumption) (by omega) | exact gUp_n (by assumption) (by omega) | exact gUp_s | assumption) rfl rfl (Nat.le_of_ble_eq_true rfl) rfl (by decide) (fun M1 v_ h1 => ?_)
  obtain ⟨e1, rfl⟩ := h1
  replace e1 := e1.symm
  subst e1
  refine gJ_istore_n (lv2 := [(1, _), (0, _)]) dX10_startsRuleSign_4 rfl rfl rfl ?_
  refine gJ_iload_n dX10_startsRuleSign_5 rfl rfl ?_
  refine gJ_bipush (v := 60) dX10_startsRuleSign_6 (by decide) ?_
  refine gJ_icmp_eq (tgt := 23) dX10_startsRuleSign_8 (by decide) (fun c8 => ?_) (fun c8 => ?_)
  · refine gJ_iconst (v := 1) dX10_startsRuleSign_23 (by decide) ?_
    refine gJ_goto (tgt := 28) dX10_startsRuleSign_24 (by decide) ?_
    refine gJ_zret dX10_startsRuleSign_28 rfl (by first | exact gz0 | exact gz1 | exact gb01 _) ?_
    refine ⟨rfl, ?_⟩
    rw [decide_eq_true (Or.inl c8)]
    rfl
  · refine gJ_iload_n dX10_startsRuleSign_11 rfl rfl ?_
    refine gJ_bipush (v := 62) dX10_startsRuleSign_12 (by decide) ?_
    refine gJ_icmp_eq (tgt := 23) dX10_startsRuleSign_14 (by decide) (fun c14 => ?_) (fun c14 => ?_)
    · refine gJ_iconst (v := 1) dX10_startsRuleSign_23 (by decide) ?_
      refine gJ_goto (tgt := 28) dX10_startsRuleSign_24 (by decide) ?_
      refine gJ_zret dX10_startsRuleSign_28 rfl (by first | exact gz0 | exact gz1 | exact gb01 _) ?_
      refine ⟨rfl, ?_⟩
      rw [decide_eq_true (Or.inr (Or.inl c14))]
      rfl
    · refine gJ_iload_n dX10_startsRuleSign_17 rfl rfl ?_
      refine gJ_bipush (v := 61) dX10_startsRuleSign_18 (by decide) ?_
      refine gJ_icmp_ne (tgt := 27) dX10_startsRuleSign_20 (by decide) (fun c20 => ?_) (fun c20 => ?_)
      · refine gJ_iconst (v := 0) dX10_startsRuleSign_27 (by decide) ?_
        refine gJ_zret dX10_startsRuleSign_28 rfl (by first | exact gz0 | exact gz1 | exact gb01 _) ?_
        refine ⟨rfl, ?_⟩
        rw [decide_eq_false (fun h => h.elim c8 (fun h => h.elim c14 c20))]
        rfl
      · refine gJ_iconst (v := 1) dX10_startsRuleSign_23 (by decide) ?_
        refine gJ_goto (tgt := 28) dX10_startsRuleSign_24 (by decide) ?_
        refine gJ_zret dX10_startsRuleSign_28 rfl (by first | exact gz0 | exact gz1 | exact gb01 _) ?_
        refine ⟨rfl, ?_⟩
        rw [decide_eq_true (Or.inr (Or.inr c20))]
        rfl
theorem c10_readMatchersAhead (ht : t ≤ 60) (hB : zB T) (hs : s.1 ≤ t) (hm : M.1 p = some (cTp p t s)) (hT : M.1 (p + 1) = some (gI 60 T)) : gCon G kX10_readMatchersAhead 4 3 11 M [.ref p] (fun M2 v => v = some (.ref M.2) ∧ cTf M M2 p M.2 ∧ p + 1 < M.2 ∧ M2.2 = M.2 + 3 ∧ M2.1 p = some (cTp p t (zEx T t 58 (zMs T t false s).2.2)) ∧ cMr M2 M.2 (zMs T t false s)) := by
  have hC := c10_readMatchers (G := G) ht hB hs hm hT true
  have hle := (zMs_ok (T := T) (sev := false) hs).1.1
  refine gCon_of (by decide) (Nat.le_of_ble_eq_true rfl) ?_
  show gJ _ _ _ _ _ _ 0 [(0, _)] [] _
  refine gJ_aload_n dX10_readMatchersAhead_0 rfl rfl ?_
  refine gJ_iconst (v := 1) dX10_readMatchersAhead_1 (by decide) ?_
  refine gJ_callV (As := [_]) b_X10_readMatchers lX10_67 i_X10_readMatchers s_X10_readMatchers dX10_readMatchersAhead_2 (hC) (by first | with_reducible assumption | with_reducible exact gUp_s | with_reducible exact gUp_n (by with_reducible assumption) (by omega) | exact gUp_n (by assumption) (by omega) | exact gUp_s | assumption) rfl rfl (Nat.le_of_ble_eq_true rfl) rfl (by decide) (fun M2 v_ h2 => ?_)
  obtain ⟨rfl, hf, hpq, h22, hp2, hmr⟩ := h2
  have hT2 := (hf.2 _ hpq (by omega)).trans hT
  refine gJ_astore_n (lv2 := [(1, _), (0, _)]) dX10_readMatchersAhead_5 rfl rfl rfl ?_
  refine gJ_aload_n dX10_readMatchersAhead_6 rfl rfl ?_
  refine gJ_bipush (v := 58) dX10_readMatchersAhead_7 (by decide) ?_
  refine gJ_callV (As := [_]) b_X10_expect lX10_48 i_X10_expect s_X10_expect dX10_readMatchersAhead_9 (c10_expect ht hle hp2 hT2 58) (by first | with_reducible assumption | with_reducible exact gUp_s | with_reducible exact gUp_n (by with_reducible assumption) (by omega) | exact gUp_n (by assumption) (by omega) | exact gUp_s | assumption) rfl rfl (Nat.le_of_ble_eq_true rfl) rfl (by decide) (fun M9 v_ h9 => ?_)
  obtain ⟨e9, rfl⟩ := h9
  replace e9 := e9.symm
  subst e9
  refine gJ_aload_n dX10_readMatchersAhead_12 rfl rfl ?_
  refine gJ_aret dX10_readMatchersAhead_13 rfl (Or.inl ⟨_, rfl⟩) ?_
  obtain ⟨n, L, Z, hn, hq, hq1, hq2, hok⟩ := hmr
  exact ⟨rfl, ⟨hf.1, fun x hx hxp => (gUp_n rfl hxp).trans (hf.2 x hx hxp)⟩, hpq, h22, gUp_s, n, L, Z, hn, gUp_n hq (by omega), gUp_n hq1 (by omega), gUp_n hq2 (by omega), hok⟩
end TAPE
