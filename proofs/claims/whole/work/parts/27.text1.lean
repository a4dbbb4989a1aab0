/-! THE TEXTS: what both parsers read, as functions of the tape T, its length t and the state (place, whether wrong) -/
abbrev zP : Type := Nat × Bool
def zB (T : Nat → Int32) : Prop := ∀ i, ∃ b, b ≤ 127 ∧ T i = nI b
def zH (T : Nat → Int32) (t : Nat) (s : zP) : Int32 := if s.2 = false ∧ s.1 < t then T s.1 else -1
def zN (T : Nat → Int32) (t : Nat) (s : zP) : Nat := (zH T t s).toNatClampNeg
def zEx (T : Nat → Int32) (t : Nat) (c : Int32) (s : zP) : zP := if zH T t s = c then (s.1 + 1, s.2) else (s.1, true)
def zDg (T : Nat → Int32) (t m : Nat) (s : zP) : Nat × zP := if 48 ≤ zN T t s ∧ zN T t s ≤ 48 + m then (zN T t s - 48, (s.1 + 1, s.2)) else (0, (s.1, true))
def zNmL (T : Nat → Int32) (t : Nat) : Nat → Nat × zP → Nat × zP
  | 0, r => r
  | k + 1, r => if r.1 ≠ 0 ∧ 48 ≤ zN T t r.2 ∧ zN T t r.2 ≤ 57 then zNmL T t k (10 * r.1 + (zDg T t 9 r.2).1, (zDg T t 9 r.2).2) else r
def zNm (T : Nat → Int32) (t : Nat) (s : zP) : Nat × zP := zNmL T t 3 (zDg T t 9 s)
theorem zH_w {T : Nat → Int32} {t a : Nat} : zH T t (a, true) = -1 := if_neg (fun h => by cases h.1)
theorem zN_w {T : Nat → Int32} {t a : Nat} : zN T t (a, true) = 0 := by rw [zN, zH_w]; decide
theorem zH_v {T : Nat → Int32} {t : Nat} {s : zP} (hT : zB T) : zH T t s = -1 ∨ ∃ b, b ≤ 127 ∧ zH T t s = nI b := by
  unfold zH
  split
  · exact Or.inr (hT _)
  · exact Or.inl rfl
theorem zH_lt {T : Nat → Int32} {t : Nat} {s : zP} (h : ¬ zH T t s = -1) : s.1 < t ∧ s.2 = false := by
  unfold zH at h
  split at h
  · exact ⟨(‹_ ∧ _›).2, (‹_ ∧ _›).1⟩
  · exact absurd rfl h
theorem zN_lt {T : Nat → Int32} {t : Nat} {s : zP} (h : ¬ zN T t s = 0) : s.1 < t ∧ s.2 = false := zH_lt (fun e => h (by rw [zN, e]; decide))
theorem zEx_w {T : Nat → Int32} {t a : Nat} {c : Int32} (hc : c ≠ -1) : zEx T t c (a, true) = (a, true) := if_neg (by rw [zH_w]; exact fun h => hc h.symm)
theorem zDg_w {T : Nat → Int32} {t a m : Nat} : zDg T t m (a, true) = (0, (a, true)) := if_neg (by rw [zN_w]; omega)
theorem zNm_w {T : Nat → Int32} {t a : Nat} : zNm T t (a, true) = (0, (a, true)) := by
  rw [zNm, zDg_w, zNmL, if_neg (fun h => h.1 rfl)]
theorem zEx_le {T : Nat → Int32} {t : Nat} {c : Int32} {s : zP} (hc : c ≠ -1) (h : s.1 ≤ t) : (zEx T t c s).1 ≤ t := by
  unfold zEx
  split
  · exact (zH_lt (by rw [‹zH T t s = c›]; exact hc)).1
  · exact h
theorem zDg_le {T : Nat → Int32} {t m : Nat} {s : zP} (h : s.1 ≤ t) : (zDg T t m s).2.1 ≤ t := by
  unfold zDg
  split
  · have h2 : 48 ≤ zN T t s ∧ zN T t s ≤ 48 + m := by assumption
    exact (zN_lt (T := T) (t := t) (s := s) (by omega)).1
  · exact h
theorem zDg_m {T : Nat → Int32} {t m : Nat} {s : zP} : (zDg T t m s).1 ≤ m := by
  unfold zDg
  split
  · have := (‹_ ∧ _› : 48 ≤ zN T t s ∧ zN T t s ≤ 48 + m)
    show zN T t s - 48 ≤ m
    omega
  · exact Nat.zero_le _
theorem zNmL_le {T : Nat → Int32} {t : Nat} : ∀ (k : Nat) (r : Nat × zP), r.2.1 ≤ t → (zNmL T t k r).2.1 ≤ t
  | 0, _, h => h
  | k + 1, r, h => by
    rw [zNmL]
    split
    · exact zNmL_le k _ (zDg_le h)
    · exact h
theorem zNm_le {T : Nat → Int32} {t : Nat} {s : zP} (h : s.1 ≤ t) : (zNm T t s).2.1 ≤ t := zNmL_le 3 _ (zDg_le h)
theorem zNmL_m {T : Nat → Int32} {t : Nat} : ∀ (k : Nat) (r : Nat × zP), (zNmL T t k r).1 < (r.1 + 1) * 10 ^ k
  | 0, r => by rw [zNmL]; omega
  | k + 1, r => by
    rw [zNmL]
    split
    · have h := zNmL_m (T := T) (t := t) k (10 * r.1 + (zDg T t 9 r.2).1, (zDg T t 9 r.2).2)
      have h2 := zDg_m (T := T) (t := t) (m := 9) (s := r.2)
      have h3 : (10 * r.1 + (zDg T t 9 r.2).1 + 1) * 10 ^ k ≤ (10 * (r.1 + 1)) * 10 ^ k := Nat.mul_le_mul_right _ (by omega)
      have h4 : (10 * (r.1 + 1)) * 10 ^ k = (r.1 + 1) * 10 ^ (k + 1) := by rw [Nat.pow_succ, Nat.mul_comm 10 (r.1 + 1), Nat.mul_assoc, Nat.mul_comm 10]
      have h5 : (zNmL T t k (10 * r.1 + (zDg T t 9 r.2).1, (zDg T t 9 r.2).2)).1 < (10 * r.1 + (zDg T t 9 r.2).1 + 1) * 10 ^ k := h
      omega
    · have : 1 ≤ 10 ^ (k + 1) := Nat.one_le_pow _ _ (by decide)
      have h2 : (r.1 + 1) * 1 ≤ (r.1 + 1) * 10 ^ (k + 1) := Nat.mul_le_mul_left _ this
      omega
theorem zNm_m {T : Nat → Int32} {t : Nat} {s : zP} : (zNm T t s).1 < 10000 := by
  have h := zNmL_m (T := T) (t := t) 3 (zDg T t 9 s)
  have h2 := zDg_m (T := T) (t := t) (m := 9) (s := s)
  unfold zNm
  omega
theorem sub48 : ∀ b, b ≤ 127 → ∀ m, m ≤ 9 → (mIn (nI b - 48) 0 (nI m) = decide (48 ≤ b ∧ b ≤ 48 + m)) := by decide +kernel
theorem sub48w : ∀ m, m ≤ 9 → mIn (-1 - 48) 0 (nI m) = false := by decide +kernel
theorem zDg_in {T : Nat → Int32} {t m : Nat} {s : zP} (hT : zB T) (hm : m ≤ 9) : mIn (zH T t s - 48) 0 (nI m) = decide (48 ≤ zN T t s ∧ zN T t s ≤ 48 + m) := by
  rcases zH_v (t := t) (s := s) hT with h | ⟨b, hb, h⟩
  · rw [zN, h, sub48w m hm]
    rw [show Int32.toNatClampNeg (-1) = 0 from by decide]
    exact (decide_eq_false (by omega)).symm
  · rw [zN, h, sub48 b hb m hm, nI_clamp (by omega)]
theorem zDg_v {T : Nat → Int32} {t : Nat} {s : zP} (hT : zB T) (h : 48 ≤ zN T t s) : zH T t s - 48 = nI (zN T t s - 48) := by
  rcases zH_v (t := t) (s := s) hT with h1 | ⟨b, hb, h1⟩
  · rw [zN, h1, show Int32.toNatClampNeg (-1) = 0 from by decide] at h
    omega
  · rw [zN, h1, nI_clamp (by omega)] at h ⊢
    exact pk_sub (b := 48) h
theorem zIn57 {T : Nat → Int32} {t : Nat} {s : zP} (hT : zB T) : (decide ((48 : Int32) ≤ zH T t s) && decide (zH T t s ≤ 57)) = decide (48 ≤ zN T t s ∧ zN T t s ≤ 57) := by
  rcases zH_v (t := t) (s := s) hT with h | ⟨b, hb, h⟩
  · rw [zN, h]; decide
  · rw [zN, h, nI_clamp (by omega)]
    have e1 : ((48 : Int32) ≤ nI b) ↔ 48 ≤ b := nI_leI (a := 48) (by decide) (by omega)
    have e2 : (nI b ≤ (57 : Int32)) ↔ b ≤ 57 := nI_leI (b := 57) (by omega) (by decide)
    by_cases h1 : 48 ≤ b <;> by_cases h2 : b ≤ 57 <;> simp [e1, e2, h1, h2]
section MODEL
variable {G : gG} {M : gM} {m : Nat} {hi : Int32} {T : Nat → Int32} {t : Nat}
theorem c12_here (ht : t ≤ 60) (hT : M.1 (m + 7) = some (gI 60 T)) (a : Nat) (ha : a ≤ 60) (fa : Int32) (hm : M.1 m = some (mO m hi (nI t) (nI a) fa)) : gCon G kX12_here 0 0 0 M [.ref m] (fun M2 v => M2 = M ∧ v = some (.int (zH T t (a, false)))) := by
  refine gCon_of (by decide) (Nat.le_of_ble_eq_true rfl) ?_
  show gJ _ _ _ _ _ _ 0 [(0, _)] [] _
  refine gJ_aload_n dX12_here_0 rfl rfl ?_
  refine gJ_get fX12_43 dX12_here_1 (by first | with_reducible assumption | with_reducible exact gUp_s | with_reducible exact gUp_n (by with_reducible assumption) (by omega) | exact gUp_n (by assumption) (by omega) | exact gUp_s | assumption) rfl ?_
  refine gJ_aload_n dX12_here_4 rfl rfl ?_
  refine gJ_get fX12_39 dX12_here_5 (by first | with_reducible assumption | with_reducible exact gUp_s | with_reducible exact gUp_n (by with_reducible assumption) (by omega) | exact gUp_n (by assumption) (by omega) | exact gUp_s | assumption) rfl ?_
  refine gJ_icmp_geN (tgt := 23) (a := a) (b := t) (by first | with_reducible rfl | rfl) (by first | with_reducible rfl | rfl) (by omega) (by omega) dX12_here_8 (by decide) (fun c8 => ?_) (fun c8 => ?_)
  · refine gJ_iconst (v := -1) dX12_here_23 (by decide) ?_
    refine gJ_iret dX12_here_24 rfl ?_
    refine ⟨rfl, ?_⟩
    rw [zH, if_neg (fun h => absurd h.2 (by omega))]
  · refine gJ_aload_n dX12_here_11 rfl rfl ?_
    refine gJ_get fX12_29 dX12_here_12 (by first | with_reducible assumption | with_reducible exact gUp_s | with_reducible exact gUp_n (by with_reducible assumption) (by omega) | exact gUp_n (by assumption) (by omega) | exact gUp_s | assumption) rfl ?_
    refine gJ_aload_n dX12_here_15 rfl rfl ?_
    refine gJ_get fX12_43 dX12_here_16 (by first | with_reducible assumption | with_reducible exact gUp_s | with_reducible exact gUp_n (by with_reducible assumption) (by omega) | exact gUp_n (by assumption) (by omega) | exact gUp_s | assumption) rfl ?_
    refine gJ_ialdN (j := a) dX12_here_19 (by first | with_reducible assumption | with_reducible exact gUp_s | with_reducible exact gUp_n (by with_reducible assumption) (by omega) | exact gUp_n (by assumption) (by omega) | exact gUp_s | assumption) (by first | with_reducible rfl | rfl) (by omega) (by decide) ?_
    refine gJ_goto (tgt := 24) dX12_here_20 (by decide) ?_
    refine gJ_iret dX12_here_24 rfl ?_
    refine ⟨rfl, ?_⟩
    rw [zH, if_pos ⟨rfl, by omega⟩]
theorem c12_sign (ht : t ≤ 60) (hT : M.1 (m + 7) = some (gI 60 T)) (a : Nat) (ha : a ≤ 60) (hm : M.1 m = some (mO m hi (nI t) (nI a) 0)) (c : Int32) : gCon G kX12_sign 1 0 0 M [.ref m, .int c] (fun M2 v => M2 = gUp M m (mO m hi (nI t) (nI (zEx T t c (a, false)).1) (gb (zEx T t c (a, false)).2)) ∧ v = none) := by
  refine gCon_of (by decide) (Nat.le_of_ble_eq_true rfl) ?_
  show gJ _ _ _ _ _ _ 0 [(0, _), (1, _)] [] _
  refine gJ_aload_n dX12_sign_0 rfl rfl ?_
  refine gJ_dup dX12_sign_1 rfl ?_
  refine gJ_get fX12_46 dX12_sign_2 (by first | with_reducible assumption | with_reducible exact gUp_s | with_reducible exact gUp_n (by with_reducible assumption) (by omega) | exact gUp_n (by assumption) (by omega) | exact gUp_s | assumption) rfl ?_
  refine gJ_aload_n dX12_sign_5 rfl rfl ?_
  refine gJ_callV (As := []) b_X12_here lX12_50 i_X12_here s_X12_here dX12_sign_6 (c12_here ht hT a ha 0 hm) (by first | with_reducible assumption | with_reducible exact gUp_s | with_reducible exact gUp_n (by with_reducible assumption) (by omega) | exact gUp_n (by assumption) (by omega) | exact gUp_s | assumption) rfl rfl (Nat.le_of_ble_eq_true rfl) rfl (by decide) (fun M6 v_ h6 => ?_)
  obtain ⟨e6, rfl⟩ := h6
  replace e6 := e6.symm
  subst e6
  refine gJ_iload_n dX12_sign_9 rfl rfl ?_
  refine gJ_icmp_eq (tgt := 17) dX12_sign_10 (by decide) (fun c10 => ?_) (fun c10 => ?_)
  · refine gJ_iconst (v := 0) dX12_sign_17 (by decide) ?_
    refine gJ_ior dX12_sign_18 ?_
    rw [show (0 : Int32) ||| 0 = gb false from by decide]
    refine gJ_put fX12_46 dX12_sign_19 (by first | with_reducible assumption | with_reducible exact gUp_s | with_reducible exact gUp_n (by with_reducible assumption) (by omega) | exact gUp_n (by assumption) (by omega) | exact gUp_s | assumption) (by rcases (gb01 _) with h_ | h_ <;> rw [h_] <;> rfl) rfl (Nat.le_of_ble_eq_true rfl) ?_
    refine gJ_aload_n dX12_sign_22 rfl rfl ?_
    refine gJ_dup dX12_sign_23 rfl ?_
    refine gJ_get fX12_43 dX12_sign_24 (by first | with_reducible assumption | with_reducible exact gUp_s | with_reducible exact gUp_n (by with_reducible assumption) (by omega) | exact gUp_n (by assumption) (by omega) | exact gUp_s | assumption) rfl ?_
    refine gJ_aload_n dX12_sign_27 rfl rfl ?_
    refine gJ_get fX12_46 dX12_sign_28 (by first | with_reducible assumption | with_reducible exact gUp_s | with_reducible exact gUp_n (by with_reducible assumption) (by omega) | exact gUp_n (by assumption) (by omega) | exact gUp_s | assumption) rfl ?_
    refine gJ_if_eqB (tgt := 38) dX12_sign_31 (by decide) (fun _ => ?_) (fun c_ => by exfalso; cases c_)
    refine gJ_iconst (v := 1) dX12_sign_38 (by decide) ?_
    refine gJ_iaddN (a := a) (b := 1) dX12_sign_39 (by first | with_reducible rfl | rfl) (by first | with_reducible rfl | rfl) ?_
    refine gJ_put fX12_43 dX12_sign_40 (by first | with_reducible assumption | with_reducible exact gUp_s | with_reducible exact gUp_n (by with_reducible assumption) (by omega) | exact gUp_n (by assumption) (by omega) | exact gUp_s | assumption) rfl rfl (Nat.le_of_ble_eq_true rfl) ?_
    refine gJ_vret dX12_sign_43 rfl ?_
    refine ⟨?_, rfl⟩
    rw [zEx, if_pos c10, gUp_up]
    rfl
  · refine gJ_iconst (v := 1) dX12_sign_13 (by decide) ?_
    refine gJ_goto (tgt := 18) dX12_sign_14 (by decide) ?_
    refine gJ_ior dX12_sign_18 ?_
    rw [show (0 : Int32) ||| 1 = gb true from by decide]
    refine gJ_put fX12_46 dX12_sign_19 (by first | with_reducible assumption | with_reducible exact gUp_s | with_reducible exact gUp_n (by with_reducible assumption) (by omega) | exact gUp_n (by assumption) (by omega) | exact gUp_s | assumption) (by rcases (gb01 _) with h_ | h_ <;> rw [h_] <;> rfl) rfl (Nat.le_of_ble_eq_true rfl) ?_
    refine gJ_aload_n dX12_sign_22 rfl rfl ?_
    refine gJ_dup dX12_sign_23 rfl ?_
    refine gJ_get fX12_43 dX12_sign_24 (by first | with_reducible assumption | with_reducible exact gUp_s | with_reducible exact gUp_n (by with_reducible assumption) (by omega) | exact gUp_n (by assumption) (by omega) | exact gUp_s | assumption) rfl ?_
    refine gJ_aload_n dX12_sign_27 rfl rfl ?_
    refine gJ_get fX12_46 dX12_sign_28 (by first | with_reducible assumption | with_reducible exact gUp_s | with_reducible exact gUp_n (by with_reducible assumption) (by omega) | exact gUp_n (by assumption) (by omega) | exact gUp_s | assumption) rfl ?_
    refine gJ_if_eqB (tgt := 38) dX12_sign_31 (by decide) (fun c_ => by exfalso; cases c_) (fun _ => ?_)
    refine gJ_iconst (v := 0) dX12_sign_34 (by decide) ?_
    refine gJ_goto (tgt := 39) dX12_sign_35 (by decide) ?_
    refine gJ_iaddN (a := a) (b := 0) dX12_sign_39 (by first | with_reducible rfl | rfl) (by first | with_reducible rfl | rfl) ?_
    refine gJ_put fX12_43 dX12_sign_40 (by first | with_reducible assumption | with_reducible exact gUp_s | with_reducible exact gUp_n (by with_reducible assumption) (by omega) | exact gUp_n (by assumption) (by omega) | exact gUp_s | assumption) rfl rfl (Nat.le_of_ble_eq_true rfl) ?_
    refine gJ_vret dX12_sign_43 rfl ?_
    refine ⟨?_, rfl⟩
    rw [zEx, if_neg c10, gUp_up]
    rfl
theorem c12_digit (ht : t ≤ 60) (hB : zB T) (hT : M.1 (m + 7) = some (gI 60 T)) (a : Nat) (ha : a ≤ 60) (hm : M.1 m = some (mO m hi (nI t) (nI a) 0)) (mo : Nat) (hmo : mo ≤ 9) : gCon G kX12_digit 1 0 0 M [.ref m, .int (nI mo)] (fun M2 v => M2 = gUp M m (mO m hi (nI t) (nI (zDg T t mo (a, false)).2.1) (gb (zDg T t mo (a, false)).2.2)) ∧ v = some (.int (nI (zDg T t mo (a, false)).1))) := by
  have hin := zDg_in (t := t) (s := (a, false)) hB hmo
  refine gCon_of (by decide) (Nat.le_of_ble_eq_true rfl) ?_
  show gJ _ _ _ _ _ _ 0 [(0, _), (1, _)] [] _
  refine gJ_aload_n dX12_digit_0 rfl rfl ?_
  refine gJ_callV (As := []) b_X12_here lX12_50 i_X12_here s_X12_here dX12_digit_1 (c12_here ht hT a ha 0 hm) (by first | with_reducible assumption | with_reducible exact gUp_s | with_reducible exact gUp_n (by with_reducible assumption) (by omega) | exact gUp_n (by assumption) (by omega) | exact gUp_s | assumption) rfl rfl (Nat.le_of_ble_eq_true rfl) rfl (by decide) (fun M1 v_ h1 => ?_)
  obtain ⟨e1, rfl⟩ := h1
  replace e1 := e1.symm
  subst e1
  refine gJ_bipush (v := 48) dX12_digit_4 (by decide) ?_
  refine gJ_isub dX12_digit_6 ?_
  refine gJ_istore_n (lv2 := [(2, _), (0, _), (1, _)]) dX12_digit_7 rfl rfl rfl ?_
  refine gJ_aload_n dX12_digit_8 rfl rfl ?_
  refine gJ_dup dX12_digit_9 rfl ?_
  refine gJ_get fX12_46 dX12_digit_10 (by first | with_reducible assumption | with_reducible exact gUp_s | with_reducible exact gUp_n (by with_reducible assumption) (by omega) | exact gUp_n (by assumption) (by omega) | exact gUp_s | assumption) rfl ?_
  refine gJ_iload_n dX12_digit_13 rfl rfl ?_
  refine gJ_iconst (v := 0) dX12_digit_14 (by decide) ?_
  refine gJ_iload_n dX12_digit_15 rfl rfl ?_
  refine gJ_callS (As := [_, _, _]) b_X12_isIn lX12_35 i_X12_isIn dX12_digit_16 (c12_isIn _ _ _) rfl (Nat.le_of_ble_eq_true rfl) rfl (by decide) (fun M16 v_ h16 => ?_)
  obtain ⟨e16, rfl⟩ := h16
  replace e16 := e16.symm
  subst e16
  refine gJ_if_neB (tgt := 26) dX12_digit_19 (by decide) (fun c19 => ?_) (fun c19 => ?_)
  · refine gJ_iconst (v := 0) dX12_digit_26 (by decide) ?_
    refine gJ_ior dX12_digit_27 ?_
    rw [show (0 : Int32) ||| 0 = gb false from by decide]
    refine gJ_put fX12_46 dX12_digit_28 (by first | with_reducible assumption | with_reducible exact gUp_s | with_reducible exact gUp_n (by with_reducible assumption) (by omega) | exact gUp_n (by assumption) (by omega) | exact gUp_s | assumption) (by rcases (gb01 _) with h_ | h_ <;> rw [h_] <;> rfl) rfl (Nat.le_of_ble_eq_true rfl) ?_
    refine gJ_aload_n dX12_digit_31 rfl rfl ?_
    refine gJ_dup dX12_digit_32 rfl ?_
    refine gJ_get fX12_43 dX12_digit_33 (by first | with_reducible assumption | with_reducible exact gUp_s | with_reducible exact gUp_n (by with_reducible assumption) (by omega) | exact gUp_n (by assumption) (by omega) | exact gUp_s | assumption) rfl ?_
    refine gJ_aload_n dX12_digit_36 rfl rfl ?_
    refine gJ_get fX12_46 dX12_digit_37 (by first | with_reducible assumption | with_reducible exact gUp_s | with_reducible exact gUp_n (by with_reducible assumption) (by omega) | exact gUp_n (by assumption) (by omega) | exact gUp_s | assumption) rfl ?_
    refine gJ_if_eqB (tgt := 47) dX12_digit_40 (by decide) (fun _ => ?_) (fun c_ => by exfalso; cases c_)
    refine gJ_iconst (v := 1) dX12_digit_47 (by decide) ?_
    refine gJ_iaddN (a := a) (b := 1) dX12_digit_48 (by first | with_reducible rfl | rfl) (by first | with_reducible rfl | rfl) ?_
    refine gJ_put fX12_43 dX12_digit_49 (by first | with_reducible assumption | with_reducible exact gUp_s | with_reducible exact gUp_n (by with_reducible assumption) (by omega) | exact gUp_n (by assumption) (by omega) | exact gUp_s | assumption) rfl rfl (Nat.le_of_ble_eq_true rfl) ?_
    refine gJ_aload_n dX12_digit_52 rfl rfl ?_
    refine gJ_get fX12_46 dX12_digit_53 (by first | with_reducible assumption | with_reducible exact gUp_s | with_reducible exact gUp_n (by with_reducible assumption) (by omega) | exact gUp_n (by assumption) (by omega) | exact gUp_s | assumption) rfl ?_
    refine gJ_if_eqB (tgt := 63) dX12_digit_56 (by decide) (fun _ => ?_) (fun c_ => by exfalso; cases c_)
    refine gJ_iload_n dX12_digit_63 rfl rfl ?_
    refine gJ_iret dX12_digit_64 rfl ?_
    have hc : 48 ≤ zN T t (a, false) ∧ zN T t (a, false) ≤ 48 + mo := by rw [mIn] at hin; rw [hin, decide_eq_true_eq] at c19; exact c19
    refine ⟨?_, ?_⟩
    · rw [zDg, if_pos hc, gUp_up]; rfl
    · rw [zDg, if_pos hc, zDg_v hB hc.1]
  · refine gJ_iconst (v := 1) dX12_digit_22 (by decide) ?_
    refine gJ_goto (tgt := 27) dX12_digit_23 (by decide) ?_
    refine gJ_ior dX12_digit_27 ?_
    rw [show (0 : Int32) ||| 1 = gb true from by decide]
    refine gJ_put fX12_46 dX12_digit_28 (by first | with_reducible assumption | with_reducible exact gUp_s | with_reducible exact gUp_n (by with_reducible assumption) (by omega) | exact gUp_n (by assumption) (by omega) | exact gUp_s | assumption) (by rcases (gb01 _) with h_ | h_ <;> rw [h_] <;> rfl) rfl (Nat.le_of_ble_eq_true rfl) ?_
    refine gJ_aload_n dX12_digit_31 rfl rfl ?_
    refine gJ_dup dX12_digit_32 rfl ?_
    refine gJ_get fX12_43 dX12_digit_33 (by first | with_reducible assumption | with_reducible exact gUp_s | with_reducible exact gUp_n (by with_reducible assumption) (by omega) | exact gUp_n (by assumption) (by omega) | exact gUp_s | assumption) rfl ?_
    refine gJ_aload_n dX12_digit_36 rfl rfl ?_
    refine gJ_get fX12_46 dX12_digit_37 (by first | with_reducible assumption | with_reducible exact gUp_s | with_reducible exact gUp_n (by with_reducible assumption) (by omega) | exact gUp_n (by assumption) (by omega) | exact gUp_s | assumption) rfl ?_
    refine gJ_if_eqB (tgt := 47) dX12_digit_40 (by decide) (fun c_ => by exfalso; cases c_) (fun _ => ?_)
    refine gJ_iconst (v := 0) dX12_digit_43 (by decide) ?_
    refine gJ_goto (tgt := 48) dX12_digit_44 (by decide) ?_
    refine gJ_iaddN (a := a) (b := 0) dX12_digit_48 (by first | with_reducible rfl | rfl) (by first | with_reducible rfl | rfl) ?_
    refine gJ_put fX12_43 dX12_digit_49 (by first | with_reducible assumption | with_reducible exact gUp_s | with_reducible exact gUp_n (by with_reducible assumption) (by omega) | exact gUp_n (by assumption) (by omega) | exact gUp_s | assumption) rfl rfl (Nat.le_of_ble_eq_true rfl) ?_
    refine gJ_aload_n dX12_digit_52 rfl rfl ?_
    refine gJ_get fX12_46 dX12_digit_53 (by first | with_reducible assumption | with_reducible exact gUp_s | with_reducible exact gUp_n (by with_reducible assumption) (by omega) | exact gUp_n (by assumption) (by omega) | exact gUp_s | assumption) rfl ?_
    refine gJ_if_eqB (tgt := 63) dX12_digit_56 (by decide) (fun c_ => by exfalso; cases c_) (fun _ => ?_)
    refine gJ_iconst (v := 0) dX12_digit_59 (by decide) ?_
    refine gJ_goto (tgt := 64) dX12_digit_60 (by decide) ?_
    refine gJ_iret dX12_digit_64 rfl ?_
    have hc : ¬ (48 ≤ zN T t (a, false) ∧ zN T t (a, false) ≤ 48 + mo) := by rw [mIn] at hin; rw [hin, decide_eq_false_iff_not] at c19; exact c19
    refine ⟨?_, ?_⟩
    · rw [zDg, if_neg hc, gUp_up]; rfl
    · rw [zDg, if_neg hc]; rfl
set_option maxRecDepth 20000 in
theorem c12_number (ht : t ≤ 60) (hB : zB T) (hT : M.1 (m + 7) = some (gI 60 T)) (a : Nat) (ha : a ≤ t) (hm : M.1 m = some (mO m hi (nI t) (nI a) 0)) : gCon G kX12_number 2 0 0 M [.ref m] (fun M2 v => M2 = gUp M m (mO m hi (nI t) (nI (zNm T t (a, false)).2.1) (gb (zNm T t (a, false)).2.2)) ∧ v = some (.int (nI (zNm T t (a, false)).1))) := by
  refine gCon_of (by decide) (Nat.le_of_ble_eq_true rfl) ?_
  have loop : ∀ (q j : Nat), j + q = 4 → 1 ≤ j → ∀ (n : Nat) (s : zP), s.1 ≤ t → n < 10 ^ j → (s.2 = true → n = 0) → zNmL T t q (n, s) = zNm T t (a, false) →
      gJ G kX12_number 2 0 0 (gUp M m (mO m hi (nI t) (nI s.1) (gb s.2))) 9 [(2, .int (nI j)), (1, .int (nI n)), (0, .ref m)] [] (gQ kX12_number (fun M2 v => M2 = gUp M m (mO m hi (nI t) (nI (zNm T t (a, false)).2.1) (gb (zNm T t (a, false)).2.2)) ∧ v = some (.int (nI (zNm T t (a, false)).1)))) := by
    intro q
    induction q with
    | zero =>
      intro j hj hj1 n s hs hn h0 hr
      rw [← hr]
      have hj4 : j = 4 := by omega
      subst hj4
      refine gJ_iload_n dX12_number_9 rfl rfl ?_
      refine gJ_iconst (v := 4) dX12_number_10 (by decide) ?_
      refine gJ_icmp_geN (tgt := 57) (a := 4) (b := 4) (by first | with_reducible rfl | rfl) (by first | with_reducible rfl | rfl) (by omega) (by omega) dX12_number_11 (by decide) (fun _ => ?_) (fun c_ => by exfalso; omega)
      refine gJ_iload_n dX12_number_57 rfl rfl ?_
      refine gJ_iret dX12_number_58 rfl ?_
      exact ⟨rfl, rfl⟩
    | succ q ih =>
      intro j hj hj1 n s hs hn h0 hr
      have hn2 : n < 10000 := Nat.lt_of_lt_of_le hn (Nat.pow_le_pow_right (n := 10) (by decide) (by omega : j ≤ 4))
      have hpow : 10 ^ (j + 1) = 10 * 10 ^ j := by rw [Nat.pow_succ, Nat.mul_comm]
      rw [zNmL] at hr
      obtain ⟨b, f⟩ := s
      dsimp only at hs h0 hr ⊢
      cases f with
      | true =>
        have hn0 := h0 rfl
        subst hn0
        rw [if_neg (fun h => h.1 rfl)] at hr
        rw [← hr]
        refine gJ_iload_n dX12_number_9 rfl rfl ?_
        refine gJ_iconst (v := 4) dX12_number_10 (by decide) ?_
        refine gJ_icmp_geN (tgt := 57) (a := j) (b := 4) (by first | with_reducible rfl | rfl) (by first | with_reducible rfl | rfl) (by omega) (by omega) dX12_number_11 (by decide) (fun c_ => by exfalso; omega) (fun _ => ?_)
        refine gJ_iload_n dX12_number_14 rfl rfl ?_
        refine gJ_if_leN (tgt := 57) (a := 0) (by first | with_reducible rfl | rfl) (by omega) dX12_number_15 (by decide) (fun _ => ?_) (fun c_ => by exfalso; omega)
        refine gJ_iload_n dX12_number_57 rfl rfl ?_
        refine gJ_iret dX12_number_58 rfl ?_
        exact ⟨rfl, rfl⟩
      | false =>
        have h57 := zIn57 (t := t) (s := (b, false)) hB
        refine gJ_iload_n dX12_number_9 rfl rfl ?_
        refine gJ_iconst (v := 4) dX12_number_10 (by decide) ?_
        refine gJ_icmp_geN (tgt := 57) (a := j) (b := 4) (by first | with_reducible rfl | rfl) (by first | with_reducible rfl | rfl) (by omega) (by omega) dX12_number_11 (by decide) (fun c_ => by exfalso; omega) (fun _ => ?_)
        refine gJ_iload_n dX12_number_14 rfl rfl ?_
        refine gJ_if_leN (tgt := 57) (a := n) (by first | with_reducible rfl | rfl) (by omega) dX12_number_15 (by decide) (fun c15 => ?_) (fun c15 => ?_)
        · refine gJ_iload_n dX12_number_57 rfl rfl ?_
          refine gJ_iret dX12_number_58 rfl ?_
          rw [if_neg (fun h => h.1 (by omega))] at hr
          rw [← hr]
          exact ⟨rfl, rfl⟩
        · refine gJ_aload_n dX12_number_18 rfl rfl ?_
          refine gJ_get fX12_46 dX12_number_19 (by first | with_reducible assumption | with_reducible exact gUp_s | with_reducible exact gUp_n (by with_reducible assumption) (by omega) | exact gUp_n (by assumption) (by omega) | exact gUp_s | assumption) rfl ?_
          refine gJ_if_neB (tgt := 57) dX12_number_22 (by decide) (fun c_ => by exfalso; cases c_) (fun _ => ?_)
          refine gJ_aload_n dX12_number_25 rfl rfl ?_
          refine gJ_callV (As := []) b_X12_here lX12_50 i_X12_here s_X12_here dX12_number_26 (c12_here ht (gUp_n hT (by omega)) b (by omega) _ gUp_s) (by first | with_reducible assumption | with_reducible exact gUp_s | with_reducible exact gUp_n (by with_reducible assumption) (by omega) | exact gUp_n (by assumption) (by omega) | exact gUp_s | assumption) rfl rfl (Nat.le_of_ble_eq_true rfl) rfl (by decide) (fun M26 v_ h26 => ?_)
          obtain ⟨e26, rfl⟩ := h26
          replace e26 := e26.symm
          subst e26
          refine gJ_bipush (v := 48) dX12_number_29 (by decide) ?_
          refine gJ_bipush (v := 57) dX12_number_31 (by decide) ?_
          refine gJ_callS (As := [_, _, _]) b_X12_isIn lX12_35 i_X12_isIn dX12_number_33 (c12_isIn _ _ _) rfl (Nat.le_of_ble_eq_true rfl) rfl (by decide) (fun M33 v_ h33 => ?_)
          obtain ⟨e33, rfl⟩ := h33
          replace e33 := e33.symm
          subst e33
          refine gJ_if_eqB (tgt := 57) dX12_number_36 (by decide) (fun c36 => ?_) (fun c36 => ?_)
          · refine gJ_iload_n dX12_number_57 rfl rfl ?_
            refine gJ_iret dX12_number_58 rfl ?_
            rw [h57, decide_eq_false_iff_not] at c36
            rw [if_neg (fun h => c36 h.2)] at hr
            rw [← hr]
            exact ⟨rfl, rfl⟩
          · refine gJ_bipush (v := 10) dX12_number_39 (by decide) ?_
            refine gJ_iload_n dX12_number_41 rfl rfl ?_
            refine gJ_imulN (a := 10) (b := n) dX12_number_42 (by first | with_reducible rfl | rfl) (by first | with_reducible rfl | rfl) ?_
            refine gJ_aload_n dX12_number_43 rfl rfl ?_
            refine gJ_bipush (v := 9) dX12_number_44 (by decide) ?_
            refine gJ_callV (As := [_]) b_X12_digit lX12_54 i_X12_digit s_X12_digit dX12_number_46 (c12_digit ht hB (gUp_n hT (by omega)) b (by omega) gUp_s 9 (by decide)) (by first | with_reducible assumption | with_reducible exact gUp_s | with_reducible exact gUp_n (by with_reducible assumption) (by omega) | exact gUp_n (by assumption) (by omega) | exact gUp_s | assumption) rfl rfl (Nat.le_of_ble_eq_true rfl) rfl (by decide) (fun M46 v_ h46 => ?_)
            obtain ⟨e46, rfl⟩ := h46
            replace e46 := e46.symm
            rw [gUp_up] at e46
            subst e46
            refine gJ_iaddN (a := (10 * n)) (b := (zDg T t 9 (b, false)).1) dX12_number_49 (by first | with_reducible rfl | rfl) (by first | with_reducible rfl | rfl) ?_
            refine gJ_istore_n (lv2 := [(1, _), (2, _), (0, _)]) dX12_number_50 rfl rfl rfl ?_
            refine gJ_iincN (a := j) (b := 1) (lv2 := [(2, _), (1, _), (0, _)]) dX12_number_51 rfl rfl rfl rfl ?_
            refine gJ_goto (tgt := 9) dX12_number_54 (by decide) ?_
            rw [h57, decide_eq_true_eq] at c36
            rw [if_pos ⟨by omega, c36⟩] at hr
            have hd := zDg_m (T := T) (t := t) (m := 9) (s := (b, false))
            refine gJ_ls (ih (j + 1) (by omega) (by omega) (10 * n + (zDg T t 9 (b, false)).1) (zDg T t 9 (b, false)).2 (zDg_le hs) (by omega) ?_ hr) ⟨rfl, rfl, rfl, trivial⟩
            intro hh
            rw [zDg, if_pos ⟨c36.1, c36.2⟩] at hh
            cases hh
  show gJ _ _ _ _ _ _ 0 [(0, _)] [] _
  refine gJ_aload_n dX12_number_0 rfl rfl ?_
  refine gJ_bipush (v := 9) dX12_number_1 (by decide) ?_
  refine gJ_callV (As := [_]) b_X12_digit lX12_54 i_X12_digit s_X12_digit dX12_number_3 (c12_digit ht hB hT a (by omega) hm 9 (by decide)) (by first | with_reducible assumption | with_reducible exact gUp_s | with_reducible exact gUp_n (by with_reducible assumption) (by omega) | exact gUp_n (by assumption) (by omega) | exact gUp_s | assumption) rfl rfl (Nat.le_of_ble_eq_true rfl) rfl (by decide) (fun M3 v_ h3 => ?_)
  obtain ⟨e3, rfl⟩ := h3
  replace e3 := e3.symm
  subst e3
  refine gJ_istore_n (lv2 := [(1, _), (0, _)]) dX12_number_6 rfl rfl rfl ?_
  refine gJ_iconst (v := 1) dX12_number_7 (by decide) ?_
  refine gJ_istore_n (lv2 := [(2, _), (1, _), (0, _)]) dX12_number_8 rfl rfl rfl ?_
  have hd := zDg_m (T := T) (t := t) (m := 9) (s := (a, false))
  refine gJ_ls (loop 3 1 (by omega) (by omega) (zDg T t 9 (a, false)).1 (zDg T t 9 (a, false)).2 (zDg_le ha) (by omega) ?_ rfl) ⟨rfl, rfl, rfl, trivial⟩
  intro hh
  unfold zDg at hh ⊢
  split at hh
  · cases hh
  · rw [if_neg (by assumption)]
end MODEL
