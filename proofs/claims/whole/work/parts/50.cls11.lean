/-! THE CLASS' LOG at p: rows p+1 -/
def cLg (p n : Nat) : gE := gO 3 [.ref (p + 1), .int (nI n)]
def cRL (N : Nat) (M : gM) (p : Nat) (V : Nat → Int32) : Prop := ∃ n L, n ≤ N ∧ V 1848 = nI n ∧ M.1 p = some (cLg p n) ∧ M.1 (p + 1) = some (gI 150 L) ∧ ∀ i, i < n → i < 30 → ∀ w, w < 5 → L ((n - 1 - i) % 30 * 5 + w) = V (1849 + 5 * i + w)
theorem cRL_fr {N : Nat} {M M2 : gM} {p b n : Nat} {V : Nat → Int32} (h : cRL N M p V) (hf : gFr M M2 b n) (hd : p + 2 ≤ b ∨ b + n ≤ p) : cRL N M2 p V := by
  obtain ⟨k, L, hk, hv, h0, h1, h2⟩ := h
  exact ⟨k, L, hk, hv, gFr_g hf h0 (by omega), gFr_g hf h1 (by omega), h2⟩
theorem cRL_V {N : Nat} {M : gM} {p : Nat} {V W : Nat → Int32} (h : cRL N M p V) (hW : ∀ i, 1848 ≤ i → i < 1999 → W i = V i) : cRL N M p W := by
  obtain ⟨k, L, hk, hv, h0, h1, h2⟩ := h
  exact ⟨k, L, hk, by rw [hW _ (by omega) (by omega)]; exact hv, h0, h1, fun i hi h30 w hw => by rw [hW _ (by omega) (by omega)]; exact h2 i hi h30 w hw⟩
section CLS
variable {G : gG} {M : gM} {p N : Nat} {V : Nat → Int32}
set_option maxHeartbeats 1000000 in
set_option maxRecDepth 20000 in
theorem c4_write (h : cRL N M p V) (hN : N < 2 ^ 30) (key kind : Nat) (x : Int64) (sv : Int32) (hsv : sv = if kind = 3 then -5 else mGr V x 60) : gCon G kX4_write 0 0 0 M [.ref p, .int (V 1847), .int (nI key), .int (nI kind), .int (nI (mSize x)), .int sv] (fun M2 v => gFr M M2 p 2 ∧ cRL (N + 1) M2 p (mSnd V key kind x) ∧ v = none) := by
  obtain ⟨n, L, hn, hv, h0, h1, h2⟩ := h
  refine gCon_of (by decide) (Nat.le_of_ble_eq_true rfl) ?_
  have fin : ∀ (M2 : gM) (L2 : Nat → Int32), gFr M M2 p 2 → M2.1 p = some (cLg p (n + 1)) → M2.1 (p + 1) = some (gI 150 L2) → (∀ i, L2 i = if i = n % 30 * 5 + 4 then sv else if i = n % 30 * 5 + 3 then nI (mSize x) else if i = n % 30 * 5 + 2 then nI kind else if i = n % 30 * 5 + 1 then nI key else if i = n % 30 * 5 then V 1847 else L i) → gFr M M2 p 2 ∧ cRL (N + 1) M2 p (mSnd V key kind x) ∧ (none : Option Value) = none := by
    intro M2 L2 hf g0 g1 hL
    refine ⟨hf, ⟨n + 1, L2, by omega, ?_, g0, g1, fun i hi h30 w hw => ?_⟩, rfl⟩
    · rw [mSnd, if_pos rfl, hv, show (1 : Int32) = nI 1 from rfl, nI_add]
    · rw [hL]
      by_cases hi0 : i = 0
      · subst hi0
        rw [show (n + 1 - 1 - 0) % 30 = n % 30 by omega]
        unfold mSnd
        rcases (show w = 0 ∨ w = 1 ∨ w = 2 ∨ w = 3 ∨ w = 4 by omega) with rfl | rfl | rfl | rfl | rfl
        · rw [if_neg (by omega), if_neg (by omega), if_neg (by omega), if_neg (by omega), if_pos (by omega), if_neg (by omega), if_pos (by omega)]
        · rw [if_neg (by omega), if_neg (by omega), if_neg (by omega), if_pos (by omega), if_neg (by omega), if_neg (by omega), if_pos (by omega)]
        · rw [if_neg (by omega), if_neg (by omega), if_pos (by omega), if_neg (by omega), if_neg (by omega), if_neg (by omega), if_pos (by omega)]
        · rw [if_neg (by omega), if_pos (by omega), if_neg (by omega), if_neg (by omega), if_neg (by omega), if_neg (by omega), if_pos (by omega)]
        · rw [if_pos (by omega), if_neg (by omega), if_neg (by omega), if_neg (by omega), if_neg (by omega), if_neg (by omega), if_pos (by omega), hsv]
      · have e1 : (n + 1 - 1 - i) % 30 = (n - 1 - (i - 1)) % 30 := by congr 1; omega
        have e2 : (n - 1 - (i - 1)) % 30 ≠ n % 30 := by omega
        rw [e1, if_neg (by omega), if_neg (by omega), if_neg (by omega), if_neg (by omega), if_neg (by omega), h2 (i - 1) (by omega) (by omega) w hw]
        unfold mSnd
        rw [if_neg (by omega), if_neg (by omega), if_neg (by omega), if_neg (by omega), if_neg (by omega), if_neg (by omega), if_pos (by omega)]
        congr 1
        omega
  show gJ _ _ _ _ _ _ 0 [(0, _), (1, _), (2, _), (3, _), (4, _), (5, _)] [] _
  refine gJ_aload_n dX4_write_0 rfl rfl ?_
  refine gJ_get fX4_13 dX4_write_1 (by repeat (first | exact gUp_s | assumption | refine gUp_n ?_ (by omega))) rfl ?_
  refine gJ_bipush (v := 30) dX4_write_4 (by decide) ?_
  refine gJ_iremN (a := n) (b := 30) dX4_write_6 (by first | with_reducible rfl | rfl) (by first | with_reducible rfl | rfl) (by omega) (by decide) ?_
  refine gJ_iconst (v := 5) dX4_write_7 (by decide) ?_
  refine gJ_imulN (a := (n % 30)) (b := 5) dX4_write_8 (by first | with_reducible rfl | rfl) (by first | with_reducible rfl | rfl) ?_
  refine gJ_istore (lv2 := [(6, _), (0, _), (1, _), (2, _), (3, _), (4, _), (5, _)]) dX4_write_9 rfl rfl ?_
  refine gJ_aload_n dX4_write_11 rfl rfl ?_
  refine gJ_get fX4_9 dX4_write_12 (by repeat (first | exact gUp_s | assumption | refine gUp_n ?_ (by omega))) rfl ?_
  refine gJ_iload dX4_write_15 rfl ?_
  refine gJ_iload_n dX4_write_17 rfl rfl ?_
  refine gJ_iastN (j := ((n % 30) * 5)) dX4_write_18 (by repeat (first | exact gUp_s | assumption | refine gUp_n ?_ (by omega))) (by first | with_reducible rfl | rfl) (by omega) (by decide) ?_
  try rw [gUp_up]
  refine gJ_aload_n dX4_write_19 rfl rfl ?_
  refine gJ_get fX4_9 dX4_write_20 (by repeat (first | exact gUp_s | assumption | refine gUp_n ?_ (by omega))) rfl ?_
  refine gJ_iload dX4_write_23 rfl ?_
  refine gJ_iconst (v := 1) dX4_write_25 (by decide) ?_
  refine gJ_iaddN (a := ((n % 30) * 5)) (b := 1) dX4_write_26 (by first | with_reducible rfl | rfl) (by first | with_reducible rfl | rfl) ?_
  refine gJ_iload_n dX4_write_27 rfl rfl ?_
  refine gJ_iastN (j := (((n % 30) * 5) + 1)) dX4_write_28 (by repeat (first | exact gUp_s | assumption | refine gUp_n ?_ (by omega))) (by first | with_reducible rfl | rfl) (by omega) (by decide) ?_
  try rw [gUp_up]
  refine gJ_aload_n dX4_write_29 rfl rfl ?_
  refine gJ_get fX4_9 dX4_write_30 (by repeat (first | exact gUp_s | assumption | refine gUp_n ?_ (by omega))) rfl ?_
  refine gJ_iload dX4_write_33 rfl ?_
  refine gJ_iconst (v := 2) dX4_write_35 (by decide) ?_
  refine gJ_iaddN (a := ((n % 30) * 5)) (b := 2) dX4_write_36 (by first | with_reducible rfl | rfl) (by first | with_reducible rfl | rfl) ?_
  refine gJ_iload_n dX4_write_37 rfl rfl ?_
  refine gJ_iastN (j := (((n % 30) * 5) + 2)) dX4_write_38 (by repeat (first | exact gUp_s | assumption | refine gUp_n ?_ (by omega))) (by first | with_reducible rfl | rfl) (by omega) (by decide) ?_
  try rw [gUp_up]
  refine gJ_aload_n dX4_write_39 rfl rfl ?_
  refine gJ_get fX4_9 dX4_write_40 (by repeat (first | exact gUp_s | assumption | refine gUp_n ?_ (by omega))) rfl ?_
  refine gJ_iload dX4_write_43 rfl ?_
  refine gJ_iconst (v := 3) dX4_write_45 (by decide) ?_
  refine gJ_iaddN (a := ((n % 30) * 5)) (b := 3) dX4_write_46 (by first | with_reducible rfl | rfl) (by first | with_reducible rfl | rfl) ?_
  refine gJ_iload dX4_write_47 rfl ?_
  refine gJ_iastN (j := (((n % 30) * 5) + 3)) dX4_write_49 (by repeat (first | exact gUp_s | assumption | refine gUp_n ?_ (by omega))) (by first | with_reducible rfl | rfl) (by omega) (by decide) ?_
  try rw [gUp_up]
  refine gJ_aload_n dX4_write_50 rfl rfl ?_
  refine gJ_get fX4_9 dX4_write_51 (by repeat (first | exact gUp_s | assumption | refine gUp_n ?_ (by omega))) rfl ?_
  refine gJ_iload dX4_write_54 rfl ?_
  refine gJ_iconst (v := 4) dX4_write_56 (by decide) ?_
  refine gJ_iaddN (a := ((n % 30) * 5)) (b := 4) dX4_write_57 (by first | with_reducible rfl | rfl) (by first | with_reducible rfl | rfl) ?_
  refine gJ_iload dX4_write_58 rfl ?_
  refine gJ_iastN (j := (((n % 30) * 5) + 4)) dX4_write_60 (by repeat (first | exact gUp_s | assumption | refine gUp_n ?_ (by omega))) (by first | with_reducible rfl | rfl) (by omega) (by decide) ?_
  try rw [gUp_up]
  refine gJ_aload_n dX4_write_61 rfl rfl ?_
  refine gJ_dup dX4_write_62 rfl ?_
  refine gJ_get fX4_13 dX4_write_63 (by repeat (first | exact gUp_s | assumption | refine gUp_n ?_ (by omega))) rfl ?_
  refine gJ_iconst (v := 1) dX4_write_66 (by decide) ?_
  refine gJ_iaddN (a := n) (b := 1) dX4_write_67 (by first | with_reducible rfl | rfl) (by first | with_reducible rfl | rfl) ?_
  refine gJ_put fX4_13 dX4_write_68 (by repeat (first | exact gUp_s | assumption | refine gUp_n ?_ (by omega))) rfl rfl (Nat.le_of_ble_eq_true rfl) ?_
  refine gJ_vret dX4_write_71 rfl ?_
  refine fin _ _ (by repeat (first | exact gFr_r | refine gFr_u ?_ (by omega))) (by repeat (first | exact gUp_s | assumption | refine gUp_n ?_ (by omega))) (by repeat (first | exact gUp_s | assumption | refine gUp_n ?_ (by omega))) (fun i => ?_)
  simp only [upd]
theorem c4_keeps (n : Nat) (hn : n < 2 ^ 30) (h0 : M.1 p = some (cLg p n)) (i : Int32) : gCon G kX4_keeps 0 0 0 M [.ref p, .int i] (fun M2 v => M2 = M ∧ v = some (.int (gb (!decide (i < 0) && (!decide (30 ≤ i) && !decide (nI n ≤ i)))))) := by
  refine gCon_of (by decide) (Nat.le_of_ble_eq_true rfl) ?_
  show gJ _ _ _ _ _ _ 0 [(0, _), (1, _)] [] _
  refine gJ_iload_n dX4_keeps_0 rfl rfl ?_
  refine gJ_if_lt (tgt := 22) dX4_keeps_1 (by decide) (fun c1 => ?_) (fun c1 => ?_)
  · refine gJ_iconst (v := 0) dX4_keeps_22 (by decide) ?_
    refine gJ_zret dX4_keeps_23 rfl (by first | exact gz0 | exact gz1 | exact gb01 _) ?_
    refine ⟨rfl, ?_⟩
    rw [decide_eq_true c1]
    rfl
  · refine gJ_iload_n dX4_keeps_4 rfl rfl ?_
    refine gJ_bipush (v := 30) dX4_keeps_5 (by decide) ?_
    refine gJ_icmp_ge (tgt := 22) dX4_keeps_7 (by decide) (fun c7 => ?_) (fun c7 => ?_)
    · refine gJ_iconst (v := 0) dX4_keeps_22 (by decide) ?_
      refine gJ_zret dX4_keeps_23 rfl (by first | exact gz0 | exact gz1 | exact gb01 _) ?_
      refine ⟨rfl, ?_⟩
      rw [decide_eq_true c7, Bool.not_true, Bool.false_and, Bool.and_false]
      rfl
    · refine gJ_iload_n dX4_keeps_10 rfl rfl ?_
      refine gJ_aload_n dX4_keeps_11 rfl rfl ?_
      refine gJ_get fX4_13 dX4_keeps_12 (by first | with_reducible assumption | with_reducible exact gUp_s | with_reducible exact gUp_n (by with_reducible assumption) (by omega) | exact gUp_n (by assumption) (by omega) | exact gUp_s | assumption) rfl ?_
      refine gJ_icmp_ge (tgt := 22) dX4_keeps_15 (by decide) (fun c15 => ?_) (fun c15 => ?_)
      · refine gJ_iconst (v := 0) dX4_keeps_22 (by decide) ?_
        refine gJ_zret dX4_keeps_23 rfl (by first | exact gz0 | exact gz1 | exact gb01 _) ?_
        refine ⟨rfl, ?_⟩
        rw [decide_eq_true c15, Bool.not_true, Bool.and_false, Bool.and_false]
        rfl
      · refine gJ_iconst (v := 1) dX4_keeps_18 (by decide) ?_
        refine gJ_goto (tgt := 23) dX4_keeps_19 (by decide) ?_
        refine gJ_zret dX4_keeps_23 rfl (by first | exact gz0 | exact gz1 | exact gb01 _) ?_
        refine ⟨rfl, ?_⟩
        rw [decide_eq_false c1, decide_eq_false c7, decide_eq_false c15]
        rfl
theorem c4_read (n : Nat) (L : Nat → Int32) (hn : n < 2 ^ 30) (h0 : M.1 p = some (cLg p n)) (h1 : M.1 (p + 1) = some (gI 150 L)) (i w : Nat) (hi : i < n) (hi2 : i < 30) (hw : w < 5) : gCon G kX4_read 0 0 0 M [.ref p, .int (nI i), .int (nI w)] (fun M2 v => M2 = M ∧ v = some (.int (L ((n - 1 - i) % 30 * 5 + w)))) := by
  refine gCon_of (by decide) (Nat.le_of_ble_eq_true rfl) ?_
  show gJ _ _ _ _ _ _ 0 [(0, _), (1, _), (2, _)] [] _
  refine gJ_aload_n dX4_read_0 rfl rfl ?_
  refine gJ_get fX4_9 dX4_read_1 (by first | with_reducible assumption | with_reducible exact gUp_s | with_reducible exact gUp_n (by with_reducible assumption) (by omega) | exact gUp_n (by assumption) (by omega) | exact gUp_s | assumption) rfl ?_
  refine gJ_aload_n dX4_read_4 rfl rfl ?_
  refine gJ_get fX4_13 dX4_read_5 (by first | with_reducible assumption | with_reducible exact gUp_s | with_reducible exact gUp_n (by with_reducible assumption) (by omega) | exact gUp_n (by assumption) (by omega) | exact gUp_s | assumption) rfl ?_
  refine gJ_iconst (v := 1) dX4_read_8 (by decide) ?_
  refine gJ_isubN (a := n) (b := 1) dX4_read_9 (by first | with_reducible rfl | rfl) (by first | with_reducible rfl | rfl) (by omega) ?_
  refine gJ_iload_n dX4_read_10 rfl rfl ?_
  refine gJ_isubN (a := (n - 1)) (b := i) dX4_read_11 (by first | with_reducible rfl | rfl) (by first | with_reducible rfl | rfl) (by omega) ?_
  refine gJ_bipush (v := 30) dX4_read_12 (by decide) ?_
  refine gJ_iremN (a := ((n - 1) - i)) (b := 30) dX4_read_14 (by first | with_reducible rfl | rfl) (by first | with_reducible rfl | rfl) (by omega) (by decide) ?_
  refine gJ_iconst (v := 5) dX4_read_15 (by decide) ?_
  refine gJ_imulN (a := (((n - 1) - i) % 30)) (b := 5) dX4_read_16 (by first | with_reducible rfl | rfl) (by first | with_reducible rfl | rfl) ?_
  refine gJ_iload_n dX4_read_17 rfl rfl ?_
  refine gJ_iaddN (a := ((((n - 1) - i) % 30) * 5)) (b := w) dX4_read_18 (by first | with_reducible rfl | rfl) (by first | with_reducible rfl | rfl) ?_
  refine gJ_ialdN (j := (((((n - 1) - i) % 30) * 5) + w)) dX4_read_19 (by first | with_reducible assumption | with_reducible exact gUp_s | with_reducible exact gUp_n (by with_reducible assumption) (by omega) | exact gUp_n (by assumption) (by omega) | exact gUp_s | assumption) (by first | with_reducible rfl | rfl) (by omega) (by decide) ?_
  refine gJ_iret dX4_read_20 rfl ?_
  exact ⟨rfl, rfl⟩
end CLS
