theorem lS_ob {P : Nat → Bool} {a : Nat} (ha : a < 60) : lS P 60 ||| ((1 : Int64) <<< ((nI a).toInt64 &&& 63)) = lS (fun b => P b || decide (b = a)) 60 := by rw [one_S a ha, lS_or]
theorem lS_nb {P : Nat → Bool} {a : Nat} (ha : a < 60) : lS P 60 &&& (((1 : Int64) <<< ((nI a).toInt64 &&& 63)) ^^^ (-1)) = lS (fun b => P b && !decide (b = a)) 60 := by rw [one_S a ha, lS_an]
/-- one alert's part of the row is another -/
theorem cRA_set {K K2 : Nat → Nat} {M2 : gM} {p a : Nat} {V W X R C X2 R2 C2 : Nat → Int32} {pe fi : Int64} (hW : ∀ b, b < 60 → b ≠ a → ∀ i, i < 23 → W (206 + 23 * b + i) = V (206 + 23 * b + i)) (h0 : M2.1 p = some (cAS p pe fi)) (hpe : pe = lS (cStB W 1) 60) (hfi : fi = lS (cStB W 2) 60) (h1 : M2.1 (p + 1) = some (gI 60 X2)) (h2 : M2.1 (p + 2) = some (gI 1200 R2)) (h3 : M2.1 (p + 3) = some (gI 60 C2))
    (hX : ∀ b, b < 60 → ¬ V (206 + 23 * b) = 0 → X b = V (206 + 23 * b + 1)) (hR : ∀ b, b < 60 → cRing (K b) R C V b) (hX2 : ∀ b, b ≠ a → X2 b = X b) (hR2 : ∀ b j, b ≠ a → j < 20 → R2 (b * 20 + j) = R (b * 20 + j)) (hC2 : ∀ b, b ≠ a → C2 b = C b) (hXa : ¬ W (206 + 23 * a) = 0 → X2 a = W (206 + 23 * a + 1)) (hRa : cRing (K2 a) R2 C2 W a) (hK : ∀ b, b ≠ a → K2 b = K b) : cRA K2 M2 p W := by
  refine ⟨X2, R2, C2, by rw [h0, hpe, hfi], h1, h2, h3, fun b hb hz => ?_, fun b hb => ?_⟩
  · by_cases e : b = a
    · subst e; exact hXa hz
    · have e0 := hW b hb e 0 (by omega)
      rw [Nat.add_zero] at e0
      rw [e0] at hz
      rw [hX2 b e, hX b hb hz, hW b hb e 1 (by omega)]
  · by_cases e : b = a
    · subst e; exact hRa
    · obtain ⟨c, c1, c2, c3, c4⟩ := hR b hb
      refine ⟨c, by rw [hC2 b e, c1], by rw [hK b e]; exact c2, by rw [hW b hb e 2 (by omega), c3], fun j hj => ?_⟩
      rw [hR2 b _ e (Nat.mod_lt _ (by decide)), c4 j hj]
      have h_ := hW b hb e (3 + j) (by omega)
      rw [← Nat.add_assoc] at h_
      exact h_.symm
theorem ring_turn {K c a : Nat} {R C V W : Nat → Int32} (hc : C a = nI c) (hK : c ≤ K) (hn : V (206 + 23 * a + 2) = nI (min c 20)) (hj : ∀ j, j < min c 20 → R (a * 20 + (c - min c 20 + j) % 20) = V (206 + 23 * a + 3 + j)) (hW : ∀ i, 2 ≤ i → i < 23 → W (206 + 23 * a + i) = mTurns V a (206 + 23 * a + i)) : cRing (K + 1) (upd R (a * 20 + c % 20) (V 1847)) (upd C a (nI (c + 1))) W a := by
  have hnN := mN_of hn (by omega)
  refine ⟨c + 1, pk_us, by omega, ?_, fun j hj2 => ?_⟩
  · rw [hW 2 (by omega) (by omega)]
    unfold mTurns
    by_cases h20 : 20 ≤ c
    · have e : V (206 + 23 * a + 2) = 20 := by rw [hn, Nat.min_eq_right h20]; rfl
      rw [if_pos e, if_neg (by omega), if_neg (by omega), e, Nat.min_eq_right (by omega)]
      rfl
    · have e : ¬ V (206 + 23 * a + 2) = 20 := by
        rw [hn, Nat.min_eq_left (by omega)]
        exact fun h => h20 (Nat.le_of_eq ((nI_eq (a := c) (b := 20) (by omega) (by decide)).mp h).symm)
      rw [if_neg e, if_pos rfl, hnN, Nat.min_eq_left (by omega), Nat.min_eq_left (by omega)]
  · rw [show 206 + 23 * a + 3 + j = 206 + 23 * a + (3 + j) by omega, hW (3 + j) (by omega) (by omega)]
    unfold mTurns
    by_cases h20 : 20 ≤ c
    · have e : V (206 + 23 * a + 2) = 20 := by rw [hn, Nat.min_eq_right h20]; rfl
      rw [if_pos e]
      rw [Nat.min_eq_right (by omega)] at hj2 ⊢
      rw [Nat.min_eq_right h20] at hj
      by_cases h19 : j = 19
      · subst h19
        rw [if_neg (by omega), if_pos (by omega), show (c + 1 - 20 + 19) % 20 = c % 20 by omega]
        exact pk_us
      · rw [if_pos (by omega), pk_un (by omega), show (c + 1 - 20 + j) % 20 = (c - 20 + (j + 1)) % 20 by omega, hj (j + 1) (by omega)]
        congr 1
        omega
    · have e : ¬ V (206 + 23 * a + 2) = 20 := by
        rw [hn, Nat.min_eq_left (by omega)]
        exact fun h => h20 (Nat.le_of_eq ((nI_eq (a := c) (b := 20) (by omega) (by decide)).mp h).symm)
      rw [if_neg e, hnN]
      rw [Nat.min_eq_left (by omega)] at hj2 ⊢
      rw [Nat.min_eq_left (by omega)] at hj ⊢
      rw [if_neg (by omega), show (c + 1 - (c + 1) + j) % 20 = j by omega, show c % 20 = c by omega]
      by_cases hjc : j = c
      · subst hjc
        rw [if_pos (by omega)]
        exact pk_us
      · rw [if_neg (by omega), pk_un (by omega)]
        have := hj j (by omega)
        rw [show (c - c + j) % 20 = j by omega] at this
        rw [this]
        congr 1
        omega
section CLS
variable {G : gG} {K : Nat → Nat} {M : gM} {p : Nat} {V : Nat → Int32}
theorem c0_remember {pe fi : Int64} {R C : Nat → Int32} (h0 : M.1 p = some (cAS p pe fi)) (h2 : M.1 (p + 2) = some (gI 1200 R)) (h3 : M.1 (p + 3) = some (gI 60 C)) (a c : Nat) (ha : a < 60) (hc : C a = nI c) (hc2 : c ≤ 200000) (x : Int32) : gCon G kX0_remember 0 0 0 M [.ref p, .int (nI a), .int x] (fun M2 v => M2 = gUp (gUp M (p + 2) (gI 1200 (upd R (a * 20 + c % 20) x))) (p + 3) (gI 60 (upd C a (nI (c + 1)))) ∧ v = none) := by
  refine gCon_of (by decide) (Nat.le_of_ble_eq_true rfl) ?_
  show gJ _ _ _ _ _ _ 0 [(0, _), (1, _), (2, _)] [] _
  refine gJ_aload_n dX0_remember_0 rfl rfl ?_
  refine gJ_get fX0_15 dX0_remember_1 (by first | with_reducible assumption | with_reducible exact gUp_s | with_reducible exact gUp_n (by with_reducible assumption) (by omega) | exact gUp_n (by assumption) (by omega) | exact gUp_s | assumption) rfl ?_
  refine gJ_iload_n dX0_remember_4 rfl rfl ?_
  refine gJ_bipush (v := 20) dX0_remember_5 (by decide) ?_
  refine gJ_imulN (a := a) (b := 20) dX0_remember_7 (by first | with_reducible rfl | rfl) (by first | with_reducible rfl | rfl) ?_
  refine gJ_aload_n dX0_remember_8 rfl rfl ?_
  refine gJ_get fX0_18 dX0_remember_9 (by first | with_reducible assumption | with_reducible exact gUp_s | with_reducible exact gUp_n (by with_reducible assumption) (by omega) | exact gUp_n (by assumption) (by omega) | exact gUp_s | assumption) rfl ?_
  refine gJ_iload_n dX0_remember_12 rfl rfl ?_
  refine gJ_ialdN (j := a) dX0_remember_13 (by first | with_reducible assumption | with_reducible exact gUp_s | with_reducible exact gUp_n (by with_reducible assumption) (by omega) | exact gUp_n (by assumption) (by omega) | exact gUp_s | assumption) (by first | with_reducible rfl | rfl) (by omega) (by decide) ?_
  rw [hc]
  refine gJ_bipush (v := 20) dX0_remember_14 (by decide) ?_
  refine gJ_iremN (a := c) (b := 20) dX0_remember_16 (by first | with_reducible rfl | rfl) (by first | with_reducible rfl | rfl) (by omega) (by decide) ?_
  refine gJ_iaddN (a := (a * 20)) (b := (c % 20)) dX0_remember_17 (by first | with_reducible rfl | rfl) (by first | with_reducible rfl | rfl) ?_
  refine gJ_iload_n dX0_remember_18 rfl rfl ?_
  refine gJ_iastN (j := ((a * 20) + (c % 20))) dX0_remember_19 (by first | with_reducible assumption | with_reducible exact gUp_s | with_reducible exact gUp_n (by with_reducible assumption) (by omega) | exact gUp_n (by assumption) (by omega) | exact gUp_s | assumption) (by first | with_reducible rfl | rfl) (by omega) (by decide) ?_
  try rw [gUp_up]
  refine gJ_aload_n dX0_remember_20 rfl rfl ?_
  refine gJ_get fX0_18 dX0_remember_21 (by first | with_reducible assumption | with_reducible exact gUp_s | with_reducible exact gUp_n (by with_reducible assumption) (by omega) | exact gUp_n (by assumption) (by omega) | exact gUp_s | assumption) rfl ?_
  refine gJ_iload_n dX0_remember_24 rfl rfl ?_
  refine gJ_dup2 dX0_remember_25 rfl rfl ?_
  refine gJ_ialdN (j := a) dX0_remember_26 (gUp_n h3 (by omega)) (by first | with_reducible rfl | rfl) (by omega) (by decide) ?_
  rw [hc]
  refine gJ_iconst (v := 1) dX0_remember_27 (by decide) ?_
  refine gJ_iaddN (a := c) (b := 1) dX0_remember_28 (by first | with_reducible rfl | rfl) (by first | with_reducible rfl | rfl) ?_
  refine gJ_iastN (j := a) dX0_remember_29 (gUp_n h3 (by omega)) (by first | with_reducible rfl | rfl) (by omega) (by decide) ?_
  try rw [gUp_up]
  refine gJ_vret dX0_remember_30 rfl ?_
  exact ⟨rfl, rfl⟩
theorem mGo_w {V : Nat → Int32} (hI : mI V) {a b i : Nat} (ha : a < 60) (hb : b < 60) (hab : b ≠ a) (hi : i < 23) : mGo V a (206 + 23 * b + i) = V (206 + 23 * b + i) := mGo_out (hI.2.2.2.2.2.1 a ha).2 (by omega)
set_option maxHeartbeats 4000000 in
set_option maxRecDepth 20000 in
theorem c0_rise (h : cRA K M p V) (hI : mI V) (a : Nat) (ha : a < 60) (hK : K a + 1 ≤ 200000) (hH : mHolds V a = true) : gCon G kX0_rise 2 0 0 M [.ref p, .int (nI a), .int (V 1847), .int (V (60 + 10 * (a / 12) + 8))] (fun M2 v => gFr M M2 p 4 ∧ cRA (fun b => if b = a then K a + 1 else K b) M2 p (mGo V a) ∧ v = none) := by
  obtain ⟨X, R, C, h0, h1, h2, h3, hX, hR⟩ := h
  obtain ⟨c, hc, hcK, hcn, hcj⟩ := hR a ha
  have hn2 := (hI.2.2.2.2.2.1 a ha).2
  have hW := fun b hb hab i hi => mGo_w hI ha hb hab (b := b) (i := i) hi
  have hGo : mGo V a = if V (206 + 23 * a) = 0 then
      if V 1847 - V 1847 < V (60 + 10 * (a / 12) + 8) then upd (upd V (206 + 23 * a) 1) (206 + 23 * a + 1) (V 1847) else mTurns (upd (upd V (206 + 23 * a) 2) (206 + 23 * a + 1) (V 1847)) a
    else if V (206 + 23 * a) = 1 then
      if V 1847 - V (206 + 23 * a + 1) < V (60 + 10 * (a / 12) + 8) then V else mTurns (upd (upd V (206 + 23 * a) 2) (206 + 23 * a + 1) (V 1847)) a
    else V := by rw [mGo, if_pos hH]
  have hbit : ∀ (W : Nat → Int32) (z : Int32) (Q : Nat → Bool), (∀ b, b < 60 → b ≠ a → ∀ i, i < 23 → W (206 + 23 * b + i) = V (206 + 23 * b + i)) → (∀ b, b ≠ a → Q b = cStB V z b) → Q a = decide (W (206 + 23 * a) = z) → lS Q 60 = lS (cStB W z) 60 := by
    intro W z Q hW hQ hQa
    refine lS_ext fun b hb => ?_
    by_cases e : b = a
    · subst e; exact hQa
    · rw [hQ b e, cStB, cStB]
      have := hW b hb e 0 (by omega)
      rw [Nat.add_zero] at this
      rw [this]
  have hRk : cRing (K a + 1) R C V a := ⟨c, hc, by omega, hcn, hcj⟩
  -- the turn to firing
  have turn : ∀ W, W = mTurns (upd (upd V (206 + 23 * a) 2) (206 + 23 * a + 1) (V 1847)) a → mGo V a = W → ∀ (M2 : gM) (pe fi : Int64) (X2 : Nat → Int32), M2.1 p = some (cAS p pe fi) → M2.1 (p + 1) = some (gI 60 X2) → M2.1 (p + 2) = some (gI 1200 (upd R (a * 20 + c % 20) (V 1847))) → M2.1 (p + 3) = some (gI 60 (upd C a (nI (c + 1)))) → pe = lS (cStB W 1) 60 → fi = lS (cStB W 2) 60 → (∀ b, b ≠ a → X2 b = X b) → X2 a = V 1847 → cRA (fun b => if b = a then K a + 1 else K b) M2 p (mGo V a) := by
    intro W hWe hGoW M2 pe fi X2 g0 g1 g2 g3 gpe gfi gX gXa
    have hn3 : mB (upd (upd V (206 + 23 * a) 2) (206 + 23 * a + 1) (V 1847)) (206 + 23 * a + 2) 20 := by
      obtain ⟨y, e1, e2⟩ := hn2
      exact ⟨y, e1, by rw [pk_un (by omega), pk_un (by omega), e2]⟩
    rw [hGoW] at hW ⊢
    refine cRA_set (X := X) (R := R) (C := C) (K := K) hW g0 gpe gfi g1 g2 g3 hX hR gX (fun b j hb hj => pk_un (by omega)) (fun b hb => pk_un hb) (fun _ => ?_) ?_ (fun b hb => if_neg hb)
    · rw [gXa, hWe, mTurns_out hn3 (by omega), pk_us]
    · show cRing (if a = a then K a + 1 else K a) _ _ _ _
      rw [if_pos rfl]
      have hv : (upd (upd V (206 + 23 * a) 2) (206 + 23 * a + 1) (V 1847)) 1847 = V 1847 := by rw [pk_un (by omega), pk_un (by omega)]
      have := ring_turn (W := W) (V := upd (upd V (206 + 23 * a) 2) (206 + 23 * a + 1) (V 1847)) (R := R) (C := C) hc hcK (by rw [pk_un (by omega), pk_un (by omega)]; exact hcn) (fun j hj => by rw [pk_un (by omega), pk_un (by omega)]; exact hcj j hj) (fun i _ _ => by rw [hWe])
      rw [hv] at this
      exact this
  have hn3 : mB (upd (upd V (206 + 23 * a) 2) (206 + 23 * a + 1) (V 1847)) (206 + 23 * a + 2) 20 := by
    obtain ⟨y, e1, e2⟩ := hn2
    exact ⟨y, e1, by rw [pk_un (by omega), pk_un (by omega), e2]⟩
  have hWst : mTurns (upd (upd V (206 + 23 * a) 2) (206 + 23 * a + 1) (V 1847)) a (206 + 23 * a) = 2 := by rw [mTurns_out hn3 (by omega), pk_un (by omega), pk_us]
  have stay : mGo V a = V → cRA (fun b => if b = a then K a + 1 else K b) M p (mGo V a) := by
    intro e
    rw [e]
    refine ⟨X, R, C, h0, h1, h2, h3, hX, fun b hb => ?_⟩
    by_cases e : b = a
    · subst e
      show cRing (if b = b then K b + 1 else K b) _ _ _ _
      rw [if_pos rfl]
      exact hRk
    · show cRing (if b = a then K a + 1 else K b) _ _ _ _
      rw [if_neg e]
      exact hR b hb
  have L48 : ∀ (P : Nat → Bool) (X1 : Nat → Int32) (M1 : gM), gFr M M1 p 4 → M1.1 p = some (cAS p (lS P 60) (lS (cStB V 2) 60)) → M1.1 (p + 1) = some (gI 60 X1) → M1.1 (p + 2) = some (gI 1200 R) → M1.1 (p + 3) = some (gI 60 C) → (∀ b, b ≠ a → P b = cStB V 1 b) → (∀ b, b ≠ a → X1 b = X b) → mGo V a = mTurns (upd (upd V (206 + 23 * a) 2) (206 + 23 * a + 1) (V 1847)) a →
      gJ G kX0_rise 2 0 0 M1 48 [(0, .ref p), (1, .int (nI a)), (2, .int (V 1847))] [] (gQ kX0_rise (fun M2 v => gFr M M2 p 4 ∧ cRA (fun b => if b = a then K a + 1 else K b) M2 p (mGo V a) ∧ v = none)) := by
    intro P X1 M1 hf g0 g1 g2 g3 hP hX1 hg
    have hWW := hW
    rw [hg] at hWW
    refine gJ_aload_n dX0_rise_48 rfl rfl ?_
    refine gJ_dup dX0_rise_49 rfl ?_
    refine gJ_get fX0_21 dX0_rise_50 (by repeat (first | exact gUp_s | assumption | refine gUp_n ?_ (by omega))) rfl ?_
    refine gJ_lconst (v := 1) dX0_rise_53 (by decide) ?_
    refine gJ_iload_n dX0_rise_54 rfl rfl ?_
    refine gJ_lshl dX0_rise_55 ?_
    refine gJ_ldc2 (v := -1) dX0_rise_56 cX0_55 ?_
    refine gJ_lxor dX0_rise_59 ?_
    refine gJ_land dX0_rise_60 ?_
    rw [lS_nb ha]
    refine gJ_put fX0_21 dX0_rise_61 (by repeat (first | exact gUp_s | assumption | refine gUp_n ?_ (by omega))) rfl rfl (Nat.le_of_ble_eq_true rfl) ?_
    refine gJ_aload_n dX0_rise_64 rfl rfl ?_
    refine gJ_dup dX0_rise_65 rfl ?_
    refine gJ_get fX0_25 dX0_rise_66 (by repeat (first | exact gUp_s | assumption | refine gUp_n ?_ (by omega))) rfl ?_
    refine gJ_lconst (v := 1) dX0_rise_69 (by decide) ?_
    refine gJ_iload_n dX0_rise_70 rfl rfl ?_
    refine gJ_lshl dX0_rise_71 ?_
    refine gJ_lor dX0_rise_72 ?_
    rw [lS_ob ha]
    refine gJ_put fX0_25 dX0_rise_73 (by repeat (first | exact gUp_s | assumption | refine gUp_n ?_ (by omega))) rfl rfl (Nat.le_of_ble_eq_true rfl) ?_
    refine gJ_aload_n dX0_rise_76 rfl rfl ?_
    refine gJ_get fX0_9 dX0_rise_77 (by repeat (first | exact gUp_s | assumption | refine gUp_n ?_ (by omega))) rfl ?_
    refine gJ_iload_n dX0_rise_80 rfl rfl ?_
    refine gJ_iload_n dX0_rise_81 rfl rfl ?_
    refine gJ_iastN (j := a) dX0_rise_82 (by repeat (first | exact gUp_s | assumption | refine gUp_n ?_ (by omega))) (by first | with_reducible rfl | rfl) (by omega) (by decide) ?_
    try rw [gUp_up]
    refine gJ_aload_n dX0_rise_83 rfl rfl ?_
    refine gJ_iload_n dX0_rise_84 rfl rfl ?_
    refine gJ_iload_n dX0_rise_85 rfl rfl ?_
    refine gJ_callV (As := [_, _]) b_X0_remember lX0_57 i_X0_remember s_X0_remember dX0_rise_86 (c0_remember (pe := lS (fun b => P b && !decide (b = a)) 60) (fi := lS (fun b => cStB V 2 b || decide (b = a)) 60) (R := R) (C := C) (by repeat (first | exact gUp_s | assumption | refine gUp_n ?_ (by omega))) (by repeat (first | exact gUp_s | assumption | refine gUp_n ?_ (by omega))) (by repeat (first | exact gUp_s | assumption | refine gUp_n ?_ (by omega))) a c ha hc (by omega) _) (by repeat (first | exact gUp_s | assumption | refine gUp_n ?_ (by omega))) rfl rfl (Nat.le_of_ble_eq_true rfl) rfl (by decide) (fun M86 v_ h86 => ?_)
    obtain ⟨e86, rfl⟩ := h86
    replace e86 := e86.symm
    subst e86
    refine gJ_vret dX0_rise_89 rfl ?_
    refine ⟨gFr_t hf (by repeat (first | exact gFr_r | refine gFr_u ?_ (by omega))), ?_, rfl⟩
    refine turn _ rfl hg _ (lS (fun b => P b && !decide (b = a)) 60) (lS (fun b => cStB V 2 b || decide (b = a)) 60) (upd X1 a (V 1847)) (by repeat (first | exact gUp_s | assumption | refine gUp_n ?_ (by omega))) (by repeat (first | exact gUp_s | assumption | refine gUp_n ?_ (by omega))) (by repeat (first | exact gUp_s | assumption | refine gUp_n ?_ (by omega))) (by repeat (first | exact gUp_s | assumption | refine gUp_n ?_ (by omega))) ?_ ?_ (fun b hb => (pk_un hb).trans (hX1 b hb)) pk_us
    · exact hbit _ 1 _ hWW (fun b hb => by simp [hb, hP b hb]) (by rw [hWst]; simp)
    · exact hbit _ 2 _ hWW (fun b hb => by simp [hb]) (by rw [hWst]; simp)
  refine gCon_of (by decide) (Nat.le_of_ble_eq_true rfl) ?_
  rcases cSt_c hI ha with hv | hv | hv
  · have pf : cStB V 2 a = false := by rw [cStB, hv]; rfl
    have pp : cStB V 1 a = false := by rw [cStB, hv]; rfl
    show gJ _ _ _ _ _ _ 0 [(0, _), (1, _), (2, _), (3, _)] [] _
    refine gJ_aload_n dX0_rise_0 rfl rfl ?_
    refine gJ_iload_n dX0_rise_1 rfl rfl ?_
    refine gJ_callV (As := [_]) b_X0_stateOf lX0_38 i_X0_stateOf s_X0_stateOf dX0_rise_2 (c0_st h0 a ha 0 (by rw [pf, pp]; rfl)) (by first | with_reducible assumption | with_reducible exact gUp_s | with_reducible exact gUp_n (by with_reducible assumption) (by omega) | exact gUp_n (by assumption) (by omega) | exact gUp_s | assumption) rfl rfl (Nat.le_of_ble_eq_true rfl) rfl (by decide) (fun M2 v_ h2 => ?_)
    obtain ⟨e_, rfl⟩ := h2
    replace e_ := e_.symm
    subst e_
    refine gJ_if_neN (tgt := 27) (a := 0) (by first | with_reducible rfl | rfl) (by omega) dX0_rise_5 (by decide) (fun c_ => by exfalso; omega) (fun _ => ?_)
    refine gJ_aload_n dX0_rise_8 rfl rfl ?_
    refine gJ_dup dX0_rise_9 rfl ?_
    refine gJ_get fX0_21 dX0_rise_10 (by repeat (first | exact gUp_s | assumption | refine gUp_n ?_ (by omega))) rfl ?_
    refine gJ_lconst (v := 1) dX0_rise_13 (by decide) ?_
    refine gJ_iload_n dX0_rise_14 rfl rfl ?_
    refine gJ_lshl dX0_rise_15 ?_
    refine gJ_lor dX0_rise_16 ?_
    rw [lS_ob ha]
    refine gJ_put fX0_21 dX0_rise_17 (by repeat (first | exact gUp_s | assumption | refine gUp_n ?_ (by omega))) rfl rfl (Nat.le_of_ble_eq_true rfl) ?_
    refine gJ_aload_n dX0_rise_20 rfl rfl ?_
    refine gJ_get fX0_9 dX0_rise_21 (by repeat (first | exact gUp_s | assumption | refine gUp_n ?_ (by omega))) rfl ?_
    refine gJ_iload_n dX0_rise_24 rfl rfl ?_
    refine gJ_iload_n dX0_rise_25 rfl rfl ?_
    refine gJ_iastN (j := a) dX0_rise_26 (by repeat (first | exact gUp_s | assumption | refine gUp_n ?_ (by omega))) (by first | with_reducible rfl | rfl) (by omega) (by decide) ?_
    try rw [gUp_up]
    refine gJ_aload_n dX0_rise_27 rfl rfl ?_
    refine gJ_iload_n dX0_rise_28 rfl rfl ?_
    refine gJ_callV (As := [_]) b_X0_stateOf lX0_38 i_X0_stateOf s_X0_stateOf dX0_rise_29 (c0_st (P := fun b => cStB V 1 b || decide (b = a)) (F := cStB V 2) (by repeat (first | exact gUp_s | assumption | refine gUp_n ?_ (by omega))) a ha 1 (by rw [pf]; simp)) (by repeat (first | exact gUp_s | assumption | refine gUp_n ?_ (by omega))) rfl rfl (Nat.le_of_ble_eq_true rfl) rfl (by decide) (fun M29 v_ h29 => ?_)
    obtain ⟨e29, rfl⟩ := h29
    replace e29 := e29.symm
    subst e29
    refine gJ_iconst (v := 1) dX0_rise_32 (by decide) ?_
    refine gJ_icmp_neN (tgt := 89) (a := 1) (b := 1) (by first | with_reducible rfl | rfl) (by first | with_reducible rfl | rfl) (by omega) (by omega) dX0_rise_33 (by decide) (fun c_ => by exfalso; omega) (fun _ => ?_)
    refine gJ_iload_n dX0_rise_36 rfl rfl ?_
    refine gJ_aload_n dX0_rise_37 rfl rfl ?_
    refine gJ_get fX0_9 dX0_rise_38 (by repeat (first | exact gUp_s | assumption | refine gUp_n ?_ (by omega))) rfl ?_
    refine gJ_iload_n dX0_rise_41 rfl rfl ?_
    refine gJ_ialdN (j := a) dX0_rise_42 (by repeat (first | exact gUp_s | assumption | refine gUp_n ?_ (by omega))) (by first | with_reducible rfl | rfl) (by omega) (by decide) ?_
    rw [pk_us]
    refine gJ_isub dX0_rise_43 ?_
    refine gJ_iload_n dX0_rise_44 rfl rfl ?_
    refine gJ_icmp_lt (tgt := 89) dX0_rise_45 (by decide) (fun c45 => ?_) (fun c45 => ?_)
    · refine gJ_vret dX0_rise_89 rfl ?_
      rw [if_pos hv, if_pos c45] at hGo
      have hWW := hW
      rw [hGo] at hWW ⊢
      refine ⟨(by repeat (first | exact gFr_r | refine gFr_u ?_ (by omega))), ?_, rfl⟩
      refine cRA_set (X := X) (R := R) (C := C) (K := K) (X2 := upd X a (V 1847)) (R2 := R) (C2 := C) (pe := lS (fun b => cStB V 1 b || decide (b = a)) 60) (fi := lS (cStB V 2) 60) hWW (by repeat (first | exact gUp_s | assumption | refine gUp_n ?_ (by omega))) ?_ ?_ (by repeat (first | exact gUp_s | assumption | refine gUp_n ?_ (by omega))) (by repeat (first | exact gUp_s | assumption | refine gUp_n ?_ (by omega))) (by repeat (first | exact gUp_s | assumption | refine gUp_n ?_ (by omega))) hX hR (fun b hb => pk_un hb) (fun _ _ _ _ => rfl) (fun _ _ => rfl) (fun _ => ?_) ?_ (fun b hb => if_neg hb)
      · exact hbit _ 1 _ hWW (fun b hb => by simp [hb]) (by rw [pk_un (by omega), pk_us]; simp)
      · exact hbit _ 2 _ hWW (fun b hb => rfl) (by rw [pk_un (by omega), pk_us, pf]; rfl)
      · rw [pk_us, pk_us]
      · show cRing (if a = a then K a + 1 else K a) _ _ _ _
        rw [if_pos rfl]
        exact ⟨c, hc, by omega, by rw [pk_un (by omega), pk_un (by omega)]; exact hcn, fun j hj => by rw [pk_un (by omega), pk_un (by omega)]; exact hcj j hj⟩
    · rw [if_pos hv, if_neg c45] at hGo
      exact gJ_ls (L48 (fun b => cStB V 1 b || decide (b = a)) (upd X a (V 1847)) _ (by repeat (first | exact gFr_r | refine gFr_u ?_ (by omega))) (by repeat (first | exact gUp_s | assumption | refine gUp_n ?_ (by omega))) (by repeat (first | exact gUp_s | assumption | refine gUp_n ?_ (by omega))) (by repeat (first | exact gUp_s | assumption | refine gUp_n ?_ (by omega))) (by repeat (first | exact gUp_s | assumption | refine gUp_n ?_ (by omega))) (fun b hb => by simp [hb]) (fun b hb => pk_un hb) hGo) ⟨rfl, rfl, rfl, trivial⟩
  · have pf : cStB V 2 a = false := by rw [cStB, hv]; rfl
    have pp : cStB V 1 a = true := by rw [cStB, hv]; rfl
    have hv0 : ¬ V (206 + 23 * a) = 0 := by rw [hv]; decide
    have hXa := hX a ha hv0
    show gJ _ _ _ _ _ _ 0 [(0, _), (1, _), (2, _), (3, _)] [] _
    refine gJ_aload_n dX0_rise_0 rfl rfl ?_
    refine gJ_iload_n dX0_rise_1 rfl rfl ?_
    refine gJ_callV (As := [_]) b_X0_stateOf lX0_38 i_X0_stateOf s_X0_stateOf dX0_rise_2 (c0_st h0 a ha 1 (by rw [pf, pp]; rfl)) (by first | with_reducible assumption | with_reducible exact gUp_s | with_reducible exact gUp_n (by with_reducible assumption) (by omega) | exact gUp_n (by assumption) (by omega) | exact gUp_s | assumption) rfl rfl (Nat.le_of_ble_eq_true rfl) rfl (by decide) (fun M2 v_ h2 => ?_)
    obtain ⟨e_, rfl⟩ := h2
    replace e_ := e_.symm
    subst e_
    refine gJ_if_neN (tgt := 27) (a := 1) (by first | with_reducible rfl | rfl) (by omega) dX0_rise_5 (by decide) (fun _ => ?_) (fun c_ => by exfalso; omega)
    refine gJ_aload_n dX0_rise_27 rfl rfl ?_
    refine gJ_iload_n dX0_rise_28 rfl rfl ?_
    refine gJ_callV (As := [_]) b_X0_stateOf lX0_38 i_X0_stateOf s_X0_stateOf dX0_rise_29 (c0_st h0 a ha 1 (by rw [pf, pp]; rfl)) (by first | with_reducible assumption | with_reducible exact gUp_s | with_reducible exact gUp_n (by with_reducible assumption) (by omega) | exact gUp_n (by assumption) (by omega) | exact gUp_s | assumption) rfl rfl (Nat.le_of_ble_eq_true rfl) rfl (by decide) (fun M29 v_ h29 => ?_)
    obtain ⟨e29, rfl⟩ := h29
    replace e29 := e29.symm
    subst e29
    refine gJ_iconst (v := 1) dX0_rise_32 (by decide) ?_
    refine gJ_icmp_neN (tgt := 89) (a := 1) (b := 1) (by first | with_reducible rfl | rfl) (by first | with_reducible rfl | rfl) (by omega) (by omega) dX0_rise_33 (by decide) (fun c_ => by exfalso; omega) (fun _ => ?_)
    refine gJ_iload_n dX0_rise_36 rfl rfl ?_
    refine gJ_aload_n dX0_rise_37 rfl rfl ?_
    refine gJ_get fX0_9 dX0_rise_38 (by first | with_reducible assumption | with_reducible exact gUp_s | with_reducible exact gUp_n (by with_reducible assumption) (by omega) | exact gUp_n (by assumption) (by omega) | exact gUp_s | assumption) rfl ?_
    refine gJ_iload_n dX0_rise_41 rfl rfl ?_
    refine gJ_ialdN (j := a) dX0_rise_42 (by first | with_reducible assumption | with_reducible exact gUp_s | with_reducible exact gUp_n (by with_reducible assumption) (by omega) | exact gUp_n (by assumption) (by omega) | exact gUp_s | assumption) (by first | with_reducible rfl | rfl) (by omega) (by decide) ?_
    rw [hXa]
    refine gJ_isub dX0_rise_43 ?_
    refine gJ_iload_n dX0_rise_44 rfl rfl ?_
    refine gJ_icmp_lt (tgt := 89) dX0_rise_45 (by decide) (fun c45 => ?_) (fun c45 => ?_)
    · refine gJ_vret dX0_rise_89 rfl ?_
      rw [if_neg hv0, if_pos hv, if_pos c45] at hGo
      exact ⟨gFr_r, stay hGo, rfl⟩
    · rw [if_neg hv0, if_pos hv, if_neg c45] at hGo
      exact gJ_ls (L48 (cStB V 1) X _ gFr_r h0 h1 h2 h3 (fun b hb => rfl) (fun b hb => rfl) hGo) ⟨rfl, rfl, rfl, trivial⟩
  · have pf : cStB V 2 a = true := by rw [cStB, hv]; rfl
    have hv0 : ¬ V (206 + 23 * a) = 0 := by rw [hv]; decide
    have hv1 : ¬ V (206 + 23 * a) = 1 := by rw [hv]; decide
    show gJ _ _ _ _ _ _ 0 [(0, _), (1, _), (2, _), (3, _)] [] _
    refine gJ_aload_n dX0_rise_0 rfl rfl ?_
    refine gJ_iload_n dX0_rise_1 rfl rfl ?_
    refine gJ_callV (As := [_]) b_X0_stateOf lX0_38 i_X0_stateOf s_X0_stateOf dX0_rise_2 (c0_st h0 a ha 2 (by rw [pf]; rfl)) (by first | with_reducible assumption | with_reducible exact gUp_s | with_reducible exact gUp_n (by with_reducible assumption) (by omega) | exact gUp_n (by assumption) (by omega) | exact gUp_s | assumption) rfl rfl (Nat.le_of_ble_eq_true rfl) rfl (by decide) (fun M2 v_ h2 => ?_)
    obtain ⟨e_, rfl⟩ := h2
    replace e_ := e_.symm
    subst e_
    refine gJ_if_neN (tgt := 27) (a := 2) (by first | with_reducible rfl | rfl) (by omega) dX0_rise_5 (by decide) (fun _ => ?_) (fun c_ => by exfalso; omega)
    refine gJ_aload_n dX0_rise_27 rfl rfl ?_
    refine gJ_iload_n dX0_rise_28 rfl rfl ?_
    refine gJ_callV (As := [_]) b_X0_stateOf lX0_38 i_X0_stateOf s_X0_stateOf dX0_rise_29 (c0_st h0 a ha 2 (by rw [pf]; rfl)) (by first | with_reducible assumption | with_reducible exact gUp_s | with_reducible exact gUp_n (by with_reducible assumption) (by omega) | exact gUp_n (by assumption) (by omega) | exact gUp_s | assumption) rfl rfl (Nat.le_of_ble_eq_true rfl) rfl (by decide) (fun M29 v_ h29 => ?_)
    obtain ⟨e29, rfl⟩ := h29
    replace e29 := e29.symm
    subst e29
    refine gJ_iconst (v := 1) dX0_rise_32 (by decide) ?_
    refine gJ_icmp_neN (tgt := 89) (a := 2) (b := 1) (by first | with_reducible rfl | rfl) (by first | with_reducible rfl | rfl) (by omega) (by omega) dX0_rise_33 (by decide) (fun _ => ?_) (fun c_ => by exfalso; omega)
    refine gJ_vret dX0_rise_89 rfl ?_
    rw [if_neg hv0, if_neg hv1] at hGo
    exact ⟨gFr_r, stay hGo, rfl⟩
set_option maxHeartbeats 4000000 in
set_option maxRecDepth 20000 in
theorem c0_settle (h : cRA K M p V) (hI : mI V) (a : Nat) (ha : a < 60) (hK : K a + 1 ≤ 200000) (hH : mHolds V a = false) : gCon G kX0_settle 2 0 0 M [.ref p, .int (nI a), .int (V 1847)] (fun M2 v => gFr M M2 p 4 ∧ cRA (fun b => if b = a then K a + 1 else K b) M2 p (mGo V a) ∧ v = none) := by
  obtain ⟨X, R, C, h0, h1, h2, h3, hX, hR⟩ := h
  obtain ⟨c, hc, hcK, hcn, hcj⟩ := hR a ha
  have hn2 := (hI.2.2.2.2.2.1 a ha).2
  have hW := fun b hb hab i hi => mGo_w hI ha hb hab (b := b) (i := i) hi
  have hGo : mGo V a = if V (206 + 23 * a) = 2 then upd (mTurns V a) (206 + 23 * a) 0 else upd V (206 + 23 * a) 0 := by rw [mGo, if_neg (by rw [hH]; exact Bool.false_ne_true)]
  have h00 : mGo V a (206 + 23 * a) = 0 := by rw [hGo]; split <;> exact pk_us
  have hbit : ∀ (z : Int32) (Q : Nat → Bool), (∀ b, b ≠ a → Q b = cStB V z b) → Q a = decide ((0 : Int32) = z) → lS Q 60 = lS (cStB (mGo V a) z) 60 := by
    intro z Q hQ hQa
    refine lS_ext fun b hb => ?_
    by_cases e : b = a
    · subst e; rw [hQa, cStB, h00]
    · rw [hQ b e, cStB, cStB]
      have := hW b hb e 0 (by omega)
      rw [Nat.add_zero] at this
      rw [this]
  have L15 : ∀ (R1 C1 : Nat → Int32) (M1 : gM), gFr M M1 p 4 → M1.1 p = some (cAS p (lS (cStB V 1) 60) (lS (cStB V 2) 60)) → M1.1 (p + 1) = some (gI 60 X) → M1.1 (p + 2) = some (gI 1200 R1) → M1.1 (p + 3) = some (gI 60 C1) → (∀ b j, b ≠ a → j < 20 → R1 (b * 20 + j) = R (b * 20 + j)) → (∀ b, b ≠ a → C1 b = C b) → cRing (K a + 1) R1 C1 (mGo V a) a →
      gJ G kX0_settle 2 0 0 M1 15 [(0, .ref p), (1, .int (nI a)), (2, .int (V 1847))] [] (gQ kX0_settle (fun M2 v => gFr M M2 p 4 ∧ cRA (fun b => if b = a then K a + 1 else K b) M2 p (mGo V a) ∧ v = none)) := by
    intro R1 C1 M1 hf g0 g1 g2 g3 hR1 hC1 hRa
    refine gJ_aload_n dX0_settle_15 rfl rfl ?_
    refine gJ_dup dX0_settle_16 rfl ?_
    refine gJ_get fX0_21 dX0_settle_17 (by repeat (first | exact gUp_s | assumption | refine gUp_n ?_ (by omega))) rfl ?_
    refine gJ_lconst (v := 1) dX0_settle_20 (by decide) ?_
    refine gJ_iload_n dX0_settle_21 rfl rfl ?_
    refine gJ_lshl dX0_settle_22 ?_
    refine gJ_ldc2 (v := -1) dX0_settle_23 cX0_55 ?_
    refine gJ_lxor dX0_settle_26 ?_
    refine gJ_land dX0_settle_27 ?_
    rw [lS_nb ha]
    refine gJ_put fX0_21 dX0_settle_28 (by repeat (first | exact gUp_s | assumption | refine gUp_n ?_ (by omega))) rfl rfl (Nat.le_of_ble_eq_true rfl) ?_
    refine gJ_aload_n dX0_settle_31 rfl rfl ?_
    refine gJ_dup dX0_settle_32 rfl ?_
    refine gJ_get fX0_25 dX0_settle_33 (by repeat (first | exact gUp_s | assumption | refine gUp_n ?_ (by omega))) rfl ?_
    refine gJ_lconst (v := 1) dX0_settle_36 (by decide) ?_
    refine gJ_iload_n dX0_settle_37 rfl rfl ?_
    refine gJ_lshl dX0_settle_38 ?_
    refine gJ_ldc2 (v := -1) dX0_settle_39 cX0_55 ?_
    refine gJ_lxor dX0_settle_42 ?_
    refine gJ_land dX0_settle_43 ?_
    rw [lS_nb ha]
    refine gJ_put fX0_25 dX0_settle_44 (by repeat (first | exact gUp_s | assumption | refine gUp_n ?_ (by omega))) rfl rfl (Nat.le_of_ble_eq_true rfl) ?_
    refine gJ_vret dX0_settle_47 rfl ?_
    refine ⟨gFr_t hf (by repeat (first | exact gFr_r | refine gFr_u ?_ (by omega))), ?_, rfl⟩
    refine cRA_set (X := X) (R := R) (C := C) (K := K) (X2 := X) (R2 := R1) (C2 := C1) (pe := lS (fun b => cStB V 1 b && !decide (b = a)) 60) (fi := lS (fun b => cStB V 2 b && !decide (b = a)) 60) hW (by repeat (first | exact gUp_s | assumption | refine gUp_n ?_ (by omega))) ?_ ?_ (by repeat (first | exact gUp_s | assumption | refine gUp_n ?_ (by omega))) (by repeat (first | exact gUp_s | assumption | refine gUp_n ?_ (by omega))) (by repeat (first | exact gUp_s | assumption | refine gUp_n ?_ (by omega))) hX hR (fun _ _ => rfl) hR1 hC1 (fun hz => absurd h00 hz) ?_ (fun b hb => if_neg hb)
    · exact hbit 1 _ (fun b hb => by simp [hb]) (by simp)
    · exact hbit 2 _ (fun b hb => by simp [hb]) (by simp)
    · show cRing (if a = a then K a + 1 else K a) _ _ _ _
      rw [if_pos rfl]
      exact hRa
  refine gCon_of (by decide) (Nat.le_of_ble_eq_true rfl) ?_
  rcases cSt_c hI ha with hv | hv | hv
  · have pf : cStB V 2 a = false := by rw [cStB, hv]; rfl
    have pp : cStB V 1 a = false := by rw [cStB, hv]; rfl
    rw [if_neg (by rw [hv]; decide)] at hGo
    show gJ _ _ _ _ _ _ 0 [(0, _), (1, _), (2, _)] [] _
    refine gJ_aload_n dX0_settle_0 rfl rfl ?_
    refine gJ_iload_n dX0_settle_1 rfl rfl ?_
    refine gJ_callV (As := [_]) b_X0_stateOf lX0_38 i_X0_stateOf s_X0_stateOf dX0_settle_2 (c0_st h0 a ha 0 (by rw [pf, pp]; rfl)) (by first | with_reducible assumption | with_reducible exact gUp_s | with_reducible exact gUp_n (by with_reducible assumption) (by omega) | exact gUp_n (by assumption) (by omega) | exact gUp_s | assumption) rfl rfl (Nat.le_of_ble_eq_true rfl) rfl (by decide) (fun M2 v_ h2 => ?_)
    obtain ⟨e_, rfl⟩ := h2
    replace e_ := e_.symm
    subst e_
    refine gJ_iconst (v := 2) dX0_settle_5 (by decide) ?_
    refine gJ_icmp_neN (tgt := 15) (a := 0) (b := 2) (by first | with_reducible rfl | rfl) (by first | with_reducible rfl | rfl) (by omega) (by omega) dX0_settle_6 (by decide) (fun _ => ?_) (fun c_ => by exfalso; omega)
    exact gJ_ls (L15 R C M gFr_r h0 h1 h2 h3 (fun _ _ _ _ => rfl) (fun _ _ => rfl) ⟨c, hc, by omega, by rw [hGo, pk_un (by omega)]; exact hcn, fun j hj => by rw [hGo, pk_un (by omega)]; exact hcj j hj⟩) ⟨rfl, rfl, rfl, trivial⟩
  · have pf : cStB V 2 a = false := by rw [cStB, hv]; rfl
    have pp : cStB V 1 a = true := by rw [cStB, hv]; rfl
    rw [if_neg (by rw [hv]; decide)] at hGo
    show gJ _ _ _ _ _ _ 0 [(0, _), (1, _), (2, _)] [] _
    refine gJ_aload_n dX0_settle_0 rfl rfl ?_
    refine gJ_iload_n dX0_settle_1 rfl rfl ?_
    refine gJ_callV (As := [_]) b_X0_stateOf lX0_38 i_X0_stateOf s_X0_stateOf dX0_settle_2 (c0_st h0 a ha 1 (by rw [pf, pp]; rfl)) (by first | with_reducible assumption | with_reducible exact gUp_s | with_reducible exact gUp_n (by with_reducible assumption) (by omega) | exact gUp_n (by assumption) (by omega) | exact gUp_s | assumption) rfl rfl (Nat.le_of_ble_eq_true rfl) rfl (by decide) (fun M2 v_ h2 => ?_)
    obtain ⟨e_, rfl⟩ := h2
    replace e_ := e_.symm
    subst e_
    refine gJ_iconst (v := 2) dX0_settle_5 (by decide) ?_
    refine gJ_icmp_neN (tgt := 15) (a := 1) (b := 2) (by first | with_reducible rfl | rfl) (by first | with_reducible rfl | rfl) (by omega) (by omega) dX0_settle_6 (by decide) (fun _ => ?_) (fun c_ => by exfalso; omega)
    exact gJ_ls (L15 R C M gFr_r h0 h1 h2 h3 (fun _ _ _ _ => rfl) (fun _ _ => rfl) ⟨c, hc, by omega, by rw [hGo, pk_un (by omega)]; exact hcn, fun j hj => by rw [hGo, pk_un (by omega)]; exact hcj j hj⟩) ⟨rfl, rfl, rfl, trivial⟩
  · have pf : cStB V 2 a = true := by rw [cStB, hv]; rfl
    rw [if_pos hv] at hGo
    have hring := ring_turn (W := mGo V a) hc hcK hcn hcj (fun i h2 h23 => by rw [hGo, pk_un (by omega)])
    show gJ _ _ _ _ _ _ 0 [(0, _), (1, _), (2, _)] [] _
    refine gJ_aload_n dX0_settle_0 rfl rfl ?_
    refine gJ_iload_n dX0_settle_1 rfl rfl ?_
    refine gJ_callV (As := [_]) b_X0_stateOf lX0_38 i_X0_stateOf s_X0_stateOf dX0_settle_2 (c0_st h0 a ha 2 (by rw [pf]; rfl)) (by first | with_reducible assumption | with_reducible exact gUp_s | with_reducible exact gUp_n (by with_reducible assumption) (by omega) | exact gUp_n (by assumption) (by omega) | exact gUp_s | assumption) rfl rfl (Nat.le_of_ble_eq_true rfl) rfl (by decide) (fun M2 v_ h2 => ?_)
    obtain ⟨e_, rfl⟩ := h2
    replace e_ := e_.symm
    subst e_
    refine gJ_iconst (v := 2) dX0_settle_5 (by decide) ?_
    refine gJ_icmp_neN (tgt := 15) (a := 2) (b := 2) (by first | with_reducible rfl | rfl) (by first | with_reducible rfl | rfl) (by omega) (by omega) dX0_settle_6 (by decide) (fun c_ => by exfalso; omega) (fun _ => ?_)
    refine gJ_aload_n dX0_settle_9 rfl rfl ?_
    refine gJ_iload_n dX0_settle_10 rfl rfl ?_
    refine gJ_iload_n dX0_settle_11 rfl rfl ?_
    refine gJ_callV (As := [_, _]) b_X0_remember lX0_57 i_X0_remember s_X0_remember dX0_settle_12 (c0_remember h0 h2 h3 a c ha hc (by omega) _) (by first | with_reducible assumption | with_reducible exact gUp_s | with_reducible exact gUp_n (by with_reducible assumption) (by omega) | exact gUp_n (by assumption) (by omega) | exact gUp_s | assumption) rfl rfl (Nat.le_of_ble_eq_true rfl) rfl (by decide) (fun M12 v_ h12 => ?_)
    obtain ⟨e12, rfl⟩ := h12
    replace e12 := e12.symm
    subst e12
    exact gJ_ls (L15 _ _ _ (by repeat (first | exact gFr_r | refine gFr_u ?_ (by omega))) (by repeat (first | exact gUp_s | assumption | refine gUp_n ?_ (by omega))) (by repeat (first | exact gUp_s | assumption | refine gUp_n ?_ (by omega))) (by repeat (first | exact gUp_s | assumption | refine gUp_n ?_ (by omega))) (by repeat (first | exact gUp_s | assumption | refine gUp_n ?_ (by omega))) (fun b j hb hj => pk_un (by omega)) (fun b hb => pk_un hb) hring) ⟨rfl, rfl, rfl, trivial⟩
def cRow (a r : Nat) : Bool := decide (a / 12 = r)
end CLS
