theorem cRA_V {K : Nat → Nat} {M : gM} {p : Nat} {V W : Nat → Int32} (h : cRA K M p V) (hW : ∀ i, 206 ≤ i → i < 1586 → W i = V i) : cRA K M p W := by
  obtain ⟨X, R, C, h0, h1, h2, h3, hX, hR⟩ := h
  have hs : ∀ z, lS (cStB W z) 60 = lS (cStB V z) 60 := fun z => lS_ext fun a ha => by unfold cStB; rw [hW _ (by omega) (by omega)]
  refine ⟨X, R, C, by rw [hs, hs]; exact h0, h1, h2, h3, fun a ha hz => ?_, fun a ha => ?_⟩
  · rw [hW _ (by omega) (by omega)] at hz ⊢
    exact hX a ha hz
  · obtain ⟨c, c1, c2, c3, c4⟩ := hR a ha
    exact ⟨c, c1, c2, by rw [hW _ (by omega) (by omega)]; exact c3, fun j hj => by rw [hW _ (by omega) (by omega)]; exact c4 j hj⟩
theorem mJ_of {V W : Nat → Int32} (h : mJ V) (hW : ∀ i, i < 1586 → W i = V i) : mJ W := by
  intro a ha hz
  rw [hW _ (by omega)] at hz ⊢
  exact h a ha hz
theorem mSnd_lo {V : Nat → Int32} {key kind i : Nat} {x : Int64} (hi : i < 1586 ∨ (1842 ≤ i ∧ i < 1848)) (hk : key < 128) : mSnd V key kind x i = V i := by
  unfold mSnd
  rw [if_neg (by omega), if_neg (by omega), if_neg (by omega), if_neg (by omega), if_neg (by omega), if_neg (by omega), if_neg (by omega), if_neg (by omega), if_neg (by omega)]
theorem mHolds_p {V : Nat → Int32} (hI : mI V) {a : Nat} (ha : a < 60) (h : mHolds V a = true) : V (60 + 10 * (a / 12)) = 1 := by
  obtain ⟨x, h1, h2⟩ := (hI.2.2.1 (a / 12) (by omega)).1
  rcases (show x = 0 ∨ x = 1 by omega) with rfl | rfl
  · exfalso
    unfold mHolds at h
    rw [h2] at h
    cases h
  · exact h2
theorem mGo_J {V : Nat → Int32} (hI : mI V) (hJ : mJ V) {a : Nat} (ha : a < 60) : mJ (mGo V a) := by
  have hn := (hI.2.2.2.2.2.1 a ha).2
  intro b hb hz
  rw [mGo_out hn (by omega)]
  by_cases e : b = a
  · subst e
    cases hh : mHolds V b with
    | true => exact mHolds_p hI hb hh
    | false =>
      exfalso
      apply hz
      rw [mGo, hh, if_neg Bool.false_ne_true]
      split <;> exact pk_us
  · rw [mGo_out hn (by omega)] at hz
    exact hJ b hb hz
theorem mGos_J {V : Nat → Int32} (hI : mI V) (hJ : mJ V) : ∀ n, n ≤ 60 → mJ (mGos V n)
  | 0, _ => hJ
  | n + 1, hn => mGo_J (mGos_I hI n (by omega)) (mGos_J hI hJ n (by omega)) (by omega)
theorem mTick_J {V : Nat → Int32} (hI : mI V) (hJ : mJ V) : mJ (mTick V) := by
  rw [mTick_eq]
  exact mGos_J (mI_tick hI) (mJ_of hJ (fun i hi => pk_un (by omega))) 60 (by omega)
/-- what a step leaves as it is -/
theorem mKs_lo {act : Int64} {p : mT} {i : Nat} (hi : i < 1586 ∨ (1842 ≤ i ∧ i < 1848)) : ∀ n, n ≤ 128 → (mKs act p n).1 i = p.1 i
  | 0, _ => rfl
  | n + 1, hn => by
    rw [mKs]
    rcases mStepK_or act (mKs act p n) n with e | ⟨kind, x, T, -, e⟩
    · rw [e]; exact mKs_lo hi n (by omega)
    · rw [e]
      show mSnd (mKs act p n).1 n kind x i = _
      rw [mSnd_lo hi (by omega)]
      exact mKs_lo hi n (by omega)
theorem mTick_lo {V : Nat → Int32} (hI : mI V) {i : Nat} (hi : i < 206 ∨ 1586 ≤ i) (h2 : i ≠ 1847) : mTick V i = V i := by
  rw [mTick_eq, mGos_out (mI_tick hI) hi 60 (by omega), pk_un h2]
theorem mTick_47 {V : Nat → Int32} (hI : mI V) : mTick V 1847 = V 1847 + 1 := by rw [mTick_eq, mGos_out (mI_tick hI) (by omega) 60 (by omega), pk_us]
theorem mStep_J {p : mT} (hI : mI p.1) (hJ : mJ p.1) : mJ (mStep p).1 := by
  rw [mStep_eq]
  exact mJ_of (mTick_J hI hJ) (fun i hi => mKs_lo (Or.inl hi) 128 (by omega))
theorem mWith_V {V W : Nat → Int32} {x : Int64} {key : Int32} (h : ∀ i, i < 36 ∨ i = 1846 → W i = V i) : mWith W x key = mWith V x key := by
  unfold mWith
  refine lS_ext fun a _ => ?_
  unfold mKeyP mKey
  rw [h _ (by omega), h _ (by omega), h _ (by omega), h _ (by omega)]
theorem mStepK_no {act : Int64} {W : Nat → Int32} {U D : Nat → Int64} {j : Nat} (hD : D j = mWith W act (nI j)) (h : cDue W U D (W 1847) j = -5) : mStepK act (W, U) j = (W, U) := by
  unfold cDue at h
  unfold mStepK
  rw [hD] at h
  by_cases ho : W (1586 + 2 * j) = 1
  · rw [if_pos ho] at h
    rw [if_pos ho]
    by_cases h0 : mWith W act (nI j) = 0
    · rw [if_pos h0] at h; exact absurd h (by decide)
    · rw [if_neg h0] at h
      by_cases h1 : ¬ mWith W act (nI j) &&& (U j ^^^ (-1)) = 0 ∧ ¬ W 1847 - W (1586 + 2 * j + 1) < W 1842
      · rw [if_pos h1] at h; exact absurd h (by decide)
      · rw [if_neg h1] at h
        have h2 : mWith W act (nI j) &&& (U j ^^^ (-1)) = 0 ∨ W 1847 - W (1586 + 2 * j + 1) < W 1842 := by
          by_cases e : mWith W act (nI j) &&& (U j ^^^ (-1)) = 0
          · exact Or.inl e
          · exact Or.inr (Classical.byContradiction fun e2 => h1 ⟨e, e2⟩)
        rw [if_pos h2, if_neg h0]
        by_cases h3 : W 1847 - W (1586 + 2 * j + 1) < W 1843
        · rw [if_pos h3]
        · rw [if_neg h3] at h; exact absurd h (by decide)
  · rw [if_neg ho] at h
    rw [if_neg ho]
    by_cases h0 : mWith W act (nI j) = 0
    · rw [if_pos h0]
    · rw [if_neg h0] at h; exact absurd h (by decide)
theorem mStepK_do {act : Int64} {W : Nat → Int32} {U D : Nat → Int64} {j : Nat} (hD : D j = mWith W act (nI j)) (h : ¬ cDue W U D (W 1847) j = -5) : ∃ kind, kind < 4 ∧ cDue W U D (W 1847) j = nI kind ∧ (kind = 3 → D j = 0) ∧ mStepK act (W, U) j = (mSnd W j kind (D j), vp_updL U j (D j)) := by
  unfold cDue at h ⊢
  unfold mStepK
  rw [hD] at h ⊢
  by_cases ho : W (1586 + 2 * j) = 1
  · rw [if_pos ho] at h ⊢
    rw [if_pos ho]
    by_cases h0 : mWith W act (nI j) = 0
    · rw [if_pos h0, if_pos (Or.inl (by rw [h0]; exact Int64.zero_and)), if_pos h0]
      exact ⟨3, by omega, rfl, fun _ => h0, rfl⟩
    · rw [if_neg h0] at h ⊢
      by_cases h1 : ¬ mWith W act (nI j) &&& (U j ^^^ (-1)) = 0 ∧ ¬ W 1847 - W (1586 + 2 * j + 1) < W 1842
      · rw [if_pos h1, if_neg (fun h2 => h2.elim h1.1 h1.2)]
        exact ⟨1, by omega, rfl, fun h => absurd h (by omega), rfl⟩
      · rw [if_neg h1] at h ⊢
        have h2 : mWith W act (nI j) &&& (U j ^^^ (-1)) = 0 ∨ W 1847 - W (1586 + 2 * j + 1) < W 1842 := by
          by_cases e : mWith W act (nI j) &&& (U j ^^^ (-1)) = 0
          · exact Or.inl e
          · exact Or.inr (Classical.byContradiction fun e2 => h1 ⟨e, e2⟩)
        rw [if_pos h2, if_neg h0]
        by_cases h3 : W 1847 - W (1586 + 2 * j + 1) < W 1843
        · rw [if_pos h3] at h; exact absurd rfl h
        · rw [if_neg h3, if_neg h3]
          exact ⟨2, by omega, rfl, fun h => absurd h (by omega), rfl⟩
  · rw [if_neg ho] at h ⊢
    rw [if_neg ho]
    by_cases h0 : mWith W act (nI j) = 0
    · rw [if_pos h0] at h; exact absurd rfl h
    · rw [if_neg h0, if_neg h0]
      exact ⟨0, by omega, rfl, fun h => absurd h (by omega), rfl⟩
section CLS
variable {G : gG} {M : gM} {E s T : Nat} {V : Nat → Int32} {S D : Nat → Int64}
set_option maxHeartbeats 1000000 in
set_option maxRecDepth 20000 in
theorem c9_sendGroup {N : Nat} (hs : M.1 s = some (cSta s (V 1847))) (hS : cRS M E (s + 1) V) (hG : cRG M (s + 14) V S D) (hL : cRL N M (s + 19) V) (hE : s + 21 ≤ E) (hN : N < 2 ^ 30) (hI : mI V) (hT : ∃ t, t ≤ 200000 ∧ V 1847 = nI t) (key kind : Nat) (hk : key < 128) (hkd : kind < 4) (hx : ∀ a, lB (D key) a = true → a < 60 ∧ V (60 + 10 * (a / 12)) = 1) (h3 : kind = 3 → D key = 0) : gCon G kX9_sendGroup 1 0 0 M [.ref s, .int (nI key), .int (nI kind)] (fun M2 v => gFr M M2 (s + 14) 7 ∧ cRG M2 (s + 14) (mSnd V key kind (D key)) (vp_updL S key (D key)) D ∧ cRL (N + 1) M2 (s + 19) (mSnd V key kind (D key)) ∧ v = none) := by
  have hmk := c2_markSent (G := G) hG hT key kind hk hkd
  have hbig : ∀ a, 60 ≤ a → lB (D key) a = false := fun a ha => Bool.not_eq_true _ |>.mp (fun h => absurd (hx a h).1 (by omega))
  have hbc := bC_size hbig
  obtain ⟨A, B, g0, g1, g2, g3, g4, g5⟩ := hG
  have hsv : mGr V (D key) 60 = if kind = 3 then -5 else mGr V (D key) 60 := by
    by_cases e : kind = 3
    · rw [if_pos e, h3 e, mGr_none (fun a _ => lB_0 a)]
    · rw [if_neg e]
  refine gCon_of (by decide) (Nat.le_of_ble_eq_true rfl) ?_
  show gJ _ _ _ _ _ _ 0 [(0, _), (1, _), (2, _)] [] _
  refine gJ_aload_n dX9_sendGroup_0 rfl rfl ?_
  refine gJ_get fX9_28 dX9_sendGroup_1 (by first | with_reducible assumption | with_reducible exact gUp_s | with_reducible exact gUp_n (by with_reducible assumption) (by omega) | exact gUp_n (by assumption) (by omega) | exact gUp_s | assumption) rfl ?_
  refine gJ_get fX9_83 dX9_sendGroup_4 (by first | with_reducible assumption | with_reducible exact gUp_s | with_reducible exact gUp_n (by with_reducible assumption) (by omega) | exact gUp_n (by assumption) (by omega) | exact gUp_s | assumption) rfl ?_
  refine gJ_iload_n dX9_sendGroup_7 rfl rfl ?_
  refine gJ_laldN (j := key) dX9_sendGroup_8 (by first | with_reducible assumption | with_reducible exact gUp_s | with_reducible exact gUp_n (by with_reducible assumption) (by omega) | exact gUp_n (by assumption) (by omega) | exact gUp_s | assumption) (by first | with_reducible rfl | rfl) (by omega) (by decide) ?_
  refine gJ_lstore_n (lv2 := [(3, _), (0, _), (1, _), (2, _)]) dX9_sendGroup_9 rfl rfl rfl ?_
  refine gJ_aload_n dX9_sendGroup_10 rfl rfl ?_
  refine gJ_get fX9_28 dX9_sendGroup_11 (by first | with_reducible assumption | with_reducible exact gUp_s | with_reducible exact gUp_n (by with_reducible assumption) (by omega) | exact gUp_n (by assumption) (by omega) | exact gUp_s | assumption) rfl ?_
  refine gJ_iload_n dX9_sendGroup_14 rfl rfl ?_
  refine gJ_iload_n dX9_sendGroup_15 rfl rfl ?_
  refine gJ_aload_n dX9_sendGroup_16 rfl rfl ?_
  refine gJ_get fX9_39 dX9_sendGroup_17 (by first | with_reducible assumption | with_reducible exact gUp_s | with_reducible exact gUp_n (by with_reducible assumption) (by omega) | exact gUp_n (by assumption) (by omega) | exact gUp_s | assumption) rfl ?_
  refine gJ_callV (As := [_, _, _]) b_X2_markSent lX9_87 i_X2_markSent s_X2_markSent dX9_sendGroup_20 (hmk) (by first | with_reducible assumption | with_reducible exact gUp_s | with_reducible exact gUp_n (by with_reducible assumption) (by omega) | exact gUp_n (by assumption) (by omega) | exact gUp_s | assumption) rfl rfl (Nat.le_of_ble_eq_true rfl) rfl (by decide) (fun M20 v_ h20 => ?_)
  obtain ⟨hf20, hG20, rfl⟩ := h20
  have hs20 := gFr_g hf20 hs (by omega)
  have hL20 := cRL_fr hL hf20 (by omega)
  obtain ⟨o20, ho20⟩ : ∃ o, M20.1 (s + 19) = some (gO 3 o) := (by obtain ⟨n_, L_, -, -, q0, -⟩ := hL20; exact ⟨_, q0⟩)
  obtain ⟨X, RU, SI, IN, s0, s1, s2, s3, s4, s5, s6, s7, s8, sX, sR, -, -⟩ := cRS_fr hS hf20 (by omega) (by omega)
  refine gJ_aload_n dX9_sendGroup_23 rfl rfl ?_
  refine gJ_get fX9_35 dX9_sendGroup_24 (by first | with_reducible assumption | with_reducible exact gUp_s | with_reducible exact gUp_n (by with_reducible assumption) (by omega) | exact gUp_n (by assumption) (by omega) | exact gUp_s | assumption) rfl ?_
  refine gJ_aload_n dX9_sendGroup_27 rfl rfl ?_
  refine gJ_get fX9_39 dX9_sendGroup_28 (by first | with_reducible assumption | with_reducible exact gUp_s | with_reducible exact gUp_n (by with_reducible assumption) (by omega) | exact gUp_n (by assumption) (by omega) | exact gUp_s | assumption) rfl ?_
  refine gJ_iload_n dX9_sendGroup_31 rfl rfl ?_
  refine gJ_iload_n dX9_sendGroup_32 rfl rfl ?_
  refine gJ_lload_n dX9_sendGroup_33 rfl rfl ?_
  refine gJ_callS (As := [_]) b_J13_bitCount_95d88 lX9_91 i_J13_bitCount_95d88 dX9_sendGroup_34 (c13_bitCount _) rfl (Nat.le_of_ble_eq_true rfl) rfl (by decide) (fun M34 v_ h34 => ?_)
  obtain ⟨e34, rfl⟩ := h34
  replace e34 := e34.symm
  subst e34
  rw [hbc]
  refine gJ_aload_n dX9_sendGroup_37 rfl rfl ?_
  refine gJ_get fX9_12 dX9_sendGroup_38 (by first | with_reducible assumption | with_reducible exact gUp_s | with_reducible exact gUp_n (by with_reducible assumption) (by omega) | exact gUp_n (by assumption) (by omega) | exact gUp_s | assumption) rfl ?_
  refine gJ_lload_n dX9_sendGroup_41 rfl rfl ?_
  refine gJ_callV (As := [_]) b_X7_greatestSeverity lX9_97 i_X7_greatestSeverity s_X7_greatestSeverity dX9_sendGroup_42 (c7_greatestSeverity s0 s8 hI (D key) hx) (by first | with_reducible assumption | with_reducible exact gUp_s | with_reducible exact gUp_n (by with_reducible assumption) (by omega) | exact gUp_n (by assumption) (by omega) | exact gUp_s | assumption) rfl rfl (Nat.le_of_ble_eq_true rfl) rfl (by decide) (fun M42 v_ h42 => ?_)
  obtain ⟨e42, rfl⟩ := h42
  replace e42 := e42.symm
  subst e42
  refine gJ_callV (As := [_, _, _, _, _]) b_X4_write lX9_100 i_X4_write s_X4_write dX9_sendGroup_45 (c4_write hL20 hN key kind (D key) _ hsv) ho20 rfl rfl (Nat.le_of_ble_eq_true rfl) rfl (by decide) (fun M45 v_ h45 => ?_)
  obtain ⟨hf45, hL45, rfl⟩ := h45
  refine gJ_vret dX9_sendGroup_48 rfl ?_
  exact ⟨gFr_t (gFr_w hf20 (by omega) (by omega)) (gFr_w hf45 (by omega) (by omega)), cRG_fr hG20 hf45 (by omega), hL45, rfl⟩
set_option maxHeartbeats 4000000 in
set_option maxRecDepth 20000 in
theorem c9_step (h : cR T M E s V S D) (hE : s + 21 ≤ E) (hT : T + 1 ≤ 200000) (hI : mI V) (hJ : mJ V) : gCon G kX9_step 4 0 0 M [.ref s] (fun M2 v => gFr M M2 s 21 ∧ (∃ D2, cR (T + 1) M2 E s (mStep (V, S)).1 (mStep (V, S)).2 D2) ∧ v = some (.int (mCnt (V, S)))) := by
  obtain ⟨hV, hs, hS, hA, hG, hL⟩ := h
  have hV1 : V 1847 + 1 = nI (T + 1) := by rw [hV, show (1 : Int32) = nI 1 from rfl, nI_add]
  have hI1 : mI (upd V 1847 (V 1847 + 1)) := mI_tick hI
  have hIt := mTick_I hI
  have hJt := mTick_J hI hJ
  have t47 := mTick_47 hI
  have tlo := fun i hi h2 => mTick_lo hI (i := i) hi h2
  refine gCon_of (by decide) (Nat.le_of_ble_eq_true rfl) ?_
  -- the groups one by one
  have loop : ∀ (act : Int64), act = mActs (mTick V) → ∀ (D2 : Nat → Int64), (∀ k, k < 128 → D2 k = mWith (mTick V) act (nI k)) → ∀ (q j c : Nat), j + q = 129 → j ≤ 128 → c ≤ j → ∀ (W : Nat → Int32) (U : Nat → Int64), (W, U) = mKs act (mTick V, S) j → W 1848 = mTick V 1848 + nI c → ∀ M1 : gM, gFr M M1 s 21 → M1.1 s = some (cSta s (W 1847)) → cRS M1 E (s + 1) W → cRA (fun _ => T + 1) M1 (s + 10) W → cRG M1 (s + 14) W U D2 → cRL (128 * T + j) M1 (s + 19) W →
      gJ G kX9_step 4 0 0 M1 51 [(2, .int (nI j)), (1, .int (nI c)), (0, .ref s)] [] (gQ kX9_step (fun M2 v => gFr M M2 s 21 ∧ (∃ D2, cR (T + 1) M2 E s (mStep (V, S)).1 (mStep (V, S)).2 D2) ∧ v = some (.int (mCnt (V, S))))) := by
    intro act hact D2 hD2 q
    induction q with
    | zero => intro j c h1 h2; exact absurd h1 (by omega)
    | succ q ih =>
      intro j c hq hj hcj W U hWU hW48 M1 hf b0 bS bA bG bL
      have hWe : W = (mKs act (mTick V, S) j).1 := by rw [← hWU]
      have hWlo : ∀ i, i < 1586 ∨ (1842 ≤ i ∧ i < 1848) → W i = mTick V i := fun i hi => by rw [hWe]; exact mKs_lo hi j hj
      have hIW : mI W := by rw [hWe]; exact mKs_I (p := (mTick V, S)) hIt j hj
      have hJW : mJ W := mJ_of hJt (fun i hi => hWlo i (Or.inl hi))
      by_cases h128 : j < 128
      · have hDj : D2 j = mWith W act (nI j) := by rw [hD2 j h128]; exact (mWith_V (fun i hi => hWlo i (by omega))).symm
        have hx : ∀ a, lB (D2 j) a = true → a < 60 ∧ W (60 + 10 * (a / 12)) = 1 := by
          intro a ha
          rw [hDj, mWith, lS_b, Bool.and_eq_true, decide_eq_true_eq, mKeyP, Bool.and_eq_true, hact, mActs, lS_b, Bool.and_eq_true] at ha
          obtain ⟨h60, ⟨-, hact2⟩, -⟩ := ha
          refine ⟨h60, ?_⟩
          have hst : mTick V (206 + 23 * a) = 2 := by
            unfold mAct at hact2
            rw [Bool.and_eq_true] at hact2
            exact of_decide_eq_true hact2.1
          rw [hWlo _ (by omega)]
          exact hJt a h60 (by rw [hst]; decide)
        obtain ⟨og, hog⟩ : ∃ o, M1.1 (s + 14) = some (gO 1 o) := by obtain ⟨A, B, q0, -⟩ := bG; exact ⟨_, q0⟩
        have bS' := bS
        obtain ⟨X, RU, SI, IN, s0, s1, s2, s3, s4, s5, s6, s7, s8, sX, sR, -, -⟩ := bS'
        have hdue := c2_dueKind (G := G) bG s0 s7 hIW j h128 (W 1847)
        by_cases hno : cDue W U D2 (W 1847) j = -5
        · have hst := mStepK_no hDj hno
          rw [hno] at hdue
          refine gJ_iload_n dX9_step_51 rfl rfl ?_
          refine gJ_sipush (v := 128) dX9_step_52 (by decide) ?_
          refine gJ_icmp_geN (tgt := 99) (a := j) (b := 128) (by first | with_reducible rfl | rfl) (by first | with_reducible rfl | rfl) (by omega) (by omega) dX9_step_55 (by decide) (fun c_ => by exfalso; omega) (fun _ => ?_)
          refine gJ_aload_n dX9_step_58 rfl rfl ?_
          refine gJ_get fX9_28 dX9_step_59 (by first | with_reducible assumption | with_reducible exact gUp_s | with_reducible exact gUp_n (by with_reducible assumption) (by omega) | exact gUp_n (by assumption) (by omega) | exact gUp_s | assumption) rfl ?_
          refine gJ_iload_n dX9_step_62 rfl rfl ?_
          refine gJ_aload_n dX9_step_63 rfl rfl ?_
          refine gJ_get fX9_39 dX9_step_64 (by first | with_reducible assumption | with_reducible exact gUp_s | with_reducible exact gUp_n (by with_reducible assumption) (by omega) | exact gUp_n (by assumption) (by omega) | exact gUp_s | assumption) rfl ?_
          refine gJ_aload_n dX9_step_67 rfl rfl ?_
          refine gJ_get fX9_12 dX9_step_68 (by first | with_reducible assumption | with_reducible exact gUp_s | with_reducible exact gUp_n (by with_reducible assumption) (by omega) | exact gUp_n (by assumption) (by omega) | exact gUp_s | assumption) rfl ?_
          refine gJ_callV (As := [_, _, _]) b_X2_dueKind lX9_75 i_X2_dueKind s_X2_dueKind dX9_step_71 (hdue) hog rfl rfl (Nat.le_of_ble_eq_true rfl) rfl (by decide) (fun M71 v_ h71 => ?_)
          obtain ⟨e71, rfl⟩ := h71
          replace e71 := e71.symm
          subst e71
          refine gJ_istore_n (lv2 := [(3, _), (2, _), (1, _), (0, _)]) dX9_step_74 rfl rfl rfl ?_
          refine gJ_iload_n dX9_step_75 rfl rfl ?_
          refine gJ_bipush (v := -5) dX9_step_76 (by decide) ?_
          refine gJ_icmp_ne (tgt := 84) dX9_step_78 (by decide) (fun c_ => by exfalso; exact c_ rfl) (fun _ => ?_)
          refine gJ_goto (tgt := 93) dX9_step_81 (by decide) ?_
          refine gJ_iincN (a := j) (b := 1) (lv2 := [(2, _), (3, _), (1, _), (0, _)]) dX9_step_93 rfl rfl rfl rfl ?_
          refine gJ_goto (tgt := 51) dX9_step_96 (by decide) ?_
          refine gJ_ls (ih (j + 1) c (by omega) (by omega) (by omega) W U ?_ hW48 M1 hf b0 bS bA bG ?_) ⟨rfl, rfl, rfl, trivial⟩
          · rw [mKs, ← hWU, hst]
          · obtain ⟨n_, L_, w1, w2⟩ := bL; exact ⟨n_, L_, by omega, w2⟩
        · obtain ⟨kind, hk4, hkd, hk3, hst⟩ := mStepK_do hDj hno
          have hsg := c9_sendGroup (G := G) b0 bS bG bL hE (by omega) hIW ⟨T + 1, hT, by rw [hWlo _ (by omega), t47, hV1]⟩ j kind h128 hk4 hx hk3
          have hne := hno
          rw [hkd] at hdue hne
          have hcnt : mSnd W j kind (D2 j) 1848 = mTick V 1848 + nI (c + 1) := by
            rw [mSnd, if_pos rfl, hW48, Int32.add_assoc, show (1 : Int32) = nI 1 from rfl, nI_add]
          refine gJ_iload_n dX9_step_51 rfl rfl ?_
          refine gJ_sipush (v := 128) dX9_step_52 (by decide) ?_
          refine gJ_icmp_geN (tgt := 99) (a := j) (b := 128) (by first | with_reducible rfl | rfl) (by first | with_reducible rfl | rfl) (by omega) (by omega) dX9_step_55 (by decide) (fun c_ => by exfalso; omega) (fun _ => ?_)
          refine gJ_aload_n dX9_step_58 rfl rfl ?_
          refine gJ_get fX9_28 dX9_step_59 (by first | with_reducible assumption | with_reducible exact gUp_s | with_reducible exact gUp_n (by with_reducible assumption) (by omega) | exact gUp_n (by assumption) (by omega) | exact gUp_s | assumption) rfl ?_
          refine gJ_iload_n dX9_step_62 rfl rfl ?_
          refine gJ_aload_n dX9_step_63 rfl rfl ?_
          refine gJ_get fX9_39 dX9_step_64 (by first | with_reducible assumption | with_reducible exact gUp_s | with_reducible exact gUp_n (by with_reducible assumption) (by omega) | exact gUp_n (by assumption) (by omega) | exact gUp_s | assumption) rfl ?_
          refine gJ_aload_n dX9_step_67 rfl rfl ?_
          refine gJ_get fX9_12 dX9_step_68 (by first | with_reducible assumption | with_reducible exact gUp_s | with_reducible exact gUp_n (by with_reducible assumption) (by omega) | exact gUp_n (by assumption) (by omega) | exact gUp_s | assumption) rfl ?_
          refine gJ_callV (As := [_, _, _]) b_X2_dueKind lX9_75 i_X2_dueKind s_X2_dueKind dX9_step_71 (hdue) hog rfl rfl (Nat.le_of_ble_eq_true rfl) rfl (by decide) (fun M71 v_ h71 => ?_)
          obtain ⟨e71, rfl⟩ := h71
          replace e71 := e71.symm
          subst e71
          refine gJ_istore_n (lv2 := [(3, _), (2, _), (1, _), (0, _)]) dX9_step_74 rfl rfl rfl ?_
          refine gJ_iload_n dX9_step_75 rfl rfl ?_
          refine gJ_bipush (v := -5) dX9_step_76 (by decide) ?_
          refine gJ_icmp_ne (tgt := 84) dX9_step_78 (by decide) (fun _ => ?_) (fun c_ => by exfalso; exact hne c_)
          refine gJ_aload_n dX9_step_84 rfl rfl ?_
          refine gJ_iload_n dX9_step_85 rfl rfl ?_
          refine gJ_iload_n dX9_step_86 rfl rfl ?_
          refine gJ_callV (As := [_, _]) b_X9_sendGroup lX9_79 i_X9_sendGroup s_X9_sendGroup dX9_step_87 (hsg) (by first | with_reducible assumption | with_reducible exact gUp_s | with_reducible exact gUp_n (by with_reducible assumption) (by omega) | exact gUp_n (by assumption) (by omega) | exact gUp_s | assumption) rfl rfl (Nat.le_of_ble_eq_true rfl) rfl (by decide) (fun M87 v_ h87 => ?_)
          obtain ⟨hf87, hG87, hL87, rfl⟩ := h87
          refine gJ_iincN (a := c) (b := 1) (lv2 := [(1, _), (3, _), (2, _), (0, _)]) dX9_step_90 rfl rfl rfl rfl ?_
          refine gJ_iincN (a := j) (b := 1) (lv2 := [(2, _), (1, _), (3, _), (0, _)]) dX9_step_93 rfl rfl rfl rfl ?_
          refine gJ_goto (tgt := 51) dX9_step_96 (by decide) ?_
          refine gJ_ls (ih (j + 1) (c + 1) (by omega) (by omega) (by omega) (mSnd W j kind (D2 j)) (vp_updL U j (D2 j)) ?_ hcnt M87 (gFr_t hf (gFr_w hf87 (by omega) (by omega))) ?_ ?_ ?_ hG87 hL87) ⟨rfl, rfl, rfl, trivial⟩
          · rw [mKs, ← hWU, hst]
          · rw [mSnd_lo (by omega) h128]; exact gFr_g hf87 b0 (by omega)
          · exact cRS_V (cRS_fr bS hf87 (by omega) (by omega)) hIW (fun i hi => mSnd_lo (by omega) h128) (fun i h1 h2 => mSnd_lo (by omega) h128)
          · exact cRA_V (cRA_fr bA hf87 (by omega)) (fun i h1 h2 => mSnd_lo (by omega) h128)
      · have e128 : j = 128 := by omega
        subst e128
        refine gJ_iload_n dX9_step_51 rfl rfl ?_
        refine gJ_sipush (v := 128) dX9_step_52 (by decide) ?_
        refine gJ_icmp_geN (tgt := 99) (a := 128) (b := 128) (by first | with_reducible rfl | rfl) (by first | with_reducible rfl | rfl) (by omega) (by omega) dX9_step_55 (by decide) (fun _ => ?_) (fun c_ => by exfalso; omega)
        refine gJ_iload_n dX9_step_99 rfl rfl ?_
        refine gJ_iret dX9_step_100 rfl ?_
        have e1 : (mStep (V, S)) = (W, U) := by rw [mStep_eq, ← hact, hWU]
        refine ⟨hf, ⟨D2, ?_⟩, ?_⟩
        · rw [e1]; exact ⟨by show W 1847 = _; rw [hWlo _ (by omega), t47, hV1], b0, bS, bA, bG, by rw [Nat.mul_add]; exact bL⟩
        · rw [mCnt, e1]; show some (Value.int (nI c)) = some (Value.int (W 1848 - V 1848)); rw [hW48, tlo 1848 (by omega) (by omega), Int32.add_comm, Int32.add_sub_cancel]
  -- the states and the active alerts
  have hf1 : gFr M (gUp M s (cSta s (V 1847 + 1))) s 1 := gFr_u gFr_r (by omega)
  have hS1 : cRS (gUp M s (cSta s (V 1847 + 1))) E (s + 1) (upd V 1847 (V 1847 + 1)) := cRS_V (cRS_fr hS hf1 (by omega) (by omega)) hI (fun i hi => pk_un (by omega)) (fun i h1 h2 => pk_un (by omega))
  have hA1 : cRA (fun _ => T) (gUp M s (cSta s (V 1847 + 1))) (s + 10) (upd V 1847 (V 1847 + 1)) := cRA_V (cRA_fr hA hf1 (by omega)) (fun i h1 h2 => pk_un (by omega))
  have hadv := c0_advance (G := G) hA1 hS1 (by omega) (by omega) hI1 hT
  rw [show (upd V 1847 (V 1847 + 1)) 1847 = V 1847 + 1 from pk_us, ← mTick_eq] at hadv
  obtain ⟨X, RU, SI, IN, s0, s1, s2, s3, s4, s5, s6, s7, s8, sX, sR, -, -⟩ := hS1
  have hhold := c7_holding (G := G) s0 s2 sX s3 s4 sR s8 hI1
  obtain ⟨oa, hoa⟩ : ∃ o, (gUp M s (cSta s (V 1847 + 1))).1 (s + 10) = some (gO 0 o) := by obtain ⟨_, _, _, q0, -⟩ := hA1; exact ⟨_, q0⟩
  have hs1 : (gUp M s (cSta s (V 1847 + 1))).1 s = some (cSta s (V 1847 + 1)) := gUp_s
  have L10 : gJ G kX9_step 4 0 0 (gUp M s (cSta s (V 1847 + 1))) 10 [(0, .ref s)] [] (gQ kX9_step (fun M2 v => gFr M M2 s 21 ∧ (∃ D2, cR (T + 1) M2 E s (mStep (V, S)).1 (mStep (V, S)).2 D2) ∧ v = some (.int (mCnt (V, S))))) := by
    generalize gUp M s (cSta s (V 1847 + 1)) = M0 at *
    refine gJ_aload_n dX9_step_10 rfl rfl ?_
    refine gJ_get fX9_21 dX9_step_11 (by first | with_reducible assumption | with_reducible exact gUp_s | with_reducible exact gUp_n (by with_reducible assumption) (by omega) | exact gUp_n (by assumption) (by omega) | exact gUp_s | assumption) rfl ?_
    refine gJ_aload_n dX9_step_14 rfl rfl ?_
    refine gJ_get fX9_39 dX9_step_15 (by first | with_reducible assumption | with_reducible exact gUp_s | with_reducible exact gUp_n (by with_reducible assumption) (by omega) | exact gUp_n (by assumption) (by omega) | exact gUp_s | assumption) rfl ?_
    refine gJ_aload_n dX9_step_18 rfl rfl ?_
    refine gJ_get fX9_12 dX9_step_19 (by first | with_reducible assumption | with_reducible exact gUp_s | with_reducible exact gUp_n (by with_reducible assumption) (by omega) | exact gUp_n (by assumption) (by omega) | exact gUp_s | assumption) rfl ?_
    refine gJ_callV (As := []) b_X7_holding lX9_60 i_X7_holding s_X7_holding dX9_step_22 (hhold) (by first | with_reducible assumption | with_reducible exact gUp_s | with_reducible exact gUp_n (by with_reducible assumption) (by omega) | exact gUp_n (by assumption) (by omega) | exact gUp_s | assumption) rfl rfl (Nat.le_of_ble_eq_true rfl) rfl (by decide) (fun M22 v_ h22 => ?_)
    obtain ⟨e22, rfl⟩ := h22
    replace e22 := e22.symm
    subst e22
    refine gJ_aload_n dX9_step_25 rfl rfl ?_
    refine gJ_get fX9_12 dX9_step_26 (by first | with_reducible assumption | with_reducible exact gUp_s | with_reducible exact gUp_n (by with_reducible assumption) (by omega) | exact gUp_n (by assumption) (by omega) | exact gUp_s | assumption) rfl ?_
    refine gJ_callV (As := [_, _, _]) b_X0_advance lX9_64 i_X0_advance s_X0_advance dX9_step_29 (hadv) hoa rfl rfl (Nat.le_of_ble_eq_true rfl) rfl (by decide) (fun M29 v_ h29 => ?_)
    obtain ⟨hf29, hA29, rfl⟩ := h29
    have hfm : gFr M M29 s 21 := gFr_t (gFr_w hf1 (by omega) (by omega)) (gFr_w hf29 (by omega) (by omega))
    have b0 : M29.1 s = some (cSta s (mTick V 1847)) := (by rw [t47]; exact gFr_g hf29 hs1 (by omega))
    have bS : cRS M29 E (s + 1) (mTick V) := cRS_V (cRS_fr (cRS_fr hS hf1 (by omega) (by omega)) hf29 (by omega) (by omega)) hI (fun i hi => tlo i (by omega) (by omega)) (fun i h1 h2 => tlo i (by omega) (by omega))
    have bG : cRG M29 (s + 14) (mTick V) S D := cRG_V (cRG_fr (cRG_fr hG hf1 (by omega)) hf29 (by omega)) (fun i h1 h2 => tlo i (by omega) (by omega))
    have bL : cRL (128 * T) M29 (s + 19) (mTick V) := cRL_V (cRL_fr (cRL_fr hL hf1 (by omega)) hf29 (by omega)) (fun i h1 h2 => tlo i (by omega) (by omega))
    have bR : cR (T + 1) M29 E s (mTick V) S D := ⟨by rw [t47, hV1], b0, bS, hA29, bG, (by obtain ⟨n_, L_, w1, w2⟩ := bL; exact ⟨n_, L_, by omega, w2⟩)⟩
    obtain ⟨og, hog⟩ : ∃ o, M29.1 (s + 14) = some (gO 1 o) := (by obtain ⟨A, B, q0, -⟩ := bG; exact ⟨_, q0⟩)
    refine gJ_aload_n dX9_step_32 rfl rfl ?_
    refine gJ_get fX9_28 dX9_step_33 (by first | with_reducible assumption | with_reducible exact gUp_s | with_reducible exact gUp_n (by with_reducible assumption) (by omega) | exact gUp_n (by assumption) (by omega) | exact gUp_s | assumption) rfl ?_
    refine gJ_aload_n dX9_step_36 rfl rfl ?_
    refine gJ_callV (As := []) b_X9_active lX9_68 i_X9_active s_X9_active dX9_step_37 (c9_active bR hT hIt hJt) b0 rfl rfl (Nat.le_of_ble_eq_true rfl) rfl (by decide) (fun M37 v_ h37 => ?_)
    obtain ⟨e37, rfl⟩ := h37
    replace e37 := e37.symm
    subst e37
    refine gJ_aload_n dX9_step_40 rfl rfl ?_
    refine gJ_get fX9_12 dX9_step_41 (by first | with_reducible assumption | with_reducible exact gUp_s | with_reducible exact gUp_n (by with_reducible assumption) (by omega) | exact gUp_n (by assumption) (by omega) | exact gUp_s | assumption) rfl ?_
    refine gJ_callV (As := [_, _]) b_X2_sort lX9_71 i_X2_sort s_X2_sort dX9_step_44 (c2_sort bG (by omega) bS (by omega) hIt (mAct (mTick V))) hog rfl rfl (Nat.le_of_ble_eq_true rfl) rfl (by decide) (fun M44 v_ h44 => ?_)
    obtain ⟨hf44, ⟨D2, hG44, hD2⟩, rfl⟩ := h44
    refine gJ_iconst (v := 0) dX9_step_47 (by decide) ?_
    refine gJ_istore_n (lv2 := [(1, _), (0, _)]) dX9_step_48 rfl rfl rfl ?_
    refine gJ_iconst (v := 0) dX9_step_49 (by decide) ?_
    refine gJ_istore_n (lv2 := [(2, _), (1, _), (0, _)]) dX9_step_50 rfl rfl rfl ?_
    exact gJ_ls (loop (mActs (mTick V)) rfl D2 hD2 129 0 0 (by omega) (by omega) (by omega) (mTick V) S rfl (by rw [nI_0, Int32.add_zero]) M44 (gFr_t hfm (gFr_w hf44 (by omega) (by omega))) (gFr_g hf44 b0 (by omega)) (cRS_fr bS hf44 (by omega) (by omega)) (cRA_fr hA29 hf44 (by omega)) hG44 (cRL_fr bL hf44 (by omega))) ⟨rfl, rfl, rfl, trivial⟩
  show gJ _ _ _ _ _ _ 0 [(0, _)] [] _
  refine gJ_aload_n dX9_step_0 rfl rfl ?_
  refine gJ_dup dX9_step_1 rfl ?_
  refine gJ_get fX9_39 dX9_step_2 (by first | with_reducible assumption | with_reducible exact gUp_s | with_reducible exact gUp_n (by with_reducible assumption) (by omega) | exact gUp_n (by assumption) (by omega) | exact gUp_s | assumption) rfl ?_
  refine gJ_iconst (v := 1) dX9_step_5 (by decide) ?_
  refine gJ_iadd dX9_step_6 ?_
  refine gJ_put fX9_39 dX9_step_7 (by first | with_reducible assumption | with_reducible exact gUp_s | with_reducible exact gUp_n (by with_reducible assumption) (by omega) | exact gUp_n (by assumption) (by omega) | exact gUp_s | assumption) rfl rfl (Nat.le_of_ble_eq_true rfl) ?_
  exact gJ_ls L10 ⟨rfl, trivial⟩
end CLS
