/-! THE CLASS' CONSTRUCTORS: everything as at the beginning -/
theorem mV0_lo {i : Nat} (h : i < 1842 ∨ 1847 ≤ i) : mV0 i = 0 := by
  unfold mV0
  rw [pk_un (by omega), pk_un (by omega), pk_un (by omega), pk_un (by omega), pk_un (by omega)]
theorem mV0_p : mV0 1842 = nI 5 ∧ mV0 1843 = nI 60 ∧ mV0 1844 = nI 30 ∧ mV0 1845 = nI 4 ∧ mV0 1846 = nI 1 := by
  unfold mV0
  refine ⟨?_, ?_, ?_, ?_, pk_us⟩
  · rw [pk_un (by decide), pk_un (by decide), pk_un (by decide), pk_un (by decide), pk_us]; rfl
  · rw [pk_un (by decide), pk_un (by decide), pk_un (by decide), pk_us]; rfl
  · rw [pk_un (by decide), pk_un (by decide), pk_us]; rfl
  · rw [pk_un (by decide), pk_us]; rfl
theorem mV0_I : mI mV0 := by
  have z : ∀ i n, i < 1842 → mB mV0 i n := fun i n hi => ⟨0, Nat.zero_le _, mV0_lo (Or.inl hi)⟩
  have zm : ∀ f, f ≤ 200 → mMs mV0 f := fun f hf => ⟨hf, 0, Nat.zero_le _, mV0_lo (by omega), fun j hj => absurd hj (by omega)⟩
  obtain ⟨p0, p1, p2, p3, p4⟩ := mV0_p
  exact ⟨fun i hi => z _ _ (by omega), fun s hs => z _ _ (by omega), fun r hr => ⟨z _ _ (by omega), zm _ (by omega), z _ _ (by omega), z _ _ (by omega), z _ _ (by omega)⟩, fun k hk => ⟨z _ _ (by omega), zm _ (by omega)⟩, fun k hk => ⟨z _ _ (by omega), zm _ (by omega), zm _ (by omega), z _ _ (by omega)⟩, fun a ha => ⟨z _ _ (by omega), z _ _ (by omega)⟩, fun k hk => z _ _ (by omega), ⟨5, by decide, p0⟩, ⟨60, by decide, p1⟩, ⟨30, by decide, p2⟩, ⟨4, by decide, p3⟩, ⟨1, by decide, p4⟩⟩
theorem mV0_J : mJ mV0 := fun a ha hz => absurd (mV0_lo (by omega)) hz
theorem cLab_0 : cLab mV0 = fun _ => 0 := by
  funext i
  unfold cLab
  by_cases h : i < 36
  · rw [if_pos h]; exact mV0_lo (by omega)
  · rw [if_neg h]
theorem cHas_0 : cHas mV0 = fun _ => 0 := by
  funext i
  unfold cHas
  by_cases h : i < 12
  · rw [if_pos h]; exact mV0_lo (by omega)
  · rw [if_neg h]
theorem cOpen_0 : cOpen mV0 = fun _ => 0 := by
  funext i
  unfold cOpen
  by_cases h : i < 128
  · rw [if_pos h]; exact mV0_lo (by omega)
  · rw [if_neg h]
theorem cPar_0 : cPar mV0 = upd (upd (upd (upd (upd (fun _ => 0) 0 5) 1 60) 2 30) 3 4) 4 1 := by
  obtain ⟨p0, p1, p2, p3, p4⟩ := mV0_p
  funext i
  unfold cPar upd
  by_cases h : i < 5
  · rw [if_pos h]
    rcases (show i = 0 ∨ i = 1 ∨ i = 2 ∨ i = 3 ∨ i = 4 by omega) with rfl | rfl | rfl | rfl | rfl
    · exact p0
    · exact p1
    · exact p2
    · exact p3
    · exact p4
  · rw [if_neg h, if_neg (by omega), if_neg (by omega), if_neg (by omega), if_neg (by omega), if_neg (by omega)]
theorem cSt_0 {z : Int32} (hz : z ≠ 0) : lS (cStB mV0 z) 60 = 0 := lS_0 (fun a ha => by
  unfold cStB
  rw [mV0_lo (by omega)]
  exact decide_eq_false (fun h => hz h.symm))
/-- the relation speaks of its cells alone -/
theorem cRS_k {M M2 : gM} {E p : Nat} {V : Nat → Int32} (h : cRS M E p V) (hx : ∀ x, p ≤ x → x < p + 9 → M2.1 x = M.1 x) (hk : gKp M M2 E) : cRS M2 E p V := by
  obtain ⟨X, RU, SI, IN, h0, h1, h2, h3, h4, h5, h6, h7, h8, hX, hR, hS, hN⟩ := h
  exact ⟨X, RU, SI, IN, (hx _ (by omega) (by omega)).trans h0, (hx _ (by omega) (by omega)).trans h1, (hx _ (by omega) (by omega)).trans h2, (hx _ (by omega) (by omega)).trans h3, (hx _ (by omega) (by omega)).trans h4, (hx _ (by omega) (by omega)).trans h5, (hx _ (by omega) (by omega)).trans h6, (hx _ (by omega) (by omega)).trans h7, (hx _ (by omega) (by omega)).trans h8, hX, fun r hr => cRul_kp (hR r hr) hk, fun k hq => cSil_kp (hS k hq) hk, fun k hq => cInh_kp (hN k hq) hk⟩
theorem cRS_k0 {M M2 : gM} {E E2 p : Nat} (h : cRS M E p mV0) (hx : ∀ x, p ≤ x → x < p + 9 → M2.1 x = M.1 x) : cRS M2 E2 p mV0 := by
  obtain ⟨X, RU, SI, IN, h0, h1, h2, h3, h4, h5, h6, h7, h8, hX, hR, hS, hN⟩ := h
  refine ⟨X, RU, SI, IN, (hx _ (by omega) (by omega)).trans h0, (hx _ (by omega) (by omega)).trans h1, (hx _ (by omega) (by omega)).trans h2, (hx _ (by omega) (by omega)).trans h3, (hx _ (by omega) (by omega)).trans h4, (hx _ (by omega) (by omega)).trans h5, (hx _ (by omega) (by omega)).trans h6, (hx _ (by omega) (by omega)).trans h7, (hx _ (by omega) (by omega)).trans h8, hX, fun r hr => ?_, fun k hq => ?_, fun k hq => ?_⟩
  · rcases hR r hr with h | ⟨h, -⟩
    · exact Or.inl h
    · rw [mV0_lo (by omega)] at h; exact absurd h (by decide)
  · rcases hS k hq with h | ⟨h, -⟩
    · exact Or.inl h
    · rw [mV0_lo (by omega)] at h; exact absurd h (by decide)
  · rcases hN k hq with h | ⟨h, -⟩
    · exact Or.inl h
    · rw [mV0_lo (by omega)] at h; exact absurd h (by decide)
theorem cRA_k {K : Nat → Nat} {M M2 : gM} {p : Nat} {V : Nat → Int32} (h : cRA K M p V) (hx : ∀ x, p ≤ x → x < p + 4 → M2.1 x = M.1 x) : cRA K M2 p V := by
  obtain ⟨X, R, C, h0, h1, h2, h3, h4⟩ := h
  exact ⟨X, R, C, (hx _ (by omega) (by omega)).trans h0, (hx _ (by omega) (by omega)).trans h1, (hx _ (by omega) (by omega)).trans h2, (hx _ (by omega) (by omega)).trans h3, h4⟩
theorem cRG_k {M M2 : gM} {p : Nat} {V : Nat → Int32} {S D : Nat → Int64} (h : cRG M p V S D) (hx : ∀ x, p ≤ x → x < p + 5 → M2.1 x = M.1 x) : cRG M2 p V S D := by
  obtain ⟨A, B, h0, h1, h2, h3, h4, h5⟩ := h
  exact ⟨A, B, (hx _ (by omega) (by omega)).trans h0, (hx _ (by omega) (by omega)).trans h1, (hx _ (by omega) (by omega)).trans h2, (hx _ (by omega) (by omega)).trans h3, (hx _ (by omega) (by omega)).trans h4, h5⟩
theorem cRL_k {N : Nat} {M M2 : gM} {p : Nat} {V : Nat → Int32} (h : cRL N M p V) (hx : ∀ x, p ≤ x → x < p + 2 → M2.1 x = M.1 x) : cRL N M2 p V := by
  obtain ⟨n, L, hn, hv, h0, h1, h2⟩ := h
  exact ⟨n, L, hn, hv, (hx _ (by omega) (by omega)).trans h0, (hx _ (by omega) (by omega)).trans h1, h2⟩
theorem cR_k {T : Nat} {M M2 : gM} {E s : Nat} {V : Nat → Int32} {S D : Nat → Int64} (h : cR T M E s V S D) (hx : ∀ x, s ≤ x → x < s + 21 → M2.1 x = M.1 x) (hk : gKp M M2 E) : cR T M2 E s V S D := by
  obtain ⟨h0, h1, h2, h3, h4, h5⟩ := h
  exact ⟨h0, (hx _ (by omega) (by omega)).trans h1, cRS_k h2 (fun x a b => hx x (by omega) (by omega)) hk, cRA_k h3 (fun x a b => hx x (by omega) (by omega)), cRG_k h4 (fun x a b => hx x (by omega) (by omega)), cRL_k h5 (fun x a b => hx x (by omega) (by omega))⟩
theorem cR_k0 {T : Nat} {M M2 : gM} {E E2 s : Nat} {S D : Nat → Int64} (h : cR T M E s mV0 S D) (hx : ∀ x, s ≤ x → x < s + 21 → M2.1 x = M.1 x) : cR T M2 E2 s mV0 S D := by
  obtain ⟨h0, h1, h2, h3, h4, h5⟩ := h
  exact ⟨h0, (hx _ (by omega) (by omega)).trans h1, cRS_k0 h2 (fun x a b => hx x (by omega) (by omega)), cRA_k h3 (fun x a b => hx x (by omega) (by omega)), cRG_k h4 (fun x a b => hx x (by omega) (by omega)), cRL_k h5 (fun x a b => hx x (by omega) (by omega))⟩
section MAKE
variable {G : gG} {M : gM} {q E : Nat}
set_option maxRecDepth 20000 in
theorem c4_init (hn : M.2 = q + 1) (hm : M.1 q = some (gO 3 [.null, .int 0])) : gCon G kX4_init 1 1 150 M [.ref q] (fun M2 v => v = none ∧ M2.2 = q + 2 ∧ (∀ x, x < q → M2.1 x = M.1 x) ∧ cRL 0 M2 q mV0) := by
  obtain ⟨f, n⟩ := M
  have hn' : n = q + 1 := hn
  subst hn'
  clear hn
  refine gCon_of (by decide) (Nat.le_of_ble_eq_true rfl) ?_
  show gJ _ _ _ _ _ _ 0 [(0, _)] [] _
  refine gJ_aload_n dX4_init_0 rfl rfl ?_
  refine gJ_objInit oX4_1 dX4_init_1 (by decide) (by omega) ?_
  refine gJ_aload_n dX4_init_4 rfl rfl ?_
  refine gJ_sipush (v := 150) dX4_init_5 (by decide) ?_
  refine gJ_newI (N := 150) (by decide) (by decide) (by decide) dX4_init_8 ?_
  show gJ _ _ _ _ _ _ _ _ (Value.ref (q + 1) :: _) _
  refine gJ_putF fX4_9 rfl rfl dX4_init_10 (by repeat (first | exact gUp_s | exact gNew_s | assumption | refine gUp_n ?_ (by first | omega | (simp only [gUp, gNew]; omega)) | refine gNew_n ?_ (by first | omega | (simp only [gUp, gNew]; omega)))) rfl rfl (Nat.le_of_ble_eq_true rfl) ?_
  refine gJ_vret dX4_init_13 rfl ?_
  refine ⟨rfl, rfl, fun x hx => ?_, 0, fun _ => 0, Nat.le_refl _, mV0_lo (by omega), ?_, ?_, fun i hi => absurd hi (by omega)⟩
  · (repeat (first | refine gUp_n ?_ (by first | omega | (simp only [gUp, gNew]; omega)) | refine gNew_n ?_ (by first | omega | (simp only [gUp, gNew]; omega))))
    rfl
  all_goals (repeat (first | exact gUp_s | exact gNew_s | refine gUp_n ?_ (by first | omega | (simp only [gUp, gNew]; omega)) | refine gNew_n ?_ (by first | omega | (simp only [gUp, gNew]; omega))))
set_option maxRecDepth 20000 in
theorem c2_init (hn : M.2 = q + 1) (hm : M.1 q = some (gO 1 [.null, .null, .null, .null])) : gCon G kX2_init 1 4 512 M [.ref q] (fun M2 v => v = none ∧ M2.2 = q + 5 ∧ (∀ x, x < q → M2.1 x = M.1 x) ∧ cRG M2 q mV0 (fun _ => 0) (fun _ => 0)) := by
  obtain ⟨f, n⟩ := M
  have hn' : n = q + 1 := hn
  subst hn'
  clear hn
  refine gCon_of (by decide) (Nat.le_of_ble_eq_true rfl) ?_
  show gJ _ _ _ _ _ _ 0 [(0, _)] [] _
  refine gJ_aload_n dX2_init_0 rfl rfl ?_
  refine gJ_objInit oX2_3 dX2_init_1 (by decide) (by omega) ?_
  refine gJ_aload_n dX2_init_4 rfl rfl ?_
  refine gJ_sipush (v := 128) dX2_init_5 (by decide) ?_
  refine gJ_newZ (N := 128) (by decide) (by decide) (by decide) dX2_init_8 ?_
  show gJ _ _ _ _ _ _ _ _ (Value.ref (q + 1) :: _) _
  refine gJ_putF fX2_9 rfl rfl dX2_init_10 (by repeat (first | exact gUp_s | exact gNew_s | assumption | refine gUp_n ?_ (by first | omega | (simp only [gUp, gNew]; omega)) | refine gNew_n ?_ (by first | omega | (simp only [gUp, gNew]; omega)))) rfl rfl (Nat.le_of_ble_eq_true rfl) ?_
  refine gJ_aload_n dX2_init_13 rfl rfl ?_
  refine gJ_sipush (v := 128) dX2_init_14 (by decide) ?_
  refine gJ_newI (N := 128) (by decide) (by decide) (by decide) dX2_init_17 ?_
  show gJ _ _ _ _ _ _ _ _ (Value.ref (q + 2) :: _) _
  refine gJ_putF fX2_15 rfl rfl dX2_init_19 (by repeat (first | exact gUp_s | exact gNew_s | assumption | refine gUp_n ?_ (by first | omega | (simp only [gUp, gNew]; omega)) | refine gNew_n ?_ (by first | omega | (simp only [gUp, gNew]; omega)))) rfl rfl (Nat.le_of_ble_eq_true rfl) ?_
  refine gJ_aload_n dX2_init_22 rfl rfl ?_
  refine gJ_sipush (v := 128) dX2_init_23 (by decide) ?_
  refine gJ_newL (N := 128) (by decide) (by decide) (by decide) dX2_init_26 ?_
  show gJ _ _ _ _ _ _ _ _ (Value.ref (q + 3) :: _) _
  refine gJ_putF fX2_19 rfl rfl dX2_init_28 (by repeat (first | exact gUp_s | exact gNew_s | assumption | refine gUp_n ?_ (by first | omega | (simp only [gUp, gNew]; omega)) | refine gNew_n ?_ (by first | omega | (simp only [gUp, gNew]; omega)))) rfl rfl (Nat.le_of_ble_eq_true rfl) ?_
  refine gJ_aload_n dX2_init_31 rfl rfl ?_
  refine gJ_sipush (v := 128) dX2_init_32 (by decide) ?_
  refine gJ_newL (N := 128) (by decide) (by decide) (by decide) dX2_init_35 ?_
  show gJ _ _ _ _ _ _ _ _ (Value.ref (q + 4) :: _) _
  refine gJ_putF fX2_23 rfl rfl dX2_init_37 (by repeat (first | exact gUp_s | exact gNew_s | assumption | refine gUp_n ?_ (by first | omega | (simp only [gUp, gNew]; omega)) | refine gNew_n ?_ (by first | omega | (simp only [gUp, gNew]; omega)))) rfl rfl (Nat.le_of_ble_eq_true rfl) ?_
  refine gJ_vret dX2_init_40 rfl ?_
  refine ⟨rfl, rfl, fun x hx => ?_, fun _ => 0, fun _ => 0, ?_, ?_, ?_, ?_, ?_, fun k hk ho => absurd ((mV0_lo (by omega)).symm.trans ho) (by decide)⟩
  · (repeat (first | refine gUp_n ?_ (by first | omega | (simp only [gUp, gNew]; omega)) | refine gNew_n ?_ (by first | omega | (simp only [gUp, gNew]; omega))))
    rfl
  · (repeat (first | exact gUp_s | exact gNew_s | refine gUp_n ?_ (by first | omega | (simp only [gUp, gNew]; omega)) | refine gNew_n ?_ (by first | omega | (simp only [gUp, gNew]; omega))))
  · rw [cOpen_0]; (repeat (first | exact gUp_s | exact gNew_s | refine gUp_n ?_ (by first | omega | (simp only [gUp, gNew]; omega)) | refine gNew_n ?_ (by first | omega | (simp only [gUp, gNew]; omega))))
  all_goals (repeat (first | exact gUp_s | exact gNew_s | refine gUp_n ?_ (by first | omega | (simp only [gUp, gNew]; omega)) | refine gNew_n ?_ (by first | omega | (simp only [gUp, gNew]; omega))))
set_option maxRecDepth 20000 in
theorem c0_init (hn : M.2 = q + 1) (hm : M.1 q = some (gO 0 [.long 0, .long 0, .null, .null, .null])) : gCon G kX0_init 1 3 1320 M [.ref q] (fun M2 v => v = none ∧ M2.2 = q + 4 ∧ (∀ x, x < q → M2.1 x = M.1 x) ∧ cRA (fun _ => 0) M2 q mV0) := by
  obtain ⟨f, n⟩ := M
  have hn' : n = q + 1 := hn
  subst hn'
  clear hn
  refine gCon_of (by decide) (Nat.le_of_ble_eq_true rfl) ?_
  show gJ _ _ _ _ _ _ 0 [(0, _)] [] _
  refine gJ_aload_n dX0_init_0 rfl rfl ?_
  refine gJ_objInit oX0_3 dX0_init_1 (by decide) (by omega) ?_
  refine gJ_aload_n dX0_init_4 rfl rfl ?_
  refine gJ_bipush (v := 60) dX0_init_5 (by decide) ?_
  refine gJ_newI (N := 60) (by decide) (by decide) (by decide) dX0_init_7 ?_
  show gJ _ _ _ _ _ _ _ _ (Value.ref (q + 1) :: _) _
  refine gJ_putF fX0_9 rfl rfl dX0_init_9 (by repeat (first | exact gUp_s | exact gNew_s | assumption | refine gUp_n ?_ (by first | omega | (simp only [gUp, gNew]; omega)) | refine gNew_n ?_ (by first | omega | (simp only [gUp, gNew]; omega)))) rfl rfl (Nat.le_of_ble_eq_true rfl) ?_
  refine gJ_aload_n dX0_init_12 rfl rfl ?_
  refine gJ_sipush (v := 1200) dX0_init_13 (by decide) ?_
  refine gJ_newI (N := 1200) (by decide) (by decide) (by decide) dX0_init_16 ?_
  show gJ _ _ _ _ _ _ _ _ (Value.ref (q + 2) :: _) _
  refine gJ_putF fX0_15 rfl rfl dX0_init_18 (by repeat (first | exact gUp_s | exact gNew_s | assumption | refine gUp_n ?_ (by first | omega | (simp only [gUp, gNew]; omega)) | refine gNew_n ?_ (by first | omega | (simp only [gUp, gNew]; omega)))) rfl rfl (Nat.le_of_ble_eq_true rfl) ?_
  refine gJ_aload_n dX0_init_21 rfl rfl ?_
  refine gJ_bipush (v := 60) dX0_init_22 (by decide) ?_
  refine gJ_newI (N := 60) (by decide) (by decide) (by decide) dX0_init_24 ?_
  show gJ _ _ _ _ _ _ _ _ (Value.ref (q + 3) :: _) _
  refine gJ_putF fX0_18 rfl rfl dX0_init_26 (by repeat (first | exact gUp_s | exact gNew_s | assumption | refine gUp_n ?_ (by first | omega | (simp only [gUp, gNew]; omega)) | refine gNew_n ?_ (by first | omega | (simp only [gUp, gNew]; omega)))) rfl rfl (Nat.le_of_ble_eq_true rfl) ?_
  refine gJ_vret dX0_init_29 rfl ?_
  refine ⟨rfl, rfl, fun x hx => ?_, fun _ => 0, fun _ => 0, fun _ => 0, ?_, ?_, ?_, ?_, fun a ha hz => absurd (mV0_lo (by omega)) hz, fun a ha => ⟨0, rfl, Nat.le_refl _, mV0_lo (by omega), fun j hj => absurd hj (by omega)⟩⟩
  · (repeat (first | refine gUp_n ?_ (by first | omega | (simp only [gUp, gNew]; omega)) | refine gNew_n ?_ (by first | omega | (simp only [gUp, gNew]; omega))))
    rfl
  · rw [cSt_0 (by decide), cSt_0 (by decide)]; (repeat (first | exact gUp_s | exact gNew_s | refine gUp_n ?_ (by first | omega | (simp only [gUp, gNew]; omega)) | refine gNew_n ?_ (by first | omega | (simp only [gUp, gNew]; omega))))
  all_goals (repeat (first | exact gUp_s | exact gNew_s | refine gUp_n ?_ (by first | omega | (simp only [gUp, gNew]; omega)) | refine gNew_n ?_ (by first | omega | (simp only [gUp, gNew]; omega))))
set_option maxHeartbeats 2000000 in
set_option maxRecDepth 20000 in
theorem c7_init (hn : M.2 = q + 1) (hm : M.1 q = some (gO 6 [.null, .null, .null, .null, .null, .null, .null, .null])) : gCon G kX7_init 1 8 100 M [.ref q] (fun M2 v => v = none ∧ M2.2 = q + 9 ∧ (∀ x, x < q → M2.1 x = M.1 x) ∧ cRS M2 (q + 9) q mV0) := by
  obtain ⟨f, n⟩ := M
  have hn' : n = q + 1 := hn
  subst hn'
  clear hn
  have L90 : ∀ M1 : gM, M1.2 = q + 9 → (∀ x, x < q → M1.1 x = f x) → M1.1 q = some (cSu q) → M1.1 (q + 1) = some (gI 36 (fun _ => 0)) → M1.1 (q + 2) = some (gI 12 (fun _ => 0)) → M1.1 (q + 3) = some (gZ 12 (fun _ => 0)) → M1.1 (q + 4) = some (gR 3 5 (fun _ => none)) → M1.1 (q + 5) = some (gR 4 6 (fun _ => none)) → M1.1 (q + 6) = some (gR 5 4 (fun _ => none)) → M1.1 (q + 7) = some (gI 5 (cPar mV0)) → M1.1 (q + 8) = some (gL 20 (fun _ => 0)) →
      gJ G kX7_init 1 0 0 M1 90 [(0, .ref q)] [] (gQ kX7_init (fun M2 v => v = none ∧ M2.2 = q + 9 ∧ (∀ x, x < q → M2.1 x = f x) ∧ cRS M2 (q + 9) q mV0)) := by
    intro M1 hM2 hold h0 h1 h2 h3 h4 h5 h6 h7 h8
    have hR : ∀ r, r < 5 → cRul M1 (q + 9) mV0 r ((fun _ => none : Nat → Option Nat) r) := fun r hr => Or.inl ⟨mV0_lo (by omega), rfl⟩
    have hC := c7_sortLabels (G := G) (E := q + 9) h0 (by rw [cLab_0]; exact h1) h4 (Nat.le_refl _) hR h8 mV0_I
    refine gJ_aload_n dX7_init_90 rfl rfl ?_
    refine gJ_callV (As := []) b_X7_sortLabels lX7_47 i_X7_sortLabels s_X7_sortLabels dX7_init_91 (hC) (by first | with_reducible assumption | with_reducible exact gUp_s | with_reducible exact gUp_n (by with_reducible assumption) (by omega) | exact gUp_n (by assumption) (by omega) | exact gUp_s | assumption) rfl rfl (Nat.le_of_ble_eq_true rfl) rfl (by decide) (fun M91 v_ h91 => ?_)
    obtain ⟨e_, rfl⟩ := h91
    replace e_ := e_.symm
    subst e_
    refine gJ_vret dX7_init_94 rfl ?_
    refine ⟨rfl, hM2, fun x hx => (gUp_n rfl (by omega)).trans (hold x hx), ⟨fun _ => 0, fun _ => none, fun _ => none, fun _ => none, gUp_n h0 (by omega), gUp_n (by rw [cLab_0]; exact h1) (by omega), gUp_n h2 (by omega), gUp_n (by rw [cHas_0]; exact h3) (by omega), gUp_n h4 (by omega), gUp_n h5 (by omega), gUp_n h6 (by omega), gUp_n h7 (by omega), gUp_s, fun s hs hz => absurd (mV0_lo (by omega)) hz, fun r hr => Or.inl ⟨mV0_lo (by omega), rfl⟩, fun r hr => Or.inl ⟨mV0_lo (by omega), rfl⟩, fun r hr => Or.inl ⟨mV0_lo (by omega), rfl⟩⟩⟩
  refine gCon_of (by decide) (Nat.le_of_ble_eq_true rfl) ?_
  show gJ _ _ _ _ _ _ 0 [(0, _)] [] _
  refine gJ_aload_n dX7_init_0 rfl rfl ?_
  refine gJ_objInit oX7_3 dX7_init_1 (by decide) (by omega) ?_
  refine gJ_aload_n dX7_init_4 rfl rfl ?_
  refine gJ_bipush (v := 36) dX7_init_5 (by decide) ?_
  refine gJ_newI (N := 36) (by decide) (by decide) (by decide) dX7_init_7 ?_
  show gJ _ _ _ _ _ _ _ _ (Value.ref (q + 1) :: _) _
  refine gJ_putF fX7_9 rfl rfl dX7_init_9 (by repeat (first | exact gUp_s | exact gNew_s | assumption | refine gUp_n ?_ (by first | omega | (simp only [gUp, gNew]; omega)) | refine gNew_n ?_ (by first | omega | (simp only [gUp, gNew]; omega)))) rfl rfl (Nat.le_of_ble_eq_true rfl) ?_
  refine gJ_aload_n dX7_init_12 rfl rfl ?_
  refine gJ_bipush (v := 12) dX7_init_13 (by decide) ?_
  refine gJ_newI (N := 12) (by decide) (by decide) (by decide) dX7_init_15 ?_
  show gJ _ _ _ _ _ _ _ _ (Value.ref (q + 2) :: _) _
  refine gJ_putF fX7_15 rfl rfl dX7_init_17 (by repeat (first | exact gUp_s | exact gNew_s | assumption | refine gUp_n ?_ (by first | omega | (simp only [gUp, gNew]; omega)) | refine gNew_n ?_ (by first | omega | (simp only [gUp, gNew]; omega)))) rfl rfl (Nat.le_of_ble_eq_true rfl) ?_
  refine gJ_aload_n dX7_init_20 rfl rfl ?_
  refine gJ_bipush (v := 12) dX7_init_21 (by decide) ?_
  refine gJ_newZ (N := 12) (by decide) (by decide) (by decide) dX7_init_23 ?_
  show gJ _ _ _ _ _ _ _ _ (Value.ref (q + 3) :: _) _
  refine gJ_putF fX7_18 rfl rfl dX7_init_25 (by repeat (first | exact gUp_s | exact gNew_s | assumption | refine gUp_n ?_ (by first | omega | (simp only [gUp, gNew]; omega)) | refine gNew_n ?_ (by first | omega | (simp only [gUp, gNew]; omega)))) rfl rfl (Nat.le_of_ble_eq_true rfl) ?_
  refine gJ_aload_n dX7_init_28 rfl rfl ?_
  refine gJ_iconst (v := 5) dX7_init_29 (by decide) ?_
  refine gJ_newR (t := 3) (N := 5) rfl kX7_22 (fun _ h => h.2.1) (by decide) (by decide) (by decide) dX7_init_30 ?_
  show gJ _ _ _ _ _ _ _ _ (Value.ref (q + 4) :: _) _
  refine gJ_putF fX7_24 rfl rfl dX7_init_33 (by repeat (first | exact gUp_s | exact gNew_s | assumption | refine gUp_n ?_ (by first | omega | (simp only [gUp, gNew]; omega)) | refine gNew_n ?_ (by first | omega | (simp only [gUp, gNew]; omega)))) rfl rfl (Nat.le_of_ble_eq_true rfl) ?_
  refine gJ_aload_n dX7_init_36 rfl rfl ?_
  refine gJ_bipush (v := 6) dX7_init_37 (by decide) ?_
  refine gJ_newR (t := 4) (N := 6) rfl kX7_28 (fun _ h => h.2.2.1) (by decide) (by decide) (by decide) dX7_init_39 ?_
  show gJ _ _ _ _ _ _ _ _ (Value.ref (q + 5) :: _) _
  refine gJ_putF fX7_30 rfl rfl dX7_init_42 (by repeat (first | exact gUp_s | exact gNew_s | assumption | refine gUp_n ?_ (by first | omega | (simp only [gUp, gNew]; omega)) | refine gNew_n ?_ (by first | omega | (simp only [gUp, gNew]; omega)))) rfl rfl (Nat.le_of_ble_eq_true rfl) ?_
  refine gJ_aload_n dX7_init_45 rfl rfl ?_
  refine gJ_iconst (v := 4) dX7_init_46 (by decide) ?_
  refine gJ_newR (t := 5) (N := 4) rfl kX7_34 (fun _ h => h.2.2.2) (by decide) (by decide) (by decide) dX7_init_47 ?_
  show gJ _ _ _ _ _ _ _ _ (Value.ref (q + 6) :: _) _
  refine gJ_putF fX7_36 rfl rfl dX7_init_50 (by repeat (first | exact gUp_s | exact gNew_s | assumption | refine gUp_n ?_ (by first | omega | (simp only [gUp, gNew]; omega)) | refine gNew_n ?_ (by first | omega | (simp only [gUp, gNew]; omega)))) rfl rfl (Nat.le_of_ble_eq_true rfl) ?_
  refine gJ_aload_n dX7_init_53 rfl rfl ?_
  refine gJ_iconst (v := 5) dX7_init_54 (by decide) ?_
  refine gJ_newI (N := 5) (by decide) (by decide) (by decide) dX7_init_55 ?_
  show gJ _ _ _ _ _ _ _ _ (Value.ref (q + 7) :: _) _
  refine gJ_dup dX7_init_57 rfl ?_
  refine gJ_iconst (v := 0) dX7_init_58 (by decide) ?_
  refine gJ_iconst (v := 5) dX7_init_59 (by decide) ?_
  refine gJ_iastN (j := 0) dX7_init_60 (by repeat (first | exact gUp_s | exact gNew_s | assumption | refine gUp_n ?_ (by first | omega | (simp only [gUp, gNew]; omega)) | refine gNew_n ?_ (by first | omega | (simp only [gUp, gNew]; omega)))) (by first | with_reducible rfl | rfl) (by omega) (by decide) ?_
  try rw [gUp_up]
  refine gJ_dup dX7_init_61 rfl ?_
  refine gJ_iconst (v := 1) dX7_init_62 (by decide) ?_
  refine gJ_bipush (v := 60) dX7_init_63 (by decide) ?_
  refine gJ_iastN (j := 1) dX7_init_65 (by repeat (first | exact gUp_s | exact gNew_s | assumption | refine gUp_n ?_ (by first | omega | (simp only [gUp, gNew]; omega)) | refine gNew_n ?_ (by first | omega | (simp only [gUp, gNew]; omega)))) (by first | with_reducible rfl | rfl) (by omega) (by decide) ?_
  try rw [gUp_up]
  refine gJ_dup dX7_init_66 rfl ?_
  refine gJ_iconst (v := 2) dX7_init_67 (by decide) ?_
  refine gJ_bipush (v := 30) dX7_init_68 (by decide) ?_
  refine gJ_iastN (j := 2) dX7_init_70 (by repeat (first | exact gUp_s | exact gNew_s | assumption | refine gUp_n ?_ (by first | omega | (simp only [gUp, gNew]; omega)) | refine gNew_n ?_ (by first | omega | (simp only [gUp, gNew]; omega)))) (by first | with_reducible rfl | rfl) (by omega) (by decide) ?_
  try rw [gUp_up]
  refine gJ_dup dX7_init_71 rfl ?_
  refine gJ_iconst (v := 3) dX7_init_72 (by decide) ?_
  refine gJ_iconst (v := 4) dX7_init_73 (by decide) ?_
  refine gJ_iastN (j := 3) dX7_init_74 (by repeat (first | exact gUp_s | exact gNew_s | assumption | refine gUp_n ?_ (by first | omega | (simp only [gUp, gNew]; omega)) | refine gNew_n ?_ (by first | omega | (simp only [gUp, gNew]; omega)))) (by first | with_reducible rfl | rfl) (by omega) (by decide) ?_
  try rw [gUp_up]
  refine gJ_dup dX7_init_75 rfl ?_
  refine gJ_iconst (v := 4) dX7_init_76 (by decide) ?_
  refine gJ_iconst (v := 1) dX7_init_77 (by decide) ?_
  refine gJ_iastN (j := 4) dX7_init_78 (by repeat (first | exact gUp_s | exact gNew_s | assumption | refine gUp_n ?_ (by first | omega | (simp only [gUp, gNew]; omega)) | refine gNew_n ?_ (by first | omega | (simp only [gUp, gNew]; omega)))) (by first | with_reducible rfl | rfl) (by omega) (by decide) ?_
  try rw [gUp_up]
  refine gJ_putF fX7_40 rfl rfl dX7_init_79 (by repeat (first | exact gUp_s | exact gNew_s | assumption | refine gUp_n ?_ (by first | omega | (simp only [gUp, gNew]; omega)) | refine gNew_n ?_ (by first | omega | (simp only [gUp, gNew]; omega)))) rfl rfl (Nat.le_of_ble_eq_true rfl) ?_
  refine gJ_aload_n dX7_init_82 rfl rfl ?_
  refine gJ_bipush (v := 20) dX7_init_83 (by decide) ?_
  refine gJ_newL (N := 20) (by decide) (by decide) (by decide) dX7_init_85 ?_
  show gJ _ _ _ _ _ _ _ _ (Value.ref (q + 8) :: _) _
  refine gJ_putF fX7_43 rfl rfl dX7_init_87 (by repeat (first | exact gUp_s | exact gNew_s | assumption | refine gUp_n ?_ (by first | omega | (simp only [gUp, gNew]; omega)) | refine gNew_n ?_ (by first | omega | (simp only [gUp, gNew]; omega)))) rfl rfl (Nat.le_of_ble_eq_true rfl) ?_
  refine gJ_ls (L90 _ rfl (fun x hx => ?_) ?_ ?_ ?_ ?_ ?_ ?_ ?_ ?_ ?_) ⟨rfl, trivial⟩
  · (repeat (first | refine gUp_n ?_ (by first | omega | (simp only [gUp, gNew]; omega)) | refine gNew_n ?_ (by first | omega | (simp only [gUp, gNew]; omega))))
    rfl
  · (repeat (first | exact gUp_s | exact gNew_s | refine gUp_n ?_ (by first | omega | (simp only [gUp, gNew]; omega)) | refine gNew_n ?_ (by first | omega | (simp only [gUp, gNew]; omega))))
  · (repeat (first | exact gUp_s | exact gNew_s | refine gUp_n ?_ (by first | omega | (simp only [gUp, gNew]; omega)) | refine gNew_n ?_ (by first | omega | (simp only [gUp, gNew]; omega))))
  · (repeat (first | exact gUp_s | exact gNew_s | refine gUp_n ?_ (by first | omega | (simp only [gUp, gNew]; omega)) | refine gNew_n ?_ (by first | omega | (simp only [gUp, gNew]; omega))))
  · (repeat (first | exact gUp_s | exact gNew_s | refine gUp_n ?_ (by first | omega | (simp only [gUp, gNew]; omega)) | refine gNew_n ?_ (by first | omega | (simp only [gUp, gNew]; omega))))
  · (repeat (first | exact gUp_s | exact gNew_s | refine gUp_n ?_ (by first | omega | (simp only [gUp, gNew]; omega)) | refine gNew_n ?_ (by first | omega | (simp only [gUp, gNew]; omega))))
  · (repeat (first | exact gUp_s | exact gNew_s | refine gUp_n ?_ (by first | omega | (simp only [gUp, gNew]; omega)) | refine gNew_n ?_ (by first | omega | (simp only [gUp, gNew]; omega))))
  · (repeat (first | exact gUp_s | exact gNew_s | refine gUp_n ?_ (by first | omega | (simp only [gUp, gNew]; omega)) | refine gNew_n ?_ (by first | omega | (simp only [gUp, gNew]; omega))))
  · rw [cPar_0]; (repeat (first | exact gUp_s | exact gNew_s | refine gUp_n ?_ (by first | omega | (simp only [gUp, gNew]; omega)) | refine gNew_n ?_ (by first | omega | (simp only [gUp, gNew]; omega))))
  · (repeat (first | exact gUp_s | exact gNew_s | refine gUp_n ?_ (by first | omega | (simp only [gUp, gNew]; omega)) | refine gNew_n ?_ (by first | omega | (simp only [gUp, gNew]; omega))))
end MAKE
