section MAKE
variable {G : gG} {M : gM} {q E b s : Nat}
set_option maxHeartbeats 1000000 in
set_option maxRecDepth 20000 in
theorem c9_init (hn : M.2 = s + 1) (hm : M.1 s = some (gO 8 [.int 0, .null, .null, .null, .null])) : gCon G kX9_init 2 20 2101 M [.ref s] (fun M2 v => v = none ∧ M2.2 = s + 21 ∧ (∀ x, x < s → M2.1 x = M.1 x) ∧ cR 0 M2 (s + 21) s mV0 (fun _ => 0) (fun _ => 0)) := by
  refine gCon_of (by decide) (Nat.le_of_ble_eq_true rfl) ?_
  have hC9 := c7_init (G := G) (M := gNew M (gO 6 [.null, .null, .null, .null, .null, .null, .null, .null])) (q := s + 1) (by show M.2 + 1 = _; omega) (by rw [← hn]; exact gNew_s)
  show gJ _ _ _ _ _ _ 0 [(0, _)] [] _
  refine gJ_aload_n dX9_init_0 rfl rfl ?_
  refine gJ_objInit oX9_3 dX9_init_1 (by decide) (by omega) ?_
  refine gJ_aload_n dX9_init_4 rfl rfl ?_
  refine gJ_new (k := kX9_init) nX9_9 dX9_init_5 ?_
  show gJ _ _ _ _ _ _ _ _ (Value.ref M.2 :: _) _
  rw [hn]
  refine gJ_dup dX9_init_8 rfl ?_
  refine gJ_callI (As := []) b_X7_init lX9_11 i_X7_init rfl rfl dX9_init_9 (hC9) rfl (Nat.le_of_ble_eq_true rfl) rfl (by decide) (fun M9 v_ h9 => ?_)
  obtain ⟨rfl, n9, o9, r9⟩ := h9
  have s9 : M9.1 s = some (gO 8 [.int 0, .null, .null, .null, .null]) := (o9 s (by omega)).trans (gNew_n hm (by omega))
  have k9 : ∀ x, x < s → M9.1 x = M.1 x := (fun x hx => (o9 x (by omega)).trans (gNew_n rfl (by omega)))
  refine gJ_putF fX9_12 rfl rfl dX9_init_12 s9 rfl rfl (Nat.le_of_ble_eq_true rfl) ?_
  refine gJ_aload_n dX9_init_15 rfl rfl ?_
  refine gJ_new (k := kX9_init) nX9_18 dX9_init_16 ?_
  show gJ _ _ _ _ _ _ _ _ (Value.ref M9.2 :: _) _
  rw [n9]
  have hC20 := c0_init (G := G) (M := gNew (gUp M9 s (gO 8 [.int 0, .ref (s + 1), .null, .null, .null])) (gO 0 [.long 0, .long 0, .null, .null, .null])) (q := s + 10) (by show M9.2 + 1 = _; omega) (by rw [show s + 10 = (gUp M9 s (gO 8 [.int 0, .ref (s + 1), .null, .null, .null])).2 from n9.symm]; exact gNew_s)
  refine gJ_dup dX9_init_19 rfl ?_
  refine gJ_callIN (As := []) b_X0_init lX9_20 i_X0_init rfl rfl dX9_init_20 (hC20) rfl (Nat.le_of_ble_eq_true rfl) rfl (by decide) (fun M20 v_ h20 => ?_)
  obtain ⟨rfl, n20, o20, r20⟩ := h20
  have x20 : ∀ x, x ≠ s → x < s + 10 → M20.1 x = M9.1 x := (fun x h1 h2 => (o20 x h2).trans (gNew_n (gUp_n rfl h1) (by show x ≠ M9.2; omega)))
  have s20 : M20.1 s = some (gO 8 [.int 0, .ref (s + 1), .null, .null, .null]) := (o20 s (by omega)).trans (gNew_n gUp_s (by show s ≠ M9.2; omega))
  refine gJ_putF fX9_21 rfl rfl dX9_init_23 s20 rfl rfl (Nat.le_of_ble_eq_true rfl) ?_
  refine gJ_aload_n dX9_init_26 rfl rfl ?_
  refine gJ_new (k := kX9_init) nX9_25 dX9_init_27 ?_
  show gJ _ _ _ _ _ _ _ _ (Value.ref M20.2 :: _) _
  rw [n20]
  have hC31 := c2_init (G := G) (M := gNew (gUp M20 s (gO 8 [.int 0, .ref (s + 1), .ref (s + 10), .null, .null])) (gO 1 [.null, .null, .null, .null])) (q := s + 14) (by show M20.2 + 1 = _; omega) (by rw [show s + 14 = (gUp M20 s (gO 8 [.int 0, .ref (s + 1), .ref (s + 10), .null, .null])).2 from n20.symm]; exact gNew_s)
  refine gJ_dup dX9_init_30 rfl ?_
  refine gJ_callIN (As := []) b_X2_init lX9_27 i_X2_init rfl rfl dX9_init_31 (hC31) rfl (Nat.le_of_ble_eq_true rfl) rfl (by decide) (fun M31 v_ h31 => ?_)
  obtain ⟨rfl, n31, o31, r31⟩ := h31
  have x31 : ∀ x, x ≠ s → x < s + 14 → M31.1 x = M20.1 x := (fun x h1 h2 => (o31 x h2).trans (gNew_n (gUp_n rfl h1) (by show x ≠ M20.2; omega)))
  have s31 : M31.1 s = some (gO 8 [.int 0, .ref (s + 1), .ref (s + 10), .null, .null]) := (o31 s (by omega)).trans (gNew_n gUp_s (by show s ≠ M20.2; omega))
  refine gJ_putF fX9_28 rfl rfl dX9_init_34 s31 rfl rfl (Nat.le_of_ble_eq_true rfl) ?_
  refine gJ_aload_n dX9_init_37 rfl rfl ?_
  refine gJ_new (k := kX9_init) nX9_32 dX9_init_38 ?_
  show gJ _ _ _ _ _ _ _ _ (Value.ref M31.2 :: _) _
  rw [n31]
  have hC42 := c4_init (G := G) (M := gNew (gUp M31 s (gO 8 [.int 0, .ref (s + 1), .ref (s + 10), .ref (s + 14), .null])) (gO 3 [.null, .int 0])) (q := s + 19) (by show M31.2 + 1 = _; omega) (by rw [show s + 19 = (gUp M31 s (gO 8 [.int 0, .ref (s + 1), .ref (s + 10), .ref (s + 14), .null])).2 from n31.symm]; exact gNew_s)
  refine gJ_dup dX9_init_41 rfl ?_
  refine gJ_callIN (As := []) b_X4_init lX9_34 i_X4_init rfl rfl dX9_init_42 (hC42) rfl (Nat.le_of_ble_eq_true rfl) rfl (by decide) (fun M42 v_ h42 => ?_)
  obtain ⟨rfl, n42, o42, r42⟩ := h42
  have x42 : ∀ x, x ≠ s → x < s + 19 → M42.1 x = M31.1 x := (fun x h1 h2 => (o42 x h2).trans (gNew_n (gUp_n rfl h1) (by show x ≠ M31.2; omega)))
  have s42 : M42.1 s = some (gO 8 [.int 0, .ref (s + 1), .ref (s + 10), .ref (s + 14), .null]) := (o42 s (by omega)).trans (gNew_n gUp_s (by show s ≠ M31.2; omega))
  refine gJ_putF fX9_35 rfl rfl dX9_init_45 s42 rfl rfl (Nat.le_of_ble_eq_true rfl) ?_
  refine gJ_vret dX9_init_48 rfl ?_
  refine ⟨rfl, n42, fun x hx => ?_, ?_⟩
  · exact (gUp_n rfl (by omega)).trans ((x42 x (by omega) (by omega)).trans ((x31 x (by omega) (by omega)).trans ((x20 x (by omega) (by omega)).trans (k9 x hx))))
  · refine ⟨mV0_lo (by omega), ?_, ?_, ?_, ?_, ?_⟩
    · rw [mV0_lo (by omega)]; exact gUp_s
    · exact cRS_k0 r9 (fun x h1 h2 => (gUp_n rfl (by omega)).trans ((x42 x (by omega) (by omega)).trans ((x31 x (by omega) (by omega)).trans (x20 x (by omega) (by omega)))))
    · exact cRA_k r20 (fun x h1 h2 => (gUp_n rfl (by omega)).trans ((x42 x (by omega) (by omega)).trans (x31 x (by omega) (by omega))))
    · exact cRG_k r31 (fun x h1 h2 => (gUp_n rfl (by omega)).trans (x42 x (by omega) (by omega)))
    · exact cRL_k r42 (fun x h1 h2 => gUp_n rfl (by omega))
theorem c10_init (hn : M.2 = q + 1) (hm : M.1 q = some (gO 9 [.null, .int 0, .int 0, .int 0])) : gCon G kX10_init 1 1 60 M [.ref q] (fun M2 v => v = none ∧ M2.2 = q + 2 ∧ (∀ x, x < q → M2.1 x = M.1 x) ∧ M2.1 q = some (cTp q 0 (0, false)) ∧ M2.1 (q + 1) = some (gI 60 (fun _ => 0))) := by
  obtain ⟨f, n⟩ := M
  have hn' : n = q + 1 := hn
  subst hn'
  clear hn
  refine gCon_of (by decide) (Nat.le_of_ble_eq_true rfl) ?_
  show gJ _ _ _ _ _ _ 0 [(0, _)] [] _
  refine gJ_aload_n dX10_init_0 rfl rfl ?_
  refine gJ_objInit oX10_3 dX10_init_1 (by decide) (by omega) ?_
  refine gJ_aload_n dX10_init_4 rfl rfl ?_
  refine gJ_bipush (v := 60) dX10_init_5 (by decide) ?_
  refine gJ_newI (N := 60) (by decide) (by decide) (by decide) dX10_init_7 ?_
  show gJ _ _ _ _ _ _ _ _ (Value.ref (q + 1) :: _) _
  refine gJ_putF fX10_11 rfl rfl dX10_init_9 (by repeat (first | exact gUp_s | exact gNew_s | assumption | refine gUp_n ?_ (by first | omega | (simp only [gUp, gNew]; omega)) | refine gNew_n ?_ (by first | omega | (simp only [gUp, gNew]; omega)))) rfl rfl (Nat.le_of_ble_eq_true rfl) ?_
  refine gJ_vret dX10_init_12 rfl ?_
  refine ⟨rfl, rfl, fun x hx => ?_, ?_, ?_⟩
  · (repeat (first | refine gUp_n ?_ (by first | omega | (simp only [gUp, gNew]; omega)) | refine gNew_n ?_ (by first | omega | (simp only [gUp, gNew]; omega))))
    rfl
  all_goals (repeat (first | exact gUp_s | exact gNew_s | refine gUp_n ?_ (by first | omega | (simp only [gUp, gNew]; omega)) | refine gNew_n ?_ (by first | omega | (simp only [gUp, gNew]; omega))))
def cAE (b : Nat) (hi : Bool) : gE := gO 10 [.ref (b + 1), .ref (b + 3), .ref (b + 24), .ref (b + 45), .int (gb hi)]
set_option maxHeartbeats 1000000 in
set_option maxRecDepth 20000 in
theorem c11_init (hn : M.2 = b + 1) (hm : M.1 b = some (gO 10 [.null, .null, .null, .null, .int 0])) : gCon G kX11_init 3 65 6382 M [.ref b] (fun M2 v => v = none ∧ M2.2 = b + 66 ∧ M2.1 b = some (cAE b false) ∧ M2.1 (b + 1) = some (cTp (b + 1) 0 (0, false)) ∧ M2.1 (b + 2) = some (gI 60 (fun _ => 0)) ∧ (∀ E, cR 0 M2 E (b + 3) mV0 (fun _ => 0) (fun _ => 0)) ∧ (∀ E, cR 0 M2 E (b + 24) mV0 (fun _ => 0) (fun _ => 0)) ∧ ∀ E, cR 0 M2 E (b + 45) mV0 (fun _ => 0) (fun _ => 0)) := by
  refine gCon_of (by decide) (Nat.le_of_ble_eq_true rfl) ?_
  have hC1 := c10_init (G := G) (M := gNew M (gO 9 [.null, .int 0, .int 0, .int 0])) (q := b + 1) (by show M.2 + 1 = _; omega) (by rw [← hn]; exact gNew_s)
  show gJ _ _ _ _ _ _ 0 [(0, _)] [] _
  refine gJ_aload_n dX11_init_0 rfl rfl ?_
  refine gJ_objInit oX11_3 dX11_init_1 (by decide) (by omega) ?_
  refine gJ_aload_n dX11_init_4 rfl rfl ?_
  refine gJ_new (k := kX11_init) nX11_9 dX11_init_5 ?_
  show gJ _ _ _ _ _ _ _ _ (Value.ref M.2 :: _) _
  rw [hn]
  refine gJ_dup dX11_init_8 rfl ?_
  refine gJ_callIN (As := []) b_X10_init lX11_11 i_X10_init rfl rfl dX11_init_9 (hC1) rfl (Nat.le_of_ble_eq_true rfl) rfl (by decide) (fun M9 v_ h9 => ?_)
  obtain ⟨rfl, n9, o9, t9, u9⟩ := h9
  have s9 : M9.1 b = some (gO 10 [.null, .null, .null, .null, .int 0]) := (o9 b (by omega)).trans (gNew_n hm (by omega))
  refine gJ_putF fX11_12 rfl rfl dX11_init_12 s9 rfl rfl (Nat.le_of_ble_eq_true rfl) ?_
  refine gJ_aload_n dX11_init_15 rfl rfl ?_
  refine gJ_new (k := kX11_init) nX11_16 dX11_init_16 ?_
  show gJ _ _ _ _ _ _ _ _ (Value.ref M9.2 :: _) _
  rw [n9]
  have hC20 := c9_init (G := G) (M := gNew (gUp M9 b (gO 10 [.ref (b + 1), .null, .null, .null, .int 0])) (gO 8 [.int 0, .null, .null, .null, .null])) (s := b + 3) (by show M9.2 + 1 = _; omega) (by rw [show b + 3 = (gUp M9 b (gO 10 [.ref (b + 1), .null, .null, .null, .int 0])).2 from n9.symm]; exact gNew_s)
  refine gJ_dup dX11_init_19 rfl ?_
  refine gJ_callIN (As := []) b_X9_init lX11_18 i_X9_init rfl rfl dX11_init_20 (hC20) rfl (Nat.le_of_ble_eq_true rfl) rfl (by decide) (fun M20 v_ h20 => ?_)
  obtain ⟨rfl, n20, o20, r20⟩ := h20
  have x20 : ∀ x, x ≠ b → x < b + 3 → M20.1 x = M9.1 x := (fun x h1 h2 => (o20 x h2).trans (gNew_n (gUp_n rfl h1) (by show x ≠ M9.2; omega)))
  have s20 : M20.1 b = some (gO 10 [.ref (b + 1), .null, .null, .null, .int 0]) := (o20 b (by omega)).trans (gNew_n gUp_s (by show b ≠ M9.2; omega))
  refine gJ_putF fX11_19 rfl rfl dX11_init_23 s20 rfl rfl (Nat.le_of_ble_eq_true rfl) ?_
  refine gJ_aload_n dX11_init_26 rfl rfl ?_
  refine gJ_new (k := kX11_init) nX11_16 dX11_init_27 ?_
  show gJ _ _ _ _ _ _ _ _ (Value.ref M20.2 :: _) _
  rw [n20]
  have hC31 := c9_init (G := G) (M := gNew (gUp M20 b (gO 10 [.ref (b + 1), .ref (b + 3), .null, .null, .int 0])) (gO 8 [.int 0, .null, .null, .null, .null])) (s := b + 24) (by show M20.2 + 1 = _; omega) (by rw [show b + 24 = (gUp M20 b (gO 10 [.ref (b + 1), .ref (b + 3), .null, .null, .int 0])).2 from n20.symm]; exact gNew_s)
  refine gJ_dup dX11_init_30 rfl ?_
  refine gJ_callIN (As := []) b_X9_init lX11_18 i_X9_init rfl rfl dX11_init_31 (hC31) rfl (Nat.le_of_ble_eq_true rfl) rfl (by decide) (fun M31 v_ h31 => ?_)
  obtain ⟨rfl, n31, o31, r31⟩ := h31
  have x31 : ∀ x, x ≠ b → x < b + 24 → M31.1 x = M20.1 x := (fun x h1 h2 => (o31 x h2).trans (gNew_n (gUp_n rfl h1) (by show x ≠ M20.2; omega)))
  have s31 : M31.1 b = some (gO 10 [.ref (b + 1), .ref (b + 3), .null, .null, .int 0]) := (o31 b (by omega)).trans (gNew_n gUp_s (by show b ≠ M20.2; omega))
  refine gJ_putF fX11_23 rfl rfl dX11_init_34 s31 rfl rfl (Nat.le_of_ble_eq_true rfl) ?_
  refine gJ_aload_n dX11_init_37 rfl rfl ?_
  refine gJ_new (k := kX11_init) nX11_16 dX11_init_38 ?_
  show gJ _ _ _ _ _ _ _ _ (Value.ref M31.2 :: _) _
  rw [n31]
  have hC42 := c9_init (G := G) (M := gNew (gUp M31 b (gO 10 [.ref (b + 1), .ref (b + 3), .ref (b + 24), .null, .int 0])) (gO 8 [.int 0, .null, .null, .null, .null])) (s := b + 45) (by show M31.2 + 1 = _; omega) (by rw [show b + 45 = (gUp M31 b (gO 10 [.ref (b + 1), .ref (b + 3), .ref (b + 24), .null, .int 0])).2 from n31.symm]; exact gNew_s)
  refine gJ_dup dX11_init_41 rfl ?_
  refine gJ_callIN (As := []) b_X9_init lX11_18 i_X9_init rfl rfl dX11_init_42 (hC42) rfl (Nat.le_of_ble_eq_true rfl) rfl (by decide) (fun M42 v_ h42 => ?_)
  obtain ⟨rfl, n42, o42, r42⟩ := h42
  have x42 : ∀ x, x ≠ b → x < b + 45 → M42.1 x = M31.1 x := (fun x h1 h2 => (o42 x h2).trans (gNew_n (gUp_n rfl h1) (by show x ≠ M31.2; omega)))
  have s42 : M42.1 b = some (gO 10 [.ref (b + 1), .ref (b + 3), .ref (b + 24), .null, .int 0]) := (o42 b (by omega)).trans (gNew_n gUp_s (by show b ≠ M31.2; omega))
  refine gJ_putF fX11_26 rfl rfl dX11_init_45 s42 rfl rfl (Nat.le_of_ble_eq_true rfl) ?_
  refine gJ_vret dX11_init_48 rfl ?_
  refine ⟨rfl, n42, gUp_s, ?_, ?_, fun E => ?_, fun E => ?_, fun E => ?_⟩
  · exact (gUp_n rfl (by omega)).trans ((x42 _ (by omega) (by omega)).trans ((x31 _ (by omega) (by omega)).trans ((x20 _ (by omega) (by omega)).trans t9)))
  · exact (gUp_n rfl (by omega)).trans ((x42 _ (by omega) (by omega)).trans ((x31 _ (by omega) (by omega)).trans ((x20 _ (by omega) (by omega)).trans u9)))
  · exact cR_k0 r20 (fun x h1 h2 => (gUp_n rfl (by omega)).trans ((x42 x (by omega) (by omega)).trans (x31 x (by omega) (by omega))))
  · exact cR_k0 r31 (fun x h1 h2 => (gUp_n rfl (by omega)).trans (x42 x (by omega) (by omega)))
  · exact cR_k0 r42 (fun x h1 h2 => gUp_n rfl (by omega))
end MAKE
