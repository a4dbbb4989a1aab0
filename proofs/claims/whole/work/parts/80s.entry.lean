section LAW
variable {nm : String}
variable {G : gG}
set_option maxHeartbeats 1000000 in
set_option maxRecDepth 20000 in
/-- the law from its entry on -/
theorem law_start (hL : gSL G ≤ 3584) (M : gM) (hM : ∀ q, M.2 ≤ q → M.1 q = none) : gJ G (kLn nm) 10 (7 * 512 + 8 + 1 + 65 + 1) (25 * 512 + 6453 + 12 + 6382 + 5) M 0 [(0, .ref (gS G 4))] [] (gQ (kLn nm) (fun _ v => v = some (.int 1))) := by
  obtain ⟨b, hb⟩ : ∃ b, b = M.2 := ⟨_, rfl⟩
  have hC4 := c11_init (G := G) (M := gNew M (gO 10 [.null, .null, .null, .null, .int 0])) (b := b) (by show M.2 + 1 = _; omega) (by rw [hb]; exact gNew_s)
  refine gJ_new (k := (kLn nm)) nL_7 dL_law_0 ?_
  show gJ _ _ _ _ _ _ _ _ (Value.ref M.2 :: _) _
  rw [← hb]
  refine gJ_dup dL_law_3 rfl ?_
  refine gJ_callI (nc := 7 * 512 + 8 + 1) (ns := 25 * 512 + 6453 + 12) (mc := 65) (ms := 6382) (As := []) b_X11_init lL_9 i_X11_init rfl rfl dL_law_4 (hC4) rfl (Nat.le_of_ble_eq_true rfl) rfl (by decide) (fun M4 v_ h4 => ?_)
  obtain ⟨rfl, n4, x4, t4, u4, r4, r4b, r4c⟩ := h4
  have hC12 := c12_init (G := G) (M := gNew M4 (gO 11 [.null, .null, .null, .null, .null, .null, .int 0, .null, .int 0, .int 0, .int 0, .null])) (m := b + 66) (by show M4.2 + 1 = _; omega) (by rw [← n4]; exact gNew_s)
  refine gJ_astore_n (lv2 := [(1, _), (0, _)]) dL_law_7 rfl rfl rfl ?_
  refine gJ_new (k := (kLn nm)) nL_10 dL_law_8 ?_
  show gJ _ _ _ _ _ _ _ _ (Value.ref M4.2 :: _) _
  rw [n4]
  refine gJ_dup dL_law_11 rfl ?_
  refine gJ_callI (nc := 7 * 512) (ns := 25 * 512) (mc := 8) (ms := 6453) (As := []) b_X12_init lL_12 i_X12_init rfl rfl dL_law_12 (hC12) rfl (Nat.le_of_ble_eq_true rfl) rfl (by decide) (fun M12 v_ h12 => ?_)
  obtain ⟨rfl, n12, o12, m0, m1, m2, m3, m4, m5, m6, m7, m8⟩ := h12
  refine gJ_astore_n (lv2 := [(2, _), (1, _), (0, _)]) dL_law_15 rfl rfl rfl ?_
  refine gJ_iconst (v := 0) dL_law_16 (by decide) ?_
  refine gJ_istore_n (lv2 := [(3, _), (2, _), (1, _), (0, _)]) dL_law_17 rfl rfl rfl ?_
  have old : ∀ x, x < b + 66 → M12.1 x = M4.1 x := (fun x hx => (o12 x hx).trans (gNew_n rfl (by omega)))
  have hcX : cX M12 b mV0 (fun _ => 0) (fun _ => 0) (fun _ => 0) false (fun _ => 0) 0 := ⟨(old _ (by omega)).trans x4, ⟨_, (old _ (by omega)).trans t4⟩, (old _ (by omega)).trans u4, ⟨0, _, by omega, cR_k0 (r4 (b + 75)) (fun x h1 h2 => old x (by omega))⟩, ⟨0, mV0, _, _, by omega, mV0_I, mV0_J, cR_k0 (r4b (b + 75)) (fun x h1 h2 => old x (by omega)), fun h => by cases h⟩, ⟨0, mV0, _, _, cR_k0 (r4c (b + 75)) (fun x h1 h2 => old x (by omega))⟩⟩
  have hcL : cL M12 b := ⟨_, _, _, _, _, _, _, hcX, mV0_I, mV0_J, by omega, fun i => ⟨0, by omega, rfl⟩, by omega, ⟨0, 0, _, _, _, m0, m1, m2, m3, m4, m5, m6, m7, m8⟩⟩
  exact gJ_ls (law_loop hL 512 0 M12 (by omega) (by omega) hcL) ⟨rfl, rfl, rfl, rfl, trivial⟩
end LAW
