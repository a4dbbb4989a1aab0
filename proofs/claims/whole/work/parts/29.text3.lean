/-- a rule's text, from its end -/
def zR9 (T : Nat → Int32) (t : Nat) (F : Nat → Int32) (s : zP) : (Nat → Int32) × zP := (upd F 9 (nI (zDg T t 3 s).1), (zDg T t 3 s).2)
def zR8 (T : Nat → Int32) (t : Nat) (F : Nat → Int32) (s : zP) : (Nat → Int32) × zP := zR9 T t (upd F 8 (nI (zNm T t s).1)) (zEx T t 118 (zEx T t 101 (zEx T t 115 (zNm T t s).2)))
def zR7 (T : Nat → Int32) (t : Nat) (neg : Bool) (F : Nat → Int32) (s : zP) : (Nat → Int32) × zP := zR8 T t (upd F 7 (if neg then -(nI (zNm T t s).1) else nI (zNm T t s).1)) (zEx T t 114 (zEx T t 111 (zEx T t 102 (zNm T t s).2)))
def zR6b (T : Nat → Int32) (t : Nat) (F : Nat → Int32) (s : zP) : (Nat → Int32) × zP := if zH T t s = 45 then zR7 T t true F (s.1 + 1, s.2) else zR7 T t false F s
def zR6 (T : Nat → Int32) (t : Nat) (F : Nat → Int32) (s : zP) : (Nat → Int32) × zP := zR6b T t (upd F 6 (if zH T t s = 60 then 0 else if zH T t s = 62 then 1 else 2)) (if zH T t s = 60 ∨ zH T t s = 62 ∨ zH T t s = 61 then (s.1 + 1, s.2) else (s.1, true))
def zRu (T : Nat → Int32) (t : Nat) (F : Nat → Int32) (s : zP) : (Nat → Int32) × zP := if zH T t s = 60 ∨ zH T t s = 62 ∨ zH T t s = 61 then zR6 T t F s else zR6 T t (upd (zLay 1 (zMs T t false s).1 (zMs T t false s).2.1 F) 1 (nI (zMs T t false s).1)) (zEx T t 58 (zMs T t false s).2.2)
theorem zR9_w {T F : Nat → Int32} {t a : Nat} : (zR9 T t F (a, true)).2 = (a, true) := by rw [zR9, zDg_w]
theorem zR8_w {T F : Nat → Int32} {t a : Nat} : (zR8 T t F (a, true)).2 = (a, true) := by
  rw [zR8, zNm_w]
  dsimp only
  rw [zEx_w (by decide), zEx_w (by decide), zEx_w (by decide), zR9_w]
theorem zR7_w {T F : Nat → Int32} {t a : Nat} {neg : Bool} : (zR7 T t neg F (a, true)).2 = (a, true) := by
  rw [zR7, zNm_w]
  dsimp only
  rw [zEx_w (by decide), zEx_w (by decide), zEx_w (by decide), zR8_w]
theorem zR6b_w {T F : Nat → Int32} {t a : Nat} : (zR6b T t F (a, true)).2 = (a, true) := by
  rw [zR6b, if_neg (by rw [zH_w]; decide), zR7_w]
theorem zR6_w {T F : Nat → Int32} {t a : Nat} : (zR6 T t F (a, true)).2 = (a, true) := by
  rw [zR6, zH_w, if_neg (by decide : ¬ ((-1 : Int32) = 60 ∨ (-1 : Int32) = 62 ∨ (-1 : Int32) = 61)), zR6b_w]
/-- behind a reading: the state, and the row of what was read where nothing was wrong -/
def zQ (m : Nat) (M : gM) (hi : Int32) (t : Nat) (r : (Nat → Int32) × zP) : gPq := fun M2 v => v = none ∧ ∃ F, M2 = zU m M hi t r.2 F ∧ (r.2.2 = false → F = r.1)
theorem zQ_w {m : Nat} {M : gM} {hi : Int32} {t a : Nat} {r : (Nat → Int32) × zP} {F : Nat → Int32} (h : r.2 = (a, true)) : zQ m M hi t r (zU m M hi t (a, true) F) none :=
  ⟨rfl, F, by rw [h], fun h2 => by rw [h] at h2; cases h2⟩
theorem zQ_f {m : Nat} {M : gM} {hi : Int32} {t : Nat} {r : (Nat → Int32) × zP} : zQ m M hi t r (zU m M hi t r.2 r.1) none := ⟨rfl, r.1, rfl, fun _ => rfl⟩
section MODEL
variable {G : gG} {M : gM} {m : Nat} {hi : Int32} {T : Nat → Int32} {t : Nat}
set_option maxRecDepth 20000 in
theorem z12_323 (ht : t ≤ 60) (hB : zB T) (hT : M.1 (m + 7) = some (gI 60 T)) (F : Nat → Int32) (s : zP) (hs : s.1 ≤ t) : gJ G kX12_rule 4 0 0 (zU m M hi t s F) 323 [(0, .ref m)] [] (gQ kX12_rule (zQ m M hi t (zR9 T t F s))) := by
  obtain ⟨a, w⟩ := s
  have ha : a ≤ t := hs
  cases w with
  | true =>
    refine gJ_aload_n dX12_rule_323 rfl rfl ?_
    refine gJ_get fX12_46 dX12_rule_324 (by first | with_reducible assumption | exact zU_o | exact zU_F) rfl ?_
    refine gJ_if_neB (tgt := 342) dX12_rule_327 (by decide) (fun _ => ?_) (fun c_ => by exfalso; cases c_)
    refine gJ_vret dX12_rule_342 rfl ?_
    exact zQ_w (zR9_w)
  | false =>
    refine gJ_aload_n dX12_rule_323 rfl rfl ?_
    refine gJ_get fX12_46 dX12_rule_324 (by first | with_reducible assumption | exact zU_o | exact zU_F) rfl ?_
    refine gJ_if_neB (tgt := 342) dX12_rule_327 (by decide) (fun c_ => by exfalso; cases c_) (fun _ => ?_)
    refine gJ_aload_n dX12_rule_330 rfl rfl ?_
    refine gJ_get fX12_32 dX12_rule_331 (by first | with_reducible assumption | exact zU_o | exact zU_F) rfl ?_
    refine gJ_bipush (v := 9) dX12_rule_334 (by decide) ?_
    refine gJ_aload_n dX12_rule_336 rfl rfl ?_
    refine gJ_iconst (v := 3) dX12_rule_337 (by decide) ?_
    refine gJ_callV (As := [_]) b_X12_digit lX12_54 i_X12_digit s_X12_digit dX12_rule_338 (c12_digit ht hB (zU_n hT (by omega) (by omega)) a (by omega) zU_o 3 (by decide)) zU_o rfl rfl (Nat.le_of_ble_eq_true rfl) rfl (by decide) (fun M338 v_ h338 => ?_)
    obtain ⟨e_, rfl⟩ := h338
    replace e_ := e_.symm
    rw [zU_o2 (s2 := (zDg T t 3 (a, false)).2)] at e_
    subst e_
    refine gJ_iastN (j := 9) dX12_rule_341 (by first | with_reducible assumption | exact zU_o | exact zU_F) (by first | with_reducible rfl | rfl) (by omega) (by decide) ?_
    try rw [gUp_up]
    rw [zU_F2]
    refine gJ_vret dX12_rule_342 rfl ?_
    exact zQ_f (r := zR9 T t F (a, false))
set_option maxRecDepth 20000 in
theorem z12_310 (ht : t ≤ 60) (hB : zB T) (hT : M.1 (m + 7) = some (gI 60 T)) (F : Nat → Int32) (s : zP) (hs : s.1 ≤ t) : gJ G kX12_rule 4 0 0 (zU m M hi t s F) 310 [(0, .ref m)] [] (gQ kX12_rule (zQ m M hi t (zR9 T t F (zEx T t 118 s)))) := by
  obtain ⟨a, w⟩ := s
  have ha : a ≤ t := hs
  cases w with
  | true =>
    refine gJ_aload_n dX12_rule_310 rfl rfl ?_
    refine gJ_get fX12_46 dX12_rule_311 (by first | with_reducible assumption | exact zU_o | exact zU_F) rfl ?_
    refine gJ_if_neB (tgt := 323) dX12_rule_314 (by decide) (fun _ => ?_) (fun c_ => by exfalso; cases c_)
    refine gJ_aload_n dX12_rule_323 rfl rfl ?_
    refine gJ_get fX12_46 dX12_rule_324 (by first | with_reducible assumption | exact zU_o | exact zU_F) rfl ?_
    refine gJ_if_neB (tgt := 342) dX12_rule_327 (by decide) (fun _ => ?_) (fun c_ => by exfalso; cases c_)
    refine gJ_vret dX12_rule_342 rfl ?_
    exact zQ_w (by rw [zEx_w (by decide), zR9_w])
  | false =>
    refine gJ_aload_n dX12_rule_310 rfl rfl ?_
    refine gJ_get fX12_46 dX12_rule_311 (by first | with_reducible assumption | exact zU_o | exact zU_F) rfl ?_
    refine gJ_if_neB (tgt := 323) dX12_rule_314 (by decide) (fun c_ => by exfalso; cases c_) (fun _ => ?_)
    refine gJ_aload_n dX12_rule_317 rfl rfl ?_
    refine gJ_bipush (v := 118) dX12_rule_318 (by decide) ?_
    refine gJ_callV (As := [_]) b_X12_sign lX12_66 i_X12_sign s_X12_sign dX12_rule_320 (c12_sign ht (zU_n hT (by omega) (by omega)) a (by omega) zU_o 118) zU_o rfl rfl (Nat.le_of_ble_eq_true rfl) rfl (by decide) (fun M320 v_ h320 => ?_)
    obtain ⟨e_, rfl⟩ := h320
    replace e_ := e_.symm
    rw [zU_o2 (s2 := zEx T t 118 (a, false))] at e_
    subst e_
    exact gJ_ls (z12_323 ht hB hT F _ (zEx_le (by decide) hs)) ⟨rfl, trivial⟩
set_option maxRecDepth 20000 in
theorem z12_297 (ht : t ≤ 60) (hB : zB T) (hT : M.1 (m + 7) = some (gI 60 T)) (F : Nat → Int32) (s : zP) (hs : s.1 ≤ t) : gJ G kX12_rule 4 0 0 (zU m M hi t s F) 297 [(0, .ref m)] [] (gQ kX12_rule (zQ m M hi t (zR9 T t F (zEx T t 118 (zEx T t 101 s))))) := by
  obtain ⟨a, w⟩ := s
  have ha : a ≤ t := hs
  cases w with
  | true =>
    refine gJ_aload_n dX12_rule_297 rfl rfl ?_
    refine gJ_get fX12_46 dX12_rule_298 (by first | with_reducible assumption | exact zU_o | exact zU_F) rfl ?_
    refine gJ_if_neB (tgt := 310) dX12_rule_301 (by decide) (fun _ => ?_) (fun c_ => by exfalso; cases c_)
    refine gJ_aload_n dX12_rule_310 rfl rfl ?_
    refine gJ_get fX12_46 dX12_rule_311 (by first | with_reducible assumption | exact zU_o | exact zU_F) rfl ?_
    refine gJ_if_neB (tgt := 323) dX12_rule_314 (by decide) (fun _ => ?_) (fun c_ => by exfalso; cases c_)
    refine gJ_aload_n dX12_rule_323 rfl rfl ?_
    refine gJ_get fX12_46 dX12_rule_324 (by first | with_reducible assumption | exact zU_o | exact zU_F) rfl ?_
    refine gJ_if_neB (tgt := 342) dX12_rule_327 (by decide) (fun _ => ?_) (fun c_ => by exfalso; cases c_)
    refine gJ_vret dX12_rule_342 rfl ?_
    exact zQ_w (by rw [zEx_w (by decide), zEx_w (by decide), zR9_w])
  | false =>
    refine gJ_aload_n dX12_rule_297 rfl rfl ?_
    refine gJ_get fX12_46 dX12_rule_298 (by first | with_reducible assumption | exact zU_o | exact zU_F) rfl ?_
    refine gJ_if_neB (tgt := 310) dX12_rule_301 (by decide) (fun c_ => by exfalso; cases c_) (fun _ => ?_)
    refine gJ_aload_n dX12_rule_304 rfl rfl ?_
    refine gJ_bipush (v := 101) dX12_rule_305 (by decide) ?_
    refine gJ_callV (As := [_]) b_X12_sign lX12_66 i_X12_sign s_X12_sign dX12_rule_307 (c12_sign ht (zU_n hT (by omega) (by omega)) a (by omega) zU_o 101) zU_o rfl rfl (Nat.le_of_ble_eq_true rfl) rfl (by decide) (fun M307 v_ h307 => ?_)
    obtain ⟨e_, rfl⟩ := h307
    replace e_ := e_.symm
    rw [zU_o2 (s2 := zEx T t 101 (a, false))] at e_
    subst e_
    exact gJ_ls (z12_310 ht hB hT F _ (zEx_le (by decide) hs)) ⟨rfl, trivial⟩
set_option maxRecDepth 20000 in
theorem z12_284 (ht : t ≤ 60) (hB : zB T) (hT : M.1 (m + 7) = some (gI 60 T)) (F : Nat → Int32) (s : zP) (hs : s.1 ≤ t) : gJ G kX12_rule 4 0 0 (zU m M hi t s F) 284 [(0, .ref m)] [] (gQ kX12_rule (zQ m M hi t (zR9 T t F (zEx T t 118 (zEx T t 101 (zEx T t 115 s)))))) := by
  obtain ⟨a, w⟩ := s
  have ha : a ≤ t := hs
  cases w with
  | true =>
    refine gJ_aload_n dX12_rule_284 rfl rfl ?_
    refine gJ_get fX12_46 dX12_rule_285 (by first | with_reducible assumption | exact zU_o | exact zU_F) rfl ?_
    refine gJ_if_neB (tgt := 297) dX12_rule_288 (by decide) (fun _ => ?_) (fun c_ => by exfalso; cases c_)
    refine gJ_aload_n dX12_rule_297 rfl rfl ?_
    refine gJ_get fX12_46 dX12_rule_298 (by first | with_reducible assumption | exact zU_o | exact zU_F) rfl ?_
    refine gJ_if_neB (tgt := 310) dX12_rule_301 (by decide) (fun _ => ?_) (fun c_ => by exfalso; cases c_)
    refine gJ_aload_n dX12_rule_310 rfl rfl ?_
    refine gJ_get fX12_46 dX12_rule_311 (by first | with_reducible assumption | exact zU_o | exact zU_F) rfl ?_
    refine gJ_if_neB (tgt := 323) dX12_rule_314 (by decide) (fun _ => ?_) (fun c_ => by exfalso; cases c_)
    refine gJ_aload_n dX12_rule_323 rfl rfl ?_
    refine gJ_get fX12_46 dX12_rule_324 (by first | with_reducible assumption | exact zU_o | exact zU_F) rfl ?_
    refine gJ_if_neB (tgt := 342) dX12_rule_327 (by decide) (fun _ => ?_) (fun c_ => by exfalso; cases c_)
    refine gJ_vret dX12_rule_342 rfl ?_
    exact zQ_w (by rw [zEx_w (by decide), zEx_w (by decide), zEx_w (by decide), zR9_w])
  | false =>
    refine gJ_aload_n dX12_rule_284 rfl rfl ?_
    refine gJ_get fX12_46 dX12_rule_285 (by first | with_reducible assumption | exact zU_o | exact zU_F) rfl ?_
    refine gJ_if_neB (tgt := 297) dX12_rule_288 (by decide) (fun c_ => by exfalso; cases c_) (fun _ => ?_)
    refine gJ_aload_n dX12_rule_291 rfl rfl ?_
    refine gJ_bipush (v := 115) dX12_rule_292 (by decide) ?_
    refine gJ_callV (As := [_]) b_X12_sign lX12_66 i_X12_sign s_X12_sign dX12_rule_294 (c12_sign ht (zU_n hT (by omega) (by omega)) a (by omega) zU_o 115) zU_o rfl rfl (Nat.le_of_ble_eq_true rfl) rfl (by decide) (fun M294 v_ h294 => ?_)
    obtain ⟨e_, rfl⟩ := h294
    replace e_ := e_.symm
    rw [zU_o2 (s2 := zEx T t 115 (a, false))] at e_
    subst e_
    exact gJ_ls (z12_297 ht hB hT F _ (zEx_le (by decide) hs)) ⟨rfl, trivial⟩
set_option maxRecDepth 20000 in
theorem z12_266 (ht : t ≤ 60) (hB : zB T) (hT : M.1 (m + 7) = some (gI 60 T)) (F : Nat → Int32) (s : zP) (hs : s.1 ≤ t) : gJ G kX12_rule 4 0 0 (zU m M hi t s F) 266 [(0, .ref m)] [] (gQ kX12_rule (zQ m M hi t (zR8 T t F s))) := by
  obtain ⟨a, w⟩ := s
  have ha : a ≤ t := hs
  cases w with
  | true =>
    refine gJ_aload_n dX12_rule_266 rfl rfl ?_
    refine gJ_get fX12_46 dX12_rule_267 (by first | with_reducible assumption | exact zU_o | exact zU_F) rfl ?_
    refine gJ_if_neB (tgt := 284) dX12_rule_270 (by decide) (fun _ => ?_) (fun c_ => by exfalso; cases c_)
    refine gJ_aload_n dX12_rule_284 rfl rfl ?_
    refine gJ_get fX12_46 dX12_rule_285 (by first | with_reducible assumption | exact zU_o | exact zU_F) rfl ?_
    refine gJ_if_neB (tgt := 297) dX12_rule_288 (by decide) (fun _ => ?_) (fun c_ => by exfalso; cases c_)
    refine gJ_aload_n dX12_rule_297 rfl rfl ?_
    refine gJ_get fX12_46 dX12_rule_298 (by first | with_reducible assumption | exact zU_o | exact zU_F) rfl ?_
    refine gJ_if_neB (tgt := 310) dX12_rule_301 (by decide) (fun _ => ?_) (fun c_ => by exfalso; cases c_)
    refine gJ_aload_n dX12_rule_310 rfl rfl ?_
    refine gJ_get fX12_46 dX12_rule_311 (by first | with_reducible assumption | exact zU_o | exact zU_F) rfl ?_
    refine gJ_if_neB (tgt := 323) dX12_rule_314 (by decide) (fun _ => ?_) (fun c_ => by exfalso; cases c_)
    refine gJ_aload_n dX12_rule_323 rfl rfl ?_
    refine gJ_get fX12_46 dX12_rule_324 (by first | with_reducible assumption | exact zU_o | exact zU_F) rfl ?_
    refine gJ_if_neB (tgt := 342) dX12_rule_327 (by decide) (fun _ => ?_) (fun c_ => by exfalso; cases c_)
    refine gJ_vret dX12_rule_342 rfl ?_
    exact zQ_w (zR8_w)
  | false =>
    refine gJ_aload_n dX12_rule_266 rfl rfl ?_
    refine gJ_get fX12_46 dX12_rule_267 (by first | with_reducible assumption | exact zU_o | exact zU_F) rfl ?_
    refine gJ_if_neB (tgt := 284) dX12_rule_270 (by decide) (fun c_ => by exfalso; cases c_) (fun _ => ?_)
    refine gJ_aload_n dX12_rule_273 rfl rfl ?_
    refine gJ_get fX12_32 dX12_rule_274 (by first | with_reducible assumption | exact zU_o | exact zU_F) rfl ?_
    refine gJ_bipush (v := 8) dX12_rule_277 (by decide) ?_
    refine gJ_aload_n dX12_rule_279 rfl rfl ?_
    refine gJ_callV (As := []) b_X12_number lX12_70 i_X12_number s_X12_number dX12_rule_280 (c12_number ht hB (zU_n hT (by omega) (by omega)) a ha zU_o) zU_o rfl rfl (Nat.le_of_ble_eq_true rfl) rfl (by decide) (fun M280 v_ h280 => ?_)
    obtain ⟨e_, rfl⟩ := h280
    replace e_ := e_.symm
    rw [zU_o2 (s2 := (zNm T t (a, false)).2)] at e_
    subst e_
    refine gJ_iastN (j := 8) dX12_rule_283 (by first | with_reducible assumption | exact zU_o | exact zU_F) (by first | with_reducible rfl | rfl) (by omega) (by decide) ?_
    try rw [gUp_up]
    rw [zU_F2]
    exact gJ_ls (z12_284 ht hB hT _ _ (zNm_le hs)) ⟨rfl, trivial⟩
set_option maxRecDepth 20000 in
theorem z12_253 (ht : t ≤ 60) (hB : zB T) (hT : M.1 (m + 7) = some (gI 60 T)) (F : Nat → Int32) (s : zP) (hs : s.1 ≤ t) : gJ G kX12_rule 4 0 0 (zU m M hi t s F) 253 [(0, .ref m)] [] (gQ kX12_rule (zQ m M hi t (zR8 T t F (zEx T t 114 s)))) := by
  obtain ⟨a, w⟩ := s
  have ha : a ≤ t := hs
  cases w with
  | true =>
    refine gJ_aload_n dX12_rule_253 rfl rfl ?_
    refine gJ_get fX12_46 dX12_rule_254 (by first | with_reducible assumption | exact zU_o | exact zU_F) rfl ?_
    refine gJ_if_neB (tgt := 266) dX12_rule_257 (by decide) (fun _ => ?_) (fun c_ => by exfalso; cases c_)
    refine gJ_aload_n dX12_rule_266 rfl rfl ?_
    refine gJ_get fX12_46 dX12_rule_267 (by first | with_reducible assumption | exact zU_o | exact zU_F) rfl ?_
    refine gJ_if_neB (tgt := 284) dX12_rule_270 (by decide) (fun _ => ?_) (fun c_ => by exfalso; cases c_)
    refine gJ_aload_n dX12_rule_284 rfl rfl ?_
    refine gJ_get fX12_46 dX12_rule_285 (by first | with_reducible assumption | exact zU_o | exact zU_F) rfl ?_
    refine gJ_if_neB (tgt := 297) dX12_rule_288 (by decide) (fun _ => ?_) (fun c_ => by exfalso; cases c_)
    refine gJ_aload_n dX12_rule_297 rfl rfl ?_
    refine gJ_get fX12_46 dX12_rule_298 (by first | with_reducible assumption | exact zU_o | exact zU_F) rfl ?_
    refine gJ_if_neB (tgt := 310) dX12_rule_301 (by decide) (fun _ => ?_) (fun c_ => by exfalso; cases c_)
    refine gJ_aload_n dX12_rule_310 rfl rfl ?_
    refine gJ_get fX12_46 dX12_rule_311 (by first | with_reducible assumption | exact zU_o | exact zU_F) rfl ?_
    refine gJ_if_neB (tgt := 323) dX12_rule_314 (by decide) (fun _ => ?_) (fun c_ => by exfalso; cases c_)
    refine gJ_aload_n dX12_rule_323 rfl rfl ?_
    refine gJ_get fX12_46 dX12_rule_324 (by first | with_reducible assumption | exact zU_o | exact zU_F) rfl ?_
    refine gJ_if_neB (tgt := 342) dX12_rule_327 (by decide) (fun _ => ?_) (fun c_ => by exfalso; cases c_)
    refine gJ_vret dX12_rule_342 rfl ?_
    exact zQ_w (by rw [zEx_w (by decide), zR8_w])
  | false =>
    refine gJ_aload_n dX12_rule_253 rfl rfl ?_
    refine gJ_get fX12_46 dX12_rule_254 (by first | with_reducible assumption | exact zU_o | exact zU_F) rfl ?_
    refine gJ_if_neB (tgt := 266) dX12_rule_257 (by decide) (fun c_ => by exfalso; cases c_) (fun _ => ?_)
    refine gJ_aload_n dX12_rule_260 rfl rfl ?_
    refine gJ_bipush (v := 114) dX12_rule_261 (by decide) ?_
    refine gJ_callV (As := [_]) b_X12_sign lX12_66 i_X12_sign s_X12_sign dX12_rule_263 (c12_sign ht (zU_n hT (by omega) (by omega)) a (by omega) zU_o 114) zU_o rfl rfl (Nat.le_of_ble_eq_true rfl) rfl (by decide) (fun M263 v_ h263 => ?_)
    obtain ⟨e_, rfl⟩ := h263
    replace e_ := e_.symm
    rw [zU_o2 (s2 := zEx T t 114 (a, false))] at e_
    subst e_
    exact gJ_ls (z12_266 ht hB hT F _ (zEx_le (by decide) hs)) ⟨rfl, trivial⟩
set_option maxRecDepth 20000 in
theorem z12_240 (ht : t ≤ 60) (hB : zB T) (hT : M.1 (m + 7) = some (gI 60 T)) (F : Nat → Int32) (s : zP) (hs : s.1 ≤ t) : gJ G kX12_rule 4 0 0 (zU m M hi t s F) 240 [(0, .ref m)] [] (gQ kX12_rule (zQ m M hi t (zR8 T t F (zEx T t 114 (zEx T t 111 s))))) := by
  obtain ⟨a, w⟩ := s
  have ha : a ≤ t := hs
  cases w with
  | true =>
    refine gJ_aload_n dX12_rule_240 rfl rfl ?_
    refine gJ_get fX12_46 dX12_rule_241 (by first | with_reducible assumption | exact zU_o | exact zU_F) rfl ?_
    refine gJ_if_neB (tgt := 253) dX12_rule_244 (by decide) (fun _ => ?_) (fun c_ => by exfalso; cases c_)
    refine gJ_aload_n dX12_rule_253 rfl rfl ?_
    refine gJ_get fX12_46 dX12_rule_254 (by first | with_reducible assumption | exact zU_o | exact zU_F) rfl ?_
    refine gJ_if_neB (tgt := 266) dX12_rule_257 (by decide) (fun _ => ?_) (fun c_ => by exfalso; cases c_)
    refine gJ_aload_n dX12_rule_266 rfl rfl ?_
    refine gJ_get fX12_46 dX12_rule_267 (by first | with_reducible assumption | exact zU_o | exact zU_F) rfl ?_
    refine gJ_if_neB (tgt := 284) dX12_rule_270 (by decide) (fun _ => ?_) (fun c_ => by exfalso; cases c_)
    refine gJ_aload_n dX12_rule_284 rfl rfl ?_
    refine gJ_get fX12_46 dX12_rule_285 (by first | with_reducible assumption | exact zU_o | exact zU_F) rfl ?_
    refine gJ_if_neB (tgt := 297) dX12_rule_288 (by decide) (fun _ => ?_) (fun c_ => by exfalso; cases c_)
    refine gJ_aload_n dX12_rule_297 rfl rfl ?_
    refine gJ_get fX12_46 dX12_rule_298 (by first | with_reducible assumption | exact zU_o | exact zU_F) rfl ?_
    refine gJ_if_neB (tgt := 310) dX12_rule_301 (by decide) (fun _ => ?_) (fun c_ => by exfalso; cases c_)
    refine gJ_aload_n dX12_rule_310 rfl rfl ?_
    refine gJ_get fX12_46 dX12_rule_311 (by first | with_reducible assumption | exact zU_o | exact zU_F) rfl ?_
    refine gJ_if_neB (tgt := 323) dX12_rule_314 (by decide) (fun _ => ?_) (fun c_ => by exfalso; cases c_)
    refine gJ_aload_n dX12_rule_323 rfl rfl ?_
    refine gJ_get fX12_46 dX12_rule_324 (by first | with_reducible assumption | exact zU_o | exact zU_F) rfl ?_
    refine gJ_if_neB (tgt := 342) dX12_rule_327 (by decide) (fun _ => ?_) (fun c_ => by exfalso; cases c_)
    refine gJ_vret dX12_rule_342 rfl ?_
    exact zQ_w (by rw [zEx_w (by decide), zEx_w (by decide), zR8_w])
  | false =>
    refine gJ_aload_n dX12_rule_240 rfl rfl ?_
    refine gJ_get fX12_46 dX12_rule_241 (by first | with_reducible assumption | exact zU_o | exact zU_F) rfl ?_
    refine gJ_if_neB (tgt := 253) dX12_rule_244 (by decide) (fun c_ => by exfalso; cases c_) (fun _ => ?_)
    refine gJ_aload_n dX12_rule_247 rfl rfl ?_
    refine gJ_bipush (v := 111) dX12_rule_248 (by decide) ?_
    refine gJ_callV (As := [_]) b_X12_sign lX12_66 i_X12_sign s_X12_sign dX12_rule_250 (c12_sign ht (zU_n hT (by omega) (by omega)) a (by omega) zU_o 111) zU_o rfl rfl (Nat.le_of_ble_eq_true rfl) rfl (by decide) (fun M250 v_ h250 => ?_)
    obtain ⟨e_, rfl⟩ := h250
    replace e_ := e_.symm
    rw [zU_o2 (s2 := zEx T t 111 (a, false))] at e_
    subst e_
    exact gJ_ls (z12_253 ht hB hT F _ (zEx_le (by decide) hs)) ⟨rfl, trivial⟩
set_option maxRecDepth 20000 in
theorem z12_227 (ht : t ≤ 60) (hB : zB T) (hT : M.1 (m + 7) = some (gI 60 T)) (F : Nat → Int32) (s : zP) (hs : s.1 ≤ t) : gJ G kX12_rule 4 0 0 (zU m M hi t s F) 227 [(0, .ref m)] [] (gQ kX12_rule (zQ m M hi t (zR8 T t F (zEx T t 114 (zEx T t 111 (zEx T t 102 s)))))) := by
  obtain ⟨a, w⟩ := s
  have ha : a ≤ t := hs
  cases w with
  | true =>
    refine gJ_aload_n dX12_rule_227 rfl rfl ?_
    refine gJ_get fX12_46 dX12_rule_228 (by first | with_reducible assumption | exact zU_o | exact zU_F) rfl ?_
    refine gJ_if_neB (tgt := 240) dX12_rule_231 (by decide) (fun _ => ?_) (fun c_ => by exfalso; cases c_)
    refine gJ_aload_n dX12_rule_240 rfl rfl ?_
    refine gJ_get fX12_46 dX12_rule_241 (by first | with_reducible assumption | exact zU_o | exact zU_F) rfl ?_
    refine gJ_if_neB (tgt := 253) dX12_rule_244 (by decide) (fun _ => ?_) (fun c_ => by exfalso; cases c_)
    refine gJ_aload_n dX12_rule_253 rfl rfl ?_
    refine gJ_get fX12_46 dX12_rule_254 (by first | with_reducible assumption | exact zU_o | exact zU_F) rfl ?_
    refine gJ_if_neB (tgt := 266) dX12_rule_257 (by decide) (fun _ => ?_) (fun c_ => by exfalso; cases c_)
    refine gJ_aload_n dX12_rule_266 rfl rfl ?_
    refine gJ_get fX12_46 dX12_rule_267 (by first | with_reducible assumption | exact zU_o | exact zU_F) rfl ?_
    refine gJ_if_neB (tgt := 284) dX12_rule_270 (by decide) (fun _ => ?_) (fun c_ => by exfalso; cases c_)
    refine gJ_aload_n dX12_rule_284 rfl rfl ?_
    refine gJ_get fX12_46 dX12_rule_285 (by first | with_reducible assumption | exact zU_o | exact zU_F) rfl ?_
    refine gJ_if_neB (tgt := 297) dX12_rule_288 (by decide) (fun _ => ?_) (fun c_ => by exfalso; cases c_)
    refine gJ_aload_n dX12_rule_297 rfl rfl ?_
    refine gJ_get fX12_46 dX12_rule_298 (by first | with_reducible assumption | exact zU_o | exact zU_F) rfl ?_
    refine gJ_if_neB (tgt := 310) dX12_rule_301 (by decide) (fun _ => ?_) (fun c_ => by exfalso; cases c_)
    refine gJ_aload_n dX12_rule_310 rfl rfl ?_
    refine gJ_get fX12_46 dX12_rule_311 (by first | with_reducible assumption | exact zU_o | exact zU_F) rfl ?_
    refine gJ_if_neB (tgt := 323) dX12_rule_314 (by decide) (fun _ => ?_) (fun c_ => by exfalso; cases c_)
    refine gJ_aload_n dX12_rule_323 rfl rfl ?_
    refine gJ_get fX12_46 dX12_rule_324 (by first | with_reducible assumption | exact zU_o | exact zU_F) rfl ?_
    refine gJ_if_neB (tgt := 342) dX12_rule_327 (by decide) (fun _ => ?_) (fun c_ => by exfalso; cases c_)
    refine gJ_vret dX12_rule_342 rfl ?_
    exact zQ_w (by rw [zEx_w (by decide), zEx_w (by decide), zEx_w (by decide), zR8_w])
  | false =>
    refine gJ_aload_n dX12_rule_227 rfl rfl ?_
    refine gJ_get fX12_46 dX12_rule_228 (by first | with_reducible assumption | exact zU_o | exact zU_F) rfl ?_
    refine gJ_if_neB (tgt := 240) dX12_rule_231 (by decide) (fun c_ => by exfalso; cases c_) (fun _ => ?_)
    refine gJ_aload_n dX12_rule_234 rfl rfl ?_
    refine gJ_bipush (v := 102) dX12_rule_235 (by decide) ?_
    refine gJ_callV (As := [_]) b_X12_sign lX12_66 i_X12_sign s_X12_sign dX12_rule_237 (c12_sign ht (zU_n hT (by omega) (by omega)) a (by omega) zU_o 102) zU_o rfl rfl (Nat.le_of_ble_eq_true rfl) rfl (by decide) (fun M237 v_ h237 => ?_)
    obtain ⟨e_, rfl⟩ := h237
    replace e_ := e_.symm
    rw [zU_o2 (s2 := zEx T t 102 (a, false))] at e_
    subst e_
    exact gJ_ls (z12_240 ht hB hT F _ (zEx_le (by decide) hs)) ⟨rfl, trivial⟩
set_option maxRecDepth 20000 in
theorem z12_180 (ht : t ≤ 60) (hB : zB T) (hT : M.1 (m + 7) = some (gI 60 T)) (neg : Bool) (F : Nat → Int32) (s : zP) (hs : s.1 ≤ t) : gJ G kX12_rule 4 0 0 (zU m M hi t s F) 180 [(2, .int (gb neg)), (0, .ref m)] [] (gQ kX12_rule (zQ m M hi t (zR7 T t neg F s))) := by
  obtain ⟨a, w⟩ := s
  have ha : a ≤ t := hs
  cases w with
  | true =>
    refine gJ_aload_n dX12_rule_180 rfl rfl ?_
    refine gJ_get fX12_46 dX12_rule_181 (by first | with_reducible assumption | exact zU_o | exact zU_F) rfl ?_
    refine gJ_if_neB (tgt := 198) dX12_rule_184 (by decide) (fun _ => ?_) (fun c_ => by exfalso; cases c_)
    refine gJ_aload_n dX12_rule_198 rfl rfl ?_
    refine gJ_get fX12_32 dX12_rule_199 (by first | with_reducible assumption | exact zU_o | exact zU_F) rfl ?_
    refine gJ_bipush (v := 7) dX12_rule_202 (by decide) ?_
    refine gJ_iload_n dX12_rule_204 rfl rfl ?_
    refine gJ_if_eqB (tgt := 219) dX12_rule_205 (by decide) (fun c205 => ?_) (fun c205 => ?_)
    · refine gJ_aload_n dX12_rule_219 rfl rfl ?_
      refine gJ_get fX12_32 dX12_rule_220 (by first | with_reducible assumption | exact zU_o | exact zU_F) rfl ?_
      refine gJ_bipush (v := 7) dX12_rule_223 (by decide) ?_
      refine gJ_ialdN (j := 7) dX12_rule_225 (by first | with_reducible assumption | exact zU_o | exact zU_F) (by first | with_reducible rfl | rfl) (by omega) (by decide) ?_
      refine gJ_iastN (j := 7) dX12_rule_226 (by first | with_reducible assumption | exact zU_o | exact zU_F) (by first | with_reducible rfl | rfl) (by omega) (by decide) ?_
      try rw [gUp_up]
      rw [zU_F2]
      refine gJ_aload_n dX12_rule_227 rfl rfl ?_
      refine gJ_get fX12_46 dX12_rule_228 (by first | with_reducible assumption | exact zU_o | exact zU_F) rfl ?_
      refine gJ_if_neB (tgt := 240) dX12_rule_231 (by decide) (fun _ => ?_) (fun c_ => by exfalso; cases c_)
      refine gJ_aload_n dX12_rule_240 rfl rfl ?_
      refine gJ_get fX12_46 dX12_rule_241 (by first | with_reducible assumption | exact zU_o | exact zU_F) rfl ?_
      refine gJ_if_neB (tgt := 253) dX12_rule_244 (by decide) (fun _ => ?_) (fun c_ => by exfalso; cases c_)
      refine gJ_aload_n dX12_rule_253 rfl rfl ?_
      refine gJ_get fX12_46 dX12_rule_254 (by first | with_reducible assumption | exact zU_o | exact zU_F) rfl ?_
      refine gJ_if_neB (tgt := 266) dX12_rule_257 (by decide) (fun _ => ?_) (fun c_ => by exfalso; cases c_)
      refine gJ_aload_n dX12_rule_266 rfl rfl ?_
      refine gJ_get fX12_46 dX12_rule_267 (by first | with_reducible assumption | exact zU_o | exact zU_F) rfl ?_
      refine gJ_if_neB (tgt := 284) dX12_rule_270 (by decide) (fun _ => ?_) (fun c_ => by exfalso; cases c_)
      refine gJ_aload_n dX12_rule_284 rfl rfl ?_
      refine gJ_get fX12_46 dX12_rule_285 (by first | with_reducible assumption | exact zU_o | exact zU_F) rfl ?_
      refine gJ_if_neB (tgt := 297) dX12_rule_288 (by decide) (fun _ => ?_) (fun c_ => by exfalso; cases c_)
      refine gJ_aload_n dX12_rule_297 rfl rfl ?_
      refine gJ_get fX12_46 dX12_rule_298 (by first | with_reducible assumption | exact zU_o | exact zU_F) rfl ?_
      refine gJ_if_neB (tgt := 310) dX12_rule_301 (by decide) (fun _ => ?_) (fun c_ => by exfalso; cases c_)
      refine gJ_aload_n dX12_rule_310 rfl rfl ?_
      refine gJ_get fX12_46 dX12_rule_311 (by first | with_reducible assumption | exact zU_o | exact zU_F) rfl ?_
      refine gJ_if_neB (tgt := 323) dX12_rule_314 (by decide) (fun _ => ?_) (fun c_ => by exfalso; cases c_)
      refine gJ_aload_n dX12_rule_323 rfl rfl ?_
      refine gJ_get fX12_46 dX12_rule_324 (by first | with_reducible assumption | exact zU_o | exact zU_F) rfl ?_
      refine gJ_if_neB (tgt := 342) dX12_rule_327 (by decide) (fun _ => ?_) (fun c_ => by exfalso; cases c_)
      refine gJ_vret dX12_rule_342 rfl ?_
      exact zQ_w zR7_w
    · refine gJ_aload_n dX12_rule_208 rfl rfl ?_
      refine gJ_get fX12_32 dX12_rule_209 (by first | with_reducible assumption | exact zU_o | exact zU_F) rfl ?_
      refine gJ_bipush (v := 7) dX12_rule_212 (by decide) ?_
      refine gJ_ialdN (j := 7) dX12_rule_214 (by first | with_reducible assumption | exact zU_o | exact zU_F) (by first | with_reducible rfl | rfl) (by omega) (by decide) ?_
      refine gJ_ineg dX12_rule_215 ?_
      refine gJ_goto (tgt := 226) dX12_rule_216 (by decide) ?_
      refine gJ_iastN (j := 7) dX12_rule_226 (by first | with_reducible assumption | exact zU_o | exact zU_F) (by first | with_reducible rfl | rfl) (by omega) (by decide) ?_
      try rw [gUp_up]
      rw [zU_F2]
      refine gJ_aload_n dX12_rule_227 rfl rfl ?_
      refine gJ_get fX12_46 dX12_rule_228 (by first | with_reducible assumption | exact zU_o | exact zU_F) rfl ?_
      refine gJ_if_neB (tgt := 240) dX12_rule_231 (by decide) (fun _ => ?_) (fun c_ => by exfalso; cases c_)
      refine gJ_aload_n dX12_rule_240 rfl rfl ?_
      refine gJ_get fX12_46 dX12_rule_241 (by first | with_reducible assumption | exact zU_o | exact zU_F) rfl ?_
      refine gJ_if_neB (tgt := 253) dX12_rule_244 (by decide) (fun _ => ?_) (fun c_ => by exfalso; cases c_)
      refine gJ_aload_n dX12_rule_253 rfl rfl ?_
      refine gJ_get fX12_46 dX12_rule_254 (by first | with_reducible assumption | exact zU_o | exact zU_F) rfl ?_
      refine gJ_if_neB (tgt := 266) dX12_rule_257 (by decide) (fun _ => ?_) (fun c_ => by exfalso; cases c_)
      refine gJ_aload_n dX12_rule_266 rfl rfl ?_
      refine gJ_get fX12_46 dX12_rule_267 (by first | with_reducible assumption | exact zU_o | exact zU_F) rfl ?_
      refine gJ_if_neB (tgt := 284) dX12_rule_270 (by decide) (fun _ => ?_) (fun c_ => by exfalso; cases c_)
      refine gJ_aload_n dX12_rule_284 rfl rfl ?_
      refine gJ_get fX12_46 dX12_rule_285 (by first | with_reducible assumption | exact zU_o | exact zU_F) rfl ?_
      refine gJ_if_neB (tgt := 297) dX12_rule_288 (by decide) (fun _ => ?_) (fun c_ => by exfalso; cases c_)
      refine gJ_aload_n dX12_rule_297 rfl rfl ?_
      refine gJ_get fX12_46 dX12_rule_298 (by first | with_reducible assumption | exact zU_o | exact zU_F) rfl ?_
      refine gJ_if_neB (tgt := 310) dX12_rule_301 (by decide) (fun _ => ?_) (fun c_ => by exfalso; cases c_)
      refine gJ_aload_n dX12_rule_310 rfl rfl ?_
      refine gJ_get fX12_46 dX12_rule_311 (by first | with_reducible assumption | exact zU_o | exact zU_F) rfl ?_
      refine gJ_if_neB (tgt := 323) dX12_rule_314 (by decide) (fun _ => ?_) (fun c_ => by exfalso; cases c_)
      refine gJ_aload_n dX12_rule_323 rfl rfl ?_
      refine gJ_get fX12_46 dX12_rule_324 (by first | with_reducible assumption | exact zU_o | exact zU_F) rfl ?_
      refine gJ_if_neB (tgt := 342) dX12_rule_327 (by decide) (fun _ => ?_) (fun c_ => by exfalso; cases c_)
      refine gJ_vret dX12_rule_342 rfl ?_
      exact zQ_w zR7_w
  | false =>
    refine gJ_aload_n dX12_rule_180 rfl rfl ?_
    refine gJ_get fX12_46 dX12_rule_181 (by first | with_reducible assumption | exact zU_o | exact zU_F) rfl ?_
    refine gJ_if_neB (tgt := 198) dX12_rule_184 (by decide) (fun c_ => by exfalso; cases c_) (fun _ => ?_)
    refine gJ_aload_n dX12_rule_187 rfl rfl ?_
    refine gJ_get fX12_32 dX12_rule_188 (by first | with_reducible assumption | exact zU_o | exact zU_F) rfl ?_
    refine gJ_bipush (v := 7) dX12_rule_191 (by decide) ?_
    refine gJ_aload_n dX12_rule_193 rfl rfl ?_
    refine gJ_callV (As := []) b_X12_number lX12_70 i_X12_number s_X12_number dX12_rule_194 (c12_number ht hB (zU_n hT (by omega) (by omega)) a ha zU_o) zU_o rfl rfl (Nat.le_of_ble_eq_true rfl) rfl (by decide) (fun M194 v_ h194 => ?_)
    obtain ⟨e_, rfl⟩ := h194
    replace e_ := e_.symm
    rw [zU_o2 (s2 := (zNm T t (a, false)).2)] at e_
    subst e_
    refine gJ_iastN (j := 7) dX12_rule_197 (by first | with_reducible assumption | exact zU_o | exact zU_F) (by first | with_reducible rfl | rfl) (by omega) (by decide) ?_
    try rw [gUp_up]
    rw [zU_F2]
    refine gJ_aload_n dX12_rule_198 rfl rfl ?_
    refine gJ_get fX12_32 dX12_rule_199 (by first | with_reducible assumption | exact zU_o | exact zU_F) rfl ?_
    refine gJ_bipush (v := 7) dX12_rule_202 (by decide) ?_
    refine gJ_iload_n dX12_rule_204 rfl rfl ?_
    refine gJ_if_eqB (tgt := 219) dX12_rule_205 (by decide) (fun c205 => ?_) (fun c205 => ?_)
    · refine gJ_aload_n dX12_rule_219 rfl rfl ?_
      refine gJ_get fX12_32 dX12_rule_220 (by first | with_reducible assumption | exact zU_o | exact zU_F) rfl ?_
      refine gJ_bipush (v := 7) dX12_rule_223 (by decide) ?_
      refine gJ_ialdN (j := 7) dX12_rule_225 (by first | with_reducible assumption | exact zU_o | exact zU_F) (by first | with_reducible rfl | rfl) (by omega) (by decide) ?_
      rw [pk_us]
      refine gJ_iastN (j := 7) dX12_rule_226 (by first | with_reducible assumption | exact zU_o | exact zU_F) (by first | with_reducible rfl | rfl) (by omega) (by decide) ?_
      try rw [gUp_up]
      rw [zU_F2]
      rw [upd_upd]
      subst c205
      exact gJ_ls (z12_227 ht hB hT _ _ (zNm_le hs)) ⟨rfl, trivial⟩
    · refine gJ_aload_n dX12_rule_208 rfl rfl ?_
      refine gJ_get fX12_32 dX12_rule_209 (by first | with_reducible assumption | exact zU_o | exact zU_F) rfl ?_
      refine gJ_bipush (v := 7) dX12_rule_212 (by decide) ?_
      refine gJ_ialdN (j := 7) dX12_rule_214 (by first | with_reducible assumption | exact zU_o | exact zU_F) (by first | with_reducible rfl | rfl) (by omega) (by decide) ?_
      rw [pk_us]
      refine gJ_ineg dX12_rule_215 ?_
      refine gJ_goto (tgt := 226) dX12_rule_216 (by decide) ?_
      refine gJ_iastN (j := 7) dX12_rule_226 (by first | with_reducible assumption | exact zU_o | exact zU_F) (by first | with_reducible rfl | rfl) (by omega) (by decide) ?_
      try rw [gUp_up]
      rw [zU_F2]
      rw [upd_upd]
      subst c205
      exact gJ_ls (z12_227 ht hB hT _ _ (zNm_le hs)) ⟨rfl, trivial⟩
set_option maxRecDepth 20000 in
theorem z12_140 (ht : t ≤ 60) (hB : zB T) (hT : M.1 (m + 7) = some (gI 60 T)) (F : Nat → Int32) (s : zP) (hs : s.1 ≤ t) : gJ G kX12_rule 4 0 0 (zU m M hi t s F) 140 [(0, .ref m)] [] (gQ kX12_rule (zQ m M hi t (zR6b T t F s))) := by
  obtain ⟨a, w⟩ := s
  have ha : a ≤ t := hs
  cases w with
  | true =>
    rw [zR6b, if_neg (by rw [zH_w]; decide)]
    refine gJ_aload_n dX12_rule_140 rfl rfl ?_
    refine gJ_get fX12_46 dX12_rule_141 (by first | with_reducible assumption | exact zU_o | exact zU_F) rfl ?_
    refine gJ_if_neB (tgt := 160) dX12_rule_144 (by decide) (fun _ => ?_) (fun c_ => by exfalso; cases c_)
    refine gJ_iconst (v := 0) dX12_rule_160 (by decide) ?_
    refine gJ_istore_n (lv2 := [(2, _), (0, _)]) dX12_rule_161 rfl rfl rfl ?_
    refine gJ_aload_n dX12_rule_162 rfl rfl ?_
    refine gJ_dup dX12_rule_163 rfl ?_
    refine gJ_get fX12_43 dX12_rule_164 (by first | with_reducible assumption | exact zU_o | exact zU_F) rfl ?_
    refine gJ_iload_n dX12_rule_167 rfl rfl ?_
    refine gJ_if_eqN (tgt := 175) (a := 0) (by first | with_reducible rfl | rfl) (by omega) dX12_rule_168 (by decide) (fun _ => ?_) (fun c_ => by exfalso; omega)
    refine gJ_iconst (v := 0) dX12_rule_175 (by decide) ?_
    refine gJ_iaddN (a := a) (b := 0) dX12_rule_176 (by first | with_reducible rfl | rfl) (by first | with_reducible rfl | rfl) ?_
    refine gJ_put fX12_43 dX12_rule_177 (by first | with_reducible assumption | exact zU_o | exact zU_F) rfl rfl (Nat.le_of_ble_eq_true rfl) ?_
    refine zU_go (s2 := (a + 0, true)) ?_
    exact gJ_ls (z12_180 ht hB hT false F (a, true) hs) ⟨rfl, rfl, trivial⟩
  | false =>
    refine gJ_aload_n dX12_rule_140 rfl rfl ?_
    refine gJ_get fX12_46 dX12_rule_141 (by first | with_reducible assumption | exact zU_o | exact zU_F) rfl ?_
    refine gJ_if_neB (tgt := 160) dX12_rule_144 (by decide) (fun c_ => by exfalso; cases c_) (fun _ => ?_)
    refine gJ_aload_n dX12_rule_147 rfl rfl ?_
    refine gJ_callV (As := []) b_X12_here lX12_50 i_X12_here s_X12_here dX12_rule_148 (c12_here ht (zU_n hT (by omega) (by omega)) a (by omega) _ zU_o) zU_o rfl rfl (Nat.le_of_ble_eq_true rfl) rfl (by decide) (fun M148 v_ h148 => ?_)
    obtain ⟨e_, rfl⟩ := h148
    replace e_ := e_.symm
    subst e_
    refine gJ_bipush (v := 45) dX12_rule_151 (by decide) ?_
    refine gJ_icmp_ne (tgt := 160) dX12_rule_153 (by decide) (fun c153 => ?_) (fun c153 => ?_)
    · refine gJ_iconst (v := 0) dX12_rule_160 (by decide) ?_
      refine gJ_istore_n (lv2 := [(2, _), (0, _)]) dX12_rule_161 rfl rfl rfl ?_
      refine gJ_aload_n dX12_rule_162 rfl rfl ?_
      refine gJ_dup dX12_rule_163 rfl ?_
      refine gJ_get fX12_43 dX12_rule_164 (by first | with_reducible assumption | exact zU_o | exact zU_F) rfl ?_
      refine gJ_iload_n dX12_rule_167 rfl rfl ?_
      refine gJ_if_eqN (tgt := 175) (a := 0) (by first | with_reducible rfl | rfl) (by omega) dX12_rule_168 (by decide) (fun _ => ?_) (fun c_ => by exfalso; omega)
      refine gJ_iconst (v := 0) dX12_rule_175 (by decide) ?_
      refine gJ_iaddN (a := a) (b := 0) dX12_rule_176 (by first | with_reducible rfl | rfl) (by first | with_reducible rfl | rfl) ?_
      refine gJ_put fX12_43 dX12_rule_177 (by first | with_reducible assumption | exact zU_o | exact zU_F) rfl rfl (Nat.le_of_ble_eq_true rfl) ?_
      refine zU_go (s2 := (a + 0, false)) ?_
      rw [zR6b, if_neg c153]
      exact gJ_ls (z12_180 ht hB hT false F (a, false) hs) ⟨rfl, rfl, trivial⟩
    · refine gJ_iconst (v := 1) dX12_rule_156 (by decide) ?_
      refine gJ_goto (tgt := 161) dX12_rule_157 (by decide) ?_
      refine gJ_istore_n (lv2 := [(2, _), (0, _)]) dX12_rule_161 rfl rfl rfl ?_
      refine gJ_aload_n dX12_rule_162 rfl rfl ?_
      refine gJ_dup dX12_rule_163 rfl ?_
      refine gJ_get fX12_43 dX12_rule_164 (by first | with_reducible assumption | exact zU_o | exact zU_F) rfl ?_
      refine gJ_iload_n dX12_rule_167 rfl rfl ?_
      refine gJ_if_eqN (tgt := 175) (a := 1) (by first | with_reducible rfl | rfl) (by omega) dX12_rule_168 (by decide) (fun c_ => by exfalso; omega) (fun _ => ?_)
      refine gJ_iconst (v := 1) dX12_rule_171 (by decide) ?_
      refine gJ_goto (tgt := 176) dX12_rule_172 (by decide) ?_
      refine gJ_iaddN (a := a) (b := 1) dX12_rule_176 (by first | with_reducible rfl | rfl) (by first | with_reducible rfl | rfl) ?_
      refine gJ_put fX12_43 dX12_rule_177 (by first | with_reducible assumption | exact zU_o | exact zU_F) rfl rfl (Nat.le_of_ble_eq_true rfl) ?_
      refine zU_go (s2 := (a + 1, false)) ?_
      rw [zR6b, if_pos c153]
      exact gJ_ls (z12_180 ht hB hT true F (a + 1, false) (zH_lt (s := (a, false)) (by rw [c153]; decide)).1) ⟨rfl, rfl, trivial⟩
set_option maxRecDepth 20000 in
theorem z12_46 (ht : t ≤ 60) (hB : zB T) (hT : M.1 (m + 7) = some (gI 60 T)) (F : Nat → Int32) (s : zP) (hs : s.1 ≤ t) : gJ G kX12_rule 4 0 0 (zU m M hi t s F) 46 [(0, .ref m)] [] (gQ kX12_rule (zQ m M hi t (zR6 T t F s))) := by
  obtain ⟨a, w⟩ := s
  have ha : a ≤ t := hs
  cases w with
  | true =>
    refine gJ_aload_n dX12_rule_46 rfl rfl ?_
    refine gJ_get fX12_46 dX12_rule_47 (by first | with_reducible assumption | exact zU_o | exact zU_F) rfl ?_
    refine gJ_if_eqB (tgt := 54) dX12_rule_50 (by decide) (fun c_ => by exfalso; cases c_) (fun _ => ?_)
    refine gJ_vret dX12_rule_53 rfl ?_
    exact zQ_w zR6_w
  | false =>
    refine gJ_aload_n dX12_rule_46 rfl rfl ?_
    refine gJ_get fX12_46 dX12_rule_47 (by first | with_reducible assumption | exact zU_o | exact zU_F) rfl ?_
    refine gJ_if_eqB (tgt := 54) dX12_rule_50 (by decide) (fun _ => ?_) (fun c_ => by exfalso; cases c_)
    refine gJ_aload_n dX12_rule_54 rfl rfl ?_
    refine gJ_callV (As := []) b_X12_here lX12_50 i_X12_here s_X12_here dX12_rule_55 (c12_here ht (zU_n hT (by omega) (by omega)) a (by omega) _ zU_o) zU_o rfl rfl (Nat.le_of_ble_eq_true rfl) rfl (by decide) (fun M55 v_ h55 => ?_)
    obtain ⟨e_, rfl⟩ := h55
    replace e_ := e_.symm
    subst e_
    refine gJ_istore_n (lv2 := [(1, _), (0, _)]) dX12_rule_58 rfl rfl rfl ?_
    refine gJ_aload_n dX12_rule_59 rfl rfl ?_
    refine gJ_get fX12_32 dX12_rule_60 (by first | with_reducible assumption | exact zU_o | exact zU_F) rfl ?_
    refine gJ_bipush (v := 6) dX12_rule_63 (by decide) ?_
    refine gJ_iload_n dX12_rule_65 rfl rfl ?_
    refine gJ_bipush (v := 60) dX12_rule_66 (by decide) ?_
    refine gJ_icmp_ne (tgt := 75) dX12_rule_68 (by decide) (fun c68 => ?_) (fun c68 => ?_)
    · refine gJ_iload_n dX12_rule_75 rfl rfl ?_
      refine gJ_bipush (v := 62) dX12_rule_76 (by decide) ?_
      refine gJ_icmp_ne (tgt := 85) dX12_rule_78 (by decide) (fun c78 => ?_) (fun c78 => ?_)
      · refine gJ_iconst (v := 2) dX12_rule_85 (by decide) ?_
        refine gJ_iastN (j := 6) dX12_rule_86 (by first | with_reducible assumption | exact zU_o | exact zU_F) (by first | with_reducible rfl | rfl) (by omega) (by decide) ?_
        try rw [gUp_up]
        rw [zU_F2]
        refine gJ_aload_n dX12_rule_87 rfl rfl ?_
        refine gJ_dup dX12_rule_88 rfl ?_
        refine gJ_get fX12_46 dX12_rule_89 (by first | with_reducible assumption | exact zU_o | exact zU_F) rfl ?_
        refine gJ_iload_n dX12_rule_92 rfl rfl ?_
        refine gJ_bipush (v := 60) dX12_rule_93 (by decide) ?_
        refine gJ_icmp_eq (tgt := 114) dX12_rule_95 (by decide) (fun c_ => by exfalso; exact c68 c_) (fun _ => ?_)
        refine gJ_iload_n dX12_rule_98 rfl rfl ?_
        refine gJ_bipush (v := 62) dX12_rule_99 (by decide) ?_
        refine gJ_icmp_eq (tgt := 114) dX12_rule_101 (by decide) (fun c_ => by exfalso; exact c78 c_) (fun _ => ?_)
        refine gJ_iload_n dX12_rule_104 rfl rfl ?_
        refine gJ_bipush (v := 61) dX12_rule_105 (by decide) ?_
        refine gJ_icmp_eq (tgt := 114) dX12_rule_107 (by decide) (fun c107 => ?_) (fun c107 => ?_)
        · refine gJ_iconst (v := 0) dX12_rule_114 (by decide) ?_
          refine gJ_ior dX12_rule_115 ?_
          rw [show gb false ||| 0 = gb false from by decide]
          refine gJ_put fX12_46 dX12_rule_116 (by first | with_reducible assumption | exact zU_o | exact zU_F) (by rcases (gb01 _) with h_ | h_ <;> rw [h_] <;> rfl) rfl (Nat.le_of_ble_eq_true rfl) ?_
          refine zU_go (s2 := (a, false)) ?_
          refine gJ_aload_n dX12_rule_119 rfl rfl ?_
          refine gJ_dup dX12_rule_120 rfl ?_
          refine gJ_get fX12_43 dX12_rule_121 (by first | with_reducible assumption | exact zU_o | exact zU_F) rfl ?_
          refine gJ_aload_n dX12_rule_124 rfl rfl ?_
          refine gJ_get fX12_46 dX12_rule_125 (by first | with_reducible assumption | exact zU_o | exact zU_F) rfl ?_
          refine gJ_if_eqB (tgt := 135) dX12_rule_128 (by decide) (fun _ => ?_) (fun c_ => by exfalso; cases c_)
          refine gJ_iconst (v := 1) dX12_rule_135 (by decide) ?_
          refine gJ_iaddN (a := a) (b := 1) dX12_rule_136 (by first | with_reducible rfl | rfl) (by first | with_reducible rfl | rfl) ?_
          refine gJ_put fX12_43 dX12_rule_137 (by first | with_reducible assumption | exact zU_o | exact zU_F) rfl rfl (Nat.le_of_ble_eq_true rfl) ?_
          refine zU_go (s2 := (a + 1, false)) ?_
          rw [zR6, if_pos (Or.inr (Or.inr c107)), if_neg c68, if_neg c78]
          exact gJ_ls (z12_140 ht hB hT _ (a + 1, false) (zH_lt (s := (a, false)) (by rw [c107]; decide)).1) ⟨rfl, trivial⟩
        · refine gJ_iconst (v := 1) dX12_rule_110 (by decide) ?_
          refine gJ_goto (tgt := 115) dX12_rule_111 (by decide) ?_
          refine gJ_ior dX12_rule_115 ?_
          rw [show gb false ||| 1 = gb true from by decide]
          refine gJ_put fX12_46 dX12_rule_116 (by first | with_reducible assumption | exact zU_o | exact zU_F) (by rcases (gb01 _) with h_ | h_ <;> rw [h_] <;> rfl) rfl (Nat.le_of_ble_eq_true rfl) ?_
          refine zU_go (s2 := (a, true)) ?_
          refine gJ_aload_n dX12_rule_119 rfl rfl ?_
          refine gJ_dup dX12_rule_120 rfl ?_
          refine gJ_get fX12_43 dX12_rule_121 (by first | with_reducible assumption | exact zU_o | exact zU_F) rfl ?_
          refine gJ_aload_n dX12_rule_124 rfl rfl ?_
          refine gJ_get fX12_46 dX12_rule_125 (by first | with_reducible assumption | exact zU_o | exact zU_F) rfl ?_
          refine gJ_if_eqB (tgt := 135) dX12_rule_128 (by decide) (fun c_ => by exfalso; cases c_) (fun _ => ?_)
          refine gJ_iconst (v := 0) dX12_rule_131 (by decide) ?_
          refine gJ_goto (tgt := 136) dX12_rule_132 (by decide) ?_
          refine gJ_iaddN (a := a) (b := 0) dX12_rule_136 (by first | with_reducible rfl | rfl) (by first | with_reducible rfl | rfl) ?_
          refine gJ_put fX12_43 dX12_rule_137 (by first | with_reducible assumption | exact zU_o | exact zU_F) rfl rfl (Nat.le_of_ble_eq_true rfl) ?_
          refine zU_go (s2 := (a + 0, true)) ?_
          rw [zR6, if_neg (show ¬ (zH T t (a, false) = 60 ∨ zH T t (a, false) = 62 ∨ zH T t (a, false) = 61) from fun h => h.elim c68 (fun h => h.elim c78 c107)), if_neg c68, if_neg c78]
          exact gJ_ls (z12_140 ht hB hT _ (a, true) hs) ⟨rfl, trivial⟩
      · refine gJ_iconst (v := 1) dX12_rule_81 (by decide) ?_
        refine gJ_goto (tgt := 86) dX12_rule_82 (by decide) ?_
        refine gJ_iastN (j := 6) dX12_rule_86 (by first | with_reducible assumption | exact zU_o | exact zU_F) (by first | with_reducible rfl | rfl) (by omega) (by decide) ?_
        try rw [gUp_up]
        rw [zU_F2]
        refine gJ_aload_n dX12_rule_87 rfl rfl ?_
        refine gJ_dup dX12_rule_88 rfl ?_
        refine gJ_get fX12_46 dX12_rule_89 (by first | with_reducible assumption | exact zU_o | exact zU_F) rfl ?_
        refine gJ_iload_n dX12_rule_92 rfl rfl ?_
        refine gJ_bipush (v := 60) dX12_rule_93 (by decide) ?_
        refine gJ_icmp_eq (tgt := 114) dX12_rule_95 (by decide) (fun c_ => by exfalso; exact c68 c_) (fun _ => ?_)
        refine gJ_iload_n dX12_rule_98 rfl rfl ?_
        refine gJ_bipush (v := 62) dX12_rule_99 (by decide) ?_
        refine gJ_icmp_eq (tgt := 114) dX12_rule_101 (by decide) (fun _ => ?_) (fun c_ => by exfalso; exact c_ c78)
        refine gJ_iconst (v := 0) dX12_rule_114 (by decide) ?_
        refine gJ_ior dX12_rule_115 ?_
        rw [show gb false ||| 0 = gb false from by decide]
        refine gJ_put fX12_46 dX12_rule_116 (by first | with_reducible assumption | exact zU_o | exact zU_F) (by rcases (gb01 _) with h_ | h_ <;> rw [h_] <;> rfl) rfl (Nat.le_of_ble_eq_true rfl) ?_
        refine zU_go (s2 := (a, false)) ?_
        refine gJ_aload_n dX12_rule_119 rfl rfl ?_
        refine gJ_dup dX12_rule_120 rfl ?_
        refine gJ_get fX12_43 dX12_rule_121 (by first | with_reducible assumption | exact zU_o | exact zU_F) rfl ?_
        refine gJ_aload_n dX12_rule_124 rfl rfl ?_
        refine gJ_get fX12_46 dX12_rule_125 (by first | with_reducible assumption | exact zU_o | exact zU_F) rfl ?_
        refine gJ_if_eqB (tgt := 135) dX12_rule_128 (by decide) (fun _ => ?_) (fun c_ => by exfalso; cases c_)
        refine gJ_iconst (v := 1) dX12_rule_135 (by decide) ?_
        refine gJ_iaddN (a := a) (b := 1) dX12_rule_136 (by first | with_reducible rfl | rfl) (by first | with_reducible rfl | rfl) ?_
        refine gJ_put fX12_43 dX12_rule_137 (by first | with_reducible assumption | exact zU_o | exact zU_F) rfl rfl (Nat.le_of_ble_eq_true rfl) ?_
        refine zU_go (s2 := (a + 1, false)) ?_
        rw [zR6, if_pos (Or.inr (Or.inl c78)), if_neg c68, if_pos c78]
        exact gJ_ls (z12_140 ht hB hT _ (a + 1, false) (zH_lt (s := (a, false)) (by rw [c78]; decide)).1) ⟨rfl, trivial⟩
    · refine gJ_iconst (v := 0) dX12_rule_71 (by decide) ?_
      refine gJ_goto (tgt := 86) dX12_rule_72 (by decide) ?_
      refine gJ_iastN (j := 6) dX12_rule_86 (by first | with_reducible assumption | exact zU_o | exact zU_F) (by first | with_reducible rfl | rfl) (by omega) (by decide) ?_
      try rw [gUp_up]
      rw [zU_F2]
      refine gJ_aload_n dX12_rule_87 rfl rfl ?_
      refine gJ_dup dX12_rule_88 rfl ?_
      refine gJ_get fX12_46 dX12_rule_89 (by first | with_reducible assumption | exact zU_o | exact zU_F) rfl ?_
      refine gJ_iload_n dX12_rule_92 rfl rfl ?_
      refine gJ_bipush (v := 60) dX12_rule_93 (by decide) ?_
      refine gJ_icmp_eq (tgt := 114) dX12_rule_95 (by decide) (fun _ => ?_) (fun c_ => by exfalso; exact c_ c68)
      refine gJ_iconst (v := 0) dX12_rule_114 (by decide) ?_
      refine gJ_ior dX12_rule_115 ?_
      rw [show gb false ||| 0 = gb false from by decide]
      refine gJ_put fX12_46 dX12_rule_116 (by first | with_reducible assumption | exact zU_o | exact zU_F) (by rcases (gb01 _) with h_ | h_ <;> rw [h_] <;> rfl) rfl (Nat.le_of_ble_eq_true rfl) ?_
      refine zU_go (s2 := (a, false)) ?_
      refine gJ_aload_n dX12_rule_119 rfl rfl ?_
      refine gJ_dup dX12_rule_120 rfl ?_
      refine gJ_get fX12_43 dX12_rule_121 (by first | with_reducible assumption | exact zU_o | exact zU_F) rfl ?_
      refine gJ_aload_n dX12_rule_124 rfl rfl ?_
      refine gJ_get fX12_46 dX12_rule_125 (by first | with_reducible assumption | exact zU_o | exact zU_F) rfl ?_
      refine gJ_if_eqB (tgt := 135) dX12_rule_128 (by decide) (fun _ => ?_) (fun c_ => by exfalso; cases c_)
      refine gJ_iconst (v := 1) dX12_rule_135 (by decide) ?_
      refine gJ_iaddN (a := a) (b := 1) dX12_rule_136 (by first | with_reducible rfl | rfl) (by first | with_reducible rfl | rfl) ?_
      refine gJ_put fX12_43 dX12_rule_137 (by first | with_reducible assumption | exact zU_o | exact zU_F) rfl rfl (Nat.le_of_ble_eq_true rfl) ?_
      refine zU_go (s2 := (a + 1, false)) ?_
      rw [zR6, if_pos (Or.inl c68), if_pos c68]
      exact gJ_ls (z12_140 ht hB hT _ (a + 1, false) (zH_lt (s := (a, false)) (by rw [c68]; decide)).1) ⟨rfl, trivial⟩
set_option maxRecDepth 20000 in
theorem c12_rule (ht : t ≤ 60) (hB : zB T) (hT : M.1 (m + 7) = some (gI 60 T)) (F : Nat → Int32) (a : Nat) (ha : a ≤ t) : gCon G kX12_rule 4 0 0 (zU m M hi t (a, false) F) [.ref m] (zQ m M hi t (zRu T t F (a, false))) := by
  refine gCon_of (by decide) (Nat.le_of_ble_eq_true rfl) ?_
  have hC := c12_matchers (G := G) (M := M) (m := m) (hi := hi) (F := F) ht hB hT a ha false 1 (by decide)
  have hle := (zMs_ok (T := T) (t := t) (sev := false) (s := (a, false)) ha).1.1
  have hz : ¬ (zH T t (a, false) = 60 ∨ zH T t (a, false) = 62 ∨ zH T t (a, false) = 61) → zRu T t F (a, false) = zR6 T t (upd (zLay 1 (zMs T t false (a, false)).1 (zMs T t false (a, false)).2.1 F) 1 (nI (zMs T t false (a, false)).1)) (zEx T t 58 (zMs T t false (a, false)).2.2) := fun h => if_neg h
  generalize zMs T t false (a, false) = r at hC hle hz
  obtain ⟨n, f, b, w⟩ := r
  have hb : b ≤ t := hle
  have hH := c12_here (G := G) (hi := hi) (M := zU m M hi t (a, false) F) ht (zU_n hT (by omega) (by omega)) a (by omega) _ zU_o
  cases w with
  | true =>
    show gJ _ _ _ _ _ _ 0 [(0, _)] [] _
    refine gJ_aload_n dX12_rule_0 rfl rfl ?_
    refine gJ_callV (As := []) b_X12_here lX12_50 i_X12_here s_X12_here dX12_rule_1 (hH) zU_o rfl rfl (Nat.le_of_ble_eq_true rfl) rfl (by decide) (fun M1 v_ h1 => ?_)
    obtain ⟨e_, rfl⟩ := h1
    replace e_ := e_.symm
    subst e_
    refine gJ_bipush (v := 60) dX12_rule_4 (by decide) ?_
    refine gJ_icmp_eq (tgt := 46) dX12_rule_6 (by decide) (fun c6 => ?_) (fun c6 => ?_)
    · rw [zRu, if_pos (Or.inl c6)]
      exact gJ_ls (z12_46 ht hB hT F (a, false) ha) ⟨rfl, trivial⟩
    · refine gJ_aload_n dX12_rule_9 rfl rfl ?_
      refine gJ_callV (As := []) b_X12_here lX12_50 i_X12_here s_X12_here dX12_rule_10 (hH) zU_o rfl rfl (Nat.le_of_ble_eq_true rfl) rfl (by decide) (fun M10 v_ h10 => ?_)
      obtain ⟨e_, rfl⟩ := h10
      replace e_ := e_.symm
      subst e_
      refine gJ_bipush (v := 62) dX12_rule_13 (by decide) ?_
      refine gJ_icmp_eq (tgt := 46) dX12_rule_15 (by decide) (fun c15 => ?_) (fun c15 => ?_)
      · rw [zRu, if_pos (Or.inr (Or.inl c15))]
        exact gJ_ls (z12_46 ht hB hT F (a, false) ha) ⟨rfl, trivial⟩
      · refine gJ_aload_n dX12_rule_18 rfl rfl ?_
        refine gJ_callV (As := []) b_X12_here lX12_50 i_X12_here s_X12_here dX12_rule_19 (hH) zU_o rfl rfl (Nat.le_of_ble_eq_true rfl) rfl (by decide) (fun M19 v_ h19 => ?_)
        obtain ⟨e_, rfl⟩ := h19
        replace e_ := e_.symm
        subst e_
        refine gJ_bipush (v := 61) dX12_rule_22 (by decide) ?_
        refine gJ_icmp_eq (tgt := 46) dX12_rule_24 (by decide) (fun c24 => ?_) (fun c24 => ?_)
        · rw [zRu, if_pos (Or.inr (Or.inr c24))]
          exact gJ_ls (z12_46 ht hB hT F (a, false) ha) ⟨rfl, trivial⟩
        · refine gJ_aload_n dX12_rule_27 rfl rfl ?_
          refine gJ_iconst (v := 1) dX12_rule_28 (by decide) ?_
          refine gJ_iconst (v := 0) dX12_rule_29 (by decide) ?_
          refine gJ_callV (As := [_, _]) b_X12_matchers lX12_62 i_X12_matchers s_X12_matchers dX12_rule_30 (hC) zU_o rfl rfl (Nat.le_of_ble_eq_true rfl) rfl (by decide) (fun M30 v_ h30 => ?_)
          obtain ⟨e_, rfl⟩ := h30
          replace e_ := e_.symm
          subst e_
          refine gJ_aload_n dX12_rule_33 rfl rfl ?_
          refine gJ_get fX12_46 dX12_rule_34 (by first | with_reducible assumption | exact zU_o | exact zU_F) rfl ?_
          refine gJ_if_neB (tgt := 46) dX12_rule_37 (by decide) (fun _ => ?_) (fun c_ => by exfalso; cases c_)
          rw [hz (fun h => h.elim c6 (fun h => h.elim c15 c24)), zEx_w (by decide)]
          exact gJ_ls (z12_46 ht hB hT _ (b, true) hb) ⟨rfl, trivial⟩
  | false =>
    show gJ _ _ _ _ _ _ 0 [(0, _)] [] _
    refine gJ_aload_n dX12_rule_0 rfl rfl ?_
    refine gJ_callV (As := []) b_X12_here lX12_50 i_X12_here s_X12_here dX12_rule_1 (hH) zU_o rfl rfl (Nat.le_of_ble_eq_true rfl) rfl (by decide) (fun M1 v_ h1 => ?_)
    obtain ⟨e_, rfl⟩ := h1
    replace e_ := e_.symm
    subst e_
    refine gJ_bipush (v := 60) dX12_rule_4 (by decide) ?_
    refine gJ_icmp_eq (tgt := 46) dX12_rule_6 (by decide) (fun c6 => ?_) (fun c6 => ?_)
    · rw [zRu, if_pos (Or.inl c6)]
      exact gJ_ls (z12_46 ht hB hT F (a, false) ha) ⟨rfl, trivial⟩
    · refine gJ_aload_n dX12_rule_9 rfl rfl ?_
      refine gJ_callV (As := []) b_X12_here lX12_50 i_X12_here s_X12_here dX12_rule_10 (hH) zU_o rfl rfl (Nat.le_of_ble_eq_true rfl) rfl (by decide) (fun M10 v_ h10 => ?_)
      obtain ⟨e_, rfl⟩ := h10
      replace e_ := e_.symm
      subst e_
      refine gJ_bipush (v := 62) dX12_rule_13 (by decide) ?_
      refine gJ_icmp_eq (tgt := 46) dX12_rule_15 (by decide) (fun c15 => ?_) (fun c15 => ?_)
      · rw [zRu, if_pos (Or.inr (Or.inl c15))]
        exact gJ_ls (z12_46 ht hB hT F (a, false) ha) ⟨rfl, trivial⟩
      · refine gJ_aload_n dX12_rule_18 rfl rfl ?_
        refine gJ_callV (As := []) b_X12_here lX12_50 i_X12_here s_X12_here dX12_rule_19 (hH) zU_o rfl rfl (Nat.le_of_ble_eq_true rfl) rfl (by decide) (fun M19 v_ h19 => ?_)
        obtain ⟨e_, rfl⟩ := h19
        replace e_ := e_.symm
        subst e_
        refine gJ_bipush (v := 61) dX12_rule_22 (by decide) ?_
        refine gJ_icmp_eq (tgt := 46) dX12_rule_24 (by decide) (fun c24 => ?_) (fun c24 => ?_)
        · rw [zRu, if_pos (Or.inr (Or.inr c24))]
          exact gJ_ls (z12_46 ht hB hT F (a, false) ha) ⟨rfl, trivial⟩
        · refine gJ_aload_n dX12_rule_27 rfl rfl ?_
          refine gJ_iconst (v := 1) dX12_rule_28 (by decide) ?_
          refine gJ_iconst (v := 0) dX12_rule_29 (by decide) ?_
          refine gJ_callV (As := [_, _]) b_X12_matchers lX12_62 i_X12_matchers s_X12_matchers dX12_rule_30 (hC) zU_o rfl rfl (Nat.le_of_ble_eq_true rfl) rfl (by decide) (fun M30 v_ h30 => ?_)
          obtain ⟨e_, rfl⟩ := h30
          replace e_ := e_.symm
          subst e_
          refine gJ_aload_n dX12_rule_33 rfl rfl ?_
          refine gJ_get fX12_46 dX12_rule_34 (by first | with_reducible assumption | exact zU_o | exact zU_F) rfl ?_
          refine gJ_if_neB (tgt := 46) dX12_rule_37 (by decide) (fun c_ => by exfalso; cases c_) (fun _ => ?_)
          refine gJ_aload_n dX12_rule_40 rfl rfl ?_
          refine gJ_bipush (v := 58) dX12_rule_41 (by decide) ?_
          refine gJ_callV (As := [_]) b_X12_sign lX12_66 i_X12_sign s_X12_sign dX12_rule_43 (c12_sign ht (zU_n hT (by omega) (by omega)) b (by omega) zU_o 58) zU_o rfl rfl (Nat.le_of_ble_eq_true rfl) rfl (by decide) (fun M43 v_ h43 => ?_)
          obtain ⟨e_, rfl⟩ := h43
          replace e_ := e_.symm
          rw [zU_o2 (s2 := zEx T t 58 (b, false))] at e_
          subst e_
          rw [hz (fun h => h.elim c6 (fun h => h.elim c15 c24))]
          exact gJ_ls (z12_46 ht hB hT _ _ (zEx_le (by decide) hb)) ⟨rfl, trivial⟩
end MODEL
