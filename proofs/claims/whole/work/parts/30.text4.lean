def zS7 (T : Nat → Int32) (t : Nat) (F : Nat → Int32) (s : zP) : (Nat → Int32) × zP := (upd F 7 (nI (zNm T t s).1), (zNm T t s).2)
def zS6 (T : Nat → Int32) (t : Nat) (F : Nat → Int32) (s : zP) : (Nat → Int32) × zP := zS7 T t (upd F 6 (nI (zNm T t s).1)) (zEx T t 43 (zNm T t s).2)
def zS (T : Nat → Int32) (t : Nat) (F : Nat → Int32) (s : zP) : (Nat → Int32) × zP := zS6 T t (upd (zLay 1 (zMs T t true s).1 (zMs T t true s).2.1 F) 1 (nI (zMs T t true s).1)) (zEx T t 64 (zMs T t true s).2.2)
def zIl (c : Int32) : Int32 := if c = 116 then 1 else if c = 104 then 2 else if c = 122 then 4 else 0
def zI (T : Nat → Int32) (t : Nat) : Nat → (Nat → Int32) → zP → (Nat → Int32) × zP
  | 0, F, s => (F, s)
  | k + 1, F, s => if s.2 = false ∧ s.1 < t then (if zIl (zH T t s) = 0 then (F, (s.1, true)) else zI T t k (upd F 11 (F 11 ||| zIl (zH T t s))) (s.1 + 1, false)) else (F, s)
def zI6 (T : Nat → Int32) (t : Nat) (F : Nat → Int32) (s : zP) : (Nat → Int32) × zP := zI T t 60 (upd (zLay 6 (zMs T t true s).1 (zMs T t true s).2.1 F) 6 (nI (zMs T t true s).1)) (zEx T t 47 (zMs T t true s).2.2)
def zIn (T : Nat → Int32) (t : Nat) (F : Nat → Int32) (s : zP) : (Nat → Int32) × zP := zI6 T t (upd (zLay 1 (zMs T t true s).1 (zMs T t true s).2.1 F) 1 (nI (zMs T t true s).1)) (zEx T t 62 (zMs T t true s).2.2)
theorem zS7_w {T F : Nat → Int32} {t a : Nat} : (zS7 T t F (a, true)).2 = (a, true) := by rw [zS7, zNm_w]
theorem zS6_w {T F : Nat → Int32} {t a : Nat} : (zS6 T t F (a, true)).2 = (a, true) := by
  rw [zS6, zNm_w]
  dsimp only
  rw [zEx_w (by decide), zS7_w]
theorem zI_w {T F : Nat → Int32} {t a k : Nat} : zI T t k F (a, true) = (F, (a, true)) := by
  cases k with
  | zero => rfl
  | succ k => rw [zI, if_neg (fun h => by cases h.1)]
theorem zI6_w {T F : Nat → Int32} {t a : Nat} : (zI6 T t F (a, true)).2 = (a, true) := by
  rw [zI6, zMs_w, zEx_w (by decide), zI_w]
section MODEL
variable {G : gG} {M : gM} {m : Nat} {hi : Int32} {T : Nat → Int32} {t : Nat}
set_option maxRecDepth 20000 in
theorem z12_silence_50 (ht : t ≤ 60) (hB : zB T) (hT : M.1 (m + 7) = some (gI 60 T)) (F : Nat → Int32) (s : zP) (hs : s.1 ≤ t) : gJ G kX12_silence 4 0 0 (zU m M hi t s F) 50 [(0, .ref m)] [] (gQ kX12_silence (zQ m M hi t (zS7 T t F s))) := by
  obtain ⟨a, w⟩ := s
  have ha : a ≤ t := hs
  cases w with
  | true =>
    refine gJ_aload_n dX12_silence_50 rfl rfl ?_
    refine gJ_get fX12_46 dX12_silence_51 (by first | with_reducible assumption | exact zU_o | exact zU_F) rfl ?_
    refine gJ_if_neB (tgt := 68) dX12_silence_54 (by decide) (fun _ => ?_) (fun c_ => by exfalso; cases c_)
    refine gJ_vret dX12_silence_68 rfl ?_
    exact zQ_w (zS7_w)
  | false =>
    refine gJ_aload_n dX12_silence_50 rfl rfl ?_
    refine gJ_get fX12_46 dX12_silence_51 (by first | with_reducible assumption | exact zU_o | exact zU_F) rfl ?_
    refine gJ_if_neB (tgt := 68) dX12_silence_54 (by decide) (fun c_ => by exfalso; cases c_) (fun _ => ?_)
    refine gJ_aload_n dX12_silence_57 rfl rfl ?_
    refine gJ_get fX12_32 dX12_silence_58 (by first | with_reducible assumption | exact zU_o | exact zU_F) rfl ?_
    refine gJ_bipush (v := 7) dX12_silence_61 (by decide) ?_
    refine gJ_aload_n dX12_silence_63 rfl rfl ?_
    refine gJ_callV (As := []) b_X12_number lX12_70 i_X12_number s_X12_number dX12_silence_64 (c12_number ht hB (zU_n hT (by omega) (by omega)) a ha zU_o) zU_o rfl rfl (Nat.le_of_ble_eq_true rfl) rfl (by decide) (fun M64 v_ h64 => ?_)
    obtain ⟨e_, rfl⟩ := h64
    replace e_ := e_.symm
    rw [zU_o2 (s2 := (zNm T t (a, false)).2)] at e_
    subst e_
    refine gJ_iastN (j := 7) dX12_silence_67 (by first | with_reducible assumption | exact zU_o | exact zU_F) (by first | with_reducible rfl | rfl) (by omega) (by decide) ?_
    try rw [gUp_up]
    rw [zU_F2]
    refine gJ_vret dX12_silence_68 rfl ?_
    exact zQ_f (r := zS7 T t F (a, false))
set_option maxRecDepth 20000 in
theorem z12_silence_37 (ht : t ≤ 60) (hB : zB T) (hT : M.1 (m + 7) = some (gI 60 T)) (F : Nat → Int32) (s : zP) (hs : s.1 ≤ t) : gJ G kX12_silence 4 0 0 (zU m M hi t s F) 37 [(0, .ref m)] [] (gQ kX12_silence (zQ m M hi t (zS7 T t F (zEx T t 43 s)))) := by
  obtain ⟨a, w⟩ := s
  have ha : a ≤ t := hs
  cases w with
  | true =>
    refine gJ_aload_n dX12_silence_37 rfl rfl ?_
    refine gJ_get fX12_46 dX12_silence_38 (by first | with_reducible assumption | exact zU_o | exact zU_F) rfl ?_
    refine gJ_if_neB (tgt := 50) dX12_silence_41 (by decide) (fun _ => ?_) (fun c_ => by exfalso; cases c_)
    refine gJ_aload_n dX12_silence_50 rfl rfl ?_
    refine gJ_get fX12_46 dX12_silence_51 (by first | with_reducible assumption | exact zU_o | exact zU_F) rfl ?_
    refine gJ_if_neB (tgt := 68) dX12_silence_54 (by decide) (fun _ => ?_) (fun c_ => by exfalso; cases c_)
    refine gJ_vret dX12_silence_68 rfl ?_
    exact zQ_w (by rw [zEx_w (by decide), zS7_w])
  | false =>
    refine gJ_aload_n dX12_silence_37 rfl rfl ?_
    refine gJ_get fX12_46 dX12_silence_38 (by first | with_reducible assumption | exact zU_o | exact zU_F) rfl ?_
    refine gJ_if_neB (tgt := 50) dX12_silence_41 (by decide) (fun c_ => by exfalso; cases c_) (fun _ => ?_)
    refine gJ_aload_n dX12_silence_44 rfl rfl ?_
    refine gJ_bipush (v := 43) dX12_silence_45 (by decide) ?_
    refine gJ_callV (As := [_]) b_X12_sign lX12_66 i_X12_sign s_X12_sign dX12_silence_47 (c12_sign ht (zU_n hT (by omega) (by omega)) a (by omega) zU_o 43) zU_o rfl rfl (Nat.le_of_ble_eq_true rfl) rfl (by decide) (fun M47 v_ h47 => ?_)
    obtain ⟨e_, rfl⟩ := h47
    replace e_ := e_.symm
    rw [zU_o2 (s2 := zEx T t 43 (a, false))] at e_
    subst e_
    exact gJ_ls (z12_silence_50 ht hB hT F _ (zEx_le (by decide) hs)) ⟨rfl, trivial⟩
set_option maxRecDepth 20000 in
theorem z12_silence_19 (ht : t ≤ 60) (hB : zB T) (hT : M.1 (m + 7) = some (gI 60 T)) (F : Nat → Int32) (s : zP) (hs : s.1 ≤ t) : gJ G kX12_silence 4 0 0 (zU m M hi t s F) 19 [(0, .ref m)] [] (gQ kX12_silence (zQ m M hi t (zS6 T t F s))) := by
  obtain ⟨a, w⟩ := s
  have ha : a ≤ t := hs
  cases w with
  | true =>
    refine gJ_aload_n dX12_silence_19 rfl rfl ?_
    refine gJ_get fX12_46 dX12_silence_20 (by first | with_reducible assumption | exact zU_o | exact zU_F) rfl ?_
    refine gJ_if_neB (tgt := 37) dX12_silence_23 (by decide) (fun _ => ?_) (fun c_ => by exfalso; cases c_)
    refine gJ_aload_n dX12_silence_37 rfl rfl ?_
    refine gJ_get fX12_46 dX12_silence_38 (by first | with_reducible assumption | exact zU_o | exact zU_F) rfl ?_
    refine gJ_if_neB (tgt := 50) dX12_silence_41 (by decide) (fun _ => ?_) (fun c_ => by exfalso; cases c_)
    refine gJ_aload_n dX12_silence_50 rfl rfl ?_
    refine gJ_get fX12_46 dX12_silence_51 (by first | with_reducible assumption | exact zU_o | exact zU_F) rfl ?_
    refine gJ_if_neB (tgt := 68) dX12_silence_54 (by decide) (fun _ => ?_) (fun c_ => by exfalso; cases c_)
    refine gJ_vret dX12_silence_68 rfl ?_
    exact zQ_w (zS6_w)
  | false =>
    refine gJ_aload_n dX12_silence_19 rfl rfl ?_
    refine gJ_get fX12_46 dX12_silence_20 (by first | with_reducible assumption | exact zU_o | exact zU_F) rfl ?_
    refine gJ_if_neB (tgt := 37) dX12_silence_23 (by decide) (fun c_ => by exfalso; cases c_) (fun _ => ?_)
    refine gJ_aload_n dX12_silence_26 rfl rfl ?_
    refine gJ_get fX12_32 dX12_silence_27 (by first | with_reducible assumption | exact zU_o | exact zU_F) rfl ?_
    refine gJ_bipush (v := 6) dX12_silence_30 (by decide) ?_
    refine gJ_aload_n dX12_silence_32 rfl rfl ?_
    refine gJ_callV (As := []) b_X12_number lX12_70 i_X12_number s_X12_number dX12_silence_33 (c12_number ht hB (zU_n hT (by omega) (by omega)) a ha zU_o) zU_o rfl rfl (Nat.le_of_ble_eq_true rfl) rfl (by decide) (fun M33 v_ h33 => ?_)
    obtain ⟨e_, rfl⟩ := h33
    replace e_ := e_.symm
    rw [zU_o2 (s2 := (zNm T t (a, false)).2)] at e_
    subst e_
    refine gJ_iastN (j := 6) dX12_silence_36 (by first | with_reducible assumption | exact zU_o | exact zU_F) (by first | with_reducible rfl | rfl) (by omega) (by decide) ?_
    try rw [gUp_up]
    rw [zU_F2]
    exact gJ_ls (z12_silence_37 ht hB hT _ _ (zNm_le hs)) ⟨rfl, trivial⟩
set_option maxRecDepth 20000 in
theorem z12_silence_6 (ht : t ≤ 60) (hB : zB T) (hT : M.1 (m + 7) = some (gI 60 T)) (F : Nat → Int32) (s : zP) (hs : s.1 ≤ t) : gJ G kX12_silence 4 0 0 (zU m M hi t s F) 6 [(0, .ref m)] [] (gQ kX12_silence (zQ m M hi t (zS6 T t F (zEx T t 64 s)))) := by
  obtain ⟨a, w⟩ := s
  have ha : a ≤ t := hs
  cases w with
  | true =>
    refine gJ_aload_n dX12_silence_6 rfl rfl ?_
    refine gJ_get fX12_46 dX12_silence_7 (by first | with_reducible assumption | exact zU_o | exact zU_F) rfl ?_
    refine gJ_if_neB (tgt := 19) dX12_silence_10 (by decide) (fun _ => ?_) (fun c_ => by exfalso; cases c_)
    refine gJ_aload_n dX12_silence_19 rfl rfl ?_
    refine gJ_get fX12_46 dX12_silence_20 (by first | with_reducible assumption | exact zU_o | exact zU_F) rfl ?_
    refine gJ_if_neB (tgt := 37) dX12_silence_23 (by decide) (fun _ => ?_) (fun c_ => by exfalso; cases c_)
    refine gJ_aload_n dX12_silence_37 rfl rfl ?_
    refine gJ_get fX12_46 dX12_silence_38 (by first | with_reducible assumption | exact zU_o | exact zU_F) rfl ?_
    refine gJ_if_neB (tgt := 50) dX12_silence_41 (by decide) (fun _ => ?_) (fun c_ => by exfalso; cases c_)
    refine gJ_aload_n dX12_silence_50 rfl rfl ?_
    refine gJ_get fX12_46 dX12_silence_51 (by first | with_reducible assumption | exact zU_o | exact zU_F) rfl ?_
    refine gJ_if_neB (tgt := 68) dX12_silence_54 (by decide) (fun _ => ?_) (fun c_ => by exfalso; cases c_)
    refine gJ_vret dX12_silence_68 rfl ?_
    exact zQ_w (by rw [zEx_w (by decide), zS6_w])
  | false =>
    refine gJ_aload_n dX12_silence_6 rfl rfl ?_
    refine gJ_get fX12_46 dX12_silence_7 (by first | with_reducible assumption | exact zU_o | exact zU_F) rfl ?_
    refine gJ_if_neB (tgt := 19) dX12_silence_10 (by decide) (fun c_ => by exfalso; cases c_) (fun _ => ?_)
    refine gJ_aload_n dX12_silence_13 rfl rfl ?_
    refine gJ_bipush (v := 64) dX12_silence_14 (by decide) ?_
    refine gJ_callV (As := [_]) b_X12_sign lX12_66 i_X12_sign s_X12_sign dX12_silence_16 (c12_sign ht (zU_n hT (by omega) (by omega)) a (by omega) zU_o 64) zU_o rfl rfl (Nat.le_of_ble_eq_true rfl) rfl (by decide) (fun M16 v_ h16 => ?_)
    obtain ⟨e_, rfl⟩ := h16
    replace e_ := e_.symm
    rw [zU_o2 (s2 := zEx T t 64 (a, false))] at e_
    subst e_
    exact gJ_ls (z12_silence_19 ht hB hT F _ (zEx_le (by decide) hs)) ⟨rfl, trivial⟩
set_option maxRecDepth 20000 in
theorem c12_silence (ht : t ≤ 60) (hB : zB T) (hT : M.1 (m + 7) = some (gI 60 T)) (F : Nat → Int32) (a : Nat) (ha : a ≤ t) : gCon G kX12_silence 4 0 0 (zU m M hi t (a, false) F) [.ref m] (zQ m M hi t (zS T t F (a, false))) := by
  refine gCon_of (by decide) (Nat.le_of_ble_eq_true rfl) ?_
  have hC := c12_matchers (G := G) (M := M) (m := m) (hi := hi) (F := F) ht hB hT a ha true 1 (by decide)
  show gJ _ _ _ _ _ _ 0 [(0, _)] [] _
  refine gJ_aload_n dX12_silence_0 rfl rfl ?_
  refine gJ_iconst (v := 1) dX12_silence_1 (by decide) ?_
  refine gJ_iconst (v := 1) dX12_silence_2 (by decide) ?_
  refine gJ_callV (As := [_, _]) b_X12_matchers lX12_62 i_X12_matchers s_X12_matchers dX12_silence_3 (hC) zU_o rfl rfl (Nat.le_of_ble_eq_true rfl) rfl (by decide) (fun M3 v_ h3 => ?_)
  obtain ⟨e_, rfl⟩ := h3
  replace e_ := e_.symm
  subst e_
  exact gJ_ls (z12_silence_6 ht hB hT _ _ (zMs_ok ha).1.1) ⟨rfl, trivial⟩
set_option maxRecDepth 20000 in
theorem z12_inhibition_46 (ht : t ≤ 60) (hB : zB T) (hT : M.1 (m + 7) = some (gI 60 T)) : ∀ (q k : Nat), q ≤ k → ∀ (F : Nat → Int32) (s : zP), s.1 + q = t → gJ G kX12_inhibition 4 0 0 (zU m M hi t s F) 46 [(0, .ref m)] [] (gQ kX12_inhibition (zQ m M hi t (zI T t k F s))) := by
  intro q
  induction q with
  | zero =>
    intro k hk F s hs
    obtain ⟨a, w⟩ := s
    have ha : a = t := hs
    subst ha
    have hz : zI T a k F (a, w) = (F, (a, w)) := by
      cases k with
      | zero => rfl
      | succ k => rw [zI, if_neg (fun h => absurd h.2 (Nat.lt_irrefl _))]
    rw [hz]
    cases w with
    | true =>
      refine gJ_aload_n dX12_inhibition_46 rfl rfl ?_
      refine gJ_get fX12_46 dX12_inhibition_47 (by first | with_reducible assumption | exact zU_o | exact zU_F) rfl ?_
      refine gJ_if_neB (tgt := 154) dX12_inhibition_50 (by decide) (fun _ => ?_) (fun c_ => by exfalso; cases c_)
      refine gJ_vret dX12_inhibition_154 rfl ?_
      exact zQ_w rfl
    | false =>
      refine gJ_aload_n dX12_inhibition_46 rfl rfl ?_
      refine gJ_get fX12_46 dX12_inhibition_47 (by first | with_reducible assumption | exact zU_o | exact zU_F) rfl ?_
      refine gJ_if_neB (tgt := 154) dX12_inhibition_50 (by decide) (fun c_ => by exfalso; cases c_) (fun _ => ?_)
      refine gJ_aload_n dX12_inhibition_53 rfl rfl ?_
      refine gJ_get fX12_43 dX12_inhibition_54 (by first | with_reducible assumption | exact zU_o | exact zU_F) rfl ?_
      refine gJ_aload_n dX12_inhibition_57 rfl rfl ?_
      refine gJ_get fX12_39 dX12_inhibition_58 (by first | with_reducible assumption | exact zU_o | exact zU_F) rfl ?_
      refine gJ_icmp_geN (tgt := 154) (a := a) (b := a) (by first | with_reducible rfl | rfl) (by first | with_reducible rfl | rfl) (by omega) (by omega) dX12_inhibition_61 (by decide) (fun _ => ?_) (fun c_ => by exfalso; omega)
      refine gJ_vret dX12_inhibition_154 rfl ?_
      exact zQ_f (r := (F, (a, false)))
  | succ q ih =>
    intro k hk F s hs
    obtain ⟨k, rfl⟩ : ∃ k', k = k' + 1 := ⟨k - 1, by omega⟩
    obtain ⟨a, w⟩ := s
    have ha : a + (q + 1) = t := hs
    cases w with
    | true =>
      rw [zI_w]
      refine gJ_aload_n dX12_inhibition_46 rfl rfl ?_
      refine gJ_get fX12_46 dX12_inhibition_47 (by first | with_reducible assumption | exact zU_o | exact zU_F) rfl ?_
      refine gJ_if_neB (tgt := 154) dX12_inhibition_50 (by decide) (fun _ => ?_) (fun c_ => by exfalso; cases c_)
      refine gJ_vret dX12_inhibition_154 rfl ?_
      exact zQ_w rfl
    | false =>
      rw [zI, if_pos ⟨rfl, by show a < t; omega⟩]
      have fork : ∀ (l : Int32) (c : Int32), zIl (zH T t (a, false)) = l → gJ G kX12_inhibition 4 0 0 (zU m M hi t (a, false) F) 100 [(1, .int c), (0, .ref m)] [.int l] (gQ kX12_inhibition (zQ m M hi t (if zIl (zH T t (a, false)) = 0 then (F, (a, true)) else zI T t k (upd F 11 (F 11 ||| zIl (zH T t (a, false)))) (a + 1, false)))) := by
        intro l c hl
        rw [hl]
        refine gJ_istore_n (lv2 := [(2, _), (1, _), (0, _)]) dX12_inhibition_100 rfl rfl rfl ?_
        refine gJ_aload_n dX12_inhibition_101 rfl rfl ?_
        refine gJ_dup dX12_inhibition_102 rfl ?_
        refine gJ_get fX12_46 dX12_inhibition_103 (by first | with_reducible assumption | exact zU_o | exact zU_F) rfl ?_
        refine gJ_iload_n dX12_inhibition_106 rfl rfl ?_
        refine gJ_if_ne (tgt := 114) dX12_inhibition_107 (by decide) (fun c107 => ?_) (fun c107 => ?_)
        · refine gJ_iconst (v := 0) dX12_inhibition_114 (by decide) ?_
          refine gJ_ior dX12_inhibition_115 ?_
          rw [show gb false ||| 0 = gb false from by decide]
          refine gJ_put fX12_46 dX12_inhibition_116 (by first | with_reducible assumption | exact zU_o | exact zU_F) (by rcases (gb01 _) with h_ | h_ <;> rw [h_] <;> rfl) rfl (Nat.le_of_ble_eq_true rfl) ?_
          refine zU_go (s2 := (a, false)) ?_
          refine gJ_aload_n dX12_inhibition_119 rfl rfl ?_
          refine gJ_get fX12_32 dX12_inhibition_120 (by first | with_reducible assumption | exact zU_o | exact zU_F) rfl ?_
          refine gJ_bipush (v := 11) dX12_inhibition_123 (by decide) ?_
          refine gJ_dup2 dX12_inhibition_125 rfl rfl ?_
          refine gJ_ialdN (j := 11) dX12_inhibition_126 (by first | with_reducible assumption | exact zU_o | exact zU_F) (by first | with_reducible rfl | rfl) (by omega) (by decide) ?_
          refine gJ_iload_n dX12_inhibition_127 rfl rfl ?_
          refine gJ_ior dX12_inhibition_128 ?_
          refine gJ_iastN (j := 11) dX12_inhibition_129 (by first | with_reducible assumption | exact zU_o | exact zU_F) (by first | with_reducible rfl | rfl) (by omega) (by decide) ?_
          try rw [gUp_up]
          rw [zU_F2]
          refine gJ_aload_n dX12_inhibition_130 rfl rfl ?_
          refine gJ_dup dX12_inhibition_131 rfl ?_
          refine gJ_get fX12_43 dX12_inhibition_132 (by first | with_reducible assumption | exact zU_o | exact zU_F) rfl ?_
          refine gJ_aload_n dX12_inhibition_135 rfl rfl ?_
          refine gJ_get fX12_46 dX12_inhibition_136 (by first | with_reducible assumption | exact zU_o | exact zU_F) rfl ?_
          refine gJ_if_eqB (tgt := 146) dX12_inhibition_139 (by decide) (fun _ => ?_) (fun c_ => by exfalso; cases c_)
          refine gJ_iconst (v := 1) dX12_inhibition_146 (by decide) ?_
          refine gJ_iaddN (a := a) (b := 1) dX12_inhibition_147 (by first | with_reducible rfl | rfl) (by first | with_reducible rfl | rfl) ?_
          refine gJ_put fX12_43 dX12_inhibition_148 (by first | with_reducible assumption | exact zU_o | exact zU_F) rfl rfl (Nat.le_of_ble_eq_true rfl) ?_
          refine zU_go (s2 := (a + 1, false)) ?_
          refine gJ_goto (tgt := 46) dX12_inhibition_151 (by decide) ?_
          rw [if_neg c107]
          exact gJ_ls (ih k (by omega) _ (a + 1, false) (by show a + 1 + q = t; omega)) ⟨rfl, trivial⟩
        · refine gJ_iconst (v := 1) dX12_inhibition_110 (by decide) ?_
          refine gJ_goto (tgt := 115) dX12_inhibition_111 (by decide) ?_
          refine gJ_ior dX12_inhibition_115 ?_
          rw [show gb false ||| 1 = gb true from by decide]
          refine gJ_put fX12_46 dX12_inhibition_116 (by first | with_reducible assumption | exact zU_o | exact zU_F) (by rcases (gb01 _) with h_ | h_ <;> rw [h_] <;> rfl) rfl (Nat.le_of_ble_eq_true rfl) ?_
          refine zU_go (s2 := (a, true)) ?_
          refine gJ_aload_n dX12_inhibition_119 rfl rfl ?_
          refine gJ_get fX12_32 dX12_inhibition_120 (by first | with_reducible assumption | exact zU_o | exact zU_F) rfl ?_
          refine gJ_bipush (v := 11) dX12_inhibition_123 (by decide) ?_
          refine gJ_dup2 dX12_inhibition_125 rfl rfl ?_
          refine gJ_ialdN (j := 11) dX12_inhibition_126 (by first | with_reducible assumption | exact zU_o | exact zU_F) (by first | with_reducible rfl | rfl) (by omega) (by decide) ?_
          refine gJ_iload_n dX12_inhibition_127 rfl rfl ?_
          refine gJ_ior dX12_inhibition_128 ?_
          refine gJ_iastN (j := 11) dX12_inhibition_129 (by first | with_reducible assumption | exact zU_o | exact zU_F) (by first | with_reducible rfl | rfl) (by omega) (by decide) ?_
          try rw [gUp_up]
          rw [zU_F2]
          refine gJ_aload_n dX12_inhibition_130 rfl rfl ?_
          refine gJ_dup dX12_inhibition_131 rfl ?_
          refine gJ_get fX12_43 dX12_inhibition_132 (by first | with_reducible assumption | exact zU_o | exact zU_F) rfl ?_
          refine gJ_aload_n dX12_inhibition_135 rfl rfl ?_
          refine gJ_get fX12_46 dX12_inhibition_136 (by first | with_reducible assumption | exact zU_o | exact zU_F) rfl ?_
          refine gJ_if_eqB (tgt := 146) dX12_inhibition_139 (by decide) (fun c_ => by exfalso; cases c_) (fun _ => ?_)
          refine gJ_iconst (v := 0) dX12_inhibition_142 (by decide) ?_
          refine gJ_goto (tgt := 147) dX12_inhibition_143 (by decide) ?_
          refine gJ_iaddN (a := a) (b := 0) dX12_inhibition_147 (by first | with_reducible rfl | rfl) (by first | with_reducible rfl | rfl) ?_
          refine gJ_put fX12_43 dX12_inhibition_148 (by first | with_reducible assumption | exact zU_o | exact zU_F) rfl rfl (Nat.le_of_ble_eq_true rfl) ?_
          refine zU_go (s2 := (a + 0, true)) ?_
          refine gJ_goto (tgt := 46) dX12_inhibition_151 (by decide) ?_
          refine gJ_aload_n dX12_inhibition_46 rfl rfl ?_
          refine gJ_get fX12_46 dX12_inhibition_47 (by first | with_reducible assumption | exact zU_o | exact zU_F) rfl ?_
          refine gJ_if_neB (tgt := 154) dX12_inhibition_50 (by decide) (fun _ => ?_) (fun c_ => by exfalso; cases c_)
          refine gJ_vret dX12_inhibition_154 rfl ?_
          rw [if_pos c107]
          exact zQ_w rfl
      refine gJ_aload_n dX12_inhibition_46 rfl rfl ?_
      refine gJ_get fX12_46 dX12_inhibition_47 (by first | with_reducible assumption | exact zU_o | exact zU_F) rfl ?_
      refine gJ_if_neB (tgt := 154) dX12_inhibition_50 (by decide) (fun c_ => by exfalso; cases c_) (fun _ => ?_)
      refine gJ_aload_n dX12_inhibition_53 rfl rfl ?_
      refine gJ_get fX12_43 dX12_inhibition_54 (by first | with_reducible assumption | exact zU_o | exact zU_F) rfl ?_
      refine gJ_aload_n dX12_inhibition_57 rfl rfl ?_
      refine gJ_get fX12_39 dX12_inhibition_58 (by first | with_reducible assumption | exact zU_o | exact zU_F) rfl ?_
      refine gJ_icmp_geN (tgt := 154) (a := a) (b := t) (by first | with_reducible rfl | rfl) (by first | with_reducible rfl | rfl) (by omega) (by omega) dX12_inhibition_61 (by decide) (fun c_ => by exfalso; omega) (fun _ => ?_)
      refine gJ_aload_n dX12_inhibition_64 rfl rfl ?_
      refine gJ_callV (As := []) b_X12_here lX12_50 i_X12_here s_X12_here dX12_inhibition_65 (c12_here ht (zU_n hT (by omega) (by omega)) a (by omega) _ zU_o) zU_o rfl rfl (Nat.le_of_ble_eq_true rfl) rfl (by decide) (fun M65 v_ h65 => ?_)
      obtain ⟨e_, rfl⟩ := h65
      replace e_ := e_.symm
      subst e_
      refine gJ_istore_n (lv2 := [(1, _), (0, _)]) dX12_inhibition_68 rfl rfl rfl ?_
      refine gJ_iload_n dX12_inhibition_69 rfl rfl ?_
      refine gJ_bipush (v := 116) dX12_inhibition_70 (by decide) ?_
      refine gJ_icmp_ne (tgt := 79) dX12_inhibition_72 (by decide) (fun c72 => ?_) (fun c72 => ?_)
      · refine gJ_iload_n dX12_inhibition_79 rfl rfl ?_
        refine gJ_bipush (v := 104) dX12_inhibition_80 (by decide) ?_
        refine gJ_icmp_ne (tgt := 89) dX12_inhibition_82 (by decide) (fun c82 => ?_) (fun c82 => ?_)
        · refine gJ_iload_n dX12_inhibition_89 rfl rfl ?_
          refine gJ_bipush (v := 122) dX12_inhibition_90 (by decide) ?_
          refine gJ_icmp_ne (tgt := 99) dX12_inhibition_92 (by decide) (fun c92 => ?_) (fun c92 => ?_)
          · refine gJ_iconst (v := 0) dX12_inhibition_99 (by decide) ?_
            exact fork 0 _ (by rw [zIl, if_neg c72, if_neg c82, if_neg c92])
          · refine gJ_iconst (v := 4) dX12_inhibition_95 (by decide) ?_
            refine gJ_goto (tgt := 100) dX12_inhibition_96 (by decide) ?_
            exact fork 4 _ (by rw [zIl, if_neg c72, if_neg c82, if_pos c92])
        · refine gJ_iconst (v := 2) dX12_inhibition_85 (by decide) ?_
          refine gJ_goto (tgt := 100) dX12_inhibition_86 (by decide) ?_
          exact fork 2 _ (by rw [zIl, if_neg c72, if_pos c82])
      · refine gJ_iconst (v := 1) dX12_inhibition_75 (by decide) ?_
        refine gJ_goto (tgt := 100) dX12_inhibition_76 (by decide) ?_
        exact fork 1 _ (by rw [zIl, if_pos c72])
set_option maxRecDepth 20000 in
theorem z12_inhibition_33 (ht : t ≤ 60) (hB : zB T) (hT : M.1 (m + 7) = some (gI 60 T)) (F : Nat → Int32) (s : zP) (hs : s.1 ≤ t) : gJ G kX12_inhibition 4 0 0 (zU m M hi t s F) 33 [(0, .ref m)] [] (gQ kX12_inhibition (zQ m M hi t (zI T t 60 F (zEx T t 47 s)))) := by
  obtain ⟨a, w⟩ := s
  have ha : a ≤ t := hs
  cases w with
  | true =>
    refine gJ_aload_n dX12_inhibition_33 rfl rfl ?_
    refine gJ_get fX12_46 dX12_inhibition_34 (by first | with_reducible assumption | exact zU_o | exact zU_F) rfl ?_
    refine gJ_if_neB (tgt := 46) dX12_inhibition_37 (by decide) (fun _ => ?_) (fun c_ => by exfalso; cases c_)
    refine gJ_aload_n dX12_inhibition_46 rfl rfl ?_
    refine gJ_get fX12_46 dX12_inhibition_47 (by first | with_reducible assumption | exact zU_o | exact zU_F) rfl ?_
    refine gJ_if_neB (tgt := 154) dX12_inhibition_50 (by decide) (fun _ => ?_) (fun c_ => by exfalso; cases c_)
    refine gJ_vret dX12_inhibition_154 rfl ?_
    exact zQ_w (by rw [zEx_w (by decide), zI_w])
  | false =>
    refine gJ_aload_n dX12_inhibition_33 rfl rfl ?_
    refine gJ_get fX12_46 dX12_inhibition_34 (by first | with_reducible assumption | exact zU_o | exact zU_F) rfl ?_
    refine gJ_if_neB (tgt := 46) dX12_inhibition_37 (by decide) (fun c_ => by exfalso; cases c_) (fun _ => ?_)
    refine gJ_aload_n dX12_inhibition_40 rfl rfl ?_
    refine gJ_bipush (v := 47) dX12_inhibition_41 (by decide) ?_
    refine gJ_callV (As := [_]) b_X12_sign lX12_66 i_X12_sign s_X12_sign dX12_inhibition_43 (c12_sign ht (zU_n hT (by omega) (by omega)) a (by omega) zU_o 47) zU_o rfl rfl (Nat.le_of_ble_eq_true rfl) rfl (by decide) (fun M43 v_ h43 => ?_)
    obtain ⟨e_, rfl⟩ := h43
    replace e_ := e_.symm
    rw [zU_o2 (s2 := zEx T t 47 (a, false))] at e_
    subst e_
    have hle := zEx_le (T := T) (c := 47) (by decide) hs
    exact gJ_ls (z12_inhibition_46 ht hB hT (t - (zEx T t 47 (a, false)).1) 60 (by omega) F _ (by omega)) ⟨rfl, trivial⟩
set_option maxRecDepth 20000 in
theorem z12_inhibition_19 (ht : t ≤ 60) (hB : zB T) (hT : M.1 (m + 7) = some (gI 60 T)) (F : Nat → Int32) (s : zP) (hs : s.1 ≤ t) : gJ G kX12_inhibition 4 0 0 (zU m M hi t s F) 19 [(0, .ref m)] [] (gQ kX12_inhibition (zQ m M hi t (zI6 T t F s))) := by
  obtain ⟨a, w⟩ := s
  have ha : a ≤ t := hs
  have hC := c12_matchers (G := G) (M := M) (m := m) (hi := hi) (F := F) ht hB hT a ha true 6 (by decide)
  cases w with
  | true =>
    refine gJ_aload_n dX12_inhibition_19 rfl rfl ?_
    refine gJ_get fX12_46 dX12_inhibition_20 (by first | with_reducible assumption | exact zU_o | exact zU_F) rfl ?_
    refine gJ_if_neB (tgt := 33) dX12_inhibition_23 (by decide) (fun _ => ?_) (fun c_ => by exfalso; cases c_)
    refine gJ_aload_n dX12_inhibition_33 rfl rfl ?_
    refine gJ_get fX12_46 dX12_inhibition_34 (by first | with_reducible assumption | exact zU_o | exact zU_F) rfl ?_
    refine gJ_if_neB (tgt := 46) dX12_inhibition_37 (by decide) (fun _ => ?_) (fun c_ => by exfalso; cases c_)
    refine gJ_aload_n dX12_inhibition_46 rfl rfl ?_
    refine gJ_get fX12_46 dX12_inhibition_47 (by first | with_reducible assumption | exact zU_o | exact zU_F) rfl ?_
    refine gJ_if_neB (tgt := 154) dX12_inhibition_50 (by decide) (fun _ => ?_) (fun c_ => by exfalso; cases c_)
    refine gJ_vret dX12_inhibition_154 rfl ?_
    exact zQ_w (zI6_w)
  | false =>
    refine gJ_aload_n dX12_inhibition_19 rfl rfl ?_
    refine gJ_get fX12_46 dX12_inhibition_20 (by first | with_reducible assumption | exact zU_o | exact zU_F) rfl ?_
    refine gJ_if_neB (tgt := 33) dX12_inhibition_23 (by decide) (fun c_ => by exfalso; cases c_) (fun _ => ?_)
    refine gJ_aload_n dX12_inhibition_26 rfl rfl ?_
    refine gJ_bipush (v := 6) dX12_inhibition_27 (by decide) ?_
    refine gJ_iconst (v := 1) dX12_inhibition_29 (by decide) ?_
    refine gJ_callV (As := [_, _]) b_X12_matchers lX12_62 i_X12_matchers s_X12_matchers dX12_inhibition_30 (hC) zU_o rfl rfl (Nat.le_of_ble_eq_true rfl) rfl (by decide) (fun M30 v_ h30 => ?_)
    obtain ⟨e_, rfl⟩ := h30
    replace e_ := e_.symm
    subst e_
    exact gJ_ls (z12_inhibition_33 ht hB hT _ _ (zMs_ok ha).1.1) ⟨rfl, trivial⟩
set_option maxRecDepth 20000 in
theorem z12_inhibition_6 (ht : t ≤ 60) (hB : zB T) (hT : M.1 (m + 7) = some (gI 60 T)) (F : Nat → Int32) (s : zP) (hs : s.1 ≤ t) : gJ G kX12_inhibition 4 0 0 (zU m M hi t s F) 6 [(0, .ref m)] [] (gQ kX12_inhibition (zQ m M hi t (zI6 T t F (zEx T t 62 s)))) := by
  obtain ⟨a, w⟩ := s
  have ha : a ≤ t := hs
  cases w with
  | true =>
    refine gJ_aload_n dX12_inhibition_6 rfl rfl ?_
    refine gJ_get fX12_46 dX12_inhibition_7 (by first | with_reducible assumption | exact zU_o | exact zU_F) rfl ?_
    refine gJ_if_neB (tgt := 19) dX12_inhibition_10 (by decide) (fun _ => ?_) (fun c_ => by exfalso; cases c_)
    refine gJ_aload_n dX12_inhibition_19 rfl rfl ?_
    refine gJ_get fX12_46 dX12_inhibition_20 (by first | with_reducible assumption | exact zU_o | exact zU_F) rfl ?_
    refine gJ_if_neB (tgt := 33) dX12_inhibition_23 (by decide) (fun _ => ?_) (fun c_ => by exfalso; cases c_)
    refine gJ_aload_n dX12_inhibition_33 rfl rfl ?_
    refine gJ_get fX12_46 dX12_inhibition_34 (by first | with_reducible assumption | exact zU_o | exact zU_F) rfl ?_
    refine gJ_if_neB (tgt := 46) dX12_inhibition_37 (by decide) (fun _ => ?_) (fun c_ => by exfalso; cases c_)
    refine gJ_aload_n dX12_inhibition_46 rfl rfl ?_
    refine gJ_get fX12_46 dX12_inhibition_47 (by first | with_reducible assumption | exact zU_o | exact zU_F) rfl ?_
    refine gJ_if_neB (tgt := 154) dX12_inhibition_50 (by decide) (fun _ => ?_) (fun c_ => by exfalso; cases c_)
    refine gJ_vret dX12_inhibition_154 rfl ?_
    exact zQ_w (by rw [zEx_w (by decide), zI6_w])
  | false =>
    refine gJ_aload_n dX12_inhibition_6 rfl rfl ?_
    refine gJ_get fX12_46 dX12_inhibition_7 (by first | with_reducible assumption | exact zU_o | exact zU_F) rfl ?_
    refine gJ_if_neB (tgt := 19) dX12_inhibition_10 (by decide) (fun c_ => by exfalso; cases c_) (fun _ => ?_)
    refine gJ_aload_n dX12_inhibition_13 rfl rfl ?_
    refine gJ_bipush (v := 62) dX12_inhibition_14 (by decide) ?_
    refine gJ_callV (As := [_]) b_X12_sign lX12_66 i_X12_sign s_X12_sign dX12_inhibition_16 (c12_sign ht (zU_n hT (by omega) (by omega)) a (by omega) zU_o 62) zU_o rfl rfl (Nat.le_of_ble_eq_true rfl) rfl (by decide) (fun M16 v_ h16 => ?_)
    obtain ⟨e_, rfl⟩ := h16
    replace e_ := e_.symm
    rw [zU_o2 (s2 := zEx T t 62 (a, false))] at e_
    subst e_
    exact gJ_ls (z12_inhibition_19 ht hB hT F _ (zEx_le (by decide) hs)) ⟨rfl, trivial⟩
set_option maxRecDepth 20000 in
theorem c12_inhibition (ht : t ≤ 60) (hB : zB T) (hT : M.1 (m + 7) = some (gI 60 T)) (F : Nat → Int32) (a : Nat) (ha : a ≤ t) : gCon G kX12_inhibition 4 0 0 (zU m M hi t (a, false) F) [.ref m] (zQ m M hi t (zIn T t F (a, false))) := by
  refine gCon_of (by decide) (Nat.le_of_ble_eq_true rfl) ?_
  have hC := c12_matchers (G := G) (M := M) (m := m) (hi := hi) (F := F) ht hB hT a ha true 1 (by decide)
  show gJ _ _ _ _ _ _ 0 [(0, _)] [] _
  refine gJ_aload_n dX12_inhibition_0 rfl rfl ?_
  refine gJ_iconst (v := 1) dX12_inhibition_1 (by decide) ?_
  refine gJ_iconst (v := 1) dX12_inhibition_2 (by decide) ?_
  refine gJ_callV (As := [_, _]) b_X12_matchers lX12_62 i_X12_matchers s_X12_matchers dX12_inhibition_3 (hC) zU_o rfl rfl (Nat.le_of_ble_eq_true rfl) rfl (by decide) (fun M3 v_ h3 => ?_)
  obtain ⟨e_, rfl⟩ := h3
  replace e_ := e_.symm
  subst e_
  exact gJ_ls (z12_inhibition_6 ht hB hT _ _ (zMs_ok ha).1.1) ⟨rfl, trivial⟩
end MODEL
