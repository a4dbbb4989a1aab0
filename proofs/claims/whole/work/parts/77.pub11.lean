section CLS
variable {G : gG} {M : gM} {b t : Nat} {V IV : Nat → Int32} {S IS : Nat → Int64} {hi : Bool} {U : Nat → Int32}
set_option maxHeartbeats 2000000 in
set_option maxRecDepth 20000 in
theorem c11_remove (h : cX M b V S IV IS hi U t) (hI : mI V) (w x : Int32) : gCon G kX11_remove 2 0 0 M [.ref b, .int w, .int x] (fun M2 v => gFr M M2 b 66 ∧ cX M2 b (aRem V w x).2 S IV IS hi U t ∧ v = some (.int (aRem V w x).1)) := by
  have h' := h
  obtain ⟨h0, -, -, ⟨T, D, hT, hR⟩, -⟩ := h
  have hR' := hR
  obtain ⟨hV, hs, hS, hA, hG, hL⟩ := hR
  have hS' := hS
  obtain ⟨X, RU, SI, IN, s0, s1, s2, s3, s4, s5, s6, s7, s8, sX, sR, sS, sN⟩ := hS
  have zero : gJ G kX11_remove 2 0 0 M 9 [(0, .ref b), (1, .int (nI 0)), (2, .int x)] [] (gQ kX11_remove (fun M2 v => gFr M M2 b 66 ∧ cX M2 b (if mOne V 0 x = true then mRem V 0 x.toNatClampNeg else V) S IV IS hi U t ∧ v = some (.int (if mOne V 0 x = true then nI (mMany (mRem V 0 x.toNatClampNeg) 0) else -1)))) := by
    have hE := c11_holdsEntry (G := G) 0 (by decide) (n := 5) (by omega) s4 x
    rw [show (mIn x 0 (nI (5 - 1)) && (RU x.toNatClampNeg).isSome) = mOne V 0 x from cSlots_one (kind := 0) (fun k hk => cOneR sR k hk) x] at hE
    refine gJ_aload_n dX11_remove_9 rfl rfl ?_
    refine gJ_get fX11_19 dX11_remove_10 (by first | with_reducible assumption | with_reducible exact gUp_s | with_reducible exact gUp_n (by with_reducible assumption) (by omega) | exact gUp_n (by assumption) (by omega) | exact gUp_s | assumption) rfl ?_
    refine gJ_get fX11_37 dX11_remove_13 (by first | with_reducible assumption | with_reducible exact gUp_s | with_reducible exact gUp_n (by with_reducible assumption) (by omega) | exact gUp_n (by assumption) (by omega) | exact gUp_s | assumption) rfl ?_
    refine gJ_iload_n dX11_remove_16 rfl rfl ?_
    refine gJ_callV (As := [_]) b_X7_slots lX11_75 i_X7_slots s_X7_slots dX11_remove_17 (c7_slots s0 0 (by decide)) (by first | with_reducible assumption | with_reducible exact gUp_s | with_reducible exact gUp_n (by with_reducible assumption) (by omega) | exact gUp_n (by assumption) (by omega) | exact gUp_s | assumption) rfl rfl (Nat.le_of_ble_eq_true rfl) rfl (by decide) (fun M17 v_ h17 => ?_)
    obtain ⟨e_, rfl⟩ := h17
    replace e_ := e_.symm
    subst e_
    refine gJ_astore_n (lv2 := [(3, _), (0, _), (1, _), (2, _)]) dX11_remove_20 rfl rfl rfl ?_
    refine gJ_aload_n dX11_remove_21 rfl rfl ?_
    refine gJ_iload_n dX11_remove_22 rfl rfl ?_
    refine gJ_callS (As := [_, _]) b_X11_holdsEntry lX11_120 i_X11_holdsEntry dX11_remove_23 (hE) rfl (Nat.le_of_ble_eq_true rfl) rfl (by decide) (fun M23 v_ h23 => ?_)
    obtain ⟨e_, rfl⟩ := h23
    replace e_ := e_.symm
    subst e_
    refine gJ_if_neB (tgt := 31) dX11_remove_26 (by decide) (fun c26 => ?_) (fun c26 => ?_)
    · rw [if_pos c26, if_pos c26]
      have hr0 : mIn x 0 (nI 4) = true := (by cases hz : mIn x 0 (nI 4) with | true => rfl | false => rw [mOne, show mIn x 0 (nI (mMst 0 - 1)) = false from hz] at c26; cases c26)
      obtain ⟨j, hj1, -, hj2, hj3⟩ := mIn_nat (lo := 0) (hi := 4) hr0 (by decide)
      subst hj2
      rw [hj3]
      have e0 : mFst 0 + mWid 0 * j = 60 + 10 * j := rfl
      have hW : ∀ i, (i < 206 ∨ 1586 ≤ i) → i ≠ 60 + 10 * j → mRem V 0 j i = V i := (fun i h1 h2 => mRem_o (by omega) (by omega) (fun _ => by omega))
      have hPn := c7_putNone (G := G) hS' (by omega) hI (mRem_I hI (by decide) (show j < 5 by omega)) j (by omega) (fun i hi => hW i (by omega) (by omega)) (mRem_at (kind := 0) (by decide) (show j < 5 by omega))
      refine gJ_iload_n dX11_remove_31 rfl rfl ?_
      refine gJ_if_neN (tgt := 61) (a := 0) (by first | with_reducible rfl | rfl) (by omega) dX11_remove_32 (by decide) (fun c_ => by exfalso; omega) (fun _ => ?_)
      refine gJ_aload_n dX11_remove_35 rfl rfl ?_
      refine gJ_get fX11_19 dX11_remove_36 (by first | with_reducible assumption | with_reducible exact gUp_s | with_reducible exact gUp_n (by with_reducible assumption) (by omega) | exact gUp_n (by assumption) (by omega) | exact gUp_s | assumption) rfl ?_
      refine gJ_get fX11_37 dX11_remove_39 (by first | with_reducible assumption | with_reducible exact gUp_s | with_reducible exact gUp_n (by with_reducible assumption) (by omega) | exact gUp_n (by assumption) (by omega) | exact gUp_s | assumption) rfl ?_
      refine gJ_iload_n dX11_remove_42 rfl rfl ?_
      refine gJ_null dX11_remove_43 ?_
      refine gJ_callV (As := [_, _]) b_X7_putRule lX11_90 i_X7_putRule s_X7_putRule dX11_remove_44 (hPn) (by first | with_reducible assumption | with_reducible exact gUp_s | with_reducible exact gUp_n (by with_reducible assumption) (by omega) | exact gUp_n (by assumption) (by omega) | exact gUp_s | assumption) rfl rfl (Nat.le_of_ble_eq_true rfl) rfl (by decide) (fun M44 v_ h44 => ?_)
      obtain ⟨hf44, hS44, rfl⟩ := h44
      have h044 := gFr_g hf44 h0 (by omega)
      have hs44 := gFr_g hf44 hs (by omega)
      have hA44 := cRA_fr hA hf44 (by omega)
      obtain ⟨oa, hoa⟩ : ∃ o, M44.1 (b + 3 + 10) = some (gO 0 o) := (by obtain ⟨_, _, _, q0, -⟩ := hA44; exact ⟨_, q0⟩)
      refine gJ_aload_n dX11_remove_47 rfl rfl ?_
      refine gJ_get fX11_19 dX11_remove_48 (by first | with_reducible assumption | with_reducible exact gUp_s | with_reducible exact gUp_n (by with_reducible assumption) (by omega) | exact gUp_n (by assumption) (by omega) | exact gUp_s | assumption) rfl ?_
      refine gJ_get fX11_124 dX11_remove_51 (by first | with_reducible assumption | with_reducible exact gUp_s | with_reducible exact gUp_n (by with_reducible assumption) (by omega) | exact gUp_n (by assumption) (by omega) | exact gUp_s | assumption) rfl ?_
      refine gJ_iload_n dX11_remove_54 rfl rfl ?_
      refine gJ_callV (As := [_]) b_X0_forgetRule lX11_128 i_X0_forgetRule s_X0_forgetRule dX11_remove_55 (c0_forgetRule hA44 j (by omega)) hoa rfl rfl (Nat.le_of_ble_eq_true rfl) rfl (by decide) (fun M55 v_ h55 => ?_)
      obtain ⟨hf55, hA55, rfl⟩ := h55
      have hS55 := cRS_fr hS44 hf55 (by omega) (by omega)
      have hff : gFr M M55 (b + 3) 21 := gFr_t (gFr_w hf44 (by omega) (by omega)) (gFr_w hf55 (by omega) (by omega))
      have hX : cX M55 b (mRem V 0 j) S IV IS hi U t := cX_now h' hff ⟨T, D, hT, by rw [hW _ (by omega) (by omega)]; exact hV, by rw [hW _ (by omega) (by omega)]; exact gFr_g hf55 hs44 (by omega), hS55, hA55, cRG_V (cRG_fr (cRG_fr hG hf44 (by omega)) hf55 (by omega)) (fun i h1 h2 => hW i (by omega) (by omega)), cRL_V (cRL_fr (cRL_fr hL hf44 (by omega)) hf55 (by omega)) (fun i h1 h2 => hW i (by omega) (by omega))⟩
      obtain ⟨X5, RU5, SI5, IN5, -, -, -, -, t4, -, -, -, -, -, tR, -⟩ := hS55
      have hCnt := c11_countEntries (G := G) 0 (by decide) (n := 5) (by omega) t4
      rw [show (List.range 5).countP (fun k => (RU5 k).isSome) = mMany (mRem V 0 j) 0 from cSlots_many (kind := 0) (fun k hk => cOneR tR k hk)] at hCnt
      refine gJ_goto (tgt := 65) dX11_remove_58 (by decide) ?_
      refine gJ_aload_n dX11_remove_65 rfl rfl ?_
      refine gJ_callS (As := [_]) b_X11_countEntries lX11_133 i_X11_countEntries dX11_remove_66 (hCnt) rfl (Nat.le_of_ble_eq_true rfl) rfl (by decide) (fun M66 v_ h66 => ?_)
      obtain ⟨e_, rfl⟩ := h66
      replace e_ := e_.symm
      subst e_
      refine gJ_iret dX11_remove_69 rfl ?_
      exact ⟨gFr_w hff (by omega) (by omega), hX, rfl⟩
    · refine gJ_iconst (v := -1) dX11_remove_29 (by decide) ?_
      refine gJ_iret dX11_remove_30 rfl ?_
      rw [if_neg (by rw [c26]; exact Bool.false_ne_true), if_neg (by rw [c26]; exact Bool.false_ne_true)]
      exact ⟨gFr_r, h', rfl⟩
  have one : gJ G kX11_remove 2 0 0 M 9 [(0, .ref b), (1, .int (nI 1)), (2, .int x)] [] (gQ kX11_remove (fun M2 v => gFr M M2 b 66 ∧ cX M2 b (if mOne V 1 x = true then mRem V 1 x.toNatClampNeg else V) S IV IS hi U t ∧ v = some (.int (if mOne V 1 x = true then nI (mMany (mRem V 1 x.toNatClampNeg) 1) else -1)))) := by
    have hE := c11_holdsEntry (G := G) 1 (by decide) (n := 6) (by omega) s5 x
    rw [show (mIn x 0 (nI (6 - 1)) && (SI x.toNatClampNeg).isSome) = mOne V 1 x from cSlots_one (kind := 1) (fun k hk => cOneS sS k hk) x] at hE
    refine gJ_aload_n dX11_remove_9 rfl rfl ?_
    refine gJ_get fX11_19 dX11_remove_10 (by first | with_reducible assumption | with_reducible exact gUp_s | with_reducible exact gUp_n (by with_reducible assumption) (by omega) | exact gUp_n (by assumption) (by omega) | exact gUp_s | assumption) rfl ?_
    refine gJ_get fX11_37 dX11_remove_13 (by first | with_reducible assumption | with_reducible exact gUp_s | with_reducible exact gUp_n (by with_reducible assumption) (by omega) | exact gUp_n (by assumption) (by omega) | exact gUp_s | assumption) rfl ?_
    refine gJ_iload_n dX11_remove_16 rfl rfl ?_
    refine gJ_callV (As := [_]) b_X7_slots lX11_75 i_X7_slots s_X7_slots dX11_remove_17 (c7_slots s0 1 (by decide)) (by first | with_reducible assumption | with_reducible exact gUp_s | with_reducible exact gUp_n (by with_reducible assumption) (by omega) | exact gUp_n (by assumption) (by omega) | exact gUp_s | assumption) rfl rfl (Nat.le_of_ble_eq_true rfl) rfl (by decide) (fun M17 v_ h17 => ?_)
    obtain ⟨e_, rfl⟩ := h17
    replace e_ := e_.symm
    subst e_
    refine gJ_astore_n (lv2 := [(3, _), (0, _), (1, _), (2, _)]) dX11_remove_20 rfl rfl rfl ?_
    refine gJ_aload_n dX11_remove_21 rfl rfl ?_
    refine gJ_iload_n dX11_remove_22 rfl rfl ?_
    refine gJ_callS (As := [_, _]) b_X11_holdsEntry lX11_120 i_X11_holdsEntry dX11_remove_23 (hE) rfl (Nat.le_of_ble_eq_true rfl) rfl (by decide) (fun M23 v_ h23 => ?_)
    obtain ⟨e_, rfl⟩ := h23
    replace e_ := e_.symm
    subst e_
    refine gJ_if_neB (tgt := 31) dX11_remove_26 (by decide) (fun c26 => ?_) (fun c26 => ?_)
    · rw [if_pos c26, if_pos c26]
      have hr0 : mIn x 0 (nI 5) = true := (by cases hz : mIn x 0 (nI 5) with | true => rfl | false => rw [mOne, show mIn x 0 (nI (mMst 1 - 1)) = false from hz] at c26; cases c26)
      obtain ⟨j, hj1, -, hj2, hj3⟩ := mIn_nat (lo := 0) (hi := 5) hr0 (by decide)
      subst hj2
      rw [hj3]
      have e0 : mFst 1 + mWid 1 * j = 110 + 8 * j := rfl
      have hW : ∀ i, i ≠ 110 + 8 * j → mRem V 1 j i = V i := (fun i h2 => mRem_o (by omega) (by omega) (fun h => absurd h (by decide)))
      have hz : mRem V 1 j (110 + 8 * j) = 0 := mRem_at (kind := 1) (by decide) (show j < 6 by omega)
      refine gJ_iload_n dX11_remove_31 rfl rfl ?_
      refine gJ_if_neN (tgt := 61) (a := 1) (by first | with_reducible rfl | rfl) (by omega) dX11_remove_32 (by decide) (fun _ => ?_) (fun c_ => by exfalso; omega)
      refine gJ_aload_n dX11_remove_61 rfl rfl ?_
      refine gJ_iload_n dX11_remove_62 rfl rfl ?_
      refine gJ_null dX11_remove_63 ?_
      refine gJ_aastNN (j := j) dX11_remove_64 s5 rfl (by first | with_reducible rfl | rfl) (by omega) (by decide) ?_
      try rw [gUp_up]
      have hfU : gFr M (gUp M (b + 3 + 1 + 5) (gR 4 6 (va_up SI j none))) (b + 3 + 1) 9 := gFr_u gFr_r (by omega)
      have hSU : cRS (gUp M (b + 3 + 1 + 5) (gR 4 6 (va_up SI j none))) (b + 75) (b + 3 + 1) (mRem V 1 j) := cRS_putS s0 s1 s2 s3 s4 s6 s7 s8 sX sR sS sN hI (by omega) j (by omega) none (fun i hi => hW i (by omega)) (Or.inl ⟨hz, rfl⟩)
      have hX := cX_setup h' hfU hSU (fun i h1 h2 => hW i (by omega))
      obtain ⟨X5, RU5, SI5, IN5, -, -, -, -, -, t5, -, -, -, -, -, tS, -⟩ := hSU
      have hCnt := c11_countEntries (G := G) 1 (by decide) (n := 6) (by omega) t5
      rw [show (List.range 6).countP (fun k => (SI5 k).isSome) = mMany (mRem V 1 j) 1 from cSlots_many (kind := 1) (fun k hk => cOneS tS k hk)] at hCnt
      refine gJ_aload_n dX11_remove_65 rfl rfl ?_
      refine gJ_callS (As := [_]) b_X11_countEntries lX11_133 i_X11_countEntries dX11_remove_66 (hCnt) rfl (Nat.le_of_ble_eq_true rfl) rfl (by decide) (fun M66 v_ h66 => ?_)
      obtain ⟨e_, rfl⟩ := h66
      replace e_ := e_.symm
      subst e_
      refine gJ_iret dX11_remove_69 rfl ?_
      exact ⟨gFr_w hfU (by omega) (by omega), hX, rfl⟩
    · refine gJ_iconst (v := -1) dX11_remove_29 (by decide) ?_
      refine gJ_iret dX11_remove_30 rfl ?_
      rw [if_neg (by rw [c26]; exact Bool.false_ne_true), if_neg (by rw [c26]; exact Bool.false_ne_true)]
      exact ⟨gFr_r, h', rfl⟩
  have two : gJ G kX11_remove 2 0 0 M 9 [(0, .ref b), (1, .int (nI 2)), (2, .int x)] [] (gQ kX11_remove (fun M2 v => gFr M M2 b 66 ∧ cX M2 b (if mOne V 2 x = true then mRem V 2 x.toNatClampNeg else V) S IV IS hi U t ∧ v = some (.int (if mOne V 2 x = true then nI (mMany (mRem V 2 x.toNatClampNeg) 2) else -1)))) := by
    have hE := c11_holdsEntry (G := G) 2 (by decide) (n := 4) (by omega) s6 x
    rw [show (mIn x 0 (nI (4 - 1)) && (IN x.toNatClampNeg).isSome) = mOne V 2 x from cSlots_one (kind := 2) (fun k hk => cOneI sN k hk) x] at hE
    refine gJ_aload_n dX11_remove_9 rfl rfl ?_
    refine gJ_get fX11_19 dX11_remove_10 (by first | with_reducible assumption | with_reducible exact gUp_s | with_reducible exact gUp_n (by with_reducible assumption) (by omega) | exact gUp_n (by assumption) (by omega) | exact gUp_s | assumption) rfl ?_
    refine gJ_get fX11_37 dX11_remove_13 (by first | with_reducible assumption | with_reducible exact gUp_s | with_reducible exact gUp_n (by with_reducible assumption) (by omega) | exact gUp_n (by assumption) (by omega) | exact gUp_s | assumption) rfl ?_
    refine gJ_iload_n dX11_remove_16 rfl rfl ?_
    refine gJ_callV (As := [_]) b_X7_slots lX11_75 i_X7_slots s_X7_slots dX11_remove_17 (c7_slots s0 2 (by decide)) (by first | with_reducible assumption | with_reducible exact gUp_s | with_reducible exact gUp_n (by with_reducible assumption) (by omega) | exact gUp_n (by assumption) (by omega) | exact gUp_s | assumption) rfl rfl (Nat.le_of_ble_eq_true rfl) rfl (by decide) (fun M17 v_ h17 => ?_)
    obtain ⟨e_, rfl⟩ := h17
    replace e_ := e_.symm
    subst e_
    refine gJ_astore_n (lv2 := [(3, _), (0, _), (1, _), (2, _)]) dX11_remove_20 rfl rfl rfl ?_
    refine gJ_aload_n dX11_remove_21 rfl rfl ?_
    refine gJ_iload_n dX11_remove_22 rfl rfl ?_
    refine gJ_callS (As := [_, _]) b_X11_holdsEntry lX11_120 i_X11_holdsEntry dX11_remove_23 (hE) rfl (Nat.le_of_ble_eq_true rfl) rfl (by decide) (fun M23 v_ h23 => ?_)
    obtain ⟨e_, rfl⟩ := h23
    replace e_ := e_.symm
    subst e_
    refine gJ_if_neB (tgt := 31) dX11_remove_26 (by decide) (fun c26 => ?_) (fun c26 => ?_)
    · rw [if_pos c26, if_pos c26]
      have hr0 : mIn x 0 (nI 3) = true := (by cases hz : mIn x 0 (nI 3) with | true => rfl | false => rw [mOne, show mIn x 0 (nI (mMst 2 - 1)) = false from hz] at c26; cases c26)
      obtain ⟨j, hj1, -, hj2, hj3⟩ := mIn_nat (lo := 0) (hi := 3) hr0 (by decide)
      subst hj2
      rw [hj3]
      have e0 : mFst 2 + mWid 2 * j = 158 + 12 * j := rfl
      have hW : ∀ i, i ≠ 158 + 12 * j → mRem V 2 j i = V i := (fun i h2 => mRem_o (by omega) (by omega) (fun h => absurd h (by decide)))
      have hz : mRem V 2 j (158 + 12 * j) = 0 := mRem_at (kind := 2) (by decide) (show j < 4 by omega)
      refine gJ_iload_n dX11_remove_31 rfl rfl ?_
      refine gJ_if_neN (tgt := 61) (a := 2) (by first | with_reducible rfl | rfl) (by omega) dX11_remove_32 (by decide) (fun _ => ?_) (fun c_ => by exfalso; omega)
      refine gJ_aload_n dX11_remove_61 rfl rfl ?_
      refine gJ_iload_n dX11_remove_62 rfl rfl ?_
      refine gJ_null dX11_remove_63 ?_
      refine gJ_aastNN (j := j) dX11_remove_64 s6 rfl (by first | with_reducible rfl | rfl) (by omega) (by decide) ?_
      try rw [gUp_up]
      have hfU : gFr M (gUp M (b + 3 + 1 + 6) (gR 5 4 (va_up IN j none))) (b + 3 + 1) 9 := gFr_u gFr_r (by omega)
      have hSU : cRS (gUp M (b + 3 + 1 + 6) (gR 5 4 (va_up IN j none))) (b + 75) (b + 3 + 1) (mRem V 2 j) := cRS_putI s0 s1 s2 s3 s4 s5 s7 s8 sX sR sS sN hI (by omega) j (by omega) none (fun i hi => hW i (by omega)) (Or.inl ⟨hz, rfl⟩)
      have hX := cX_setup h' hfU hSU (fun i h1 h2 => hW i (by omega))
      obtain ⟨X5, RU5, SI5, IN5, -, -, -, -, -, -, t6, -, -, -, -, -, tN⟩ := hSU
      have hCnt := c11_countEntries (G := G) 2 (by decide) (n := 4) (by omega) t6
      rw [show (List.range 4).countP (fun k => (IN5 k).isSome) = mMany (mRem V 2 j) 2 from cSlots_many (kind := 2) (fun k hk => cOneI tN k hk)] at hCnt
      refine gJ_aload_n dX11_remove_65 rfl rfl ?_
      refine gJ_callS (As := [_]) b_X11_countEntries lX11_133 i_X11_countEntries dX11_remove_66 (hCnt) rfl (Nat.le_of_ble_eq_true rfl) rfl (by decide) (fun M66 v_ h66 => ?_)
      obtain ⟨e_, rfl⟩ := h66
      replace e_ := e_.symm
      subst e_
      refine gJ_iret dX11_remove_69 rfl ?_
      exact ⟨gFr_w hfU (by omega) (by omega), hX, rfl⟩
    · refine gJ_iconst (v := -1) dX11_remove_29 (by decide) ?_
      refine gJ_iret dX11_remove_30 rfl ?_
      rw [if_neg (by rw [c26]; exact Bool.false_ne_true), if_neg (by rw [c26]; exact Bool.false_ne_true)]
      exact ⟨gFr_r, h', rfl⟩
  refine gCon_of (by decide) (Nat.le_of_ble_eq_true rfl) ?_
  show gJ _ _ _ _ _ _ 0 [(0, _), (1, _), (2, _)] [] _
  refine gJ_iload_n dX11_remove_0 rfl rfl ?_
  refine gJ_callS (As := [_]) b_X11_isKind lX11_72 i_X11_isKind dX11_remove_1 (c11_isKind w) rfl (Nat.le_of_ble_eq_true rfl) rfl (by decide) (fun M1 v_ h1 => ?_)
  obtain ⟨e_, rfl⟩ := h1
  replace e_ := e_.symm
  subst e_
  refine gJ_if_neB (tgt := 9) dX11_remove_4 (by decide) (fun c4 => ?_) (fun c4 => ?_)
  · obtain ⟨z, hz1, hz0, rfl, hz3⟩ := mIn_nat (lo := 0) (hi := 2) c4 (by decide)
    have hA : aRem V (nI z) x = (if mOne V z x = true then nI (mMany (mRem V z x.toNatClampNeg) z) else -1, if mOne V z x = true then mRem V z x.toNatClampNeg else V) := by rw [aRem, c4, Bool.true_and, hz3]; by_cases hm : mOne V z x = true; rw [if_pos hm, if_pos hm, if_pos hm]; rw [if_neg hm, if_neg hm, if_neg hm]
    rw [hA]
    rcases (show z = 0 ∨ z = 1 ∨ z = 2 by omega) with rfl | rfl | rfl
    · exact gJ_ls zero ⟨rfl, rfl, rfl, trivial⟩
    · exact gJ_ls one ⟨rfl, rfl, rfl, trivial⟩
    · exact gJ_ls two ⟨rfl, rfl, rfl, trivial⟩
  · refine gJ_iconst (v := -1) dX11_remove_7 (by decide) ?_
    refine gJ_iret dX11_remove_8 rfl ?_
    have hA : aRem V w x = (-1, V) := by rw [aRem, c4, Bool.false_and]; rfl
    rw [hA]
    exact ⟨gFr_r, h', rfl⟩
end CLS
