def aSent (V : Nat → Int32) (i w : Int32) : Int32 := if (mIn i 0 ((if V 1848 < 30 then V 1848 else 30) - 1) && mIn w 0 4) = true then V (1849 + 5 * i.toNatClampNeg + w.toNatClampNeg) else -1
def mOfK (V : Nat → Int32) (a w : Nat) : Bool := match w with
  | 0 => decide (V (206 + 23 * a) = 1)
  | 1 => decide (V (206 + 23 * a) = 2)
  | 2 => decide (V (206 + 23 * a) = 2) && !(decide (mSilOf V a < 0))
  | 3 => !(decide (mInhOf V a < 0))
  | 4 => decide (V (206 + 23 * a) = 2) && mFlapping V a
  | 5 => mAct V a
  | _ => mHolds V a
def aAlerts (V : Nat → Int32) (w : Int32) : Int64 := if mIn w 0 6 = true then lS (fun a => mOfK V a w.toNatClampNeg) 60 else -1
section MODEL
variable {G : gG} {M : gM} {m : Nat} {hi tn at_ fa : Int32} {V K IV : Nat → Int32} {S KS IS : Nat → Int64}
theorem c12_saved (hm : M.1 m = some (mO m hi tn at_ fa)) (hV : M.1 (m + 1) = some (gI 1999 V)) (hS : M.1 (m + 4) = some (gL 128 S)) (hK : M.1 (m + 3) = some (gI 1999 K)) (hKS : M.1 (m + 6) = some (gL 128 KS)) (hI : mI V) (k x : Int32) : gCon G kX12_saved 7 0 0 M [.ref m, .int k, .int x] (fun M2 v => (M2 = M ∨ ∃ W, M2 = mKp m M W S) ∧ v = some (.int (aSaved (V, S) k x))) := by
  refine gCon_of (by decide) (Nat.le_of_ble_eq_true rfl) ?_
  show gJ _ _ _ _ _ _ 0 [(0, _), (1, _), (2, _)] [] _
  refine gJ_aload_n dX12_saved_0 rfl rfl ?_
  refine gJ_iconst (v := 1) dX12_saved_1 (by decide) ?_
  refine gJ_iload_n dX12_saved_2 rfl rfl ?_
  refine gJ_callV (As := [_, _]) b_X12_isOne lX12_82 i_X12_isOne s_X12_isOne dX12_saved_3 (c12_isOne hm hV 1 (by decide) k) (by first | with_reducible assumption | with_reducible exact gUp_s | with_reducible exact gUp_n (by with_reducible assumption) (by omega) | exact gUp_n (by assumption) (by omega) | assumption) rfl rfl (Nat.le_of_ble_eq_true rfl) rfl (by decide) (fun M3 v_ h3 => ?_)
  obtain ⟨e3, rfl⟩ := h3
  replace e3 := e3.symm
  subst e3
  refine gJ_if_neB (tgt := 11) dX12_saved_6 (by decide) (fun c6 => ?_) (fun c6 => ?_)
  · refine gJ_iload_n dX12_saved_11 rfl rfl ?_
    refine gJ_iconst (v := 1) dX12_saved_12 (by decide) ?_
    refine gJ_bipush (v := 100) dX12_saved_13 (by decide) ?_
    refine gJ_callS (As := [_, _, _]) b_X12_isIn lX12_35 i_X12_isIn dX12_saved_15 (c12_isIn _ _ _) rfl (Nat.le_of_ble_eq_true rfl) rfl (by decide) (fun M15 v_ h15 => ?_)
    obtain ⟨e15, rfl⟩ := h15
    replace e15 := e15.symm
    subst e15
    refine gJ_if_neB (tgt := 24) dX12_saved_18 (by decide) (fun c18 => ?_) (fun c18 => ?_)
    · obtain ⟨n, hn1, hn0, hn2, hn3⟩ := mIn_nat (lo := 1) (hi := 100) c18 (by decide)
      subst hn2
      have c6' := c6
      rw [mOne, mIn, Bool.and_eq_true] at c6'
      obtain ⟨c6a, c6b⟩ := c6'
      obtain ⟨k', hk1, hk0, hk2, hk3⟩ := mIn_nat (lo := 0) (hi := mMst 1 - 1) c6a (by decide)
      subst hk2
      rw [hk3, mOneN, decide_eq_true_eq] at c6b
      have hk5 : k' < 6 := by have : mMst 1 - 1 = 5 := rfl; omega
      have c6b' : V (110 + 8 * k') = 1 := c6b
      refine gJ_aload_n dX12_saved_24 rfl rfl ?_
      refine gJ_iload_n dX12_saved_25 rfl rfl ?_
      refine gJ_iconst (v := 0) dX12_saved_26 (by decide) ?_
      refine gJ_callV (As := [_, _]) b_X12_looks lX12_176 i_X12_looks s_X12_looks dX12_saved_27 (c12_looks0 hm hV hS hK hKS hI n hn1) (by first | with_reducible assumption | with_reducible exact gUp_s | with_reducible exact gUp_n (by with_reducible assumption) (by omega) | exact gUp_n (by assumption) (by omega) | assumption) rfl rfl (Nat.le_of_ble_eq_true rfl) rfl (by decide) (fun M27 v_ h27 => ?_)
      obtain ⟨e27, rfl⟩ := h27
      replace e27 := e27.symm
      subst e27
      refine gJ_istore_n (lv2 := [(3, _), (0, _), (1, _), (2, _)]) dX12_saved_30 rfl rfl rfl ?_
      refine gJ_aload_n dX12_saved_31 rfl rfl ?_
      refine gJ_get fX12_9 dX12_saved_32 (mKp_V hm (by omega) (by omega)) rfl ?_
      refine gJ_bipush (v := 110) dX12_saved_35 (by decide) ?_
      refine gJ_bipush (v := 8) dX12_saved_37 (by decide) ?_
      refine gJ_iload_n dX12_saved_39 rfl rfl ?_
      refine gJ_imulN (a := 8) (b := k') dX12_saved_40 (by first | with_reducible rfl | rfl) (by first | with_reducible rfl | rfl) ?_
      refine gJ_iaddN (a := 110) (b := (8 * k')) dX12_saved_41 (by first | with_reducible rfl | rfl) (by first | with_reducible rfl | rfl) ?_
      refine gJ_iconst (v := 0) dX12_saved_42 (by decide) ?_
      refine gJ_iastN (j := (110 + (8 * k'))) dX12_saved_43 (mKp_V hV (by omega) (by omega)) (by first | with_reducible rfl | rfl) (by omega) (by decide) ?_
      try rw [gUp_up]
      refine gJ_aload_n dX12_saved_44 rfl rfl ?_
      refine gJ_iload_n dX12_saved_45 rfl rfl ?_
      refine gJ_iconst (v := 0) dX12_saved_46 (by decide) ?_
      refine gJ_callV (As := [_, _]) b_X12_looks lX12_176 i_X12_looks s_X12_looks dX12_saved_47 (c12_looks0 (gUp_n (mKp_V hm (by omega) (by omega)) (by omega)) gUp_s (gUp_n (mKp_V hS (by omega) (by omega)) (by omega)) (gUp_n (gUp_n gUp_s (by omega)) (by omega)) (gUp_n gUp_s (by omega)) (mI_sil hI hk5) n hn1) (gUp_n (mKp_V hm (by omega) (by omega)) (by omega)) rfl rfl (Nat.le_of_ble_eq_true rfl) rfl (by decide) (fun M47 v_ h47 => ?_)
      obtain ⟨e47, rfl⟩ := h47
      replace e47 := e47.symm
      subst e47
      refine gJ_istore (lv2 := [(4, _), (3, _), (0, _), (1, _), (2, _)]) dX12_saved_50 rfl rfl ?_
      refine gJ_aload_n dX12_saved_52 rfl rfl ?_
      refine gJ_get fX12_9 dX12_saved_53 (mKp_V (gUp_n (mKp_V hm (by omega) (by omega)) (by omega)) (by omega) (by omega)) rfl ?_
      refine gJ_bipush (v := 110) dX12_saved_56 (by decide) ?_
      refine gJ_bipush (v := 8) dX12_saved_58 (by decide) ?_
      refine gJ_iload_n dX12_saved_60 rfl rfl ?_
      refine gJ_imulN (a := 8) (b := k') dX12_saved_61 (by first | with_reducible rfl | rfl) (by first | with_reducible rfl | rfl) ?_
      refine gJ_iaddN (a := 110) (b := (8 * k')) dX12_saved_62 (by first | with_reducible rfl | rfl) (by first | with_reducible rfl | rfl) ?_
      refine gJ_iconst (v := 1) dX12_saved_63 (by decide) ?_
      refine gJ_iastN (j := (110 + (8 * k'))) dX12_saved_64 (mKp_V gUp_s (by omega) (by omega)) (by first | with_reducible rfl | rfl) (by omega) (by decide) ?_
      try rw [gUp_up]
      refine gJ_iload dX12_saved_65 rfl ?_
      refine gJ_iload_n dX12_saved_67 rfl rfl ?_
      refine gJ_isub dX12_saved_68 ?_
      refine gJ_sipush (v := 1000) dX12_saved_69 (by decide) ?_
      refine gJ_iadd dX12_saved_72 ?_
      refine gJ_iret dX12_saved_73 rfl ?_
      have hA : aSaved (V, S) (nI k') (nI n) = mTot (upd V (110 + 8 * k') 0, S) n - mTot (V, S) n + 1000 := by simp only [aSaved, mIn, c6, c18, hk3, hn3, ↓reduceIte]
      rw [hA]
      refine ⟨Or.inr ⟨upd V (110 + 8 * k') 0, ?_⟩, rfl⟩
      rw [upd_upd, upd_id c6b']
      unfold mKp
      rw [gUp_cm (a := m + 6) (b := m + 1) (by omega), gUp_cm (a := m + 3) (b := m + 1) (by omega), gUp_up, gUp_cm (a := m + 6) (b := m + 1) (by omega), gUp_cm (a := m + 3) (b := m + 1) (by omega), gUp_id hV, gUp_cm (a := m + 6) (b := m + 3) (by omega), gUp_up, gUp_up]
    · refine gJ_bipush (v := -2) dX12_saved_21 (by decide) ?_
      refine gJ_iret dX12_saved_23 rfl ?_
      have hA : aSaved (V, S) k x = -2 := by simp only [aSaved, mIn, c6, c18, Bool.false_eq_true, ↓reduceIte]
      rw [hA]
      exact ⟨Or.inl rfl, rfl⟩
  · refine gJ_iconst (v := -1) dX12_saved_9 (by decide) ?_
    refine gJ_iret dX12_saved_10 rfl ?_
    have hA : aSaved (V, S) k x = -1 := by simp only [aSaved, c6, Bool.false_eq_true, ↓reduceIte]
    rw [hA]
    exact ⟨Or.inl rfl, rfl⟩
theorem c12_image (hm : M.1 m = some (mO m hi tn at_ fa)) (hV : M.1 (m + 1) = some (gI 1999 V)) (hS : M.1 (m + 4) = some (gL 128 S)) (hK : M.1 (m + 2) = some (gI 1999 IV)) (hKS : M.1 (m + 5) = some (gL 128 IS)) : gCon G kX12_image 1 0 0 M [.ref m] (fun M2 v => M2 = gUp (gUp (gUp M (m + 2) (gI 1999 V)) (m + 5) (gL 128 S)) m (mO m 1 tn at_ fa) ∧ v = some (.int (V 1847))) := by
  refine gCon_of (by decide) (Nat.le_of_ble_eq_true rfl) ?_
  show gJ _ _ _ _ _ _ 0 [(0, _)] [] _
  refine gJ_aload_n dX12_image_0 rfl rfl ?_
  refine gJ_get fX12_9 dX12_image_1 (by first | with_reducible assumption | with_reducible exact gUp_s | with_reducible exact gUp_n (by with_reducible assumption) (by omega) | exact gUp_n (by assumption) (by omega) | assumption) rfl ?_
  refine gJ_aload_n dX12_image_4 rfl rfl ?_
  refine gJ_get fX12_13 dX12_image_5 (by first | with_reducible assumption | with_reducible exact gUp_s | with_reducible exact gUp_n (by with_reducible assumption) (by omega) | exact gUp_n (by assumption) (by omega) | assumption) rfl ?_
  refine gJ_aload_n dX12_image_8 rfl rfl ?_
  refine gJ_get fX12_19 dX12_image_9 (by first | with_reducible assumption | with_reducible exact gUp_s | with_reducible exact gUp_n (by with_reducible assumption) (by omega) | exact gUp_n (by assumption) (by omega) | assumption) rfl ?_
  refine gJ_aload_n dX12_image_12 rfl rfl ?_
  refine gJ_get fX12_23 dX12_image_13 (by first | with_reducible assumption | with_reducible exact gUp_s | with_reducible exact gUp_n (by with_reducible assumption) (by omega) | exact gUp_n (by assumption) (by omega) | assumption) rfl ?_
  refine gJ_callS (As := [_, _, _, _]) b_X12_copies lX12_172 i_X12_copies dX12_image_16 (c12_copies (m + 1) (m + 2) (m + 4) (m + 5) V IV S IS hV hK hS hKS (by omega) (by omega) (by omega) (by omega)) rfl (Nat.le_of_ble_eq_true rfl) rfl (by decide) (fun M16 v_ h16 => ?_)
  obtain ⟨e16, rfl⟩ := h16
  replace e16 := e16.symm
  subst e16
  refine gJ_aload_n dX12_image_19 rfl rfl ?_
  refine gJ_iconst (v := 1) dX12_image_20 (by decide) ?_
  refine gJ_put fX12_180 dX12_image_21 (gUp_n (gUp_n hm (by omega)) (by omega)) rfl rfl (Nat.le_of_ble_eq_true rfl) ?_
  refine gJ_aload_n dX12_image_24 rfl rfl ?_
  refine gJ_get fX12_9 dX12_image_25 gUp_s rfl ?_
  refine gJ_sipush (v := 1847) dX12_image_28 (by decide) ?_
  refine gJ_ialdN (j := 1847) dX12_image_31 (gUp_n (gUp_n (gUp_n hV (by omega)) (by omega)) (by omega)) (by first | with_reducible rfl | rfl) (by omega) (by decide) ?_
  refine gJ_iret dX12_image_32 rfl ?_
  exact ⟨rfl, rfl⟩
theorem c12_undo (hm : M.1 m = some (mO m hi tn at_ fa)) (hV : M.1 (m + 1) = some (gI 1999 V)) (hS : M.1 (m + 4) = some (gL 128 S)) (hK : M.1 (m + 2) = some (gI 1999 IV)) (hKS : M.1 (m + 5) = some (gL 128 IS)) : gCon G kX12_undo 1 0 0 M [.ref m] (fun M2 v => M2 = (if hi = 0 then M else mUp m M IV IS) ∧ v = some (.int (if hi = 0 then -3 else IV 1847))) := by
  refine gCon_of (by decide) (Nat.le_of_ble_eq_true rfl) ?_
  show gJ _ _ _ _ _ _ 0 [(0, _)] [] _
  refine gJ_aload_n dX12_undo_0 rfl rfl ?_
  refine gJ_get fX12_180 dX12_undo_1 (by first | with_reducible assumption | with_reducible exact gUp_s | with_reducible exact gUp_n (by with_reducible assumption) (by omega) | exact gUp_n (by assumption) (by omega) | assumption) rfl ?_
  refine gJ_if_ne (tgt := 10) dX12_undo_4 (by decide) (fun c4 => ?_) (fun c4 => ?_)
  · refine gJ_aload_n dX12_undo_10 rfl rfl ?_
    refine gJ_get fX12_13 dX12_undo_11 (by first | with_reducible assumption | with_reducible exact gUp_s | with_reducible exact gUp_n (by with_reducible assumption) (by omega) | exact gUp_n (by assumption) (by omega) | assumption) rfl ?_
    refine gJ_aload_n dX12_undo_14 rfl rfl ?_
    refine gJ_get fX12_9 dX12_undo_15 (by first | with_reducible assumption | with_reducible exact gUp_s | with_reducible exact gUp_n (by with_reducible assumption) (by omega) | exact gUp_n (by assumption) (by omega) | assumption) rfl ?_
    refine gJ_aload_n dX12_undo_18 rfl rfl ?_
    refine gJ_get fX12_23 dX12_undo_19 (by first | with_reducible assumption | with_reducible exact gUp_s | with_reducible exact gUp_n (by with_reducible assumption) (by omega) | exact gUp_n (by assumption) (by omega) | assumption) rfl ?_
    refine gJ_aload_n dX12_undo_22 rfl rfl ?_
    refine gJ_get fX12_19 dX12_undo_23 (by first | with_reducible assumption | with_reducible exact gUp_s | with_reducible exact gUp_n (by with_reducible assumption) (by omega) | exact gUp_n (by assumption) (by omega) | assumption) rfl ?_
    refine gJ_callS (As := [_, _, _, _]) b_X12_copies lX12_172 i_X12_copies dX12_undo_26 (c12_copies (m + 2) (m + 1) (m + 5) (m + 4) IV V IS S hK hV hKS hS (by omega) (by omega) (by omega) (by omega)) rfl (Nat.le_of_ble_eq_true rfl) rfl (by decide) (fun M26 v_ h26 => ?_)
    obtain ⟨e26, rfl⟩ := h26
    replace e26 := e26.symm
    subst e26
    refine gJ_aload_n dX12_undo_29 rfl rfl ?_
    refine gJ_get fX12_9 dX12_undo_30 (gUp_n (gUp_n hm (by omega)) (by omega)) rfl ?_
    refine gJ_sipush (v := 1847) dX12_undo_33 (by decide) ?_
    refine gJ_ialdN (j := 1847) dX12_undo_36 (gUp_n gUp_s (by omega)) (by first | with_reducible rfl | rfl) (by omega) (by decide) ?_
    refine gJ_iret dX12_undo_37 rfl ?_
    rw [if_neg c4, if_neg c4]
    exact ⟨rfl, rfl⟩
  · refine gJ_bipush (v := -3) dX12_undo_7 (by decide) ?_
    refine gJ_iret dX12_undo_9 rfl ?_
    rw [if_pos c4, if_pos c4]
    exact ⟨rfl, rfl⟩
set_option maxRecDepth 20000 in
theorem c12_isOf (hm : M.1 m = some (mO m hi tn at_ fa)) (hV : M.1 (m + 1) = some (gI 1999 V)) (hI : mI V) (a w : Nat) (ha : a < 60) (hw : w ≤ 6) : gCon G kX12_isOf 4 0 0 M [.ref m, .int (nI a), .int (nI w)] (fun M2 v => M2 = M ∧ v = some (.int (gb (mOfK V a w)))) := by
  refine gCon_of (by decide) (Nat.le_of_ble_eq_true rfl) ?_
  show gJ _ _ _ _ _ _ 0 [(0, _), (1, _), (2, _)] [] _
  refine gJ_iload_n dX12_isOf_0 rfl rfl ?_
  rcases (show w = 0 ∨ w = 1 ∨ w = 2 ∨ w = 3 ∨ w = 4 ∨ w = 5 ∨ w = 6 by omega) with rfl | rfl | rfl | rfl | rfl | rfl | rfl
  · refine gJ_tableIn (off := 39) (tgt := 40) dX12_isOf_1 (by decide) (by decide) (by decide) (by decide) ?_
    refine gJ_aload_n dX12_isOf_40 rfl rfl ?_
    refine gJ_iload_n dX12_isOf_41 rfl rfl ?_
    refine gJ_callV (As := [_]) b_X12_state lX12_104 i_X12_state s_X12_state dX12_isOf_42 (c12_state hm hV a ha) (by first | with_reducible assumption | with_reducible exact gUp_s | with_reducible exact gUp_n (by with_reducible assumption) (by omega) | exact gUp_n (by assumption) (by omega) | assumption) rfl rfl (Nat.le_of_ble_eq_true rfl) rfl (by decide) (fun M42 v_ h42 => ?_)
    obtain ⟨e_, rfl⟩ := h42
    replace e_ := e_.symm
    subst e_
    refine gJ_iconst (v := 1) dX12_isOf_45 (by decide) ?_
    refine gJ_icmp_ne (tgt := 53) dX12_isOf_46 (by decide) (fun c46 => ?_) (fun c46 => ?_)
    · refine gJ_iconst (v := 0) dX12_isOf_53 (by decide) ?_
      refine gJ_zret dX12_isOf_54 rfl (by first | exact gz0 | exact gz1 | exact gb01 _) ?_
      refine ⟨rfl, ?_⟩
      simp [mOfK, c46, gb]
    · refine gJ_iconst (v := 1) dX12_isOf_49 (by decide) ?_
      refine gJ_goto (tgt := 54) dX12_isOf_50 (by decide) ?_
      refine gJ_zret dX12_isOf_54 rfl (by first | exact gz0 | exact gz1 | exact gb01 _) ?_
      refine ⟨rfl, ?_⟩
      simp [mOfK, c46, gb]
  · refine gJ_tableIn (off := 54) (tgt := 55) dX12_isOf_1 (by decide) (by decide) (by decide) (by decide) ?_
    refine gJ_aload_n dX12_isOf_55 rfl rfl ?_
    refine gJ_iload_n dX12_isOf_56 rfl rfl ?_
    refine gJ_callV (As := [_]) b_X12_state lX12_104 i_X12_state s_X12_state dX12_isOf_57 (c12_state hm hV a ha) (by first | with_reducible assumption | with_reducible exact gUp_s | with_reducible exact gUp_n (by with_reducible assumption) (by omega) | exact gUp_n (by assumption) (by omega) | assumption) rfl rfl (Nat.le_of_ble_eq_true rfl) rfl (by decide) (fun M57 v_ h57 => ?_)
    obtain ⟨e_, rfl⟩ := h57
    replace e_ := e_.symm
    subst e_
    refine gJ_iconst (v := 2) dX12_isOf_60 (by decide) ?_
    refine gJ_icmp_ne (tgt := 68) dX12_isOf_61 (by decide) (fun c61 => ?_) (fun c61 => ?_)
    · refine gJ_iconst (v := 0) dX12_isOf_68 (by decide) ?_
      refine gJ_zret dX12_isOf_69 rfl (by first | exact gz0 | exact gz1 | exact gb01 _) ?_
      refine ⟨rfl, ?_⟩
      simp [mOfK, c61, gb]
    · refine gJ_iconst (v := 1) dX12_isOf_64 (by decide) ?_
      refine gJ_goto (tgt := 69) dX12_isOf_65 (by decide) ?_
      refine gJ_zret dX12_isOf_69 rfl (by first | exact gz0 | exact gz1 | exact gb01 _) ?_
      refine ⟨rfl, ?_⟩
      simp [mOfK, c61, gb]
  · refine gJ_tableIn (off := 69) (tgt := 70) dX12_isOf_1 (by decide) (by decide) (by decide) (by decide) ?_
    refine gJ_aload_n dX12_isOf_70 rfl rfl ?_
    refine gJ_iload_n dX12_isOf_71 rfl rfl ?_
    refine gJ_callV (As := [_]) b_X12_state lX12_104 i_X12_state s_X12_state dX12_isOf_72 (c12_state hm hV a ha) (by first | with_reducible assumption | with_reducible exact gUp_s | with_reducible exact gUp_n (by with_reducible assumption) (by omega) | exact gUp_n (by assumption) (by omega) | assumption) rfl rfl (Nat.le_of_ble_eq_true rfl) rfl (by decide) (fun M72 v_ h72 => ?_)
    obtain ⟨e_, rfl⟩ := h72
    replace e_ := e_.symm
    subst e_
    refine gJ_iconst (v := 2) dX12_isOf_75 (by decide) ?_
    refine gJ_icmp_ne (tgt := 91) dX12_isOf_76 (by decide) (fun c76 => ?_) (fun c76 => ?_)
    · refine gJ_iconst (v := 0) dX12_isOf_91 (by decide) ?_
      refine gJ_zret dX12_isOf_92 rfl (by first | exact gz0 | exact gz1 | exact gb01 _) ?_
      refine ⟨rfl, ?_⟩
      simp [mOfK, *, gb]
    · refine gJ_aload_n dX12_isOf_79 rfl rfl ?_
      refine gJ_iload_n dX12_isOf_80 rfl rfl ?_
      refine gJ_callV (As := [_]) b_X12_silenceOf lX12_113 i_X12_silenceOf s_X12_silenceOf dX12_isOf_81 (c12_silenceOf hm hV hI a ha) (by first | with_reducible assumption | with_reducible exact gUp_s | with_reducible exact gUp_n (by with_reducible assumption) (by omega) | exact gUp_n (by assumption) (by omega) | assumption) rfl rfl (Nat.le_of_ble_eq_true rfl) rfl (by decide) (fun M81 v_ h81 => ?_)
      obtain ⟨e_, rfl⟩ := h81
      replace e_ := e_.symm
      subst e_
      refine gJ_if_lt (tgt := 91) dX12_isOf_84 (by decide) (fun c84 => ?_) (fun c84 => ?_)
      · refine gJ_iconst (v := 0) dX12_isOf_91 (by decide) ?_
        refine gJ_zret dX12_isOf_92 rfl (by first | exact gz0 | exact gz1 | exact gb01 _) ?_
        refine ⟨rfl, ?_⟩
        simp [mOfK, *, gb]
      · refine gJ_iconst (v := 1) dX12_isOf_87 (by decide) ?_
        refine gJ_goto (tgt := 92) dX12_isOf_88 (by decide) ?_
        refine gJ_zret dX12_isOf_92 rfl (by first | exact gz0 | exact gz1 | exact gb01 _) ?_
        refine ⟨rfl, ?_⟩
        simp [mOfK, *, gb]
  · refine gJ_tableIn (off := 92) (tgt := 93) dX12_isOf_1 (by decide) (by decide) (by decide) (by decide) ?_
    refine gJ_aload_n dX12_isOf_93 rfl rfl ?_
    refine gJ_iload_n dX12_isOf_94 rfl rfl ?_
    refine gJ_callV (As := [_]) b_X12_inhibitorOf lX12_120 i_X12_inhibitorOf s_X12_inhibitorOf dX12_isOf_95 (c12_inhibitorOf hm hV hI a ha) (by first | with_reducible assumption | with_reducible exact gUp_s | with_reducible exact gUp_n (by with_reducible assumption) (by omega) | exact gUp_n (by assumption) (by omega) | assumption) rfl rfl (Nat.le_of_ble_eq_true rfl) rfl (by decide) (fun M95 v_ h95 => ?_)
    obtain ⟨e_, rfl⟩ := h95
    replace e_ := e_.symm
    subst e_
    refine gJ_if_lt (tgt := 105) dX12_isOf_98 (by decide) (fun c98 => ?_) (fun c98 => ?_)
    · refine gJ_iconst (v := 0) dX12_isOf_105 (by decide) ?_
      refine gJ_zret dX12_isOf_106 rfl (by first | exact gz0 | exact gz1 | exact gb01 _) ?_
      refine ⟨rfl, ?_⟩
      simp [mOfK, *, gb]
    · refine gJ_iconst (v := 1) dX12_isOf_101 (by decide) ?_
      refine gJ_goto (tgt := 106) dX12_isOf_102 (by decide) ?_
      refine gJ_zret dX12_isOf_106 rfl (by first | exact gz0 | exact gz1 | exact gb01 _) ?_
      refine ⟨rfl, ?_⟩
      simp [mOfK, *, gb]
  · refine gJ_tableIn (off := 106) (tgt := 107) dX12_isOf_1 (by decide) (by decide) (by decide) (by decide) ?_
    refine gJ_aload_n dX12_isOf_107 rfl rfl ?_
    refine gJ_iload_n dX12_isOf_108 rfl rfl ?_
    refine gJ_callV (As := [_]) b_X12_state lX12_104 i_X12_state s_X12_state dX12_isOf_109 (c12_state hm hV a ha) (by first | with_reducible assumption | with_reducible exact gUp_s | with_reducible exact gUp_n (by with_reducible assumption) (by omega) | exact gUp_n (by assumption) (by omega) | assumption) rfl rfl (Nat.le_of_ble_eq_true rfl) rfl (by decide) (fun M109 v_ h109 => ?_)
    obtain ⟨e_, rfl⟩ := h109
    replace e_ := e_.symm
    subst e_
    refine gJ_iconst (v := 2) dX12_isOf_112 (by decide) ?_
    refine gJ_icmp_ne (tgt := 128) dX12_isOf_113 (by decide) (fun c113 => ?_) (fun c113 => ?_)
    · refine gJ_iconst (v := 0) dX12_isOf_128 (by decide) ?_
      refine gJ_zret dX12_isOf_129 rfl (by first | exact gz0 | exact gz1 | exact gb01 _) ?_
      refine ⟨rfl, ?_⟩
      simp [mOfK, *, gb]
    · refine gJ_aload_n dX12_isOf_116 rfl rfl ?_
      refine gJ_iload_n dX12_isOf_117 rfl rfl ?_
      refine gJ_callV (As := [_]) b_X12_isFlapping lX12_116 i_X12_isFlapping s_X12_isFlapping dX12_isOf_118 (c12_isFlapping hm hV hI a ha) (by first | with_reducible assumption | with_reducible exact gUp_s | with_reducible exact gUp_n (by with_reducible assumption) (by omega) | exact gUp_n (by assumption) (by omega) | assumption) rfl rfl (Nat.le_of_ble_eq_true rfl) rfl (by decide) (fun M118 v_ h118 => ?_)
      obtain ⟨e_, rfl⟩ := h118
      replace e_ := e_.symm
      subst e_
      refine gJ_if_eqB (tgt := 128) dX12_isOf_121 (by decide) (fun c121 => ?_) (fun c121 => ?_)
      · refine gJ_iconst (v := 0) dX12_isOf_128 (by decide) ?_
        refine gJ_zret dX12_isOf_129 rfl (by first | exact gz0 | exact gz1 | exact gb01 _) ?_
        refine ⟨rfl, ?_⟩
        simp [mOfK, *, gb]
      · refine gJ_iconst (v := 1) dX12_isOf_124 (by decide) ?_
        refine gJ_goto (tgt := 129) dX12_isOf_125 (by decide) ?_
        refine gJ_zret dX12_isOf_129 rfl (by first | exact gz0 | exact gz1 | exact gb01 _) ?_
        refine ⟨rfl, ?_⟩
        simp [mOfK, *, gb]
  · refine gJ_tableIn (off := 129) (tgt := 130) dX12_isOf_1 (by decide) (by decide) (by decide) (by decide) ?_
    refine gJ_aload_n dX12_isOf_130 rfl rfl ?_
    refine gJ_iload_n dX12_isOf_131 rfl rfl ?_
    refine gJ_callV (As := [_]) b_X12_isActive lX12_123 i_X12_isActive s_X12_isActive dX12_isOf_132 (c12_isActive hm hV hI a ha) (by first | with_reducible assumption | with_reducible exact gUp_s | with_reducible exact gUp_n (by with_reducible assumption) (by omega) | exact gUp_n (by assumption) (by omega) | assumption) rfl rfl (Nat.le_of_ble_eq_true rfl) rfl (by decide) (fun M132 v_ h132 => ?_)
    obtain ⟨e_, rfl⟩ := h132
    replace e_ := e_.symm
    subst e_
    refine gJ_zret dX12_isOf_135 rfl (by first | exact gz0 | exact gz1 | exact gb01 _) ?_
    exact ⟨rfl, rfl⟩
  · refine gJ_tableOut (tgt := 136) dX12_isOf_1 (by decide) (by decide) ?_
    refine gJ_aload_n dX12_isOf_136 rfl rfl ?_
    refine gJ_iload_n dX12_isOf_137 rfl rfl ?_
    refine gJ_callV (As := [_]) b_X12_holds lX12_132 i_X12_holds s_X12_holds dX12_isOf_138 (c12_holds hm hV hI a ha) (by first | with_reducible assumption | with_reducible exact gUp_s | with_reducible exact gUp_n (by with_reducible assumption) (by omega) | exact gUp_n (by assumption) (by omega) | assumption) rfl rfl (Nat.le_of_ble_eq_true rfl) rfl (by decide) (fun M138 v_ h138 => ?_)
    obtain ⟨e_, rfl⟩ := h138
    replace e_ := e_.symm
    subst e_
    refine gJ_zret dX12_isOf_141 rfl (by first | exact gz0 | exact gz1 | exact gb01 _) ?_
    exact ⟨rfl, rfl⟩
set_option maxRecDepth 20000 in
theorem c12_alerts (hm : M.1 m = some (mO m hi tn at_ fa)) (hV : M.1 (m + 1) = some (gI 1999 V)) (hI : mI V) (w : Int32) : gCon G kX12_alerts 5 0 0 M [.ref m, .int w] (fun M2 v => M2 = M ∧ v = some (.long (aAlerts V w))) := by
  refine gCon_of (by decide) (Nat.le_of_ble_eq_true rfl) ?_
  have loop : ∀ (z : Nat), z ≤ 6 → ∀ (q j : Nat), j + q = 61 → j ≤ 60 →
      gJ G kX12_alerts 5 0 0 M 19 [(4, .int (nI j)), (2, .long (lS (fun a => mOfK V a z) j)), (0, .ref m), (1, .int (nI z))] [] (gQ kX12_alerts (fun M2 v => M2 = M ∧ v = some (.long (lS (fun a => mOfK V a z) 60)))) := by
    intro z hz q
    induction q with
    | zero => intro j h1 h2; exact absurd h1 (by omega)
    | succ q ih =>
      intro j hq hj
      refine gJ_iload dX12_alerts_19 rfl ?_
      refine gJ_bipush (v := 60) dX12_alerts_21 (by decide) ?_
      refine gJ_icmp_geN (tgt := 53) (a := j) (b := 60) (by first | with_reducible rfl | rfl) (by first | with_reducible rfl | rfl) (by omega) (by omega) dX12_alerts_23 (by decide) (fun c23 => ?_) (fun c23 => ?_)
      · refine gJ_lload_n dX12_alerts_53 rfl rfl ?_
        refine gJ_lret dX12_alerts_54 rfl ?_
        refine ⟨rfl, ?_⟩
        have e1 : j = 60 := by omega
        subst e1
        rfl
      · refine gJ_lload_n dX12_alerts_26 rfl rfl ?_
        refine gJ_aload_n dX12_alerts_27 rfl rfl ?_
        refine gJ_iload dX12_alerts_28 rfl ?_
        refine gJ_iload_n dX12_alerts_30 rfl rfl ?_
        refine gJ_callV (As := [_, _]) b_X12_isOf lX12_166 i_X12_isOf s_X12_isOf dX12_alerts_31 (c12_isOf hm hV hI j z (by omega) hz) (by first | with_reducible assumption | with_reducible exact gUp_s | with_reducible exact gUp_n (by with_reducible assumption) (by omega) | exact gUp_n (by assumption) (by omega) | assumption) rfl rfl (Nat.le_of_ble_eq_true rfl) rfl (by decide) (fun M31 v_ h31 => ?_)
        obtain ⟨e31, rfl⟩ := h31
        replace e31 := e31.symm
        subst e31
        refine gJ_if_eqB (tgt := 44) dX12_alerts_34 (by decide) (fun c34 => ?_) (fun c34 => ?_)
        · refine gJ_lconst (v := 0) dX12_alerts_44 (by decide) ?_
          refine gJ_lor dX12_alerts_45 ?_
          refine gJ_lstore_n (lv2 := [(2, _), (4, _), (0, _), (1, _)]) dX12_alerts_46 rfl rfl rfl ?_
          refine gJ_iincN (a := j) (b := 1) (lv2 := [(4, _), (2, _), (0, _), (1, _)]) dX12_alerts_47 rfl rfl rfl rfl ?_
          refine gJ_goto (tgt := 19) dX12_alerts_50 (by decide) ?_
          refine gJ_ls (ih (j + 1) (by omega) (by omega)) ⟨rfl, ?_, rfl, rfl, trivial⟩
          show some (Value.long _) = some (Value.long _)
          rw [lS, c34]
          rfl
        · refine gJ_lconst (v := 1) dX12_alerts_37 (by decide) ?_
          refine gJ_iload dX12_alerts_38 rfl ?_
          refine gJ_lshl dX12_alerts_40 ?_
          refine gJ_goto (tgt := 45) dX12_alerts_41 (by decide) ?_
          refine gJ_lor dX12_alerts_45 ?_
          refine gJ_lstore_n (lv2 := [(2, _), (4, _), (0, _), (1, _)]) dX12_alerts_46 rfl rfl rfl ?_
          refine gJ_iincN (a := j) (b := 1) (lv2 := [(4, _), (2, _), (0, _), (1, _)]) dX12_alerts_47 rfl rfl rfl rfl ?_
          refine gJ_goto (tgt := 19) dX12_alerts_50 (by decide) ?_
          refine gJ_ls (ih (j + 1) (by omega) (by omega)) ⟨rfl, ?_, rfl, rfl, trivial⟩
          show some (Value.long _) = some (Value.long _)
          rw [lS, c34]
          rfl
  show gJ _ _ _ _ _ _ 0 [(0, _), (1, _)] [] _
  refine gJ_iload_n dX12_alerts_0 rfl rfl ?_
  refine gJ_iconst (v := 0) dX12_alerts_1 (by decide) ?_
  refine gJ_bipush (v := 6) dX12_alerts_2 (by decide) ?_
  refine gJ_callS (As := [_, _, _]) b_X12_isIn lX12_35 i_X12_isIn dX12_alerts_4 (c12_isIn _ _ _) rfl (Nat.le_of_ble_eq_true rfl) rfl (by decide) (fun M4 v_ h4 => ?_)
  obtain ⟨e4, rfl⟩ := h4
  replace e4 := e4.symm
  subst e4
  refine gJ_if_neB (tgt := 14) dX12_alerts_7 (by decide) (fun c7 => ?_) (fun c7 => ?_)
  · obtain ⟨z, hz1, hz0, hz2, hz3⟩ := mIn_nat (lo := 0) (hi := 6) c7 (by decide)
    subst hz2
    have hA : aAlerts V (nI z) = lS (fun a => mOfK V a z) 60 := by simp only [aAlerts, mIn, c7, hz3, ↓reduceIte]
    refine gJ_lconst (v := 0) dX12_alerts_14 (by decide) ?_
    refine gJ_lstore_n (lv2 := [(2, _), (0, _), (1, _)]) dX12_alerts_15 rfl rfl rfl ?_
    refine gJ_iconst (v := 0) dX12_alerts_16 (by decide) ?_
    refine gJ_istore (lv2 := [(4, _), (2, _), (0, _), (1, _)]) dX12_alerts_17 rfl rfl ?_
    rw [hA]
    exact gJ_ls (loop z hz1 61 0 (by omega) (by omega)) ⟨rfl, rfl, rfl, rfl, trivial⟩
  · refine gJ_ldc2 (v := -1) dX12_alerts_10 cX12_160 ?_
    refine gJ_lret dX12_alerts_13 rfl ?_
    have hA : aAlerts V w = -1 := by simp only [aAlerts, mIn, c7, Bool.false_eq_true, ↓reduceIte]
    rw [hA]
    exact ⟨rfl, rfl⟩
end MODEL
