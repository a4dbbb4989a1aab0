/-- the row without one entry -/
def mRem (V : Nat → Int32) (kind k : Nat) : Nat → Int32 := fun i => if kind = 0 ∧ 206 + 276 * k ≤ i ∧ i < 206 + 276 * (k + 1) then 0 else if i = mFst kind + mWid kind * k then 0 else V i
def aRem (V : Nat → Int32) (w x : Int32) : Int32 × (Nat → Int32) := if (mIn w 0 2 && mOne V w.toNatClampNeg x) = true then (nI (mMany (mRem V w.toNatClampNeg x.toNatClampNeg) w.toNatClampNeg), mRem V w.toNatClampNeg x.toNatClampNeg) else (-1, V)
section MODEL
variable {G : gG} {M : gM} {m : Nat} {hi tn at_ fa : Int32} {V K IV : Nat → Int32} {S KS IS : Nat → Int64}
set_option maxRecDepth 20000 in
theorem c12_remove (hm : M.1 m = some (mO m hi tn at_ fa)) (hV : M.1 (m + 1) = some (gI 1999 V)) (w x : Int32) : gCon G kX12_remove 3 0 0 M [.ref m, .int w, .int x] (fun M2 v => M2 = gUp M (m + 1) (gI 1999 (aRem V w x).2) ∧ v = some (.int (aRem V w x).1)) := by
  refine gCon_of (by decide) (Nat.le_of_ble_eq_true rfl) ?_
  have fin : ∀ (W : Nat → Int32) (kind : Nat), kind < 3 → gJ G kX12_remove 3 0 0 (gUp M (m + 1) (gI 1999 W)) 75 [(0, .ref m), (1, .int (nI kind))] [] (gQ kX12_remove (fun M2 v => M2 = gUp M (m + 1) (gI 1999 W) ∧ v = some (.int (nI (mMany W kind))))) := by
    intro W kind hk
    refine gJ_aload_n dX12_remove_75 rfl rfl ?_
    refine gJ_iload_n dX12_remove_76 rfl rfl ?_
    refine gJ_callV (As := [_]) b_X12_many lX12_86 i_X12_many s_X12_many dX12_remove_77 (c12_many (gUp_n hm (by omega)) gUp_s kind hk) (by first | with_reducible assumption | with_reducible exact gUp_s | with_reducible exact gUp_n (by with_reducible assumption) (by omega) | exact gUp_n (by assumption) (by omega) | assumption) rfl rfl (Nat.le_of_ble_eq_true rfl) rfl (by decide) (fun M77 v_ h77 => ?_)
    obtain ⟨e77, rfl⟩ := h77
    replace e77 := e77.symm
    subst e77
    refine gJ_iret dX12_remove_80 rfl ?_
    exact ⟨rfl, rfl⟩
  have loop : ∀ (k : Nat), k < 5 → ∀ (q j : Nat), j + q = 276 * (k + 1) → 276 * k ≤ j → ∀ W : Nat → Int32, (∀ i, W i = if 206 + 276 * k ≤ i ∧ i < 206 + j then 0 else if i = mFst 0 + mWid 0 * k then 0 else V i) →
      gJ G kX12_remove 3 0 0 (gUp M (m + 1) (gI 1999 W)) 43 [(3, .int (nI j)), (0, .ref m), (1, .int (nI 0)), (2, .int (nI k))] [] (gQ kX12_remove (fun M2 v => M2 = gUp M (m + 1) (gI 1999 (mRem V 0 k)) ∧ v = some (.int (nI (mMany (mRem V 0 k) 0))))) := by
    intro k hk q
    induction q with
    | zero =>
      intro j hj hj2 W hW
      have hWc : W = mRem V 0 k := by
        funext i
        rw [hW, mRem, show j = 276 * (k + 1) by omega]
        simp only [true_and]
      refine gJ_iload_n dX12_remove_43 rfl rfl ?_
      refine gJ_if_neN (tgt := 75) (a := 0) (by first | with_reducible rfl | rfl) (by omega) dX12_remove_44 (by decide) (fun c_ => by exfalso; omega) (fun _ => ?_)
      refine gJ_iload_n dX12_remove_47 rfl rfl ?_
      refine gJ_sipush (v := 276) dX12_remove_48 (by decide) ?_
      refine gJ_iload_n dX12_remove_51 rfl rfl ?_
      refine gJ_iconst (v := 1) dX12_remove_52 (by decide) ?_
      refine gJ_iaddN (a := k) (b := 1) dX12_remove_53 (by first | with_reducible rfl | rfl) (by first | with_reducible rfl | rfl) ?_
      refine gJ_imulN (a := 276) (b := (k + 1)) dX12_remove_54 (by first | with_reducible rfl | rfl) (by first | with_reducible rfl | rfl) ?_
      refine gJ_icmp_geN (tgt := 75) (a := j) (b := (276 * (k + 1))) (by first | with_reducible rfl | rfl) (by first | with_reducible rfl | rfl) (by omega) (by omega) dX12_remove_55 (by decide) (fun _ => ?_) (fun c_ => by exfalso; omega)
      rw [hWc]
      exact gJ_ls (fin _ 0 (by decide)) ⟨rfl, rfl, trivial⟩
    | succ q ih =>
      intro j hj hj2 W hW
      refine gJ_iload_n dX12_remove_43 rfl rfl ?_
      refine gJ_if_neN (tgt := 75) (a := 0) (by first | with_reducible rfl | rfl) (by omega) dX12_remove_44 (by decide) (fun c_ => by exfalso; omega) (fun _ => ?_)
      refine gJ_iload_n dX12_remove_47 rfl rfl ?_
      refine gJ_sipush (v := 276) dX12_remove_48 (by decide) ?_
      refine gJ_iload_n dX12_remove_51 rfl rfl ?_
      refine gJ_iconst (v := 1) dX12_remove_52 (by decide) ?_
      refine gJ_iaddN (a := k) (b := 1) dX12_remove_53 (by first | with_reducible rfl | rfl) (by first | with_reducible rfl | rfl) ?_
      refine gJ_imulN (a := 276) (b := (k + 1)) dX12_remove_54 (by first | with_reducible rfl | rfl) (by first | with_reducible rfl | rfl) ?_
      refine gJ_icmp_geN (tgt := 75) (a := j) (b := (276 * (k + 1))) (by first | with_reducible rfl | rfl) (by first | with_reducible rfl | rfl) (by omega) (by omega) dX12_remove_55 (by decide) (fun c_ => by exfalso; omega) (fun _ => ?_)
      refine gJ_aload_n dX12_remove_58 rfl rfl ?_
      refine gJ_get fX12_9 dX12_remove_59 (by first | with_reducible assumption | with_reducible exact gUp_s | with_reducible exact gUp_n (by with_reducible assumption) (by omega) | exact gUp_n (by assumption) (by omega) | assumption) rfl ?_
      refine gJ_sipush (v := 206) dX12_remove_62 (by decide) ?_
      refine gJ_iload_n dX12_remove_65 rfl rfl ?_
      refine gJ_iaddN (a := 206) (b := j) dX12_remove_66 (by first | with_reducible rfl | rfl) (by first | with_reducible rfl | rfl) ?_
      refine gJ_iconst (v := 0) dX12_remove_67 (by decide) ?_
      refine gJ_iastN (j := (206 + j)) dX12_remove_68 (by first | with_reducible assumption | with_reducible exact gUp_s | with_reducible exact gUp_n (by with_reducible assumption) (by omega) | exact gUp_n (by assumption) (by omega) | assumption) (by first | with_reducible rfl | rfl) (by omega) (by decide) ?_
      try rw [gUp_up]
      refine gJ_iincN (a := j) (b := 1) (lv2 := [(3, _), (0, _), (1, _), (2, _)]) dX12_remove_69 rfl rfl rfl rfl ?_
      refine gJ_goto (tgt := 43) dX12_remove_72 (by decide) ?_
      refine gJ_ls (ih (j + 1) (by omega) (by omega) _ ?_) ⟨rfl, rfl, rfl, rfl, trivial⟩
      intro i
      simp only [upd]
      by_cases h1_ : i = 206 + j
      · rw [if_pos h1_, if_pos (by omega)]
      · rw [if_neg h1_, hW]; by_cases h2_ : 206 + 276 * k ≤ i ∧ i < 206 + j
        · rw [if_pos h2_, if_pos (by omega)]
        · rw [if_neg h2_, if_neg (show ¬ (206 + 276 * k ≤ i ∧ i < 206 + (j + 1)) by omega)]
  have main : ∀ (kind k : Nat), kind < 3 → k < mMst kind → gJ G kX12_remove 3 0 0 M 20 [(0, .ref m), (1, .int (nI kind)), (2, .int (nI k))] [] (gQ kX12_remove (fun M2 v => M2 = gUp M (m + 1) (gI 1999 (mRem V kind k)) ∧ v = some (.int (nI (mMany (mRem V kind k) kind))))) := by
    intro kind k hk hk2
    have hb := mMst_b kind
    by_cases h0 : kind = 0
    · subst h0
      refine gJ_aload_n dX12_remove_20 rfl rfl ?_
      refine gJ_get fX12_9 dX12_remove_21 (by first | with_reducible assumption | with_reducible exact gUp_s | with_reducible exact gUp_n (by with_reducible assumption) (by omega) | exact gUp_n (by assumption) (by omega) | assumption) rfl ?_
      refine gJ_iload_n dX12_remove_24 rfl rfl ?_
      refine gJ_callS (As := [_]) b_X12_first lX12_76 i_X12_first dX12_remove_25 (c12_first 0 hk) rfl (Nat.le_of_ble_eq_true rfl) rfl (by decide) (fun M25 v_ h25 => ?_)
      obtain ⟨e25, rfl⟩ := h25
      replace e25 := e25.symm
      subst e25
      refine gJ_iload_n dX12_remove_28 rfl rfl ?_
      refine gJ_callS (As := [_]) b_X12_wide lX12_79 i_X12_wide dX12_remove_29 (c12_wide 0 hk) rfl (Nat.le_of_ble_eq_true rfl) rfl (by decide) (fun M29 v_ h29 => ?_)
      obtain ⟨e29, rfl⟩ := h29
      replace e29 := e29.symm
      subst e29
      refine gJ_iload_n dX12_remove_32 rfl rfl ?_
      refine gJ_imulN (a := (mWid 0)) (b := k) dX12_remove_33 (by first | with_reducible rfl | rfl) (by first | with_reducible rfl | rfl) ?_
      refine gJ_iaddN (a := (mFst 0)) (b := ((mWid 0) * k)) dX12_remove_34 (by first | with_reducible rfl | rfl) (by first | with_reducible rfl | rfl) ?_
      refine gJ_iconst (v := 0) dX12_remove_35 (by decide) ?_
      refine gJ_iastN (j := ((mFst 0) + ((mWid 0) * k))) dX12_remove_36 (by first | with_reducible assumption | with_reducible exact gUp_s | with_reducible exact gUp_n (by with_reducible assumption) (by omega) | exact gUp_n (by assumption) (by omega) | assumption) (by first | with_reducible rfl | rfl) (Nat.lt_trans (mIdx_b hk2) (by decide)) (by decide) ?_
      try rw [gUp_up]
      refine gJ_sipush (v := 276) dX12_remove_37 (by decide) ?_
      refine gJ_iload_n dX12_remove_40 rfl rfl ?_
      refine gJ_imulN (a := 276) (b := k) dX12_remove_41 (by first | with_reducible rfl | rfl) (by first | with_reducible rfl | rfl) ?_
      refine gJ_istore_n (lv2 := [(3, _), (0, _), (1, _), (2, _)]) dX12_remove_42 rfl rfl rfl ?_
      have hk5 : k < 5 := hk2
      refine gJ_ls (loop k hk5 276 (276 * k) (by omega) (by omega) _ ?_) ⟨rfl, rfl, rfl, rfl, trivial⟩
      intro i
      rw [if_neg (by omega)]
      rfl
    · have hWc : upd V (mFst kind + mWid kind * k) 0 = mRem V kind k := by
        funext i
        simp only [upd, mRem, h0, false_and, if_false]
      refine gJ_aload_n dX12_remove_20 rfl rfl ?_
      refine gJ_get fX12_9 dX12_remove_21 (by first | with_reducible assumption | with_reducible exact gUp_s | with_reducible exact gUp_n (by with_reducible assumption) (by omega) | exact gUp_n (by assumption) (by omega) | assumption) rfl ?_
      refine gJ_iload_n dX12_remove_24 rfl rfl ?_
      refine gJ_callS (As := [_]) b_X12_first lX12_76 i_X12_first dX12_remove_25 (c12_first kind hk) rfl (Nat.le_of_ble_eq_true rfl) rfl (by decide) (fun M25 v_ h25 => ?_)
      obtain ⟨e25, rfl⟩ := h25
      replace e25 := e25.symm
      subst e25
      refine gJ_iload_n dX12_remove_28 rfl rfl ?_
      refine gJ_callS (As := [_]) b_X12_wide lX12_79 i_X12_wide dX12_remove_29 (c12_wide kind hk) rfl (Nat.le_of_ble_eq_true rfl) rfl (by decide) (fun M29 v_ h29 => ?_)
      obtain ⟨e29, rfl⟩ := h29
      replace e29 := e29.symm
      subst e29
      refine gJ_iload_n dX12_remove_32 rfl rfl ?_
      refine gJ_imulN (a := (mWid kind)) (b := k) dX12_remove_33 (by first | with_reducible rfl | rfl) (by first | with_reducible rfl | rfl) ?_
      refine gJ_iaddN (a := (mFst kind)) (b := ((mWid kind) * k)) dX12_remove_34 (by first | with_reducible rfl | rfl) (by first | with_reducible rfl | rfl) ?_
      refine gJ_iconst (v := 0) dX12_remove_35 (by decide) ?_
      refine gJ_iastN (j := ((mFst kind) + ((mWid kind) * k))) dX12_remove_36 (by first | with_reducible assumption | with_reducible exact gUp_s | with_reducible exact gUp_n (by with_reducible assumption) (by omega) | exact gUp_n (by assumption) (by omega) | assumption) (by first | with_reducible rfl | rfl) (Nat.lt_trans (mIdx_b hk2) (by decide)) (by decide) ?_
      try rw [gUp_up]
      refine gJ_sipush (v := 276) dX12_remove_37 (by decide) ?_
      refine gJ_iload_n dX12_remove_40 rfl rfl ?_
      refine gJ_imulN (a := 276) (b := k) dX12_remove_41 (by first | with_reducible rfl | rfl) (by first | with_reducible rfl | rfl) ?_
      refine gJ_istore_n (lv2 := [(3, _), (0, _), (1, _), (2, _)]) dX12_remove_42 rfl rfl rfl ?_
      refine gJ_iload_n dX12_remove_43 rfl rfl ?_
      refine gJ_if_neN (tgt := 75) (a := kind) (by first | with_reducible rfl | rfl) (by omega) dX12_remove_44 (by decide) (fun _ => ?_) (fun c_ => by exfalso; exact h0 c_)
      rw [hWc]
      exact gJ_ls (fin _ kind hk) ⟨rfl, rfl, trivial⟩
  show gJ _ _ _ _ _ _ 0 [(0, _), (1, _), (2, _)] [] _
  refine gJ_iload_n dX12_remove_0 rfl rfl ?_
  refine gJ_iconst (v := 0) dX12_remove_1 (by decide) ?_
  refine gJ_iconst (v := 2) dX12_remove_2 (by decide) ?_
  refine gJ_callS (As := [_, _, _]) b_X12_isIn lX12_35 i_X12_isIn dX12_remove_3 (c12_isIn _ _ _) rfl (Nat.le_of_ble_eq_true rfl) rfl (by decide) (fun M3 v_ h3 => ?_)
  obtain ⟨e_, rfl⟩ := h3
  replace e_ := e_.symm
  subst e_
  refine gJ_if_eqB (tgt := 18) dX12_remove_6 (by decide) (fun c6 => ?_) (fun c6 => ?_)
  · refine gJ_iconst (v := -1) dX12_remove_18 (by decide) ?_
    refine gJ_iret dX12_remove_19 rfl ?_
    have hA : aRem V w x = (-1, V) := by rw [aRem, mIn, c6, Bool.false_and]; rfl
    rw [hA, gUp_id hV]
    exact ⟨rfl, rfl⟩
  · refine gJ_aload_n dX12_remove_9 rfl rfl ?_
    refine gJ_iload_n dX12_remove_10 rfl rfl ?_
    refine gJ_iload_n dX12_remove_11 rfl rfl ?_
    obtain ⟨kind, hk1, hk0, hk2, hk3⟩ := mIn_nat (lo := 0) (hi := 2) c6 (by decide)
    subst hk2
    refine gJ_callV (As := [_, _]) b_X12_isOne lX12_82 i_X12_isOne s_X12_isOne dX12_remove_12 (c12_isOne hm hV kind (by omega) x) (by first | with_reducible assumption | with_reducible exact gUp_s | with_reducible exact gUp_n (by with_reducible assumption) (by omega) | exact gUp_n (by assumption) (by omega) | assumption) rfl rfl (Nat.le_of_ble_eq_true rfl) rfl (by decide) (fun M12 v_ h12 => ?_)
    obtain ⟨e12, rfl⟩ := h12
    replace e12 := e12.symm
    subst e12
    refine gJ_if_neB (tgt := 20) dX12_remove_15 (by decide) (fun c15 => ?_) (fun c15 => ?_)
    · have c15' := c15
      rw [mOne, mIn, Bool.and_eq_true] at c15'
      obtain ⟨c15a, c15b⟩ := c15'
      obtain ⟨k, hx1, hx0, hx2, hx3⟩ := mIn_nat (lo := 0) (hi := mMst kind - 1) c15a (by have := mMst_b kind; omega)
      subst hx2
      have hA : aRem V (nI kind) (nI k) = (nI (mMany (mRem V kind k) kind), mRem V kind k) := by rw [aRem, mIn, c6, hk3, c15, hx3]; rfl
      rw [hA]
      exact gJ_ls (main kind k (by omega) (by have := mMst_b kind; omega)) ⟨rfl, rfl, rfl, trivial⟩
    · refine gJ_iconst (v := -1) dX12_remove_18 (by decide) ?_
      refine gJ_iret dX12_remove_19 rfl ?_
      have hA : aRem V (nI kind) x = (-1, V) := by rw [aRem, hk3, c15, Bool.and_false]; rfl
      rw [hA, gUp_id hV]
      exact ⟨rfl, rfl⟩
end MODEL
