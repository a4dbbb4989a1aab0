def mFst (kind : Nat) : Nat := if kind = 0 then 60 else if kind = 1 then 110 else 158
def mWid (kind : Nat) : Nat := if kind = 0 then 10 else if kind = 1 then 8 else 12
def mMst (kind : Nat) : Nat := if kind = 0 then 5 else if kind = 1 then 6 else 4
def mOneN (V : Nat → Int32) (kind k : Nat) : Bool := decide (V (mFst kind + mWid kind * k) = 1)
def mOne (V : Nat → Int32) (kind : Nat) (k : Int32) : Bool := mIn k 0 (nI (mMst kind - 1)) && mOneN V kind k.toNatClampNeg
def mMany (V : Nat → Int32) (kind : Nat) : Nat := (List.range (mMst kind)).countP (mOneN V kind)
theorem mMst_b (kind : Nat) : 4 ≤ mMst kind ∧ mMst kind ≤ 6 := by unfold mMst; grind
theorem mIdx_b {kind k : Nat} (h : k < mMst kind) : mFst kind + mWid kind * k < 206 := by
  unfold mMst at h
  unfold mFst mWid
  repeat' split at h
  all_goals simp_all
  all_goals omega
theorem upd_id {V : Nat → Int32} {i : Nat} {x : Int32} (h : V i = x) : upd V i x = V := by
  funext j
  by_cases e : j = i
  · subst e; rw [pk_us, h]
  · rw [pk_un e]
theorem upd_upd {V : Nat → Int32} {i : Nat} {x y : Int32} : upd (upd V i x) i y = upd V i y := by
  funext j
  by_cases e : j = i
  · subst e; rw [pk_us, pk_us]
  · rw [pk_un e, pk_un e, pk_un e]
theorem mI_sil {V : Nat → Int32} {k : Nat} (h : mI V) (hk : k < 6) : mI (upd V (110 + 8 * k) 0) := by
  have o : ∀ i, i ≠ 110 + 8 * k → upd V (110 + 8 * k) 0 i = V i := fun i hi => pk_un hi
  have b1 : ∀ i n, i ≠ 110 + 8 * k → mB V i n → mB (upd V (110 + 8 * k) 0) i n := fun i n hi ⟨x, e1, e2⟩ => ⟨x, e1, by rw [o i hi, e2]⟩
  have b3 : ∀ f, (f + 4 < 110 + 8 * k ∨ 110 + 8 * k < f) → mMs V f → mMs (upd V (110 + 8 * k) 0) f := fun f hf ⟨e0, n, e1, e2, e3⟩ => ⟨e0, n, e1, by rw [o f (by omega), e2], fun j hj => by
    obtain ⟨mm, g1, g2⟩ := e3 j hj
    exact ⟨mm, g1, by rw [o _ (by omega), g2]⟩⟩
  obtain ⟨i1, i2, i3, i4, i5, i6, i7, p0, p1, p2, p3, p4⟩ := h
  refine ⟨fun i hi => b1 _ _ (by omega) (i1 i hi), fun s hs => b1 _ _ (by omega) (i2 s hs), fun r hr => ?_, fun q hq => ?_, fun q hq => ?_, fun a ha => ⟨b1 _ _ (by omega) (i6 a ha).1, b1 _ _ (by omega) (i6 a ha).2⟩, fun q hq => b1 _ _ (by omega) (i7 q hq), b1 _ _ (by omega) p0, b1 _ _ (by omega) p1, b1 _ _ (by omega) p2, b1 _ _ (by omega) p3, b1 _ _ (by omega) p4⟩
  · obtain ⟨e1, e2, e3, e4, e5⟩ := i3 r hr
    exact ⟨b1 _ _ (by omega) e1, b3 _ (by omega) e2, b1 _ _ (by omega) e3, b1 _ _ (by omega) e4, b1 _ _ (by omega) e5⟩
  · obtain ⟨e1, e2⟩ := i4 q hq
    by_cases e : q = k
    · subst e
      exact ⟨⟨0, by omega, by rw [pk_us]; rfl⟩, b3 _ (by omega) e2⟩
    · exact ⟨b1 _ _ (by omega) e1, b3 _ (by omega) e2⟩
  · obtain ⟨e1, e2, e3, e4⟩ := i5 q hq
    exact ⟨b1 _ _ (by omega) e1, b3 _ (by omega) e2, b3 _ (by omega) e3, b1 _ _ (by omega) e4⟩
noncomputable def aAhead (p : mT) (x : Int32) : Int32 := if mIn x 1 100 = true then mTot p x.toNatClampNeg else -2
noncomputable def aNext (p : mT) (x : Int32) : Int32 := if mIn x 1 100 = true then mNx p x.toNatClampNeg else -2
noncomputable def aSaved (p : mT) (k x : Int32) : Int32 := if mOne p.1 1 k = true then (if mIn x 1 100 = true then mTot (upd p.1 (110 + 8 * k.toNatClampNeg) 0, p.2) x.toNatClampNeg - mTot p x.toNatClampNeg + 1000 else -2) else -1
section MODEL
variable {G : gG} {M : gM} {m : Nat} {hi tn at_ fa : Int32} {V K : Nat → Int32} {S KS : Nat → Int64}
theorem c12_first (kind : Nat) (hk : kind < 3) : gCon G kX12_first 0 0 0 M [.int (nI kind)] (fun M2 v => M2 = M ∧ v = some (.int (nI (mFst kind)))) := by
  refine gCon_of (by decide) (Nat.le_of_ble_eq_true rfl) ?_
  show gJ _ _ _ _ _ _ 0 [(0, _)] [] _
  refine gJ_iload_n dX12_first_0 rfl rfl ?_
  refine gJ_if_neN (tgt := 9) (a := kind) (by first | with_reducible rfl | rfl) (by omega) dX12_first_1 (by decide) (fun c1 => ?_) (fun c1 => ?_)
  · refine gJ_iload_n dX12_first_9 rfl rfl ?_
    refine gJ_iconst (v := 1) dX12_first_10 (by decide) ?_
    refine gJ_icmp_neN (tgt := 19) (a := kind) (b := 1) (by first | with_reducible rfl | rfl) (by first | with_reducible rfl | rfl) (by omega) (by omega) dX12_first_11 (by decide) (fun c11 => ?_) (fun c11 => ?_)
    · refine gJ_sipush (v := 158) dX12_first_19 (by decide) ?_
      refine gJ_iret dX12_first_22 rfl ?_
      refine ⟨rfl, ?_⟩
      rw [mFst, if_neg c1, if_neg c11]
      rfl
    · refine gJ_bipush (v := 110) dX12_first_14 (by decide) ?_
      refine gJ_goto (tgt := 22) dX12_first_16 (by decide) ?_
      refine gJ_iret dX12_first_22 rfl ?_
      refine ⟨rfl, ?_⟩
      rw [mFst, if_neg c1, if_pos c11]
      rfl
  · refine gJ_bipush (v := 60) dX12_first_4 (by decide) ?_
    refine gJ_goto (tgt := 22) dX12_first_6 (by decide) ?_
    refine gJ_iret dX12_first_22 rfl ?_
    refine ⟨rfl, ?_⟩
    rw [mFst, if_pos c1]
    rfl
theorem c12_wide (kind : Nat) (hk : kind < 3) : gCon G kX12_wide 0 0 0 M [.int (nI kind)] (fun M2 v => M2 = M ∧ v = some (.int (nI (mWid kind)))) := by
  refine gCon_of (by decide) (Nat.le_of_ble_eq_true rfl) ?_
  show gJ _ _ _ _ _ _ 0 [(0, _)] [] _
  refine gJ_iload_n dX12_wide_0 rfl rfl ?_
  refine gJ_if_neN (tgt := 9) (a := kind) (by first | with_reducible rfl | rfl) (by omega) dX12_wide_1 (by decide) (fun c1 => ?_) (fun c1 => ?_)
  · refine gJ_iload_n dX12_wide_9 rfl rfl ?_
    refine gJ_iconst (v := 1) dX12_wide_10 (by decide) ?_
    refine gJ_icmp_neN (tgt := 19) (a := kind) (b := 1) (by first | with_reducible rfl | rfl) (by first | with_reducible rfl | rfl) (by omega) (by omega) dX12_wide_11 (by decide) (fun c11 => ?_) (fun c11 => ?_)
    · refine gJ_bipush (v := 12) dX12_wide_19 (by decide) ?_
      refine gJ_iret dX12_wide_21 rfl ?_
      refine ⟨rfl, ?_⟩
      rw [mWid, if_neg c1, if_neg c11]
      rfl
    · refine gJ_bipush (v := 8) dX12_wide_14 (by decide) ?_
      refine gJ_goto (tgt := 21) dX12_wide_16 (by decide) ?_
      refine gJ_iret dX12_wide_21 rfl ?_
      refine ⟨rfl, ?_⟩
      rw [mWid, if_neg c1, if_pos c11]
      rfl
  · refine gJ_bipush (v := 10) dX12_wide_4 (by decide) ?_
    refine gJ_goto (tgt := 21) dX12_wide_6 (by decide) ?_
    refine gJ_iret dX12_wide_21 rfl ?_
    refine ⟨rfl, ?_⟩
    rw [mWid, if_pos c1]
    rfl
theorem c12_most (kind : Nat) (hk : kind < 3) : gCon G kX12_most 0 0 0 M [.int (nI kind)] (fun M2 v => M2 = M ∧ v = some (.int (nI (mMst kind)))) := by
  refine gCon_of (by decide) (Nat.le_of_ble_eq_true rfl) ?_
  show gJ _ _ _ _ _ _ 0 [(0, _)] [] _
  refine gJ_iload_n dX12_most_0 rfl rfl ?_
  refine gJ_if_neN (tgt := 8) (a := kind) (by first | with_reducible rfl | rfl) (by omega) dX12_most_1 (by decide) (fun c1 => ?_) (fun c1 => ?_)
  · refine gJ_iload_n dX12_most_8 rfl rfl ?_
    refine gJ_iconst (v := 1) dX12_most_9 (by decide) ?_
    refine gJ_icmp_neN (tgt := 18) (a := kind) (b := 1) (by first | with_reducible rfl | rfl) (by first | with_reducible rfl | rfl) (by omega) (by omega) dX12_most_10 (by decide) (fun c10 => ?_) (fun c10 => ?_)
    · refine gJ_iconst (v := 4) dX12_most_18 (by decide) ?_
      refine gJ_iret dX12_most_19 rfl ?_
      refine ⟨rfl, ?_⟩
      rw [mMst, if_neg c1, if_neg c10]
      rfl
    · refine gJ_bipush (v := 6) dX12_most_13 (by decide) ?_
      refine gJ_goto (tgt := 19) dX12_most_15 (by decide) ?_
      refine gJ_iret dX12_most_19 rfl ?_
      refine ⟨rfl, ?_⟩
      rw [mMst, if_neg c1, if_pos c10]
      rfl
  · refine gJ_iconst (v := 5) dX12_most_4 (by decide) ?_
    refine gJ_goto (tgt := 19) dX12_most_5 (by decide) ?_
    refine gJ_iret dX12_most_19 rfl ?_
    refine ⟨rfl, ?_⟩
    rw [mMst, if_pos c1]
    rfl
theorem c12_isOne (hm : M.1 m = some (mO m hi tn at_ fa)) (hV : M.1 (m + 1) = some (gI 1999 V)) (kind : Nat) (hk : kind < 3) (x : Int32) : gCon G kX12_isOne 1 0 0 M [.ref m, .int (nI kind), .int x] (fun M2 v => M2 = M ∧ v = some (.int (gb (mOne V kind x)))) := by
  have hb := mMst_b kind
  refine gCon_of (by decide) (Nat.le_of_ble_eq_true rfl) ?_
  show gJ _ _ _ _ _ _ 0 [(0, _), (1, _), (2, _)] [] _
  refine gJ_iload_n dX12_isOne_0 rfl rfl ?_
  refine gJ_iconst (v := 0) dX12_isOne_1 (by decide) ?_
  refine gJ_iload_n dX12_isOne_2 rfl rfl ?_
  refine gJ_callS (As := [_]) b_X12_most lX12_73 i_X12_most dX12_isOne_3 (c12_most kind hk) rfl (Nat.le_of_ble_eq_true rfl) rfl (by decide) (fun M3 v_ h3 => ?_)
  obtain ⟨e_, rfl⟩ := h3
  replace e_ := e_.symm
  subst e_
  refine gJ_iconst (v := 1) dX12_isOne_6 (by decide) ?_
  refine gJ_isubN (a := (mMst kind)) (b := 1) dX12_isOne_7 (by first | with_reducible rfl | rfl) (by first | with_reducible rfl | rfl) (by omega) ?_
  refine gJ_callS (As := [_, _, _]) b_X12_isIn lX12_35 i_X12_isIn dX12_isOne_8 (c12_isIn _ _ _) rfl (Nat.le_of_ble_eq_true rfl) rfl (by decide) (fun M8 v_ h8 => ?_)
  obtain ⟨e8, rfl⟩ := h8
  replace e8 := e8.symm
  subst e8
  refine gJ_if_eqB (tgt := 38) dX12_isOne_11 (by decide) (fun c11 => ?_) (fun c11 => ?_)
  · refine gJ_iconst (v := 0) dX12_isOne_38 (by decide) ?_
    refine gJ_zret dX12_isOne_39 rfl (by first | exact gz0 | exact gz1 | exact gb01 _) ?_
    refine ⟨rfl, ?_⟩
    have hA : mOne V kind x = false := by rw [mOne, mIn]; rw [show (decide ((0 : Int32) ≤ x) && decide (x ≤ nI (mMst kind - 1))) = false from c11]; rfl
    rw [hA]
    rfl
  · refine gJ_aload_n dX12_isOne_14 rfl rfl ?_
    refine gJ_get fX12_9 dX12_isOne_15 (by first | with_reducible assumption | with_reducible exact gUp_s | with_reducible exact gUp_n (by with_reducible assumption) (by omega) | exact gUp_n (by assumption) (by omega) | assumption) rfl ?_
    obtain ⟨k', hk1, hk0, hk2, hk3⟩ := mIn_nat (lo := 0) (hi := mMst kind - 1) c11 (by omega)
    subst hk2
    refine gJ_iload_n dX12_isOne_18 rfl rfl ?_
    refine gJ_callS (As := [_]) b_X12_first lX12_76 i_X12_first dX12_isOne_19 (c12_first kind hk) rfl (Nat.le_of_ble_eq_true rfl) rfl (by decide) (fun M19 v_ h19 => ?_)
    obtain ⟨e19, rfl⟩ := h19
    replace e19 := e19.symm
    subst e19
    refine gJ_iload_n dX12_isOne_22 rfl rfl ?_
    refine gJ_callS (As := [_]) b_X12_wide lX12_79 i_X12_wide dX12_isOne_23 (c12_wide kind hk) rfl (Nat.le_of_ble_eq_true rfl) rfl (by decide) (fun M23 v_ h23 => ?_)
    obtain ⟨e23, rfl⟩ := h23
    replace e23 := e23.symm
    subst e23
    refine gJ_iload_n dX12_isOne_26 rfl rfl ?_
    refine gJ_imulN (a := (mWid kind)) (b := k') dX12_isOne_27 (by first | with_reducible rfl | rfl) (by first | with_reducible rfl | rfl) ?_
    refine gJ_iaddN (a := (mFst kind)) (b := ((mWid kind) * k')) dX12_isOne_28 (by first | with_reducible rfl | rfl) (by first | with_reducible rfl | rfl) ?_
    refine gJ_ialdN (j := ((mFst kind) + ((mWid kind) * k'))) dX12_isOne_29 (by first | with_reducible assumption | with_reducible exact gUp_s | with_reducible exact gUp_n (by with_reducible assumption) (by omega) | exact gUp_n (by assumption) (by omega) | assumption) (by first | with_reducible rfl | rfl) (Nat.lt_trans (mIdx_b (by omega)) (by decide)) (by decide) ?_
    refine gJ_iconst (v := 1) dX12_isOne_30 (by decide) ?_
    refine gJ_icmp_ne (tgt := 38) dX12_isOne_31 (by decide) (fun c31 => ?_) (fun c31 => ?_)
    · refine gJ_iconst (v := 0) dX12_isOne_38 (by decide) ?_
      refine gJ_zret dX12_isOne_39 rfl (by first | exact gz0 | exact gz1 | exact gb01 _) ?_
      refine ⟨rfl, ?_⟩
      have hA : mOne V kind (nI k') = false := by rw [mOne, mIn, hk3, mOneN, decide_eq_false c31, Bool.and_false]
      rw [hA]
      rfl
    · refine gJ_iconst (v := 1) dX12_isOne_34 (by decide) ?_
      refine gJ_goto (tgt := 39) dX12_isOne_35 (by decide) ?_
      refine gJ_zret dX12_isOne_39 rfl (by first | exact gz0 | exact gz1 | exact gb01 _) ?_
      refine ⟨rfl, ?_⟩
      have hA : mOne V kind (nI k') = true := by rw [mOne, mIn, hk3, mOneN, decide_eq_true c31, show (decide ((0 : Int32) ≤ nI k') && decide (nI k' ≤ nI (mMst kind - 1))) = true from c11]; rfl
      rw [hA]
      rfl
theorem c12_many (hm : M.1 m = some (mO m hi tn at_ fa)) (hV : M.1 (m + 1) = some (gI 1999 V)) (kind : Nat) (hk : kind < 3) : gCon G kX12_many 2 0 0 M [.ref m, .int (nI kind)] (fun M2 v => M2 = M ∧ v = some (.int (nI (mMany V kind)))) := by
  have hb := mMst_b kind
  refine gCon_of (by decide) (Nat.le_of_ble_eq_true rfl) ?_
  have loop : ∀ (q j c : Nat), j + q = mMst kind + 1 → j ≤ mMst kind → c = (List.range j).countP (mOneN V kind) → c ≤ j →
      gJ G kX12_many 2 0 0 M 4 [(3, .int (nI j)), (2, .int (nI c)), (0, .ref m), (1, .int (nI kind))] [] (gQ kX12_many (fun M2 v => M2 = M ∧ v = some (.int (nI (mMany V kind))))) := by
    intro q
    induction q with
    | zero => intro j c h1 h2; exact absurd h1 (by omega)
    | succ q ih =>
      intro j c hq hj hp hc
      have hOne : j < mMst kind → mOne V kind (nI j) = mOneN V kind j := by
        intro h
        rw [mOne, mIn, nI_clamp (by omega), decide_eq_true (nI_pos' (by omega) : (0 : Int32) ≤ nI j), decide_eq_true ((nI_leI (by omega) (by omega)).mpr (by omega : j ≤ mMst kind - 1))]
        rfl
      refine gJ_iload_n dX12_many_4 rfl rfl ?_
      refine gJ_iload_n dX12_many_5 rfl rfl ?_
      refine gJ_callS (As := [_]) b_X12_most lX12_73 i_X12_most dX12_many_6 (c12_most kind hk) rfl (Nat.le_of_ble_eq_true rfl) rfl (by decide) (fun M6 v_ h6 => ?_)
      obtain ⟨e6, rfl⟩ := h6
      replace e6 := e6.symm
      subst e6
      refine gJ_icmp_geN (tgt := 35) (a := j) (b := (mMst kind)) (by first | with_reducible rfl | rfl) (by first | with_reducible rfl | rfl) (by omega) (by omega) dX12_many_9 (by decide) (fun c9 => ?_) (fun c9 => ?_)
      · refine gJ_iload_n dX12_many_35 rfl rfl ?_
        refine gJ_iret dX12_many_36 rfl ?_
        refine ⟨rfl, ?_⟩
        rw [mMany, hp, show j = mMst kind by omega]
      · refine gJ_iload_n dX12_many_12 rfl rfl ?_
        refine gJ_aload_n dX12_many_13 rfl rfl ?_
        refine gJ_iload_n dX12_many_14 rfl rfl ?_
        refine gJ_iload_n dX12_many_15 rfl rfl ?_
        refine gJ_callV (As := [_, _]) b_X12_isOne lX12_82 i_X12_isOne s_X12_isOne dX12_many_16 (c12_isOne hm hV kind hk (nI j)) (by first | with_reducible assumption | with_reducible exact gUp_s | with_reducible exact gUp_n (by with_reducible assumption) (by omega) | exact gUp_n (by assumption) (by omega) | assumption) rfl rfl (Nat.le_of_ble_eq_true rfl) rfl (by decide) (fun M16 v_ h16 => ?_)
        obtain ⟨e16, rfl⟩ := h16
        replace e16 := e16.symm
        subst e16
        rw [hOne (by omega)]
        refine gJ_if_eqB (tgt := 26) dX12_many_19 (by decide) (fun c19 => ?_) (fun c19 => ?_)
        · refine gJ_iconst (v := 0) dX12_many_26 (by decide) ?_
          refine gJ_iaddN (a := c) (b := 0) dX12_many_27 (by first | with_reducible rfl | rfl) (by first | with_reducible rfl | rfl) ?_
          refine gJ_istore_n (lv2 := [(2, _), (3, _), (0, _), (1, _)]) dX12_many_28 rfl rfl rfl ?_
          refine gJ_iincN (a := j) (b := 1) (lv2 := [(3, _), (2, _), (0, _), (1, _)]) dX12_many_29 rfl rfl rfl rfl ?_
          refine gJ_goto (tgt := 4) dX12_many_32 (by decide) ?_
          refine gJ_ls (ih (j + 1) _ (by omega) (by omega) ?_ (by omega)) ⟨rfl, rfl, rfl, rfl, trivial⟩
          rw [List.range_succ, List.countP_append, ← hp]
          simp [c19]
        · refine gJ_iconst (v := 1) dX12_many_22 (by decide) ?_
          refine gJ_goto (tgt := 27) dX12_many_23 (by decide) ?_
          refine gJ_iaddN (a := c) (b := 1) dX12_many_27 (by first | with_reducible rfl | rfl) (by first | with_reducible rfl | rfl) ?_
          refine gJ_istore_n (lv2 := [(2, _), (3, _), (0, _), (1, _)]) dX12_many_28 rfl rfl rfl ?_
          refine gJ_iincN (a := j) (b := 1) (lv2 := [(3, _), (2, _), (0, _), (1, _)]) dX12_many_29 rfl rfl rfl rfl ?_
          refine gJ_goto (tgt := 4) dX12_many_32 (by decide) ?_
          refine gJ_ls (ih (j + 1) _ (by omega) (by omega) ?_ (by omega)) ⟨rfl, rfl, rfl, rfl, trivial⟩
          rw [List.range_succ, List.countP_append, ← hp]
          simp [c19]
  show gJ _ _ _ _ _ _ 0 [(0, _), (1, _)] [] _
  refine gJ_iconst (v := 0) dX12_many_0 (by decide) ?_
  refine gJ_istore_n (lv2 := [(2, _), (0, _), (1, _)]) dX12_many_1 rfl rfl rfl ?_
  refine gJ_iconst (v := 0) dX12_many_2 (by decide) ?_
  refine gJ_istore_n (lv2 := [(3, _), (2, _), (0, _), (1, _)]) dX12_many_3 rfl rfl rfl ?_
  exact gJ_ls (loop (mMst kind + 1) 0 0 (by omega) (by omega) rfl (by omega)) ⟨rfl, rfl, rfl, rfl, trivial⟩
theorem c12_ahead (hm : M.1 m = some (mO m hi tn at_ fa)) (hV : M.1 (m + 1) = some (gI 1999 V)) (hS : M.1 (m + 4) = some (gL 128 S)) (hK : M.1 (m + 3) = some (gI 1999 K)) (hKS : M.1 (m + 6) = some (gL 128 KS)) (hI : mI V) (x : Int32) : gCon G kX12_ahead 7 0 0 M [.ref m, .int x] (fun M2 v => (M2 = M ∨ M2 = mKp m M V S) ∧ v = some (.int (aAhead (V, S) x))) := by
  refine gCon_of (by decide) (Nat.le_of_ble_eq_true rfl) ?_
  show gJ _ _ _ _ _ _ 0 [(0, _), (1, _)] [] _
  refine gJ_iload_n dX12_ahead_0 rfl rfl ?_
  refine gJ_iconst (v := 1) dX12_ahead_1 (by decide) ?_
  refine gJ_bipush (v := 100) dX12_ahead_2 (by decide) ?_
  refine gJ_callS (As := [_, _, _]) b_X12_isIn lX12_35 i_X12_isIn dX12_ahead_4 (c12_isIn _ _ _) rfl (Nat.le_of_ble_eq_true rfl) rfl (by decide) (fun M4 v_ h4 => ?_)
  obtain ⟨e4, rfl⟩ := h4
  replace e4 := e4.symm
  subst e4
  refine gJ_if_eqB (tgt := 19) dX12_ahead_7 (by decide) (fun c7 => ?_) (fun c7 => ?_)
  · refine gJ_bipush (v := -2) dX12_ahead_19 (by decide) ?_
    refine gJ_iret dX12_ahead_21 rfl ?_
    have hA : aAhead (V, S) x = -2 := by simp only [aAhead, mIn, c7, Bool.false_eq_true, ↓reduceIte]
    rw [hA]
    exact ⟨Or.inl rfl, rfl⟩
  · obtain ⟨n, hn1, hn0, hn2, hn3⟩ := mIn_nat (lo := 1) (hi := 100) c7 (by decide)
    subst hn2
    refine gJ_aload_n dX12_ahead_10 rfl rfl ?_
    refine gJ_iload_n dX12_ahead_11 rfl rfl ?_
    refine gJ_iconst (v := 0) dX12_ahead_12 (by decide) ?_
    refine gJ_callV (As := [_, _]) b_X12_looks lX12_176 i_X12_looks s_X12_looks dX12_ahead_13 (c12_looks0 hm hV hS hK hKS hI n hn1) (by first | with_reducible assumption | with_reducible exact gUp_s | with_reducible exact gUp_n (by with_reducible assumption) (by omega) | exact gUp_n (by assumption) (by omega) | assumption) rfl rfl (Nat.le_of_ble_eq_true rfl) rfl (by decide) (fun M13 v_ h13 => ?_)
    obtain ⟨e13, rfl⟩ := h13
    replace e13 := e13.symm
    subst e13
    refine gJ_goto (tgt := 21) dX12_ahead_16 (by decide) ?_
    refine gJ_iret dX12_ahead_21 rfl ?_
    have hA : aAhead (V, S) (nI n) = mTot (V, S) n := by simp only [aAhead, mIn, c7, hn3, ↓reduceIte]
    rw [hA]
    exact ⟨Or.inr rfl, rfl⟩
theorem c12_next (hm : M.1 m = some (mO m hi tn at_ fa)) (hV : M.1 (m + 1) = some (gI 1999 V)) (hS : M.1 (m + 4) = some (gL 128 S)) (hK : M.1 (m + 3) = some (gI 1999 K)) (hKS : M.1 (m + 6) = some (gL 128 KS)) (hI : mI V) (x : Int32) : gCon G kX12_next 7 0 0 M [.ref m, .int x] (fun M2 v => (M2 = M ∨ M2 = mKp m M V S) ∧ v = some (.int (aNext (V, S) x))) := by
  refine gCon_of (by decide) (Nat.le_of_ble_eq_true rfl) ?_
  show gJ _ _ _ _ _ _ 0 [(0, _), (1, _)] [] _
  refine gJ_iload_n dX12_next_0 rfl rfl ?_
  refine gJ_iconst (v := 1) dX12_next_1 (by decide) ?_
  refine gJ_bipush (v := 100) dX12_next_2 (by decide) ?_
  refine gJ_callS (As := [_, _, _]) b_X12_isIn lX12_35 i_X12_isIn dX12_next_4 (c12_isIn _ _ _) rfl (Nat.le_of_ble_eq_true rfl) rfl (by decide) (fun M4 v_ h4 => ?_)
  obtain ⟨e4, rfl⟩ := h4
  replace e4 := e4.symm
  subst e4
  refine gJ_if_eqB (tgt := 19) dX12_next_7 (by decide) (fun c7 => ?_) (fun c7 => ?_)
  · refine gJ_bipush (v := -2) dX12_next_19 (by decide) ?_
    refine gJ_iret dX12_next_21 rfl ?_
    have hA : aNext (V, S) x = -2 := by simp only [aNext, mIn, c7, Bool.false_eq_true, ↓reduceIte]
    rw [hA]
    exact ⟨Or.inl rfl, rfl⟩
  · obtain ⟨n, hn1, hn0, hn2, hn3⟩ := mIn_nat (lo := 1) (hi := 100) c7 (by decide)
    subst hn2
    refine gJ_aload_n dX12_next_10 rfl rfl ?_
    refine gJ_iload_n dX12_next_11 rfl rfl ?_
    refine gJ_iconst (v := 1) dX12_next_12 (by decide) ?_
    refine gJ_callV (As := [_, _]) b_X12_looks lX12_176 i_X12_looks s_X12_looks dX12_next_13 (c12_looks1 hm hV hS hK hKS hI n hn1) (by first | with_reducible assumption | with_reducible exact gUp_s | with_reducible exact gUp_n (by with_reducible assumption) (by omega) | exact gUp_n (by assumption) (by omega) | assumption) rfl rfl (Nat.le_of_ble_eq_true rfl) rfl (by decide) (fun M13 v_ h13 => ?_)
    obtain ⟨e13, rfl⟩ := h13
    replace e13 := e13.symm
    subst e13
    refine gJ_goto (tgt := 21) dX12_next_16 (by decide) ?_
    refine gJ_iret dX12_next_21 rfl ?_
    have hA : aNext (V, S) (nI n) = mNx (V, S) n := by simp only [aNext, mIn, c7, hn3, ↓reduceIte]
    rw [hA]
    exact ⟨Or.inr rfl, rfl⟩
end MODEL
