/-! THE REFERENCE'S PUBLIC METHODS: answer and new row -/
def mIn (x lo hi : Int32) : Bool := decide (lo ≤ x) && decide (x ≤ hi)
theorem mIn_nat {x : Int32} {lo hi : Nat} (h : (decide (nI lo ≤ x) && decide (x ≤ nI hi)) = true) (hh : hi < 2 ^ 31) (hlo : lo < 2 ^ 31 := by decide) : ∃ n, n ≤ hi ∧ lo ≤ n ∧ x = nI n ∧ x.toNatClampNeg = n := by
  simp only [Bool.and_eq_true, decide_eq_true_eq] at h
  obtain ⟨h1, h2⟩ := h
  have h0 : ¬ x < 0 := by
    intro h3
    have h4 := Int32.le_trans (nI_pos' hlo) h1
    exact absurd h3 (Int32.not_lt.mpr h4)
  obtain ⟨j, hj, rfl⟩ := nI_of h0
  exact ⟨j, (nI_leI hj hh).mp h2, (nI_leI hlo hj).mp h1, rfl, nI_clamp hj⟩
def aLabel (V : Nat → Int32) (s l x : Int32) : Int32 × (Nat → Int32) := if (mIn s 0 11 && mIn l 0 2) = true then (if mIn x 0 (if l.toNatClampNeg = 1 then 7 else 3) = true then (V (0 + 3 * s.toNatClampNeg + l.toNatClampNeg), upd V (0 + 3 * s.toNatClampNeg + l.toNatClampNeg) x) else (-2, V)) else (-1, V)
def aSample (V : Nat → Int32) (s x : Int32) : Int32 × (Nat → Int32) := if mIn s 0 11 = true then (V (48 + s.toNatClampNeg), upd (upd V (48 + s.toNatClampNeg) 1) (36 + s.toNatClampNeg) x) else (-1, V)
def aDrop (V : Nat → Int32) (s : Int32) : Int32 × (Nat → Int32) := if mIn s 0 11 = true then (V (48 + s.toNatClampNeg), upd (upd V (48 + s.toNatClampNeg) 0) (36 + s.toNatClampNeg) 0) else (-1, V)
section MODEL
variable {G : gG} {M : gM} {m : Nat} {hi tn at_ fa : Int32} {V : Nat → Int32} {S : Nat → Int64}
theorem c12_label (hm : M.1 m = some (mO m hi tn at_ fa)) (hV : M.1 (m + 1) = some (gI 1999 V)) (s l x : Int32) : gCon G kX12_label 1 0 0 M [.ref m, .int s, .int l, .int x] (fun M2 v => M2 = gUp M (m + 1) (gI 1999 (aLabel V s l x).2) ∧ v = some (.int (aLabel V s l x).1)) := by
  refine gCon_of (by decide) (Nat.le_of_ble_eq_true rfl) ?_
  show gJ _ _ _ _ _ _ 0 [(0, _), (1, _), (2, _), (3, _)] [] _
  refine gJ_iload_n dX12_label_0 rfl rfl ?_
  refine gJ_iconst (v := 0) dX12_label_1 (by decide) ?_
  refine gJ_bipush (v := 11) dX12_label_2 (by decide) ?_
  refine gJ_callS (As := [_, _, _]) b_X12_isIn lX12_35 i_X12_isIn dX12_label_4 (c12_isIn _ _ _) rfl (Nat.le_of_ble_eq_true rfl) rfl (by decide) (fun M4 v_ h4 => ?_)
  obtain ⟨e4, rfl⟩ := h4
  subst e4
  refine gJ_if_eqB (tgt := 19) dX12_label_7 (by decide) (fun c7 => ?_) (fun c7 => ?_)
  · refine gJ_iconst (v := -1) dX12_label_19 (by decide) ?_
    refine gJ_iret dX12_label_20 rfl ?_
    have hA : aLabel V s l x = (-1, V) := by simp only [aLabel, mIn, c7, Bool.false_and, Bool.false_eq_true, ↓reduceIte]
    rw [hA, gUp_id hV]
    exact ⟨rfl, rfl⟩
  · refine gJ_iload_n dX12_label_10 rfl rfl ?_
    refine gJ_iconst (v := 0) dX12_label_11 (by decide) ?_
    refine gJ_iconst (v := 2) dX12_label_12 (by decide) ?_
    refine gJ_callS (As := [_, _, _]) b_X12_isIn lX12_35 i_X12_isIn dX12_label_13 (c12_isIn _ _ _) rfl (Nat.le_of_ble_eq_true rfl) rfl (by decide) (fun M13 v_ h13 => ?_)
    obtain ⟨e13, rfl⟩ := h13
    subst e13
    refine gJ_if_neB (tgt := 21) dX12_label_16 (by decide) (fun c16 => ?_) (fun c16 => ?_)
    · obtain ⟨s', hs1, hs0, hs2, hs3⟩ := mIn_nat (lo := 0) (hi := 11) c7 (by decide)
      obtain ⟨l', hl1, hl0, hl2, hl3⟩ := mIn_nat (lo := 0) (hi := 2) c16 (by decide)
      subst hs2 hl2
      refine gJ_iload_n dX12_label_21 rfl rfl ?_
      refine gJ_iconst (v := 0) dX12_label_22 (by decide) ?_
      refine gJ_iload_n dX12_label_23 rfl rfl ?_
      refine gJ_iconst (v := 1) dX12_label_24 (by decide) ?_
      refine gJ_icmp_neN (tgt := 33) (a := l') (b := 1) (by first | with_reducible rfl | rfl) (by first | with_reducible rfl | rfl) (by omega) (by omega) dX12_label_25 (by decide) (fun c25 => ?_) (fun c25 => ?_)
      · refine gJ_iconst (v := 3) dX12_label_33 (by decide) ?_
        refine gJ_callS (As := [_, _, _]) b_X12_isIn lX12_35 i_X12_isIn dX12_label_34 (c12_isIn _ _ _) rfl (Nat.le_of_ble_eq_true rfl) rfl (by decide) (fun M34 v_ h34 => ?_)
        obtain ⟨e34, rfl⟩ := h34
        subst e34
        refine gJ_if_neB (tgt := 43) dX12_label_37 (by decide) (fun c37 => ?_) (fun c37 => ?_)
        · refine gJ_aload_n dX12_label_43 rfl rfl ?_
          refine gJ_get fX12_9 dX12_label_44 (by first | with_reducible assumption | with_reducible exact gUp_s | with_reducible exact gUp_n (by with_reducible assumption) (by omega) | exact gUp_n (by assumption) (by omega) | assumption) rfl ?_
          refine gJ_iconst (v := 0) dX12_label_47 (by decide) ?_
          refine gJ_iconst (v := 3) dX12_label_48 (by decide) ?_
          refine gJ_iload_n dX12_label_49 rfl rfl ?_
          refine gJ_imulN (a := 3) (b := s') dX12_label_50 (by first | with_reducible rfl | rfl) (by first | with_reducible rfl | rfl) ?_
          refine gJ_iaddN (a := 0) (b := (3 * s')) dX12_label_51 (by first | with_reducible rfl | rfl) (by first | with_reducible rfl | rfl) ?_
          refine gJ_iload_n dX12_label_52 rfl rfl ?_
          refine gJ_iaddN (a := (0 + (3 * s'))) (b := l') dX12_label_53 (by first | with_reducible rfl | rfl) (by first | with_reducible rfl | rfl) ?_
          refine gJ_ialdN (j := ((0 + (3 * s')) + l')) dX12_label_54 (by first | with_reducible assumption | with_reducible exact gUp_s | with_reducible exact gUp_n (by with_reducible assumption) (by omega) | exact gUp_n (by assumption) (by omega) | assumption) (by first | with_reducible rfl | rfl) (by omega) (by decide) ?_
          refine gJ_istore (lv2 := [(4, _), (0, _), (1, _), (2, _), (3, _)]) dX12_label_55 rfl rfl ?_
          refine gJ_aload_n dX12_label_57 rfl rfl ?_
          refine gJ_get fX12_9 dX12_label_58 (by first | with_reducible assumption | with_reducible exact gUp_s | with_reducible exact gUp_n (by with_reducible assumption) (by omega) | exact gUp_n (by assumption) (by omega) | assumption) rfl ?_
          refine gJ_iconst (v := 0) dX12_label_61 (by decide) ?_
          refine gJ_iconst (v := 3) dX12_label_62 (by decide) ?_
          refine gJ_iload_n dX12_label_63 rfl rfl ?_
          refine gJ_imulN (a := 3) (b := s') dX12_label_64 (by first | with_reducible rfl | rfl) (by first | with_reducible rfl | rfl) ?_
          refine gJ_iaddN (a := 0) (b := (3 * s')) dX12_label_65 (by first | with_reducible rfl | rfl) (by first | with_reducible rfl | rfl) ?_
          refine gJ_iload_n dX12_label_66 rfl rfl ?_
          refine gJ_iaddN (a := (0 + (3 * s'))) (b := l') dX12_label_67 (by first | with_reducible rfl | rfl) (by first | with_reducible rfl | rfl) ?_
          refine gJ_iload_n dX12_label_68 rfl rfl ?_
          refine gJ_iastN (j := ((0 + (3 * s')) + l')) dX12_label_69 (by first | with_reducible assumption | with_reducible exact gUp_s | with_reducible exact gUp_n (by with_reducible assumption) (by omega) | exact gUp_n (by assumption) (by omega) | assumption) (by first | with_reducible rfl | rfl) (by omega) (by decide) ?_
          try rw [gUp_up]
          refine gJ_iload dX12_label_70 rfl ?_
          refine gJ_iret dX12_label_72 rfl ?_
          have hA : aLabel V (nI s') (nI l') x = (V (0 + 3 * s' + l'), upd V (0 + 3 * s' + l') x) := by simp only [aLabel, mIn, hs3, hl3, c7, c16, Bool.and_self, ↓reduceIte]; simp only [c25, c37, eq_self, ↓reduceIte]
          rw [hA]
          exact ⟨rfl, rfl⟩
        · refine gJ_bipush (v := -2) dX12_label_40 (by decide) ?_
          refine gJ_iret dX12_label_42 rfl ?_
          have hA : aLabel V (nI s') (nI l') x = (-2, V) := by simp only [aLabel, mIn, hs3, hl3, c7, c16, Bool.and_self, ↓reduceIte]; simp only [c25, c37, eq_self, Bool.false_eq_true, ↓reduceIte]
          rw [hA, gUp_id hV]
          exact ⟨rfl, rfl⟩
      · refine gJ_bipush (v := 7) dX12_label_28 (by decide) ?_
        refine gJ_goto (tgt := 34) dX12_label_30 (by decide) ?_
        refine gJ_callS (As := [_, _, _]) b_X12_isIn lX12_35 i_X12_isIn dX12_label_34 (c12_isIn _ _ _) rfl (Nat.le_of_ble_eq_true rfl) rfl (by decide) (fun M34 v_ h34 => ?_)
        obtain ⟨e34, rfl⟩ := h34
        subst e34
        refine gJ_if_neB (tgt := 43) dX12_label_37 (by decide) (fun c37 => ?_) (fun c37 => ?_)
        · refine gJ_aload_n dX12_label_43 rfl rfl ?_
          refine gJ_get fX12_9 dX12_label_44 (by first | with_reducible assumption | with_reducible exact gUp_s | with_reducible exact gUp_n (by with_reducible assumption) (by omega) | exact gUp_n (by assumption) (by omega) | assumption) rfl ?_
          refine gJ_iconst (v := 0) dX12_label_47 (by decide) ?_
          refine gJ_iconst (v := 3) dX12_label_48 (by decide) ?_
          refine gJ_iload_n dX12_label_49 rfl rfl ?_
          refine gJ_imulN (a := 3) (b := s') dX12_label_50 (by first | with_reducible rfl | rfl) (by first | with_reducible rfl | rfl) ?_
          refine gJ_iaddN (a := 0) (b := (3 * s')) dX12_label_51 (by first | with_reducible rfl | rfl) (by first | with_reducible rfl | rfl) ?_
          refine gJ_iload_n dX12_label_52 rfl rfl ?_
          refine gJ_iaddN (a := (0 + (3 * s'))) (b := l') dX12_label_53 (by first | with_reducible rfl | rfl) (by first | with_reducible rfl | rfl) ?_
          refine gJ_ialdN (j := ((0 + (3 * s')) + l')) dX12_label_54 (by first | with_reducible assumption | with_reducible exact gUp_s | with_reducible exact gUp_n (by with_reducible assumption) (by omega) | exact gUp_n (by assumption) (by omega) | assumption) (by first | with_reducible rfl | rfl) (by omega) (by decide) ?_
          refine gJ_istore (lv2 := [(4, _), (0, _), (1, _), (2, _), (3, _)]) dX12_label_55 rfl rfl ?_
          refine gJ_aload_n dX12_label_57 rfl rfl ?_
          refine gJ_get fX12_9 dX12_label_58 (by first | with_reducible assumption | with_reducible exact gUp_s | with_reducible exact gUp_n (by with_reducible assumption) (by omega) | exact gUp_n (by assumption) (by omega) | assumption) rfl ?_
          refine gJ_iconst (v := 0) dX12_label_61 (by decide) ?_
          refine gJ_iconst (v := 3) dX12_label_62 (by decide) ?_
          refine gJ_iload_n dX12_label_63 rfl rfl ?_
          refine gJ_imulN (a := 3) (b := s') dX12_label_64 (by first | with_reducible rfl | rfl) (by first | with_reducible rfl | rfl) ?_
          refine gJ_iaddN (a := 0) (b := (3 * s')) dX12_label_65 (by first | with_reducible rfl | rfl) (by first | with_reducible rfl | rfl) ?_
          refine gJ_iload_n dX12_label_66 rfl rfl ?_
          refine gJ_iaddN (a := (0 + (3 * s'))) (b := l') dX12_label_67 (by first | with_reducible rfl | rfl) (by first | with_reducible rfl | rfl) ?_
          refine gJ_iload_n dX12_label_68 rfl rfl ?_
          refine gJ_iastN (j := ((0 + (3 * s')) + l')) dX12_label_69 (by first | with_reducible assumption | with_reducible exact gUp_s | with_reducible exact gUp_n (by with_reducible assumption) (by omega) | exact gUp_n (by assumption) (by omega) | assumption) (by first | with_reducible rfl | rfl) (by omega) (by decide) ?_
          try rw [gUp_up]
          refine gJ_iload dX12_label_70 rfl ?_
          refine gJ_iret dX12_label_72 rfl ?_
          have hA : aLabel V (nI s') (nI l') x = (V (0 + 3 * s' + l'), upd V (0 + 3 * s' + l') x) := by simp only [aLabel, mIn, hs3, hl3, c7, c16, Bool.and_self, ↓reduceIte]; simp only [c25, c37, eq_self, ↓reduceIte]
          rw [hA]
          exact ⟨rfl, rfl⟩
        · refine gJ_bipush (v := -2) dX12_label_40 (by decide) ?_
          refine gJ_iret dX12_label_42 rfl ?_
          have hA : aLabel V (nI s') (nI l') x = (-2, V) := by simp only [aLabel, mIn, hs3, hl3, c7, c16, Bool.and_self, ↓reduceIte]; simp only [c25, c37, eq_self, Bool.false_eq_true, ↓reduceIte]
          rw [hA, gUp_id hV]
          exact ⟨rfl, rfl⟩
    · refine gJ_iconst (v := -1) dX12_label_19 (by decide) ?_
      refine gJ_iret dX12_label_20 rfl ?_
      have hA : aLabel V s l x = (-1, V) := by simp only [aLabel, mIn, c7, c16, Bool.and_false, Bool.false_eq_true, ↓reduceIte]
      rw [hA, gUp_id hV]
      exact ⟨rfl, rfl⟩
theorem c12_sample (hm : M.1 m = some (mO m hi tn at_ fa)) (hV : M.1 (m + 1) = some (gI 1999 V)) (s x : Int32) : gCon G kX12_sample 1 0 0 M [.ref m, .int s, .int x] (fun M2 v => M2 = gUp M (m + 1) (gI 1999 (aSample V s x).2) ∧ v = some (.int (aSample V s x).1)) := by
  refine gCon_of (by decide) (Nat.le_of_ble_eq_true rfl) ?_
  show gJ _ _ _ _ _ _ 0 [(0, _), (1, _), (2, _)] [] _
  refine gJ_iload_n dX12_sample_0 rfl rfl ?_
  refine gJ_iconst (v := 0) dX12_sample_1 (by decide) ?_
  refine gJ_bipush (v := 11) dX12_sample_2 (by decide) ?_
  refine gJ_callS (As := [_, _, _]) b_X12_isIn lX12_35 i_X12_isIn dX12_sample_4 (c12_isIn _ _ _) rfl (Nat.le_of_ble_eq_true rfl) rfl (by decide) (fun M4 v_ h4 => ?_)
  obtain ⟨e4, rfl⟩ := h4
  subst e4
  refine gJ_if_neB (tgt := 12) dX12_sample_7 (by decide) (fun c7 => ?_) (fun c7 => ?_)
  · obtain ⟨s', hs1, hs0, hs2, hs3⟩ := mIn_nat (lo := 0) (hi := 11) c7 (by decide)
    subst hs2
    refine gJ_aload_n dX12_sample_12 rfl rfl ?_
    refine gJ_get fX12_9 dX12_sample_13 (by first | with_reducible assumption | with_reducible exact gUp_s | with_reducible exact gUp_n (by with_reducible assumption) (by omega) | exact gUp_n (by assumption) (by omega) | assumption) rfl ?_
    refine gJ_bipush (v := 48) dX12_sample_16 (by decide) ?_
    refine gJ_iload_n dX12_sample_18 rfl rfl ?_
    refine gJ_iaddN (a := 48) (b := s') dX12_sample_19 (by first | with_reducible rfl | rfl) (by first | with_reducible rfl | rfl) ?_
    refine gJ_ialdN (j := (48 + s')) dX12_sample_20 (by first | with_reducible assumption | with_reducible exact gUp_s | with_reducible exact gUp_n (by with_reducible assumption) (by omega) | exact gUp_n (by assumption) (by omega) | assumption) (by first | with_reducible rfl | rfl) (by omega) (by decide) ?_
    refine gJ_istore_n (lv2 := [(3, _), (0, _), (1, _), (2, _)]) dX12_sample_21 rfl rfl rfl ?_
    refine gJ_aload_n dX12_sample_22 rfl rfl ?_
    refine gJ_get fX12_9 dX12_sample_23 (by first | with_reducible assumption | with_reducible exact gUp_s | with_reducible exact gUp_n (by with_reducible assumption) (by omega) | exact gUp_n (by assumption) (by omega) | assumption) rfl ?_
    refine gJ_bipush (v := 48) dX12_sample_26 (by decide) ?_
    refine gJ_iload_n dX12_sample_28 rfl rfl ?_
    refine gJ_iaddN (a := 48) (b := s') dX12_sample_29 (by first | with_reducible rfl | rfl) (by first | with_reducible rfl | rfl) ?_
    refine gJ_iconst (v := 1) dX12_sample_30 (by decide) ?_
    refine gJ_iastN (j := (48 + s')) dX12_sample_31 (by first | with_reducible assumption | with_reducible exact gUp_s | with_reducible exact gUp_n (by with_reducible assumption) (by omega) | exact gUp_n (by assumption) (by omega) | assumption) (by first | with_reducible rfl | rfl) (by omega) (by decide) ?_
    try rw [gUp_up]
    refine gJ_aload_n dX12_sample_32 rfl rfl ?_
    refine gJ_get fX12_9 dX12_sample_33 (by first | with_reducible assumption | with_reducible exact gUp_s | with_reducible exact gUp_n (by with_reducible assumption) (by omega) | exact gUp_n (by assumption) (by omega) | assumption) rfl ?_
    refine gJ_bipush (v := 36) dX12_sample_36 (by decide) ?_
    refine gJ_iload_n dX12_sample_38 rfl rfl ?_
    refine gJ_iaddN (a := 36) (b := s') dX12_sample_39 (by first | with_reducible rfl | rfl) (by first | with_reducible rfl | rfl) ?_
    refine gJ_iload_n dX12_sample_40 rfl rfl ?_
    refine gJ_iastN (j := (36 + s')) dX12_sample_41 (by first | with_reducible assumption | with_reducible exact gUp_s | with_reducible exact gUp_n (by with_reducible assumption) (by omega) | exact gUp_n (by assumption) (by omega) | assumption) (by first | with_reducible rfl | rfl) (by omega) (by decide) ?_
    try rw [gUp_up]
    refine gJ_iload_n dX12_sample_42 rfl rfl ?_
    refine gJ_iret dX12_sample_43 rfl ?_
    have hA : aSample V (nI s') x = (V (48 + s'), upd (upd V (48 + s') 1) (36 + s') x) := by simp only [aSample, mIn, c7, hs3, ↓reduceIte]
    rw [hA]
    exact ⟨rfl, rfl⟩
  · refine gJ_iconst (v := -1) dX12_sample_10 (by decide) ?_
    refine gJ_iret dX12_sample_11 rfl ?_
    have hA : aSample V s x = (-1, V) := by simp only [aSample, mIn, c7, Bool.false_eq_true, ↓reduceIte]
    rw [hA, gUp_id hV]
    exact ⟨rfl, rfl⟩
theorem c12_drop (hm : M.1 m = some (mO m hi tn at_ fa)) (hV : M.1 (m + 1) = some (gI 1999 V)) (s : Int32) : gCon G kX12_drop 1 0 0 M [.ref m, .int s] (fun M2 v => M2 = gUp M (m + 1) (gI 1999 (aDrop V s).2) ∧ v = some (.int (aDrop V s).1)) := by
  refine gCon_of (by decide) (Nat.le_of_ble_eq_true rfl) ?_
  show gJ _ _ _ _ _ _ 0 [(0, _), (1, _)] [] _
  refine gJ_iload_n dX12_drop_0 rfl rfl ?_
  refine gJ_iconst (v := 0) dX12_drop_1 (by decide) ?_
  refine gJ_bipush (v := 11) dX12_drop_2 (by decide) ?_
  refine gJ_callS (As := [_, _, _]) b_X12_isIn lX12_35 i_X12_isIn dX12_drop_4 (c12_isIn _ _ _) rfl (Nat.le_of_ble_eq_true rfl) rfl (by decide) (fun M4 v_ h4 => ?_)
  obtain ⟨e4, rfl⟩ := h4
  subst e4
  refine gJ_if_neB (tgt := 12) dX12_drop_7 (by decide) (fun c7 => ?_) (fun c7 => ?_)
  · obtain ⟨s', hs1, hs0, hs2, hs3⟩ := mIn_nat (lo := 0) (hi := 11) c7 (by decide)
    subst hs2
    refine gJ_aload_n dX12_drop_12 rfl rfl ?_
    refine gJ_get fX12_9 dX12_drop_13 (by first | with_reducible assumption | with_reducible exact gUp_s | with_reducible exact gUp_n (by with_reducible assumption) (by omega) | exact gUp_n (by assumption) (by omega) | assumption) rfl ?_
    refine gJ_bipush (v := 48) dX12_drop_16 (by decide) ?_
    refine gJ_iload_n dX12_drop_18 rfl rfl ?_
    refine gJ_iaddN (a := 48) (b := s') dX12_drop_19 (by first | with_reducible rfl | rfl) (by first | with_reducible rfl | rfl) ?_
    refine gJ_ialdN (j := (48 + s')) dX12_drop_20 (by first | with_reducible assumption | with_reducible exact gUp_s | with_reducible exact gUp_n (by with_reducible assumption) (by omega) | exact gUp_n (by assumption) (by omega) | assumption) (by first | with_reducible rfl | rfl) (by omega) (by decide) ?_
    refine gJ_istore_n (lv2 := [(2, _), (0, _), (1, _)]) dX12_drop_21 rfl rfl rfl ?_
    refine gJ_aload_n dX12_drop_22 rfl rfl ?_
    refine gJ_get fX12_9 dX12_drop_23 (by first | with_reducible assumption | with_reducible exact gUp_s | with_reducible exact gUp_n (by with_reducible assumption) (by omega) | exact gUp_n (by assumption) (by omega) | assumption) rfl ?_
    refine gJ_bipush (v := 48) dX12_drop_26 (by decide) ?_
    refine gJ_iload_n dX12_drop_28 rfl rfl ?_
    refine gJ_iaddN (a := 48) (b := s') dX12_drop_29 (by first | with_reducible rfl | rfl) (by first | with_reducible rfl | rfl) ?_
    refine gJ_iconst (v := 0) dX12_drop_30 (by decide) ?_
    refine gJ_iastN (j := (48 + s')) dX12_drop_31 (by first | with_reducible assumption | with_reducible exact gUp_s | with_reducible exact gUp_n (by with_reducible assumption) (by omega) | exact gUp_n (by assumption) (by omega) | assumption) (by first | with_reducible rfl | rfl) (by omega) (by decide) ?_
    try rw [gUp_up]
    refine gJ_aload_n dX12_drop_32 rfl rfl ?_
    refine gJ_get fX12_9 dX12_drop_33 (by first | with_reducible assumption | with_reducible exact gUp_s | with_reducible exact gUp_n (by with_reducible assumption) (by omega) | exact gUp_n (by assumption) (by omega) | assumption) rfl ?_
    refine gJ_bipush (v := 36) dX12_drop_36 (by decide) ?_
    refine gJ_iload_n dX12_drop_38 rfl rfl ?_
    refine gJ_iaddN (a := 36) (b := s') dX12_drop_39 (by first | with_reducible rfl | rfl) (by first | with_reducible rfl | rfl) ?_
    refine gJ_iconst (v := 0) dX12_drop_40 (by decide) ?_
    refine gJ_iastN (j := (36 + s')) dX12_drop_41 (by first | with_reducible assumption | with_reducible exact gUp_s | with_reducible exact gUp_n (by with_reducible assumption) (by omega) | exact gUp_n (by assumption) (by omega) | assumption) (by first | with_reducible rfl | rfl) (by omega) (by decide) ?_
    try rw [gUp_up]
    refine gJ_iload_n dX12_drop_42 rfl rfl ?_
    refine gJ_iret dX12_drop_43 rfl ?_
    have hA : aDrop V (nI s') = (V (48 + s'), upd (upd V (48 + s') 0) (36 + s') 0) := by simp only [aDrop, mIn, c7, hs3, ↓reduceIte]
    rw [hA]
    exact ⟨rfl, rfl⟩
  · refine gJ_iconst (v := -1) dX12_drop_10 (by decide) ?_
    refine gJ_iret dX12_drop_11 rfl ?_
    have hA : aDrop V s = (-1, V) := by simp only [aDrop, mIn, c7, Bool.false_eq_true, ↓reduceIte]
    rw [hA, gUp_id hV]
    exact ⟨rfl, rfl⟩
theorem c12_later (hm : M.1 m = some (mO m hi tn at_ fa)) (hV : M.1 (m + 1) = some (gI 1999 V)) (x : Int32) : gCon G kX12_later 0 0 0 M [.ref m, .int x] (fun M2 v => M2 = M ∧ v = some (.int (if V 1847 < x then x else V 1847 + 1))) := by
  refine gCon_of (by decide) (Nat.le_of_ble_eq_true rfl) ?_
  show gJ _ _ _ _ _ _ 0 [(0, _), (1, _)] [] _
  refine gJ_iload_n dX12_later_0 rfl rfl ?_
  refine gJ_aload_n dX12_later_1 rfl rfl ?_
  refine gJ_get fX12_9 dX12_later_2 (by first | with_reducible assumption | with_reducible exact gUp_s | with_reducible exact gUp_n (by with_reducible assumption) (by omega) | exact gUp_n (by assumption) (by omega) | assumption) rfl ?_
  refine gJ_sipush (v := 1847) dX12_later_5 (by decide) ?_
  refine gJ_ialdN (j := 1847) dX12_later_8 (by first | with_reducible assumption | with_reducible exact gUp_s | with_reducible exact gUp_n (by with_reducible assumption) (by omega) | exact gUp_n (by assumption) (by omega) | assumption) (by first | with_reducible rfl | rfl) (by omega) (by decide) ?_
  refine gJ_icmp_le (tgt := 16) dX12_later_9 (by decide) (fun c9 => ?_) (fun c9 => ?_)
  · refine gJ_aload_n dX12_later_16 rfl rfl ?_
    refine gJ_get fX12_9 dX12_later_17 (by first | with_reducible assumption | with_reducible exact gUp_s | with_reducible exact gUp_n (by with_reducible assumption) (by omega) | exact gUp_n (by assumption) (by omega) | assumption) rfl ?_
    refine gJ_sipush (v := 1847) dX12_later_20 (by decide) ?_
    refine gJ_ialdN (j := 1847) dX12_later_23 (by first | with_reducible assumption | with_reducible exact gUp_s | with_reducible exact gUp_n (by with_reducible assumption) (by omega) | exact gUp_n (by assumption) (by omega) | assumption) (by first | with_reducible rfl | rfl) (by omega) (by decide) ?_
    refine gJ_iconst (v := 1) dX12_later_24 (by decide) ?_
    refine gJ_iadd dX12_later_25 ?_
    refine gJ_iret dX12_later_26 rfl ?_
    refine ⟨rfl, ?_⟩
    first | rw [if_neg (Int32.not_lt.mpr c9)] | rw [if_pos (Int32.not_le.mp c9)]
  · refine gJ_iload_n dX12_later_12 rfl rfl ?_
    refine gJ_goto (tgt := 26) dX12_later_13 (by decide) ?_
    refine gJ_iret dX12_later_26 rfl ?_
    refine ⟨rfl, ?_⟩
    first | rw [if_neg (Int32.not_lt.mpr c9)] | rw [if_pos (Int32.not_le.mp c9)]
end MODEL
