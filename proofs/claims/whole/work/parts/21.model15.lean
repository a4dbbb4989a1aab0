def mSum (f : Nat → Int32) : Nat → Int32
  | 0 => 0
  | n + 1 => mSum f n + f n
theorem mIn_pred {x : Int32} {n : Nat} (h : (decide (0 ≤ x) && decide (x ≤ nI n - 1)) = true) (hn : n < 2 ^ 31) : ∃ i, i < n ∧ x = nI i ∧ x.toNatClampNeg = i := by
  by_cases h0 : n = 0
  · subst h0
    simp only [Bool.and_eq_true, decide_eq_true_eq] at h
    exact absurd (Int32.le_trans h.1 h.2) (by decide)
  · have e : nI n - 1 = nI (n - 1) := pk_sub (b := 1) (by omega)
    rw [e] at h
    obtain ⟨i, h1, h2, h3, h4⟩ := mIn_nat (lo := 0) (hi := n - 1) h (by omega)
    exact ⟨i, by omega, h3, h4⟩
section MODEL
variable {G : gG} {M : gM} {m : Nat} {hi tn at_ fa : Int32} {V K IV : Nat → Int32} {S KS IS : Nat → Int64}
set_option maxRecDepth 20000 in
theorem c12_sent (hm : M.1 m = some (mO m hi tn at_ fa)) (hV : M.1 (m + 1) = some (gI 1999 V)) (n : Nat) (hn : n < 2 ^ 31) (hVn : V 1848 = nI n) (i w : Int32) : gCon G kX12_sent 1 0 0 M [.ref m, .int i, .int w] (fun M2 v => M2 = M ∧ v = some (.int (aSent V i w))) := by
  have h30 : (V 1848 < 30) ↔ n < 30 := by rw [hVn]; exact nI_ltI (b := 30) hn (by decide)
  refine gCon_of (by decide) (Nat.le_of_ble_eq_true rfl) ?_
  show gJ _ _ _ _ _ _ 0 [(0, _), (1, _), (2, _)] [] _
  refine gJ_aload_n dX12_sent_0 rfl rfl ?_
  refine gJ_get fX12_9 dX12_sent_1 (by first | with_reducible assumption | with_reducible exact gUp_s | with_reducible exact gUp_n (by with_reducible assumption) (by omega) | exact gUp_n (by assumption) (by omega) | assumption) rfl ?_
  refine gJ_sipush (v := 1848) dX12_sent_4 (by decide) ?_
  refine gJ_ialdN (j := 1848) dX12_sent_7 (by first | with_reducible assumption | with_reducible exact gUp_s | with_reducible exact gUp_n (by with_reducible assumption) (by omega) | exact gUp_n (by assumption) (by omega) | assumption) (by first | with_reducible rfl | rfl) (by omega) (by decide) ?_
  rw [hVn]
  refine gJ_bipush (v := 30) dX12_sent_8 (by decide) ?_
  refine gJ_icmp_geN (tgt := 24) (a := n) (b := 30) (by first | with_reducible rfl | rfl) (by first | with_reducible rfl | rfl) (by omega) (by omega) dX12_sent_10 (by decide) (fun c10 => ?_) (fun c10 => ?_)
  · refine gJ_bipush (v := 30) dX12_sent_24 (by decide) ?_
    refine gJ_istore_n (lv2 := [(3, _), (0, _), (1, _), (2, _)]) dX12_sent_26 rfl rfl rfl ?_
    refine gJ_iload_n dX12_sent_27 rfl rfl ?_
    refine gJ_iconst (v := 0) dX12_sent_28 (by decide) ?_
    refine gJ_iload_n dX12_sent_29 rfl rfl ?_
    refine gJ_iconst (v := 1) dX12_sent_30 (by decide) ?_
    refine gJ_isub dX12_sent_31 ?_
    refine gJ_callS (As := [_, _, _]) b_X12_isIn lX12_35 i_X12_isIn dX12_sent_32 (c12_isIn _ _ _) rfl (Nat.le_of_ble_eq_true rfl) rfl (by decide) (fun M32 v_ h32 => ?_)
    obtain ⟨e32, rfl⟩ := h32
    replace e32 := e32.symm
    subst e32
    refine gJ_if_eqB (tgt := 64) dX12_sent_35 (by decide) (fun c35 => ?_) (fun c35 => ?_)
    · refine gJ_iconst (v := -1) dX12_sent_64 (by decide) ?_
      refine gJ_iret dX12_sent_65 rfl ?_
      have hA : aSent V i w = -1 := by rw [aSent, if_neg (fun h => absurd (h30.mp h) (by omega) : ¬ V 1848 < 30), mIn, c35, Bool.false_and]; rfl
      rw [hA]
      exact ⟨rfl, rfl⟩
    · refine gJ_iload_n dX12_sent_38 rfl rfl ?_
      refine gJ_iconst (v := 0) dX12_sent_39 (by decide) ?_
      refine gJ_iconst (v := 4) dX12_sent_40 (by decide) ?_
      refine gJ_callS (As := [_, _, _]) b_X12_isIn lX12_35 i_X12_isIn dX12_sent_41 (c12_isIn _ _ _) rfl (Nat.le_of_ble_eq_true rfl) rfl (by decide) (fun M41 v_ h41 => ?_)
      obtain ⟨e41, rfl⟩ := h41
      replace e41 := e41.symm
      subst e41
      refine gJ_if_eqB (tgt := 64) dX12_sent_44 (by decide) (fun c44 => ?_) (fun c44 => ?_)
      · refine gJ_iconst (v := -1) dX12_sent_64 (by decide) ?_
        refine gJ_iret dX12_sent_65 rfl ?_
        have hA : aSent V i w = -1 := by rw [aSent, if_neg (fun h => absurd (h30.mp h) (by omega) : ¬ V 1848 < 30), mIn, mIn, c44, Bool.and_false]; rfl
        rw [hA]
        exact ⟨rfl, rfl⟩
      · obtain ⟨i', hi1, hi2, hi3⟩ := mIn_pred (n := 30) c35 (by decide)
        obtain ⟨w', hw1, hw0, hw2, hw3⟩ := mIn_nat (lo := 0) (hi := 4) c44 (by decide)
        subst hi2 hw2
        refine gJ_aload_n dX12_sent_47 rfl rfl ?_
        refine gJ_get fX12_9 dX12_sent_48 (by first | with_reducible assumption | with_reducible exact gUp_s | with_reducible exact gUp_n (by with_reducible assumption) (by omega) | exact gUp_n (by assumption) (by omega) | assumption) rfl ?_
        refine gJ_sipush (v := 1849) dX12_sent_51 (by decide) ?_
        refine gJ_iconst (v := 5) dX12_sent_54 (by decide) ?_
        refine gJ_iload_n dX12_sent_55 rfl rfl ?_
        refine gJ_imulN (a := 5) (b := i') dX12_sent_56 (by first | with_reducible rfl | rfl) (by first | with_reducible rfl | rfl) ?_
        refine gJ_iaddN (a := 1849) (b := (5 * i')) dX12_sent_57 (by first | with_reducible rfl | rfl) (by first | with_reducible rfl | rfl) ?_
        refine gJ_iload_n dX12_sent_58 rfl rfl ?_
        refine gJ_iaddN (a := (1849 + (5 * i'))) (b := w') dX12_sent_59 (by first | with_reducible rfl | rfl) (by first | with_reducible rfl | rfl) ?_
        refine gJ_ialdN (j := ((1849 + (5 * i')) + w')) dX12_sent_60 (by first | with_reducible assumption | with_reducible exact gUp_s | with_reducible exact gUp_n (by with_reducible assumption) (by omega) | exact gUp_n (by assumption) (by omega) | assumption) (by first | with_reducible rfl | rfl) (by omega) (by decide) ?_
        refine gJ_goto (tgt := 65) dX12_sent_61 (by decide) ?_
        refine gJ_iret dX12_sent_65 rfl ?_
        have hA : aSent V (nI i') (nI w') = V (1849 + 5 * i' + w') := by rw [aSent, if_neg (fun h => absurd (h30.mp h) (by omega) : ¬ V 1848 < 30), mIn, mIn, c35, c44, hi3, hw3]; rfl
        rw [hA]
        exact ⟨rfl, rfl⟩
  · refine gJ_aload_n dX12_sent_13 rfl rfl ?_
    refine gJ_get fX12_9 dX12_sent_14 (by first | with_reducible assumption | with_reducible exact gUp_s | with_reducible exact gUp_n (by with_reducible assumption) (by omega) | exact gUp_n (by assumption) (by omega) | assumption) rfl ?_
    refine gJ_sipush (v := 1848) dX12_sent_17 (by decide) ?_
    refine gJ_ialdN (j := 1848) dX12_sent_20 (by first | with_reducible assumption | with_reducible exact gUp_s | with_reducible exact gUp_n (by with_reducible assumption) (by omega) | exact gUp_n (by assumption) (by omega) | assumption) (by first | with_reducible rfl | rfl) (by omega) (by decide) ?_
    rw [hVn]
    refine gJ_goto (tgt := 26) dX12_sent_21 (by decide) ?_
    refine gJ_istore_n (lv2 := [(3, _), (0, _), (1, _), (2, _)]) dX12_sent_26 rfl rfl rfl ?_
    refine gJ_iload_n dX12_sent_27 rfl rfl ?_
    refine gJ_iconst (v := 0) dX12_sent_28 (by decide) ?_
    refine gJ_iload_n dX12_sent_29 rfl rfl ?_
    refine gJ_iconst (v := 1) dX12_sent_30 (by decide) ?_
    refine gJ_isub dX12_sent_31 ?_
    refine gJ_callS (As := [_, _, _]) b_X12_isIn lX12_35 i_X12_isIn dX12_sent_32 (c12_isIn _ _ _) rfl (Nat.le_of_ble_eq_true rfl) rfl (by decide) (fun M32 v_ h32 => ?_)
    obtain ⟨e32, rfl⟩ := h32
    replace e32 := e32.symm
    subst e32
    refine gJ_if_eqB (tgt := 64) dX12_sent_35 (by decide) (fun c35 => ?_) (fun c35 => ?_)
    · refine gJ_iconst (v := -1) dX12_sent_64 (by decide) ?_
      refine gJ_iret dX12_sent_65 rfl ?_
      have hA : aSent V i w = -1 := by rw [aSent, if_pos (h30.mpr (by omega) : V 1848 < 30), hVn, mIn, c35, Bool.false_and]; rfl
      rw [hA]
      exact ⟨rfl, rfl⟩
    · refine gJ_iload_n dX12_sent_38 rfl rfl ?_
      refine gJ_iconst (v := 0) dX12_sent_39 (by decide) ?_
      refine gJ_iconst (v := 4) dX12_sent_40 (by decide) ?_
      refine gJ_callS (As := [_, _, _]) b_X12_isIn lX12_35 i_X12_isIn dX12_sent_41 (c12_isIn _ _ _) rfl (Nat.le_of_ble_eq_true rfl) rfl (by decide) (fun M41 v_ h41 => ?_)
      obtain ⟨e41, rfl⟩ := h41
      replace e41 := e41.symm
      subst e41
      refine gJ_if_eqB (tgt := 64) dX12_sent_44 (by decide) (fun c44 => ?_) (fun c44 => ?_)
      · refine gJ_iconst (v := -1) dX12_sent_64 (by decide) ?_
        refine gJ_iret dX12_sent_65 rfl ?_
        have hA : aSent V i w = -1 := by rw [aSent, if_pos (h30.mpr (by omega) : V 1848 < 30), hVn, mIn, mIn, c44, Bool.and_false]; rfl
        rw [hA]
        exact ⟨rfl, rfl⟩
      · obtain ⟨i', hi1, hi2, hi3⟩ := mIn_pred (n := n) c35 hn
        obtain ⟨w', hw1, hw0, hw2, hw3⟩ := mIn_nat (lo := 0) (hi := 4) c44 (by decide)
        subst hi2 hw2
        refine gJ_aload_n dX12_sent_47 rfl rfl ?_
        refine gJ_get fX12_9 dX12_sent_48 (by first | with_reducible assumption | with_reducible exact gUp_s | with_reducible exact gUp_n (by with_reducible assumption) (by omega) | exact gUp_n (by assumption) (by omega) | assumption) rfl ?_
        refine gJ_sipush (v := 1849) dX12_sent_51 (by decide) ?_
        refine gJ_iconst (v := 5) dX12_sent_54 (by decide) ?_
        refine gJ_iload_n dX12_sent_55 rfl rfl ?_
        refine gJ_imulN (a := 5) (b := i') dX12_sent_56 (by first | with_reducible rfl | rfl) (by first | with_reducible rfl | rfl) ?_
        refine gJ_iaddN (a := 1849) (b := (5 * i')) dX12_sent_57 (by first | with_reducible rfl | rfl) (by first | with_reducible rfl | rfl) ?_
        refine gJ_iload_n dX12_sent_58 rfl rfl ?_
        refine gJ_iaddN (a := (1849 + (5 * i'))) (b := w') dX12_sent_59 (by first | with_reducible rfl | rfl) (by first | with_reducible rfl | rfl) ?_
        refine gJ_ialdN (j := ((1849 + (5 * i')) + w')) dX12_sent_60 (by first | with_reducible assumption | with_reducible exact gUp_s | with_reducible exact gUp_n (by with_reducible assumption) (by omega) | exact gUp_n (by assumption) (by omega) | assumption) (by first | with_reducible rfl | rfl) (by omega) (by decide) ?_
        refine gJ_goto (tgt := 65) dX12_sent_61 (by decide) ?_
        refine gJ_iret dX12_sent_65 rfl ?_
        have hA : aSent V (nI i') (nI w') = V (1849 + 5 * i' + w') := by rw [aSent, if_pos (h30.mpr (by omega) : V 1848 < 30), hVn, mIn, mIn, c35, c44, hi3, hw3]; rfl
        rw [hA]
        exact ⟨rfl, rfl⟩
theorem c12_sum_has (hm : M.1 m = some (mO m hi tn at_ fa)) (hV : M.1 (m + 1) = some (gI 1999 V)) (x : Int32) : ∀ (q j : Nat), j + q = 13 → j ≤ 12 →
    gJ G kX12_count 6 0 0 M 103 [(3, .int (nI j)), (2, .int (mSum (fun s => V (48 + s)) j)), (0, .ref m), (1, .int x)] [] (gQ kX12_count (fun M2 v => M2 = M ∧ v = some (.int (mSum (fun s => V (48 + s)) 12)))) := by
  intro q
  induction q with
  | zero => intro j h1 h2; exact absurd h1 (by omega)
  | succ q ih =>
    intro j hq hj
    refine gJ_iload_n dX12_count_103 rfl rfl ?_
    refine gJ_bipush (v := 12) dX12_count_104 (by decide) ?_
    refine gJ_icmp_geN (tgt := 127) (a := j) (b := 12) (by first | with_reducible rfl | rfl) (by first | with_reducible rfl | rfl) (by omega) (by omega) dX12_count_106 (by decide) (fun c106 => ?_) (fun c106 => ?_)
    · refine gJ_iload_n dX12_count_127 rfl rfl ?_
      refine gJ_iret dX12_count_128 rfl ?_
      refine ⟨rfl, ?_⟩
      have e1 : j = 12 := by omega
      subst e1
      rfl
    · refine gJ_iload_n dX12_count_109 rfl rfl ?_
      refine gJ_aload_n dX12_count_110 rfl rfl ?_
      refine gJ_get fX12_9 dX12_count_111 (by first | with_reducible assumption | with_reducible exact gUp_s | with_reducible exact gUp_n (by with_reducible assumption) (by omega) | exact gUp_n (by assumption) (by omega) | assumption) rfl ?_
      refine gJ_bipush (v := 48) dX12_count_114 (by decide) ?_
      refine gJ_iload_n dX12_count_116 rfl rfl ?_
      refine gJ_iaddN (a := 48) (b := j) dX12_count_117 (by first | with_reducible rfl | rfl) (by first | with_reducible rfl | rfl) ?_
      refine gJ_ialdN (j := (48 + j)) dX12_count_118 (by first | with_reducible assumption | with_reducible exact gUp_s | with_reducible exact gUp_n (by with_reducible assumption) (by omega) | exact gUp_n (by assumption) (by omega) | assumption) (by first | with_reducible rfl | rfl) (by omega) (by decide) ?_
      refine gJ_iadd dX12_count_119 ?_
      refine gJ_istore_n (lv2 := [(2, _), (3, _), (0, _), (1, _)]) dX12_count_120 rfl rfl rfl ?_
      refine gJ_iincN (a := j) (b := 1) (lv2 := [(3, _), (2, _), (0, _), (1, _)]) dX12_count_121 rfl rfl rfl rfl ?_
      refine gJ_goto (tgt := 103) dX12_count_124 (by decide) ?_
      exact gJ_ls (ih (j + 1) (by omega) (by omega)) ⟨rfl, rfl, rfl, rfl, trivial⟩
theorem c12_sum_open (hm : M.1 m = some (mO m hi tn at_ fa)) (hV : M.1 (m + 1) = some (gI 1999 V)) (x : Int32) : ∀ (q j : Nat), j + q = 129 → j ≤ 128 →
    gJ G kX12_count 6 0 0 M 140 [(3, .int (nI j)), (2, .int (mSum (fun s => V (1586 + 2 * s)) j)), (0, .ref m), (1, .int x)] [] (gQ kX12_count (fun M2 v => M2 = M ∧ v = some (.int (mSum (fun s => V (1586 + 2 * s)) 128)))) := by
  intro q
  induction q with
  | zero => intro j h1 h2; exact absurd h1 (by omega)
  | succ q ih =>
    intro j hq hj
    refine gJ_iload_n dX12_count_140 rfl rfl ?_
    refine gJ_sipush (v := 128) dX12_count_141 (by decide) ?_
    refine gJ_icmp_geN (tgt := 168) (a := j) (b := 128) (by first | with_reducible rfl | rfl) (by first | with_reducible rfl | rfl) (by omega) (by omega) dX12_count_144 (by decide) (fun c144 => ?_) (fun c144 => ?_)
    · refine gJ_iload_n dX12_count_168 rfl rfl ?_
      refine gJ_iret dX12_count_169 rfl ?_
      refine ⟨rfl, ?_⟩
      have e1 : j = 128 := by omega
      subst e1
      rfl
    · refine gJ_iload_n dX12_count_147 rfl rfl ?_
      refine gJ_aload_n dX12_count_148 rfl rfl ?_
      refine gJ_get fX12_9 dX12_count_149 (by first | with_reducible assumption | with_reducible exact gUp_s | with_reducible exact gUp_n (by with_reducible assumption) (by omega) | exact gUp_n (by assumption) (by omega) | assumption) rfl ?_
      refine gJ_sipush (v := 1586) dX12_count_152 (by decide) ?_
      refine gJ_iconst (v := 2) dX12_count_155 (by decide) ?_
      refine gJ_iload_n dX12_count_156 rfl rfl ?_
      refine gJ_imulN (a := 2) (b := j) dX12_count_157 (by first | with_reducible rfl | rfl) (by first | with_reducible rfl | rfl) ?_
      refine gJ_iaddN (a := 1586) (b := (2 * j)) dX12_count_158 (by first | with_reducible rfl | rfl) (by first | with_reducible rfl | rfl) ?_
      refine gJ_ialdN (j := (1586 + (2 * j))) dX12_count_159 (by first | with_reducible assumption | with_reducible exact gUp_s | with_reducible exact gUp_n (by with_reducible assumption) (by omega) | exact gUp_n (by assumption) (by omega) | assumption) (by first | with_reducible rfl | rfl) (by omega) (by decide) ?_
      refine gJ_iadd dX12_count_160 ?_
      refine gJ_istore_n (lv2 := [(2, _), (3, _), (0, _), (1, _)]) dX12_count_161 rfl rfl rfl ?_
      refine gJ_iincN (a := j) (b := 1) (lv2 := [(3, _), (2, _), (0, _), (1, _)]) dX12_count_162 rfl rfl rfl rfl ?_
      refine gJ_goto (tgt := 140) dX12_count_165 (by decide) ?_
      exact gJ_ls (ih (j + 1) (by omega) (by omega)) ⟨rfl, rfl, rfl, rfl, trivial⟩
end MODEL
