def mSnd (V : Nat → Int32) (key kind : Nat) (x : Int64) : Nat → Int32 := fun i => if i = 1848 then V 1848 + 1 else if i = 1849 then V 1847 else if i = 1850 then nI key else if i = 1851 then nI kind else if i = 1852 then nI (mSize x) else if i = 1853 then (if kind = 3 then -5 else mGr V x 60) else if 1854 ≤ i ∧ i < 1999 then V (i - 5) else if i = 1586 + 2 * key then (if kind = 3 then 0 else 1) else if i = 1586 + 2 * key + 1 then V 1847 else V i
theorem mGr_ext {V W : Nat → Int32} {x : Int64} (h : ∀ a, a < 60 → mSev W a = mSev V a) : ∀ n, n ≤ 60 → mGr W x n = mGr V x n
  | 0, _ => rfl
  | n + 1, hn => by rw [mGr, mGr, mGr_ext h n (by omega), h n (by omega)]
theorem cmp_bit {b : Bool} : lg_cmp (if b then 1 else 0) 1 = 0 ↔ b = true := by rw [lg_cmp_eq, bit_if1]
section MODEL
variable {G : gG} {M : gM} {m : Nat} {hi tn at_ fa : Int32} {V : Nat → Int32} {S : Nat → Int64}
theorem c12_withKey (hm : M.1 m = some (mO m hi tn at_ fa)) (hV : M.1 (m + 1) = some (gI 1999 V)) (x : Int64) (key : Int32) : gCon G kX12_withKey 1 0 0 M [.ref m, .long x, .int key] (fun M2 v => M2 = M ∧ v = some (.long (mWith V x key))) := by
  refine gCon_of (by decide) (Nat.le_of_ble_eq_true rfl) ?_
  have loop : ∀ (q j : Nat), j + q = 61 → j ≤ 60 →
      gJ G kX12_withKey 1 0 0 M 6 [(6, .int (nI j)), (4, .long (lS (mKeyP V x key) j)), (0, .ref m), (1, .long x), (3, .int key)] [] (gQ kX12_withKey (fun M2 v => M2 = M ∧ v = some (.long (mWith V x key)))) := by
    intro q
    induction q with
    | zero => intro j h1 h2; exact absurd h1 (by omega)
    | succ q ih =>
      intro j hq hj
      refine gJ_iload dX12_withKey_6 rfl ?_
      refine gJ_bipush (v := 60) dX12_withKey_8 (by decide) ?_
      refine gJ_icmp_geN (tgt := 53) (a := j) (b := 60) (by first | with_reducible rfl | rfl) (by first | with_reducible rfl | rfl) (by omega) (by omega) dX12_withKey_10 (by decide) (fun c10 => ?_) (fun c10 => ?_)
      · refine gJ_lload dX12_withKey_53 rfl ?_
        refine gJ_lret dX12_withKey_55 rfl ?_
        refine ⟨rfl, ?_⟩
        have e1 : j = 60 := by omega
        subst e1
        rfl
      · refine gJ_lload dX12_withKey_13 rfl ?_
        refine gJ_lload_n dX12_withKey_15 rfl rfl ?_
        refine gJ_iload dX12_withKey_16 rfl ?_
        refine gJ_lshr dX12_withKey_18 ?_
        refine gJ_lconst (v := 1) dX12_withKey_19 (by decide) ?_
        refine gJ_land dX12_withKey_20 ?_
        rw [bit_at x (by omega : j < 64)]
        refine gJ_lconst (v := 1) dX12_withKey_21 (by decide) ?_
        refine gJ_lcmp dX12_withKey_22 ?_
        refine gJ_if_ne (tgt := 43) dX12_withKey_23 (by decide) (fun c23 => ?_) (fun c23 => ?_)
        · refine gJ_lconst (v := 0) dX12_withKey_43 (by decide) ?_
          refine gJ_lor dX12_withKey_44 ?_
          refine gJ_lstore (lv2 := [(4, _), (6, _), (0, _), (1, _), (3, _)]) dX12_withKey_45 rfl rfl ?_
          refine gJ_iincN (a := j) (b := 1) (lv2 := [(6, _), (4, _), (0, _), (1, _), (3, _)]) dX12_withKey_47 rfl rfl rfl rfl ?_
          refine gJ_goto (tgt := 6) dX12_withKey_50 (by decide) ?_
          refine gJ_ls (ih (j + 1) (by omega) (by omega)) ⟨rfl, ?_, rfl, rfl, rfl, trivial⟩
          show some (Value.long _) = some (Value.long _)
          rw [cmp_bit] at c23
          rw [lS]
          rw [show mKeyP V x key j = false by rw [Bool.not_eq_true] at c23; rw [mKeyP, c23, Bool.false_and]]
          rfl
        · refine gJ_aload_n dX12_withKey_26 rfl rfl ?_
          refine gJ_iload dX12_withKey_27 rfl ?_
          refine gJ_callV (As := [_]) b_X12_keyOf lX12_126 i_X12_keyOf s_X12_keyOf dX12_withKey_29 (c12_keyOf hm hV j (by omega)) (by first | assumption | exact gUp_s | exact gUp_n (by assumption) (by omega)) rfl rfl (Nat.le_of_ble_eq_true rfl) rfl (by decide) (fun M29 v_ h29 => ?_)
          obtain ⟨rfl, rfl⟩ := h29
          refine gJ_iload_n dX12_withKey_32 rfl rfl ?_
          refine gJ_icmp_ne (tgt := 43) dX12_withKey_33 (by decide) (fun c33 => ?_) (fun c33 => ?_)
          · refine gJ_lconst (v := 0) dX12_withKey_43 (by decide) ?_
            refine gJ_lor dX12_withKey_44 ?_
            refine gJ_lstore (lv2 := [(4, _), (6, _), (0, _), (1, _), (3, _)]) dX12_withKey_45 rfl rfl ?_
            refine gJ_iincN (a := j) (b := 1) (lv2 := [(6, _), (4, _), (0, _), (1, _), (3, _)]) dX12_withKey_47 rfl rfl rfl rfl ?_
            refine gJ_goto (tgt := 6) dX12_withKey_50 (by decide) ?_
            refine gJ_ls (ih (j + 1) (by omega) (by omega)) ⟨rfl, ?_, rfl, rfl, rfl, trivial⟩
            show some (Value.long _) = some (Value.long _)
            rw [cmp_bit] at c23
            rw [lS]
            rw [show mKeyP V x key j = false by rw [mKeyP, decide_eq_false c33, Bool.and_false]]
            rfl
          · refine gJ_lconst (v := 1) dX12_withKey_36 (by decide) ?_
            refine gJ_iload dX12_withKey_37 rfl ?_
            refine gJ_lshl dX12_withKey_39 ?_
            refine gJ_goto (tgt := 44) dX12_withKey_40 (by decide) ?_
            refine gJ_lor dX12_withKey_44 ?_
            refine gJ_lstore (lv2 := [(4, _), (6, _), (0, _), (1, _), (3, _)]) dX12_withKey_45 rfl rfl ?_
            refine gJ_iincN (a := j) (b := 1) (lv2 := [(6, _), (4, _), (0, _), (1, _), (3, _)]) dX12_withKey_47 rfl rfl rfl rfl ?_
            refine gJ_goto (tgt := 6) dX12_withKey_50 (by decide) ?_
            refine gJ_ls (ih (j + 1) (by omega) (by omega)) ⟨rfl, ?_, rfl, rfl, rfl, trivial⟩
            show some (Value.long _) = some (Value.long _)
            rw [cmp_bit] at c23
            rw [lS]
            rw [show mKeyP V x key j = true by rw [mKeyP, c23, decide_eq_true c33]; rfl]
            rfl
  show gJ _ _ _ _ _ _ 0 [(0, _), (1, _), (3, _)] [] _
  refine gJ_lconst (v := 0) dX12_withKey_0 (by decide) ?_
  refine gJ_lstore (lv2 := [(4, _), (0, _), (1, _), (3, _)]) dX12_withKey_1 rfl rfl ?_
  refine gJ_iconst (v := 0) dX12_withKey_3 (by decide) ?_
  refine gJ_istore (lv2 := [(6, _), (4, _), (0, _), (1, _), (3, _)]) dX12_withKey_4 rfl rfl ?_
  exact gJ_ls (loop 61 0 (by omega) (by omega)) ⟨rfl, rfl, rfl, rfl, rfl, trivial⟩
theorem c12_greatest (hm : M.1 m = some (mO m hi tn at_ fa)) (hV : M.1 (m + 1) = some (gI 1999 V)) (x : Int64) : gCon G kX12_greatest 1 0 0 M [.ref m, .long x] (fun M2 v => M2 = M ∧ v = some (.int (mGr V x 60))) := by
  refine gCon_of (by decide) (Nat.le_of_ble_eq_true rfl) ?_
  have loop : ∀ (q j : Nat), j + q = 61 → j ≤ 60 →
      gJ G kX12_greatest 1 0 0 M 6 [(4, .int (nI j)), (3, .int (mGr V x j)), (0, .ref m), (1, .long x)] [] (gQ kX12_greatest (fun M2 v => M2 = M ∧ v = some (.int (mGr V x 60)))) := by
    intro q
    induction q with
    | zero => intro j h1 h2; exact absurd h1 (by omega)
    | succ q ih =>
      intro j hq hj
      refine gJ_iload dX12_greatest_6 rfl ?_
      refine gJ_bipush (v := 60) dX12_greatest_8 (by decide) ?_
      refine gJ_icmp_geN (tgt := 47) (a := j) (b := 60) (by first | with_reducible rfl | rfl) (by first | with_reducible rfl | rfl) (by omega) (by omega) dX12_greatest_10 (by decide) (fun c10 => ?_) (fun c10 => ?_)
      · refine gJ_iload_n dX12_greatest_47 rfl rfl ?_
        refine gJ_iret dX12_greatest_48 rfl ?_
        refine ⟨rfl, ?_⟩
        have e1 : j = 60 := by omega
        subst e1
        rfl
      · refine gJ_lload_n dX12_greatest_13 rfl rfl ?_
        refine gJ_iload dX12_greatest_14 rfl ?_
        refine gJ_lshr dX12_greatest_16 ?_
        refine gJ_lconst (v := 1) dX12_greatest_17 (by decide) ?_
        refine gJ_land dX12_greatest_18 ?_
        rw [bit_at x (by omega : j < 64)]
        refine gJ_lconst (v := 1) dX12_greatest_19 (by decide) ?_
        refine gJ_lcmp dX12_greatest_20 ?_
        refine gJ_if_ne (tgt := 41) dX12_greatest_21 (by decide) (fun c21 => ?_) (fun c21 => ?_)
        · refine gJ_iincN (a := j) (b := 1) (lv2 := [(4, _), (3, _), (0, _), (1, _)]) dX12_greatest_41 rfl rfl rfl rfl ?_
          refine gJ_goto (tgt := 6) dX12_greatest_44 (by decide) ?_
          refine gJ_ls (ih (j + 1) (by omega) (by omega)) ⟨rfl, ?_, rfl, rfl, trivial⟩
          show some (Value.int _) = some (Value.int _)
          rw [cmp_bit] at c21
          rw [mGr]
          rw [if_neg (fun h => c21 h.1)]
        · refine gJ_aload_n dX12_greatest_24 rfl rfl ?_
          refine gJ_iload dX12_greatest_25 rfl ?_
          refine gJ_callV (As := [_]) b_X12_severity lX12_129 i_X12_severity s_X12_severity dX12_greatest_27 (c12_severity hm hV j (by omega)) (by first | assumption | exact gUp_s | exact gUp_n (by assumption) (by omega)) rfl rfl (Nat.le_of_ble_eq_true rfl) rfl (by decide) (fun M27 v_ h27 => ?_)
          obtain ⟨rfl, rfl⟩ := h27
          refine gJ_iload_n dX12_greatest_30 rfl rfl ?_
          refine gJ_icmp_le (tgt := 41) dX12_greatest_31 (by decide) (fun c31 => ?_) (fun c31 => ?_)
          · refine gJ_iincN (a := j) (b := 1) (lv2 := [(4, _), (3, _), (0, _), (1, _)]) dX12_greatest_41 rfl rfl rfl rfl ?_
            refine gJ_goto (tgt := 6) dX12_greatest_44 (by decide) ?_
            refine gJ_ls (ih (j + 1) (by omega) (by omega)) ⟨rfl, ?_, rfl, rfl, trivial⟩
            show some (Value.int _) = some (Value.int _)
            rw [cmp_bit] at c21
            rw [mGr]
            rw [if_neg (fun h => Int32.not_lt.mpr c31 h.2)]
          · refine gJ_aload_n dX12_greatest_34 rfl rfl ?_
            refine gJ_iload dX12_greatest_35 rfl ?_
            refine gJ_callV (As := [_]) b_X12_severity lX12_129 i_X12_severity s_X12_severity dX12_greatest_37 (c12_severity hm hV j (by omega)) (by first | assumption | exact gUp_s | exact gUp_n (by assumption) (by omega)) rfl rfl (Nat.le_of_ble_eq_true rfl) rfl (by decide) (fun M37 v_ h37 => ?_)
            obtain ⟨rfl, rfl⟩ := h37
            refine gJ_istore_n (lv2 := [(3, _), (4, _), (0, _), (1, _)]) dX12_greatest_40 rfl rfl rfl ?_
            refine gJ_iincN (a := j) (b := 1) (lv2 := [(4, _), (3, _), (0, _), (1, _)]) dX12_greatest_41 rfl rfl rfl rfl ?_
            refine gJ_goto (tgt := 6) dX12_greatest_44 (by decide) ?_
            refine gJ_ls (ih (j + 1) (by omega) (by omega)) ⟨rfl, ?_, rfl, rfl, trivial⟩
            show some (Value.int _) = some (Value.int _)
            rw [cmp_bit] at c21
            rw [mGr]
            rw [if_pos ⟨c21, Int32.not_le.mp c31⟩]
  show gJ _ _ _ _ _ _ 0 [(0, _), (1, _)] [] _
  refine gJ_bipush (v := -5) dX12_greatest_0 (by decide) ?_
  refine gJ_istore_n (lv2 := [(3, _), (0, _), (1, _)]) dX12_greatest_2 rfl rfl rfl ?_
  refine gJ_iconst (v := 0) dX12_greatest_3 (by decide) ?_
  refine gJ_istore (lv2 := [(4, _), (3, _), (0, _), (1, _)]) dX12_greatest_4 rfl rfl ?_
  exact gJ_ls (loop 61 0 (by omega) (by omega)) ⟨rfl, rfl, rfl, rfl, trivial⟩
set_option maxRecDepth 20000 in
theorem c12_sends (hm : M.1 m = some (mO m hi tn at_ fa)) (hV : M.1 (m + 1) = some (gI 1999 V)) (hS : M.1 (m + 4) = some (gL 128 S)) (key kind : Nat) (hk : key < 128) (hkd : kind < 4) (x : Int64) : gCon G kX12_sends 2 0 0 M [.ref m, .int (nI key), .int (nI kind), .long x] (fun M2 v => M2 = mUp m M (mSnd V key kind x) (vp_updL S key x) ∧ v = none) := by
  refine gCon_of (by decide) (Nat.le_of_ble_eq_true rfl) ?_
  have loop : ∀ (q : Nat), q ≤ 145 → ∀ W : Nat → Int32, (∀ i, W i = if 1854 + q ≤ i ∧ i < 1999 then V (i - 5) else V i) →
      gJ G kX12_sends 2 0 0 (gUp M (m + 1) (gI 1999 W)) 5 [(5, .int (nI (q + 4))), (0, .ref m), (1, .int (nI key)), (2, .int (nI kind)), (3, .long x)] [] (gQ kX12_sends (fun M2 v => M2 = mUp m M (mSnd V key kind x) (vp_updL S key x) ∧ v = none)) := by
    intro q
    induction q with
    | zero =>
      intro hq W hW
      have hW7 : W 1847 = V 1847 := by rw [hW, if_neg (by omega)]
      have hW8 : W 1848 = V 1848 := by rw [hW, if_neg (by omega)]
      have hgr : ∀ W2 : Nat → Int32, (∀ i, i < 1000 → W2 i = V i) → mGr W2 x 60 = mGr V x 60 := fun W2 h => mGr_ext (fun a ha => h _ (by omega)) 60 (by omega)
      have hsmall : ∀ i, i < 1000 → W i = V i := fun i hi => by rw [hW, if_neg (by omega)]
      refine gJ_iload dX12_sends_5 rfl ?_
      refine gJ_iconst (v := 5) dX12_sends_7 (by decide) ?_
      refine gJ_icmp_ltN (tgt := 41) (a := 4) (b := 5) (by first | with_reducible rfl | rfl) (by first | with_reducible rfl | rfl) (by omega) (by omega) dX12_sends_8 (by decide) (fun _ => ?_) (fun c_ => by exfalso; omega)
      refine gJ_aload_n dX12_sends_41 rfl rfl ?_
      refine gJ_get fX12_9 dX12_sends_42 (by first | assumption | exact gUp_s | exact gUp_n (by assumption) (by omega)) rfl ?_
      refine gJ_sipush (v := 1849) dX12_sends_45 (by decide) ?_
      refine gJ_aload_n dX12_sends_48 rfl rfl ?_
      refine gJ_get fX12_9 dX12_sends_49 (by first | assumption | exact gUp_s | exact gUp_n (by assumption) (by omega)) rfl ?_
      refine gJ_sipush (v := 1847) dX12_sends_52 (by decide) ?_
      refine gJ_ialdN (j := 1847) dX12_sends_55 (by first | assumption | exact gUp_s | exact gUp_n (by assumption) (by omega)) (by first | with_reducible rfl | rfl) (by omega) (by decide) ?_
      rw [hW7]
      refine gJ_iastN (j := 1849) dX12_sends_56 (by first | assumption | exact gUp_s | exact gUp_n (by assumption) (by omega)) (by first | with_reducible rfl | rfl) (by omega) (by decide) ?_
      try rw [gUp_up]
      refine gJ_aload_n dX12_sends_57 rfl rfl ?_
      refine gJ_get fX12_9 dX12_sends_58 (by first | assumption | exact gUp_s | exact gUp_n (by assumption) (by omega)) rfl ?_
      refine gJ_sipush (v := 1850) dX12_sends_61 (by decide) ?_
      refine gJ_iload_n dX12_sends_64 rfl rfl ?_
      refine gJ_iastN (j := 1850) dX12_sends_65 (by first | assumption | exact gUp_s | exact gUp_n (by assumption) (by omega)) (by first | with_reducible rfl | rfl) (by omega) (by decide) ?_
      try rw [gUp_up]
      refine gJ_aload_n dX12_sends_66 rfl rfl ?_
      refine gJ_get fX12_9 dX12_sends_67 (by first | assumption | exact gUp_s | exact gUp_n (by assumption) (by omega)) rfl ?_
      refine gJ_sipush (v := 1851) dX12_sends_70 (by decide) ?_
      refine gJ_iload_n dX12_sends_73 rfl rfl ?_
      refine gJ_iastN (j := 1851) dX12_sends_74 (by first | assumption | exact gUp_s | exact gUp_n (by assumption) (by omega)) (by first | with_reducible rfl | rfl) (by omega) (by decide) ?_
      try rw [gUp_up]
      refine gJ_aload_n dX12_sends_75 rfl rfl ?_
      refine gJ_get fX12_9 dX12_sends_76 (by first | assumption | exact gUp_s | exact gUp_n (by assumption) (by omega)) rfl ?_
      refine gJ_sipush (v := 1852) dX12_sends_79 (by decide) ?_
      refine gJ_lload_n dX12_sends_82 rfl rfl ?_
      refine gJ_callS (As := [_]) b_X12_size lX12_138 i_X12_size dX12_sends_83 (c12_size x) rfl (Nat.le_of_ble_eq_true rfl) rfl (by decide) (fun M83 v_ h83 => ?_)
      obtain ⟨rfl, rfl⟩ := h83
      refine gJ_iastN (j := 1852) dX12_sends_86 (by first | assumption | exact gUp_s | exact gUp_n (by assumption) (by omega)) (by first | with_reducible rfl | rfl) (by omega) (by decide) ?_
      try rw [gUp_up]
      refine gJ_aload_n dX12_sends_87 rfl rfl ?_
      refine gJ_get fX12_9 dX12_sends_88 (by first | assumption | exact gUp_s | exact gUp_n (by assumption) (by omega)) rfl ?_
      refine gJ_sipush (v := 1853) dX12_sends_91 (by decide) ?_
      refine gJ_iload_n dX12_sends_94 rfl rfl ?_
      refine gJ_iconst (v := 3) dX12_sends_95 (by decide) ?_
      refine gJ_icmp_neN (tgt := 104) (a := kind) (b := 3) (by first | with_reducible rfl | rfl) (by first | with_reducible rfl | rfl) (by omega) (by omega) dX12_sends_96 (by decide) (fun c96 => ?_) (fun c96 => ?_)
      · refine gJ_aload_n dX12_sends_104 rfl rfl ?_
        refine gJ_lload_n dX12_sends_105 rfl rfl ?_
        refine gJ_callV (As := [_]) b_X12_greatest lX12_142 i_X12_greatest s_X12_greatest dX12_sends_106 (c12_greatest (gUp_n hm (by omega)) gUp_s x) (by first | assumption | exact gUp_s | exact gUp_n (by assumption) (by omega)) rfl rfl (Nat.le_of_ble_eq_true rfl) rfl (by decide) (fun M106 v_ h106 => ?_)
        obtain ⟨rfl, rfl⟩ := h106
        rw [hgr _ (fun i hi => by simp only [upd]; rw [if_neg (by omega), if_neg (by omega), if_neg (by omega), if_neg (by omega), hsmall i hi])]
        refine gJ_iastN (j := 1853) dX12_sends_109 (by first | assumption | exact gUp_s | exact gUp_n (by assumption) (by omega)) (by first | with_reducible rfl | rfl) (by omega) (by decide) ?_
        try rw [gUp_up]
        refine gJ_aload_n dX12_sends_110 rfl rfl ?_
        refine gJ_get fX12_9 dX12_sends_111 (by first | assumption | exact gUp_s | exact gUp_n (by assumption) (by omega)) rfl ?_
        refine gJ_sipush (v := 1848) dX12_sends_114 (by decide) ?_
        refine gJ_dup2 dX12_sends_117 rfl rfl ?_
        refine gJ_ialdN (j := 1848) dX12_sends_118 (by first | assumption | exact gUp_s | exact gUp_n (by assumption) (by omega)) (by first | with_reducible rfl | rfl) (by omega) (by decide) ?_
        simp only [upd, hW8, Nat.reduceEqDiff, if_false, reduceIte]
        refine gJ_iconst (v := 1) dX12_sends_119 (by decide) ?_
        refine gJ_iadd dX12_sends_120 ?_
        refine gJ_iastN (j := 1848) dX12_sends_121 (by first | assumption | exact gUp_s | exact gUp_n (by assumption) (by omega)) (by first | with_reducible rfl | rfl) (by omega) (by decide) ?_
        try rw [gUp_up]
        refine gJ_aload_n dX12_sends_122 rfl rfl ?_
        refine gJ_get fX12_9 dX12_sends_123 (by first | assumption | exact gUp_s | exact gUp_n (by assumption) (by omega)) rfl ?_
        refine gJ_sipush (v := 1586) dX12_sends_126 (by decide) ?_
        refine gJ_iconst (v := 2) dX12_sends_129 (by decide) ?_
        refine gJ_iload_n dX12_sends_130 rfl rfl ?_
        refine gJ_imulN (a := 2) (b := key) dX12_sends_131 (by first | with_reducible rfl | rfl) (by first | with_reducible rfl | rfl) ?_
        refine gJ_iaddN (a := 1586) (b := (2 * key)) dX12_sends_132 (by first | with_reducible rfl | rfl) (by first | with_reducible rfl | rfl) ?_
        refine gJ_iload_n dX12_sends_133 rfl rfl ?_
        refine gJ_iconst (v := 3) dX12_sends_134 (by decide) ?_
        refine gJ_icmp_neN (tgt := 142) (a := kind) (b := 3) (by first | with_reducible rfl | rfl) (by first | with_reducible rfl | rfl) (by omega) (by omega) dX12_sends_135 (by decide) (fun c135 => ?_) (fun c135 => ?_)
        · refine gJ_iconst (v := 1) dX12_sends_142 (by decide) ?_
          refine gJ_iastN (j := (1586 + (2 * key))) dX12_sends_143 (by first | assumption | exact gUp_s | exact gUp_n (by assumption) (by omega)) (by first | with_reducible rfl | rfl) (by omega) (by decide) ?_
          try rw [gUp_up]
          refine gJ_aload_n dX12_sends_144 rfl rfl ?_
          refine gJ_get fX12_9 dX12_sends_145 (by first | assumption | exact gUp_s | exact gUp_n (by assumption) (by omega)) rfl ?_
          refine gJ_sipush (v := 1586) dX12_sends_148 (by decide) ?_
          refine gJ_iconst (v := 2) dX12_sends_151 (by decide) ?_
          refine gJ_iload_n dX12_sends_152 rfl rfl ?_
          refine gJ_imulN (a := 2) (b := key) dX12_sends_153 (by first | with_reducible rfl | rfl) (by first | with_reducible rfl | rfl) ?_
          refine gJ_iaddN (a := 1586) (b := (2 * key)) dX12_sends_154 (by first | with_reducible rfl | rfl) (by first | with_reducible rfl | rfl) ?_
          refine gJ_iconst (v := 1) dX12_sends_155 (by decide) ?_
          refine gJ_iaddN (a := (1586 + (2 * key))) (b := 1) dX12_sends_156 (by first | with_reducible rfl | rfl) (by first | with_reducible rfl | rfl) ?_
          refine gJ_aload_n dX12_sends_157 rfl rfl ?_
          refine gJ_get fX12_9 dX12_sends_158 (by first | assumption | exact gUp_s | exact gUp_n (by assumption) (by omega)) rfl ?_
          refine gJ_sipush (v := 1847) dX12_sends_161 (by decide) ?_
          refine gJ_ialdN (j := 1847) dX12_sends_164 (by first | assumption | exact gUp_s | exact gUp_n (by assumption) (by omega)) (by first | with_reducible rfl | rfl) (by omega) (by decide) ?_
          simp only [upd, Nat.reduceEqDiff, if_false, reduceIte]
          refine gJ_iastN (j := ((1586 + (2 * key)) + 1)) dX12_sends_165 (by first | assumption | exact gUp_s | exact gUp_n (by assumption) (by omega)) (by first | with_reducible rfl | rfl) (by omega) (by decide) ?_
          try rw [gUp_up]
          refine gJ_aload_n dX12_sends_166 rfl rfl ?_
          refine gJ_get fX12_19 dX12_sends_167 (by first | assumption | exact gUp_s | exact gUp_n (by assumption) (by omega)) rfl ?_
          refine gJ_iload_n dX12_sends_170 rfl rfl ?_
          refine gJ_lload_n dX12_sends_171 rfl rfl ?_
          refine gJ_lastN (j := key) dX12_sends_172 (by first | assumption | exact gUp_s | exact gUp_n (by assumption) (by omega)) (by first | with_reducible rfl | rfl) (by omega) (by decide) ?_
          try rw [gUp_up]
          refine gJ_vret dX12_sends_173 rfl ?_
          refine ⟨?_, rfl⟩
          refine congrArg (fun z => gUp (gUp M (m + 1) (gI 1999 z)) (m + 4) (gL 128 (vp_updL S key x))) (funext fun i => ?_)
          simp only [mSnd, upd, hW]
          grind
        · refine gJ_iconst (v := 0) dX12_sends_138 (by decide) ?_
          refine gJ_goto (tgt := 143) dX12_sends_139 (by decide) ?_
          refine gJ_iastN (j := (1586 + (2 * key))) dX12_sends_143 (by first | assumption | exact gUp_s | exact gUp_n (by assumption) (by omega)) (by first | with_reducible rfl | rfl) (by omega) (by decide) ?_
          try rw [gUp_up]
          refine gJ_aload_n dX12_sends_144 rfl rfl ?_
          refine gJ_get fX12_9 dX12_sends_145 (by first | assumption | exact gUp_s | exact gUp_n (by assumption) (by omega)) rfl ?_
          refine gJ_sipush (v := 1586) dX12_sends_148 (by decide) ?_
          refine gJ_iconst (v := 2) dX12_sends_151 (by decide) ?_
          refine gJ_iload_n dX12_sends_152 rfl rfl ?_
          refine gJ_imulN (a := 2) (b := key) dX12_sends_153 (by first | with_reducible rfl | rfl) (by first | with_reducible rfl | rfl) ?_
          refine gJ_iaddN (a := 1586) (b := (2 * key)) dX12_sends_154 (by first | with_reducible rfl | rfl) (by first | with_reducible rfl | rfl) ?_
          refine gJ_iconst (v := 1) dX12_sends_155 (by decide) ?_
          refine gJ_iaddN (a := (1586 + (2 * key))) (b := 1) dX12_sends_156 (by first | with_reducible rfl | rfl) (by first | with_reducible rfl | rfl) ?_
          refine gJ_aload_n dX12_sends_157 rfl rfl ?_
          refine gJ_get fX12_9 dX12_sends_158 (by first | assumption | exact gUp_s | exact gUp_n (by assumption) (by omega)) rfl ?_
          refine gJ_sipush (v := 1847) dX12_sends_161 (by decide) ?_
          refine gJ_ialdN (j := 1847) dX12_sends_164 (by first | assumption | exact gUp_s | exact gUp_n (by assumption) (by omega)) (by first | with_reducible rfl | rfl) (by omega) (by decide) ?_
          simp only [upd, Nat.reduceEqDiff, if_false, reduceIte]
          refine gJ_iastN (j := ((1586 + (2 * key)) + 1)) dX12_sends_165 (by first | assumption | exact gUp_s | exact gUp_n (by assumption) (by omega)) (by first | with_reducible rfl | rfl) (by omega) (by decide) ?_
          try rw [gUp_up]
          refine gJ_aload_n dX12_sends_166 rfl rfl ?_
          refine gJ_get fX12_19 dX12_sends_167 (by first | assumption | exact gUp_s | exact gUp_n (by assumption) (by omega)) rfl ?_
          refine gJ_iload_n dX12_sends_170 rfl rfl ?_
          refine gJ_lload_n dX12_sends_171 rfl rfl ?_
          refine gJ_lastN (j := key) dX12_sends_172 (by first | assumption | exact gUp_s | exact gUp_n (by assumption) (by omega)) (by first | with_reducible rfl | rfl) (by omega) (by decide) ?_
          try rw [gUp_up]
          refine gJ_vret dX12_sends_173 rfl ?_
          refine ⟨?_, rfl⟩
          refine congrArg (fun z => gUp (gUp M (m + 1) (gI 1999 z)) (m + 4) (gL 128 (vp_updL S key x))) (funext fun i => ?_)
          simp only [mSnd, upd, hW]
          grind
      · refine gJ_bipush (v := -5) dX12_sends_99 (by decide) ?_
        refine gJ_goto (tgt := 109) dX12_sends_101 (by decide) ?_
        refine gJ_iastN (j := 1853) dX12_sends_109 (by first | assumption | exact gUp_s | exact gUp_n (by assumption) (by omega)) (by first | with_reducible rfl | rfl) (by omega) (by decide) ?_
        try rw [gUp_up]
        refine gJ_aload_n dX12_sends_110 rfl rfl ?_
        refine gJ_get fX12_9 dX12_sends_111 (by first | assumption | exact gUp_s | exact gUp_n (by assumption) (by omega)) rfl ?_
        refine gJ_sipush (v := 1848) dX12_sends_114 (by decide) ?_
        refine gJ_dup2 dX12_sends_117 rfl rfl ?_
        refine gJ_ialdN (j := 1848) dX12_sends_118 (by first | assumption | exact gUp_s | exact gUp_n (by assumption) (by omega)) (by first | with_reducible rfl | rfl) (by omega) (by decide) ?_
        simp only [upd, hW8, Nat.reduceEqDiff, if_false, reduceIte]
        refine gJ_iconst (v := 1) dX12_sends_119 (by decide) ?_
        refine gJ_iadd dX12_sends_120 ?_
        refine gJ_iastN (j := 1848) dX12_sends_121 (by first | assumption | exact gUp_s | exact gUp_n (by assumption) (by omega)) (by first | with_reducible rfl | rfl) (by omega) (by decide) ?_
        try rw [gUp_up]
        refine gJ_aload_n dX12_sends_122 rfl rfl ?_
        refine gJ_get fX12_9 dX12_sends_123 (by first | assumption | exact gUp_s | exact gUp_n (by assumption) (by omega)) rfl ?_
        refine gJ_sipush (v := 1586) dX12_sends_126 (by decide) ?_
        refine gJ_iconst (v := 2) dX12_sends_129 (by decide) ?_
        refine gJ_iload_n dX12_sends_130 rfl rfl ?_
        refine gJ_imulN (a := 2) (b := key) dX12_sends_131 (by first | with_reducible rfl | rfl) (by first | with_reducible rfl | rfl) ?_
        refine gJ_iaddN (a := 1586) (b := (2 * key)) dX12_sends_132 (by first | with_reducible rfl | rfl) (by first | with_reducible rfl | rfl) ?_
        refine gJ_iload_n dX12_sends_133 rfl rfl ?_
        refine gJ_iconst (v := 3) dX12_sends_134 (by decide) ?_
        refine gJ_icmp_neN (tgt := 142) (a := kind) (b := 3) (by first | with_reducible rfl | rfl) (by first | with_reducible rfl | rfl) (by omega) (by omega) dX12_sends_135 (by decide) (fun c135 => ?_) (fun c135 => ?_)
        · refine gJ_iconst (v := 1) dX12_sends_142 (by decide) ?_
          refine gJ_iastN (j := (1586 + (2 * key))) dX12_sends_143 (by first | assumption | exact gUp_s | exact gUp_n (by assumption) (by omega)) (by first | with_reducible rfl | rfl) (by omega) (by decide) ?_
          try rw [gUp_up]
          refine gJ_aload_n dX12_sends_144 rfl rfl ?_
          refine gJ_get fX12_9 dX12_sends_145 (by first | assumption | exact gUp_s | exact gUp_n (by assumption) (by omega)) rfl ?_
          refine gJ_sipush (v := 1586) dX12_sends_148 (by decide) ?_
          refine gJ_iconst (v := 2) dX12_sends_151 (by decide) ?_
          refine gJ_iload_n dX12_sends_152 rfl rfl ?_
          refine gJ_imulN (a := 2) (b := key) dX12_sends_153 (by first | with_reducible rfl | rfl) (by first | with_reducible rfl | rfl) ?_
          refine gJ_iaddN (a := 1586) (b := (2 * key)) dX12_sends_154 (by first | with_reducible rfl | rfl) (by first | with_reducible rfl | rfl) ?_
          refine gJ_iconst (v := 1) dX12_sends_155 (by decide) ?_
          refine gJ_iaddN (a := (1586 + (2 * key))) (b := 1) dX12_sends_156 (by first | with_reducible rfl | rfl) (by first | with_reducible rfl | rfl) ?_
          refine gJ_aload_n dX12_sends_157 rfl rfl ?_
          refine gJ_get fX12_9 dX12_sends_158 (by first | assumption | exact gUp_s | exact gUp_n (by assumption) (by omega)) rfl ?_
          refine gJ_sipush (v := 1847) dX12_sends_161 (by decide) ?_
          refine gJ_ialdN (j := 1847) dX12_sends_164 (by first | assumption | exact gUp_s | exact gUp_n (by assumption) (by omega)) (by first | with_reducible rfl | rfl) (by omega) (by decide) ?_
          simp only [upd, Nat.reduceEqDiff, if_false, reduceIte]
          refine gJ_iastN (j := ((1586 + (2 * key)) + 1)) dX12_sends_165 (by first | assumption | exact gUp_s | exact gUp_n (by assumption) (by omega)) (by first | with_reducible rfl | rfl) (by omega) (by decide) ?_
          try rw [gUp_up]
          refine gJ_aload_n dX12_sends_166 rfl rfl ?_
          refine gJ_get fX12_19 dX12_sends_167 (by first | assumption | exact gUp_s | exact gUp_n (by assumption) (by omega)) rfl ?_
          refine gJ_iload_n dX12_sends_170 rfl rfl ?_
          refine gJ_lload_n dX12_sends_171 rfl rfl ?_
          refine gJ_lastN (j := key) dX12_sends_172 (by first | assumption | exact gUp_s | exact gUp_n (by assumption) (by omega)) (by first | with_reducible rfl | rfl) (by omega) (by decide) ?_
          try rw [gUp_up]
          refine gJ_vret dX12_sends_173 rfl ?_
          refine ⟨?_, rfl⟩
          refine congrArg (fun z => gUp (gUp M (m + 1) (gI 1999 z)) (m + 4) (gL 128 (vp_updL S key x))) (funext fun i => ?_)
          simp only [mSnd, upd, hW]
          grind
        · refine gJ_iconst (v := 0) dX12_sends_138 (by decide) ?_
          refine gJ_goto (tgt := 143) dX12_sends_139 (by decide) ?_
          refine gJ_iastN (j := (1586 + (2 * key))) dX12_sends_143 (by first | assumption | exact gUp_s | exact gUp_n (by assumption) (by omega)) (by first | with_reducible rfl | rfl) (by omega) (by decide) ?_
          try rw [gUp_up]
          refine gJ_aload_n dX12_sends_144 rfl rfl ?_
          refine gJ_get fX12_9 dX12_sends_145 (by first | assumption | exact gUp_s | exact gUp_n (by assumption) (by omega)) rfl ?_
          refine gJ_sipush (v := 1586) dX12_sends_148 (by decide) ?_
          refine gJ_iconst (v := 2) dX12_sends_151 (by decide) ?_
          refine gJ_iload_n dX12_sends_152 rfl rfl ?_
          refine gJ_imulN (a := 2) (b := key) dX12_sends_153 (by first | with_reducible rfl | rfl) (by first | with_reducible rfl | rfl) ?_
          refine gJ_iaddN (a := 1586) (b := (2 * key)) dX12_sends_154 (by first | with_reducible rfl | rfl) (by first | with_reducible rfl | rfl) ?_
          refine gJ_iconst (v := 1) dX12_sends_155 (by decide) ?_
          refine gJ_iaddN (a := (1586 + (2 * key))) (b := 1) dX12_sends_156 (by first | with_reducible rfl | rfl) (by first | with_reducible rfl | rfl) ?_
          refine gJ_aload_n dX12_sends_157 rfl rfl ?_
          refine gJ_get fX12_9 dX12_sends_158 (by first | assumption | exact gUp_s | exact gUp_n (by assumption) (by omega)) rfl ?_
          refine gJ_sipush (v := 1847) dX12_sends_161 (by decide) ?_
          refine gJ_ialdN (j := 1847) dX12_sends_164 (by first | assumption | exact gUp_s | exact gUp_n (by assumption) (by omega)) (by first | with_reducible rfl | rfl) (by omega) (by decide) ?_
          simp only [upd, Nat.reduceEqDiff, if_false, reduceIte]
          refine gJ_iastN (j := ((1586 + (2 * key)) + 1)) dX12_sends_165 (by first | assumption | exact gUp_s | exact gUp_n (by assumption) (by omega)) (by first | with_reducible rfl | rfl) (by omega) (by decide) ?_
          try rw [gUp_up]
          refine gJ_aload_n dX12_sends_166 rfl rfl ?_
          refine gJ_get fX12_19 dX12_sends_167 (by first | assumption | exact gUp_s | exact gUp_n (by assumption) (by omega)) rfl ?_
          refine gJ_iload_n dX12_sends_170 rfl rfl ?_
          refine gJ_lload_n dX12_sends_171 rfl rfl ?_
          refine gJ_lastN (j := key) dX12_sends_172 (by first | assumption | exact gUp_s | exact gUp_n (by assumption) (by omega)) (by first | with_reducible rfl | rfl) (by omega) (by decide) ?_
          try rw [gUp_up]
          refine gJ_vret dX12_sends_173 rfl ?_
          refine ⟨?_, rfl⟩
          refine congrArg (fun z => gUp (gUp M (m + 1) (gI 1999 z)) (m + 4) (gL 128 (vp_updL S key x))) (funext fun i => ?_)
          simp only [mSnd, upd, hW]
          grind
    | succ q ih =>
      intro hq W hW
      refine gJ_iload dX12_sends_5 rfl ?_
      refine gJ_iconst (v := 5) dX12_sends_7 (by decide) ?_
      refine gJ_icmp_ltN (tgt := 41) (a := (q+1+4)) (b := 5) (by first | with_reducible rfl | rfl) (by first | with_reducible rfl | rfl) (by omega) (by omega) dX12_sends_8 (by decide) (fun c_ => by exfalso; omega) (fun _ => ?_)
      refine gJ_aload_n dX12_sends_11 rfl rfl ?_
      refine gJ_get fX12_9 dX12_sends_12 (by first | assumption | exact gUp_s | exact gUp_n (by assumption) (by omega)) rfl ?_
      refine gJ_sipush (v := 1849) dX12_sends_15 (by decide) ?_
      refine gJ_iload dX12_sends_18 rfl ?_
      refine gJ_iaddN (a := 1849) (b := (q+1+4)) dX12_sends_20 (by first | with_reducible rfl | rfl) (by first | with_reducible rfl | rfl) ?_
      refine gJ_aload_n dX12_sends_21 rfl rfl ?_
      refine gJ_get fX12_9 dX12_sends_22 (by first | assumption | exact gUp_s | exact gUp_n (by assumption) (by omega)) rfl ?_
      refine gJ_sipush (v := 1849) dX12_sends_25 (by decide) ?_
      refine gJ_iload dX12_sends_28 rfl ?_
      refine gJ_iaddN (a := 1849) (b := (q+1+4)) dX12_sends_30 (by first | with_reducible rfl | rfl) (by first | with_reducible rfl | rfl) ?_
      refine gJ_iconst (v := 5) dX12_sends_31 (by decide) ?_
      refine gJ_isubN (a := (1849 + (q+1+4))) (b := 5) dX12_sends_32 (by first | with_reducible rfl | rfl) (by first | with_reducible rfl | rfl) (by omega) ?_
      refine gJ_ialdN (j := ((1849 + (q+1+4)) - 5)) dX12_sends_33 (by first | assumption | exact gUp_s | exact gUp_n (by assumption) (by omega)) (by first | with_reducible rfl | rfl) (by omega) (by decide) ?_
      refine gJ_iastN (j := (1849 + (q+1+4))) dX12_sends_34 (by first | assumption | exact gUp_s | exact gUp_n (by assumption) (by omega)) (by first | with_reducible rfl | rfl) (by omega) (by decide) ?_
      try rw [gUp_up]
      refine gJ_iinc (v := _ + (-1)) (lv2 := [(5, _), (0, _), (1, _), (2, _), (3, _)]) dX12_sends_35 rfl rfl rfl rfl ?_
      refine gJ_goto (tgt := 5) dX12_sends_38 (by decide) ?_
      refine gJ_ls (ih (by omega) _ ?_) ⟨?_, rfl, rfl, rfl, rfl, trivial⟩
      · intro i; simp only [upd]; by_cases hi_ : i = 1849 + (q + 1 + 4)
        · subst hi_; rw [if_pos rfl, if_pos (by omega), hW, if_neg (by omega)] <;> first | done | (congr 1; omega)
        · rw [if_neg hi_, hW]; by_cases h2_ : 1854 + (q + 1) ≤ i ∧ i < 1999
          · rw [if_pos h2_, if_pos (by omega)]
          · rw [if_neg h2_, if_neg (by omega)]
      · show some (Value.int _) = some (Value.int _)
        rw [show q + 1 + 4 = (q + 4) + 1 by omega, pk_m1]
  show gJ _ _ _ _ _ _ 0 [(0, _), (1, _), (2, _), (3, _)] [] _
  refine gJ_sipush (v := 149) dX12_sends_0 (by decide) ?_
  refine gJ_istore (lv2 := [(5, _), (0, _), (1, _), (2, _), (3, _)]) dX12_sends_3 rfl rfl ?_
  have L := loop 145 (by omega) V (fun i => by rw [if_neg (by omega)])
  rw [gUp_id hV] at L
  exact gJ_ls L ⟨rfl, rfl, rfl, rfl, rfl, trivial⟩
end MODEL
