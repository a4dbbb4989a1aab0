def mSev (V : Nat → Int32) (a : Nat) : Int32 := V (60 + 10 * (a / 12) + 9)
def mActs (V : Nat → Int32) : Int64 := lS (mAct V) 60
/-- the greatest severity of a set, -5 of the empty one -/
def mGr (V : Nat → Int32) (x : Int64) : Nat → Int32
  | 0 => -5
  | n + 1 => if lB x n = true ∧ mGr V x n < mSev V n then mSev V n else mGr V x n
def mKeyP (V : Nat → Int32) (x : Int64) (key : Int32) (a : Nat) : Bool := lB x a && decide (mKey V a = key)
def mWith (V : Nat → Int32) (x : Int64) (key : Int32) : Int64 := lS (mKeyP V x key) 60
def mSize (x : Int64) : Nat := (List.range 60).countP (lB x)
theorem bit_if1 (b : Bool) : ((if b then (1 : Int64) else 0) = 1) ↔ b = true := by cases b <;> decide
theorem bit_i32 (b : Bool) : (if b then (1 : Int64) else 0).toInt32 = nI (if b then 1 else 0) := by cases b <;> decide
theorem gb_s1 {s t : Bool} (h : t = true) : gb s &&& 1 = gb (s && t) := by subst h; cases s <;> decide
theorem gb_s0 {s t : Bool} (h : t = false) : gb s &&& 0 = gb (s && t) := by subst h; cases s <;> decide
section MODEL
variable {G : gG} {M : gM} {m : Nat} {hi tn at_ fa : Int32} {V : Nat → Int32} {S : Nat → Int64}
theorem c12_severity (hm : M.1 m = some (mO m hi tn at_ fa)) (hV : M.1 (m + 1) = some (gI 1999 V)) (a : Nat) (ha : a < 60) : gCon G kX12_severity 0 0 0 M [.ref m, .int (nI a)] (fun M2 v => M2 = M ∧ v = some (.int (mSev V a))) := by
  refine gCon_of (by decide) (Nat.le_of_ble_eq_true rfl) ?_
  show gJ _ _ _ _ _ _ 0 [(0, _), (1, _)] [] _
  refine gJ_aload_n dX12_severity_0 rfl rfl ?_
  refine gJ_get fX12_9 dX12_severity_1 (by first | assumption | exact gUp_s | exact gUp_n (by assumption) (by omega)) rfl ?_
  refine gJ_bipush (v := 60) dX12_severity_4 (by decide) ?_
  refine gJ_bipush (v := 10) dX12_severity_6 (by decide) ?_
  refine gJ_iload_n dX12_severity_8 rfl rfl ?_
  refine gJ_bipush (v := 12) dX12_severity_9 (by decide) ?_
  refine gJ_idivN (a := a) (b := 12) dX12_severity_11 (by first | with_reducible rfl | rfl) (by first | with_reducible rfl | rfl) (by omega) (by decide) ?_
  refine gJ_imulN (a := 10) (b := (a / 12)) dX12_severity_12 (by first | with_reducible rfl | rfl) (by first | with_reducible rfl | rfl) ?_
  refine gJ_iaddN (a := 60) (b := (10 * (a / 12))) dX12_severity_13 (by first | with_reducible rfl | rfl) (by first | with_reducible rfl | rfl) ?_
  refine gJ_bipush (v := 9) dX12_severity_14 (by decide) ?_
  refine gJ_iaddN (a := (60 + (10 * (a / 12)))) (b := 9) dX12_severity_16 (by first | with_reducible rfl | rfl) (by first | with_reducible rfl | rfl) ?_
  refine gJ_ialdN (j := ((60 + (10 * (a / 12))) + 9)) dX12_severity_17 (by first | assumption | exact gUp_s | exact gUp_n (by assumption) (by omega)) (by first | with_reducible rfl | rfl) (by omega) (by decide) ?_
  refine gJ_iret dX12_severity_18 rfl ?_
  exact ⟨rfl, rfl⟩
theorem c12_keyOf (hm : M.1 m = some (mO m hi tn at_ fa)) (hV : M.1 (m + 1) = some (gI 1999 V)) (a : Nat) (ha : a < 60) : gCon G kX12_keyOf 0 0 0 M [.ref m, .int (nI a)] (fun M2 v => M2 = M ∧ v = some (.int (mKey V a))) := by
  refine gCon_of (by decide) (Nat.le_of_ble_eq_true rfl) ?_
  show gJ _ _ _ _ _ _ 0 [(0, _), (1, _)] [] _
  refine gJ_iconst (v := 0) dX12_keyOf_0 (by decide) ?_
  refine gJ_iconst (v := 3) dX12_keyOf_1 (by decide) ?_
  refine gJ_iload_n dX12_keyOf_2 rfl rfl ?_
  refine gJ_bipush (v := 12) dX12_keyOf_3 (by decide) ?_
  refine gJ_iremN (a := a) (b := 12) dX12_keyOf_5 (by first | with_reducible rfl | rfl) (by first | with_reducible rfl | rfl) (by omega) (by decide) ?_
  refine gJ_imulN (a := 3) (b := (a % 12)) dX12_keyOf_6 (by first | with_reducible rfl | rfl) (by first | with_reducible rfl | rfl) ?_
  refine gJ_iaddN (a := 0) (b := (3 * (a % 12))) dX12_keyOf_7 (by first | with_reducible rfl | rfl) (by first | with_reducible rfl | rfl) ?_
  refine gJ_istore_n (lv2 := [(2, _), (0, _), (1, _)]) dX12_keyOf_8 rfl rfl rfl ?_
  refine gJ_aload_n dX12_keyOf_9 rfl rfl ?_
  refine gJ_get fX12_9 dX12_keyOf_10 (by first | assumption | exact gUp_s | exact gUp_n (by assumption) (by omega)) rfl ?_
  refine gJ_sipush (v := 1846) dX12_keyOf_13 (by decide) ?_
  refine gJ_ialdN (j := 1846) dX12_keyOf_16 (by first | assumption | exact gUp_s | exact gUp_n (by assumption) (by omega)) (by first | with_reducible rfl | rfl) (by omega) (by decide) ?_
  refine gJ_istore_n (lv2 := [(3, _), (2, _), (0, _), (1, _)]) dX12_keyOf_17 rfl rfl rfl ?_
  refine gJ_bipush (v := 32) dX12_keyOf_18 (by decide) ?_
  refine gJ_aload_n dX12_keyOf_20 rfl rfl ?_
  refine gJ_get fX12_9 dX12_keyOf_21 (by first | assumption | exact gUp_s | exact gUp_n (by assumption) (by omega)) rfl ?_
  refine gJ_iload_n dX12_keyOf_24 rfl rfl ?_
  refine gJ_ialdN (j := (0 + (3 * (a % 12)))) dX12_keyOf_25 (by first | assumption | exact gUp_s | exact gUp_n (by assumption) (by omega)) (by first | with_reducible rfl | rfl) (by omega) (by decide) ?_
  refine gJ_imul dX12_keyOf_26 ?_
  refine gJ_iload_n dX12_keyOf_27 rfl rfl ?_
  refine gJ_iconst (v := 1) dX12_keyOf_28 (by decide) ?_
  refine gJ_iand dX12_keyOf_29 ?_
  refine gJ_imul dX12_keyOf_30 ?_
  refine gJ_iconst (v := 4) dX12_keyOf_31 (by decide) ?_
  refine gJ_aload_n dX12_keyOf_32 rfl rfl ?_
  refine gJ_get fX12_9 dX12_keyOf_33 (by first | assumption | exact gUp_s | exact gUp_n (by assumption) (by omega)) rfl ?_
  refine gJ_iload_n dX12_keyOf_36 rfl rfl ?_
  refine gJ_iconst (v := 1) dX12_keyOf_37 (by decide) ?_
  refine gJ_iaddN (a := (0 + (3 * (a % 12)))) (b := 1) dX12_keyOf_38 (by first | with_reducible rfl | rfl) (by first | with_reducible rfl | rfl) ?_
  refine gJ_ialdN (j := ((0 + (3 * (a % 12))) + 1)) dX12_keyOf_39 (by first | assumption | exact gUp_s | exact gUp_n (by assumption) (by omega)) (by first | with_reducible rfl | rfl) (by omega) (by decide) ?_
  refine gJ_imul dX12_keyOf_40 ?_
  refine gJ_iload_n dX12_keyOf_41 rfl rfl ?_
  refine gJ_iconst (v := 1) dX12_keyOf_42 (by decide) ?_
  refine gJ_ishr dX12_keyOf_43 ?_
  refine gJ_iconst (v := 1) dX12_keyOf_44 (by decide) ?_
  refine gJ_iand dX12_keyOf_45 ?_
  refine gJ_imul dX12_keyOf_46 ?_
  refine gJ_iadd dX12_keyOf_47 ?_
  refine gJ_aload_n dX12_keyOf_48 rfl rfl ?_
  refine gJ_get fX12_9 dX12_keyOf_49 (by first | assumption | exact gUp_s | exact gUp_n (by assumption) (by omega)) rfl ?_
  refine gJ_iload_n dX12_keyOf_52 rfl rfl ?_
  refine gJ_iconst (v := 2) dX12_keyOf_53 (by decide) ?_
  refine gJ_iaddN (a := (0 + (3 * (a % 12)))) (b := 2) dX12_keyOf_54 (by first | with_reducible rfl | rfl) (by first | with_reducible rfl | rfl) ?_
  refine gJ_ialdN (j := ((0 + (3 * (a % 12))) + 2)) dX12_keyOf_55 (by first | assumption | exact gUp_s | exact gUp_n (by assumption) (by omega)) (by first | with_reducible rfl | rfl) (by omega) (by decide) ?_
  refine gJ_iload_n dX12_keyOf_56 rfl rfl ?_
  refine gJ_iconst (v := 2) dX12_keyOf_57 (by decide) ?_
  refine gJ_ishr dX12_keyOf_58 ?_
  refine gJ_imul dX12_keyOf_59 ?_
  refine gJ_iadd dX12_keyOf_60 ?_
  refine gJ_iret dX12_keyOf_61 rfl ?_
  exact ⟨rfl, rfl⟩
set_option maxRecDepth 20000 in
theorem c12_holds (hm : M.1 m = some (mO m hi tn at_ fa)) (hV : M.1 (m + 1) = some (gI 1999 V)) (hI : mI V) (a : Nat) (ha : a < 60) : gCon G kX12_holds 1 0 0 M [.ref m, .int (nI a)] (fun M2 v => M2 = M ∧ v = some (.int (gb (mHolds V a)))) := by
  refine gCon_of (by decide) (Nat.le_of_ble_eq_true rfl) ?_
  show gJ _ _ _ _ _ _ 0 [(0, _), (1, _)] [] _
  refine gJ_bipush (v := 60) dX12_holds_0 (by decide) ?_
  refine gJ_bipush (v := 10) dX12_holds_2 (by decide) ?_
  refine gJ_iload_n dX12_holds_4 rfl rfl ?_
  refine gJ_bipush (v := 12) dX12_holds_5 (by decide) ?_
  refine gJ_idivN (a := a) (b := 12) dX12_holds_7 (by first | with_reducible rfl | rfl) (by first | with_reducible rfl | rfl) (by omega) (by decide) ?_
  refine gJ_imulN (a := 10) (b := (a / 12)) dX12_holds_8 (by first | with_reducible rfl | rfl) (by first | with_reducible rfl | rfl) ?_
  refine gJ_iaddN (a := 60) (b := (10 * (a / 12))) dX12_holds_9 (by first | with_reducible rfl | rfl) (by first | with_reducible rfl | rfl) ?_
  refine gJ_istore_n (lv2 := [(2, _), (0, _), (1, _)]) dX12_holds_10 rfl rfl rfl ?_
  refine gJ_iload_n dX12_holds_11 rfl rfl ?_
  refine gJ_bipush (v := 12) dX12_holds_12 (by decide) ?_
  refine gJ_iremN (a := a) (b := 12) dX12_holds_14 (by first | with_reducible rfl | rfl) (by first | with_reducible rfl | rfl) (by omega) (by decide) ?_
  refine gJ_istore_n (lv2 := [(3, _), (2, _), (0, _), (1, _)]) dX12_holds_15 rfl rfl rfl ?_
  refine gJ_aload_n dX12_holds_16 rfl rfl ?_
  refine gJ_get fX12_9 dX12_holds_17 (by first | assumption | exact gUp_s | exact gUp_n (by assumption) (by omega)) rfl ?_
  refine gJ_iload_n dX12_holds_20 rfl rfl ?_
  refine gJ_ialdN (j := (60 + (10 * (a / 12)))) dX12_holds_21 (by first | assumption | exact gUp_s | exact gUp_n (by assumption) (by omega)) (by first | with_reducible rfl | rfl) (by omega) (by decide) ?_
  refine gJ_if_eq (tgt := 48) dX12_holds_22 (by decide) (fun c22 => ?_) (fun c22 => ?_)
  · refine gJ_iconst (v := 0) dX12_holds_48 (by decide) ?_
    refine gJ_zret dX12_holds_49 rfl (by first | exact gz0 | exact gz1 | exact gb01 _) ?_
    refine ⟨rfl, ?_⟩
    simp [mHolds, *, gb]
  · refine gJ_aload_n dX12_holds_25 rfl rfl ?_
    refine gJ_get fX12_9 dX12_holds_26 (by first | assumption | exact gUp_s | exact gUp_n (by assumption) (by omega)) rfl ?_
    refine gJ_bipush (v := 48) dX12_holds_29 (by decide) ?_
    refine gJ_iload_n dX12_holds_31 rfl rfl ?_
    refine gJ_iaddN (a := 48) (b := (a % 12)) dX12_holds_32 (by first | with_reducible rfl | rfl) (by first | with_reducible rfl | rfl) ?_
    refine gJ_ialdN (j := (48 + (a % 12))) dX12_holds_33 (by first | assumption | exact gUp_s | exact gUp_n (by assumption) (by omega)) (by first | with_reducible rfl | rfl) (by omega) (by decide) ?_
    refine gJ_if_eq (tgt := 48) dX12_holds_34 (by decide) (fun c34 => ?_) (fun c34 => ?_)
    · refine gJ_iconst (v := 0) dX12_holds_48 (by decide) ?_
      refine gJ_zret dX12_holds_49 rfl (by first | exact gz0 | exact gz1 | exact gb01 _) ?_
      refine ⟨rfl, ?_⟩
      simp [mHolds, *, gb]
    · refine gJ_aload_n dX12_holds_37 rfl rfl ?_
      refine gJ_iload_n dX12_holds_38 rfl rfl ?_
      refine gJ_iload_n dX12_holds_39 rfl rfl ?_
      refine gJ_iconst (v := 1) dX12_holds_40 (by decide) ?_
      refine gJ_iaddN (a := (60 + (10 * (a / 12)))) (b := 1) dX12_holds_41 (by first | with_reducible rfl | rfl) (by first | with_reducible rfl | rfl) ?_
      refine gJ_callV (As := [_, _]) b_X12_matches lX12_98 i_X12_matches s_X12_matches dX12_holds_42 (c12_matches hm hV a (60 + 10 * (a / 12) + 1) ha (hI.2.2.1 (a / 12) (by omega)).2.1) (by assumption) rfl rfl (Nat.le_of_ble_eq_true rfl) rfl (by decide) (fun M42 v_ h42 => ?_)
      obtain ⟨rfl, rfl⟩ := h42
      refine gJ_if_neB (tgt := 50) dX12_holds_45 (by decide) (fun c45 => ?_) (fun c45 => ?_)
      · refine gJ_aload_n dX12_holds_50 rfl rfl ?_
        refine gJ_get fX12_9 dX12_holds_51 (by first | assumption | exact gUp_s | exact gUp_n (by assumption) (by omega)) rfl ?_
        refine gJ_bipush (v := 36) dX12_holds_54 (by decide) ?_
        refine gJ_iload_n dX12_holds_56 rfl rfl ?_
        refine gJ_iaddN (a := 36) (b := (a % 12)) dX12_holds_57 (by first | with_reducible rfl | rfl) (by first | with_reducible rfl | rfl) ?_
        refine gJ_ialdN (j := (36 + (a % 12))) dX12_holds_58 (by first | assumption | exact gUp_s | exact gUp_n (by assumption) (by omega)) (by first | with_reducible rfl | rfl) (by omega) (by decide) ?_
        refine gJ_istore (lv2 := [(4, _), (3, _), (2, _), (0, _), (1, _)]) dX12_holds_59 rfl rfl ?_
        refine gJ_aload_n dX12_holds_61 rfl rfl ?_
        refine gJ_get fX12_9 dX12_holds_62 (by first | assumption | exact gUp_s | exact gUp_n (by assumption) (by omega)) rfl ?_
        refine gJ_iload_n dX12_holds_65 rfl rfl ?_
        refine gJ_bipush (v := 6) dX12_holds_66 (by decide) ?_
        refine gJ_iaddN (a := (60 + (10 * (a / 12)))) (b := 6) dX12_holds_68 (by first | with_reducible rfl | rfl) (by first | with_reducible rfl | rfl) ?_
        refine gJ_ialdN (j := ((60 + (10 * (a / 12))) + 6)) dX12_holds_69 (by first | assumption | exact gUp_s | exact gUp_n (by assumption) (by omega)) (by first | with_reducible rfl | rfl) (by omega) (by decide) ?_
        refine gJ_if_ne (tgt := 95) dX12_holds_70 (by decide) (fun c70 => ?_) (fun c70 => ?_)
        · refine gJ_aload_n dX12_holds_95 rfl rfl ?_
          refine gJ_get fX12_9 dX12_holds_96 (by first | assumption | exact gUp_s | exact gUp_n (by assumption) (by omega)) rfl ?_
          refine gJ_iload_n dX12_holds_99 rfl rfl ?_
          refine gJ_bipush (v := 6) dX12_holds_100 (by decide) ?_
          refine gJ_iaddN (a := (60 + (10 * (a / 12)))) (b := 6) dX12_holds_102 (by first | with_reducible rfl | rfl) (by first | with_reducible rfl | rfl) ?_
          refine gJ_ialdN (j := ((60 + (10 * (a / 12))) + 6)) dX12_holds_103 (by first | assumption | exact gUp_s | exact gUp_n (by assumption) (by omega)) (by first | with_reducible rfl | rfl) (by omega) (by decide) ?_
          refine gJ_iconst (v := 1) dX12_holds_104 (by decide) ?_
          refine gJ_icmp_ne (tgt := 130) dX12_holds_105 (by decide) (fun c105 => ?_) (fun c105 => ?_)
          · refine gJ_iload dX12_holds_130 rfl ?_
            refine gJ_aload_n dX12_holds_132 rfl rfl ?_
            refine gJ_get fX12_9 dX12_holds_133 (by first | assumption | exact gUp_s | exact gUp_n (by assumption) (by omega)) rfl ?_
            refine gJ_iload_n dX12_holds_136 rfl rfl ?_
            refine gJ_bipush (v := 7) dX12_holds_137 (by decide) ?_
            refine gJ_iaddN (a := (60 + (10 * (a / 12)))) (b := 7) dX12_holds_139 (by first | with_reducible rfl | rfl) (by first | with_reducible rfl | rfl) ?_
            refine gJ_ialdN (j := ((60 + (10 * (a / 12))) + 7)) dX12_holds_140 (by first | assumption | exact gUp_s | exact gUp_n (by assumption) (by omega)) (by first | with_reducible rfl | rfl) (by omega) (by decide) ?_
            refine gJ_icmp_ne (tgt := 148) dX12_holds_141 (by decide) (fun c141 => ?_) (fun c141 => ?_)
            · refine gJ_iconst (v := 0) dX12_holds_148 (by decide) ?_
              refine gJ_zret dX12_holds_149 rfl (by first | exact gz0 | exact gz1 | exact gb01 _) ?_
              refine ⟨rfl, ?_⟩
              simp only [mHolds, *, gb, decide_true, decide_false, Bool.not_true, Bool.not_false, Bool.and_true, Bool.true_and, if_true, if_false, ↓reduceIte]
              try rfl
            · refine gJ_iconst (v := 1) dX12_holds_144 (by decide) ?_
              refine gJ_goto (tgt := 149) dX12_holds_145 (by decide) ?_
              refine gJ_zret dX12_holds_149 rfl (by first | exact gz0 | exact gz1 | exact gb01 _) ?_
              refine ⟨rfl, ?_⟩
              simp only [mHolds, *, gb, decide_true, decide_false, Bool.not_true, Bool.not_false, Bool.and_true, Bool.true_and, if_true, if_false, ↓reduceIte]
              try rfl
          · refine gJ_iload dX12_holds_108 rfl ?_
            refine gJ_aload_n dX12_holds_110 rfl rfl ?_
            refine gJ_get fX12_9 dX12_holds_111 (by first | assumption | exact gUp_s | exact gUp_n (by assumption) (by omega)) rfl ?_
            refine gJ_iload_n dX12_holds_114 rfl rfl ?_
            refine gJ_bipush (v := 7) dX12_holds_115 (by decide) ?_
            refine gJ_iaddN (a := (60 + (10 * (a / 12)))) (b := 7) dX12_holds_117 (by first | with_reducible rfl | rfl) (by first | with_reducible rfl | rfl) ?_
            refine gJ_ialdN (j := ((60 + (10 * (a / 12))) + 7)) dX12_holds_118 (by first | assumption | exact gUp_s | exact gUp_n (by assumption) (by omega)) (by first | with_reducible rfl | rfl) (by omega) (by decide) ?_
            refine gJ_icmp_le (tgt := 126) dX12_holds_119 (by decide) (fun c119 => ?_) (fun c119 => ?_)
            · refine gJ_iconst (v := 0) dX12_holds_126 (by decide) ?_
              refine gJ_goto (tgt := 149) dX12_holds_127 (by decide) ?_
              refine gJ_zret dX12_holds_149 rfl (by first | exact gz0 | exact gz1 | exact gb01 _) ?_
              refine ⟨rfl, ?_⟩
              simp only [mHolds, *, gb, decide_true, decide_false, Bool.not_true, Bool.not_false, Bool.and_true, Bool.true_and, if_true, if_false, ↓reduceIte]
              try rfl
            · refine gJ_iconst (v := 1) dX12_holds_122 (by decide) ?_
              refine gJ_goto (tgt := 149) dX12_holds_123 (by decide) ?_
              refine gJ_zret dX12_holds_149 rfl (by first | exact gz0 | exact gz1 | exact gb01 _) ?_
              refine ⟨rfl, ?_⟩
              simp only [mHolds, *, gb, decide_true, decide_false, Bool.not_true, Bool.not_false, Bool.and_true, Bool.true_and, if_true, if_false, ↓reduceIte]
              try rfl
        · refine gJ_iload dX12_holds_73 rfl ?_
          refine gJ_aload_n dX12_holds_75 rfl rfl ?_
          refine gJ_get fX12_9 dX12_holds_76 (by first | assumption | exact gUp_s | exact gUp_n (by assumption) (by omega)) rfl ?_
          refine gJ_iload_n dX12_holds_79 rfl rfl ?_
          refine gJ_bipush (v := 7) dX12_holds_80 (by decide) ?_
          refine gJ_iaddN (a := (60 + (10 * (a / 12)))) (b := 7) dX12_holds_82 (by first | with_reducible rfl | rfl) (by first | with_reducible rfl | rfl) ?_
          refine gJ_ialdN (j := ((60 + (10 * (a / 12))) + 7)) dX12_holds_83 (by first | assumption | exact gUp_s | exact gUp_n (by assumption) (by omega)) (by first | with_reducible rfl | rfl) (by omega) (by decide) ?_
          refine gJ_icmp_ge (tgt := 91) dX12_holds_84 (by decide) (fun c84 => ?_) (fun c84 => ?_)
          · refine gJ_iconst (v := 0) dX12_holds_91 (by decide) ?_
            refine gJ_goto (tgt := 149) dX12_holds_92 (by decide) ?_
            refine gJ_zret dX12_holds_149 rfl (by first | exact gz0 | exact gz1 | exact gb01 _) ?_
            refine ⟨rfl, ?_⟩
            simp only [mHolds, *, gb, decide_true, decide_false, Bool.not_true, Bool.not_false, Bool.and_true, Bool.true_and, if_true, if_false, ↓reduceIte]
            try rfl
          · refine gJ_iconst (v := 1) dX12_holds_87 (by decide) ?_
            refine gJ_goto (tgt := 149) dX12_holds_88 (by decide) ?_
            refine gJ_zret dX12_holds_149 rfl (by first | exact gz0 | exact gz1 | exact gb01 _) ?_
            refine ⟨rfl, ?_⟩
            simp only [mHolds, *, gb, decide_true, decide_false, Bool.not_true, Bool.not_false, Bool.and_true, Bool.true_and, if_true, if_false, ↓reduceIte]
            try rfl
      · refine gJ_iconst (v := 0) dX12_holds_48 (by decide) ?_
        refine gJ_zret dX12_holds_49 rfl (by first | exact gz0 | exact gz1 | exact gb01 _) ?_
        refine ⟨rfl, ?_⟩
        simp [mHolds, *, gb]
set_option maxRecDepth 20000 in
theorem c12_isInhibitedBy (hm : M.1 m = some (mO m hi tn at_ fa)) (hV : M.1 (m + 1) = some (gI 1999 V)) (hI : mI V) (a b : Nat) (ha : a < 60) (hb : b < 60) : gCon G kX12_isInhibitedBy 1 0 0 M [.ref m, .int (nI a), .int (nI b)] (fun M2 v => M2 = M ∧ v = some (.int (gb (mInh V a b)))) := by
  refine gCon_of (by decide) (Nat.le_of_ble_eq_true rfl) ?_
  have loop : ∀ (q j : Nat), j + q = 5 → j ≤ 4 → (∀ i, i < j → mInhK V a b i = false) →
      gJ G kX12_isInhibitedBy 1 0 0 M 2 [(3, .int (nI j)), (0, .ref m), (1, .int (nI a)), (2, .int (nI b))] [] (gQ kX12_isInhibitedBy (fun M2 v => M2 = M ∧ v = some (.int (gb (mInh V a b))))) := by
    intro q
    induction q with
    | zero => intro j h1 h2; exact absurd h1 (by omega)
    | succ q ih =>
      intro j hq hj hp
      have next : j < 4 → mInhK V a b j = false → gJ G kX12_isInhibitedBy 1 0 0 M 143 [(3, .int (nI j)), (0, .ref m), (1, .int (nI a)), (2, .int (nI b))] [] (gQ kX12_isInhibitedBy (fun M2 v => M2 = M ∧ v = some (.int (gb (mInh V a b))))) := by
        intro hj4 hK
        refine gJ_iincN (a := j) (b := 1) (lv2 := [(3, _), (0, _), (1, _), (2, _)]) dX12_isInhibitedBy_143 rfl rfl rfl rfl ?_
        refine gJ_goto (tgt := 2) dX12_isInhibitedBy_146 (by decide) ?_
        refine gJ_ls (ih (j + 1) (by omega) (by omega) ?_) ⟨rfl, rfl, rfl, rfl, trivial⟩
        intro i hi
        rcases Nat.lt_succ_iff_lt_or_eq.mp hi with h | rfl
        · exact hp i h
        · exact hK
      have inner : j < 4 → ¬ V (158 + 12 * j) = 0 → mMat V b (158 + 12 * j + 1) = true → mMat V a (158 + 12 * j + 6) = true → ∀ (r l : Nat), l + r = 4 → l ≤ 3 → ∀ (sm : Bool), sm = (List.range l).all (mSame V a b j) →
          gJ G kX12_isInhibitedBy 1 0 0 M 61 [(6, .int (nI l)), (5, .int (gb sm)), (4, .int (nI (158 + 12 * j))), (3, .int (nI j)), (0, .ref m), (1, .int (nI a)), (2, .int (nI b))] [] (gQ kX12_isInhibitedBy (fun M2 v => M2 = M ∧ v = some (.int (gb (mInh V a b))))) := by
        intro hj4 d1 d2 d3 r
        induction r with
        | zero => intro l h1 h2; exact absurd h1 (by omega)
        | succ r ihr =>
          intro l hl1 hl2 sm hsm
          refine gJ_iload dX12_isInhibitedBy_61 rfl ?_
          refine gJ_iconst (v := 3) dX12_isInhibitedBy_63 (by decide) ?_
          refine gJ_icmp_geN (tgt := 136) (a := l) (b := 3) (by first | with_reducible rfl | rfl) (by first | with_reducible rfl | rfl) (by omega) (by omega) dX12_isInhibitedBy_64 (by decide) (fun c64 => ?_) (fun c64 => ?_)
          · refine gJ_iload dX12_isInhibitedBy_136 rfl ?_
            refine gJ_if_eqB (tgt := 143) dX12_isInhibitedBy_138 (by decide) (fun c138 => ?_) (fun c138 => ?_)
            · refine gJ_ls (next (by omega) ?_) ⟨rfl, rfl, rfl, rfl, trivial⟩
              have e3 : l = 3 := by omega
              subst e3
              simp only [mInhK, decide_false, Bool.not_false, Bool.true_and, d1, d2, d3, ← hsm, c138]
            · refine gJ_iconst (v := 1) dX12_isInhibitedBy_141 (by decide) ?_
              refine gJ_zret dX12_isInhibitedBy_142 rfl (by first | exact gz0 | exact gz1 | exact gb01 _) ?_
              refine ⟨rfl, ?_⟩
              have e3 : l = 3 := by omega
              subst e3
              rw [mInh, any_t (j := j) hj4 ?_]
              · rfl
              · simp only [mInhK, decide_false, Bool.not_false, Bool.true_and, d1, d2, d3, ← hsm, c138]
          · refine gJ_iload dX12_isInhibitedBy_67 rfl ?_
            refine gJ_aload_n dX12_isInhibitedBy_69 rfl rfl ?_
            refine gJ_get fX12_9 dX12_isInhibitedBy_70 (by first | assumption | exact gUp_s | exact gUp_n (by assumption) (by omega)) rfl ?_
            refine gJ_iload dX12_isInhibitedBy_73 rfl ?_
            refine gJ_bipush (v := 11) dX12_isInhibitedBy_75 (by decide) ?_
            refine gJ_iaddN (a := (158+12*j)) (b := 11) dX12_isInhibitedBy_77 (by first | with_reducible rfl | rfl) (by first | with_reducible rfl | rfl) ?_
            refine gJ_ialdN (j := ((158+12*j) + 11)) dX12_isInhibitedBy_78 (by first | assumption | exact gUp_s | exact gUp_n (by assumption) (by omega)) (by first | with_reducible rfl | rfl) (by omega) (by decide) ?_
            refine gJ_iload dX12_isInhibitedBy_79 rfl ?_
            refine gJ_ishr dX12_isInhibitedBy_81 ?_
            refine gJ_iconst (v := 1) dX12_isInhibitedBy_82 (by decide) ?_
            refine gJ_iand dX12_isInhibitedBy_83 ?_
            refine gJ_if_eq (tgt := 122) dX12_isInhibitedBy_84 (by decide) (fun c84 => ?_) (fun c84 => ?_)
            · refine gJ_iconst (v := 1) dX12_isInhibitedBy_122 (by decide) ?_
              refine gJ_goto (tgt := 127) dX12_isInhibitedBy_123 (by decide) ?_
              refine gJ_iand dX12_isInhibitedBy_127 ?_
              refine gJ_istore (lv2 := [(5, _), (6, _), (4, _), (3, _), (0, _), (1, _), (2, _)]) dX12_isInhibitedBy_128 rfl rfl ?_
              refine gJ_iincN (a := l) (b := 1) (lv2 := [(6, _), (5, _), (4, _), (3, _), (0, _), (1, _), (2, _)]) dX12_isInhibitedBy_130 rfl rfl rfl rfl ?_
              refine gJ_goto (tgt := 61) dX12_isInhibitedBy_133 (by decide) ?_
              refine gJ_ls (ihr (l + 1) (by omega) (by omega) (sm && mSame V a b j l) ?_) ⟨rfl, ?_, rfl, rfl, rfl, rfl, rfl, trivial⟩
              · rw [List.range_succ, List.all_append, ← hsm]; simp
              · first | (refine congrArg (fun z => some (Value.int z)) (gb_s1 ?_); first | (simp only [mSame, c84, decide_true, Bool.true_or]; done) | (simp only [mSame, c119, eq_self, decide_true, Bool.or_true]; done)) | (refine congrArg (fun z => some (Value.int z)) (gb_s0 ?_); simp only [mSame, c84, c119, decide_false, Bool.or_self]; done)
            · refine gJ_aload_n dX12_isInhibitedBy_87 rfl rfl ?_
              refine gJ_get fX12_9 dX12_isInhibitedBy_88 (by first | assumption | exact gUp_s | exact gUp_n (by assumption) (by omega)) rfl ?_
              refine gJ_iconst (v := 0) dX12_isInhibitedBy_91 (by decide) ?_
              refine gJ_iconst (v := 3) dX12_isInhibitedBy_92 (by decide) ?_
              refine gJ_iload_n dX12_isInhibitedBy_93 rfl rfl ?_
              refine gJ_bipush (v := 12) dX12_isInhibitedBy_94 (by decide) ?_
              refine gJ_iremN (a := a) (b := 12) dX12_isInhibitedBy_96 (by first | with_reducible rfl | rfl) (by first | with_reducible rfl | rfl) (by omega) (by decide) ?_
              refine gJ_imulN (a := 3) (b := (a % 12)) dX12_isInhibitedBy_97 (by first | with_reducible rfl | rfl) (by first | with_reducible rfl | rfl) ?_
              refine gJ_iaddN (a := 0) (b := (3 * (a % 12))) dX12_isInhibitedBy_98 (by first | with_reducible rfl | rfl) (by first | with_reducible rfl | rfl) ?_
              refine gJ_iload dX12_isInhibitedBy_99 rfl ?_
              refine gJ_iaddN (a := (0 + (3 * (a % 12)))) (b := l) dX12_isInhibitedBy_101 (by first | with_reducible rfl | rfl) (by first | with_reducible rfl | rfl) ?_
              refine gJ_ialdN (j := ((0 + (3 * (a % 12))) + l)) dX12_isInhibitedBy_102 (by first | assumption | exact gUp_s | exact gUp_n (by assumption) (by omega)) (by first | with_reducible rfl | rfl) (by omega) (by decide) ?_
              refine gJ_aload_n dX12_isInhibitedBy_103 rfl rfl ?_
              refine gJ_get fX12_9 dX12_isInhibitedBy_104 (by first | assumption | exact gUp_s | exact gUp_n (by assumption) (by omega)) rfl ?_
              refine gJ_iconst (v := 0) dX12_isInhibitedBy_107 (by decide) ?_
              refine gJ_iconst (v := 3) dX12_isInhibitedBy_108 (by decide) ?_
              refine gJ_iload_n dX12_isInhibitedBy_109 rfl rfl ?_
              refine gJ_bipush (v := 12) dX12_isInhibitedBy_110 (by decide) ?_
              refine gJ_iremN (a := b) (b := 12) dX12_isInhibitedBy_112 (by first | with_reducible rfl | rfl) (by first | with_reducible rfl | rfl) (by omega) (by decide) ?_
              refine gJ_imulN (a := 3) (b := (b % 12)) dX12_isInhibitedBy_113 (by first | with_reducible rfl | rfl) (by first | with_reducible rfl | rfl) ?_
              refine gJ_iaddN (a := 0) (b := (3 * (b % 12))) dX12_isInhibitedBy_114 (by first | with_reducible rfl | rfl) (by first | with_reducible rfl | rfl) ?_
              refine gJ_iload dX12_isInhibitedBy_115 rfl ?_
              refine gJ_iaddN (a := (0 + (3 * (b % 12)))) (b := l) dX12_isInhibitedBy_117 (by first | with_reducible rfl | rfl) (by first | with_reducible rfl | rfl) ?_
              refine gJ_ialdN (j := ((0 + (3 * (b % 12))) + l)) dX12_isInhibitedBy_118 (by first | assumption | exact gUp_s | exact gUp_n (by assumption) (by omega)) (by first | with_reducible rfl | rfl) (by omega) (by decide) ?_
              refine gJ_icmp_ne (tgt := 126) dX12_isInhibitedBy_119 (by decide) (fun c119 => ?_) (fun c119 => ?_)
              · refine gJ_iconst (v := 0) dX12_isInhibitedBy_126 (by decide) ?_
                refine gJ_iand dX12_isInhibitedBy_127 ?_
                refine gJ_istore (lv2 := [(5, _), (6, _), (4, _), (3, _), (0, _), (1, _), (2, _)]) dX12_isInhibitedBy_128 rfl rfl ?_
                refine gJ_iincN (a := l) (b := 1) (lv2 := [(6, _), (5, _), (4, _), (3, _), (0, _), (1, _), (2, _)]) dX12_isInhibitedBy_130 rfl rfl rfl rfl ?_
                refine gJ_goto (tgt := 61) dX12_isInhibitedBy_133 (by decide) ?_
                refine gJ_ls (ihr (l + 1) (by omega) (by omega) (sm && mSame V a b j l) ?_) ⟨rfl, ?_, rfl, rfl, rfl, rfl, rfl, trivial⟩
                · rw [List.range_succ, List.all_append, ← hsm]; simp
                · first | (refine congrArg (fun z => some (Value.int z)) (gb_s1 ?_); first | (simp only [mSame, c84, decide_true, Bool.true_or]; done) | (simp only [mSame, c119, eq_self, decide_true, Bool.or_true]; done)) | (refine congrArg (fun z => some (Value.int z)) (gb_s0 ?_); simp only [mSame, c84, c119, decide_false, Bool.or_self]; done)
              · refine gJ_iconst (v := 1) dX12_isInhibitedBy_122 (by decide) ?_
                refine gJ_goto (tgt := 127) dX12_isInhibitedBy_123 (by decide) ?_
                refine gJ_iand dX12_isInhibitedBy_127 ?_
                refine gJ_istore (lv2 := [(5, _), (6, _), (4, _), (3, _), (0, _), (1, _), (2, _)]) dX12_isInhibitedBy_128 rfl rfl ?_
                refine gJ_iincN (a := l) (b := 1) (lv2 := [(6, _), (5, _), (4, _), (3, _), (0, _), (1, _), (2, _)]) dX12_isInhibitedBy_130 rfl rfl rfl rfl ?_
                refine gJ_goto (tgt := 61) dX12_isInhibitedBy_133 (by decide) ?_
                refine gJ_ls (ihr (l + 1) (by omega) (by omega) (sm && mSame V a b j l) ?_) ⟨rfl, ?_, rfl, rfl, rfl, rfl, rfl, trivial⟩
                · rw [List.range_succ, List.all_append, ← hsm]; simp
                · first | (refine congrArg (fun z => some (Value.int z)) (gb_s1 ?_); first | (simp only [mSame, c84, decide_true, Bool.true_or]; done) | (simp only [mSame, c119, eq_self, decide_true, Bool.or_true]; done)) | (refine congrArg (fun z => some (Value.int z)) (gb_s0 ?_); simp only [mSame, c84, c119, decide_false, Bool.or_self]; done)
      refine gJ_iload_n dX12_isInhibitedBy_2 rfl rfl ?_
      refine gJ_iconst (v := 4) dX12_isInhibitedBy_3 (by decide) ?_
      refine gJ_icmp_geN (tgt := 149) (a := j) (b := 4) (by first | with_reducible rfl | rfl) (by first | with_reducible rfl | rfl) (by omega) (by omega) dX12_isInhibitedBy_4 (by decide) (fun c4 => ?_) (fun c4 => ?_)
      · refine gJ_iconst (v := 0) dX12_isInhibitedBy_149 (by decide) ?_
        refine gJ_zret dX12_isInhibitedBy_150 rfl (by first | exact gz0 | exact gz1 | exact gb01 _) ?_
        refine ⟨rfl, ?_⟩
        have e4 : j = 4 := by omega
        subst e4
        rw [mInh, any_f hp]
        rfl
      · refine gJ_sipush (v := 158) dX12_isInhibitedBy_7 (by decide) ?_
        refine gJ_bipush (v := 12) dX12_isInhibitedBy_10 (by decide) ?_
        refine gJ_iload_n dX12_isInhibitedBy_12 rfl rfl ?_
        refine gJ_imulN (a := 12) (b := j) dX12_isInhibitedBy_13 (by first | with_reducible rfl | rfl) (by first | with_reducible rfl | rfl) ?_
        refine gJ_iaddN (a := 158) (b := (12 * j)) dX12_isInhibitedBy_14 (by first | with_reducible rfl | rfl) (by first | with_reducible rfl | rfl) ?_
        refine gJ_istore (lv2 := [(4, _), (3, _), (0, _), (1, _), (2, _)]) dX12_isInhibitedBy_15 rfl rfl ?_
        refine gJ_aload_n dX12_isInhibitedBy_17 rfl rfl ?_
        refine gJ_get fX12_9 dX12_isInhibitedBy_18 (by first | assumption | exact gUp_s | exact gUp_n (by assumption) (by omega)) rfl ?_
        refine gJ_iload dX12_isInhibitedBy_21 rfl ?_
        refine gJ_ialdN (j := (158 + (12 * j))) dX12_isInhibitedBy_23 (by first | assumption | exact gUp_s | exact gUp_n (by assumption) (by omega)) (by first | with_reducible rfl | rfl) (by omega) (by decide) ?_
        refine gJ_if_eq (tgt := 143) dX12_isInhibitedBy_24 (by decide) (fun c24 => ?_) (fun c24 => ?_)
        · refine gJ_ls (next (by omega) ?_) ⟨rfl, rfl, rfl, rfl, trivial⟩
          simp [mInhK, *]
        · refine gJ_aload_n dX12_isInhibitedBy_27 rfl rfl ?_
          refine gJ_iload_n dX12_isInhibitedBy_28 rfl rfl ?_
          refine gJ_iload dX12_isInhibitedBy_29 rfl ?_
          refine gJ_iconst (v := 1) dX12_isInhibitedBy_31 (by decide) ?_
          refine gJ_iaddN (a := (158 + (12 * j))) (b := 1) dX12_isInhibitedBy_32 (by first | with_reducible rfl | rfl) (by first | with_reducible rfl | rfl) ?_
          refine gJ_callV (As := [_, _]) b_X12_matches lX12_98 i_X12_matches s_X12_matches dX12_isInhibitedBy_33 (c12_matches hm hV b (158 + 12 * j + 1) hb (hI.2.2.2.2.1 j (by omega)).2.1) (by assumption) rfl rfl (Nat.le_of_ble_eq_true rfl) rfl (by decide) (fun M33 v_ h33 => ?_)
          obtain ⟨rfl, rfl⟩ := h33
          refine gJ_if_eqB (tgt := 143) dX12_isInhibitedBy_36 (by decide) (fun c36 => ?_) (fun c36 => ?_)
          · refine gJ_ls (next (by omega) ?_) ⟨rfl, rfl, rfl, rfl, trivial⟩
            simp [mInhK, *]
          · refine gJ_aload_n dX12_isInhibitedBy_39 rfl rfl ?_
            refine gJ_iload_n dX12_isInhibitedBy_40 rfl rfl ?_
            refine gJ_iload dX12_isInhibitedBy_41 rfl ?_
            refine gJ_bipush (v := 6) dX12_isInhibitedBy_43 (by decide) ?_
            refine gJ_iaddN (a := (158 + (12 * j))) (b := 6) dX12_isInhibitedBy_45 (by first | with_reducible rfl | rfl) (by first | with_reducible rfl | rfl) ?_
            refine gJ_callV (As := [_, _]) b_X12_matches lX12_98 i_X12_matches s_X12_matches dX12_isInhibitedBy_46 (c12_matches hm hV a (158 + 12 * j + 6) ha (hI.2.2.2.2.1 j (by omega)).2.2.1) (by assumption) rfl rfl (Nat.le_of_ble_eq_true rfl) rfl (by decide) (fun M46 v_ h46 => ?_)
            obtain ⟨rfl, rfl⟩ := h46
            refine gJ_if_neB (tgt := 55) dX12_isInhibitedBy_49 (by decide) (fun c49 => ?_) (fun c49 => ?_)
            · refine gJ_iconst (v := 1) dX12_isInhibitedBy_55 (by decide) ?_
              refine gJ_istore (lv2 := [(5, _), (4, _), (3, _), (0, _), (1, _), (2, _)]) dX12_isInhibitedBy_56 rfl rfl ?_
              refine gJ_iconst (v := 0) dX12_isInhibitedBy_58 (by decide) ?_
              refine gJ_istore (lv2 := [(6, _), (5, _), (4, _), (3, _), (0, _), (1, _), (2, _)]) dX12_isInhibitedBy_59 rfl rfl ?_
              exact gJ_ls (inner (by omega) c24 c36 c49 4 0 (by omega) (by omega) true rfl) ⟨rfl, rfl, rfl, rfl, rfl, rfl, rfl, trivial⟩
            · refine gJ_goto (tgt := 143) dX12_isInhibitedBy_52 (by decide) ?_
              refine gJ_ls (next (by omega) ?_) ⟨rfl, rfl, rfl, rfl, trivial⟩
              simp [mInhK, *]
  show gJ _ _ _ _ _ _ 0 [(0, _), (1, _), (2, _)] [] _
  refine gJ_iconst (v := 0) dX12_isInhibitedBy_0 (by decide) ?_
  refine gJ_istore_n (lv2 := [(3, _), (0, _), (1, _), (2, _)]) dX12_isInhibitedBy_1 rfl rfl rfl ?_
  exact gJ_ls (loop 5 0 (by omega) (by omega) (fun i hi => absurd hi (by omega))) ⟨rfl, rfl, rfl, rfl, trivial⟩
theorem c12_inhibitorOf (hm : M.1 m = some (mO m hi tn at_ fa)) (hV : M.1 (m + 1) = some (gI 1999 V)) (hI : mI V) (a : Nat) (ha : a < 60) : gCon G kX12_inhibitorOf 2 0 0 M [.ref m, .int (nI a)] (fun M2 v => M2 = M ∧ v = some (.int (mInhOf V a))) := by
  refine gCon_of (by decide) (Nat.le_of_ble_eq_true rfl) ?_
  have loop : V (206 + 23 * a) = 2 → ∀ (q j : Nat), j + q = 61 → j ≤ 60 → (∀ i, i < j → mInhP V a i = false) →
      gJ G kX12_inhibitorOf 2 0 0 M 14 [(2, .int (nI j)), (0, .ref m), (1, .int (nI a))] [] (gQ kX12_inhibitorOf (fun M2 v => M2 = M ∧ v = some (.int (mInhOf V a)))) := by
    intro h2 q
    induction q with
    | zero => intro j h1 h2; exact absurd h1 (by omega)
    | succ q ih =>
      intro j hq hj hp
      refine gJ_iload_n dX12_inhibitorOf_14 rfl rfl ?_
      refine gJ_bipush (v := 60) dX12_inhibitorOf_15 (by decide) ?_
      refine gJ_icmp_geN (tgt := 51) (a := j) (b := 60) (by first | with_reducible rfl | rfl) (by first | with_reducible rfl | rfl) (by omega) (by omega) dX12_inhibitorOf_17 (by decide) (fun c17 => ?_) (fun c17 => ?_)
      · refine gJ_bipush (v := -5) dX12_inhibitorOf_51 (by decide) ?_
        refine gJ_iret dX12_inhibitorOf_53 rfl ?_
        refine ⟨rfl, ?_⟩
        rw [mInhOf, if_pos h2, mFind_none (fun i hi => hp i (by omega))]
      · refine gJ_iload_n dX12_inhibitorOf_20 rfl rfl ?_
        refine gJ_iload_n dX12_inhibitorOf_21 rfl rfl ?_
        refine gJ_icmp_eqN (tgt := 45) (a := j) (b := a) (by first | with_reducible rfl | rfl) (by first | with_reducible rfl | rfl) (by omega) (by omega) dX12_inhibitorOf_22 (by decide) (fun c22 => ?_) (fun c22 => ?_)
        · refine gJ_iincN (a := j) (b := 1) (lv2 := [(2, _), (0, _), (1, _)]) dX12_inhibitorOf_45 rfl rfl rfl rfl ?_
          refine gJ_goto (tgt := 14) dX12_inhibitorOf_48 (by decide) ?_
          refine gJ_ls (ih (j + 1) (by omega) (by omega) ?_) ⟨rfl, rfl, rfl, trivial⟩
          intro i hi
          rcases Nat.lt_succ_iff_lt_or_eq.mp hi with h | rfl
          · exact hp i h
          · simp [mInhP, *]
        · refine gJ_aload_n dX12_inhibitorOf_25 rfl rfl ?_
          refine gJ_iload_n dX12_inhibitorOf_26 rfl rfl ?_
          refine gJ_callV (As := [_]) b_X12_state lX12_104 i_X12_state s_X12_state dX12_inhibitorOf_27 (c12_state hm hV j (by omega)) (by assumption) rfl rfl (Nat.le_of_ble_eq_true rfl) rfl (by decide) (fun M27 v_ h27 => ?_)
          obtain ⟨rfl, rfl⟩ := h27
          refine gJ_iconst (v := 2) dX12_inhibitorOf_30 (by decide) ?_
          refine gJ_icmp_ne (tgt := 45) dX12_inhibitorOf_31 (by decide) (fun c31 => ?_) (fun c31 => ?_)
          · refine gJ_iincN (a := j) (b := 1) (lv2 := [(2, _), (0, _), (1, _)]) dX12_inhibitorOf_45 rfl rfl rfl rfl ?_
            refine gJ_goto (tgt := 14) dX12_inhibitorOf_48 (by decide) ?_
            refine gJ_ls (ih (j + 1) (by omega) (by omega) ?_) ⟨rfl, rfl, rfl, trivial⟩
            intro i hi
            rcases Nat.lt_succ_iff_lt_or_eq.mp hi with h | rfl
            · exact hp i h
            · simp [mInhP, *]
          · refine gJ_aload_n dX12_inhibitorOf_34 rfl rfl ?_
            refine gJ_iload_n dX12_inhibitorOf_35 rfl rfl ?_
            refine gJ_iload_n dX12_inhibitorOf_36 rfl rfl ?_
            refine gJ_callV (As := [_, _]) b_X12_isInhibitedBy lX12_107 i_X12_isInhibitedBy s_X12_isInhibitedBy dX12_inhibitorOf_37 (c12_isInhibitedBy hm hV hI a j ha (by omega)) (by assumption) rfl rfl (Nat.le_of_ble_eq_true rfl) rfl (by decide) (fun M37 v_ h37 => ?_)
            obtain ⟨rfl, rfl⟩ := h37
            refine gJ_if_eqB (tgt := 45) dX12_inhibitorOf_40 (by decide) (fun c40 => ?_) (fun c40 => ?_)
            · refine gJ_iincN (a := j) (b := 1) (lv2 := [(2, _), (0, _), (1, _)]) dX12_inhibitorOf_45 rfl rfl rfl rfl ?_
              refine gJ_goto (tgt := 14) dX12_inhibitorOf_48 (by decide) ?_
              refine gJ_ls (ih (j + 1) (by omega) (by omega) ?_) ⟨rfl, rfl, rfl, trivial⟩
              intro i hi
              rcases Nat.lt_succ_iff_lt_or_eq.mp hi with h | rfl
              · exact hp i h
              · simp [mInhP, *]
            · refine gJ_iload_n dX12_inhibitorOf_43 rfl rfl ?_
              refine gJ_iret dX12_inhibitorOf_44 rfl ?_
              refine ⟨rfl, ?_⟩
              rw [mInhOf, if_pos h2, mFind_hit (j := j) (by omega) (by simp [mInhP, *]) hp]
  show gJ _ _ _ _ _ _ 0 [(0, _), (1, _)] [] _
  refine gJ_aload_n dX12_inhibitorOf_0 rfl rfl ?_
  refine gJ_iload_n dX12_inhibitorOf_1 rfl rfl ?_
  refine gJ_callV (As := [_]) b_X12_state lX12_104 i_X12_state s_X12_state dX12_inhibitorOf_2 (c12_state hm hV a ha) (by assumption) rfl rfl (Nat.le_of_ble_eq_true rfl) rfl (by decide) (fun M2 v_ h2 => ?_)
  obtain ⟨rfl, rfl⟩ := h2
  refine gJ_iconst (v := 2) dX12_inhibitorOf_5 (by decide) ?_
  refine gJ_icmp_eq (tgt := 12) dX12_inhibitorOf_6 (by decide) (fun c6 => ?_) (fun c6 => ?_)
  · refine gJ_iconst (v := 0) dX12_inhibitorOf_12 (by decide) ?_
    refine gJ_istore_n (lv2 := [(2, _), (0, _), (1, _)]) dX12_inhibitorOf_13 rfl rfl rfl ?_
    exact gJ_ls (loop c6 61 0 (by omega) (by omega) (fun i hi => absurd hi (by omega))) ⟨rfl, rfl, rfl, trivial⟩
  · refine gJ_bipush (v := -5) dX12_inhibitorOf_9 (by decide) ?_
    refine gJ_iret dX12_inhibitorOf_11 rfl ?_
    refine ⟨rfl, ?_⟩
    rw [mInhOf, if_neg c6]
theorem c12_isActive (hm : M.1 m = some (mO m hi tn at_ fa)) (hV : M.1 (m + 1) = some (gI 1999 V)) (hI : mI V) (a : Nat) (ha : a < 60) : gCon G kX12_isActive 3 0 0 M [.ref m, .int (nI a)] (fun M2 v => M2 = M ∧ v = some (.int (gb (mAct V a)))) := by
  refine gCon_of (by decide) (Nat.le_of_ble_eq_true rfl) ?_
  show gJ _ _ _ _ _ _ 0 [(0, _), (1, _)] [] _
  refine gJ_aload_n dX12_isActive_0 rfl rfl ?_
  refine gJ_iload_n dX12_isActive_1 rfl rfl ?_
  refine gJ_callV (As := [_]) b_X12_state lX12_104 i_X12_state s_X12_state dX12_isActive_2 (c12_state hm hV a ha) (by assumption) rfl rfl (Nat.le_of_ble_eq_true rfl) rfl (by decide) (fun M2 v_ h2 => ?_)
  obtain ⟨rfl, rfl⟩ := h2
  refine gJ_iconst (v := 2) dX12_isActive_5 (by decide) ?_
  refine gJ_icmp_ne (tgt := 37) dX12_isActive_6 (by decide) (fun c6 => ?_) (fun c6 => ?_)
  · refine gJ_iconst (v := 0) dX12_isActive_37 (by decide) ?_
    refine gJ_zret dX12_isActive_38 rfl (by first | exact gz0 | exact gz1 | exact gb01 _) ?_
    refine ⟨rfl, ?_⟩
    simp [mAct, *, gb]
  · refine gJ_aload_n dX12_isActive_9 rfl rfl ?_
    refine gJ_iload_n dX12_isActive_10 rfl rfl ?_
    refine gJ_callV (As := [_]) b_X12_silenceOf lX12_113 i_X12_silenceOf s_X12_silenceOf dX12_isActive_11 (c12_silenceOf hm hV hI a ha) (by assumption) rfl rfl (Nat.le_of_ble_eq_true rfl) rfl (by decide) (fun M11 v_ h11 => ?_)
    obtain ⟨rfl, rfl⟩ := h11
    refine gJ_if_ge (tgt := 37) dX12_isActive_14 (by decide) (fun c14 => ?_) (fun c14 => ?_)
    · refine gJ_iconst (v := 0) dX12_isActive_37 (by decide) ?_
      refine gJ_zret dX12_isActive_38 rfl (by first | exact gz0 | exact gz1 | exact gb01 _) ?_
      refine ⟨rfl, ?_⟩
      simp [mAct, *, gb]
    · refine gJ_aload_n dX12_isActive_17 rfl rfl ?_
      refine gJ_iload_n dX12_isActive_18 rfl rfl ?_
      refine gJ_callV (As := [_]) b_X12_isFlapping lX12_116 i_X12_isFlapping s_X12_isFlapping dX12_isActive_19 (c12_isFlapping hm hV hI a ha) (by assumption) rfl rfl (Nat.le_of_ble_eq_true rfl) rfl (by decide) (fun M19 v_ h19 => ?_)
      obtain ⟨rfl, rfl⟩ := h19
      refine gJ_if_neB (tgt := 37) dX12_isActive_22 (by decide) (fun c22 => ?_) (fun c22 => ?_)
      · refine gJ_iconst (v := 0) dX12_isActive_37 (by decide) ?_
        refine gJ_zret dX12_isActive_38 rfl (by first | exact gz0 | exact gz1 | exact gb01 _) ?_
        refine ⟨rfl, ?_⟩
        simp [mAct, *, gb]
      · refine gJ_aload_n dX12_isActive_25 rfl rfl ?_
        refine gJ_iload_n dX12_isActive_26 rfl rfl ?_
        refine gJ_callV (As := [_]) b_X12_inhibitorOf lX12_120 i_X12_inhibitorOf s_X12_inhibitorOf dX12_isActive_27 (c12_inhibitorOf hm hV hI a ha) (by assumption) rfl rfl (Nat.le_of_ble_eq_true rfl) rfl (by decide) (fun M27 v_ h27 => ?_)
        obtain ⟨rfl, rfl⟩ := h27
        refine gJ_if_ge (tgt := 37) dX12_isActive_30 (by decide) (fun c30 => ?_) (fun c30 => ?_)
        · refine gJ_iconst (v := 0) dX12_isActive_37 (by decide) ?_
          refine gJ_zret dX12_isActive_38 rfl (by first | exact gz0 | exact gz1 | exact gb01 _) ?_
          refine ⟨rfl, ?_⟩
          simp [mAct, *, gb]
        · refine gJ_iconst (v := 1) dX12_isActive_33 (by decide) ?_
          refine gJ_goto (tgt := 38) dX12_isActive_34 (by decide) ?_
          refine gJ_zret dX12_isActive_38 rfl (by first | exact gz0 | exact gz1 | exact gb01 _) ?_
          refine ⟨rfl, ?_⟩
          simp [mAct, *, gb]
theorem c12_actives (hm : M.1 m = some (mO m hi tn at_ fa)) (hV : M.1 (m + 1) = some (gI 1999 V)) (hI : mI V) : gCon G kX12_actives 4 0 0 M [.ref m] (fun M2 v => M2 = M ∧ v = some (.long (mActs V))) := by
  refine gCon_of (by decide) (Nat.le_of_ble_eq_true rfl) ?_
  have loop : ∀ (q j : Nat), j + q = 61 → j ≤ 60 →
      gJ G kX12_actives 4 0 0 M 4 [(3, .int (nI j)), (1, .long (lS (mAct V) j)), (0, .ref m)] [] (gQ kX12_actives (fun M2 v => M2 = M ∧ v = some (.long (mActs V)))) := by
    intro q
    induction q with
    | zero => intro j h1 h2; exact absurd h1 (by omega)
    | succ q ih =>
      intro j hq hj
      refine gJ_iload_n dX12_actives_4 rfl rfl ?_
      refine gJ_bipush (v := 60) dX12_actives_5 (by decide) ?_
      refine gJ_icmp_geN (tgt := 34) (a := j) (b := 60) (by first | with_reducible rfl | rfl) (by first | with_reducible rfl | rfl) (by omega) (by omega) dX12_actives_7 (by decide) (fun c7 => ?_) (fun c7 => ?_)
      · refine gJ_lload_n dX12_actives_34 rfl rfl ?_
        refine gJ_lret dX12_actives_35 rfl ?_
        refine ⟨rfl, ?_⟩
        have e1 : j = 60 := by omega
        subst e1
        rfl
      · refine gJ_lload_n dX12_actives_10 rfl rfl ?_
        refine gJ_aload_n dX12_actives_11 rfl rfl ?_
        refine gJ_iload_n dX12_actives_12 rfl rfl ?_
        refine gJ_callV (As := [_]) b_X12_isActive lX12_123 i_X12_isActive s_X12_isActive dX12_actives_13 (c12_isActive hm hV hI j (by omega)) (by assumption) rfl rfl (Nat.le_of_ble_eq_true rfl) rfl (by decide) (fun M13 v_ h13 => ?_)
        obtain ⟨rfl, rfl⟩ := h13
        refine gJ_if_eqB (tgt := 25) dX12_actives_16 (by decide) (fun c16 => ?_) (fun c16 => ?_)
        · refine gJ_lconst (v := 0) dX12_actives_25 (by decide) ?_
          refine gJ_lor dX12_actives_26 ?_
          refine gJ_lstore_n (lv2 := [(1, _), (3, _), (0, _)]) dX12_actives_27 rfl rfl rfl ?_
          refine gJ_iincN (a := j) (b := 1) (lv2 := [(3, _), (1, _), (0, _)]) dX12_actives_28 rfl rfl rfl rfl ?_
          refine gJ_goto (tgt := 4) dX12_actives_31 (by decide) ?_
          refine gJ_ls (ih (j + 1) (by omega) (by omega)) ⟨rfl, ?_, rfl, trivial⟩
          show some (Value.long _) = some (Value.long _)
          rw [lS, c16]
          rfl
        · refine gJ_lconst (v := 1) dX12_actives_19 (by decide) ?_
          refine gJ_iload_n dX12_actives_20 rfl rfl ?_
          refine gJ_lshl dX12_actives_21 ?_
          refine gJ_goto (tgt := 26) dX12_actives_22 (by decide) ?_
          refine gJ_lor dX12_actives_26 ?_
          refine gJ_lstore_n (lv2 := [(1, _), (3, _), (0, _)]) dX12_actives_27 rfl rfl rfl ?_
          refine gJ_iincN (a := j) (b := 1) (lv2 := [(3, _), (1, _), (0, _)]) dX12_actives_28 rfl rfl rfl rfl ?_
          refine gJ_goto (tgt := 4) dX12_actives_31 (by decide) ?_
          refine gJ_ls (ih (j + 1) (by omega) (by omega)) ⟨rfl, ?_, rfl, trivial⟩
          show some (Value.long _) = some (Value.long _)
          rw [lS, c16]
          rfl
  show gJ _ _ _ _ _ _ 0 [(0, _)] [] _
  refine gJ_lconst (v := 0) dX12_actives_0 (by decide) ?_
  refine gJ_lstore_n (lv2 := [(1, _), (0, _)]) dX12_actives_1 rfl rfl rfl ?_
  refine gJ_iconst (v := 0) dX12_actives_2 (by decide) ?_
  refine gJ_istore_n (lv2 := [(3, _), (1, _), (0, _)]) dX12_actives_3 rfl rfl rfl ?_
  exact gJ_ls (loop 61 0 (by omega) (by omega)) ⟨rfl, rfl, rfl, trivial⟩
theorem c12_size (x : Int64) : gCon G kX12_size 0 0 0 M [.long x] (fun M2 v => M2 = M ∧ v = some (.int (nI (mSize x)))) := by
  refine gCon_of (by decide) (Nat.le_of_ble_eq_true rfl) ?_
  have loop : ∀ (q j c : Nat), j + q = 61 → j ≤ 60 → c = (List.range j).countP (lB x) → c ≤ j →
      gJ G kX12_size 0 0 0 M 4 [(3, .int (nI j)), (2, .int (nI c)), (0, .long x)] [] (gQ kX12_size (fun M2 v => M2 = M ∧ v = some (.int (nI (mSize x))))) := by
    intro q
    induction q with
    | zero => intro j c h1 h2; exact absurd h1 (by omega)
    | succ q ih =>
      intro j c hq hj hp hc
      refine gJ_iload_n dX12_size_4 rfl rfl ?_
      refine gJ_bipush (v := 60) dX12_size_5 (by decide) ?_
      refine gJ_icmp_geN (tgt := 25) (a := j) (b := 60) (by first | with_reducible rfl | rfl) (by first | with_reducible rfl | rfl) (by omega) (by omega) dX12_size_7 (by decide) (fun c7 => ?_) (fun c7 => ?_)
      · refine gJ_iload_n dX12_size_25 rfl rfl ?_
        refine gJ_iret dX12_size_26 rfl ?_
        refine ⟨rfl, ?_⟩
        rw [mSize, hp, show j = 60 by omega]
      · refine gJ_iload_n dX12_size_10 rfl rfl ?_
        refine gJ_lload_n dX12_size_11 rfl rfl ?_
        refine gJ_iload_n dX12_size_12 rfl rfl ?_
        refine gJ_lshr dX12_size_13 ?_
        refine gJ_lconst (v := 1) dX12_size_14 (by decide) ?_
        refine gJ_land dX12_size_15 ?_
        refine gJ_l2i dX12_size_16 ?_
        rw [bit_at x (by omega : j < 64), bit_i32]
        refine gJ_iaddN (a := c) (b := (if (lB x j) then 1 else 0)) dX12_size_17 (by first | with_reducible rfl | rfl) (by first | with_reducible rfl | rfl) ?_
        refine gJ_istore_n (lv2 := [(2, _), (3, _), (0, _)]) dX12_size_18 rfl rfl rfl ?_
        refine gJ_iincN (a := j) (b := 1) (lv2 := [(3, _), (2, _), (0, _)]) dX12_size_19 rfl rfl rfl rfl ?_
        refine gJ_goto (tgt := 4) dX12_size_22 (by decide) ?_
        refine gJ_ls (ih (j + 1) _ (by omega) (by omega) ?_ (by split <;> omega)) ⟨rfl, rfl, rfl, trivial⟩
        rw [List.range_succ, List.countP_append, ← hp]
        simp [List.countP_cons]
  show gJ _ _ _ _ _ _ 0 [(0, _)] [] _
  refine gJ_iconst (v := 0) dX12_size_0 (by decide) ?_
  refine gJ_istore_n (lv2 := [(2, _), (0, _)]) dX12_size_1 rfl rfl rfl ?_
  refine gJ_iconst (v := 0) dX12_size_2 (by decide) ?_
  refine gJ_istore_n (lv2 := [(3, _), (2, _), (0, _)]) dX12_size_3 rfl rfl rfl ?_
  exact gJ_ls (loop 61 0 0 (by omega) (by omega) rfl (by omega)) ⟨rfl, rfl, rfl, trivial⟩
end MODEL
