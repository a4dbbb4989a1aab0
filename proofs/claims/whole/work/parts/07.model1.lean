/-! THE REFERENCE: its state is one row of ints V and one row of sets; what each reading method answers -/
def mO (m : Nat) (hi tn at_ fa : Int32) : gE := gO 11 [.ref (m + 1), .ref (m + 2), .ref (m + 3), .ref (m + 4), .ref (m + 5), .ref (m + 6), .int hi, .ref (m + 7), .int tn, .int at_, .int fa, .ref (m + 8)]
def mN (V : Nat → Int32) (i : Nat) : Nat := (V i).toNatClampNeg
theorem mN_of {V : Nat → Int32} {i n : Nat} (h : V i = nI n) (hn : n < 2 ^ 31) : mN V i = n := by unfold mN; rw [h, nI_clamp hn]
/-- one matcher, by its code -/
def mMt (V : Nat → Int32) (a mm : Nat) : Bool := decide ((if mm % 64 / 16 = 3 then V (60 + 10 * (a / 12) + 9) else V (0 + 3 * (a % 12) + mm % 64 / 16)) = nI (mm % 16)) != decide (64 ≤ mm)
def mMat (V : Nat → Int32) (a from_ : Nat) : Bool := (List.range (mN V from_)).all fun j => mMt V a (mN V (from_ + (j + 1)))
/-- a sequence of matchers stands there -/
def mMs (V : Nat → Int32) (from_ : Nat) : Prop := from_ ≤ 200 ∧ ∃ n, n ≤ 4 ∧ V from_ = nI n ∧ ∀ j, j < n → ∃ mm, mm < 128 ∧ V (from_ + (j + 1)) = nI mm
section MODEL
variable {G : gG} {M : gM} {m : Nat} {hi tn at_ fa : Int32} {V : Nat → Int32} {S : Nat → Int64}
theorem c12_isIn (x lo hi2 : Int32) : gCon G kX12_isIn 0 0 0 M [.int x, .int lo, .int hi2] (fun M2 v => M2 = M ∧ v = some (.int (gb (decide (lo ≤ x) && decide (x ≤ hi2))))) := by
  refine gCon_of (by decide) (Nat.le_of_ble_eq_true rfl) ?_
  show gJ _ _ _ _ _ _ 0 [(0, _), (1, _), (2, _)] [] _
  refine gJ_iload_n dX12_isIn_0 rfl rfl ?_
  refine gJ_iload_n dX12_isIn_1 rfl rfl ?_
  refine gJ_icmp_lt (tgt := 14) dX12_isIn_2 (by decide) (fun c2 => ?_) (fun c2 => ?_)
  · refine gJ_iconst (v := 0) dX12_isIn_14 (by decide) ?_
    refine gJ_zret dX12_isIn_15 rfl (by first | exact gz0 | exact gz1 | exact gb01 _) ?_
    refine ⟨rfl, ?_⟩
    first | (rw [decide_eq_false (Int32.not_le.mpr c2)]; rfl) | (rw [decide_eq_true (Int32.not_lt.mp c2)]; first | (rw [decide_eq_false (Int32.not_le.mpr c7)]; rfl) | (rw [decide_eq_true (Int32.not_lt.mp c7)]; rfl))
  · refine gJ_iload_n dX12_isIn_5 rfl rfl ?_
    refine gJ_iload_n dX12_isIn_6 rfl rfl ?_
    refine gJ_icmp_gt (tgt := 14) dX12_isIn_7 (by decide) (fun c7 => ?_) (fun c7 => ?_)
    · refine gJ_iconst (v := 0) dX12_isIn_14 (by decide) ?_
      refine gJ_zret dX12_isIn_15 rfl (by first | exact gz0 | exact gz1 | exact gb01 _) ?_
      refine ⟨rfl, ?_⟩
      first | (rw [decide_eq_false (Int32.not_le.mpr c2)]; rfl) | (rw [decide_eq_true (Int32.not_lt.mp c2)]; first | (rw [decide_eq_false (Int32.not_le.mpr c7)]; rfl) | (rw [decide_eq_true (Int32.not_lt.mp c7)]; rfl))
    · refine gJ_iconst (v := 1) dX12_isIn_10 (by decide) ?_
      refine gJ_goto (tgt := 15) dX12_isIn_11 (by decide) ?_
      refine gJ_zret dX12_isIn_15 rfl (by first | exact gz0 | exact gz1 | exact gb01 _) ?_
      refine ⟨rfl, ?_⟩
      first | (rw [decide_eq_false (Int32.not_le.mpr c2)]; rfl) | (rw [decide_eq_true (Int32.not_lt.mp c2)]; first | (rw [decide_eq_false (Int32.not_le.mpr c7)]; rfl) | (rw [decide_eq_true (Int32.not_lt.mp c7)]; rfl))
theorem c12_state (hm : M.1 m = some (mO m hi tn at_ fa)) (hV : M.1 (m + 1) = some (gI 1999 V)) (a : Nat) (ha : a < 60) : gCon G kX12_state 0 0 0 M [.ref m, .int (nI a)] (fun M2 v => M2 = M ∧ v = some (.int (V (206 + 23 * a)))) := by
  refine gCon_of (by decide) (Nat.le_of_ble_eq_true rfl) ?_
  show gJ _ _ _ _ _ _ 0 [(0, _), (1, _)] [] _
  refine gJ_aload_n dX12_state_0 rfl rfl ?_
  refine gJ_get fX12_9 dX12_state_1 (by first | assumption | exact gUp_s | exact gUp_n (by assumption) (by omega)) rfl ?_
  refine gJ_sipush (v := 206) dX12_state_4 (by decide) ?_
  refine gJ_bipush (v := 23) dX12_state_7 (by decide) ?_
  refine gJ_iload_n dX12_state_9 rfl rfl ?_
  refine gJ_imulN (a := 23) (b := a) dX12_state_10 (by first | with_reducible rfl | rfl) (by first | with_reducible rfl | rfl) ?_
  refine gJ_iaddN (a := 206) (b := (23 * a)) dX12_state_11 (by first | with_reducible rfl | rfl) (by first | with_reducible rfl | rfl) ?_
  refine gJ_ialdN (j := (206 + (23 * a))) dX12_state_12 (by first | assumption | exact gUp_s | exact gUp_n (by assumption) (by omega)) (by first | with_reducible rfl | rfl) (by omega) (by decide) ?_
  refine gJ_iret dX12_state_13 rfl ?_
  exact ⟨rfl, rfl⟩
set_option maxHeartbeats 2000000 in
theorem c12_matches (hm : M.1 m = some (mO m hi tn at_ fa)) (hV : M.1 (m + 1) = some (gI 1999 V)) (a f : Nat) (ha : a < 60) (hf : mMs V f) : gCon G kX12_matches 0 0 0 M [.ref m, .int (nI a), .int (nI f)] (fun M2 v => M2 = M ∧ v = some (.int (gb (mMat V a f)))) := by
  obtain ⟨hf0, n, hn, hVn, hmm⟩ := hf
  refine gCon_of (by decide) (Nat.le_of_ble_eq_true rfl) ?_
  have hnn := mN_of hVn (by omega)
  have loop : ∀ (q j : Nat), j + q = n → (∀ i, i < j → mMt V a (mN V (f + (i + 1))) = true) →
      gJ G kX12_matches 0 0 0 M 2 [(0, .ref m), (1, .int (nI a)), (2, .int (nI f)), (3, .int (nI (j + 1)))] [] (gQ kX12_matches (fun M2 v => M2 = M ∧ v = some (.int (gb (mMat V a f))))) := by
    intro q
    induction q with
    | zero =>
      intro j hj hp
      refine gJ_iload_n dX12_matches_2 rfl rfl ?_
      refine gJ_aload_n dX12_matches_3 rfl rfl ?_
      refine gJ_get fX12_9 dX12_matches_4 (by first | assumption | exact gUp_s | exact gUp_n (by assumption) (by omega)) rfl ?_
      refine gJ_iload_n dX12_matches_7 rfl rfl ?_
      refine gJ_ialdN (j := f) dX12_matches_8 (by first | assumption | exact gUp_s | exact gUp_n (by assumption) (by omega)) (by first | with_reducible rfl | rfl) (by omega) (by decide) ?_
      rw [hVn]
      refine gJ_icmp_gtN (tgt := 115) (a := (j+1)) (b := n) (by first | with_reducible rfl | rfl) (by first | with_reducible rfl | rfl) (by omega) (by omega) dX12_matches_9 (by decide) (fun _ => ?_) (fun c_ => by exfalso; omega)
      refine gJ_iconst (v := 1) dX12_matches_115 (by decide) ?_
      refine gJ_zret dX12_matches_116 rfl (by first | exact gz0 | exact gz1 | exact gb01 _) ?_
      refine ⟨rfl, ?_⟩
      rw [mMat, hnn, all_t (fun i hi => hp i (by omega))]
      rfl
    | succ q ih =>
      intro j hj hp
      obtain ⟨mm, hmm1, hmm2⟩ := hmm j (by omega)
      have hmN := mN_of hmm2 (by omega)
      refine gJ_iload_n dX12_matches_2 rfl rfl ?_
      refine gJ_aload_n dX12_matches_3 rfl rfl ?_
      refine gJ_get fX12_9 dX12_matches_4 (by first | assumption | exact gUp_s | exact gUp_n (by assumption) (by omega)) rfl ?_
      refine gJ_iload_n dX12_matches_7 rfl rfl ?_
      refine gJ_ialdN (j := f) dX12_matches_8 (by first | assumption | exact gUp_s | exact gUp_n (by assumption) (by omega)) (by first | with_reducible rfl | rfl) (by omega) (by decide) ?_
      rw [hVn]
      refine gJ_icmp_gtN (tgt := 115) (a := (j+1)) (b := n) (by first | with_reducible rfl | rfl) (by first | with_reducible rfl | rfl) (by omega) (by omega) dX12_matches_9 (by decide) (fun c_ => by exfalso; omega) (fun _ => ?_)
      refine gJ_aload_n dX12_matches_12 rfl rfl ?_
      refine gJ_get fX12_9 dX12_matches_13 (by first | assumption | exact gUp_s | exact gUp_n (by assumption) (by omega)) rfl ?_
      refine gJ_iload_n dX12_matches_16 rfl rfl ?_
      refine gJ_iload_n dX12_matches_17 rfl rfl ?_
      refine gJ_iaddN (a := f) (b := (j+1)) dX12_matches_18 (by first | with_reducible rfl | rfl) (by first | with_reducible rfl | rfl) ?_
      refine gJ_ialdN (j := (f + (j+1))) dX12_matches_19 (by first | assumption | exact gUp_s | exact gUp_n (by assumption) (by omega)) (by first | with_reducible rfl | rfl) (by omega) (by decide) ?_
      rw [hmm2]
      refine gJ_istore (lv2 := [(4, _), (0, _), (1, _), (2, _), (3, _)]) dX12_matches_20 rfl rfl ?_
      refine gJ_iload dX12_matches_22 rfl ?_
      refine gJ_bipush (v := 64) dX12_matches_24 (by decide) ?_
      refine gJ_iremN (a := mm) (b := 64) dX12_matches_26 (by first | with_reducible rfl | rfl) (by first | with_reducible rfl | rfl) (by omega) (by decide) ?_
      refine gJ_bipush (v := 16) dX12_matches_27 (by decide) ?_
      refine gJ_idivN (a := (mm % 64)) (b := 16) dX12_matches_29 (by first | with_reducible rfl | rfl) (by first | with_reducible rfl | rfl) (by omega) (by decide) ?_
      refine gJ_istore (lv2 := [(5, _), (4, _), (0, _), (1, _), (2, _), (3, _)]) dX12_matches_30 rfl rfl ?_
      refine gJ_iload dX12_matches_32 rfl ?_
      refine gJ_iconst (v := 3) dX12_matches_34 (by decide) ?_
      refine gJ_icmp_neN (tgt := 59) (a := ((mm % 64) / 16)) (b := 3) (by first | with_reducible rfl | rfl) (by first | with_reducible rfl | rfl) (by omega) (by omega) dX12_matches_35 (by decide) (fun c35 => ?_) (fun c35 => ?_)
      · refine gJ_aload_n dX12_matches_59 rfl rfl ?_
        refine gJ_get fX12_9 dX12_matches_60 (by first | assumption | exact gUp_s | exact gUp_n (by assumption) (by omega)) rfl ?_
        refine gJ_iconst (v := 0) dX12_matches_63 (by decide) ?_
        refine gJ_iconst (v := 3) dX12_matches_64 (by decide) ?_
        refine gJ_iload_n dX12_matches_65 rfl rfl ?_
        refine gJ_bipush (v := 12) dX12_matches_66 (by decide) ?_
        refine gJ_iremN (a := a) (b := 12) dX12_matches_68 (by first | with_reducible rfl | rfl) (by first | with_reducible rfl | rfl) (by omega) (by decide) ?_
        refine gJ_imulN (a := 3) (b := (a % 12)) dX12_matches_69 (by first | with_reducible rfl | rfl) (by first | with_reducible rfl | rfl) ?_
        refine gJ_iaddN (a := 0) (b := (3 * (a % 12))) dX12_matches_70 (by first | with_reducible rfl | rfl) (by first | with_reducible rfl | rfl) ?_
        refine gJ_iload dX12_matches_71 rfl ?_
        refine gJ_iaddN (a := (0 + (3 * (a % 12)))) (b := ((mm % 64) / 16)) dX12_matches_73 (by first | with_reducible rfl | rfl) (by first | with_reducible rfl | rfl) ?_
        refine gJ_ialdN (j := ((0 + (3 * (a % 12))) + ((mm % 64) / 16))) dX12_matches_74 (by first | assumption | exact gUp_s | exact gUp_n (by assumption) (by omega)) (by first | with_reducible rfl | rfl) (by omega) (by decide) ?_
        refine gJ_istore (lv2 := [(6, _), (5, _), (4, _), (0, _), (1, _), (2, _), (3, _)]) dX12_matches_75 rfl rfl ?_
        refine gJ_iload dX12_matches_77 rfl ?_
        refine gJ_iload dX12_matches_79 rfl ?_
        refine gJ_bipush (v := 16) dX12_matches_81 (by decide) ?_
        refine gJ_iremN (a := mm) (b := 16) dX12_matches_83 (by first | with_reducible rfl | rfl) (by first | with_reducible rfl | rfl) (by omega) (by decide) ?_
        refine gJ_icmp_ne (tgt := 91) dX12_matches_84 (by decide) (fun c84 => ?_) (fun c84 => ?_)
        · refine gJ_iconst (v := 0) dX12_matches_91 (by decide) ?_
          refine gJ_iload dX12_matches_92 rfl ?_
          refine gJ_bipush (v := 64) dX12_matches_94 (by decide) ?_
          refine gJ_icmp_ltN (tgt := 103) (a := mm) (b := 64) (by first | with_reducible rfl | rfl) (by first | with_reducible rfl | rfl) (by omega) (by omega) dX12_matches_96 (by decide) (fun c96 => ?_) (fun c96 => ?_)
          · refine gJ_iconst (v := 0) dX12_matches_103 (by decide) ?_
            refine gJ_icmp_neN (tgt := 109) (a := 0) (b := 0) (by first | with_reducible rfl | rfl) (by first | with_reducible rfl | rfl) (by omega) (by omega) dX12_matches_104 (by decide) (fun c_ => by exfalso; omega) (fun _ => ?_)
            refine gJ_iconst (v := 0) dX12_matches_107 (by decide) ?_
            refine gJ_zret dX12_matches_108 rfl (by first | exact gz0 | exact gz1 | exact gb01 _) ?_
            refine ⟨rfl, ?_⟩
            rw [mMat, hnn, all_f (j := j) (by omega) ?_]
            · rfl
            · rw [hmN]; by_cases h_ : 64 ≤ mm <;> simp only [mMt, c35, c84, h_, ↓reduceIte, decide_true, decide_false] <;> first | rfl | omega
          · refine gJ_iconst (v := 1) dX12_matches_99 (by decide) ?_
            refine gJ_goto (tgt := 104) dX12_matches_100 (by decide) ?_
            refine gJ_icmp_neN (tgt := 109) (a := 0) (b := 1) (by first | with_reducible rfl | rfl) (by first | with_reducible rfl | rfl) (by omega) (by omega) dX12_matches_104 (by decide) (fun _ => ?_) (fun c_ => by exfalso; omega)
            refine gJ_iincN (a := (j+1)) (b := 1) (lv2 := [(3, _), (6, _), (5, _), (4, _), (0, _), (1, _), (2, _)]) dX12_matches_109 rfl rfl rfl rfl ?_
            refine gJ_goto (tgt := 2) dX12_matches_112 (by decide) ?_
            refine gJ_ls (ih (j + 1) (by omega) ?_) ⟨rfl, rfl, rfl, rfl, trivial⟩
            intro i hi
            rcases Nat.lt_succ_iff_lt_or_eq.mp hi with h | rfl
            · exact hp i h
            · rw [hmN]; by_cases h_ : 64 ≤ mm <;> simp only [mMt, c35, c84, h_, ↓reduceIte, decide_true, decide_false] <;> first | rfl | omega
        · refine gJ_iconst (v := 1) dX12_matches_87 (by decide) ?_
          refine gJ_goto (tgt := 92) dX12_matches_88 (by decide) ?_
          refine gJ_iload dX12_matches_92 rfl ?_
          refine gJ_bipush (v := 64) dX12_matches_94 (by decide) ?_
          refine gJ_icmp_ltN (tgt := 103) (a := mm) (b := 64) (by first | with_reducible rfl | rfl) (by first | with_reducible rfl | rfl) (by omega) (by omega) dX12_matches_96 (by decide) (fun c96 => ?_) (fun c96 => ?_)
          · refine gJ_iconst (v := 0) dX12_matches_103 (by decide) ?_
            refine gJ_icmp_neN (tgt := 109) (a := 1) (b := 0) (by first | with_reducible rfl | rfl) (by first | with_reducible rfl | rfl) (by omega) (by omega) dX12_matches_104 (by decide) (fun _ => ?_) (fun c_ => by exfalso; omega)
            refine gJ_iincN (a := (j+1)) (b := 1) (lv2 := [(3, _), (6, _), (5, _), (4, _), (0, _), (1, _), (2, _)]) dX12_matches_109 rfl rfl rfl rfl ?_
            refine gJ_goto (tgt := 2) dX12_matches_112 (by decide) ?_
            refine gJ_ls (ih (j + 1) (by omega) ?_) ⟨rfl, rfl, rfl, rfl, trivial⟩
            intro i hi
            rcases Nat.lt_succ_iff_lt_or_eq.mp hi with h | rfl
            · exact hp i h
            · rw [hmN]; by_cases h_ : 64 ≤ mm <;> simp only [mMt, c35, c84, h_, ↓reduceIte, decide_true, decide_false] <;> first | rfl | omega
          · refine gJ_iconst (v := 1) dX12_matches_99 (by decide) ?_
            refine gJ_goto (tgt := 104) dX12_matches_100 (by decide) ?_
            refine gJ_icmp_neN (tgt := 109) (a := 1) (b := 1) (by first | with_reducible rfl | rfl) (by first | with_reducible rfl | rfl) (by omega) (by omega) dX12_matches_104 (by decide) (fun c_ => by exfalso; omega) (fun _ => ?_)
            refine gJ_iconst (v := 0) dX12_matches_107 (by decide) ?_
            refine gJ_zret dX12_matches_108 rfl (by first | exact gz0 | exact gz1 | exact gb01 _) ?_
            refine ⟨rfl, ?_⟩
            rw [mMat, hnn, all_f (j := j) (by omega) ?_]
            · rfl
            · rw [hmN]; by_cases h_ : 64 ≤ mm <;> simp only [mMt, c35, c84, h_, ↓reduceIte, decide_true, decide_false] <;> first | rfl | omega
      · refine gJ_aload_n dX12_matches_38 rfl rfl ?_
        refine gJ_get fX12_9 dX12_matches_39 (by first | assumption | exact gUp_s | exact gUp_n (by assumption) (by omega)) rfl ?_
        refine gJ_bipush (v := 60) dX12_matches_42 (by decide) ?_
        refine gJ_bipush (v := 10) dX12_matches_44 (by decide) ?_
        refine gJ_iload_n dX12_matches_46 rfl rfl ?_
        refine gJ_bipush (v := 12) dX12_matches_47 (by decide) ?_
        refine gJ_idivN (a := a) (b := 12) dX12_matches_49 (by first | with_reducible rfl | rfl) (by first | with_reducible rfl | rfl) (by omega) (by decide) ?_
        refine gJ_imulN (a := 10) (b := (a / 12)) dX12_matches_50 (by first | with_reducible rfl | rfl) (by first | with_reducible rfl | rfl) ?_
        refine gJ_iaddN (a := 60) (b := (10 * (a / 12))) dX12_matches_51 (by first | with_reducible rfl | rfl) (by first | with_reducible rfl | rfl) ?_
        refine gJ_bipush (v := 9) dX12_matches_52 (by decide) ?_
        refine gJ_iaddN (a := (60 + (10 * (a / 12)))) (b := 9) dX12_matches_54 (by first | with_reducible rfl | rfl) (by first | with_reducible rfl | rfl) ?_
        refine gJ_ialdN (j := ((60 + (10 * (a / 12))) + 9)) dX12_matches_55 (by first | assumption | exact gUp_s | exact gUp_n (by assumption) (by omega)) (by first | with_reducible rfl | rfl) (by omega) (by decide) ?_
        refine gJ_goto (tgt := 75) dX12_matches_56 (by decide) ?_
        refine gJ_istore (lv2 := [(6, _), (5, _), (4, _), (0, _), (1, _), (2, _), (3, _)]) dX12_matches_75 rfl rfl ?_
        refine gJ_iload dX12_matches_77 rfl ?_
        refine gJ_iload dX12_matches_79 rfl ?_
        refine gJ_bipush (v := 16) dX12_matches_81 (by decide) ?_
        refine gJ_iremN (a := mm) (b := 16) dX12_matches_83 (by first | with_reducible rfl | rfl) (by first | with_reducible rfl | rfl) (by omega) (by decide) ?_
        refine gJ_icmp_ne (tgt := 91) dX12_matches_84 (by decide) (fun c84 => ?_) (fun c84 => ?_)
        · refine gJ_iconst (v := 0) dX12_matches_91 (by decide) ?_
          refine gJ_iload dX12_matches_92 rfl ?_
          refine gJ_bipush (v := 64) dX12_matches_94 (by decide) ?_
          refine gJ_icmp_ltN (tgt := 103) (a := mm) (b := 64) (by first | with_reducible rfl | rfl) (by first | with_reducible rfl | rfl) (by omega) (by omega) dX12_matches_96 (by decide) (fun c96 => ?_) (fun c96 => ?_)
          · refine gJ_iconst (v := 0) dX12_matches_103 (by decide) ?_
            refine gJ_icmp_neN (tgt := 109) (a := 0) (b := 0) (by first | with_reducible rfl | rfl) (by first | with_reducible rfl | rfl) (by omega) (by omega) dX12_matches_104 (by decide) (fun c_ => by exfalso; omega) (fun _ => ?_)
            refine gJ_iconst (v := 0) dX12_matches_107 (by decide) ?_
            refine gJ_zret dX12_matches_108 rfl (by first | exact gz0 | exact gz1 | exact gb01 _) ?_
            refine ⟨rfl, ?_⟩
            rw [mMat, hnn, all_f (j := j) (by omega) ?_]
            · rfl
            · rw [hmN]; by_cases h_ : 64 ≤ mm <;> simp only [mMt, c35, c84, h_, ↓reduceIte, decide_true, decide_false] <;> first | rfl | omega
          · refine gJ_iconst (v := 1) dX12_matches_99 (by decide) ?_
            refine gJ_goto (tgt := 104) dX12_matches_100 (by decide) ?_
            refine gJ_icmp_neN (tgt := 109) (a := 0) (b := 1) (by first | with_reducible rfl | rfl) (by first | with_reducible rfl | rfl) (by omega) (by omega) dX12_matches_104 (by decide) (fun _ => ?_) (fun c_ => by exfalso; omega)
            refine gJ_iincN (a := (j+1)) (b := 1) (lv2 := [(3, _), (6, _), (5, _), (4, _), (0, _), (1, _), (2, _)]) dX12_matches_109 rfl rfl rfl rfl ?_
            refine gJ_goto (tgt := 2) dX12_matches_112 (by decide) ?_
            refine gJ_ls (ih (j + 1) (by omega) ?_) ⟨rfl, rfl, rfl, rfl, trivial⟩
            intro i hi
            rcases Nat.lt_succ_iff_lt_or_eq.mp hi with h | rfl
            · exact hp i h
            · rw [hmN]; by_cases h_ : 64 ≤ mm <;> simp only [mMt, c35, c84, h_, ↓reduceIte, decide_true, decide_false] <;> first | rfl | omega
        · refine gJ_iconst (v := 1) dX12_matches_87 (by decide) ?_
          refine gJ_goto (tgt := 92) dX12_matches_88 (by decide) ?_
          refine gJ_iload dX12_matches_92 rfl ?_
          refine gJ_bipush (v := 64) dX12_matches_94 (by decide) ?_
          refine gJ_icmp_ltN (tgt := 103) (a := mm) (b := 64) (by first | with_reducible rfl | rfl) (by first | with_reducible rfl | rfl) (by omega) (by omega) dX12_matches_96 (by decide) (fun c96 => ?_) (fun c96 => ?_)
          · refine gJ_iconst (v := 0) dX12_matches_103 (by decide) ?_
            refine gJ_icmp_neN (tgt := 109) (a := 1) (b := 0) (by first | with_reducible rfl | rfl) (by first | with_reducible rfl | rfl) (by omega) (by omega) dX12_matches_104 (by decide) (fun _ => ?_) (fun c_ => by exfalso; omega)
            refine gJ_iincN (a := (j+1)) (b := 1) (lv2 := [(3, _), (6, _), (5, _), (4, _), (0, _), (1, _), (2, _)]) dX12_matches_109 rfl rfl rfl rfl ?_
            refine gJ_goto (tgt := 2) dX12_matches_112 (by decide) ?_
            refine gJ_ls (ih (j + 1) (by omega) ?_) ⟨rfl, rfl, rfl, rfl, trivial⟩
            intro i hi
            rcases Nat.lt_succ_iff_lt_or_eq.mp hi with h | rfl
            · exact hp i h
            · rw [hmN]; by_cases h_ : 64 ≤ mm <;> simp only [mMt, c35, c84, h_, ↓reduceIte, decide_true, decide_false] <;> first | rfl | omega
          · refine gJ_iconst (v := 1) dX12_matches_99 (by decide) ?_
            refine gJ_goto (tgt := 104) dX12_matches_100 (by decide) ?_
            refine gJ_icmp_neN (tgt := 109) (a := 1) (b := 1) (by first | with_reducible rfl | rfl) (by first | with_reducible rfl | rfl) (by omega) (by omega) dX12_matches_104 (by decide) (fun c_ => by exfalso; omega) (fun _ => ?_)
            refine gJ_iconst (v := 0) dX12_matches_107 (by decide) ?_
            refine gJ_zret dX12_matches_108 rfl (by first | exact gz0 | exact gz1 | exact gb01 _) ?_
            refine ⟨rfl, ?_⟩
            rw [mMat, hnn, all_f (j := j) (by omega) ?_]
            · rfl
            · rw [hmN]; by_cases h_ : 64 ≤ mm <;> simp only [mMt, c35, c84, h_, ↓reduceIte, decide_true, decide_false] <;> first | rfl | omega
  show gJ _ _ _ _ _ _ 0 [(0, _), (1, _), (2, _)] [] _
  refine gJ_iconst (v := 1) dX12_matches_0 (by decide) ?_
  refine gJ_istore_n (lv2 := [(3, _), (0, _), (1, _), (2, _)]) dX12_matches_1 rfl rfl rfl ?_
  exact gJ_ls (loop n 0 (by omega) (fun i hi => absurd hi (by omega))) ⟨rfl, rfl, rfl, rfl, trivial⟩
end MODEL
