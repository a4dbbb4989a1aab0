theorem lS_f {p : Nat → Bool} {n : Nat} (h : p n = false) : lS p (n + 1) = lS p n := by
  refine lB_ext fun a _ => ?_
  rw [lS, h, lB_or]
  rw [if_neg Bool.false_ne_true, lB_0, Bool.or_false]
theorem lS_t {p : Nat → Bool} {n : Nat} (h : p n = true) : lS p (n + 1) = lS p n ||| ((1 : Int64) <<< ((nI n).toInt64 &&& 63)) := by rw [lS, if_pos h]
def cMt (V : Nat → Int32) (a mm : Nat) : Bool := cSet V (cFs (mm % 64 / 16) + mm % 16) a != decide (64 ≤ mm)
def cMtA (V : Nat → Int32) (f a : Nat) : Bool := (List.range (mN V f)).all fun j => cMt V a (mN V (f + (j + 1)))
def cAlk (V : Nat → Int32) (z : Int32) (s a : Nat) : Bool := (List.range 3).all fun l => decide (z >>> (nI l &&& 31) &&& 1 = 0) || decide (V (3 * (a % 12) + l) = V (3 * s + l))
/-- a rule's condition over a series -/
def cAcc (V : Nat → Int32) (r s : Nat) : Bool := !decide (V (48 + s) = 0) && (if V (60 + 10 * r + 6) = 0 then !decide (V (60 + 10 * r + 7) ≤ V (36 + s)) else if V (60 + 10 * r + 6) = 1 then !decide (V (36 + s) ≤ V (60 + 10 * r + 7)) else decide (V (36 + s) = V (60 + 10 * r + 7)))
/-- the matchers' digits are in their letters' bounds -/
def cOk (V : Nat → Int32) (f : Nat) : Prop := ∀ j, j < mN V f → mN V (f + (j + 1)) % 16 < cSz (mN V (f + (j + 1)) % 64 / 16)
theorem cMt_is {V : Nat → Int32} {a mm : Nat} (hp : V (60 + 10 * (a / 12)) = 1) (hd : mm % 16 < cSz (mm % 64 / 16)) : cMt V a mm = mMt V a mm := by
  have hl : mm % 64 / 16 = 0 ∨ mm % 64 / 16 = 1 ∨ mm % 64 / 16 = 2 ∨ mm % 64 / 16 = 3 := by omega
  unfold cMt mMt
  congr 1
  generalize mm % 16 = d at hd ⊢
  generalize mm % 64 / 16 = l at hl hd ⊢
  unfold cSet
  rcases hl with rfl | rfl | rfl | rfl
  · have hd2 : d < 4 := hd
    rw [show cFs 0 = 0 from rfl, if_pos (by omega), if_neg (by omega), Nat.zero_add, Nat.zero_add, Nat.add_zero]
  · have hd2 : d < 8 := hd
    rw [show cFs 1 = 4 from rfl, if_neg (by omega), if_pos (by omega), if_neg (by omega), Nat.zero_add, show 4 + d - 4 = d by omega]
  · have hd2 : d < 4 := hd
    rw [show cFs 2 = 12 from rfl, if_neg (by omega), if_neg (by omega), if_pos (by omega), if_neg (by omega), Nat.zero_add, show 12 + d - 12 = d by omega]
  · rw [show cFs 3 = 16 from rfl, if_neg (by omega), if_neg (by omega), if_neg (by omega), if_pos rfl, hp, show 16 + d - 16 = d by omega]
    simp
theorem cMtA_is {V : Nat → Int32} {f a : Nat} (hp : V (60 + 10 * (a / 12)) = 1) (ho : cOk V f) : cMtA V f a = mMat V a f := by
  unfold cMtA mMat
  rw [Bool.eq_iff_iff, List.all_eq_true, List.all_eq_true]
  constructor
  · intro h x hx
    rw [← cMt_is hp (ho x (List.mem_range.mp hx))]
    exact h x hx
  · intro h x hx
    rw [cMt_is hp (ho x (List.mem_range.mp hx))]
    exact h x hx
theorem cMat_ok {M : gM} {E q : Nat} {V : Nat → Int32} {f : Nat} (h : cMat M E q V f) : cOk V f := by
  obtain ⟨-, q1, q2, L, Z, -, -, -, -, -, h⟩ := h
  exact fun j hj => (h j hj).1
theorem cFs_lt {l d : Nat} (hl : l ≤ 3) (hd : d < cSz l) : cFs l + d < 20 := by
  rcases (show l = 0 ∨ l = 1 ∨ l = 2 ∨ l = 3 by omega) with rfl | rfl | rfl | rfl
  · have : d < 4 := hd; show 0 + d < 20; omega
  · have : d < 8 := hd; show 4 + d < 20; omega
  · have : d < 4 := hd; show 12 + d < 20; omega
  · have : d < 4 := hd; show 16 + d < 20; omega
theorem lS_shl {p : Nat → Bool} {r : Nat} (hr : r < 5) : lS p 12 <<< ((nI (r * 12)).toInt64 &&& 63) = lS (fun a => decide (a / 12 = r) && p (a % 12)) 60 := by
  refine lB_ext fun a ha => ?_
  rw [lB_shl _ (by omega) ha, lB_S _ (by decide), lS_b]
  by_cases h : a / 12 = r
  · have e1 : a < 60 := by omega
    have e2 : r * 12 ≤ a := by omega
    have e3 : a - r * 12 < 12 := by omega
    have e4 : a % 12 = a - r * 12 := by omega
    simp [h, e1, e2, e3, e4]
  · by_cases h2 : r * 12 ≤ a
    · have e3 : ¬ a - r * 12 < 12 := by omega
      simp [h, h2, e3]
    · simp [h, h2]
section CLS
variable {G : gG} {M : gM} {p E : Nat} {V : Nat → Int32}
set_option maxRecDepth 20000 in
theorem c7_matched (h0 : M.1 p = some (cSu p)) (h8 : M.1 (p + 8) = some (gL 20 (cSets V))) (q f : Nat) (hm : cMat M E q V f) (hf : mMs V f) : gCon G kX7_matched 0 0 0 M [.ref p, .ref q] (fun M2 v => M2 = M ∧ v = some (.long (lS (cMtA V f) 60))) := by
  obtain ⟨-, q1, q2, L, Z, -, -, hq, hq1, hq2, hj⟩ := hm
  obtain ⟨-, n, hn, hVn, hmm⟩ := hf
  have hnn := mN_of hVn (by omega)
  rw [hnn] at hj
  rw [hVn] at hq
  refine gCon_of (by decide) (Nat.le_of_ble_eq_true rfl) ?_
  have loop : ∀ (k j : Nat), j + k = n → ∀ x : Int64, x = lS (fun a => (List.range j).all fun i => cMt V a (mN V (f + (i + 1)))) 60 →
      gJ G kX7_matched 0 0 0 M 7 [(4, .int (nI j)), (2, .long x), (0, .ref p), (1, .ref q)] [] (gQ kX7_matched (fun M2 v => M2 = M ∧ v = some (.long (lS (cMtA V f) 60)))) := by
    intro k
    induction k with
    | zero =>
      intro j hjn x hx
      refine gJ_iload dX7_matched_7 rfl ?_
      refine gJ_aload_n dX7_matched_9 rfl rfl ?_
      refine gJ_get fX7_69 dX7_matched_10 (by first | with_reducible assumption | with_reducible exact gUp_s | with_reducible exact gUp_n (by with_reducible assumption) (by omega) | exact gUp_n (by assumption) (by omega) | exact gUp_s | assumption) rfl ?_
      refine gJ_icmp_geN (tgt := 60) (a := j) (b := n) (by first | with_reducible rfl | rfl) (by first | with_reducible rfl | rfl) (by omega) (by omega) dX7_matched_13 (by decide) (fun _ => ?_) (fun c_ => by exfalso; omega)
      refine gJ_lload_n dX7_matched_60 rfl rfl ?_
      refine gJ_lret dX7_matched_61 rfl ?_
      refine ⟨rfl, ?_⟩
      rw [hx, show j = n by omega]
      refine congrArg (fun z => some (Value.long z)) (lS_ext (fun a _ => ?_))
      rw [cMtA, hnn]
    | succ k ih =>
      intro j hjn x hx
      obtain ⟨d1, d2, d3⟩ := hj j (by omega)
      have hlt := cFs_lt (by omega : mN V (f + (j + 1)) % 64 / 16 ≤ 3) d1
      have next : lS (fun a => (List.range (j + 1)).all fun i => cMt V a (mN V (f + (i + 1)))) 60 = if 64 ≤ mN V (f + (j + 1)) then x &&& (cSets V (cFs (mN V (f + (j + 1)) % 64 / 16) + mN V (f + (j + 1)) % 16) ^^^ (-1)) else x &&& cSets V (cFs (mN V (f + (j + 1)) % 64 / 16) + mN V (f + (j + 1)) % 16) := by
        rw [hx, cSets_at hlt, lS_and, lS_an]
        by_cases h64 : 64 ≤ mN V (f + (j + 1))
        · rw [if_pos h64]
          refine lS_ext fun a _ => ?_
          rw [List.range_succ, List.all_append]
          simp [cMt, h64]
        · rw [if_neg h64]
          refine lS_ext fun a _ => ?_
          rw [List.range_succ, List.all_append]
          simp [cMt, h64]
      refine gJ_iload dX7_matched_7 rfl ?_
      refine gJ_aload_n dX7_matched_9 rfl rfl ?_
      refine gJ_get fX7_69 dX7_matched_10 (by first | with_reducible assumption | with_reducible exact gUp_s | with_reducible exact gUp_n (by with_reducible assumption) (by omega) | exact gUp_n (by assumption) (by omega) | exact gUp_s | assumption) rfl ?_
      refine gJ_icmp_geN (tgt := 60) (a := j) (b := n) (by first | with_reducible rfl | rfl) (by first | with_reducible rfl | rfl) (by omega) (by omega) dX7_matched_13 (by decide) (fun c_ => by exfalso; omega) (fun _ => ?_)
      refine gJ_aload_n dX7_matched_16 rfl rfl ?_
      refine gJ_get fX7_43 dX7_matched_17 (by first | with_reducible assumption | with_reducible exact gUp_s | with_reducible exact gUp_n (by with_reducible assumption) (by omega) | exact gUp_n (by assumption) (by omega) | exact gUp_s | assumption) rfl ?_
      refine gJ_aload_n dX7_matched_20 rfl rfl ?_
      refine gJ_get fX7_74 dX7_matched_21 (by first | with_reducible assumption | with_reducible exact gUp_s | with_reducible exact gUp_n (by with_reducible assumption) (by omega) | exact gUp_n (by assumption) (by omega) | exact gUp_s | assumption) rfl ?_
      refine gJ_iload dX7_matched_24 rfl ?_
      refine gJ_ialdN (j := j) dX7_matched_26 (by first | with_reducible assumption | with_reducible exact gUp_s | with_reducible exact gUp_n (by with_reducible assumption) (by omega) | exact gUp_n (by assumption) (by omega) | exact gUp_s | assumption) (by first | with_reducible rfl | rfl) (by omega) (by decide) ?_
      rw [d2]
      refine gJ_laldN (j := (cFs (mN V (f + (j + 1)) % 64 / 16) + mN V (f + (j + 1)) % 16)) dX7_matched_27 (by first | with_reducible assumption | with_reducible exact gUp_s | with_reducible exact gUp_n (by with_reducible assumption) (by omega) | exact gUp_n (by assumption) (by omega) | exact gUp_s | assumption) (by first | with_reducible rfl | rfl) (by omega) (by decide) ?_
      refine gJ_lstore (lv2 := [(5, _), (4, _), (2, _), (0, _), (1, _)]) dX7_matched_28 rfl rfl ?_
      refine gJ_lload_n dX7_matched_30 rfl rfl ?_
      refine gJ_aload_n dX7_matched_31 rfl rfl ?_
      refine gJ_get fX7_76 dX7_matched_32 (by first | with_reducible assumption | with_reducible exact gUp_s | with_reducible exact gUp_n (by with_reducible assumption) (by omega) | exact gUp_n (by assumption) (by omega) | exact gUp_s | assumption) rfl ?_
      refine gJ_iload dX7_matched_35 rfl ?_
      refine gJ_zaldN (j := j) dX7_matched_37 (by first | with_reducible assumption | with_reducible exact gUp_s | with_reducible exact gUp_n (by with_reducible assumption) (by omega) | exact gUp_n (by assumption) (by omega) | exact gUp_s | assumption) (by first | with_reducible rfl | rfl) (by omega) (by decide) ?_
      rw [d3]
      refine gJ_if_eqB (tgt := 50) dX7_matched_38 (by decide) (fun c38 => ?_) (fun c38 => ?_)
      · refine gJ_lload dX7_matched_50 rfl ?_
        refine gJ_land dX7_matched_52 ?_
        refine gJ_lstore_n (lv2 := [(2, _), (5, _), (4, _), (0, _), (1, _)]) dX7_matched_53 rfl rfl rfl ?_
        refine gJ_iincN (a := j) (b := 1) (lv2 := [(4, _), (2, _), (5, _), (0, _), (1, _)]) dX7_matched_54 rfl rfl rfl rfl ?_
        refine gJ_goto (tgt := 7) dX7_matched_57 (by decide) ?_
        refine gJ_ls (ih (j + 1) (by omega) _ ?_) ⟨rfl, rfl, rfl, rfl, trivial⟩
        rw [next, if_neg (of_decide_eq_false c38)]
      · refine gJ_lload dX7_matched_41 rfl ?_
        refine gJ_ldc2 (v := -1) dX7_matched_43 cX7_79 ?_
        refine gJ_lxor dX7_matched_46 ?_
        refine gJ_goto (tgt := 52) dX7_matched_47 (by decide) ?_
        refine gJ_land dX7_matched_52 ?_
        refine gJ_lstore_n (lv2 := [(2, _), (5, _), (4, _), (0, _), (1, _)]) dX7_matched_53 rfl rfl rfl ?_
        refine gJ_iincN (a := j) (b := 1) (lv2 := [(4, _), (2, _), (5, _), (0, _), (1, _)]) dX7_matched_54 rfl rfl rfl rfl ?_
        refine gJ_goto (tgt := 7) dX7_matched_57 (by decide) ?_
        refine gJ_ls (ih (j + 1) (by omega) _ ?_) ⟨rfl, rfl, rfl, rfl, trivial⟩
        rw [next, if_pos (of_decide_eq_true c38)]
  show gJ _ _ _ _ _ _ 0 [(0, _), (1, _)] [] _
  refine gJ_ldc2 (v := 1152921504606846975) dX7_matched_0 cX7_67 ?_
  refine gJ_lstore_n (lv2 := [(2, _), (0, _), (1, _)]) dX7_matched_3 rfl rfl rfl ?_
  refine gJ_iconst (v := 0) dX7_matched_4 (by decide) ?_
  refine gJ_istore (lv2 := [(4, _), (2, _), (0, _), (1, _)]) dX7_matched_5 rfl rfl ?_
  exact gJ_ls (loop n 0 (by omega) _ (cEvery.trans (lS_ext fun a _ => rfl))) ⟨rfl, rfl, rfl, rfl, trivial⟩
set_option maxRecDepth 20000 in
theorem c7_alike (h0 : M.1 p = some (cSu p)) (h1 : M.1 (p + 1) = some (gI 36 (cLab V))) (h8 : M.1 (p + 8) = some (gL 20 (cSets V))) (hI : mI V) (s : Nat) (hs : s < 12) (z : Int32) : gCon G kX7_alike 0 0 0 M [.ref p, .int (nI s), .int z] (fun M2 v => M2 = M ∧ v = some (.long (lS (cAlk V z s) 60))) := by
  refine gCon_of (by decide) (Nat.le_of_ble_eq_true rfl) ?_
  have loop : ∀ (k l : Nat), l + k = 4 → l ≤ 3 → ∀ x : Int64, x = lS (fun a => (List.range l).all fun l => decide (z >>> (nI l &&& 31) &&& 1 = 0) || decide (V (3 * (a % 12) + l) = V (3 * s + l))) 60 →
      gJ G kX7_alike 0 0 0 M 7 [(5, .int (nI l)), (3, .long x), (0, .ref p), (1, .int (nI s)), (2, .int z)] [] (gQ kX7_alike (fun M2 v => M2 = M ∧ v = some (.long (lS (cAlk V z s) 60)))) := by
    intro k
    induction k with
    | zero => intro l h1 h2; exact absurd h1 (by omega)
    | succ k ih =>
      intro l hl hl3 x hx
      by_cases hl2 : l < 3
      · obtain ⟨b0, e0⟩ := mB_N (hI.1 (3 * s + l) (by omega)) (by split <;> decide)
        have hlab : cLab V (l * 12 + s) = nI (mN V (3 * s + l)) := by rw [cLab_at hl2 hs]; exact e0
        have hf : gSt 0 = ("FIRST_SET", 4, (gSt 0).2.2) := rfl
        have hfs : (gSt 0).2.2 l = nI (cFs l) := by rcases (show l = 0 ∨ l = 1 ∨ l = 2 by omega) with rfl | rfl | rfl <;> rfl
        have hsz : mN V (3 * s + l) < cSz l := by
          rcases (show l = 0 ∨ l = 1 ∨ l = 2 by omega) with rfl | rfl | rfl
          · rw [if_neg (by omega)] at b0; show _ < 4; omega
          · rw [if_pos (by omega)] at b0; show _ < 8; omega
          · rw [if_neg (by omega)] at b0; show _ < 4; omega
        have hlt := cFs_lt (by omega : l ≤ 3) hsz
        have hset : ∀ a, cSet V (cFs l + mN V (3 * s + l)) a = decide (V (3 * (a % 12) + l) = V (3 * s + l)) := by
          intro a
          rw [e0]
          rw [mN_of e0 (by have := hsz; unfold cSz at this; split at this <;> omega)]
          generalize mN V (3 * s + l) = d at hsz
          unfold cSet
          rcases (show l = 0 ∨ l = 1 ∨ l = 2 by omega) with rfl | rfl | rfl
          · have hd2 : d < 4 := hsz
            rw [show cFs 0 = 0 from rfl, if_pos (by omega), Nat.zero_add, Nat.add_zero]
          · have hd2 : d < 8 := hsz
            rw [show cFs 1 = 4 from rfl, if_neg (by omega), if_pos (by omega), show 4 + d - 4 = d by omega]
          · have hd2 : d < 4 := hsz
            rw [show cFs 2 = 12 from rfl, if_neg (by omega), if_neg (by omega), if_pos (by omega), show 12 + d - 12 = d by omega]
        have next : lS (fun a => (List.range (l + 1)).all fun l => decide (z >>> (nI l &&& 31) &&& 1 = 0) || decide (V (3 * (a % 12) + l) = V (3 * s + l))) 60 = if z >>> (nI l &&& 31) &&& 1 = 0 then x else x &&& cSets V (cFs l + mN V (3 * s + l)) := by
          rw [hx, cSets_at hlt, lS_and]
          by_cases hz : z >>> (nI l &&& 31) &&& 1 = 0
          · rw [if_pos hz]
            refine lS_ext fun a _ => ?_
            rw [List.range_succ, List.all_append]
            simp [hz]
          · rw [if_neg hz]
            refine lS_ext fun a _ => ?_
            rw [List.range_succ, List.all_append, hset]
            simp [hz]
        refine gJ_iload dX7_alike_7 rfl ?_
        refine gJ_iconst (v := 3) dX7_alike_9 (by decide) ?_
        refine gJ_icmp_geN (tgt := 59) (a := l) (b := 3) (by first | with_reducible rfl | rfl) (by first | with_reducible rfl | rfl) (by omega) (by omega) dX7_alike_10 (by decide) (fun c_ => by exfalso; omega) (fun _ => ?_)
        refine gJ_aload_n dX7_alike_13 rfl rfl ?_
        refine gJ_get fX7_9 dX7_alike_14 (by first | with_reducible assumption | with_reducible exact gUp_s | with_reducible exact gUp_n (by with_reducible assumption) (by omega) | exact gUp_n (by assumption) (by omega) | exact gUp_s | assumption) rfl ?_
        refine gJ_iload dX7_alike_17 rfl ?_
        refine gJ_bipush (v := 12) dX7_alike_19 (by decide) ?_
        refine gJ_imulN (a := l) (b := 12) dX7_alike_21 (by first | with_reducible rfl | rfl) (by first | with_reducible rfl | rfl) ?_
        refine gJ_iload_n dX7_alike_22 rfl rfl ?_
        refine gJ_iaddN (a := (l * 12)) (b := s) dX7_alike_23 (by first | with_reducible rfl | rfl) (by first | with_reducible rfl | rfl) ?_
        refine gJ_ialdN (j := ((l * 12) + s)) dX7_alike_24 (by first | with_reducible assumption | with_reducible exact gUp_s | with_reducible exact gUp_n (by with_reducible assumption) (by omega) | exact gUp_n (by assumption) (by omega) | exact gUp_s | assumption) (by first | with_reducible rfl | rfl) (by omega) (by decide) ?_
        rw [hlab]
        refine gJ_istore (lv2 := [(6, _), (5, _), (3, _), (0, _), (1, _), (2, _)]) dX7_alike_25 rfl rfl ?_
        refine gJ_iload_n dX7_alike_27 rfl rfl ?_
        refine gJ_iload dX7_alike_28 rfl ?_
        refine gJ_ishr dX7_alike_30 ?_
        refine gJ_iconst (v := 1) dX7_alike_31 (by decide) ?_
        refine gJ_iand dX7_alike_32 ?_
        refine gJ_if_eq (tgt := 53) dX7_alike_33 (by decide) (fun c33 => ?_) (fun c33 => ?_)
        · refine gJ_iincN (a := l) (b := 1) (lv2 := [(5, _), (6, _), (3, _), (0, _), (1, _), (2, _)]) dX7_alike_53 rfl rfl rfl rfl ?_
          refine gJ_goto (tgt := 7) dX7_alike_56 (by decide) ?_
          refine gJ_ls (ih (l + 1) (by omega) (by omega) _ ?_) ⟨rfl, rfl, rfl, rfl, rfl, trivial⟩
          rw [next, if_pos c33]
        · refine gJ_lload_n dX7_alike_36 rfl rfl ?_
          refine gJ_aload_n dX7_alike_37 rfl rfl ?_
          refine gJ_get fX7_43 dX7_alike_38 (by first | with_reducible assumption | with_reducible exact gUp_s | with_reducible exact gUp_n (by with_reducible assumption) (by omega) | exact gUp_n (by assumption) (by omega) | exact gUp_s | assumption) rfl ?_
          refine gJ_getsN (q := 0) (by decide) gX7_56 dX7_alike_41 ?_
          refine gJ_iload dX7_alike_44 rfl ?_
          refine gJ_taldN (j := l) dX7_alike_46 (q := 0) (by decide) (by first | with_reducible rfl | rfl) (show l < 4 by omega) (by decide) ?_
          rw [hfs]
          refine gJ_iload dX7_alike_47 rfl ?_
          refine gJ_iaddN (a := (cFs l)) (b := (mN V (3 * s + l))) dX7_alike_49 (by first | with_reducible rfl | rfl) (by first | with_reducible rfl | rfl) ?_
          refine gJ_laldN (j := ((cFs l) + (mN V (3 * s + l)))) dX7_alike_50 (by first | with_reducible assumption | with_reducible exact gUp_s | with_reducible exact gUp_n (by with_reducible assumption) (by omega) | exact gUp_n (by assumption) (by omega) | exact gUp_s | assumption) (by first | with_reducible rfl | rfl) (by omega) (by decide) ?_
          refine gJ_land dX7_alike_51 ?_
          refine gJ_lstore_n (lv2 := [(3, _), (6, _), (5, _), (0, _), (1, _), (2, _)]) dX7_alike_52 rfl rfl rfl ?_
          refine gJ_iincN (a := l) (b := 1) (lv2 := [(5, _), (3, _), (6, _), (0, _), (1, _), (2, _)]) dX7_alike_53 rfl rfl rfl rfl ?_
          refine gJ_goto (tgt := 7) dX7_alike_56 (by decide) ?_
          refine gJ_ls (ih (l + 1) (by omega) (by omega) _ ?_) ⟨rfl, rfl, rfl, rfl, rfl, trivial⟩
          rw [next, if_neg c33]
      · have e3 : l = 3 := by omega
        subst e3
        refine gJ_iload dX7_alike_7 rfl ?_
        refine gJ_iconst (v := 3) dX7_alike_9 (by decide) ?_
        refine gJ_icmp_geN (tgt := 59) (a := 3) (b := 3) (by first | with_reducible rfl | rfl) (by first | with_reducible rfl | rfl) (by omega) (by omega) dX7_alike_10 (by decide) (fun _ => ?_) (fun c_ => by exfalso; omega)
        refine gJ_lload_n dX7_alike_59 rfl rfl ?_
        refine gJ_lret dX7_alike_60 rfl ?_
        exact ⟨rfl, by rw [hx]; rfl⟩
  show gJ _ _ _ _ _ _ 0 [(0, _), (1, _), (2, _)] [] _
  refine gJ_ldc2 (v := 1152921504606846975) dX7_alike_0 cX7_67 ?_
  refine gJ_lstore_n (lv2 := [(3, _), (0, _), (1, _), (2, _)]) dX7_alike_3 rfl rfl rfl ?_
  refine gJ_iconst (v := 0) dX7_alike_4 (by decide) ?_
  refine gJ_istore (lv2 := [(5, _), (3, _), (0, _), (1, _), (2, _)]) dX7_alike_5 rfl rfl ?_
  exact gJ_ls (loop 4 0 (by omega) (by omega) _ (cEvery.trans (lS_ext fun a _ => rfl))) ⟨rfl, rfl, rfl, rfl, rfl, trivial⟩
set_option maxRecDepth 20000 in
theorem c7_acceptedSeries {X : Nat → Int32} (h0 : M.1 p = some (cSu p)) (h2 : M.1 (p + 2) = some (gI 12 X)) (hX : ∀ s, s < 12 → ¬ V (48 + s) = 0 → X s = V (36 + s)) (h3 : M.1 (p + 3) = some (gZ 12 (cHas V))) (hI : mI V) (r q mq : Nat) (hr : r < 5) (hq : M.1 q = some (gO 5 [.ref mq, .int (cSgn (V (60 + 10 * r + 6))), .int (V (60 + 10 * r + 7)), .int (V (60 + 10 * r + 8)), .int (V (60 + 10 * r + 9))])) : gCon G kX7_acceptedSeries 1 0 0 M [.ref p, .ref q] (fun M2 v => M2 = M ∧ v = some (.long (lS (cAcc V r) 12))) := by
  obtain ⟨z1, ez⟩ := mB_N (hI.2.2.1 r hr).2.2.1 (by decide)
  have hz0 : (V (60 + 10 * r + 6) = 0) ↔ mN V (60 + 10 * r + 6) = 0 := by rw [ez, mN_of ez (by omega)]; exact nI_eq (b := 0) (by omega) (by decide)
  have hz1 : (V (60 + 10 * r + 6) = 1) ↔ mN V (60 + 10 * r + 6) = 1 := by rw [ez, mN_of ez (by omega)]; exact nI_eq (b := 1) (by omega) (by decide)
  refine gCon_of (by decide) (Nat.le_of_ble_eq_true rfl) ?_
  have loop : ∀ (k s : Nat), s + k = 13 → s ≤ 12 →
      gJ G kX7_acceptedSeries 1 0 0 M 5 [(4, .int (nI s)), (2, .long (lS (cAcc V r) s)), (0, .ref p), (1, .ref q)] [] (gQ kX7_acceptedSeries (fun M2 v => M2 = M ∧ v = some (.long (lS (cAcc V r) 12)))) := by
    intro k
    induction k with
    | zero => intro s h1 h2; exact absurd h1 (by omega)
    | succ k ih =>
      intro s hk hs
      refine gJ_iload dX7_acceptedSeries_5 rfl ?_
      refine gJ_bipush (v := 12) dX7_acceptedSeries_7 (by decide) ?_
      refine gJ_icmp_geN (tgt := 49) (a := s) (b := 12) (by first | with_reducible rfl | rfl) (by first | with_reducible rfl | rfl) (by omega) (by omega) dX7_acceptedSeries_9 (by decide) (fun c9 => ?_) (fun c9 => ?_)
      · refine gJ_lload_n dX7_acceptedSeries_49 rfl rfl ?_
        refine gJ_lret dX7_acceptedSeries_50 rfl ?_
        refine ⟨rfl, ?_⟩
        rw [show s = 12 by omega]
      · refine gJ_aload_n dX7_acceptedSeries_12 rfl rfl ?_
        refine gJ_get fX7_18 dX7_acceptedSeries_13 (by first | with_reducible assumption | with_reducible exact gUp_s | with_reducible exact gUp_n (by with_reducible assumption) (by omega) | exact gUp_n (by assumption) (by omega) | exact gUp_s | assumption) rfl ?_
        refine gJ_iload dX7_acceptedSeries_16 rfl ?_
        refine gJ_zaldN (j := s) dX7_acceptedSeries_18 (by first | with_reducible assumption | with_reducible exact gUp_s | with_reducible exact gUp_n (by with_reducible assumption) (by omega) | exact gUp_n (by assumption) (by omega) | exact gUp_s | assumption) (by first | with_reducible rfl | rfl) (by omega) (by decide) ?_
        rw [cHas_at (by omega)]
        refine gJ_if_eq (tgt := 43) dX7_acceptedSeries_19 (by decide) (fun c19 => ?_) (fun c19 => ?_)
        · refine gJ_iincN (a := s) (b := 1) (lv2 := [(4, _), (2, _), (0, _), (1, _)]) dX7_acceptedSeries_43 rfl rfl rfl rfl ?_
          refine gJ_goto (tgt := 5) dX7_acceptedSeries_46 (by decide) ?_
          have c19' : V (48 + s) = 0 := c19
          refine gJ_ls (ih (s + 1) (by omega) (by omega)) ⟨rfl, ?_, rfl, rfl, trivial⟩
          show some (Value.long _) = some (Value.long _)
          rw [lS_f (show cAcc V r s = false by rw [cAcc, decide_eq_true c19']; rfl)]
        · refine gJ_aload_n dX7_acceptedSeries_22 rfl rfl ?_
          refine gJ_aload_n dX7_acceptedSeries_23 rfl rfl ?_
          refine gJ_get fX7_15 dX7_acceptedSeries_24 (by first | with_reducible assumption | with_reducible exact gUp_s | with_reducible exact gUp_n (by with_reducible assumption) (by omega) | exact gUp_n (by assumption) (by omega) | exact gUp_s | assumption) rfl ?_
          refine gJ_iload dX7_acceptedSeries_27 rfl ?_
          refine gJ_ialdN (j := s) dX7_acceptedSeries_29 (by first | with_reducible assumption | with_reducible exact gUp_s | with_reducible exact gUp_n (by with_reducible assumption) (by omega) | exact gUp_n (by assumption) (by omega) | exact gUp_s | assumption) (by first | with_reducible rfl | rfl) (by omega) (by decide) ?_
          refine gJ_callV (As := [_]) b_X6_accepts lX7_93 i_X6_accepts s_X6_accepts dX7_acceptedSeries_30 (c6_accepts z1 (by rw [← ez]) hq (X s)) (by first | with_reducible assumption | with_reducible exact gUp_s | with_reducible exact gUp_n (by with_reducible assumption) (by omega) | exact gUp_n (by assumption) (by omega) | exact gUp_s | assumption) rfl rfl (Nat.le_of_ble_eq_true rfl) rfl (by decide) (fun M30 v_ h30 => ?_)
          obtain ⟨e30, rfl⟩ := h30
          replace e30 := e30.symm
          subst e30
          refine gJ_if_eqB (tgt := 43) dX7_acceptedSeries_33 (by decide) (fun c33 => ?_) (fun c33 => ?_)
          · refine gJ_iincN (a := s) (b := 1) (lv2 := [(4, _), (2, _), (0, _), (1, _)]) dX7_acceptedSeries_43 rfl rfl rfl rfl ?_
            refine gJ_goto (tgt := 5) dX7_acceptedSeries_46 (by decide) ?_
            have c19' : ¬ V (48 + s) = 0 := c19
            rw [hX s (by omega) c19'] at c33
            refine gJ_ls (ih (s + 1) (by omega) (by omega)) ⟨rfl, ?_, rfl, rfl, trivial⟩
            show some (Value.long _) = some (Value.long _)
            rw [lS_f (show cAcc V r s = false by rw [cAcc]; simp only [hz0, hz1]; rw [c33, Bool.and_false])]
          · refine gJ_lload_n dX7_acceptedSeries_36 rfl rfl ?_
            refine gJ_lconst (v := 1) dX7_acceptedSeries_37 (by decide) ?_
            refine gJ_iload dX7_acceptedSeries_38 rfl ?_
            refine gJ_lshl dX7_acceptedSeries_40 ?_
            refine gJ_lor dX7_acceptedSeries_41 ?_
            refine gJ_lstore_n (lv2 := [(2, _), (4, _), (0, _), (1, _)]) dX7_acceptedSeries_42 rfl rfl rfl ?_
            refine gJ_iincN (a := s) (b := 1) (lv2 := [(4, _), (2, _), (0, _), (1, _)]) dX7_acceptedSeries_43 rfl rfl rfl rfl ?_
            refine gJ_goto (tgt := 5) dX7_acceptedSeries_46 (by decide) ?_
            have c19' : ¬ V (48 + s) = 0 := c19
            rw [hX s (by omega) c19'] at c33
            refine gJ_ls (ih (s + 1) (by omega) (by omega)) ⟨rfl, ?_, rfl, rfl, trivial⟩
            show some (Value.long _) = some (Value.long _)
            rw [lS_t (show cAcc V r s = true by rw [cAcc]; simp only [hz0, hz1]; rw [c33, decide_eq_false c19']; rfl)]
  show gJ _ _ _ _ _ _ 0 [(0, _), (1, _)] [] _
  refine gJ_lconst (v := 0) dX7_acceptedSeries_0 (by decide) ?_
  refine gJ_lstore_n (lv2 := [(2, _), (0, _), (1, _)]) dX7_acceptedSeries_1 rfl rfl rfl ?_
  refine gJ_iconst (v := 0) dX7_acceptedSeries_2 (by decide) ?_
  refine gJ_istore (lv2 := [(4, _), (2, _), (0, _), (1, _)]) dX7_acceptedSeries_3 rfl rfl ?_
  exact gJ_ls (loop 13 0 (by omega) (by omega)) ⟨rfl, rfl, rfl, rfl, trivial⟩
def cHold (V : Nat → Int32) (n a : Nat) : Bool := decide (a / 12 < n) && mHolds V a
set_option maxRecDepth 20000 in
theorem c7_holding {X : Nat → Int32} {RU : Nat → Option Nat} (h0 : M.1 p = some (cSu p)) (h2 : M.1 (p + 2) = some (gI 12 X)) (hX : ∀ s, s < 12 → ¬ V (48 + s) = 0 → X s = V (36 + s)) (h3 : M.1 (p + 3) = some (gZ 12 (cHas V))) (h4 : M.1 (p + 4) = some (gR 3 5 RU)) (hR : ∀ r, r < 5 → cRul M E V r (RU r)) (h8 : M.1 (p + 8) = some (gL 20 (cSets V))) (hI : mI V) : gCon G kX7_holding 2 0 0 M [.ref p] (fun M2 v => M2 = M ∧ v = some (.long (lS (mHolds V) 60))) := by
  have step : ∀ r, r < 5 → V (60 + 10 * r) = 1 → cOk V (60 + 10 * r + 1) → lS (cHold V r) 60 ||| ((lS (cAcc V r) 12 <<< ((nI (r * 12)).toInt64 &&& 63)) &&& lS (cMtA V (60 + 10 * r + 1)) 60) = lS (cHold V (r + 1)) 60 := by
    intro r hr hv ho
    rw [lS_shl hr, lS_and, lS_or]
    refine lS_ext fun a ha => ?_
    unfold cHold
    by_cases h : a / 12 = r
    · have e1 : cMtA V (60 + 10 * r + 1) a = mMat V a (60 + 10 * (a / 12) + 1) := by rw [← h]; exact cMtA_is (by rw [h]; exact hv) (by rw [h]; exact ho)
      rw [e1]
      have e2 : mHolds V a = (cAcc V r (a % 12) && mMat V a (60 + 10 * (a / 12) + 1)) := by
        unfold mHolds cAcc
        rw [h, hv]
        cases mMat V a (60 + 10 * r + 1) <;> simp
      rw [e2]
      simp [h]
    · have e3 : (a / 12 < r + 1) ↔ (a / 12 < r) := by omega
      simp [h, e3]
  have step0 : ∀ r, r < 5 → V (60 + 10 * r) = 0 → lS (cHold V r) 60 = lS (cHold V (r + 1)) 60 := by
    intro r hr hv
    refine lS_ext fun a ha => ?_
    unfold cHold
    by_cases h : a / 12 = r
    · have e2 : mHolds V a = false := by unfold mHolds; rw [h, hv]; rfl
      rw [e2, Bool.and_false, Bool.and_false]
    · have e3 : (a / 12 < r + 1) ↔ (a / 12 < r) := by omega
      simp [e3]
  refine gCon_of (by decide) (Nat.le_of_ble_eq_true rfl) ?_
  have loop : ∀ (k r : Nat), r + k = 6 → r ≤ 5 →
      gJ G kX7_holding 2 0 0 M 4 [(3, .int (nI r)), (1, .long (lS (cHold V r) 60)), (0, .ref p)] [] (gQ kX7_holding (fun M2 v => M2 = M ∧ v = some (.long (lS (mHolds V) 60)))) := by
    intro k
    induction k with
    | zero => intro r h1 h2; exact absurd h1 (by omega)
    | succ k ih =>
      intro r hk hr
      by_cases hr5 : r < 5
      · rcases hR r hr5 with ⟨hv, ho⟩ | ⟨hv, q, mq, ho, hE, hq, hm⟩
        · rw [step0 r hr5 hv]
          refine gJ_iload_n dX7_holding_4 rfl rfl ?_
          refine gJ_iconst (v := 5) dX7_holding_5 (by decide) ?_
          refine gJ_icmp_geN (tgt := 52) (a := r) (b := 5) (by first | with_reducible rfl | rfl) (by first | with_reducible rfl | rfl) (by omega) (by omega) dX7_holding_6 (by decide) (fun c_ => by exfalso; omega) (fun _ => ?_)
          refine gJ_aload_n dX7_holding_9 rfl rfl ?_
          refine gJ_get fX7_24 dX7_holding_10 (by first | with_reducible assumption | with_reducible exact gUp_s | with_reducible exact gUp_n (by with_reducible assumption) (by omega) | exact gUp_n (by assumption) (by omega) | exact gUp_s | assumption) rfl ?_
          refine gJ_iload_n dX7_holding_13 rfl rfl ?_
          refine gJ_aaldN (j := r) dX7_holding_14 (by first | with_reducible assumption | with_reducible exact gUp_s | with_reducible exact gUp_n (by with_reducible assumption) (by omega) | exact gUp_n (by assumption) (by omega) | exact gUp_s | assumption) rfl (by first | with_reducible rfl | rfl) (by omega) (by decide) ho ?_
          refine gJ_astoreN (lv2 := [(4, _), (3, _), (1, _), (0, _)]) dX7_holding_15 rfl rfl ?_
          refine gJ_aloadN dX7_holding_17 rfl ?_
          refine gJ_ifnullN (tgt := 46) dX7_holding_19 (by decide) ?_
          refine gJ_iincN (a := r) (b := 1) (lv2 := [(3, _), (4, _), (1, _), (0, _)]) dX7_holding_46 rfl rfl rfl rfl ?_
          refine gJ_goto (tgt := 4) dX7_holding_49 (by decide) ?_
          exact gJ_ls (ih (r + 1) (by omega) (by omega)) ⟨rfl, rfl, rfl, trivial⟩
        · skip
          refine gJ_iload_n dX7_holding_4 rfl rfl ?_
          refine gJ_iconst (v := 5) dX7_holding_5 (by decide) ?_
          refine gJ_icmp_geN (tgt := 52) (a := r) (b := 5) (by first | with_reducible rfl | rfl) (by first | with_reducible rfl | rfl) (by omega) (by omega) dX7_holding_6 (by decide) (fun c_ => by exfalso; omega) (fun _ => ?_)
          refine gJ_aload_n dX7_holding_9 rfl rfl ?_
          refine gJ_get fX7_24 dX7_holding_10 (by first | with_reducible assumption | with_reducible exact gUp_s | with_reducible exact gUp_n (by with_reducible assumption) (by omega) | exact gUp_n (by assumption) (by omega) | exact gUp_s | assumption) rfl ?_
          refine gJ_iload_n dX7_holding_13 rfl rfl ?_
          refine gJ_aaldS (j := r) dX7_holding_14 (by first | with_reducible assumption | with_reducible exact gUp_s | with_reducible exact gUp_n (by with_reducible assumption) (by omega) | exact gUp_n (by assumption) (by omega) | exact gUp_s | assumption) rfl (by first | with_reducible rfl | rfl) (by omega) (by decide) ho ?_
          refine gJ_astore (lv2 := [(4, _), (3, _), (1, _), (0, _)]) dX7_holding_15 rfl rfl ?_
          refine gJ_aload dX7_holding_17 rfl ?_
          refine gJ_ifnull dX7_holding_19 ?_
          refine gJ_lload_n dX7_holding_22 rfl rfl ?_
          refine gJ_aload_n dX7_holding_23 rfl rfl ?_
          refine gJ_aload dX7_holding_24 rfl ?_
          refine gJ_callV (As := [_]) b_X7_acceptedSeries lX7_81 i_X7_acceptedSeries s_X7_acceptedSeries dX7_holding_26 (c7_acceptedSeries h0 h2 hX h3 hI r q mq hr5 hq) (by first | with_reducible assumption | with_reducible exact gUp_s | with_reducible exact gUp_n (by with_reducible assumption) (by omega) | exact gUp_n (by assumption) (by omega) | exact gUp_s | assumption) rfl rfl (Nat.le_of_ble_eq_true rfl) rfl (by decide) (fun M26 v_ h26 => ?_)
          obtain ⟨e26, rfl⟩ := h26
          replace e26 := e26.symm
          subst e26
          refine gJ_iload_n dX7_holding_29 rfl rfl ?_
          refine gJ_bipush (v := 12) dX7_holding_30 (by decide) ?_
          refine gJ_imulN (a := r) (b := 12) dX7_holding_32 (by first | with_reducible rfl | rfl) (by first | with_reducible rfl | rfl) ?_
          refine gJ_lshl dX7_holding_33 ?_
          refine gJ_aload_n dX7_holding_34 rfl rfl ?_
          refine gJ_aload dX7_holding_35 rfl ?_
          refine gJ_get fX7_85 dX7_holding_37 (by first | with_reducible assumption | with_reducible exact gUp_s | with_reducible exact gUp_n (by with_reducible assumption) (by omega) | exact gUp_n (by assumption) (by omega) | exact gUp_s | assumption) rfl ?_
          refine gJ_callV (As := [_]) b_X7_matched lX7_89 i_X7_matched s_X7_matched dX7_holding_40 (c7_matched h0 h8 mq (60 + 10 * r + 1) hm (hI.2.2.1 r hr5).2.1) (by first | with_reducible assumption | with_reducible exact gUp_s | with_reducible exact gUp_n (by with_reducible assumption) (by omega) | exact gUp_n (by assumption) (by omega) | exact gUp_s | assumption) rfl rfl (Nat.le_of_ble_eq_true rfl) rfl (by decide) (fun M40 v_ h40 => ?_)
          obtain ⟨e40, rfl⟩ := h40
          replace e40 := e40.symm
          subst e40
          refine gJ_land dX7_holding_43 ?_
          refine gJ_lor dX7_holding_44 ?_
          rw [step r hr5 hv (cMat_ok hm)]
          refine gJ_lstore_n (lv2 := [(1, _), (4, _), (3, _), (0, _)]) dX7_holding_45 rfl rfl rfl ?_
          refine gJ_iincN (a := r) (b := 1) (lv2 := [(3, _), (1, _), (4, _), (0, _)]) dX7_holding_46 rfl rfl rfl rfl ?_
          refine gJ_goto (tgt := 4) dX7_holding_49 (by decide) ?_
          exact gJ_ls (ih (r + 1) (by omega) (by omega)) ⟨rfl, rfl, rfl, trivial⟩
      · have e5 : r = 5 := by omega
        subst e5
        refine gJ_iload_n dX7_holding_4 rfl rfl ?_
        refine gJ_iconst (v := 5) dX7_holding_5 (by decide) ?_
        refine gJ_icmp_geN (tgt := 52) (a := 5) (b := 5) (by first | with_reducible rfl | rfl) (by first | with_reducible rfl | rfl) (by omega) (by omega) dX7_holding_6 (by decide) (fun _ => ?_) (fun c_ => by exfalso; omega)
        refine gJ_lload_n dX7_holding_52 rfl rfl ?_
        refine gJ_lret dX7_holding_53 rfl ?_
        refine ⟨rfl, ?_⟩
        refine congrArg (fun z => some (Value.long z)) (lS_ext (fun a ha => ?_))
        rw [cHold, decide_eq_true (by omega : a / 12 < 5), Bool.true_and]
  show gJ _ _ _ _ _ _ 0 [(0, _)] [] _
  refine gJ_lconst (v := 0) dX7_holding_0 (by decide) ?_
  refine gJ_lstore_n (lv2 := [(1, _), (0, _)]) dX7_holding_1 rfl rfl rfl ?_
  refine gJ_iconst (v := 0) dX7_holding_2 (by decide) ?_
  refine gJ_istore_n (lv2 := [(3, _), (1, _), (0, _)]) dX7_holding_3 rfl rfl rfl ?_
  have L := loop 6 0 (by omega) (by omega)
  rw [show lS (cHold V 0) 60 = 0 from lS_0 (fun a _ => rfl)] at L
  exact gJ_ls L ⟨rfl, rfl, rfl, trivial⟩
end CLS
