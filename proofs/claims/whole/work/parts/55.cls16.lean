/-! COPIES -/
theorem mIt_J {p : mT} (hI : mI p.1) (hJ : mJ p.1) : ∀ n, mJ (mIt p n).1
  | 0 => hJ
  | n + 1 => mStep_J (mIt_I hI n) (mIt_J hI hJ n)
theorem cpy0 {α : Type} {f g : Nat → α} {n i : Nat} (h : i < n) : va_cpy f g (Int32.toNatClampNeg 0) (Int32.toNatClampNeg 0) n i = f i := by
  unfold va_cpy
  rw [show (0 : Int32).toNatClampNeg = 0 from by decide, if_pos (by omega)]
  congr 1
  omega
section CLS
variable {G : gG} {M M0 : gM} {E s T : Nat} {V W : Nat → Int32} {S D : Nat → Int64}
section GC
variable {k : gMd} {d nc ns pc a n : Nat} {lv : List (Nat × Value)} {st : List Value} {Q : gP} {N : Int32}
theorem gJ_cpI {f g : Nat → Int32} (hN : N.toNatClampNeg = n) (kk : gJ G k d nc ns (gUp M a (gI n f)) pc lv st Q) : gJ G k d nc ns (gUp M a (gI n (va_cpy f g (Int32.toNatClampNeg 0) (Int32.toNatClampNeg 0) N.toNatClampNeg))) pc lv st Q := by
  rw [hN]
  exact gJ_sw (fun H => gW_sw (gsw_I (fun i hi => cpy0 hi))) kk
theorem gJ_cpL {f g : Nat → Int64} (hN : N.toNatClampNeg = n) (kk : gJ G k d nc ns (gUp M a (gL n f)) pc lv st Q) : gJ G k d nc ns (gUp M a (gL n (va_cpy f g (Int32.toNatClampNeg 0) (Int32.toNatClampNeg 0) N.toNatClampNeg))) pc lv st Q := by
  rw [hN]
  exact gJ_sw (fun H => gW_sw (gsw_L (fun i hi => cpy0 hi))) kk
end GC
set_option maxRecDepth 20000 in
theorem c4_copyFrom {p q N N2 : Nat} (h : cRL N M p V) (h2 : cRL N2 M q W) (hd : p + 2 ≤ q ∨ q + 2 ≤ p) : gCon G kX4_copyFrom 1 0 0 M [.ref p, .ref q] (fun M2 v => gFr M M2 p 2 ∧ cRL N2 M2 p W ∧ v = none) := by
  obtain ⟨n, L, hn, hv, h0, h1, -⟩ := h
  obtain ⟨n2, L2, hn2, hv2, g0, g1, g2⟩ := h2
  refine gCon_of (by decide) (Nat.le_of_ble_eq_true rfl) ?_
  show gJ _ _ _ _ _ _ 0 [(0, _), (1, _)] [] _
  refine gJ_aload_n dX4_copyFrom_0 rfl rfl ?_
  refine gJ_aload_n dX4_copyFrom_1 rfl rfl ?_
  refine gJ_get fX4_13 dX4_copyFrom_2 (by repeat (first | exact gUp_s | assumption | refine gUp_n ?_ (by omega))) rfl ?_
  refine gJ_put fX4_13 dX4_copyFrom_5 (by repeat (first | exact gUp_s | assumption | refine gUp_n ?_ (by omega))) rfl rfl (Nat.le_of_ble_eq_true rfl) ?_
  refine gJ_aload_n dX4_copyFrom_8 rfl rfl ?_
  refine gJ_get fX4_9 dX4_copyFrom_9 (by repeat (first | exact gUp_s | assumption | refine gUp_n ?_ (by omega))) rfl ?_
  refine gJ_iconst (v := 0) dX4_copyFrom_12 (by decide) ?_
  refine gJ_aload_n dX4_copyFrom_13 rfl rfl ?_
  refine gJ_get fX4_9 dX4_copyFrom_14 (by repeat (first | exact gUp_s | assumption | refine gUp_n ?_ (by omega))) rfl ?_
  refine gJ_iconst (v := 0) dX4_copyFrom_17 (by decide) ?_
  refine gJ_aload_n dX4_copyFrom_18 rfl rfl ?_
  refine gJ_get fX4_9 dX4_copyFrom_19 (by repeat (first | exact gUp_s | assumption | refine gUp_n ?_ (by omega))) rfl ?_
  refine gJ_alen (v := 150) dX4_copyFrom_22 (by repeat (first | exact gUp_s | assumption | refine gUp_n ?_ (by omega))) rfl rfl ?_
  refine gJ_copyi aX4_17 dX4_copyFrom_23 (by repeat (first | exact gUp_s | assumption | refine gUp_n ?_ (by omega))) (by repeat (first | exact gUp_s | assumption | refine gUp_n ?_ (by omega))) (by decide) (by decide) (by decide) (by decide) (by decide) (by decide) (by omega) ?_
  refine gJ_cpI rfl ?_
  refine gJ_vret dX4_copyFrom_26 rfl ?_
  exact ⟨(by repeat (first | exact gFr_r | refine gFr_u ?_ (by omega))), ⟨n2, L2, hn2, hv2, (by repeat (first | exact gUp_s | assumption | refine gUp_n ?_ (by omega))), gUp_s, g2⟩, rfl⟩
set_option maxRecDepth 20000 in
theorem c0_copyFrom {p q : Nat} {K K2 : Nat → Nat} (h : cRA K M p V) (h2 : cRA K2 M q W) (hd : p + 4 ≤ q ∨ q + 4 ≤ p) : gCon G kX0_copyFrom 1 0 0 M [.ref p, .ref q] (fun M2 v => gFr M M2 p 4 ∧ cRA K2 M2 p W ∧ v = none) := by
  obtain ⟨X, R, C, h0, h1, h2, h3, -, -⟩ := h
  obtain ⟨X2, R2, C2, g0, g1, g2, g3, gX, gR⟩ := ‹cRA K2 M q W›
  refine gCon_of (by decide) (Nat.le_of_ble_eq_true rfl) ?_
  show gJ _ _ _ _ _ _ 0 [(0, _), (1, _)] [] _
  refine gJ_aload_n dX0_copyFrom_0 rfl rfl ?_
  refine gJ_aload_n dX0_copyFrom_1 rfl rfl ?_
  refine gJ_get fX0_21 dX0_copyFrom_2 (by repeat (first | exact gUp_s | assumption | refine gUp_n ?_ (by omega))) rfl ?_
  refine gJ_put fX0_21 dX0_copyFrom_5 (by repeat (first | exact gUp_s | assumption | refine gUp_n ?_ (by omega))) rfl rfl (Nat.le_of_ble_eq_true rfl) ?_
  refine gJ_aload_n dX0_copyFrom_8 rfl rfl ?_
  refine gJ_aload_n dX0_copyFrom_9 rfl rfl ?_
  refine gJ_get fX0_25 dX0_copyFrom_10 (by repeat (first | exact gUp_s | assumption | refine gUp_n ?_ (by omega))) rfl ?_
  refine gJ_put fX0_25 dX0_copyFrom_13 (by repeat (first | exact gUp_s | assumption | refine gUp_n ?_ (by omega))) rfl rfl (Nat.le_of_ble_eq_true rfl) ?_
  refine gJ_aload_n dX0_copyFrom_16 rfl rfl ?_
  refine gJ_get fX0_9 dX0_copyFrom_17 (by repeat (first | exact gUp_s | assumption | refine gUp_n ?_ (by omega))) rfl ?_
  refine gJ_iconst (v := 0) dX0_copyFrom_20 (by decide) ?_
  refine gJ_aload_n dX0_copyFrom_21 rfl rfl ?_
  refine gJ_get fX0_9 dX0_copyFrom_22 (by repeat (first | exact gUp_s | assumption | refine gUp_n ?_ (by omega))) rfl ?_
  refine gJ_iconst (v := 0) dX0_copyFrom_25 (by decide) ?_
  refine gJ_aload_n dX0_copyFrom_26 rfl rfl ?_
  refine gJ_get fX0_9 dX0_copyFrom_27 (by repeat (first | exact gUp_s | assumption | refine gUp_n ?_ (by omega))) rfl ?_
  refine gJ_alen (v := 60) dX0_copyFrom_30 (by repeat (first | exact gUp_s | assumption | refine gUp_n ?_ (by omega))) rfl rfl ?_
  refine gJ_copyi aX0_28 dX0_copyFrom_31 (by repeat (first | exact gUp_s | assumption | refine gUp_n ?_ (by omega))) (by repeat (first | exact gUp_s | assumption | refine gUp_n ?_ (by omega))) (by decide) (by decide) (by decide) (by decide) (by decide) (by decide) (by omega) ?_
  refine gJ_cpI rfl ?_
  refine gJ_aload_n dX0_copyFrom_34 rfl rfl ?_
  refine gJ_get fX0_15 dX0_copyFrom_35 (by repeat (first | exact gUp_s | assumption | refine gUp_n ?_ (by omega))) rfl ?_
  refine gJ_iconst (v := 0) dX0_copyFrom_38 (by decide) ?_
  refine gJ_aload_n dX0_copyFrom_39 rfl rfl ?_
  refine gJ_get fX0_15 dX0_copyFrom_40 (by repeat (first | exact gUp_s | assumption | refine gUp_n ?_ (by omega))) rfl ?_
  refine gJ_iconst (v := 0) dX0_copyFrom_43 (by decide) ?_
  refine gJ_aload_n dX0_copyFrom_44 rfl rfl ?_
  refine gJ_get fX0_15 dX0_copyFrom_45 (by repeat (first | exact gUp_s | assumption | refine gUp_n ?_ (by omega))) rfl ?_
  refine gJ_alen (v := 1200) dX0_copyFrom_48 (by repeat (first | exact gUp_s | assumption | refine gUp_n ?_ (by omega))) rfl rfl ?_
  refine gJ_copyi aX0_28 dX0_copyFrom_49 (by repeat (first | exact gUp_s | assumption | refine gUp_n ?_ (by omega))) (by repeat (first | exact gUp_s | assumption | refine gUp_n ?_ (by omega))) (by decide) (by decide) (by decide) (by decide) (by decide) (by decide) (by omega) ?_
  refine gJ_cpI rfl ?_
  refine gJ_aload_n dX0_copyFrom_52 rfl rfl ?_
  refine gJ_get fX0_18 dX0_copyFrom_53 (by repeat (first | exact gUp_s | assumption | refine gUp_n ?_ (by omega))) rfl ?_
  refine gJ_iconst (v := 0) dX0_copyFrom_56 (by decide) ?_
  refine gJ_aload_n dX0_copyFrom_57 rfl rfl ?_
  refine gJ_get fX0_18 dX0_copyFrom_58 (by repeat (first | exact gUp_s | assumption | refine gUp_n ?_ (by omega))) rfl ?_
  refine gJ_iconst (v := 0) dX0_copyFrom_61 (by decide) ?_
  refine gJ_aload_n dX0_copyFrom_62 rfl rfl ?_
  refine gJ_get fX0_18 dX0_copyFrom_63 (by repeat (first | exact gUp_s | assumption | refine gUp_n ?_ (by omega))) rfl ?_
  refine gJ_alen (v := 60) dX0_copyFrom_66 (by repeat (first | exact gUp_s | assumption | refine gUp_n ?_ (by omega))) rfl rfl ?_
  refine gJ_copyi aX0_28 dX0_copyFrom_67 (by repeat (first | exact gUp_s | assumption | refine gUp_n ?_ (by omega))) (by repeat (first | exact gUp_s | assumption | refine gUp_n ?_ (by omega))) (by decide) (by decide) (by decide) (by decide) (by decide) (by decide) (by omega) ?_
  refine gJ_cpI rfl ?_
  refine gJ_vret dX0_copyFrom_70 rfl ?_
  exact ⟨(by repeat (first | exact gFr_r | refine gFr_u ?_ (by omega))), ⟨X2, R2, C2, (by repeat (first | exact gUp_s | assumption | refine gUp_n ?_ (by omega))), (by repeat (first | exact gUp_s | assumption | refine gUp_n ?_ (by omega))), (by repeat (first | exact gUp_s | assumption | refine gUp_n ?_ (by omega))), (by repeat (first | exact gUp_s | assumption | refine gUp_n ?_ (by omega))), gX, gR⟩, rfl⟩
set_option maxRecDepth 20000 in
theorem c2_copyFrom {p q : Nat} {S2 D2 : Nat → Int64} (h : cRG M p V S D) (h' : cRG M q W S2 D2) (hI : mI W) (hd : p + 5 ≤ q ∨ q + 5 ≤ p) : gCon G kX2_copyFrom 1 0 0 M [.ref p, .ref q] (fun M2 v => gFr M M2 p 5 ∧ cRG M2 p W S2 D ∧ v = none) := by
  obtain ⟨A, B, h0, h1, h2, h3, h4, -⟩ := h
  obtain ⟨A2, B2, g0, g1, g2, g3, g4, g5⟩ := h'
  refine gCon_of (by decide) (Nat.le_of_ble_eq_true rfl) ?_
  have loop : ∀ (n j : Nat), j + n = 129 → j ≤ 128 → ∀ U : Nat → Int32, (∀ i, i < j → U i = cOpen W i) →
      gJ G kX2_copyFrom 1 0 0 (gUp M (p + 1) (gZ 128 U)) 2 [(2, .int (nI j)), (0, .ref p), (1, .ref q)] [] (gQ kX2_copyFrom (fun M2 v => gFr M M2 p 5 ∧ cRG M2 p W S2 D ∧ v = none)) := by
    intro n
    induction n with
    | zero => intro j h1 h2; exact absurd h1 (by omega)
    | succ n ih =>
      intro j hn hj U hU
      refine gJ_iload_n dX2_copyFrom_2 rfl rfl ?_
      refine gJ_sipush (v := 128) dX2_copyFrom_3 (by decide) ?_
      refine gJ_icmp_geN (tgt := 27) (a := j) (b := 128) (by first | with_reducible rfl | rfl) (by first | with_reducible rfl | rfl) (by omega) (by omega) dX2_copyFrom_6 (by decide) (fun c6 => ?_) (fun c6 => ?_)
      · refine gJ_sw (fun H => gW_sw (gsw_Z (fun i hi => hU i (by omega)))) ?_
        refine gJ_aload_n dX2_copyFrom_27 rfl rfl ?_
        refine gJ_get fX2_15 dX2_copyFrom_28 (by repeat (first | exact gUp_s | assumption | refine gUp_n ?_ (by omega))) rfl ?_
        refine gJ_iconst (v := 0) dX2_copyFrom_31 (by decide) ?_
        refine gJ_aload_n dX2_copyFrom_32 rfl rfl ?_
        refine gJ_get fX2_15 dX2_copyFrom_33 (by repeat (first | exact gUp_s | assumption | refine gUp_n ?_ (by omega))) rfl ?_
        refine gJ_iconst (v := 0) dX2_copyFrom_36 (by decide) ?_
        refine gJ_sipush (v := 128) dX2_copyFrom_37 (by decide) ?_
        refine gJ_copyi aX2_26 dX2_copyFrom_40 (by repeat (first | exact gUp_s | assumption | refine gUp_n ?_ (by omega))) (by repeat (first | exact gUp_s | assumption | refine gUp_n ?_ (by omega))) (by decide) (by decide) (by decide) (by decide) (by decide) (by decide) (by omega) ?_
        refine gJ_cpI rfl ?_
        refine gJ_aload_n dX2_copyFrom_43 rfl rfl ?_
        refine gJ_get fX2_19 dX2_copyFrom_44 (by repeat (first | exact gUp_s | assumption | refine gUp_n ?_ (by omega))) rfl ?_
        refine gJ_iconst (v := 0) dX2_copyFrom_47 (by decide) ?_
        refine gJ_aload_n dX2_copyFrom_48 rfl rfl ?_
        refine gJ_get fX2_19 dX2_copyFrom_49 (by repeat (first | exact gUp_s | assumption | refine gUp_n ?_ (by omega))) rfl ?_
        refine gJ_iconst (v := 0) dX2_copyFrom_52 (by decide) ?_
        refine gJ_sipush (v := 128) dX2_copyFrom_53 (by decide) ?_
        refine gJ_copyl aX2_26 dX2_copyFrom_56 (by repeat (first | exact gUp_s | assumption | refine gUp_n ?_ (by omega))) (by repeat (first | exact gUp_s | assumption | refine gUp_n ?_ (by omega))) (by decide) (by decide) (by decide) (by decide) (by decide) (by decide) (by omega) ?_
        refine gJ_cpL rfl ?_
        refine gJ_vret dX2_copyFrom_59 rfl ?_
        exact ⟨(by repeat (first | exact gFr_r | refine gFr_u ?_ (by omega))), ⟨A2, B2, (by repeat (first | exact gUp_s | assumption | refine gUp_n ?_ (by omega))), (by repeat (first | exact gUp_s | assumption | refine gUp_n ?_ (by omega))), (by repeat (first | exact gUp_s | assumption | refine gUp_n ?_ (by omega))), (by repeat (first | exact gUp_s | assumption | refine gUp_n ?_ (by omega))), (by repeat (first | exact gUp_s | assumption | refine gUp_n ?_ (by omega))), g5⟩, rfl⟩
      · refine gJ_aload_n dX2_copyFrom_9 rfl rfl ?_
        refine gJ_get fX2_9 dX2_copyFrom_10 (by repeat (first | exact gUp_s | assumption | refine gUp_n ?_ (by omega))) rfl ?_
        refine gJ_iload_n dX2_copyFrom_13 rfl rfl ?_
        refine gJ_aload_n dX2_copyFrom_14 rfl rfl ?_
        refine gJ_get fX2_9 dX2_copyFrom_15 (by repeat (first | exact gUp_s | assumption | refine gUp_n ?_ (by omega))) rfl ?_
        refine gJ_iload_n dX2_copyFrom_18 rfl rfl ?_
        refine gJ_zaldN (j := j) dX2_copyFrom_19 (by repeat (first | exact gUp_s | assumption | refine gUp_n ?_ (by omega))) (by first | with_reducible rfl | rfl) (by omega) (by decide) ?_
        refine gJ_zastN (j := j) dX2_copyFrom_20 (by repeat (first | exact gUp_s | assumption | refine gUp_n ?_ (by omega))) (by first | with_reducible rfl | rfl) (by omega) (by decide) (by rw [cOpen_at (by omega)]; exact cOp hI (by omega)) ?_
        try rw [gUp_up]
        refine gJ_iincN (a := j) (b := 1) (lv2 := [(2, _), (0, _), (1, _)]) dX2_copyFrom_21 rfl rfl rfl rfl ?_
        refine gJ_goto (tgt := 2) dX2_copyFrom_24 (by decide) ?_
        refine gJ_ls (ih (j + 1) (by omega) (by omega) _ (fun i hi => ?_)) ⟨rfl, rfl, rfl, trivial⟩
        by_cases e : i = j
        · subst e; exact pk_us
        · rw [pk_un e]; exact hU i (by omega)
  show gJ _ _ _ _ _ _ 0 [(0, _), (1, _)] [] _
  refine gJ_iconst (v := 0) dX2_copyFrom_0 (by decide) ?_
  refine gJ_istore_n (lv2 := [(2, _), (0, _), (1, _)]) dX2_copyFrom_1 rfl rfl rfl ?_
  have L := loop 129 0 (by omega) (by omega) (cOpen V) (fun i hi => absurd hi (by omega))
  rw [gUp_id h1] at L
  exact gJ_ls L ⟨rfl, rfl, rfl, trivial⟩
set_option maxHeartbeats 4000000 in
set_option maxRecDepth 20000 in
theorem c7_copyFrom {p q : Nat} (h : cRS M E p V) (h' : cRS M E q W) (hI : mI W) (hd : p + 9 ≤ q ∨ q + 9 ≤ p) (hE : p + 9 ≤ E) : gCon G kX7_copyFrom 1 0 0 M [.ref p, .ref q] (fun M2 v => gFr M M2 p 9 ∧ cRS M2 E p W ∧ v = none) := by
  obtain ⟨X, RU, SI, IN, h0, h1, h2, h3, h4, h5, h6, h7, h8, -, -, -, -⟩ := h
  obtain ⟨X2, RU2, SI2, IN2, g0, g1, g2, g3, g4, g5, g6, g7, g8, kX, kR, kS, kN⟩ := h'
  refine gCon_of (by decide) (Nat.le_of_ble_eq_true rfl) ?_
  have L138 : ∀ M1 : gM, gFr M M1 p 9 → M1.1 p = some (cSu p) → M1.1 (p + 1) = some (gI 36 (cLab W)) → M1.1 (p + 2) = some (gI 12 X2) → M1.1 (p + 3) = some (gZ 12 (cHas W)) → M1.1 (p + 4) = some (gR 3 5 RU2) → M1.1 (p + 5) = some (gR 4 6 SI2) → M1.1 (p + 6) = some (gR 5 4 IN2) → M1.1 (p + 7) = some (gI 5 (cPar V)) → M1.1 (p + 8) = some (gL 20 (cSets V)) →
      gJ G kX7_copyFrom 1 0 0 M1 138 [(0, .ref p), (1, .ref q)] [] (gQ kX7_copyFrom (fun M2 v => gFr M M2 p 9 ∧ cRS M2 E p W ∧ v = none)) := by
    intro M1 hf t0 t1 t2 t3 t4 t5 t6 t7 t8
    have kp : ∀ M2, gFr M M2 p 9 → gKp M M2 E := fun M2 h => gFr_kp h hE
    refine gJ_aload_n dX7_copyFrom_138 rfl rfl ?_
    refine gJ_get fX7_40 dX7_copyFrom_139 (by repeat (first | exact gUp_s | assumption | refine gUp_n ?_ (by omega) | exact gFr_g hf (by assumption) (by omega))) rfl ?_
    refine gJ_iconst (v := 0) dX7_copyFrom_142 (by decide) ?_
    refine gJ_aload_n dX7_copyFrom_143 rfl rfl ?_
    refine gJ_get fX7_40 dX7_copyFrom_144 (by repeat (first | exact gUp_s | assumption | refine gUp_n ?_ (by omega) | exact gFr_g hf (by assumption) (by omega))) rfl ?_
    refine gJ_iconst (v := 0) dX7_copyFrom_147 (by decide) ?_
    refine gJ_aload_n dX7_copyFrom_148 rfl rfl ?_
    refine gJ_get fX7_40 dX7_copyFrom_149 (by repeat (first | exact gUp_s | assumption | refine gUp_n ?_ (by omega) | exact gFr_g hf (by assumption) (by omega))) rfl ?_
    refine gJ_alen (v := 5) dX7_copyFrom_152 (by repeat (first | exact gUp_s | assumption | refine gUp_n ?_ (by omega) | exact gFr_g hf (by assumption) (by omega))) rfl rfl ?_
    refine gJ_copyi aX7_50 dX7_copyFrom_153 (by repeat (first | exact gUp_s | assumption | refine gUp_n ?_ (by omega) | exact gFr_g hf (by assumption) (by omega))) (by repeat (first | exact gUp_s | assumption | refine gUp_n ?_ (by omega) | exact gFr_g hf (by assumption) (by omega))) (by decide) (by decide) (by decide) (by decide) (by decide) (by decide) (by omega) ?_
    refine gJ_cpI rfl ?_
    refine gJ_aload_n dX7_copyFrom_156 rfl rfl ?_
    refine gJ_get fX7_43 dX7_copyFrom_157 (by repeat (first | exact gUp_s | assumption | refine gUp_n ?_ (by omega) | exact gFr_g hf (by assumption) (by omega))) rfl ?_
    refine gJ_iconst (v := 0) dX7_copyFrom_160 (by decide) ?_
    refine gJ_aload_n dX7_copyFrom_161 rfl rfl ?_
    refine gJ_get fX7_43 dX7_copyFrom_162 (by repeat (first | exact gUp_s | assumption | refine gUp_n ?_ (by omega) | exact gFr_g hf (by assumption) (by omega))) rfl ?_
    refine gJ_iconst (v := 0) dX7_copyFrom_165 (by decide) ?_
    refine gJ_aload_n dX7_copyFrom_166 rfl rfl ?_
    refine gJ_get fX7_43 dX7_copyFrom_167 (by repeat (first | exact gUp_s | assumption | refine gUp_n ?_ (by omega) | exact gFr_g hf (by assumption) (by omega))) rfl ?_
    refine gJ_alen (v := 20) dX7_copyFrom_170 (by repeat (first | exact gUp_s | assumption | refine gUp_n ?_ (by omega) | exact gFr_g hf (by assumption) (by omega))) rfl rfl ?_
    refine gJ_copyl aX7_50 dX7_copyFrom_171 (by repeat (first | exact gUp_s | assumption | refine gUp_n ?_ (by omega) | exact gFr_g hf (by assumption) (by omega))) (by repeat (first | exact gUp_s | assumption | refine gUp_n ?_ (by omega) | exact gFr_g hf (by assumption) (by omega))) (by decide) (by decide) (by decide) (by decide) (by decide) (by decide) (by omega) ?_
    refine gJ_cpL rfl ?_
    refine gJ_vret dX7_copyFrom_174 rfl ?_
    have hf2 : gFr M (gUp (gUp M1 (p + 7) (gI 5 (cPar W))) (p + 8) (gL 20 (cSets W))) p 9 := gFr_u (gFr_u hf (by omega)) (by omega)
    exact ⟨hf2, ⟨X2, RU2, SI2, IN2, (by repeat (first | exact gUp_s | assumption | refine gUp_n ?_ (by omega) | exact gFr_g hf (by assumption) (by omega))), (by repeat (first | exact gUp_s | assumption | refine gUp_n ?_ (by omega) | exact gFr_g hf (by assumption) (by omega))), (by repeat (first | exact gUp_s | assumption | refine gUp_n ?_ (by omega) | exact gFr_g hf (by assumption) (by omega))), (by repeat (first | exact gUp_s | assumption | refine gUp_n ?_ (by omega) | exact gFr_g hf (by assumption) (by omega))), (by repeat (first | exact gUp_s | assumption | refine gUp_n ?_ (by omega) | exact gFr_g hf (by assumption) (by omega))), (by repeat (first | exact gUp_s | assumption | refine gUp_n ?_ (by omega) | exact gFr_g hf (by assumption) (by omega))), (by repeat (first | exact gUp_s | assumption | refine gUp_n ?_ (by omega) | exact gFr_g hf (by assumption) (by omega))), (by repeat (first | exact gUp_s | assumption | refine gUp_n ?_ (by omega) | exact gFr_g hf (by assumption) (by omega))), (by repeat (first | exact gUp_s | assumption | refine gUp_n ?_ (by omega) | exact gFr_g hf (by assumption) (by omega))), kX, fun r hr => cRul_kp (kR r hr) (kp _ hf2), fun k hk => cSil_kp (kS k hk) (kp _ hf2), fun k hk => cInh_kp (kN k hk) (kp _ hf2)⟩, rfl⟩
  have L115 : ∀ (n j : Nat), j + n = 5 → j ≤ 4 → ∀ U : Nat → Option Nat, (∀ i, i < j → U i = IN2 i) → ∀ M1 : gM, gFr M M1 p 9 → M1.1 p = some (cSu p) → M1.1 (p + 1) = some (gI 36 (cLab W)) → M1.1 (p + 2) = some (gI 12 X2) → M1.1 (p + 3) = some (gZ 12 (cHas W)) → M1.1 (p + 4) = some (gR 3 5 RU2) → M1.1 (p + 5) = some (gR 4 6 SI2) → M1.1 (p + 6) = some (gR 5 4 U) → M1.1 (p + 7) = some (gI 5 (cPar V)) → M1.1 (p + 8) = some (gL 20 (cSets V)) →
      gJ G kX7_copyFrom 1 0 0 M1 115 [(2, .int (nI j)), (0, .ref p), (1, .ref q)] [] (gQ kX7_copyFrom (fun M2 v => gFr M M2 p 9 ∧ cRS M2 E p W ∧ v = none)) := by
    intro n
    induction n with
    | zero => intro j h1 h2; exact absurd h1 (by omega)
    | succ n ih =>
      intro j hn hj U hU M1 hf t0 t1 t2 t3 t4 t5 t6 t7 t8
      have hU2 : ∀ o, IN2 j = o → ∀ i, i < j + 1 → va_up U j o i = IN2 i := by
        intro o ho i hi
        unfold va_up
        by_cases e : i = j
        · subst e; rw [if_pos rfl, ho]
        · rw [if_neg e]; exact hU i (by omega)
      by_cases hlt : j < 4
      · rcases kN j hlt with ⟨-, ho⟩ | ⟨-, o, mq, nq, ho, hE2, hob, -, -⟩
        · skip
          refine gJ_iload_n dX7_copyFrom_115 rfl rfl ?_
          refine gJ_iconst (v := 4) dX7_copyFrom_116 (by decide) ?_
          refine gJ_icmp_geN (tgt := 138) (a := j) (b := 4) (by first | with_reducible rfl | rfl) (by first | with_reducible rfl | rfl) (by omega) (by omega) dX7_copyFrom_117 (by decide) (fun c_ => by exfalso; omega) (fun _ => ?_)
          refine gJ_aload_n dX7_copyFrom_120 rfl rfl ?_
          refine gJ_get fX7_36 dX7_copyFrom_121 (by repeat (first | exact gUp_s | assumption | refine gUp_n ?_ (by omega) | exact gFr_g hf (by assumption) (by omega))) rfl ?_
          refine gJ_iload_n dX7_copyFrom_124 rfl rfl ?_
          refine gJ_aload_n dX7_copyFrom_125 rfl rfl ?_
          refine gJ_get fX7_36 dX7_copyFrom_126 (by repeat (first | exact gUp_s | assumption | refine gUp_n ?_ (by omega) | exact gFr_g hf (by assumption) (by omega))) rfl ?_
          refine gJ_iload_n dX7_copyFrom_129 rfl rfl ?_
          refine gJ_aaldN (j := j) dX7_copyFrom_130 (by repeat (first | exact gUp_s | assumption | refine gUp_n ?_ (by omega) | exact gFr_g hf (by assumption) (by omega))) rfl (by first | with_reducible rfl | rfl) (by omega) (by decide) ho ?_
          refine gJ_aastNN (j := j) dX7_copyFrom_131 (by repeat (first | exact gUp_s | assumption | refine gUp_n ?_ (by omega) | exact gFr_g hf (by assumption) (by omega))) rfl (by first | with_reducible rfl | rfl) (by omega) (by decide) ?_
          try rw [gUp_up]
          refine gJ_iincN (a := j) (b := 1) (lv2 := [(2, _), (0, _), (1, _)]) dX7_copyFrom_132 rfl rfl rfl rfl ?_
          refine gJ_goto (tgt := 115) dX7_copyFrom_135 (by decide) ?_
          exact gJ_ls (ih (j + 1) (by omega) (by omega) _ (hU2 _ ho) _ (by repeat (first | assumption | exact gFr_r | refine gFr_u ?_ (by omega))) (by repeat (first | exact gUp_s | assumption | refine gUp_n ?_ (by omega) | exact gFr_g hf (by assumption) (by omega))) (by repeat (first | exact gUp_s | assumption | refine gUp_n ?_ (by omega) | exact gFr_g hf (by assumption) (by omega))) (by repeat (first | exact gUp_s | assumption | refine gUp_n ?_ (by omega) | exact gFr_g hf (by assumption) (by omega))) (by repeat (first | exact gUp_s | assumption | refine gUp_n ?_ (by omega) | exact gFr_g hf (by assumption) (by omega))) (by repeat (first | exact gUp_s | assumption | refine gUp_n ?_ (by omega) | exact gFr_g hf (by assumption) (by omega))) (by repeat (first | exact gUp_s | assumption | refine gUp_n ?_ (by omega) | exact gFr_g hf (by assumption) (by omega))) (by repeat (first | exact gUp_s | assumption | refine gUp_n ?_ (by omega) | exact gFr_g hf (by assumption) (by omega))) (by repeat (first | exact gUp_s | assumption | refine gUp_n ?_ (by omega) | exact gFr_g hf (by assumption) (by omega))) (by repeat (first | exact gUp_s | assumption | refine gUp_n ?_ (by omega) | exact gFr_g hf (by assumption) (by omega)))) ⟨rfl, rfl, rfl, trivial⟩
        · have hob := gFr_g hf hob (by omega)
          refine gJ_iload_n dX7_copyFrom_115 rfl rfl ?_
          refine gJ_iconst (v := 4) dX7_copyFrom_116 (by decide) ?_
          refine gJ_icmp_geN (tgt := 138) (a := j) (b := 4) (by first | with_reducible rfl | rfl) (by first | with_reducible rfl | rfl) (by omega) (by omega) dX7_copyFrom_117 (by decide) (fun c_ => by exfalso; omega) (fun _ => ?_)
          refine gJ_aload_n dX7_copyFrom_120 rfl rfl ?_
          refine gJ_get fX7_36 dX7_copyFrom_121 (by repeat (first | exact gUp_s | assumption | refine gUp_n ?_ (by omega) | exact gFr_g hf (by assumption) (by omega))) rfl ?_
          refine gJ_iload_n dX7_copyFrom_124 rfl rfl ?_
          refine gJ_aload_n dX7_copyFrom_125 rfl rfl ?_
          refine gJ_get fX7_36 dX7_copyFrom_126 (by repeat (first | exact gUp_s | assumption | refine gUp_n ?_ (by omega) | exact gFr_g hf (by assumption) (by omega))) rfl ?_
          refine gJ_iload_n dX7_copyFrom_129 rfl rfl ?_
          refine gJ_aaldS (j := j) dX7_copyFrom_130 (by repeat (first | exact gUp_s | assumption | refine gUp_n ?_ (by omega) | exact gFr_g hf (by assumption) (by omega))) rfl (by first | with_reducible rfl | rfl) (by omega) (by decide) ho ?_
          refine gJ_aastN_ (j := j) dX7_copyFrom_131 (by repeat (first | exact gUp_s | assumption | refine gUp_n ?_ (by omega) | exact gFr_g hf (by assumption) (by omega))) rfl hob rfl (by first | with_reducible rfl | rfl) (by omega) (by decide) ?_
          try rw [gUp_up]
          refine gJ_iincN (a := j) (b := 1) (lv2 := [(2, _), (0, _), (1, _)]) dX7_copyFrom_132 rfl rfl rfl rfl ?_
          refine gJ_goto (tgt := 115) dX7_copyFrom_135 (by decide) ?_
          exact gJ_ls (ih (j + 1) (by omega) (by omega) _ (hU2 _ ho) _ (by repeat (first | assumption | exact gFr_r | refine gFr_u ?_ (by omega))) (by repeat (first | exact gUp_s | assumption | refine gUp_n ?_ (by omega) | exact gFr_g hf (by assumption) (by omega))) (by repeat (first | exact gUp_s | assumption | refine gUp_n ?_ (by omega) | exact gFr_g hf (by assumption) (by omega))) (by repeat (first | exact gUp_s | assumption | refine gUp_n ?_ (by omega) | exact gFr_g hf (by assumption) (by omega))) (by repeat (first | exact gUp_s | assumption | refine gUp_n ?_ (by omega) | exact gFr_g hf (by assumption) (by omega))) (by repeat (first | exact gUp_s | assumption | refine gUp_n ?_ (by omega) | exact gFr_g hf (by assumption) (by omega))) (by repeat (first | exact gUp_s | assumption | refine gUp_n ?_ (by omega) | exact gFr_g hf (by assumption) (by omega))) (by repeat (first | exact gUp_s | assumption | refine gUp_n ?_ (by omega) | exact gFr_g hf (by assumption) (by omega))) (by repeat (first | exact gUp_s | assumption | refine gUp_n ?_ (by omega) | exact gFr_g hf (by assumption) (by omega))) (by repeat (first | exact gUp_s | assumption | refine gUp_n ?_ (by omega) | exact gFr_g hf (by assumption) (by omega)))) ⟨rfl, rfl, rfl, trivial⟩
      · have en : j = 4 := by omega
        subst en
        have hsw : ∀ i, i < 4 → U i = IN2 i := fun i hi => hU i (by omega)
        refine gJ_iload_n dX7_copyFrom_115 rfl rfl ?_
        refine gJ_iconst (v := 4) dX7_copyFrom_116 (by decide) ?_
        refine gJ_icmp_geN (tgt := 138) (a := 4) (b := 4) (by first | with_reducible rfl | rfl) (by first | with_reducible rfl | rfl) (by omega) (by omega) dX7_copyFrom_117 (by decide) (fun _ => ?_) (fun c_ => by exfalso; omega)
        refine gJ_sw (M1 := gUp M1 (p + 6) (gR 5 4 IN2)) (fun H hw => ?_) ?_
        · rw [← gUp_id t6] at hw; exact gW_sw (gsw_R hsw) hw
        · exact gJ_ls (L138 _ (by repeat (first | assumption | exact gFr_r | refine gFr_u ?_ (by omega))) (by repeat (first | exact gUp_s | assumption | refine gUp_n ?_ (by omega) | exact gFr_g hf (by assumption) (by omega))) (by repeat (first | exact gUp_s | assumption | refine gUp_n ?_ (by omega) | exact gFr_g hf (by assumption) (by omega))) (by repeat (first | exact gUp_s | assumption | refine gUp_n ?_ (by omega) | exact gFr_g hf (by assumption) (by omega))) (by repeat (first | exact gUp_s | assumption | refine gUp_n ?_ (by omega) | exact gFr_g hf (by assumption) (by omega))) (by repeat (first | exact gUp_s | assumption | refine gUp_n ?_ (by omega) | exact gFr_g hf (by assumption) (by omega))) (by repeat (first | exact gUp_s | assumption | refine gUp_n ?_ (by omega) | exact gFr_g hf (by assumption) (by omega))) (by repeat (first | exact gUp_s | assumption | refine gUp_n ?_ (by omega) | exact gFr_g hf (by assumption) (by omega))) (by repeat (first | exact gUp_s | assumption | refine gUp_n ?_ (by omega) | exact gFr_g hf (by assumption) (by omega))) (by repeat (first | exact gUp_s | assumption | refine gUp_n ?_ (by omega) | exact gFr_g hf (by assumption) (by omega)))) ⟨rfl, rfl, trivial⟩
  have L89 : ∀ (n j : Nat), j + n = 7 → j ≤ 6 → ∀ U : Nat → Option Nat, (∀ i, i < j → U i = SI2 i) → ∀ M1 : gM, gFr M M1 p 9 → M1.1 p = some (cSu p) → M1.1 (p + 1) = some (gI 36 (cLab W)) → M1.1 (p + 2) = some (gI 12 X2) → M1.1 (p + 3) = some (gZ 12 (cHas W)) → M1.1 (p + 4) = some (gR 3 5 RU2) → M1.1 (p + 5) = some (gR 4 6 U) → M1.1 (p + 6) = some (gR 5 4 IN) → M1.1 (p + 7) = some (gI 5 (cPar V)) → M1.1 (p + 8) = some (gL 20 (cSets V)) →
      gJ G kX7_copyFrom 1 0 0 M1 89 [(2, .int (nI j)), (0, .ref p), (1, .ref q)] [] (gQ kX7_copyFrom (fun M2 v => gFr M M2 p 9 ∧ cRS M2 E p W ∧ v = none)) := by
    intro n
    induction n with
    | zero => intro j h1 h2; exact absurd h1 (by omega)
    | succ n ih =>
      intro j hn hj U hU M1 hf t0 t1 t2 t3 t4 t5 t6 t7 t8
      have hU2 : ∀ o, SI2 j = o → ∀ i, i < j + 1 → va_up U j o i = SI2 i := by
        intro o ho i hi
        unfold va_up
        by_cases e : i = j
        · subst e; rw [if_pos rfl, ho]
        · rw [if_neg e]; exact hU i (by omega)
      by_cases hlt : j < 6
      · rcases kS j hlt with ⟨-, ho⟩ | ⟨-, o, mq, ho, hE2, hob, -⟩
        · skip
          refine gJ_iload_n dX7_copyFrom_89 rfl rfl ?_
          refine gJ_bipush (v := 6) dX7_copyFrom_90 (by decide) ?_
          refine gJ_icmp_geN (tgt := 113) (a := j) (b := 6) (by first | with_reducible rfl | rfl) (by first | with_reducible rfl | rfl) (by omega) (by omega) dX7_copyFrom_92 (by decide) (fun c_ => by exfalso; omega) (fun _ => ?_)
          refine gJ_aload_n dX7_copyFrom_95 rfl rfl ?_
          refine gJ_get fX7_30 dX7_copyFrom_96 (by repeat (first | exact gUp_s | assumption | refine gUp_n ?_ (by omega) | exact gFr_g hf (by assumption) (by omega))) rfl ?_
          refine gJ_iload_n dX7_copyFrom_99 rfl rfl ?_
          refine gJ_aload_n dX7_copyFrom_100 rfl rfl ?_
          refine gJ_get fX7_30 dX7_copyFrom_101 (by repeat (first | exact gUp_s | assumption | refine gUp_n ?_ (by omega) | exact gFr_g hf (by assumption) (by omega))) rfl ?_
          refine gJ_iload_n dX7_copyFrom_104 rfl rfl ?_
          refine gJ_aaldN (j := j) dX7_copyFrom_105 (by repeat (first | exact gUp_s | assumption | refine gUp_n ?_ (by omega) | exact gFr_g hf (by assumption) (by omega))) rfl (by first | with_reducible rfl | rfl) (by omega) (by decide) ho ?_
          refine gJ_aastNN (j := j) dX7_copyFrom_106 (by repeat (first | exact gUp_s | assumption | refine gUp_n ?_ (by omega) | exact gFr_g hf (by assumption) (by omega))) rfl (by first | with_reducible rfl | rfl) (by omega) (by decide) ?_
          try rw [gUp_up]
          refine gJ_iincN (a := j) (b := 1) (lv2 := [(2, _), (0, _), (1, _)]) dX7_copyFrom_107 rfl rfl rfl rfl ?_
          refine gJ_goto (tgt := 89) dX7_copyFrom_110 (by decide) ?_
          exact gJ_ls (ih (j + 1) (by omega) (by omega) _ (hU2 _ ho) _ (by repeat (first | assumption | exact gFr_r | refine gFr_u ?_ (by omega))) (by repeat (first | exact gUp_s | assumption | refine gUp_n ?_ (by omega) | exact gFr_g hf (by assumption) (by omega))) (by repeat (first | exact gUp_s | assumption | refine gUp_n ?_ (by omega) | exact gFr_g hf (by assumption) (by omega))) (by repeat (first | exact gUp_s | assumption | refine gUp_n ?_ (by omega) | exact gFr_g hf (by assumption) (by omega))) (by repeat (first | exact gUp_s | assumption | refine gUp_n ?_ (by omega) | exact gFr_g hf (by assumption) (by omega))) (by repeat (first | exact gUp_s | assumption | refine gUp_n ?_ (by omega) | exact gFr_g hf (by assumption) (by omega))) (by repeat (first | exact gUp_s | assumption | refine gUp_n ?_ (by omega) | exact gFr_g hf (by assumption) (by omega))) (by repeat (first | exact gUp_s | assumption | refine gUp_n ?_ (by omega) | exact gFr_g hf (by assumption) (by omega))) (by repeat (first | exact gUp_s | assumption | refine gUp_n ?_ (by omega) | exact gFr_g hf (by assumption) (by omega))) (by repeat (first | exact gUp_s | assumption | refine gUp_n ?_ (by omega) | exact gFr_g hf (by assumption) (by omega)))) ⟨rfl, rfl, rfl, trivial⟩
        · have hob := gFr_g hf hob (by omega)
          refine gJ_iload_n dX7_copyFrom_89 rfl rfl ?_
          refine gJ_bipush (v := 6) dX7_copyFrom_90 (by decide) ?_
          refine gJ_icmp_geN (tgt := 113) (a := j) (b := 6) (by first | with_reducible rfl | rfl) (by first | with_reducible rfl | rfl) (by omega) (by omega) dX7_copyFrom_92 (by decide) (fun c_ => by exfalso; omega) (fun _ => ?_)
          refine gJ_aload_n dX7_copyFrom_95 rfl rfl ?_
          refine gJ_get fX7_30 dX7_copyFrom_96 (by repeat (first | exact gUp_s | assumption | refine gUp_n ?_ (by omega) | exact gFr_g hf (by assumption) (by omega))) rfl ?_
          refine gJ_iload_n dX7_copyFrom_99 rfl rfl ?_
          refine gJ_aload_n dX7_copyFrom_100 rfl rfl ?_
          refine gJ_get fX7_30 dX7_copyFrom_101 (by repeat (first | exact gUp_s | assumption | refine gUp_n ?_ (by omega) | exact gFr_g hf (by assumption) (by omega))) rfl ?_
          refine gJ_iload_n dX7_copyFrom_104 rfl rfl ?_
          refine gJ_aaldS (j := j) dX7_copyFrom_105 (by repeat (first | exact gUp_s | assumption | refine gUp_n ?_ (by omega) | exact gFr_g hf (by assumption) (by omega))) rfl (by first | with_reducible rfl | rfl) (by omega) (by decide) ho ?_
          refine gJ_aastN_ (j := j) dX7_copyFrom_106 (by repeat (first | exact gUp_s | assumption | refine gUp_n ?_ (by omega) | exact gFr_g hf (by assumption) (by omega))) rfl hob rfl (by first | with_reducible rfl | rfl) (by omega) (by decide) ?_
          try rw [gUp_up]
          refine gJ_iincN (a := j) (b := 1) (lv2 := [(2, _), (0, _), (1, _)]) dX7_copyFrom_107 rfl rfl rfl rfl ?_
          refine gJ_goto (tgt := 89) dX7_copyFrom_110 (by decide) ?_
          exact gJ_ls (ih (j + 1) (by omega) (by omega) _ (hU2 _ ho) _ (by repeat (first | assumption | exact gFr_r | refine gFr_u ?_ (by omega))) (by repeat (first | exact gUp_s | assumption | refine gUp_n ?_ (by omega) | exact gFr_g hf (by assumption) (by omega))) (by repeat (first | exact gUp_s | assumption | refine gUp_n ?_ (by omega) | exact gFr_g hf (by assumption) (by omega))) (by repeat (first | exact gUp_s | assumption | refine gUp_n ?_ (by omega) | exact gFr_g hf (by assumption) (by omega))) (by repeat (first | exact gUp_s | assumption | refine gUp_n ?_ (by omega) | exact gFr_g hf (by assumption) (by omega))) (by repeat (first | exact gUp_s | assumption | refine gUp_n ?_ (by omega) | exact gFr_g hf (by assumption) (by omega))) (by repeat (first | exact gUp_s | assumption | refine gUp_n ?_ (by omega) | exact gFr_g hf (by assumption) (by omega))) (by repeat (first | exact gUp_s | assumption | refine gUp_n ?_ (by omega) | exact gFr_g hf (by assumption) (by omega))) (by repeat (first | exact gUp_s | assumption | refine gUp_n ?_ (by omega) | exact gFr_g hf (by assumption) (by omega))) (by repeat (first | exact gUp_s | assumption | refine gUp_n ?_ (by omega) | exact gFr_g hf (by assumption) (by omega)))) ⟨rfl, rfl, rfl, trivial⟩
      · have en : j = 6 := by omega
        subst en
        have hsw : ∀ i, i < 6 → U i = SI2 i := fun i hi => hU i (by omega)
        refine gJ_iload_n dX7_copyFrom_89 rfl rfl ?_
        refine gJ_bipush (v := 6) dX7_copyFrom_90 (by decide) ?_
        refine gJ_icmp_geN (tgt := 113) (a := 6) (b := 6) (by first | with_reducible rfl | rfl) (by first | with_reducible rfl | rfl) (by omega) (by omega) dX7_copyFrom_92 (by decide) (fun _ => ?_) (fun c_ => by exfalso; omega)
        refine gJ_iconst (v := 0) dX7_copyFrom_113 (by decide) ?_
        refine gJ_istore_n (lv2 := [(2, _), (0, _), (1, _)]) dX7_copyFrom_114 rfl rfl rfl ?_
        refine gJ_sw (M1 := gUp M1 (p + 5) (gR 4 6 SI2)) (fun H hw => ?_) ?_
        · rw [← gUp_id t5] at hw; exact gW_sw (gsw_R hsw) hw
        · exact gJ_ls (L115 5 0 (by omega) (by omega) IN (fun i hi => absurd hi (by omega)) _ (by repeat (first | assumption | exact gFr_r | refine gFr_u ?_ (by omega))) (by repeat (first | exact gUp_s | assumption | refine gUp_n ?_ (by omega) | exact gFr_g hf (by assumption) (by omega))) (by repeat (first | exact gUp_s | assumption | refine gUp_n ?_ (by omega) | exact gFr_g hf (by assumption) (by omega))) (by repeat (first | exact gUp_s | assumption | refine gUp_n ?_ (by omega) | exact gFr_g hf (by assumption) (by omega))) (by repeat (first | exact gUp_s | assumption | refine gUp_n ?_ (by omega) | exact gFr_g hf (by assumption) (by omega))) (by repeat (first | exact gUp_s | assumption | refine gUp_n ?_ (by omega) | exact gFr_g hf (by assumption) (by omega))) (by repeat (first | exact gUp_s | assumption | refine gUp_n ?_ (by omega) | exact gFr_g hf (by assumption) (by omega))) (by repeat (first | exact gUp_s | assumption | refine gUp_n ?_ (by omega) | exact gFr_g hf (by assumption) (by omega))) (by repeat (first | exact gUp_s | assumption | refine gUp_n ?_ (by omega) | exact gFr_g hf (by assumption) (by omega))) (by repeat (first | exact gUp_s | assumption | refine gUp_n ?_ (by omega) | exact gFr_g hf (by assumption) (by omega)))) ⟨rfl, rfl, rfl, trivial⟩
  have L64 : ∀ (n j : Nat), j + n = 6 → j ≤ 5 → ∀ U : Nat → Option Nat, (∀ i, i < j → U i = RU2 i) → ∀ M1 : gM, gFr M M1 p 9 → M1.1 p = some (cSu p) → M1.1 (p + 1) = some (gI 36 (cLab W)) → M1.1 (p + 2) = some (gI 12 X2) → M1.1 (p + 3) = some (gZ 12 (cHas W)) → M1.1 (p + 4) = some (gR 3 5 U) → M1.1 (p + 5) = some (gR 4 6 SI) → M1.1 (p + 6) = some (gR 5 4 IN) → M1.1 (p + 7) = some (gI 5 (cPar V)) → M1.1 (p + 8) = some (gL 20 (cSets V)) →
      gJ G kX7_copyFrom 1 0 0 M1 64 [(2, .int (nI j)), (0, .ref p), (1, .ref q)] [] (gQ kX7_copyFrom (fun M2 v => gFr M M2 p 9 ∧ cRS M2 E p W ∧ v = none)) := by
    intro n
    induction n with
    | zero => intro j h1 h2; exact absurd h1 (by omega)
    | succ n ih =>
      intro j hn hj U hU M1 hf t0 t1 t2 t3 t4 t5 t6 t7 t8
      have hU2 : ∀ o, RU2 j = o → ∀ i, i < j + 1 → va_up U j o i = RU2 i := by
        intro o ho i hi
        unfold va_up
        by_cases e : i = j
        · subst e; rw [if_pos rfl, ho]
        · rw [if_neg e]; exact hU i (by omega)
      by_cases hlt : j < 5
      · rcases kR j hlt with ⟨-, ho⟩ | ⟨-, o, mq, ho, hE2, hob, -⟩
        · skip
          refine gJ_iload_n dX7_copyFrom_64 rfl rfl ?_
          refine gJ_iconst (v := 5) dX7_copyFrom_65 (by decide) ?_
          refine gJ_icmp_geN (tgt := 87) (a := j) (b := 5) (by first | with_reducible rfl | rfl) (by first | with_reducible rfl | rfl) (by omega) (by omega) dX7_copyFrom_66 (by decide) (fun c_ => by exfalso; omega) (fun _ => ?_)
          refine gJ_aload_n dX7_copyFrom_69 rfl rfl ?_
          refine gJ_get fX7_24 dX7_copyFrom_70 (by repeat (first | exact gUp_s | assumption | refine gUp_n ?_ (by omega) | exact gFr_g hf (by assumption) (by omega))) rfl ?_
          refine gJ_iload_n dX7_copyFrom_73 rfl rfl ?_
          refine gJ_aload_n dX7_copyFrom_74 rfl rfl ?_
          refine gJ_get fX7_24 dX7_copyFrom_75 (by repeat (first | exact gUp_s | assumption | refine gUp_n ?_ (by omega) | exact gFr_g hf (by assumption) (by omega))) rfl ?_
          refine gJ_iload_n dX7_copyFrom_78 rfl rfl ?_
          refine gJ_aaldN (j := j) dX7_copyFrom_79 (by repeat (first | exact gUp_s | assumption | refine gUp_n ?_ (by omega) | exact gFr_g hf (by assumption) (by omega))) rfl (by first | with_reducible rfl | rfl) (by omega) (by decide) ho ?_
          refine gJ_aastNN (j := j) dX7_copyFrom_80 (by repeat (first | exact gUp_s | assumption | refine gUp_n ?_ (by omega) | exact gFr_g hf (by assumption) (by omega))) rfl (by first | with_reducible rfl | rfl) (by omega) (by decide) ?_
          try rw [gUp_up]
          refine gJ_iincN (a := j) (b := 1) (lv2 := [(2, _), (0, _), (1, _)]) dX7_copyFrom_81 rfl rfl rfl rfl ?_
          refine gJ_goto (tgt := 64) dX7_copyFrom_84 (by decide) ?_
          exact gJ_ls (ih (j + 1) (by omega) (by omega) _ (hU2 _ ho) _ (by repeat (first | assumption | exact gFr_r | refine gFr_u ?_ (by omega))) (by repeat (first | exact gUp_s | assumption | refine gUp_n ?_ (by omega) | exact gFr_g hf (by assumption) (by omega))) (by repeat (first | exact gUp_s | assumption | refine gUp_n ?_ (by omega) | exact gFr_g hf (by assumption) (by omega))) (by repeat (first | exact gUp_s | assumption | refine gUp_n ?_ (by omega) | exact gFr_g hf (by assumption) (by omega))) (by repeat (first | exact gUp_s | assumption | refine gUp_n ?_ (by omega) | exact gFr_g hf (by assumption) (by omega))) (by repeat (first | exact gUp_s | assumption | refine gUp_n ?_ (by omega) | exact gFr_g hf (by assumption) (by omega))) (by repeat (first | exact gUp_s | assumption | refine gUp_n ?_ (by omega) | exact gFr_g hf (by assumption) (by omega))) (by repeat (first | exact gUp_s | assumption | refine gUp_n ?_ (by omega) | exact gFr_g hf (by assumption) (by omega))) (by repeat (first | exact gUp_s | assumption | refine gUp_n ?_ (by omega) | exact gFr_g hf (by assumption) (by omega))) (by repeat (first | exact gUp_s | assumption | refine gUp_n ?_ (by omega) | exact gFr_g hf (by assumption) (by omega)))) ⟨rfl, rfl, rfl, trivial⟩
        · have hob := gFr_g hf hob (by omega)
          refine gJ_iload_n dX7_copyFrom_64 rfl rfl ?_
          refine gJ_iconst (v := 5) dX7_copyFrom_65 (by decide) ?_
          refine gJ_icmp_geN (tgt := 87) (a := j) (b := 5) (by first | with_reducible rfl | rfl) (by first | with_reducible rfl | rfl) (by omega) (by omega) dX7_copyFrom_66 (by decide) (fun c_ => by exfalso; omega) (fun _ => ?_)
          refine gJ_aload_n dX7_copyFrom_69 rfl rfl ?_
          refine gJ_get fX7_24 dX7_copyFrom_70 (by repeat (first | exact gUp_s | assumption | refine gUp_n ?_ (by omega) | exact gFr_g hf (by assumption) (by omega))) rfl ?_
          refine gJ_iload_n dX7_copyFrom_73 rfl rfl ?_
          refine gJ_aload_n dX7_copyFrom_74 rfl rfl ?_
          refine gJ_get fX7_24 dX7_copyFrom_75 (by repeat (first | exact gUp_s | assumption | refine gUp_n ?_ (by omega) | exact gFr_g hf (by assumption) (by omega))) rfl ?_
          refine gJ_iload_n dX7_copyFrom_78 rfl rfl ?_
          refine gJ_aaldS (j := j) dX7_copyFrom_79 (by repeat (first | exact gUp_s | assumption | refine gUp_n ?_ (by omega) | exact gFr_g hf (by assumption) (by omega))) rfl (by first | with_reducible rfl | rfl) (by omega) (by decide) ho ?_
          refine gJ_aastN_ (j := j) dX7_copyFrom_80 (by repeat (first | exact gUp_s | assumption | refine gUp_n ?_ (by omega) | exact gFr_g hf (by assumption) (by omega))) rfl hob rfl (by first | with_reducible rfl | rfl) (by omega) (by decide) ?_
          try rw [gUp_up]
          refine gJ_iincN (a := j) (b := 1) (lv2 := [(2, _), (0, _), (1, _)]) dX7_copyFrom_81 rfl rfl rfl rfl ?_
          refine gJ_goto (tgt := 64) dX7_copyFrom_84 (by decide) ?_
          exact gJ_ls (ih (j + 1) (by omega) (by omega) _ (hU2 _ ho) _ (by repeat (first | assumption | exact gFr_r | refine gFr_u ?_ (by omega))) (by repeat (first | exact gUp_s | assumption | refine gUp_n ?_ (by omega) | exact gFr_g hf (by assumption) (by omega))) (by repeat (first | exact gUp_s | assumption | refine gUp_n ?_ (by omega) | exact gFr_g hf (by assumption) (by omega))) (by repeat (first | exact gUp_s | assumption | refine gUp_n ?_ (by omega) | exact gFr_g hf (by assumption) (by omega))) (by repeat (first | exact gUp_s | assumption | refine gUp_n ?_ (by omega) | exact gFr_g hf (by assumption) (by omega))) (by repeat (first | exact gUp_s | assumption | refine gUp_n ?_ (by omega) | exact gFr_g hf (by assumption) (by omega))) (by repeat (first | exact gUp_s | assumption | refine gUp_n ?_ (by omega) | exact gFr_g hf (by assumption) (by omega))) (by repeat (first | exact gUp_s | assumption | refine gUp_n ?_ (by omega) | exact gFr_g hf (by assumption) (by omega))) (by repeat (first | exact gUp_s | assumption | refine gUp_n ?_ (by omega) | exact gFr_g hf (by assumption) (by omega))) (by repeat (first | exact gUp_s | assumption | refine gUp_n ?_ (by omega) | exact gFr_g hf (by assumption) (by omega)))) ⟨rfl, rfl, rfl, trivial⟩
      · have en : j = 5 := by omega
        subst en
        have hsw : ∀ i, i < 5 → U i = RU2 i := fun i hi => hU i (by omega)
        refine gJ_iload_n dX7_copyFrom_64 rfl rfl ?_
        refine gJ_iconst (v := 5) dX7_copyFrom_65 (by decide) ?_
        refine gJ_icmp_geN (tgt := 87) (a := 5) (b := 5) (by first | with_reducible rfl | rfl) (by first | with_reducible rfl | rfl) (by omega) (by omega) dX7_copyFrom_66 (by decide) (fun _ => ?_) (fun c_ => by exfalso; omega)
        refine gJ_iconst (v := 0) dX7_copyFrom_87 (by decide) ?_
        refine gJ_istore_n (lv2 := [(2, _), (0, _), (1, _)]) dX7_copyFrom_88 rfl rfl rfl ?_
        refine gJ_sw (M1 := gUp M1 (p + 4) (gR 3 5 RU2)) (fun H hw => ?_) ?_
        · rw [← gUp_id t4] at hw; exact gW_sw (gsw_R hsw) hw
        · exact gJ_ls (L89 7 0 (by omega) (by omega) SI (fun i hi => absurd hi (by omega)) _ (by repeat (first | assumption | exact gFr_r | refine gFr_u ?_ (by omega))) (by repeat (first | exact gUp_s | assumption | refine gUp_n ?_ (by omega) | exact gFr_g hf (by assumption) (by omega))) (by repeat (first | exact gUp_s | assumption | refine gUp_n ?_ (by omega) | exact gFr_g hf (by assumption) (by omega))) (by repeat (first | exact gUp_s | assumption | refine gUp_n ?_ (by omega) | exact gFr_g hf (by assumption) (by omega))) (by repeat (first | exact gUp_s | assumption | refine gUp_n ?_ (by omega) | exact gFr_g hf (by assumption) (by omega))) (by repeat (first | exact gUp_s | assumption | refine gUp_n ?_ (by omega) | exact gFr_g hf (by assumption) (by omega))) (by repeat (first | exact gUp_s | assumption | refine gUp_n ?_ (by omega) | exact gFr_g hf (by assumption) (by omega))) (by repeat (first | exact gUp_s | assumption | refine gUp_n ?_ (by omega) | exact gFr_g hf (by assumption) (by omega))) (by repeat (first | exact gUp_s | assumption | refine gUp_n ?_ (by omega) | exact gFr_g hf (by assumption) (by omega))) (by repeat (first | exact gUp_s | assumption | refine gUp_n ?_ (by omega) | exact gFr_g hf (by assumption) (by omega)))) ⟨rfl, rfl, rfl, trivial⟩
  have L38 : ∀ (n j : Nat), j + n = 13 → j ≤ 12 → ∀ U : Nat → Int32, (∀ i, i < j → U i = cHas W i) → ∀ M1 : gM, gFr M M1 p 9 → M1.1 p = some (cSu p) → M1.1 (p + 1) = some (gI 36 (cLab W)) → M1.1 (p + 2) = some (gI 12 X2) → M1.1 (p + 3) = some (gZ 12 U) → M1.1 (p + 4) = some (gR 3 5 RU) → M1.1 (p + 5) = some (gR 4 6 SI) → M1.1 (p + 6) = some (gR 5 4 IN) → M1.1 (p + 7) = some (gI 5 (cPar V)) → M1.1 (p + 8) = some (gL 20 (cSets V)) →
      gJ G kX7_copyFrom 1 0 0 M1 38 [(2, .int (nI j)), (0, .ref p), (1, .ref q)] [] (gQ kX7_copyFrom (fun M2 v => gFr M M2 p 9 ∧ cRS M2 E p W ∧ v = none)) := by
    intro n
    induction n with
    | zero => intro j h1 h2; exact absurd h1 (by omega)
    | succ n ih =>
      intro j hn hj U hU M1 hf t0 t1 t2 t3 t4 t5 t6 t7 t8
      refine gJ_iload_n dX7_copyFrom_38 rfl rfl ?_
      refine gJ_bipush (v := 12) dX7_copyFrom_39 (by decide) ?_
      refine gJ_icmp_geN (tgt := 62) (a := j) (b := 12) (by first | with_reducible rfl | rfl) (by first | with_reducible rfl | rfl) (by omega) (by omega) dX7_copyFrom_41 (by decide) (fun c41 => ?_) (fun c41 => ?_)
      · refine gJ_iconst (v := 0) dX7_copyFrom_62 (by decide) ?_
        refine gJ_istore_n (lv2 := [(2, _), (0, _), (1, _)]) dX7_copyFrom_63 rfl rfl rfl ?_
        refine gJ_sw (M1 := gUp M1 (p + 3) (gZ 12 (cHas W))) (fun H hw => ?_) ?_
        · rw [← gUp_id t3] at hw; exact gW_sw (gsw_Z (fun i hi => hU i (by omega))) hw
        · exact gJ_ls (L64 6 0 (by omega) (by omega) RU (fun i hi => absurd hi (by omega)) _ (by repeat (first | assumption | exact gFr_r | refine gFr_u ?_ (by omega))) (by repeat (first | exact gUp_s | assumption | refine gUp_n ?_ (by omega) | exact gFr_g hf (by assumption) (by omega))) (by repeat (first | exact gUp_s | assumption | refine gUp_n ?_ (by omega) | exact gFr_g hf (by assumption) (by omega))) (by repeat (first | exact gUp_s | assumption | refine gUp_n ?_ (by omega) | exact gFr_g hf (by assumption) (by omega))) (by repeat (first | exact gUp_s | assumption | refine gUp_n ?_ (by omega) | exact gFr_g hf (by assumption) (by omega))) (by repeat (first | exact gUp_s | assumption | refine gUp_n ?_ (by omega) | exact gFr_g hf (by assumption) (by omega))) (by repeat (first | exact gUp_s | assumption | refine gUp_n ?_ (by omega) | exact gFr_g hf (by assumption) (by omega))) (by repeat (first | exact gUp_s | assumption | refine gUp_n ?_ (by omega) | exact gFr_g hf (by assumption) (by omega))) (by repeat (first | exact gUp_s | assumption | refine gUp_n ?_ (by omega) | exact gFr_g hf (by assumption) (by omega))) (by repeat (first | exact gUp_s | assumption | refine gUp_n ?_ (by omega) | exact gFr_g hf (by assumption) (by omega)))) ⟨rfl, rfl, rfl, trivial⟩
      · refine gJ_aload_n dX7_copyFrom_44 rfl rfl ?_
        refine gJ_get fX7_18 dX7_copyFrom_45 (by repeat (first | exact gUp_s | assumption | refine gUp_n ?_ (by omega) | exact gFr_g hf (by assumption) (by omega))) rfl ?_
        refine gJ_iload_n dX7_copyFrom_48 rfl rfl ?_
        refine gJ_aload_n dX7_copyFrom_49 rfl rfl ?_
        refine gJ_get fX7_18 dX7_copyFrom_50 (by repeat (first | exact gUp_s | assumption | refine gUp_n ?_ (by omega) | exact gFr_g hf (by assumption) (by omega))) rfl ?_
        refine gJ_iload_n dX7_copyFrom_53 rfl rfl ?_
        refine gJ_zaldN (j := j) dX7_copyFrom_54 (by repeat (first | exact gUp_s | assumption | refine gUp_n ?_ (by omega) | exact gFr_g hf (by assumption) (by omega))) (by first | with_reducible rfl | rfl) (by omega) (by decide) ?_
        refine gJ_zastN (j := j) dX7_copyFrom_55 (by repeat (first | exact gUp_s | assumption | refine gUp_n ?_ (by omega) | exact gFr_g hf (by assumption) (by omega))) (by first | with_reducible rfl | rfl) (by omega) (by decide) (by rw [cHas_at (by omega)]; obtain ⟨x_, hx1_, hx2_⟩ := hI.2.1 j (by omega); rw [hx2_]; rcases (show x_ = 0 ∨ x_ = 1 by omega) with rfl | rfl <;> first | exact Or.inl rfl | exact Or.inr rfl) ?_
        try rw [gUp_up]
        refine gJ_iincN (a := j) (b := 1) (lv2 := [(2, _), (0, _), (1, _)]) dX7_copyFrom_56 rfl rfl rfl rfl ?_
        refine gJ_goto (tgt := 38) dX7_copyFrom_59 (by decide) ?_
        refine gJ_ls (ih (j + 1) (by omega) (by omega) (upd U j (cHas W j)) (fun i hi => ?_) _ (by repeat (first | assumption | exact gFr_r | refine gFr_u ?_ (by omega))) (by repeat (first | exact gUp_s | assumption | refine gUp_n ?_ (by omega) | exact gFr_g hf (by assumption) (by omega))) (by repeat (first | exact gUp_s | assumption | refine gUp_n ?_ (by omega) | exact gFr_g hf (by assumption) (by omega))) (by repeat (first | exact gUp_s | assumption | refine gUp_n ?_ (by omega) | exact gFr_g hf (by assumption) (by omega))) (by repeat (first | exact gUp_s | assumption | refine gUp_n ?_ (by omega) | exact gFr_g hf (by assumption) (by omega))) (by repeat (first | exact gUp_s | assumption | refine gUp_n ?_ (by omega) | exact gFr_g hf (by assumption) (by omega))) (by repeat (first | exact gUp_s | assumption | refine gUp_n ?_ (by omega) | exact gFr_g hf (by assumption) (by omega))) (by repeat (first | exact gUp_s | assumption | refine gUp_n ?_ (by omega) | exact gFr_g hf (by assumption) (by omega))) (by repeat (first | exact gUp_s | assumption | refine gUp_n ?_ (by omega) | exact gFr_g hf (by assumption) (by omega))) (by repeat (first | exact gUp_s | assumption | refine gUp_n ?_ (by omega) | exact gFr_g hf (by assumption) (by omega)))) ⟨rfl, rfl, rfl, trivial⟩
        by_cases e : i = j
        · subst e; exact pk_us
        · rw [pk_un e]; exact hU i (by omega)
  have hf : gFr M M p 9 := gFr_r
  show gJ _ _ _ _ _ _ 0 [(0, _), (1, _)] [] _
  refine gJ_aload_n dX7_copyFrom_0 rfl rfl ?_
  refine gJ_get fX7_9 dX7_copyFrom_1 (by repeat (first | exact gUp_s | assumption | refine gUp_n ?_ (by omega) | exact gFr_g hf (by assumption) (by omega))) rfl ?_
  refine gJ_iconst (v := 0) dX7_copyFrom_4 (by decide) ?_
  refine gJ_aload_n dX7_copyFrom_5 rfl rfl ?_
  refine gJ_get fX7_9 dX7_copyFrom_6 (by repeat (first | exact gUp_s | assumption | refine gUp_n ?_ (by omega) | exact gFr_g hf (by assumption) (by omega))) rfl ?_
  refine gJ_iconst (v := 0) dX7_copyFrom_9 (by decide) ?_
  refine gJ_aload_n dX7_copyFrom_10 rfl rfl ?_
  refine gJ_get fX7_9 dX7_copyFrom_11 (by repeat (first | exact gUp_s | assumption | refine gUp_n ?_ (by omega) | exact gFr_g hf (by assumption) (by omega))) rfl ?_
  refine gJ_alen (v := 36) dX7_copyFrom_14 (by repeat (first | exact gUp_s | assumption | refine gUp_n ?_ (by omega) | exact gFr_g hf (by assumption) (by omega))) rfl rfl ?_
  refine gJ_copyi aX7_50 dX7_copyFrom_15 (by repeat (first | exact gUp_s | assumption | refine gUp_n ?_ (by omega) | exact gFr_g hf (by assumption) (by omega))) (by repeat (first | exact gUp_s | assumption | refine gUp_n ?_ (by omega) | exact gFr_g hf (by assumption) (by omega))) (by decide) (by decide) (by decide) (by decide) (by decide) (by decide) (by omega) ?_
  refine gJ_cpI rfl ?_
  refine gJ_aload_n dX7_copyFrom_18 rfl rfl ?_
  refine gJ_get fX7_15 dX7_copyFrom_19 (by repeat (first | exact gUp_s | assumption | refine gUp_n ?_ (by omega) | exact gFr_g hf (by assumption) (by omega))) rfl ?_
  refine gJ_iconst (v := 0) dX7_copyFrom_22 (by decide) ?_
  refine gJ_aload_n dX7_copyFrom_23 rfl rfl ?_
  refine gJ_get fX7_15 dX7_copyFrom_24 (by repeat (first | exact gUp_s | assumption | refine gUp_n ?_ (by omega) | exact gFr_g hf (by assumption) (by omega))) rfl ?_
  refine gJ_iconst (v := 0) dX7_copyFrom_27 (by decide) ?_
  refine gJ_aload_n dX7_copyFrom_28 rfl rfl ?_
  refine gJ_get fX7_15 dX7_copyFrom_29 (by repeat (first | exact gUp_s | assumption | refine gUp_n ?_ (by omega) | exact gFr_g hf (by assumption) (by omega))) rfl ?_
  refine gJ_alen (v := 12) dX7_copyFrom_32 (by repeat (first | exact gUp_s | assumption | refine gUp_n ?_ (by omega) | exact gFr_g hf (by assumption) (by omega))) rfl rfl ?_
  refine gJ_copyi aX7_50 dX7_copyFrom_33 (by repeat (first | exact gUp_s | assumption | refine gUp_n ?_ (by omega) | exact gFr_g hf (by assumption) (by omega))) (by repeat (first | exact gUp_s | assumption | refine gUp_n ?_ (by omega) | exact gFr_g hf (by assumption) (by omega))) (by decide) (by decide) (by decide) (by decide) (by decide) (by decide) (by omega) ?_
  refine gJ_cpI rfl ?_
  refine gJ_iconst (v := 0) dX7_copyFrom_36 (by decide) ?_
  refine gJ_istore_n (lv2 := [(2, _), (0, _), (1, _)]) dX7_copyFrom_37 rfl rfl rfl ?_
  exact gJ_ls (L38 13 0 (by omega) (by omega) (cHas V) (fun i hi => absurd hi (by omega)) _ (by repeat (first | assumption | exact gFr_r | refine gFr_u ?_ (by omega))) (by repeat (first | exact gUp_s | assumption | refine gUp_n ?_ (by omega) | exact gFr_g hf (by assumption) (by omega))) (by repeat (first | exact gUp_s | assumption | refine gUp_n ?_ (by omega) | exact gFr_g hf (by assumption) (by omega))) (by repeat (first | exact gUp_s | assumption | refine gUp_n ?_ (by omega) | exact gFr_g hf (by assumption) (by omega))) (by repeat (first | exact gUp_s | assumption | refine gUp_n ?_ (by omega) | exact gFr_g hf (by assumption) (by omega))) (by repeat (first | exact gUp_s | assumption | refine gUp_n ?_ (by omega) | exact gFr_g hf (by assumption) (by omega))) (by repeat (first | exact gUp_s | assumption | refine gUp_n ?_ (by omega) | exact gFr_g hf (by assumption) (by omega))) (by repeat (first | exact gUp_s | assumption | refine gUp_n ?_ (by omega) | exact gFr_g hf (by assumption) (by omega))) (by repeat (first | exact gUp_s | assumption | refine gUp_n ?_ (by omega) | exact gFr_g hf (by assumption) (by omega))) (by repeat (first | exact gUp_s | assumption | refine gUp_n ?_ (by omega) | exact gFr_g hf (by assumption) (by omega)))) ⟨rfl, rfl, rfl, trivial⟩
set_option maxHeartbeats 1000000 in
set_option maxRecDepth 20000 in
theorem c9_copyFrom {a b T2 : Nat} {S2 D2 : Nat → Int64} (h : cR T M E a V S D) (h' : cR T2 M E b W S2 D2) (hI : mI W) (hd : a + 21 ≤ b ∨ b + 21 ≤ a) (hE : a + 21 ≤ E) : gCon G kX9_copyFrom 2 0 0 M [.ref a, .ref b] (fun M2 v => gFr M M2 a 21 ∧ cR T2 M2 E a W S2 D ∧ v = none) := by
  obtain ⟨-, hs, hS, hA, hG, hL⟩ := h
  obtain ⟨gV, gs, gS, gA, gG', gL'⟩ := h'
  have f1 : gFr M (gUp M a (cSta a (W 1847))) a 1 := gFr_u gFr_r (by omega)
  have e0 : (gUp M a (cSta a (W 1847))).1 a = some (cSta a (W 1847)) := gUp_s
  have e1 : (gUp M a (cSta a (W 1847))).1 b = some (cSta b (W 1847)) := gUp_n gs (by omega)
  have kS := cRS_fr hS f1 (by omega) (by omega)
  have kS' := cRS_fr gS f1 (by omega) (by omega)
  have kA := cRA_fr hA f1 (by omega)
  have kA' := cRA_fr gA f1 (by omega)
  have kG := cRG_fr hG f1 (by omega)
  have kG' := cRG_fr gG' f1 (by omega)
  have kL := cRL_fr hL f1 (by omega)
  have kL' := cRL_fr gL' f1 (by omega)
  obtain ⟨oS, hoS⟩ : ∃ o, (gUp M a (cSta a (W 1847))).1 (a + 1) = some (gO 6 o) := by obtain ⟨_, _, _, _, q0, -⟩ := kS; exact ⟨_, q0⟩
  obtain ⟨oA, hoA⟩ : ∃ o, (gUp M a (cSta a (W 1847))).1 (a + 10) = some (gO 0 o) := by obtain ⟨_, _, _, q0, -⟩ := kA; exact ⟨_, q0⟩
  obtain ⟨oG, hoG⟩ : ∃ o, (gUp M a (cSta a (W 1847))).1 (a + 14) = some (gO 1 o) := by obtain ⟨_, _, q0, -⟩ := kG; exact ⟨_, q0⟩
  obtain ⟨oL, hoL⟩ : ∃ o, (gUp M a (cSta a (W 1847))).1 (a + 19) = some (gO 3 o) := by obtain ⟨_, _, _, _, q0, -⟩ := kL; exact ⟨_, q0⟩
  have L8 : gJ G kX9_copyFrom 2 0 0 (gUp M a (cSta a (W 1847))) 8 [(0, .ref a), (1, .ref b)] [] (gQ kX9_copyFrom (fun M2 v => gFr M M2 a 21 ∧ cR T2 M2 E a W S2 D ∧ v = none)) := by
    generalize gUp M a (cSta a (W 1847)) = M1 at *
    refine gJ_aload_n dX9_copyFrom_8 rfl rfl ?_
    refine gJ_get fX9_12 dX9_copyFrom_9 (by first | with_reducible assumption | with_reducible exact gUp_s | with_reducible exact gUp_n (by with_reducible assumption) (by omega) | exact gUp_n (by assumption) (by omega) | exact gUp_s | assumption) rfl ?_
    refine gJ_aload_n dX9_copyFrom_12 rfl rfl ?_
    refine gJ_get fX9_12 dX9_copyFrom_13 (by first | with_reducible assumption | with_reducible exact gUp_s | with_reducible exact gUp_n (by with_reducible assumption) (by omega) | exact gUp_n (by assumption) (by omega) | exact gUp_s | assumption) rfl ?_
    refine gJ_callV (As := [_]) b_X7_copyFrom lX9_43 i_X7_copyFrom s_X7_copyFrom dX9_copyFrom_16 (c7_copyFrom kS kS' hI (by omega) (by omega)) (by first | with_reducible assumption | with_reducible exact gUp_s | with_reducible exact gUp_n (by with_reducible assumption) (by omega) | exact gUp_n (by assumption) (by omega) | exact gUp_s | assumption) rfl rfl (Nat.le_of_ble_eq_true rfl) rfl (by decide) (fun M16 v_ h16 => ?_)
    obtain ⟨f16, r16, rfl⟩ := h16
    have e0a := gFr_g f16 e0 (by omega)
    have e1a := gFr_g f16 e1 (by omega)
    have kAa := cRA_fr kA f16 (by omega)
    have kAa' := cRA_fr kA' f16 (by omega)
    have hoAa := gFr_g f16 hoA (by omega)
    refine gJ_aload_n dX9_copyFrom_19 rfl rfl ?_
    refine gJ_get fX9_21 dX9_copyFrom_20 (by first | with_reducible assumption | with_reducible exact gUp_s | with_reducible exact gUp_n (by with_reducible assumption) (by omega) | exact gUp_n (by assumption) (by omega) | exact gUp_s | assumption) rfl ?_
    refine gJ_aload_n dX9_copyFrom_23 rfl rfl ?_
    refine gJ_get fX9_21 dX9_copyFrom_24 (by first | with_reducible assumption | with_reducible exact gUp_s | with_reducible exact gUp_n (by with_reducible assumption) (by omega) | exact gUp_n (by assumption) (by omega) | exact gUp_s | assumption) rfl ?_
    refine gJ_callV (As := [_]) b_X0_copyFrom lX9_47 i_X0_copyFrom s_X0_copyFrom dX9_copyFrom_27 (c0_copyFrom kAa kAa' (by omega)) (by first | with_reducible assumption | with_reducible exact gUp_s | with_reducible exact gUp_n (by with_reducible assumption) (by omega) | exact gUp_n (by assumption) (by omega) | exact gUp_s | assumption) rfl rfl (Nat.le_of_ble_eq_true rfl) rfl (by decide) (fun M27 v_ h27 => ?_)
    obtain ⟨f27, r27, rfl⟩ := h27
    have e0b := gFr_g f27 e0a (by omega)
    have e1b := gFr_g f27 e1a (by omega)
    have kGb := cRG_fr (cRG_fr kG f16 (by omega)) f27 (by omega)
    have kGb' := cRG_fr (cRG_fr kG' f16 (by omega)) f27 (by omega)
    have hoGb := gFr_g f27 (gFr_g f16 hoG (by omega)) (by omega)
    refine gJ_aload_n dX9_copyFrom_30 rfl rfl ?_
    refine gJ_get fX9_28 dX9_copyFrom_31 (by first | with_reducible assumption | with_reducible exact gUp_s | with_reducible exact gUp_n (by with_reducible assumption) (by omega) | exact gUp_n (by assumption) (by omega) | exact gUp_s | assumption) rfl ?_
    refine gJ_aload_n dX9_copyFrom_34 rfl rfl ?_
    refine gJ_get fX9_28 dX9_copyFrom_35 (by first | with_reducible assumption | with_reducible exact gUp_s | with_reducible exact gUp_n (by with_reducible assumption) (by omega) | exact gUp_n (by assumption) (by omega) | exact gUp_s | assumption) rfl ?_
    refine gJ_callV (As := [_]) b_X2_copyFrom lX9_50 i_X2_copyFrom s_X2_copyFrom dX9_copyFrom_38 (c2_copyFrom kGb kGb' hI (by omega)) (by first | with_reducible assumption | with_reducible exact gUp_s | with_reducible exact gUp_n (by with_reducible assumption) (by omega) | exact gUp_n (by assumption) (by omega) | exact gUp_s | assumption) rfl rfl (Nat.le_of_ble_eq_true rfl) rfl (by decide) (fun M38 v_ h38 => ?_)
    obtain ⟨f38, r38, rfl⟩ := h38
    have e0c := gFr_g f38 e0b (by omega)
    have e1c := gFr_g f38 e1b (by omega)
    have kLc := cRL_fr (cRL_fr (cRL_fr kL f16 (by omega)) f27 (by omega)) f38 (by omega)
    have kLc' := cRL_fr (cRL_fr (cRL_fr kL' f16 (by omega)) f27 (by omega)) f38 (by omega)
    have hoLc := gFr_g f38 (gFr_g f27 (gFr_g f16 hoL (by omega)) (by omega)) (by omega)
    refine gJ_aload_n dX9_copyFrom_41 rfl rfl ?_
    refine gJ_get fX9_35 dX9_copyFrom_42 (by first | with_reducible assumption | with_reducible exact gUp_s | with_reducible exact gUp_n (by with_reducible assumption) (by omega) | exact gUp_n (by assumption) (by omega) | exact gUp_s | assumption) rfl ?_
    refine gJ_aload_n dX9_copyFrom_45 rfl rfl ?_
    refine gJ_get fX9_35 dX9_copyFrom_46 (by first | with_reducible assumption | with_reducible exact gUp_s | with_reducible exact gUp_n (by with_reducible assumption) (by omega) | exact gUp_n (by assumption) (by omega) | exact gUp_s | assumption) rfl ?_
    refine gJ_callV (As := [_]) b_X4_copyFrom lX9_53 i_X4_copyFrom s_X4_copyFrom dX9_copyFrom_49 (c4_copyFrom kLc kLc' (by omega)) (by first | with_reducible assumption | with_reducible exact gUp_s | with_reducible exact gUp_n (by with_reducible assumption) (by omega) | exact gUp_n (by assumption) (by omega) | exact gUp_s | assumption) rfl rfl (Nat.le_of_ble_eq_true rfl) rfl (by decide) (fun M49 v_ h49 => ?_)
    obtain ⟨f49, r49, rfl⟩ := h49
    refine gJ_vret dX9_copyFrom_52 rfl ?_
    refine ⟨gFr_t (gFr_t (gFr_t (gFr_t (gFr_w f1 (by omega) (by omega)) (gFr_w f16 (by omega) (by omega))) (gFr_w f27 (by omega) (by omega))) (gFr_w f38 (by omega) (by omega))) (gFr_w f49 (by omega) (by omega)), ⟨gV, gFr_g f49 e0c (by omega), cRS_fr (cRS_fr (cRS_fr r16 f27 (by omega) (by omega)) f38 (by omega) (by omega)) f49 (by omega) (by omega), cRA_fr (cRA_fr r27 f38 (by omega)) f49 (by omega), cRG_fr r38 f49 (by omega), r49⟩, rfl⟩
  refine gCon_of (by decide) (Nat.le_of_ble_eq_true rfl) ?_
  show gJ _ _ _ _ _ _ 0 [(0, _), (1, _)] [] _
  refine gJ_aload_n dX9_copyFrom_0 rfl rfl ?_
  refine gJ_aload_n dX9_copyFrom_1 rfl rfl ?_
  refine gJ_get fX9_39 dX9_copyFrom_2 (by first | with_reducible assumption | with_reducible exact gUp_s | with_reducible exact gUp_n (by with_reducible assumption) (by omega) | exact gUp_n (by assumption) (by omega) | exact gUp_s | assumption) rfl ?_
  refine gJ_put fX9_39 dX9_copyFrom_5 (by first | with_reducible assumption | with_reducible exact gUp_s | with_reducible exact gUp_n (by with_reducible assumption) (by omega) | exact gUp_n (by assumption) (by omega) | exact gUp_s | assumption) rfl rfl (Nat.le_of_ble_eq_true rfl) ?_
  exact gJ_ls L8 ⟨rfl, rfl, trivial⟩
set_option maxRecDepth 20000 in
theorem c9_steps (h : cR T M E s V S D) (hE : s + 21 ≤ E) (n : Nat) (hn : n ≤ 100) (hT : T + n ≤ 200000) (hI : mI V) (hJ : mJ V) : gCon G kX9_steps 5 0 0 M [.ref s, .int (nI n)] (fun M2 v => gFr M M2 s 21 ∧ (∃ D2, cR (T + n) M2 E s (mIt (V, S) n).1 (mIt (V, S) n).2 D2) ∧ v = some (.int (mTot (V, S) n))) := by
  refine gCon_of (by decide) (Nat.le_of_ble_eq_true rfl) ?_
  have loop : ∀ (q j : Nat), j + q = n + 1 → j ≤ n → ∀ (M1 : gM) (D1 : Nat → Int64), gFr M M1 s 21 → cR (T + j) M1 E s (mIt (V, S) j).1 (mIt (V, S) j).2 D1 →
      gJ G kX9_steps 5 0 0 M1 4 [(3, .int (nI j)), (2, .int (mTot (V, S) j)), (0, .ref s), (1, .int (nI n))] [] (gQ kX9_steps (fun M2 v => gFr M M2 s 21 ∧ (∃ D2, cR (T + n) M2 E s (mIt (V, S) n).1 (mIt (V, S) n).2 D2) ∧ v = some (.int (mTot (V, S) n)))) := by
    intro q
    induction q with
    | zero => intro j h1 h2; exact absurd h1 (by omega)
    | succ q ih =>
      intro j hq hj M1 D1 hf hR
      have hs := hR.2.1
      by_cases hlt : j < n
      · have hst := c9_step (G := G) hR hE (by omega) (mIt_I (p := (V, S)) hI j) (mIt_J (p := (V, S)) hI hJ j)
        refine gJ_iload_n dX9_steps_4 rfl rfl ?_
        refine gJ_iload_n dX9_steps_5 rfl rfl ?_
        refine gJ_icmp_geN (tgt := 22) (a := j) (b := n) (by first | with_reducible rfl | rfl) (by first | with_reducible rfl | rfl) (by omega) (by omega) dX9_steps_6 (by decide) (fun c_ => by exfalso; omega) (fun _ => ?_)
        refine gJ_iload_n dX9_steps_9 rfl rfl ?_
        refine gJ_aload_n dX9_steps_10 rfl rfl ?_
        refine gJ_callV (As := []) b_X9_step lX9_56 i_X9_step s_X9_step dX9_steps_11 (hst) (by first | with_reducible assumption | with_reducible exact gUp_s | with_reducible exact gUp_n (by with_reducible assumption) (by omega) | exact gUp_n (by assumption) (by omega) | exact gUp_s | assumption) rfl rfl (Nat.le_of_ble_eq_true rfl) rfl (by decide) (fun M11 v_ h11 => ?_)
        obtain ⟨hf11, ⟨D2, hR2⟩, e11⟩ := h11
        subst e11
        refine gJ_iadd dX9_steps_14 ?_
        refine gJ_istore_n (lv2 := [(2, _), (3, _), (0, _), (1, _)]) dX9_steps_15 rfl rfl rfl ?_
        refine gJ_iincN (a := j) (b := 1) (lv2 := [(3, _), (2, _), (0, _), (1, _)]) dX9_steps_16 rfl rfl rfl rfl ?_
        refine gJ_goto (tgt := 4) dX9_steps_19 (by decide) ?_
        exact gJ_ls (ih (j + 1) (by omega) (by omega) M11 D2 (gFr_t hf hf11) hR2) ⟨rfl, rfl, rfl, rfl, trivial⟩
      · have en : j = n := by omega
        subst en
        refine gJ_iload_n dX9_steps_4 rfl rfl ?_
        refine gJ_iload_n dX9_steps_5 rfl rfl ?_
        refine gJ_icmp_geN (tgt := 22) (a := j) (b := j) (by first | with_reducible rfl | rfl) (by first | with_reducible rfl | rfl) (by omega) (by omega) dX9_steps_6 (by decide) (fun _ => ?_) (fun c_ => by exfalso; omega)
        refine gJ_iload_n dX9_steps_22 rfl rfl ?_
        refine gJ_iret dX9_steps_23 rfl ?_
        exact ⟨hf, ⟨D1, hR⟩, rfl⟩
  show gJ _ _ _ _ _ _ 0 [(0, _), (1, _)] [] _
  refine gJ_iconst (v := 0) dX9_steps_0 (by decide) ?_
  refine gJ_istore_n (lv2 := [(2, _), (0, _), (1, _)]) dX9_steps_1 rfl rfl rfl ?_
  refine gJ_iconst (v := 0) dX9_steps_2 (by decide) ?_
  refine gJ_istore_n (lv2 := [(3, _), (2, _), (0, _), (1, _)]) dX9_steps_3 rfl rfl rfl ?_
  exact gJ_ls (loop (n + 1) 0 (by omega) (by omega) M D gFr_r h) ⟨rfl, rfl, rfl, rfl, trivial⟩
end CLS
