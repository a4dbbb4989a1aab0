def cPre (V : Nat → Int32) (l s i a : Nat) : Bool := (if i < 4 then decide (0 < l ∨ (l = 0 ∧ a % 12 < s)) else if i < 12 then decide (1 < l ∨ (l = 1 ∧ a % 12 < s)) else if i < 16 then decide (2 < l ∨ (l = 2 ∧ a % 12 < s)) else false) && cSet V i a
def cPre3 (V : Nat → Int32) (r i a : Nat) : Bool := (decide (i < 16) || decide (a / 12 < r)) && cSet V i a
theorem cPre_up {V : Nat → Int32} {l s d i a : Nat} (hl : l < 3) (hs : s < 12) (hd : V (3 * s + l) = nI d) (hd2 : d < cSz l) (hi : i < 20) : cPre V l (s + 1) i a = (cPre V l s i a || (decide (i = cFs l + d) && decide (a % 12 = s))) := by
  unfold cPre
  by_cases ha : a % 12 = s
  · have key : i < 16 → ∀ f, f = cFs l → f ≤ i → i < f + cSz l → cSet V i a = decide (i = f + d) := by
      intro h16 f hf hfi hif
      unfold cSet
      rcases (show l = 0 ∨ l = 1 ∨ l = 2 by omega) with rfl | rfl | rfl
      · have hf0 : f = 0 := hf
        subst hf0
        have h4 : i < 4 := by have : cSz 0 = 4 := rfl; omega
        have hd4 : d < 4 := hd2
        rw [if_pos h4, ha]
        rw [Nat.add_zero] at hd
        rw [hd, Nat.zero_add]
        exact decide_eq_decide.mpr ((nI_eq (by omega) (by omega)).trans eq_comm)
      · have hf0 : f = 4 := hf
        subst hf0
        have h4 : i < 12 := by have : cSz 1 = 8 := rfl; omega
        have hd4 : d < 8 := hd2
        rw [if_neg (by omega), if_pos h4, ha, hd]
        exact decide_eq_decide.mpr ((nI_eq (by omega) (by omega)).trans (by omega))
      · have hf0 : f = 12 := hf
        subst hf0
        have h4 : i < 16 := by have : cSz 2 = 4 := rfl; omega
        have hd4 : d < 4 := hd2
        rw [if_neg (by omega), if_neg (by omega), if_pos h4, ha, hd]
        exact decide_eq_decide.mpr ((nI_eq (by omega) (by omega)).trans (by omega))
    rcases (show l = 0 ∨ l = 1 ∨ l = 2 by omega) with rfl | rfl | rfl
    · have f0 : cFs 0 = 0 := rfl
      have hd4 : d < 4 := hd2
      rw [f0] at key ⊢
      by_cases h4 : i < 4
      · have := key (by omega) 0 rfl (by omega) (by have : cSz 0 = 4 := rfl; omega)
        rw [this]
        simp [h4, ha]
      · have e : ¬ i = 0 + d := by omega
        by_cases h12 : i < 12 <;> by_cases h16 : i < 16 <;> simp [h4, h12, h16, e] <;> omega
    · have f0 : cFs 1 = 4 := rfl
      have hd4 : d < 8 := hd2
      rw [f0] at key ⊢
      by_cases h4 : i < 4
      · have e : ¬ i = 4 + d := by omega
        simp [h4, e]
      · by_cases h12 : i < 12
        · have := key (by omega) 4 rfl (by omega) (by have : cSz 1 = 8 := rfl; omega)
          rw [this]
          simp [h4, h12, ha]
        · have e : ¬ i = 4 + d := by omega
          by_cases h16 : i < 16 <;> simp [h4, h12, h16, e]
    · have f0 : cFs 2 = 12 := rfl
      have hd4 : d < 4 := hd2
      rw [f0] at key ⊢
      by_cases h4 : i < 4
      · have e : ¬ i = 12 + d := by omega
        simp [h4, e]
      · by_cases h12 : i < 12
        · have e : ¬ i = 12 + d := by omega
          simp [h4, h12, e]
        · by_cases h16 : i < 16
          · have := key (by omega) 12 rfl (by omega) (by have : cSz 2 = 4 := rfl; omega)
            rw [this]
            simp [h4, h12, h16, ha]
          · have e : ¬ i = 12 + d := by omega
            simp [h4, h12, h16, e]
  · have e1 : (a % 12 < s + 1) ↔ (a % 12 < s) := by omega
    simp [ha, e1]
theorem cPre_nx {V : Nat → Int32} {l i a : Nat} : cPre V l 12 i a = cPre V (l + 1) 0 i a := by
  have h : a % 12 < 12 := Nat.mod_lt _ (by decide)
  have e0 : (0 < l ∨ (l = 0 ∧ a % 12 < 12)) ↔ (0 < l + 1 ∨ (l + 1 = 0 ∧ a % 12 < 0)) := by omega
  have e1 : (1 < l ∨ (l = 1 ∧ a % 12 < 12)) ↔ (1 < l + 1 ∨ (l + 1 = 1 ∧ a % 12 < 0)) := by omega
  have e2 : (2 < l ∨ (l = 2 ∧ a % 12 < 12)) ↔ (2 < l + 1 ∨ (l + 1 = 2 ∧ a % 12 < 0)) := by omega
  unfold cPre
  simp only [e0, e1, e2]
theorem cPre_3 {V : Nat → Int32} {i a : Nat} (hi : i < 20) : cPre V 3 0 i a = cPre3 V 0 i a := by
  unfold cPre cPre3
  by_cases h4 : i < 4
  · have : i < 16 := by omega
    simp [h4, this]
  · by_cases h12 : i < 12
    · have : i < 16 := by omega
      simp [h4, h12, this]
    · by_cases h16 : i < 16 <;> simp [h4, h12, h16]
theorem cPre3_up {V : Nat → Int32} {r d i a : Nat} (hp : V (60 + 10 * r) = 1) (hd : V (60 + 10 * r + 9) = nI d) (hd2 : d ≤ 3) (hi : i < 20) : cPre3 V (r + 1) i a = (cPre3 V r i a || (decide (i = 16 + d) && decide (a / 12 = r))) := by
  unfold cPre3
  by_cases ha : a / 12 = r
  · by_cases h16 : i < 16
    · have e : ¬ i = 16 + d := by omega
      simp [h16, e]
    · have : cSet V i a = decide (i = 16 + d) := by
        unfold cSet
        rw [if_neg (by omega), if_neg (by omega), if_neg (by omega), ha, hp, hd]
        rw [decide_eq_true rfl, Bool.true_and]
        exact decide_eq_decide.mpr ((nI_eq (by omega) (by omega)).trans (by omega))
      rw [this]
      simp [h16, ha]
  · have e1 : (a / 12 < r + 1) ↔ (a / 12 < r) := by omega
    simp [ha, e1]
theorem cPre3_no {V : Nat → Int32} {r i a : Nat} (hp : V (60 + 10 * r) = 0) : cPre3 V (r + 1) i a = cPre3 V r i a := by
  unfold cPre3
  by_cases ha : a / 12 = r
  · by_cases h16 : i < 16
    · simp [h16]
    · have : cSet V i a = false := by
        unfold cSet
        rw [if_neg (by omega), if_neg (by omega), if_neg (by omega), ha, hp]
        rfl
      rw [this, Bool.and_false, Bool.and_false]
  · have e1 : (a / 12 < r + 1) ↔ (a / 12 < r) := by omega
    simp [e1]
section CLS
variable {G : gG} {M : gM} {p E : Nat} {V : Nat → Int32}
set_option maxHeartbeats 1000000 in
set_option maxRecDepth 20000 in
theorem c7_sortLabels {RU : Nat → Option Nat} {L0 : Nat → Int64} (h0 : M.1 p = some (cSu p)) (h1 : M.1 (p + 1) = some (gI 36 (cLab V))) (h4 : M.1 (p + 4) = some (gR 3 5 RU)) (hE : p + 9 ≤ E) (hR : ∀ r, r < 5 → cRul M E V r (RU r)) (h8 : M.1 (p + 8) = some (gL 20 L0)) (hI : mI V) : gCon G kX7_sortLabels 0 0 0 M [.ref p] (fun M2 v => M2 = gUp M (p + 8) (gL 20 (cSets V)) ∧ v = none) := by
  refine gCon_of (by decide) (Nat.le_of_ble_eq_true rfl) ?_
  have hU0 : ∀ L, (gUp M (p + 8) (gL 20 L)).1 p = some (cSu p) := fun L => gUp_n h0 (by omega)
  have hU1 : ∀ L, (gUp M (p + 8) (gL 20 L)).1 (p + 1) = some (gI 36 (cLab V)) := fun L => gUp_n h1 (by omega)
  have hU4 : ∀ L, (gUp M (p + 8) (gL 20 L)).1 (p + 4) = some (gR 3 5 RU) := fun L => gUp_n h4 (by omega)
  have third : ∀ (k r : Nat), r + k = 6 → r ≤ 5 → ∀ L : Nat → Int64, (∀ i, i < 20 → L i = lS (cPre3 V r i) 60) →
      gJ G kX7_sortLabels 0 0 0 (gUp M (p + 8) (gL 20 L)) 82 [(1, .int (nI r)), (0, .ref p)] [] (gQ kX7_sortLabels (fun M2 v => M2 = gUp M (p + 8) (gL 20 (cSets V)) ∧ v = none)) := by
    intro k
    induction k with
    | zero => intro r h1 h2; exact absurd h1 (by omega)
    | succ k ih =>
      intro r hk hr L hL
      by_cases hr5 : r < 5
      · rcases hR r hr5 with ⟨hv, ho⟩ | ⟨hv, q, mq, ho, hEq, hq, -⟩
        · skip
          refine gJ_iload_n dX7_sortLabels_82 rfl rfl ?_
          refine gJ_iconst (v := 5) dX7_sortLabels_83 (by decide) ?_
          refine gJ_icmp_geN (tgt := 130) (a := r) (b := 5) (by first | with_reducible rfl | rfl) (by first | with_reducible rfl | rfl) (by omega) (by omega) dX7_sortLabels_84 (by decide) (fun c_ => by exfalso; omega) (fun _ => ?_)
          refine gJ_aload_n dX7_sortLabels_87 rfl rfl ?_
          refine gJ_get fX7_24 dX7_sortLabels_88 (by first | exact gUp_s | exact hU0 _ | exact hU4 _) rfl ?_
          refine gJ_iload_n dX7_sortLabels_91 rfl rfl ?_
          refine gJ_aaldN (j := r) dX7_sortLabels_92 (by first | exact gUp_s | exact hU0 _ | exact hU4 _) rfl (by first | with_reducible rfl | rfl) (by omega) (by decide) ho ?_
          refine gJ_astore_nN (lv2 := [(2, _), (1, _), (0, _)]) dX7_sortLabels_93 rfl rfl rfl ?_
          refine gJ_aload_nN dX7_sortLabels_94 rfl rfl ?_
          refine gJ_ifnullN (tgt := 124) dX7_sortLabels_95 (by decide) ?_
          refine gJ_iincN (a := r) (b := 1) (lv2 := [(1, _), (2, _), (0, _)]) dX7_sortLabels_124 rfl rfl rfl rfl ?_
          refine gJ_goto (tgt := 82) dX7_sortLabels_127 (by decide) ?_
          refine gJ_ls (ih (r + 1) (by omega) (by omega) L (fun i hi => ?_)) ⟨rfl, rfl, trivial⟩
          rw [hL i hi]
          exact lS_ext (fun a _ => (cPre3_no hv).symm)
        · obtain ⟨d, hd1, hd2⟩ := (hI.2.2.1 r hr5).2.2.2.2
          have hU5 : ∀ L, (gUp M (p + 8) (gL 20 L)).1 q = some (gO 5 [.ref mq, .int (cSgn (V (60 + 10 * r + 6))), .int (V (60 + 10 * r + 7)), .int (V (60 + 10 * r + 8)), .int (nI d)]) := fun L => by rw [← hd2]; exact gUp_n hq (by omega)
          refine gJ_iload_n dX7_sortLabels_82 rfl rfl ?_
          refine gJ_iconst (v := 5) dX7_sortLabels_83 (by decide) ?_
          refine gJ_icmp_geN (tgt := 130) (a := r) (b := 5) (by first | with_reducible rfl | rfl) (by first | with_reducible rfl | rfl) (by omega) (by omega) dX7_sortLabels_84 (by decide) (fun c_ => by exfalso; omega) (fun _ => ?_)
          refine gJ_aload_n dX7_sortLabels_87 rfl rfl ?_
          refine gJ_get fX7_24 dX7_sortLabels_88 (by first | exact gUp_s | exact hU0 _ | exact hU4 _) rfl ?_
          refine gJ_iload_n dX7_sortLabels_91 rfl rfl ?_
          refine gJ_aaldS (j := r) dX7_sortLabels_92 (by first | exact gUp_s | exact hU0 _ | exact hU4 _) rfl (by first | with_reducible rfl | rfl) (by omega) (by decide) ho ?_
          refine gJ_astore_n (lv2 := [(2, _), (1, _), (0, _)]) dX7_sortLabels_93 rfl rfl rfl ?_
          refine gJ_aload_n dX7_sortLabels_94 rfl rfl ?_
          refine gJ_ifnull dX7_sortLabels_95 ?_
          refine gJ_aload_n dX7_sortLabels_98 rfl rfl ?_
          refine gJ_get fX7_43 dX7_sortLabels_99 (by first | exact gUp_s | exact hU0 _ | exact hU4 _) rfl ?_
          refine gJ_getsN (q := 0) (by decide) gX7_56 dX7_sortLabels_102 ?_
          refine gJ_iconst (v := 3) dX7_sortLabels_105 (by decide) ?_
          refine gJ_taldN (j := 3) dX7_sortLabels_106 (q := 0) (by decide) (by first | with_reducible rfl | rfl) (by decide) (by decide) ?_
          refine gJ_aload_n dX7_sortLabels_107 rfl rfl ?_
          refine gJ_get fX7_61 dX7_sortLabels_108 (hU5 _) rfl ?_
          refine gJ_iaddN (a := 16) (b := d) dX7_sortLabels_111 (by first | with_reducible rfl | rfl) (by first | with_reducible rfl | rfl) ?_
          refine gJ_dup2 dX7_sortLabels_112 rfl rfl ?_
          refine gJ_laldN (j := (16 + d)) dX7_sortLabels_113 (by first | exact gUp_s | exact hU0 _ | exact hU4 _) (by first | with_reducible rfl | rfl) (by omega) (by decide) ?_
          refine gJ_ldc2 (v := 4095) dX7_sortLabels_114 cX7_65 ?_
          refine gJ_iload_n dX7_sortLabels_117 rfl rfl ?_
          refine gJ_bipush (v := 12) dX7_sortLabels_118 (by decide) ?_
          refine gJ_imulN (a := r) (b := 12) dX7_sortLabels_120 (by first | with_reducible rfl | rfl) (by first | with_reducible rfl | rfl) ?_
          refine gJ_lshl dX7_sortLabels_121 ?_
          rw [cRow_b r hr5]
          refine gJ_lor dX7_sortLabels_122 ?_
          refine gJ_lastN (j := (16 + d)) dX7_sortLabels_123 (by first | exact gUp_s | exact hU0 _ | exact hU4 _) (by first | with_reducible rfl | rfl) (by omega) (by decide) ?_
          try rw [gUp_up]
          refine gJ_iincN (a := r) (b := 1) (lv2 := [(1, _), (2, _), (0, _)]) dX7_sortLabels_124 rfl rfl rfl rfl ?_
          refine gJ_goto (tgt := 82) dX7_sortLabels_127 (by decide) ?_
          refine gJ_ls (ih (r + 1) (by omega) (by omega) _ (fun i hi => ?_)) ⟨rfl, rfl, trivial⟩
          by_cases hi2 : i = 16 + d
          · subst hi2; rw [pk_uLs, hL _ hi, lS_or]; refine lS_ext (fun a _ => ?_); rw [cPre3_up hv hd2 hd1 hi]; simp
          · rw [pk_uLn hi2, hL _ hi]; refine lS_ext (fun a _ => ?_); rw [cPre3_up hv hd2 hd1 hi]; simp [hi2]
      · have e5 : r = 5 := by omega
        subst e5
        have hLc : ∀ i, i < 20 → L i = cSets V i := fun i hi => by
          rw [hL i hi, cSets_at hi]
          refine lS_ext fun a ha => ?_
          rw [cPre3, decide_eq_true (by omega : a / 12 < 5), Bool.or_true, Bool.true_and]
        refine gJ_iload_n dX7_sortLabels_82 rfl rfl ?_
        refine gJ_iconst (v := 5) dX7_sortLabels_83 (by decide) ?_
        refine gJ_icmp_geN (tgt := 130) (a := 5) (b := 5) (by first | with_reducible rfl | rfl) (by first | with_reducible rfl | rfl) (by omega) (by omega) dX7_sortLabels_84 (by decide) (fun _ => ?_) (fun c_ => by exfalso; omega)
        refine gJ_sw (fun H => gW_sw (gsw_L hLc)) ?_
        refine gJ_vret dX7_sortLabels_130 rfl ?_
        exact ⟨rfl, rfl⟩
  have second : ∀ (k l : Nat), l + k = 4 → l ≤ 3 → ∀ L : Nat → Int64, (∀ i, i < 20 → L i = lS (cPre V l 0 i) 60) →
      gJ G kX7_sortLabels 0 0 0 (gUp M (p + 8) (gL 20 L)) 23 [(1, .int (nI l)), (0, .ref p)] [] (gQ kX7_sortLabels (fun M2 v => M2 = gUp M (p + 8) (gL 20 (cSets V)) ∧ v = none)) := by
    intro k
    induction k with
    | zero => intro l h1 h2; exact absurd h1 (by omega)
    | succ k ih =>
      intro l hk hl L hL
      by_cases hl3 : l < 3
      · have hfs : (gSt 0).2.2 l = nI (cFs l) := by rcases (show l = 0 ∨ l = 1 ∨ l = 2 by omega) with rfl | rfl | rfl <;> rfl
        have inner : ∀ (k2 s : Nat), s + k2 = 13 → s ≤ 12 → ∀ L : Nat → Int64, (∀ i, i < 20 → L i = lS (cPre V l s i) 60) →
            gJ G kX7_sortLabels 0 0 0 (gUp M (p + 8) (gL 20 L)) 30 [(2, .int (nI s)), (1, .int (nI l)), (0, .ref p)] [] (gQ kX7_sortLabels (fun M2 v => M2 = gUp M (p + 8) (gL 20 (cSets V)) ∧ v = none)) := by
          intro k2
          induction k2 with
          | zero => intro s h1 h2; exact absurd h1 (by omega)
          | succ k2 ih2 =>
            intro s hk2 hs L hL
            by_cases hs12 : s < 12
            · obtain ⟨b0, e0⟩ := mB_N (hI.1 (3 * s + l) (by omega)) (by split <;> decide)
              have hlab : cLab V (l * 12 + s) = nI (mN V (3 * s + l)) := by rw [cLab_at hl3 hs12]; exact e0
              have hsz : mN V (3 * s + l) < cSz l := by
                rcases (show l = 0 ∨ l = 1 ∨ l = 2 by omega) with rfl | rfl | rfl
                · rw [if_neg (by omega)] at b0; show _ < 4; omega
                · rw [if_pos (by omega)] at b0; show _ < 8; omega
                · rw [if_neg (by omega)] at b0; show _ < 4; omega
              have hlt := cFs_lt (by omega : l ≤ 3) hsz
              refine gJ_iload_n dX7_sortLabels_30 rfl rfl ?_
              refine gJ_bipush (v := 12) dX7_sortLabels_31 (by decide) ?_
              refine gJ_icmp_geN (tgt := 74) (a := s) (b := 12) (by first | with_reducible rfl | rfl) (by first | with_reducible rfl | rfl) (by omega) (by omega) dX7_sortLabels_33 (by decide) (fun c_ => by exfalso; omega) (fun _ => ?_)
              refine gJ_aload_n dX7_sortLabels_36 rfl rfl ?_
              refine gJ_get fX7_9 dX7_sortLabels_37 (by first | exact gUp_s | exact hU0 _ | exact hU1 _) rfl ?_
              refine gJ_iload_n dX7_sortLabels_40 rfl rfl ?_
              refine gJ_bipush (v := 12) dX7_sortLabels_41 (by decide) ?_
              refine gJ_imulN (a := l) (b := 12) dX7_sortLabels_43 (by first | with_reducible rfl | rfl) (by first | with_reducible rfl | rfl) ?_
              refine gJ_iload_n dX7_sortLabels_44 rfl rfl ?_
              refine gJ_iaddN (a := (l * 12)) (b := s) dX7_sortLabels_45 (by first | with_reducible rfl | rfl) (by first | with_reducible rfl | rfl) ?_
              refine gJ_ialdN (j := ((l * 12) + s)) dX7_sortLabels_46 (by first | exact gUp_s | exact hU0 _ | exact hU1 _) (by first | with_reducible rfl | rfl) (by omega) (by decide) ?_
              rw [hlab]
              refine gJ_istore_n (lv2 := [(3, _), (2, _), (1, _), (0, _)]) dX7_sortLabels_47 rfl rfl rfl ?_
              refine gJ_aload_n dX7_sortLabels_48 rfl rfl ?_
              refine gJ_get fX7_43 dX7_sortLabels_49 (by first | exact gUp_s | exact hU0 _ | exact hU1 _) rfl ?_
              refine gJ_getsN (q := 0) (by decide) gX7_56 dX7_sortLabels_52 ?_
              refine gJ_iload_n dX7_sortLabels_55 rfl rfl ?_
              refine gJ_taldN (j := l) dX7_sortLabels_56 (q := 0) (by decide) (by first | with_reducible rfl | rfl) (show l < 4 by omega) (by decide) ?_
              rw [hfs]
              refine gJ_iload_n dX7_sortLabels_57 rfl rfl ?_
              refine gJ_iaddN (a := (cFs l)) (b := (mN V (3 * s + l))) dX7_sortLabels_58 (by first | with_reducible rfl | rfl) (by first | with_reducible rfl | rfl) ?_
              refine gJ_dup2 dX7_sortLabels_59 rfl rfl ?_
              refine gJ_laldN (j := ((cFs l) + (mN V (3 * s + l)))) dX7_sortLabels_60 (by first | exact gUp_s | exact hU0 _ | exact hU1 _) (by first | with_reducible rfl | rfl) (by omega) (by decide) ?_
              refine gJ_ldc2 (v := 281543712968705) dX7_sortLabels_61 cX7_59 ?_
              refine gJ_iload_n dX7_sortLabels_64 rfl rfl ?_
              refine gJ_lshl dX7_sortLabels_65 ?_
              rw [cSer_b s hs12]
              refine gJ_lor dX7_sortLabels_66 ?_
              refine gJ_lastN (j := ((cFs l) + (mN V (3 * s + l)))) dX7_sortLabels_67 (by first | exact gUp_s | exact hU0 _ | exact hU1 _) (by first | with_reducible rfl | rfl) (by omega) (by decide) ?_
              try rw [gUp_up]
              refine gJ_iincN (a := s) (b := 1) (lv2 := [(2, _), (3, _), (1, _), (0, _)]) dX7_sortLabels_68 rfl rfl rfl rfl ?_
              refine gJ_goto (tgt := 30) dX7_sortLabels_71 (by decide) ?_
              refine gJ_ls (ih2 (s + 1) (by omega) (by omega) _ (fun i hi => ?_)) ⟨rfl, rfl, rfl, trivial⟩
              by_cases hi2 : i = cFs l + mN V (3 * s + l)
              · rw [hi2]; rw [hi2] at hi; rw [pk_uLs, hL _ hi, lS_or]; refine lS_ext (fun a _ => ?_); rw [cPre_up hl3 hs12 e0 hsz hi]; simp
              · rw [pk_uLn hi2, hL _ hi]; refine lS_ext (fun a _ => ?_); rw [cPre_up hl3 hs12 e0 hsz hi]; simp [hi2]
            · have e12 : s = 12 := by omega
              subst e12
              refine gJ_iload_n dX7_sortLabels_30 rfl rfl ?_
              refine gJ_bipush (v := 12) dX7_sortLabels_31 (by decide) ?_
              refine gJ_icmp_geN (tgt := 74) (a := 12) (b := 12) (by first | with_reducible rfl | rfl) (by first | with_reducible rfl | rfl) (by omega) (by omega) dX7_sortLabels_33 (by decide) (fun _ => ?_) (fun c_ => by exfalso; omega)
              refine gJ_iincN (a := l) (b := 1) (lv2 := [(1, _), (2, _), (0, _)]) dX7_sortLabels_74 rfl rfl rfl rfl ?_
              refine gJ_goto (tgt := 23) dX7_sortLabels_77 (by decide) ?_
              refine gJ_ls (ih (l + 1) (by omega) (by omega) L (fun i hi => ?_)) ⟨rfl, rfl, trivial⟩
              rw [hL i hi]
              exact lS_ext (fun a _ => cPre_nx)
        refine gJ_iload_n dX7_sortLabels_23 rfl rfl ?_
        refine gJ_iconst (v := 3) dX7_sortLabels_24 (by decide) ?_
        refine gJ_icmp_geN (tgt := 80) (a := l) (b := 3) (by first | with_reducible rfl | rfl) (by first | with_reducible rfl | rfl) (by omega) (by omega) dX7_sortLabels_25 (by decide) (fun c_ => by exfalso; omega) (fun _ => ?_)
        refine gJ_iconst (v := 0) dX7_sortLabels_28 (by decide) ?_
        refine gJ_istore_n (lv2 := [(2, _), (1, _), (0, _)]) dX7_sortLabels_29 rfl rfl rfl ?_
        exact gJ_ls (inner 13 0 (by omega) (by omega) L hL) ⟨rfl, rfl, rfl, trivial⟩
      · have e3 : l = 3 := by omega
        subst e3
        refine gJ_iload_n dX7_sortLabels_23 rfl rfl ?_
        refine gJ_iconst (v := 3) dX7_sortLabels_24 (by decide) ?_
        refine gJ_icmp_geN (tgt := 80) (a := 3) (b := 3) (by first | with_reducible rfl | rfl) (by first | with_reducible rfl | rfl) (by omega) (by omega) dX7_sortLabels_25 (by decide) (fun _ => ?_) (fun c_ => by exfalso; omega)
        refine gJ_iconst (v := 0) dX7_sortLabels_80 (by decide) ?_
        refine gJ_istore_n (lv2 := [(1, _), (0, _)]) dX7_sortLabels_81 rfl rfl rfl ?_
        exact gJ_ls (third 6 0 (by omega) (by omega) L (fun i hi => by rw [hL i hi]; exact lS_ext (fun a _ => cPre_3 hi))) ⟨rfl, rfl, trivial⟩
  have first : ∀ (k j : Nat), j + k = 21 → j ≤ 20 → ∀ L : Nat → Int64, (∀ i, i < j → L i = 0) →
      gJ G kX7_sortLabels 0 0 0 (gUp M (p + 8) (gL 20 L)) 2 [(1, .int (nI j)), (0, .ref p)] [] (gQ kX7_sortLabels (fun M2 v => M2 = gUp M (p + 8) (gL 20 (cSets V)) ∧ v = none)) := by
    intro k
    induction k with
    | zero => intro j h1 h2; exact absurd h1 (by omega)
    | succ k ih =>
      intro j hk hj L hL
      refine gJ_iload_n dX7_sortLabels_2 rfl rfl ?_
      refine gJ_bipush (v := 20) dX7_sortLabels_3 (by decide) ?_
      refine gJ_icmp_geN (tgt := 21) (a := j) (b := 20) (by first | with_reducible rfl | rfl) (by first | with_reducible rfl | rfl) (by omega) (by omega) dX7_sortLabels_5 (by decide) (fun c5 => ?_) (fun c5 => ?_)
      · refine gJ_iconst (v := 0) dX7_sortLabels_21 (by decide) ?_
        refine gJ_istore_n (lv2 := [(1, _), (0, _)]) dX7_sortLabels_22 rfl rfl rfl ?_
        refine gJ_ls (second 4 0 (by omega) (by omega) L (fun i hi => ?_)) ⟨rfl, rfl, trivial⟩
        rw [hL i (by omega)]
        refine (lS_0 (fun a _ => ?_)).symm
        unfold cPre
        repeat' split
        all_goals simp
      · refine gJ_aload_n dX7_sortLabels_8 rfl rfl ?_
        refine gJ_get fX7_43 dX7_sortLabels_9 (by first | exact gUp_s | exact hU0 _) rfl ?_
        refine gJ_iload_n dX7_sortLabels_12 rfl rfl ?_
        refine gJ_lconst (v := 0) dX7_sortLabels_13 (by decide) ?_
        refine gJ_lastN (j := j) dX7_sortLabels_14 (by first | exact gUp_s | exact hU0 _) (by first | with_reducible rfl | rfl) (by omega) (by decide) ?_
        try rw [gUp_up]
        refine gJ_iincN (a := j) (b := 1) (lv2 := [(1, _), (0, _)]) dX7_sortLabels_15 rfl rfl rfl rfl ?_
        refine gJ_goto (tgt := 2) dX7_sortLabels_18 (by decide) ?_
        refine gJ_ls (ih (j + 1) (by omega) (by omega) _ (fun i hi => ?_)) ⟨rfl, rfl, trivial⟩
        by_cases e : i = j
        · subst e; exact pk_uLs
        · rw [pk_uLn e]; exact hL i (by omega)
  show gJ _ _ _ _ _ _ 0 [(0, _)] [] _
  refine gJ_iconst (v := 0) dX7_sortLabels_0 (by decide) ?_
  refine gJ_istore_n (lv2 := [(1, _), (0, _)]) dX7_sortLabels_1 rfl rfl rfl ?_
  have L := first 21 0 (by omega) (by omega) L0 (fun i hi => absurd hi (by omega))
  rw [gUp_id h8] at L
  exact gJ_ls L ⟨rfl, rfl, trivial⟩
end CLS
