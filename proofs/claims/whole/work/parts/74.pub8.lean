theorem mSum_cnt {f : Nat → Int32} : ∀ n, n < 2 ^ 30 → (∀ i, i < n → f i = 0 ∨ f i = 1) → mSum f n = nI ((List.range n).countP (fun i => !decide (f i = 0)))
  | 0, _, _ => rfl
  | n + 1, hn, h => by
    rw [mSum, mSum_cnt n (by omega) (fun i hi => h i (by omega)), List.range_succ, List.countP_append]
    rcases h n (by omega) with e | e
    · rw [e]
      simp [e]
    · rw [e, show (1 : Int32) = nI 1 from rfl, nI_add]
      simp [e]
section CLS
variable {G : gG} {M : gM} {b t : Nat} {V IV : Nat → Int32} {S IS : Nat → Int64} {hi : Bool} {U : Nat → Int32}
set_option maxRecDepth 20000 in
theorem c11_parameterOrNone (h : cX M b V S IV IS hi U t) (x : Int32) : gCon G kX11_parameterOrNone 0 0 0 M [.ref b, .int x] (fun M2 v => M2 = M ∧ v = some (.int (if mIn x 0 4 = true then V (1842 + x.toNatClampNeg) else -1))) := by
  obtain ⟨h0, -, -, ⟨T, D, hT, hV, hs, ⟨X, RU, SI, IN, s0, s1, s2, s3, s4, s5, s6, s7, s8, sX, sR, sS, sN⟩, -⟩, -⟩ := h
  have e5 : ((5 : Int32) ≤ x) ↔ ¬ x ≤ 4 := by
    rw [Int32.not_le, Int32.le_iff_toInt_le, Int32.lt_iff_toInt_lt]
    have e1 : (4 : Int32).toInt = 4 := by decide
    have e2 : (5 : Int32).toInt = 5 := by decide
    omega
  refine gCon_of (by decide) (Nat.le_of_ble_eq_true rfl) ?_
  show gJ _ _ _ _ _ _ 0 [(0, _), (1, _)] [] _
  refine gJ_iload_n dX11_parameterOrNone_0 rfl rfl ?_
  refine gJ_if_lt (tgt := 24) dX11_parameterOrNone_1 (by decide) (fun c1 => ?_) (fun c1 => ?_)
  · refine gJ_iconst (v := -1) dX11_parameterOrNone_24 (by decide) ?_
    refine gJ_iret dX11_parameterOrNone_25 rfl ?_
    refine ⟨rfl, ?_⟩
    rw [if_neg (by rw [mIn, decide_eq_false (Int32.not_le.mpr c1), Bool.false_and]; exact Bool.false_ne_true)]
  · refine gJ_iload_n dX11_parameterOrNone_4 rfl rfl ?_
    refine gJ_iconst (v := 5) dX11_parameterOrNone_5 (by decide) ?_
    refine gJ_icmp_ge (tgt := 24) dX11_parameterOrNone_6 (by decide) (fun c6 => ?_) (fun c6 => ?_)
    · refine gJ_iconst (v := -1) dX11_parameterOrNone_24 (by decide) ?_
      refine gJ_iret dX11_parameterOrNone_25 rfl ?_
      refine ⟨rfl, ?_⟩
      rw [if_neg (by rw [mIn, decide_eq_false (e5.mp c6), Bool.and_false]; exact Bool.false_ne_true)]
    · have hx : mIn x 0 4 = true := (by rw [mIn, decide_eq_true (Int32.not_lt.mp c1), decide_eq_true (Classical.not_not.mp (fun h => c6 (e5.mpr h)))]; rfl)
      obtain ⟨z, hz1, hz0, hz2, hz3⟩ := mIn_nat (lo := 0) (hi := 4) hx (by decide)
      subst hz2
      refine gJ_aload_n dX11_parameterOrNone_9 rfl rfl ?_
      refine gJ_get fX11_19 dX11_parameterOrNone_10 (by first | with_reducible assumption | with_reducible exact gUp_s | with_reducible exact gUp_n (by with_reducible assumption) (by omega) | exact gUp_n (by assumption) (by omega) | exact gUp_s | assumption) rfl ?_
      refine gJ_get fX11_37 dX11_parameterOrNone_13 (by first | with_reducible assumption | with_reducible exact gUp_s | with_reducible exact gUp_n (by with_reducible assumption) (by omega) | exact gUp_n (by assumption) (by omega) | exact gUp_s | assumption) rfl ?_
      refine gJ_get fX11_142 dX11_parameterOrNone_16 (by first | with_reducible assumption | with_reducible exact gUp_s | with_reducible exact gUp_n (by with_reducible assumption) (by omega) | exact gUp_n (by assumption) (by omega) | exact gUp_s | assumption) rfl ?_
      refine gJ_iload_n dX11_parameterOrNone_19 rfl rfl ?_
      refine gJ_ialdN (j := z) dX11_parameterOrNone_20 (by first | with_reducible assumption | with_reducible exact gUp_s | with_reducible exact gUp_n (by with_reducible assumption) (by omega) | exact gUp_n (by assumption) (by omega) | exact gUp_s | assumption) (by first | with_reducible rfl | rfl) (by omega) (by decide) ?_
      refine gJ_goto (tgt := 25) dX11_parameterOrNone_21 (by decide) ?_
      refine gJ_iret dX11_parameterOrNone_25 rfl ?_
      refine ⟨rfl, ?_⟩
      rw [if_pos hx, hz3, cPar_at (by omega)]
set_option maxHeartbeats 1000000 in
set_option maxRecDepth 20000 in
theorem c11_count (h : cX M b V S IV IS hi U t) (hI : mI V) (hJ : mJ V) (x : Int32) : gCon G kX11_count 4 0 0 M [.ref b, .int x] (fun M2 v => M2 = M ∧ v = some (.int (aCount V (nI t) x))) := by
  have hP := fun x => c11_parameterOrNone (G := G) h x
  obtain ⟨h0, ⟨ts, ht⟩, -, ⟨T, D, hT, hR⟩, -⟩ := h
  have hAct := c9_active (G := G) hR (by omega) hI hJ
  have hUse := c9_countSilencesInUse (G := G) hR hI hJ
  obtain ⟨hV, hs, ⟨X, RU, SI, IN, s0, s1, s2, s3, s4, s5, s6, s7, s8, sX, sR, sS, sN⟩, hA, hG, ⟨n, L, hn, hv, l0, l1, l2⟩⟩ := hR
  have hOp := c2_countOpen (G := G) hG
  obtain ⟨og, hog⟩ : ∃ o, M.1 (b + 3 + 14) = some (gO 1 o) := by obtain ⟨_, _, q0, -⟩ := hG; exact ⟨_, q0⟩
  have hGr := c7_greatestSeverity (G := G) s0 s8 hI (mActs V) (fun a ha => by
    rw [mActs, lS_b, Bool.and_eq_true] at ha
    have ha1 : a < 60 := of_decide_eq_true ha.1
    refine ⟨ha1, hJ a ha1 ?_⟩
    have h2 := ha.2
    rw [mAct, Bool.and_eq_true] at h2
    rw [of_decide_eq_true h2.1]
    decide)
  have hVa := c7_countValues (G := G) s0 s3
  have b48 : ∀ s, s < 12 → V (48 + s) = 0 ∨ V (48 + s) = 1 := by
    intro s hs
    obtain ⟨z, hz1, hz2⟩ := hI.2.1 s hs
    rw [hz2]
    rcases (show z = 0 ∨ z = 1 by omega) with rfl | rfl
    · exact Or.inl rfl
    · exact Or.inr rfl
  refine gCon_of (by decide) (Nat.le_of_ble_eq_true rfl) ?_
  have sw : gJ G kX11_count 4 0 0 M 1 [(0, .ref b), (1, .int x)] [.int x] (gQ kX11_count (fun M2 v => M2 = M ∧ v = some (.int (aCount V (nI t) x)))) := by
    cases hx : mIn x 0 9 with
    | false =>
      have hA : aCount V (nI t) x = if mIn (x - 10) 0 4 = true then V (1842 + (x - 10).toNatClampNeg) else -1 := by
        cases hx2 : mIn x 0 14 with
        | true =>
          obtain ⟨z, hz1, hz0, rfl, hz3⟩ := mIn_nat (lo := 0) (hi := 14) hx2 (by decide)
          have hz10 : ¬ z < 10 := by
            intro hlt
            rw [mIn, decide_eq_true (nI_pos' (by omega) : (0 : Int32) ≤ nI z), decide_eq_true (show nI z ≤ (9 : Int32) from (nI_leI (b := 9) (by omega) (by decide)).mpr (by omega))] at hx
            cases hx
          have e1 : nI z - 10 = nI (z - 10) := pk_sub (b := 10) (by omega)
          have e2 : mIn (nI (z - 10)) 0 4 = true := by
            rw [mIn, decide_eq_true (nI_pos' (by omega) : (0 : Int32) ≤ nI (z - 10)), decide_eq_true (show nI (z - 10) ≤ (4 : Int32) from (nI_leI (b := 4) (by omega) (by decide)).mpr (by omega))]
            rfl
          rw [aCount, if_pos hx2, hz3, if_neg hz10, e1, if_pos e2, nI_clamp (by omega), show 1842 + z - 10 = 1842 + (z - 10) by omega]
        | false =>
          rw [aCount, if_neg (by rw [hx2]; exact Bool.false_ne_true), if_neg (fun h2 => ?_)]
          obtain ⟨q, hq1, hq0, hq2, hq3⟩ := mIn_nat (lo := 0) (hi := 4) h2 (by decide)
          have e3 : x = nI (q + 10) := by
            rw [show nI (q + 10) = nI q + 10 from (nI_add q 10).symm, ← hq2, Int32.sub_add_cancel]
          rw [e3, mIn, decide_eq_true (nI_pos' (by omega) : (0 : Int32) ≤ nI (q + 10)), decide_eq_true (show nI (q + 10) ≤ (14 : Int32) from (nI_leI (b := 14) (by omega) (by decide)).mpr (by omega))] at hx2
          cases hx2
      rw [hA]
      refine gJ_tableOut (tgt := 173) dX11_count_1 (mIn_out (n := 9) (by decide) hx) (by decide) ?_
      refine gJ_aload_n dX11_count_173 rfl rfl ?_
      refine gJ_iload_n dX11_count_174 rfl rfl ?_
      refine gJ_bipush (v := 10) dX11_count_175 (by decide) ?_
      refine gJ_isub dX11_count_177 ?_
      refine gJ_callV (As := [_]) b_X11_parameterOrNone lX11_298 i_X11_parameterOrNone s_X11_parameterOrNone dX11_count_178 (hP (x - 10)) (by first | with_reducible assumption | with_reducible exact gUp_s | with_reducible exact gUp_n (by with_reducible assumption) (by omega) | exact gUp_n (by assumption) (by omega) | exact gUp_s | assumption) rfl rfl (Nat.le_of_ble_eq_true rfl) rfl (by decide) (fun M178 v_ h178 => ?_)
      obtain ⟨e_, rfl⟩ := h178
      replace e_ := e_.symm
      subst e_
      refine gJ_iret dX11_count_181 rfl ?_
      exact ⟨rfl, rfl⟩
    | true =>
      obtain ⟨z, hz1, hz0, rfl, hz3⟩ := mIn_nat (lo := 0) (hi := 9) hx (by decide)
      have hx2 : mIn (nI z) 0 14 = true := by
        rw [mIn, decide_eq_true (nI_pos' (by omega) : (0 : Int32) ≤ nI z), decide_eq_true (show nI z ≤ (14 : Int32) from (nI_leI (b := 14) (by omega) (by decide)).mpr (by omega))]
        rfl
      have hA : aCount V (nI t) (nI z) = aCountN V (nI t) z := by rw [aCount, if_pos hx2, hz3, if_pos (by omega)]
      rw [hA]
      rcases (show z = 0 ∨ z = 1 ∨ z = 2 ∨ z = 3 ∨ z = 4 ∨ z = 5 ∨ z = 6 ∨ z = 7 ∨ z = 8 ∨ z = 9 by omega) with rfl | rfl | rfl | rfl | rfl | rfl | rfl | rfl | rfl | rfl
      · refine gJ_tableIn (off := 55) (tgt := 56) dX11_count_1 (by decide) (by decide) (by decide) (by decide) ?_
        refine gJ_aload_n dX11_count_56 rfl rfl ?_
        refine gJ_get fX11_19 dX11_count_57 (by first | with_reducible assumption | with_reducible exact gUp_s | with_reducible exact gUp_n (by with_reducible assumption) (by omega) | exact gUp_n (by assumption) (by omega) | exact gUp_s | assumption) rfl ?_
        refine gJ_get fX11_157 dX11_count_60 (by first | with_reducible assumption | with_reducible exact gUp_s | with_reducible exact gUp_n (by with_reducible assumption) (by omega) | exact gUp_n (by assumption) (by omega) | exact gUp_s | assumption) rfl ?_
        refine gJ_iret dX11_count_63 rfl ?_
        exact ⟨rfl, rfl⟩
      · refine gJ_tableIn (off := 63) (tgt := 64) dX11_count_1 (by decide) (by decide) (by decide) (by decide) ?_
        refine gJ_aload_n dX11_count_64 rfl rfl ?_
        refine gJ_get fX11_19 dX11_count_65 (by first | with_reducible assumption | with_reducible exact gUp_s | with_reducible exact gUp_n (by with_reducible assumption) (by omega) | exact gUp_n (by assumption) (by omega) | exact gUp_s | assumption) rfl ?_
        refine gJ_get fX11_37 dX11_count_68 (by first | with_reducible assumption | with_reducible exact gUp_s | with_reducible exact gUp_n (by with_reducible assumption) (by omega) | exact gUp_n (by assumption) (by omega) | exact gUp_s | assumption) rfl ?_
        refine gJ_get fX11_165 dX11_count_71 (by first | with_reducible assumption | with_reducible exact gUp_s | with_reducible exact gUp_n (by with_reducible assumption) (by omega) | exact gUp_n (by assumption) (by omega) | exact gUp_s | assumption) rfl ?_
        refine gJ_callS (As := [_]) b_X11_countEntries lX11_133 i_X11_countEntries dX11_count_74 (c11_countEntries 0 (by decide) (n := 5) (by omega) s4) rfl (Nat.le_of_ble_eq_true rfl) rfl (by decide) (fun M74 v_ h74 => ?_)
        obtain ⟨e_, rfl⟩ := h74
        replace e_ := e_.symm
        subst e_
        refine gJ_iret dX11_count_77 rfl ?_
        refine ⟨rfl, ?_⟩
        exact congrArg (fun z => some (Value.int (nI z))) (cSlots_many (kind := 0) (fun k hk => cOneR sR k hk))
      · refine gJ_tableIn (off := 77) (tgt := 78) dX11_count_1 (by decide) (by decide) (by decide) (by decide) ?_
        refine gJ_aload_n dX11_count_78 rfl rfl ?_
        refine gJ_get fX11_19 dX11_count_79 (by first | with_reducible assumption | with_reducible exact gUp_s | with_reducible exact gUp_n (by with_reducible assumption) (by omega) | exact gUp_n (by assumption) (by omega) | exact gUp_s | assumption) rfl ?_
        refine gJ_get fX11_37 dX11_count_82 (by first | with_reducible assumption | with_reducible exact gUp_s | with_reducible exact gUp_n (by with_reducible assumption) (by omega) | exact gUp_n (by assumption) (by omega) | exact gUp_s | assumption) rfl ?_
        refine gJ_get fX11_94 dX11_count_85 (by first | with_reducible assumption | with_reducible exact gUp_s | with_reducible exact gUp_n (by with_reducible assumption) (by omega) | exact gUp_n (by assumption) (by omega) | exact gUp_s | assumption) rfl ?_
        refine gJ_callS (As := [_]) b_X11_countEntries lX11_133 i_X11_countEntries dX11_count_88 (c11_countEntries 1 (by decide) (n := 6) (by omega) s5) rfl (Nat.le_of_ble_eq_true rfl) rfl (by decide) (fun M88 v_ h88 => ?_)
        obtain ⟨e_, rfl⟩ := h88
        replace e_ := e_.symm
        subst e_
        refine gJ_iret dX11_count_91 rfl ?_
        refine ⟨rfl, ?_⟩
        exact congrArg (fun z => some (Value.int (nI z))) (cSlots_many (kind := 1) (fun k hk => cOneS sS k hk))
      · refine gJ_tableIn (off := 91) (tgt := 92) dX11_count_1 (by decide) (by decide) (by decide) (by decide) ?_
        refine gJ_aload_n dX11_count_92 rfl rfl ?_
        refine gJ_get fX11_19 dX11_count_93 (by first | with_reducible assumption | with_reducible exact gUp_s | with_reducible exact gUp_n (by with_reducible assumption) (by omega) | exact gUp_n (by assumption) (by omega) | exact gUp_s | assumption) rfl ?_
        refine gJ_get fX11_37 dX11_count_96 (by first | with_reducible assumption | with_reducible exact gUp_s | with_reducible exact gUp_n (by with_reducible assumption) (by omega) | exact gUp_n (by assumption) (by omega) | exact gUp_s | assumption) rfl ?_
        refine gJ_get fX11_102 dX11_count_99 (by first | with_reducible assumption | with_reducible exact gUp_s | with_reducible exact gUp_n (by with_reducible assumption) (by omega) | exact gUp_n (by assumption) (by omega) | exact gUp_s | assumption) rfl ?_
        refine gJ_callS (As := [_]) b_X11_countEntries lX11_133 i_X11_countEntries dX11_count_102 (c11_countEntries 2 (by decide) (n := 4) (by omega) s6) rfl (Nat.le_of_ble_eq_true rfl) rfl (by decide) (fun M102 v_ h102 => ?_)
        obtain ⟨e_, rfl⟩ := h102
        replace e_ := e_.symm
        subst e_
        refine gJ_iret dX11_count_105 rfl ?_
        refine ⟨rfl, ?_⟩
        exact congrArg (fun z => some (Value.int (nI z))) (cSlots_many (kind := 2) (fun k hk => cOneI sN k hk))
      · refine gJ_tableIn (off := 105) (tgt := 106) dX11_count_1 (by decide) (by decide) (by decide) (by decide) ?_
        refine gJ_aload_n dX11_count_106 rfl rfl ?_
        refine gJ_get fX11_19 dX11_count_107 (by first | with_reducible assumption | with_reducible exact gUp_s | with_reducible exact gUp_n (by with_reducible assumption) (by omega) | exact gUp_n (by assumption) (by omega) | exact gUp_s | assumption) rfl ?_
        refine gJ_get fX11_37 dX11_count_110 (by first | with_reducible assumption | with_reducible exact gUp_s | with_reducible exact gUp_n (by with_reducible assumption) (by omega) | exact gUp_n (by assumption) (by omega) | exact gUp_s | assumption) rfl ?_
        refine gJ_callV (As := []) b_X7_countValues lX11_283 i_X7_countValues s_X7_countValues dX11_count_113 (hVa) (by first | with_reducible assumption | with_reducible exact gUp_s | with_reducible exact gUp_n (by with_reducible assumption) (by omega) | exact gUp_n (by assumption) (by omega) | exact gUp_s | assumption) rfl rfl (Nat.le_of_ble_eq_true rfl) rfl (by decide) (fun M113 v_ h113 => ?_)
        obtain ⟨e_, rfl⟩ := h113
        replace e_ := e_.symm
        subst e_
        refine gJ_iret dX11_count_116 rfl ?_
        refine ⟨rfl, ?_⟩
        show _ = some (Value.int (mSum (fun s => V (48 + s)) 12))
        rw [mSum_cnt 12 (by decide) b48]
      · refine gJ_tableIn (off := 116) (tgt := 117) dX11_count_1 (by decide) (by decide) (by decide) (by decide) ?_
        refine gJ_aload_n dX11_count_117 rfl rfl ?_
        refine gJ_get fX11_19 dX11_count_118 (by first | with_reducible assumption | with_reducible exact gUp_s | with_reducible exact gUp_n (by with_reducible assumption) (by omega) | exact gUp_n (by assumption) (by omega) | exact gUp_s | assumption) rfl ?_
        refine gJ_get fX11_261 dX11_count_121 (by first | with_reducible assumption | with_reducible exact gUp_s | with_reducible exact gUp_n (by with_reducible assumption) (by omega) | exact gUp_n (by assumption) (by omega) | exact gUp_s | assumption) rfl ?_
        refine gJ_get fX11_286 dX11_count_124 (by first | with_reducible assumption | with_reducible exact gUp_s | with_reducible exact gUp_n (by with_reducible assumption) (by omega) | exact gUp_n (by assumption) (by omega) | exact gUp_s | assumption) rfl ?_
        refine gJ_iret dX11_count_127 rfl ?_
        refine ⟨rfl, ?_⟩
        show _ = some (Value.int (V 1848))
        rw [hv]
      · refine gJ_tableIn (off := 127) (tgt := 128) dX11_count_1 (by decide) (by decide) (by decide) (by decide) ?_
        refine gJ_aload_n dX11_count_128 rfl rfl ?_
        refine gJ_get fX11_19 dX11_count_129 (by first | with_reducible assumption | with_reducible exact gUp_s | with_reducible exact gUp_n (by with_reducible assumption) (by omega) | exact gUp_n (by assumption) (by omega) | exact gUp_s | assumption) rfl ?_
        refine gJ_get fX11_145 dX11_count_132 (by first | with_reducible assumption | with_reducible exact gUp_s | with_reducible exact gUp_n (by with_reducible assumption) (by omega) | exact gUp_n (by assumption) (by omega) | exact gUp_s | assumption) rfl ?_
        refine gJ_callV (As := []) b_X2_countOpen lX11_289 i_X2_countOpen s_X2_countOpen dX11_count_135 (hOp) hog rfl rfl (Nat.le_of_ble_eq_true rfl) rfl (by decide) (fun M135 v_ h135 => ?_)
        obtain ⟨e_, rfl⟩ := h135
        replace e_ := e_.symm
        subst e_
        refine gJ_iret dX11_count_138 rfl ?_
        refine ⟨rfl, ?_⟩
        show _ = some (Value.int (mSum (fun s => V (1586 + 2 * s)) 128))
        rw [mSum_cnt 128 (by decide) (fun k hk => cOp hI hk)]
      · refine gJ_tableIn (off := 138) (tgt := 139) dX11_count_1 (by decide) (by decide) (by decide) (by decide) ?_
        refine gJ_aload_n dX11_count_139 rfl rfl ?_
        refine gJ_get fX11_19 dX11_count_140 (by first | with_reducible assumption | with_reducible exact gUp_s | with_reducible exact gUp_n (by with_reducible assumption) (by omega) | exact gUp_n (by assumption) (by omega) | exact gUp_s | assumption) rfl ?_
        refine gJ_get fX11_37 dX11_count_143 (by first | with_reducible assumption | with_reducible exact gUp_s | with_reducible exact gUp_n (by with_reducible assumption) (by omega) | exact gUp_n (by assumption) (by omega) | exact gUp_s | assumption) rfl ?_
        refine gJ_aload_n dX11_count_146 rfl rfl ?_
        refine gJ_get fX11_19 dX11_count_147 (by first | with_reducible assumption | with_reducible exact gUp_s | with_reducible exact gUp_n (by with_reducible assumption) (by omega) | exact gUp_n (by assumption) (by omega) | exact gUp_s | assumption) rfl ?_
        refine gJ_callV (As := []) b_X9_active lX11_193 i_X9_active s_X9_active dX11_count_150 (hAct) (by first | with_reducible assumption | with_reducible exact gUp_s | with_reducible exact gUp_n (by with_reducible assumption) (by omega) | exact gUp_n (by assumption) (by omega) | exact gUp_s | assumption) rfl rfl (Nat.le_of_ble_eq_true rfl) rfl (by decide) (fun M150 v_ h150 => ?_)
        obtain ⟨e_, rfl⟩ := h150
        replace e_ := e_.symm
        subst e_
        refine gJ_callV (As := [_]) b_X7_greatestSeverity lX11_292 i_X7_greatestSeverity s_X7_greatestSeverity dX11_count_153 (hGr) (by first | with_reducible assumption | with_reducible exact gUp_s | with_reducible exact gUp_n (by with_reducible assumption) (by omega) | exact gUp_n (by assumption) (by omega) | exact gUp_s | assumption) rfl rfl (Nat.le_of_ble_eq_true rfl) rfl (by decide) (fun M153 v_ h153 => ?_)
        obtain ⟨e_, rfl⟩ := h153
        replace e_ := e_.symm
        subst e_
        refine gJ_iret dX11_count_156 rfl ?_
        exact ⟨rfl, rfl⟩
      · refine gJ_tableIn (off := 156) (tgt := 157) dX11_count_1 (by decide) (by decide) (by decide) (by decide) ?_
        refine gJ_aload_n dX11_count_157 rfl rfl ?_
        refine gJ_get fX11_19 dX11_count_158 (by first | with_reducible assumption | with_reducible exact gUp_s | with_reducible exact gUp_n (by with_reducible assumption) (by omega) | exact gUp_n (by assumption) (by omega) | exact gUp_s | assumption) rfl ?_
        refine gJ_callV (As := []) b_X9_countSilencesInUse lX11_295 i_X9_countSilencesInUse s_X9_countSilencesInUse dX11_count_161 (hUse) (by first | with_reducible assumption | with_reducible exact gUp_s | with_reducible exact gUp_n (by with_reducible assumption) (by omega) | exact gUp_n (by assumption) (by omega) | exact gUp_s | assumption) rfl rfl (Nat.le_of_ble_eq_true rfl) rfl (by decide) (fun M161 v_ h161 => ?_)
        obtain ⟨e_, rfl⟩ := h161
        replace e_ := e_.symm
        subst e_
        refine gJ_iret dX11_count_164 rfl ?_
        exact ⟨rfl, rfl⟩
      · refine gJ_tableIn (off := 164) (tgt := 165) dX11_count_1 (by decide) (by decide) (by decide) (by decide) ?_
        refine gJ_aload_n dX11_count_165 rfl rfl ?_
        refine gJ_get fX11_12 dX11_count_166 (by first | with_reducible assumption | with_reducible exact gUp_s | with_reducible exact gUp_n (by with_reducible assumption) (by omega) | exact gUp_n (by assumption) (by omega) | exact gUp_s | assumption) rfl ?_
        refine gJ_get fX11_68 dX11_count_169 (by first | with_reducible assumption | with_reducible exact gUp_s | with_reducible exact gUp_n (by with_reducible assumption) (by omega) | exact gUp_n (by assumption) (by omega) | exact gUp_s | assumption) rfl ?_
        refine gJ_iret dX11_count_172 rfl ?_
        exact ⟨rfl, rfl⟩
  show gJ _ _ _ _ _ _ 0 [(0, _), (1, _)] [] _
  refine gJ_iload_n dX11_count_0 rfl rfl ?_
  exact sw
end CLS
