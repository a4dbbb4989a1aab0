def aParB (z : Nat) (x : Int32) : Bool := if z = 0 then mIn x 1 60 else if z < 3 then mIn x 1 999 else if z = 3 then mIn x 2 20 else mIn x 0 7
def mClr (V : Nat → Int32) : Nat → Int32 := fun i => if 1586 ≤ i ∧ i < 1842 ∧ i % 2 = 0 then 0 else V i
def aParT (p : mT) (z : Nat) (x : Int32) : mT := if z = 4 ∧ ¬ p.1 (1842 + z) = x then (mClr (upd p.1 (1842 + z) x), fun _ => 0) else (upd p.1 (1842 + z) x, p.2)
def aPar (p : mT) (w x : Int32) : Int32 × mT := if mIn w 0 4 = true then (if aParB w.toNatClampNeg x = true then (p.1 (1842 + w.toNatClampNeg), aParT p w.toNatClampNeg x) else (-2, p)) else (-1, p)
section MODEL
variable {G : gG} {M : gM} {m : Nat} {hi tn at_ fa : Int32} {V K IV : Nat → Int32} {S KS IS : Nat → Int64}
set_option maxRecDepth 20000 in
theorem c12_parameter (hm : M.1 m = some (mO m hi tn at_ fa)) (hV : M.1 (m + 1) = some (gI 1999 V)) (hS : M.1 (m + 4) = some (gL 128 S)) (w x : Int32) : gCon G kX12_parameter 1 0 0 M [.ref m, .int w, .int x] (fun M2 v => M2 = mUp m M (aPar (V, S) w x).2.1 (aPar (V, S) w x).2.2 ∧ v = some (.int (aPar (V, S) w x).1)) := by
  refine gCon_of (by decide) (Nat.le_of_ble_eq_true rfl) ?_
  have loop : ∀ (W0 : Nat → Int32) (was : Int32), ¬ was = x → ∀ (q j : Nat), j + q = 129 → j ≤ 128 → ∀ (W : Nat → Int32) (T : Nat → Int64), (∀ i, W i = if 1586 ≤ i ∧ i < 1586 + 2 * j ∧ i % 2 = 0 then 0 else W0 i) → (∀ i, i < j → T i = 0) →
      gJ G kX12_parameter 1 0 0 (mUp m M W T) 103 [(4, .int (nI j)), (3, .int was), (0, .ref m), (1, .int (nI 4)), (2, .int x)] [] (gQ kX12_parameter (fun M2 v => M2 = mUp m M (mClr W0) (fun _ => 0) ∧ v = some (.int was))) := by
    intro W0 was hne q
    induction q with
    | zero => intro j h1 h2; exact absurd h1 (by omega)
    | succ q ih =>
      intro j hq hj W T hW hT
      refine gJ_iload dX12_parameter_103 rfl ?_
      refine gJ_sipush (v := 128) dX12_parameter_105 (by decide) ?_
      refine gJ_icmp_geN (tgt := 149) (a := j) (b := 128) (by first | with_reducible rfl | rfl) (by first | with_reducible rfl | rfl) (by omega) (by omega) dX12_parameter_108 (by decide) (fun c108 => ?_) (fun c108 => ?_)
      · have e1 : j = 128 := by omega
        subst e1
        have hWc : W = mClr W0 := by funext i; rw [hW, mClr]
        rw [hWc]
        refine gJ_sw (fun H => gW_sw (gsw_L (fun i hi => hT i (by omega)))) ?_
        refine gJ_iload_n dX12_parameter_149 rfl rfl ?_
        refine gJ_iret dX12_parameter_150 rfl ?_
        exact ⟨rfl, rfl⟩
      · refine gJ_iload_n dX12_parameter_111 rfl rfl ?_
        refine gJ_iconst (v := 4) dX12_parameter_112 (by decide) ?_
        refine gJ_icmp_neN (tgt := 149) (a := 4) (b := 4) (by first | with_reducible rfl | rfl) (by first | with_reducible rfl | rfl) (by omega) (by omega) dX12_parameter_113 (by decide) (fun c_ => by exfalso; omega) (fun _ => ?_)
        refine gJ_iload_n dX12_parameter_116 rfl rfl ?_
        refine gJ_iload_n dX12_parameter_117 rfl rfl ?_
        refine gJ_icmp_eq (tgt := 149) dX12_parameter_118 (by decide) (fun c_ => by exfalso; exact absurd c_ hne) (fun _ => ?_)
        refine gJ_aload_n dX12_parameter_121 rfl rfl ?_
        refine gJ_get fX12_9 dX12_parameter_122 (mUp_n hm (by omega) (by omega)) rfl ?_
        refine gJ_sipush (v := 1586) dX12_parameter_125 (by decide) ?_
        refine gJ_iconst (v := 2) dX12_parameter_128 (by decide) ?_
        refine gJ_iload dX12_parameter_129 rfl ?_
        refine gJ_imulN (a := 2) (b := j) dX12_parameter_131 (by first | with_reducible rfl | rfl) (by first | with_reducible rfl | rfl) ?_
        refine gJ_iaddN (a := 1586) (b := (2 * j)) dX12_parameter_132 (by first | with_reducible rfl | rfl) (by first | with_reducible rfl | rfl) ?_
        refine gJ_iconst (v := 0) dX12_parameter_133 (by decide) ?_
        refine gJ_iastN (j := (1586 + (2 * j))) dX12_parameter_134 mUp_V (by first | with_reducible rfl | rfl) (by omega) (by decide) ?_
        try rw [gUp_up]
        refine gJ_aload_n dX12_parameter_135 rfl rfl ?_
        refine gJ_get fX12_19 dX12_parameter_136 (gUp_n (mUp_n hm (by omega) (by omega)) (by omega)) rfl ?_
        refine gJ_iload dX12_parameter_139 rfl ?_
        refine gJ_lconst (v := 0) dX12_parameter_141 (by decide) ?_
        refine gJ_lastN (j := j) dX12_parameter_142 (gUp_n mUp_S (by omega)) (by first | with_reducible rfl | rfl) (by omega) (by decide) ?_
        try rw [gUp_up]
        refine gJ_iincN (a := j) (b := 1) (lv2 := [(4, _), (3, _), (0, _), (1, _), (2, _)]) dX12_parameter_143 rfl rfl rfl rfl ?_
        refine gJ_goto (tgt := 103) dX12_parameter_146 (by decide) ?_
        show gJ _ _ _ _ _ (mUp m (mUp m M W T) _ _) 103 _ _ _
        rw [mUp_up]
        refine gJ_ls (ih (j + 1) (by omega) (by omega) _ _ ?_ ?_) ⟨rfl, rfl, rfl, rfl, rfl, trivial⟩
        · intro i; simp only [upd]; rw [hW]; grind
        · intro i hi; by_cases e1 : i = j
          · subst e1; exact pk_uLs
          · rw [pk_uLn e1]; exact hT i (by omega)
  have L4 : V (1842 + 4) = x → gJ G kX12_parameter 1 0 0 (gUp M (m + 1) (gI 1999 (upd V (1842 + 4) x))) 103 [(4, .int (nI 0)), (3, .int (V (1842 + 4))), (0, .ref m), (1, .int (nI 4)), (2, .int x)] [] (gQ kX12_parameter (fun M2 v => M2 = mUp m M (upd V (1842 + 4) x) S ∧ v = some (.int (V (1842 + 4))))) := by
    intro he
    refine gJ_iload dX12_parameter_103 rfl ?_
    refine gJ_sipush (v := 128) dX12_parameter_105 (by decide) ?_
    refine gJ_icmp_geN (tgt := 149) (a := 0) (b := 128) (by first | with_reducible rfl | rfl) (by first | with_reducible rfl | rfl) (by omega) (by omega) dX12_parameter_108 (by decide) (fun c_ => by exfalso; omega) (fun _ => ?_)
    refine gJ_iload_n dX12_parameter_111 rfl rfl ?_
    refine gJ_iconst (v := 4) dX12_parameter_112 (by decide) ?_
    refine gJ_icmp_neN (tgt := 149) (a := 4) (b := 4) (by first | with_reducible rfl | rfl) (by first | with_reducible rfl | rfl) (by omega) (by omega) dX12_parameter_113 (by decide) (fun c_ => by exfalso; omega) (fun _ => ?_)
    refine gJ_iload_n dX12_parameter_116 rfl rfl ?_
    refine gJ_iload_n dX12_parameter_117 rfl rfl ?_
    refine gJ_icmp_eq (tgt := 149) dX12_parameter_118 (by decide) (fun _ => ?_) (fun c_ => by exfalso; exact c_ he)
    refine gJ_iload_n dX12_parameter_149 rfl rfl ?_
    refine gJ_iret dX12_parameter_150 rfl ?_
    exact ⟨mUp_v hS, rfl⟩
  have main : ∀ z, z < 5 → gJ G kX12_parameter 1 0 0 M 11 [(0, .ref m), (1, .int (nI z)), (2, .int x)] [] (gQ kX12_parameter (fun M2 v => M2 = mUp m M (aPar (V, S) (nI z) x).2.1 (aPar (V, S) (nI z) x).2.2 ∧ v = some (.int (aPar (V, S) (nI z) x).1))) := by
    intro z hz
    rcases (show z = 0 ∨ z = 1 ∨ z = 2 ∨ z = 3 ∨ z = 4 by omega) with rfl | rfl | rfl | rfl | rfl
    · skip
      refine gJ_iload_n dX12_parameter_11 rfl rfl ?_
      refine gJ_if_neN (tgt := 28) (a := 0) (by first | with_reducible rfl | rfl) (by omega) dX12_parameter_12 (by decide) (fun c_ => by exfalso; omega) (fun _ => ?_)
      refine gJ_iload_n dX12_parameter_15 rfl rfl ?_
      refine gJ_iconst (v := 1) dX12_parameter_16 (by decide) ?_
      refine gJ_bipush (v := 60) dX12_parameter_17 (by decide) ?_
      refine gJ_callS (As := [_, _, _]) b_X12_isIn lX12_35 i_X12_isIn dX12_parameter_19 (c12_isIn _ _ _) rfl (Nat.le_of_ble_eq_true rfl) rfl (by decide) (fun M19 v_ h19 => ?_)
      obtain ⟨e_, rfl⟩ := h19
      replace e_ := e_.symm
      subst e_
      refine gJ_if_neB (tgt := 78) dX12_parameter_22 (by decide) (fun c22 => ?_) (fun c22 => ?_)
      · refine gJ_aload_n dX12_parameter_78 rfl rfl ?_
        refine gJ_get fX12_9 dX12_parameter_79 (by first | with_reducible assumption | with_reducible exact gUp_s | with_reducible exact gUp_n (by with_reducible assumption) (by omega) | exact gUp_n (by assumption) (by omega) | assumption) rfl ?_
        refine gJ_sipush (v := 1842) dX12_parameter_82 (by decide) ?_
        refine gJ_iload_n dX12_parameter_85 rfl rfl ?_
        refine gJ_iaddN (a := 1842) (b := 0) dX12_parameter_86 (by first | with_reducible rfl | rfl) (by first | with_reducible rfl | rfl) ?_
        refine gJ_ialdN (j := (1842 + 0)) dX12_parameter_87 (by first | with_reducible assumption | with_reducible exact gUp_s | with_reducible exact gUp_n (by with_reducible assumption) (by omega) | exact gUp_n (by assumption) (by omega) | assumption) (by first | with_reducible rfl | rfl) (by omega) (by decide) ?_
        refine gJ_istore_n (lv2 := [(3, _), (0, _), (1, _), (2, _)]) dX12_parameter_88 rfl rfl rfl ?_
        refine gJ_aload_n dX12_parameter_89 rfl rfl ?_
        refine gJ_get fX12_9 dX12_parameter_90 (by first | with_reducible assumption | with_reducible exact gUp_s | with_reducible exact gUp_n (by with_reducible assumption) (by omega) | exact gUp_n (by assumption) (by omega) | assumption) rfl ?_
        refine gJ_sipush (v := 1842) dX12_parameter_93 (by decide) ?_
        refine gJ_iload_n dX12_parameter_96 rfl rfl ?_
        refine gJ_iaddN (a := 1842) (b := 0) dX12_parameter_97 (by first | with_reducible rfl | rfl) (by first | with_reducible rfl | rfl) ?_
        refine gJ_iload_n dX12_parameter_98 rfl rfl ?_
        refine gJ_iastN (j := (1842 + 0)) dX12_parameter_99 (by first | with_reducible assumption | with_reducible exact gUp_s | with_reducible exact gUp_n (by with_reducible assumption) (by omega) | exact gUp_n (by assumption) (by omega) | assumption) (by first | with_reducible rfl | rfl) (by omega) (by decide) ?_
        try rw [gUp_up]
        refine gJ_iconst (v := 0) dX12_parameter_100 (by decide) ?_
        refine gJ_istore (lv2 := [(4, _), (3, _), (0, _), (1, _), (2, _)]) dX12_parameter_101 rfl rfl ?_
        refine gJ_iload dX12_parameter_103 rfl ?_
        refine gJ_sipush (v := 128) dX12_parameter_105 (by decide) ?_
        refine gJ_icmp_geN (tgt := 149) (a := 0) (b := 128) (by first | with_reducible rfl | rfl) (by first | with_reducible rfl | rfl) (by omega) (by omega) dX12_parameter_108 (by decide) (fun c_ => by exfalso; omega) (fun _ => ?_)
        refine gJ_iload_n dX12_parameter_111 rfl rfl ?_
        refine gJ_iconst (v := 4) dX12_parameter_112 (by decide) ?_
        refine gJ_icmp_neN (tgt := 149) (a := 0) (b := 4) (by first | with_reducible rfl | rfl) (by first | with_reducible rfl | rfl) (by omega) (by omega) dX12_parameter_113 (by decide) (fun _ => ?_) (fun c_ => by exfalso; omega)
        refine gJ_iload_n dX12_parameter_149 rfl rfl ?_
        refine gJ_iret dX12_parameter_150 rfl ?_
        have hA : aPar (V, S) (nI 0) x = (V (1842 + 0), aParT (V, S) 0 x) := by rw [aPar, if_pos (by decide), show (nI 0).toNatClampNeg = 0 from by decide, show aParB 0 x = true from c22]; rfl
        rw [hA]
        refine ⟨?_, rfl⟩
        rw [mUp_v hS, aParT, if_neg (fun h => absurd h.1 (by decide))]
      · refine gJ_goto (tgt := 75) dX12_parameter_25 (by decide) ?_
        refine gJ_bipush (v := -2) dX12_parameter_75 (by decide) ?_
        refine gJ_iret dX12_parameter_77 rfl ?_
        have hA : aPar (V, S) (nI 0) x = (-2, (V, S)) := by rw [aPar, if_pos (by decide), show (nI 0).toNatClampNeg = 0 from by decide, show aParB 0 x = false from c22]; rfl
        rw [hA]
        exact ⟨(mUp_id hV hS).symm, rfl⟩
    · skip
      refine gJ_iload_n dX12_parameter_11 rfl rfl ?_
      refine gJ_if_neN (tgt := 28) (a := 1) (by first | with_reducible rfl | rfl) (by omega) dX12_parameter_12 (by decide) (fun _ => ?_) (fun c_ => by exfalso; omega)
      refine gJ_iload_n dX12_parameter_28 rfl rfl ?_
      refine gJ_iconst (v := 3) dX12_parameter_29 (by decide) ?_
      refine gJ_icmp_geN (tgt := 47) (a := 1) (b := 3) (by first | with_reducible rfl | rfl) (by first | with_reducible rfl | rfl) (by omega) (by omega) dX12_parameter_30 (by decide) (fun c_ => by exfalso; omega) (fun _ => ?_)
      refine gJ_iload_n dX12_parameter_33 rfl rfl ?_
      refine gJ_iconst (v := 1) dX12_parameter_34 (by decide) ?_
      refine gJ_sipush (v := 999) dX12_parameter_35 (by decide) ?_
      refine gJ_callS (As := [_, _, _]) b_X12_isIn lX12_35 i_X12_isIn dX12_parameter_38 (c12_isIn _ _ _) rfl (Nat.le_of_ble_eq_true rfl) rfl (by decide) (fun M38 v_ h38 => ?_)
      obtain ⟨e_, rfl⟩ := h38
      replace e_ := e_.symm
      subst e_
      refine gJ_if_neB (tgt := 78) dX12_parameter_41 (by decide) (fun c41 => ?_) (fun c41 => ?_)
      · refine gJ_aload_n dX12_parameter_78 rfl rfl ?_
        refine gJ_get fX12_9 dX12_parameter_79 (by first | with_reducible assumption | with_reducible exact gUp_s | with_reducible exact gUp_n (by with_reducible assumption) (by omega) | exact gUp_n (by assumption) (by omega) | assumption) rfl ?_
        refine gJ_sipush (v := 1842) dX12_parameter_82 (by decide) ?_
        refine gJ_iload_n dX12_parameter_85 rfl rfl ?_
        refine gJ_iaddN (a := 1842) (b := 1) dX12_parameter_86 (by first | with_reducible rfl | rfl) (by first | with_reducible rfl | rfl) ?_
        refine gJ_ialdN (j := (1842 + 1)) dX12_parameter_87 (by first | with_reducible assumption | with_reducible exact gUp_s | with_reducible exact gUp_n (by with_reducible assumption) (by omega) | exact gUp_n (by assumption) (by omega) | assumption) (by first | with_reducible rfl | rfl) (by omega) (by decide) ?_
        refine gJ_istore_n (lv2 := [(3, _), (0, _), (1, _), (2, _)]) dX12_parameter_88 rfl rfl rfl ?_
        refine gJ_aload_n dX12_parameter_89 rfl rfl ?_
        refine gJ_get fX12_9 dX12_parameter_90 (by first | with_reducible assumption | with_reducible exact gUp_s | with_reducible exact gUp_n (by with_reducible assumption) (by omega) | exact gUp_n (by assumption) (by omega) | assumption) rfl ?_
        refine gJ_sipush (v := 1842) dX12_parameter_93 (by decide) ?_
        refine gJ_iload_n dX12_parameter_96 rfl rfl ?_
        refine gJ_iaddN (a := 1842) (b := 1) dX12_parameter_97 (by first | with_reducible rfl | rfl) (by first | with_reducible rfl | rfl) ?_
        refine gJ_iload_n dX12_parameter_98 rfl rfl ?_
        refine gJ_iastN (j := (1842 + 1)) dX12_parameter_99 (by first | with_reducible assumption | with_reducible exact gUp_s | with_reducible exact gUp_n (by with_reducible assumption) (by omega) | exact gUp_n (by assumption) (by omega) | assumption) (by first | with_reducible rfl | rfl) (by omega) (by decide) ?_
        try rw [gUp_up]
        refine gJ_iconst (v := 0) dX12_parameter_100 (by decide) ?_
        refine gJ_istore (lv2 := [(4, _), (3, _), (0, _), (1, _), (2, _)]) dX12_parameter_101 rfl rfl ?_
        refine gJ_iload dX12_parameter_103 rfl ?_
        refine gJ_sipush (v := 128) dX12_parameter_105 (by decide) ?_
        refine gJ_icmp_geN (tgt := 149) (a := 0) (b := 128) (by first | with_reducible rfl | rfl) (by first | with_reducible rfl | rfl) (by omega) (by omega) dX12_parameter_108 (by decide) (fun c_ => by exfalso; omega) (fun _ => ?_)
        refine gJ_iload_n dX12_parameter_111 rfl rfl ?_
        refine gJ_iconst (v := 4) dX12_parameter_112 (by decide) ?_
        refine gJ_icmp_neN (tgt := 149) (a := 1) (b := 4) (by first | with_reducible rfl | rfl) (by first | with_reducible rfl | rfl) (by omega) (by omega) dX12_parameter_113 (by decide) (fun _ => ?_) (fun c_ => by exfalso; omega)
        refine gJ_iload_n dX12_parameter_149 rfl rfl ?_
        refine gJ_iret dX12_parameter_150 rfl ?_
        have hA : aPar (V, S) (nI 1) x = (V (1842 + 1), aParT (V, S) 1 x) := by rw [aPar, if_pos (by decide), show (nI 1).toNatClampNeg = 1 from by decide, show aParB 1 x = true from c41]; rfl
        rw [hA]
        refine ⟨?_, rfl⟩
        rw [mUp_v hS, aParT, if_neg (fun h => absurd h.1 (by decide))]
      · refine gJ_goto (tgt := 75) dX12_parameter_44 (by decide) ?_
        refine gJ_bipush (v := -2) dX12_parameter_75 (by decide) ?_
        refine gJ_iret dX12_parameter_77 rfl ?_
        have hA : aPar (V, S) (nI 1) x = (-2, (V, S)) := by rw [aPar, if_pos (by decide), show (nI 1).toNatClampNeg = 1 from by decide, show aParB 1 x = false from c41]; rfl
        rw [hA]
        exact ⟨(mUp_id hV hS).symm, rfl⟩
    · skip
      refine gJ_iload_n dX12_parameter_11 rfl rfl ?_
      refine gJ_if_neN (tgt := 28) (a := 2) (by first | with_reducible rfl | rfl) (by omega) dX12_parameter_12 (by decide) (fun _ => ?_) (fun c_ => by exfalso; omega)
      refine gJ_iload_n dX12_parameter_28 rfl rfl ?_
      refine gJ_iconst (v := 3) dX12_parameter_29 (by decide) ?_
      refine gJ_icmp_geN (tgt := 47) (a := 2) (b := 3) (by first | with_reducible rfl | rfl) (by first | with_reducible rfl | rfl) (by omega) (by omega) dX12_parameter_30 (by decide) (fun c_ => by exfalso; omega) (fun _ => ?_)
      refine gJ_iload_n dX12_parameter_33 rfl rfl ?_
      refine gJ_iconst (v := 1) dX12_parameter_34 (by decide) ?_
      refine gJ_sipush (v := 999) dX12_parameter_35 (by decide) ?_
      refine gJ_callS (As := [_, _, _]) b_X12_isIn lX12_35 i_X12_isIn dX12_parameter_38 (c12_isIn _ _ _) rfl (Nat.le_of_ble_eq_true rfl) rfl (by decide) (fun M38 v_ h38 => ?_)
      obtain ⟨e_, rfl⟩ := h38
      replace e_ := e_.symm
      subst e_
      refine gJ_if_neB (tgt := 78) dX12_parameter_41 (by decide) (fun c41 => ?_) (fun c41 => ?_)
      · refine gJ_aload_n dX12_parameter_78 rfl rfl ?_
        refine gJ_get fX12_9 dX12_parameter_79 (by first | with_reducible assumption | with_reducible exact gUp_s | with_reducible exact gUp_n (by with_reducible assumption) (by omega) | exact gUp_n (by assumption) (by omega) | assumption) rfl ?_
        refine gJ_sipush (v := 1842) dX12_parameter_82 (by decide) ?_
        refine gJ_iload_n dX12_parameter_85 rfl rfl ?_
        refine gJ_iaddN (a := 1842) (b := 2) dX12_parameter_86 (by first | with_reducible rfl | rfl) (by first | with_reducible rfl | rfl) ?_
        refine gJ_ialdN (j := (1842 + 2)) dX12_parameter_87 (by first | with_reducible assumption | with_reducible exact gUp_s | with_reducible exact gUp_n (by with_reducible assumption) (by omega) | exact gUp_n (by assumption) (by omega) | assumption) (by first | with_reducible rfl | rfl) (by omega) (by decide) ?_
        refine gJ_istore_n (lv2 := [(3, _), (0, _), (1, _), (2, _)]) dX12_parameter_88 rfl rfl rfl ?_
        refine gJ_aload_n dX12_parameter_89 rfl rfl ?_
        refine gJ_get fX12_9 dX12_parameter_90 (by first | with_reducible assumption | with_reducible exact gUp_s | with_reducible exact gUp_n (by with_reducible assumption) (by omega) | exact gUp_n (by assumption) (by omega) | assumption) rfl ?_
        refine gJ_sipush (v := 1842) dX12_parameter_93 (by decide) ?_
        refine gJ_iload_n dX12_parameter_96 rfl rfl ?_
        refine gJ_iaddN (a := 1842) (b := 2) dX12_parameter_97 (by first | with_reducible rfl | rfl) (by first | with_reducible rfl | rfl) ?_
        refine gJ_iload_n dX12_parameter_98 rfl rfl ?_
        refine gJ_iastN (j := (1842 + 2)) dX12_parameter_99 (by first | with_reducible assumption | with_reducible exact gUp_s | with_reducible exact gUp_n (by with_reducible assumption) (by omega) | exact gUp_n (by assumption) (by omega) | assumption) (by first | with_reducible rfl | rfl) (by omega) (by decide) ?_
        try rw [gUp_up]
        refine gJ_iconst (v := 0) dX12_parameter_100 (by decide) ?_
        refine gJ_istore (lv2 := [(4, _), (3, _), (0, _), (1, _), (2, _)]) dX12_parameter_101 rfl rfl ?_
        refine gJ_iload dX12_parameter_103 rfl ?_
        refine gJ_sipush (v := 128) dX12_parameter_105 (by decide) ?_
        refine gJ_icmp_geN (tgt := 149) (a := 0) (b := 128) (by first | with_reducible rfl | rfl) (by first | with_reducible rfl | rfl) (by omega) (by omega) dX12_parameter_108 (by decide) (fun c_ => by exfalso; omega) (fun _ => ?_)
        refine gJ_iload_n dX12_parameter_111 rfl rfl ?_
        refine gJ_iconst (v := 4) dX12_parameter_112 (by decide) ?_
        refine gJ_icmp_neN (tgt := 149) (a := 2) (b := 4) (by first | with_reducible rfl | rfl) (by first | with_reducible rfl | rfl) (by omega) (by omega) dX12_parameter_113 (by decide) (fun _ => ?_) (fun c_ => by exfalso; omega)
        refine gJ_iload_n dX12_parameter_149 rfl rfl ?_
        refine gJ_iret dX12_parameter_150 rfl ?_
        have hA : aPar (V, S) (nI 2) x = (V (1842 + 2), aParT (V, S) 2 x) := by rw [aPar, if_pos (by decide), show (nI 2).toNatClampNeg = 2 from by decide, show aParB 2 x = true from c41]; rfl
        rw [hA]
        refine ⟨?_, rfl⟩
        rw [mUp_v hS, aParT, if_neg (fun h => absurd h.1 (by decide))]
      · refine gJ_goto (tgt := 75) dX12_parameter_44 (by decide) ?_
        refine gJ_bipush (v := -2) dX12_parameter_75 (by decide) ?_
        refine gJ_iret dX12_parameter_77 rfl ?_
        have hA : aPar (V, S) (nI 2) x = (-2, (V, S)) := by rw [aPar, if_pos (by decide), show (nI 2).toNatClampNeg = 2 from by decide, show aParB 2 x = false from c41]; rfl
        rw [hA]
        exact ⟨(mUp_id hV hS).symm, rfl⟩
    · skip
      refine gJ_iload_n dX12_parameter_11 rfl rfl ?_
      refine gJ_if_neN (tgt := 28) (a := 3) (by first | with_reducible rfl | rfl) (by omega) dX12_parameter_12 (by decide) (fun _ => ?_) (fun c_ => by exfalso; omega)
      refine gJ_iload_n dX12_parameter_28 rfl rfl ?_
      refine gJ_iconst (v := 3) dX12_parameter_29 (by decide) ?_
      refine gJ_icmp_geN (tgt := 47) (a := 3) (b := 3) (by first | with_reducible rfl | rfl) (by first | with_reducible rfl | rfl) (by omega) (by omega) dX12_parameter_30 (by decide) (fun _ => ?_) (fun c_ => by exfalso; omega)
      refine gJ_iload_n dX12_parameter_47 rfl rfl ?_
      refine gJ_iconst (v := 3) dX12_parameter_48 (by decide) ?_
      refine gJ_icmp_neN (tgt := 65) (a := 3) (b := 3) (by first | with_reducible rfl | rfl) (by first | with_reducible rfl | rfl) (by omega) (by omega) dX12_parameter_49 (by decide) (fun c_ => by exfalso; omega) (fun _ => ?_)
      refine gJ_iload_n dX12_parameter_52 rfl rfl ?_
      refine gJ_iconst (v := 2) dX12_parameter_53 (by decide) ?_
      refine gJ_bipush (v := 20) dX12_parameter_54 (by decide) ?_
      refine gJ_callS (As := [_, _, _]) b_X12_isIn lX12_35 i_X12_isIn dX12_parameter_56 (c12_isIn _ _ _) rfl (Nat.le_of_ble_eq_true rfl) rfl (by decide) (fun M56 v_ h56 => ?_)
      obtain ⟨e_, rfl⟩ := h56
      replace e_ := e_.symm
      subst e_
      refine gJ_if_neB (tgt := 78) dX12_parameter_59 (by decide) (fun c59 => ?_) (fun c59 => ?_)
      · refine gJ_aload_n dX12_parameter_78 rfl rfl ?_
        refine gJ_get fX12_9 dX12_parameter_79 (by first | with_reducible assumption | with_reducible exact gUp_s | with_reducible exact gUp_n (by with_reducible assumption) (by omega) | exact gUp_n (by assumption) (by omega) | assumption) rfl ?_
        refine gJ_sipush (v := 1842) dX12_parameter_82 (by decide) ?_
        refine gJ_iload_n dX12_parameter_85 rfl rfl ?_
        refine gJ_iaddN (a := 1842) (b := 3) dX12_parameter_86 (by first | with_reducible rfl | rfl) (by first | with_reducible rfl | rfl) ?_
        refine gJ_ialdN (j := (1842 + 3)) dX12_parameter_87 (by first | with_reducible assumption | with_reducible exact gUp_s | with_reducible exact gUp_n (by with_reducible assumption) (by omega) | exact gUp_n (by assumption) (by omega) | assumption) (by first | with_reducible rfl | rfl) (by omega) (by decide) ?_
        refine gJ_istore_n (lv2 := [(3, _), (0, _), (1, _), (2, _)]) dX12_parameter_88 rfl rfl rfl ?_
        refine gJ_aload_n dX12_parameter_89 rfl rfl ?_
        refine gJ_get fX12_9 dX12_parameter_90 (by first | with_reducible assumption | with_reducible exact gUp_s | with_reducible exact gUp_n (by with_reducible assumption) (by omega) | exact gUp_n (by assumption) (by omega) | assumption) rfl ?_
        refine gJ_sipush (v := 1842) dX12_parameter_93 (by decide) ?_
        refine gJ_iload_n dX12_parameter_96 rfl rfl ?_
        refine gJ_iaddN (a := 1842) (b := 3) dX12_parameter_97 (by first | with_reducible rfl | rfl) (by first | with_reducible rfl | rfl) ?_
        refine gJ_iload_n dX12_parameter_98 rfl rfl ?_
        refine gJ_iastN (j := (1842 + 3)) dX12_parameter_99 (by first | with_reducible assumption | with_reducible exact gUp_s | with_reducible exact gUp_n (by with_reducible assumption) (by omega) | exact gUp_n (by assumption) (by omega) | assumption) (by first | with_reducible rfl | rfl) (by omega) (by decide) ?_
        try rw [gUp_up]
        refine gJ_iconst (v := 0) dX12_parameter_100 (by decide) ?_
        refine gJ_istore (lv2 := [(4, _), (3, _), (0, _), (1, _), (2, _)]) dX12_parameter_101 rfl rfl ?_
        refine gJ_iload dX12_parameter_103 rfl ?_
        refine gJ_sipush (v := 128) dX12_parameter_105 (by decide) ?_
        refine gJ_icmp_geN (tgt := 149) (a := 0) (b := 128) (by first | with_reducible rfl | rfl) (by first | with_reducible rfl | rfl) (by omega) (by omega) dX12_parameter_108 (by decide) (fun c_ => by exfalso; omega) (fun _ => ?_)
        refine gJ_iload_n dX12_parameter_111 rfl rfl ?_
        refine gJ_iconst (v := 4) dX12_parameter_112 (by decide) ?_
        refine gJ_icmp_neN (tgt := 149) (a := 3) (b := 4) (by first | with_reducible rfl | rfl) (by first | with_reducible rfl | rfl) (by omega) (by omega) dX12_parameter_113 (by decide) (fun _ => ?_) (fun c_ => by exfalso; omega)
        refine gJ_iload_n dX12_parameter_149 rfl rfl ?_
        refine gJ_iret dX12_parameter_150 rfl ?_
        have hA : aPar (V, S) (nI 3) x = (V (1842 + 3), aParT (V, S) 3 x) := by rw [aPar, if_pos (by decide), show (nI 3).toNatClampNeg = 3 from by decide, show aParB 3 x = true from c59]; rfl
        rw [hA]
        refine ⟨?_, rfl⟩
        rw [mUp_v hS, aParT, if_neg (fun h => absurd h.1 (by decide))]
      · refine gJ_goto (tgt := 75) dX12_parameter_62 (by decide) ?_
        refine gJ_bipush (v := -2) dX12_parameter_75 (by decide) ?_
        refine gJ_iret dX12_parameter_77 rfl ?_
        have hA : aPar (V, S) (nI 3) x = (-2, (V, S)) := by rw [aPar, if_pos (by decide), show (nI 3).toNatClampNeg = 3 from by decide, show aParB 3 x = false from c59]; rfl
        rw [hA]
        exact ⟨(mUp_id hV hS).symm, rfl⟩
    · skip
      refine gJ_iload_n dX12_parameter_11 rfl rfl ?_
      refine gJ_if_neN (tgt := 28) (a := 4) (by first | with_reducible rfl | rfl) (by omega) dX12_parameter_12 (by decide) (fun _ => ?_) (fun c_ => by exfalso; omega)
      refine gJ_iload_n dX12_parameter_28 rfl rfl ?_
      refine gJ_iconst (v := 3) dX12_parameter_29 (by decide) ?_
      refine gJ_icmp_geN (tgt := 47) (a := 4) (b := 3) (by first | with_reducible rfl | rfl) (by first | with_reducible rfl | rfl) (by omega) (by omega) dX12_parameter_30 (by decide) (fun _ => ?_) (fun c_ => by exfalso; omega)
      refine gJ_iload_n dX12_parameter_47 rfl rfl ?_
      refine gJ_iconst (v := 3) dX12_parameter_48 (by decide) ?_
      refine gJ_icmp_neN (tgt := 65) (a := 4) (b := 3) (by first | with_reducible rfl | rfl) (by first | with_reducible rfl | rfl) (by omega) (by omega) dX12_parameter_49 (by decide) (fun _ => ?_) (fun c_ => by exfalso; omega)
      refine gJ_iload_n dX12_parameter_65 rfl rfl ?_
      refine gJ_iconst (v := 0) dX12_parameter_66 (by decide) ?_
      refine gJ_bipush (v := 7) dX12_parameter_67 (by decide) ?_
      refine gJ_callS (As := [_, _, _]) b_X12_isIn lX12_35 i_X12_isIn dX12_parameter_69 (c12_isIn _ _ _) rfl (Nat.le_of_ble_eq_true rfl) rfl (by decide) (fun M69 v_ h69 => ?_)
      obtain ⟨e_, rfl⟩ := h69
      replace e_ := e_.symm
      subst e_
      refine gJ_if_neB (tgt := 78) dX12_parameter_72 (by decide) (fun c72 => ?_) (fun c72 => ?_)
      · refine gJ_aload_n dX12_parameter_78 rfl rfl ?_
        refine gJ_get fX12_9 dX12_parameter_79 (by first | with_reducible assumption | with_reducible exact gUp_s | with_reducible exact gUp_n (by with_reducible assumption) (by omega) | exact gUp_n (by assumption) (by omega) | assumption) rfl ?_
        refine gJ_sipush (v := 1842) dX12_parameter_82 (by decide) ?_
        refine gJ_iload_n dX12_parameter_85 rfl rfl ?_
        refine gJ_iaddN (a := 1842) (b := 4) dX12_parameter_86 (by first | with_reducible rfl | rfl) (by first | with_reducible rfl | rfl) ?_
        refine gJ_ialdN (j := (1842 + 4)) dX12_parameter_87 (by first | with_reducible assumption | with_reducible exact gUp_s | with_reducible exact gUp_n (by with_reducible assumption) (by omega) | exact gUp_n (by assumption) (by omega) | assumption) (by first | with_reducible rfl | rfl) (by omega) (by decide) ?_
        refine gJ_istore_n (lv2 := [(3, _), (0, _), (1, _), (2, _)]) dX12_parameter_88 rfl rfl rfl ?_
        refine gJ_aload_n dX12_parameter_89 rfl rfl ?_
        refine gJ_get fX12_9 dX12_parameter_90 (by first | with_reducible assumption | with_reducible exact gUp_s | with_reducible exact gUp_n (by with_reducible assumption) (by omega) | exact gUp_n (by assumption) (by omega) | assumption) rfl ?_
        refine gJ_sipush (v := 1842) dX12_parameter_93 (by decide) ?_
        refine gJ_iload_n dX12_parameter_96 rfl rfl ?_
        refine gJ_iaddN (a := 1842) (b := 4) dX12_parameter_97 (by first | with_reducible rfl | rfl) (by first | with_reducible rfl | rfl) ?_
        refine gJ_iload_n dX12_parameter_98 rfl rfl ?_
        refine gJ_iastN (j := (1842 + 4)) dX12_parameter_99 (by first | with_reducible assumption | with_reducible exact gUp_s | with_reducible exact gUp_n (by with_reducible assumption) (by omega) | exact gUp_n (by assumption) (by omega) | assumption) (by first | with_reducible rfl | rfl) (by omega) (by decide) ?_
        try rw [gUp_up]
        refine gJ_iconst (v := 0) dX12_parameter_100 (by decide) ?_
        refine gJ_istore (lv2 := [(4, _), (3, _), (0, _), (1, _), (2, _)]) dX12_parameter_101 rfl rfl ?_
        have hA : aPar (V, S) (nI 4) x = (V (1842 + 4), aParT (V, S) 4 x) := by rw [aPar, if_pos (by decide), show (nI 4).toNatClampNeg = 4 from by decide, show aParB 4 x = true from c72]; rfl
        rw [hA]
        by_cases hne : V (1842 + 4) = x
        · rw [aParT, if_neg (fun h => h.2 hne)]
          refine gJ_ls ?_ (lv' := [(4, .int (nI 0)), (3, .int (V (1842 + 4))), (0, .ref m), (1, .int (nI 4)), (2, .int x)]) ⟨rfl, rfl, rfl, rfl, rfl, trivial⟩
          exact L4 hne
        · rw [aParT, if_pos ⟨rfl, hne⟩]
          have L := loop (upd V (1842 + 4) x) (V (1842 + 4)) hne 129 0 (by omega) (by omega) (upd V (1842 + 4) x) S (fun i => by rw [if_neg (by omega)]) (fun i hi => absurd hi (by omega))
          rw [← mUp_v hS] at L
          exact gJ_ls L ⟨rfl, rfl, rfl, rfl, rfl, trivial⟩
      · refine gJ_bipush (v := -2) dX12_parameter_75 (by decide) ?_
        refine gJ_iret dX12_parameter_77 rfl ?_
        have hA : aPar (V, S) (nI 4) x = (-2, (V, S)) := by rw [aPar, if_pos (by decide), show (nI 4).toNatClampNeg = 4 from by decide, show aParB 4 x = false from c72]; rfl
        rw [hA]
        exact ⟨(mUp_id hV hS).symm, rfl⟩
  show gJ _ _ _ _ _ _ 0 [(0, _), (1, _), (2, _)] [] _
  refine gJ_iload_n dX12_parameter_0 rfl rfl ?_
  refine gJ_iconst (v := 0) dX12_parameter_1 (by decide) ?_
  refine gJ_iconst (v := 4) dX12_parameter_2 (by decide) ?_
  refine gJ_callS (As := [_, _, _]) b_X12_isIn lX12_35 i_X12_isIn dX12_parameter_3 (c12_isIn _ _ _) rfl (Nat.le_of_ble_eq_true rfl) rfl (by decide) (fun M3 v_ h3 => ?_)
  obtain ⟨e_, rfl⟩ := h3
  replace e_ := e_.symm
  subst e_
  refine gJ_if_neB (tgt := 11) dX12_parameter_6 (by decide) (fun c6 => ?_) (fun c6 => ?_)
  · obtain ⟨z, hz1, hz0, hz2, hz3⟩ := mIn_nat (lo := 0) (hi := 4) c6 (by decide)
    subst hz2
    clear c6 hz3
    exact main z (by omega)
  · refine gJ_iconst (v := -1) dX12_parameter_9 (by decide) ?_
    refine gJ_iret dX12_parameter_10 rfl ?_
    have hA : aPar (V, S) w x = (-1, (V, S)) := by rw [aPar, mIn, c6]; rfl
    rw [hA]
    exact ⟨(mUp_id hV hS).symm, rfl⟩
end MODEL
