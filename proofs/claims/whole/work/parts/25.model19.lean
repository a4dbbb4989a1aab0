def mPick (a b c d e : Int32) (k : Nat) : Int32 := if k = 0 then a else if k = 1 then b else if k = 2 then c else if k = 3 then d else e
def aFeedT (T : Nat → Int32) (t n : Nat) (a b c d e : Int32) : Nat → Int32 := fun i => if t ≤ i ∧ i < t + n then mPick a b c d e (i - t) else T i
def aFeed (T : Nat → Int32) (t : Nat) (n a b c d e : Int32) : Int32 × (Nat → Int32) × Nat := if (mIn n 1 5 && (mIn a 0 127 && (mIn b 0 127 && (mIn c 0 127 && (mIn d 0 127 && mIn e 0 127))))) = true then (if t + n.toNatClampNeg ≤ 60 then (nI (t + n.toNatClampNeg), aFeedT T t n.toNatClampNeg a b c d e, t + n.toNatClampNeg) else (-4, T, t)) else (-2, T, t)
section MODEL
variable {G : gG} {M : gM} {m : Nat} {hi at_ fa : Int32} {T : Nat → Int32}
set_option maxRecDepth 20000 in
theorem c12_feed (t : Nat) (ht : t ≤ 60) (hm : M.1 m = some (mO m hi (nI t) at_ fa)) (hT : M.1 (m + 7) = some (gI 60 T)) (n a b c d e : Int32) : gCon G kX12_feed 1 0 0 M [.ref m, .int n, .int a, .int b, .int c, .int d, .int e] (fun M2 v => M2 = gUp (gUp M (m + 7) (gI 60 (aFeed T t n a b c d e).2.1)) m (mO m hi (nI (aFeed T t n a b c d e).2.2) at_ fa) ∧ v = some (.int (aFeed T t n a b c d e).1)) := by
  have same : gUp (gUp M (m + 7) (gI 60 T)) m (mO m hi (nI t) at_ fa) = M := by rw [gUp_id hT, gUp_id hm]
  refine gCon_of (by decide) (Nat.le_of_ble_eq_true rfl) ?_
  have loop : ∀ (N : Nat), N ≤ 5 → t + N ≤ 60 → ∀ (q k : Nat), k + q = N + 1 → k ≤ N → ∀ W : Nat → Int32, (∀ i, W i = if t ≤ i ∧ i < t + k then mPick a b c d e (i - t) else T i) →
      gJ G kX12_feed 1 0 0 (gUp M (m + 7) (gI 60 W)) 82 [(7, .int (nI k)), (0, .ref m), (1, .int (nI N)), (2, .int a), (3, .int b), (4, .int c), (5, .int d), (6, .int e)] [] (gQ kX12_feed (fun M2 v => M2 = gUp (gUp M (m + 7) (gI 60 (aFeedT T t N a b c d e))) m (mO m hi (nI (t + N)) at_ fa) ∧ v = some (.int (nI (t + N))))) := by
    intro N hN htN q
    induction q with
    | zero => intro k h1 h2; exact absurd h1 (by omega)
    | succ q ih =>
      intro k hq hk W hW
      refine gJ_iload dX12_feed_82 rfl ?_
      refine gJ_iload_n dX12_feed_84 rfl rfl ?_
      refine gJ_icmp_geN (tgt := 149) (a := k) (b := N) (by first | with_reducible rfl | rfl) (by first | with_reducible rfl | rfl) (by omega) (by omega) dX12_feed_85 (by decide) (fun c85 => ?_) (fun c85 => ?_)
      · have e1 : N = k := by omega
        subst e1
        have hWc : W = aFeedT T t N a b c d e := by funext i; rw [hW, aFeedT]
        rw [hWc]
        refine gJ_aload_n dX12_feed_149 rfl rfl ?_
        refine gJ_dup dX12_feed_150 rfl ?_
        refine gJ_get fX12_39 dX12_feed_151 (by first | with_reducible assumption | with_reducible exact gUp_s | with_reducible exact gUp_n (by with_reducible assumption) (by omega) | exact gUp_n (by assumption) (by omega) | assumption) rfl ?_
        refine gJ_iload_n dX12_feed_154 rfl rfl ?_
        refine gJ_iaddN (a := t) (b := N) dX12_feed_155 (by first | with_reducible rfl | rfl) (by first | with_reducible rfl | rfl) ?_
        refine gJ_put fX12_39 dX12_feed_156 (by first | with_reducible assumption | with_reducible exact gUp_s | with_reducible exact gUp_n (by with_reducible assumption) (by omega) | exact gUp_n (by assumption) (by omega) | assumption) rfl rfl (Nat.le_of_ble_eq_true rfl) ?_
        refine gJ_aload_n dX12_feed_159 rfl rfl ?_
        refine gJ_get fX12_39 dX12_feed_160 (by first | with_reducible assumption | with_reducible exact gUp_s | with_reducible exact gUp_n (by with_reducible assumption) (by omega) | exact gUp_n (by assumption) (by omega) | assumption) rfl ?_
        refine gJ_iret dX12_feed_163 rfl ?_
        exact ⟨rfl, rfl⟩
      · refine gJ_aload_n dX12_feed_88 rfl rfl ?_
        refine gJ_get fX12_29 dX12_feed_89 (by first | with_reducible assumption | with_reducible exact gUp_s | with_reducible exact gUp_n (by with_reducible assumption) (by omega) | exact gUp_n (by assumption) (by omega) | assumption) rfl ?_
        refine gJ_aload_n dX12_feed_92 rfl rfl ?_
        refine gJ_get fX12_39 dX12_feed_93 (by first | with_reducible assumption | with_reducible exact gUp_s | with_reducible exact gUp_n (by with_reducible assumption) (by omega) | exact gUp_n (by assumption) (by omega) | assumption) rfl ?_
        refine gJ_iload dX12_feed_96 rfl ?_
        refine gJ_iaddN (a := t) (b := k) dX12_feed_98 (by first | with_reducible rfl | rfl) (by first | with_reducible rfl | rfl) ?_
        refine gJ_iload dX12_feed_99 rfl ?_
        refine gJ_if_neN (tgt := 108) (a := k) (by first | with_reducible rfl | rfl) (by omega) dX12_feed_101 (by decide) (fun c101 => ?_) (fun c101 => ?_)
        · refine gJ_iload dX12_feed_108 rfl ?_
          refine gJ_iconst (v := 1) dX12_feed_110 (by decide) ?_
          refine gJ_icmp_neN (tgt := 118) (a := k) (b := 1) (by first | with_reducible rfl | rfl) (by first | with_reducible rfl | rfl) (by omega) (by omega) dX12_feed_111 (by decide) (fun c111 => ?_) (fun c111 => ?_)
          · refine gJ_iload dX12_feed_118 rfl ?_
            refine gJ_iconst (v := 2) dX12_feed_120 (by decide) ?_
            refine gJ_icmp_neN (tgt := 129) (a := k) (b := 2) (by first | with_reducible rfl | rfl) (by first | with_reducible rfl | rfl) (by omega) (by omega) dX12_feed_121 (by decide) (fun c121 => ?_) (fun c121 => ?_)
            · refine gJ_iload dX12_feed_129 rfl ?_
              refine gJ_iconst (v := 3) dX12_feed_131 (by decide) ?_
              refine gJ_icmp_neN (tgt := 140) (a := k) (b := 3) (by first | with_reducible rfl | rfl) (by first | with_reducible rfl | rfl) (by omega) (by omega) dX12_feed_132 (by decide) (fun c132 => ?_) (fun c132 => ?_)
              · refine gJ_iload dX12_feed_140 rfl ?_
                refine gJ_iastN (j := (t + k)) dX12_feed_142 (by first | with_reducible assumption | with_reducible exact gUp_s | with_reducible exact gUp_n (by with_reducible assumption) (by omega) | exact gUp_n (by assumption) (by omega) | assumption) (by first | with_reducible rfl | rfl) (by omega) (by decide) ?_
                try rw [gUp_up]
                refine gJ_iincN (a := k) (b := 1) (lv2 := [(7, _), (0, _), (1, _), (2, _), (3, _), (4, _), (5, _), (6, _)]) dX12_feed_143 rfl rfl rfl rfl ?_
                refine gJ_goto (tgt := 82) dX12_feed_146 (by decide) ?_
                refine gJ_ls (ih (k + 1) (by omega) (by omega) _ ?_) ⟨rfl, rfl, rfl, rfl, rfl, rfl, rfl, rfl, trivial⟩
                intro i
                simp only [upd]
                rw [hW]
                grind [mPick]
              · refine gJ_iload dX12_feed_135 rfl ?_
                refine gJ_goto (tgt := 142) dX12_feed_137 (by decide) ?_
                refine gJ_iastN (j := (t + k)) dX12_feed_142 (by first | with_reducible assumption | with_reducible exact gUp_s | with_reducible exact gUp_n (by with_reducible assumption) (by omega) | exact gUp_n (by assumption) (by omega) | assumption) (by first | with_reducible rfl | rfl) (by omega) (by decide) ?_
                try rw [gUp_up]
                refine gJ_iincN (a := k) (b := 1) (lv2 := [(7, _), (0, _), (1, _), (2, _), (3, _), (4, _), (5, _), (6, _)]) dX12_feed_143 rfl rfl rfl rfl ?_
                refine gJ_goto (tgt := 82) dX12_feed_146 (by decide) ?_
                refine gJ_ls (ih (k + 1) (by omega) (by omega) _ ?_) ⟨rfl, rfl, rfl, rfl, rfl, rfl, rfl, rfl, trivial⟩
                intro i
                simp only [upd]
                rw [hW]
                grind [mPick]
            · refine gJ_iload dX12_feed_124 rfl ?_
              refine gJ_goto (tgt := 142) dX12_feed_126 (by decide) ?_
              refine gJ_iastN (j := (t + k)) dX12_feed_142 (by first | with_reducible assumption | with_reducible exact gUp_s | with_reducible exact gUp_n (by with_reducible assumption) (by omega) | exact gUp_n (by assumption) (by omega) | assumption) (by first | with_reducible rfl | rfl) (by omega) (by decide) ?_
              try rw [gUp_up]
              refine gJ_iincN (a := k) (b := 1) (lv2 := [(7, _), (0, _), (1, _), (2, _), (3, _), (4, _), (5, _), (6, _)]) dX12_feed_143 rfl rfl rfl rfl ?_
              refine gJ_goto (tgt := 82) dX12_feed_146 (by decide) ?_
              refine gJ_ls (ih (k + 1) (by omega) (by omega) _ ?_) ⟨rfl, rfl, rfl, rfl, rfl, rfl, rfl, rfl, trivial⟩
              intro i
              simp only [upd]
              rw [hW]
              grind [mPick]
          · refine gJ_iload_n dX12_feed_114 rfl rfl ?_
            refine gJ_goto (tgt := 142) dX12_feed_115 (by decide) ?_
            refine gJ_iastN (j := (t + k)) dX12_feed_142 (by first | with_reducible assumption | with_reducible exact gUp_s | with_reducible exact gUp_n (by with_reducible assumption) (by omega) | exact gUp_n (by assumption) (by omega) | assumption) (by first | with_reducible rfl | rfl) (by omega) (by decide) ?_
            try rw [gUp_up]
            refine gJ_iincN (a := k) (b := 1) (lv2 := [(7, _), (0, _), (1, _), (2, _), (3, _), (4, _), (5, _), (6, _)]) dX12_feed_143 rfl rfl rfl rfl ?_
            refine gJ_goto (tgt := 82) dX12_feed_146 (by decide) ?_
            refine gJ_ls (ih (k + 1) (by omega) (by omega) _ ?_) ⟨rfl, rfl, rfl, rfl, rfl, rfl, rfl, rfl, trivial⟩
            intro i
            simp only [upd]
            rw [hW]
            grind [mPick]
        · refine gJ_iload_n dX12_feed_104 rfl rfl ?_
          refine gJ_goto (tgt := 142) dX12_feed_105 (by decide) ?_
          refine gJ_iastN (j := (t + k)) dX12_feed_142 (by first | with_reducible assumption | with_reducible exact gUp_s | with_reducible exact gUp_n (by with_reducible assumption) (by omega) | exact gUp_n (by assumption) (by omega) | assumption) (by first | with_reducible rfl | rfl) (by omega) (by decide) ?_
          try rw [gUp_up]
          refine gJ_iincN (a := k) (b := 1) (lv2 := [(7, _), (0, _), (1, _), (2, _), (3, _), (4, _), (5, _), (6, _)]) dX12_feed_143 rfl rfl rfl rfl ?_
          refine gJ_goto (tgt := 82) dX12_feed_146 (by decide) ?_
          refine gJ_ls (ih (k + 1) (by omega) (by omega) _ ?_) ⟨rfl, rfl, rfl, rfl, rfl, rfl, rfl, rfl, trivial⟩
          intro i
          simp only [upd]
          rw [hW]
          grind [mPick]
  show gJ _ _ _ _ _ _ 0 [(0, _), (1, _), (2, _), (3, _), (4, _), (5, _), (6, _)] [] _
  refine gJ_iload_n dX12_feed_0 rfl rfl ?_
  refine gJ_iconst (v := 1) dX12_feed_1 (by decide) ?_
  refine gJ_iconst (v := 5) dX12_feed_2 (by decide) ?_
  refine gJ_callS (As := [_, _, _]) b_X12_isIn lX12_35 i_X12_isIn dX12_feed_3 (c12_isIn _ _ _) rfl (Nat.le_of_ble_eq_true rfl) rfl (by decide) (fun M3 v_ h3 => ?_)
  obtain ⟨e_, rfl⟩ := h3
  replace e_ := e_.symm
  subst e_
  refine gJ_if_eqB (tgt := 62) dX12_feed_6 (by decide) (fun c6 => ?_) (fun c6 => ?_)
  · refine gJ_bipush (v := -2) dX12_feed_62 (by decide) ?_
    refine gJ_iret dX12_feed_64 rfl ?_
    have hA : aFeed T t n a b c d e = (-2, T, t) := by simp only [aFeed, mIn, c6, Bool.and_false, Bool.false_and, Bool.false_eq_true, ↓reduceIte]
    rw [hA]
    exact ⟨same.symm, rfl⟩
  · refine gJ_iload_n dX12_feed_9 rfl rfl ?_
    refine gJ_iconst (v := 0) dX12_feed_10 (by decide) ?_
    refine gJ_bipush (v := 127) dX12_feed_11 (by decide) ?_
    refine gJ_callS (As := [_, _, _]) b_X12_isIn lX12_35 i_X12_isIn dX12_feed_13 (c12_isIn _ _ _) rfl (Nat.le_of_ble_eq_true rfl) rfl (by decide) (fun M13 v_ h13 => ?_)
    obtain ⟨e_, rfl⟩ := h13
    replace e_ := e_.symm
    subst e_
    refine gJ_if_eqB (tgt := 62) dX12_feed_16 (by decide) (fun c16 => ?_) (fun c16 => ?_)
    · refine gJ_bipush (v := -2) dX12_feed_62 (by decide) ?_
      refine gJ_iret dX12_feed_64 rfl ?_
      have hA : aFeed T t n a b c d e = (-2, T, t) := by simp only [aFeed, mIn, c6, c16, Bool.and_false, Bool.false_and, Bool.false_eq_true, ↓reduceIte]
      rw [hA]
      exact ⟨same.symm, rfl⟩
    · refine gJ_iload_n dX12_feed_19 rfl rfl ?_
      refine gJ_iconst (v := 0) dX12_feed_20 (by decide) ?_
      refine gJ_bipush (v := 127) dX12_feed_21 (by decide) ?_
      refine gJ_callS (As := [_, _, _]) b_X12_isIn lX12_35 i_X12_isIn dX12_feed_23 (c12_isIn _ _ _) rfl (Nat.le_of_ble_eq_true rfl) rfl (by decide) (fun M23 v_ h23 => ?_)
      obtain ⟨e_, rfl⟩ := h23
      replace e_ := e_.symm
      subst e_
      refine gJ_if_eqB (tgt := 62) dX12_feed_26 (by decide) (fun c26 => ?_) (fun c26 => ?_)
      · refine gJ_bipush (v := -2) dX12_feed_62 (by decide) ?_
        refine gJ_iret dX12_feed_64 rfl ?_
        have hA : aFeed T t n a b c d e = (-2, T, t) := by simp only [aFeed, mIn, c6, c16, c26, Bool.and_false, Bool.false_and, Bool.false_eq_true, ↓reduceIte]
        rw [hA]
        exact ⟨same.symm, rfl⟩
      · refine gJ_iload dX12_feed_29 rfl ?_
        refine gJ_iconst (v := 0) dX12_feed_31 (by decide) ?_
        refine gJ_bipush (v := 127) dX12_feed_32 (by decide) ?_
        refine gJ_callS (As := [_, _, _]) b_X12_isIn lX12_35 i_X12_isIn dX12_feed_34 (c12_isIn _ _ _) rfl (Nat.le_of_ble_eq_true rfl) rfl (by decide) (fun M34 v_ h34 => ?_)
        obtain ⟨e_, rfl⟩ := h34
        replace e_ := e_.symm
        subst e_
        refine gJ_if_eqB (tgt := 62) dX12_feed_37 (by decide) (fun c37 => ?_) (fun c37 => ?_)
        · refine gJ_bipush (v := -2) dX12_feed_62 (by decide) ?_
          refine gJ_iret dX12_feed_64 rfl ?_
          have hA : aFeed T t n a b c d e = (-2, T, t) := by simp only [aFeed, mIn, c6, c16, c26, c37, Bool.and_false, Bool.false_and, Bool.false_eq_true, ↓reduceIte]
          rw [hA]
          exact ⟨same.symm, rfl⟩
        · refine gJ_iload dX12_feed_40 rfl ?_
          refine gJ_iconst (v := 0) dX12_feed_42 (by decide) ?_
          refine gJ_bipush (v := 127) dX12_feed_43 (by decide) ?_
          refine gJ_callS (As := [_, _, _]) b_X12_isIn lX12_35 i_X12_isIn dX12_feed_45 (c12_isIn _ _ _) rfl (Nat.le_of_ble_eq_true rfl) rfl (by decide) (fun M45 v_ h45 => ?_)
          obtain ⟨e_, rfl⟩ := h45
          replace e_ := e_.symm
          subst e_
          refine gJ_if_eqB (tgt := 62) dX12_feed_48 (by decide) (fun c48 => ?_) (fun c48 => ?_)
          · refine gJ_bipush (v := -2) dX12_feed_62 (by decide) ?_
            refine gJ_iret dX12_feed_64 rfl ?_
            have hA : aFeed T t n a b c d e = (-2, T, t) := by simp only [aFeed, mIn, c6, c16, c26, c37, c48, Bool.and_false, Bool.false_and, Bool.false_eq_true, ↓reduceIte]
            rw [hA]
            exact ⟨same.symm, rfl⟩
          · refine gJ_iload dX12_feed_51 rfl ?_
            refine gJ_iconst (v := 0) dX12_feed_53 (by decide) ?_
            refine gJ_bipush (v := 127) dX12_feed_54 (by decide) ?_
            refine gJ_callS (As := [_, _, _]) b_X12_isIn lX12_35 i_X12_isIn dX12_feed_56 (c12_isIn _ _ _) rfl (Nat.le_of_ble_eq_true rfl) rfl (by decide) (fun M56 v_ h56 => ?_)
            obtain ⟨e_, rfl⟩ := h56
            replace e_ := e_.symm
            subst e_
            refine gJ_if_neB (tgt := 65) dX12_feed_59 (by decide) (fun c59 => ?_) (fun c59 => ?_)
            · obtain ⟨N, hN1, hN0, hN2, hN3⟩ := mIn_nat (lo := 1) (hi := 5) c6 (by decide)
              subst hN2
              refine gJ_aload_n dX12_feed_65 rfl rfl ?_
              refine gJ_get fX12_39 dX12_feed_66 (by first | with_reducible assumption | with_reducible exact gUp_s | with_reducible exact gUp_n (by with_reducible assumption) (by omega) | exact gUp_n (by assumption) (by omega) | assumption) rfl ?_
              refine gJ_iload_n dX12_feed_69 rfl rfl ?_
              refine gJ_iaddN (a := t) (b := N) dX12_feed_70 (by first | with_reducible rfl | rfl) (by first | with_reducible rfl | rfl) ?_
              refine gJ_bipush (v := 60) dX12_feed_71 (by decide) ?_
              refine gJ_icmp_leN (tgt := 79) (a := (t + N)) (b := 60) (by first | with_reducible rfl | rfl) (by first | with_reducible rfl | rfl) (by omega) (by omega) dX12_feed_73 (by decide) (fun c73 => ?_) (fun c73 => ?_)
              · refine gJ_iconst (v := 0) dX12_feed_79 (by decide) ?_
                refine gJ_istore (lv2 := [(7, _), (0, _), (1, _), (2, _), (3, _), (4, _), (5, _), (6, _)]) dX12_feed_80 rfl rfl ?_
                have hA : aFeed T t (nI N) a b c d e = (nI (t + N), aFeedT T t N a b c d e, t + N) := by simp only [aFeed, mIn, c6, c16, c26, c37, c48, c59, hN3, Bool.and_self, c73, ↓reduceIte]
                rw [hA]
                have L := loop N hN1 c73 (N + 1) 0 (by omega) (by omega) T (fun i => by rw [if_neg (by omega)])
                rw [gUp_id hT] at L
                exact gJ_ls L ⟨rfl, rfl, rfl, rfl, rfl, rfl, rfl, rfl, trivial⟩
              · refine gJ_bipush (v := -4) dX12_feed_76 (by decide) ?_
                refine gJ_iret dX12_feed_78 rfl ?_
                have hA : aFeed T t (nI N) a b c d e = (-4, T, t) := by simp only [aFeed, mIn, c6, c16, c26, c37, c48, c59, hN3, Bool.and_self, c73, ↓reduceIte]
                rw [hA]
                exact ⟨same.symm, rfl⟩
            · refine gJ_bipush (v := -2) dX12_feed_62 (by decide) ?_
              refine gJ_iret dX12_feed_64 rfl ?_
              have hA : aFeed T t n a b c d e = (-2, T, t) := by simp only [aFeed, mIn, c6, c16, c26, c37, c48, c59, Bool.and_false, Bool.false_and, Bool.false_eq_true, ↓reduceIte]
              rw [hA]
              exact ⟨same.symm, rfl⟩
end MODEL
