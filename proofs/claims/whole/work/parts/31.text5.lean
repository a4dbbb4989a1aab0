def zK (T : Nat → Int32) (t kind : Nat) : (Nat → Int32) × zP := if kind = 0 then zRu T t (fun _ => 0) (0, false) else if kind = 1 then zS T t (fun _ => 0) (0, false) else zIn T t (fun _ => 0) (0, false)
def mFree (V : Nat → Int32) (kind : Nat) : Nat := ((List.range (mMst kind)).find? (fun k => !mOneN V kind k)).getD 0
def mPut (V : Nat → Int32) (kind k : Nat) (F : Nat → Int32) : Nat → Int32 := fun i => if mFst kind + mWid kind * k ≤ i ∧ i < mFst kind + mWid kind * k + mWid kind then upd F 0 1 (i - (mFst kind + mWid kind * k)) else V i
/-- answer, row, length of the tape -/
def aAddK (V T : Nat → Int32) (t kind : Nat) : Int32 × (Nat → Int32) × Nat :=
  if mMany V kind = mMst kind then (-4, V, t)
  else if (zK T t kind).2.2 = true ∨ (zK T t kind).2.1 < t then (-100 - nI (zK T t kind).2.1, V, 0)
  else (nI (mFree V kind), mPut V kind (mFree V kind) (zK T t kind).1, 0)
def aAdd (V T : Nat → Int32) (t : Nat) (w : Int32) : Int32 × (Nat → Int32) × Nat := if mIn w 0 2 = true then aAddK V T t w.toNatClampNeg else (-1, V, t)
theorem mFree_is {V : Nat → Int32} {kind : Nat} (h : ¬ mMany V kind = mMst kind) : mFree V kind < mMst kind ∧ mOneN V kind (mFree V kind) = false ∧ ∀ i, i < mFree V kind → mOneN V kind i = true := by
  cases hf : (List.range (mMst kind)).find? (fun k => !mOneN V kind k) with
  | none =>
    exfalso
    apply h
    rw [List.find?_eq_none] at hf
    have : (List.range (mMst kind)).countP (mOneN V kind) = (List.range (mMst kind)).length := List.countP_eq_length.mpr (fun x hx => by have := hf x hx; simpa using this)
    rw [mMany, this, List.length_range]
  | some k =>
    have e : mFree V kind = k := by rw [mFree, hf]; rfl
    rw [List.find?_range_eq_some] at hf
    obtain ⟨h1, h2, h3⟩ := hf
    rw [e]
    refine ⟨List.mem_range.mp h2, by simpa using h1, fun i hi => by have := h3 i hi; simpa using this⟩
theorem mMany_le (V : Nat → Int32) (kind : Nat) : mMany V kind ≤ mMst kind := by
  have h := List.countP_le_length (p := mOneN V kind) (l := List.range (mMst kind))
  rw [List.length_range] at h
  exact h
theorem zR9_le {T F : Nat → Int32} {t : Nat} {s : zP} (h : s.1 ≤ t) : (zR9 T t F s).2.1 ≤ t := zDg_le h
theorem zR8_le {T F : Nat → Int32} {t : Nat} {s : zP} (h : s.1 ≤ t) : (zR8 T t F s).2.1 ≤ t := zR9_le (zEx_le (by decide) (zEx_le (by decide) (zEx_le (by decide) (zNm_le h))))
theorem zR7_le {T F : Nat → Int32} {t : Nat} {s : zP} {neg : Bool} (h : s.1 ≤ t) : (zR7 T t neg F s).2.1 ≤ t := zR8_le (zEx_le (by decide) (zEx_le (by decide) (zEx_le (by decide) (zNm_le h))))
theorem zR6b_le {T F : Nat → Int32} {t : Nat} {s : zP} (h : s.1 ≤ t) : (zR6b T t F s).2.1 ≤ t := by
  unfold zR6b
  split
  · have h45 : zH T t s = 45 := by assumption
    exact zR7_le (zH_lt (by rw [h45]; decide)).1
  · exact zR7_le h
theorem zSg_lt {T : Nat → Int32} {t : Nat} {s : zP} (h : zH T t s = 60 ∨ zH T t s = 62 ∨ zH T t s = 61) : s.1 < t := (zH_lt (fun e => by rw [e] at h; revert h; decide)).1
theorem zR6_le {T F : Nat → Int32} {t : Nat} {s : zP} (h : s.1 ≤ t) : (zR6 T t F s).2.1 ≤ t := by
  unfold zR6
  by_cases hc : zH T t s = 60 ∨ zH T t s = 62 ∨ zH T t s = 61
  · rw [if_pos hc]
    exact zR6b_le (s := (s.1 + 1, s.2)) (zSg_lt hc)
  · rw [if_neg hc]
    exact zR6b_le (s := (s.1, true)) h
theorem zRu_le {T F : Nat → Int32} {t : Nat} {s : zP} (h : s.1 ≤ t) : (zRu T t F s).2.1 ≤ t := by
  unfold zRu
  split
  · exact zR6_le h
  · exact zR6_le (zEx_le (by decide) (zMs_ok h).1.1)
theorem zS7_le {T F : Nat → Int32} {t : Nat} {s : zP} (h : s.1 ≤ t) : (zS7 T t F s).2.1 ≤ t := zNm_le h
theorem zS6_le {T F : Nat → Int32} {t : Nat} {s : zP} (h : s.1 ≤ t) : (zS6 T t F s).2.1 ≤ t := zS7_le (zEx_le (by decide) (zNm_le h))
theorem zS_le {T F : Nat → Int32} {t : Nat} {s : zP} (h : s.1 ≤ t) : (zS T t F s).2.1 ≤ t := zS6_le (zEx_le (by decide) (zMs_ok h).1.1)
theorem zI_le {T : Nat → Int32} {t : Nat} : ∀ (k : Nat) (F : Nat → Int32) (s : zP), s.1 ≤ t → (zI T t k F s).2.1 ≤ t
  | 0, _, _, h => h
  | k + 1, F, s, h => by
    rw [zI]
    split
    · have hh : s.2 = false ∧ s.1 < t := by assumption
      split
      · exact h
      · exact zI_le k _ _ hh.2
    · exact h
theorem zI6_le {T F : Nat → Int32} {t : Nat} {s : zP} (h : s.1 ≤ t) : (zI6 T t F s).2.1 ≤ t := zI_le 60 _ _ (zEx_le (by decide) (zMs_ok h).1.1)
theorem zIn_le {T F : Nat → Int32} {t : Nat} {s : zP} (h : s.1 ≤ t) : (zIn T t F s).2.1 ≤ t := zI6_le (zEx_le (by decide) (zMs_ok h).1.1)
theorem zK_le {T : Nat → Int32} {t kind : Nat} : (zK T t kind).2.1 ≤ t := by
  unfold zK
  split
  · exact zRu_le (Nat.zero_le _)
  · split
    · exact zS_le (Nat.zero_le _)
    · exact zIn_le (Nat.zero_le _)
section MODEL
variable {G : gG} {M : gM} {m : Nat} {hi at_ fa : Int32} {T V F0 : Nat → Int32} {t : Nat}
theorem zU_o3 {t2 : Nat} {s s2 : zP} {F : Nat → Int32} : gUp (zU m M hi t s F) m (mO m hi (nI t2) (nI s2.1) (gb s2.2)) = zU m M hi t2 s2 F := by
  unfold zU
  rw [gUp_cm (a := m + 8) (b := m) (by omega), gUp_up]
theorem zU_go3 {k : gMd} {d nc ns pc t2 : Nat} {lv : List (Nat × Value)} {st : List Value} {Q : gP} {s s2 : zP} {F : Nat → Int32} {c : gE} (kk : gJ G k d nc ns (zU m M hi t2 s2 F) pc lv st Q) : gJ G k d nc ns (gUp (gUp (zU m M hi t s F) m c) m (mO m hi (nI t2) (nI s2.1) (gb s2.2))) pc lv st Q := by
  rw [gUp_up, zU_o3]
  exact kk
set_option maxHeartbeats 4000000 in
set_option maxRecDepth 20000 in
theorem c12_add (ht : t ≤ 60) (hB : zB T) (hm : M.1 m = some (mO m hi (nI t) at_ fa)) (hT : M.1 (m + 7) = some (gI 60 T)) (hF : M.1 (m + 8) = some (gI 12 F0)) (hV : M.1 (m + 1) = some (gI 1999 V)) (w : Int32) : gCon G kX12_add 5 0 0 M [.ref m, .int w] (fun M2 v => v = some (.int (aAdd V T t w).1) ∧ ∃ a2 f2 F2, M2 = gUp (gUp (gUp M m (mO m hi (nI (aAdd V T t w).2.2) a2 f2)) (m + 8) (gI 12 F2)) (m + 1) (gI 1999 (aAdd V T t w).2.1)) := by
  have same : gUp (gUp (gUp M m (mO m hi (nI t) at_ fa)) (m + 8) (gI 12 F0)) (m + 1) (gI 1999 V) = M := by rw [gUp_id hm, gUp_id hF, gUp_id hV]
  refine gCon_of (by decide) (Nat.le_of_ble_eq_true rfl) ?_
  have main : ∀ (kind : Nat), kind < 3 → ¬ mMany V kind = mMst kind → ∀ (Q : gPq), (∀ M2 a2 f2 F2, M2 = gUp (gUp (gUp M m (mO m hi (nI (aAddK V T t kind).2.2) a2 f2)) (m + 8) (gI 12 F2)) (m + 1) (gI 1999 (aAddK V T t kind).2.1) → Q M2 (some (.int (aAddK V T t kind).1))) →
      (∀ r : (Nat → Int32) × zP, zK T t kind = r → ∀ F, (r.2.2 = false → F = r.1) → gJ G kX12_add 5 0 0 (zU m M hi t r.2 F) 84 [(0, .ref m), (1, .int (nI kind))] [] (gQ kX12_add Q)) := by
    intro kind hk hfull Q hQ r hr F hF2
    obtain ⟨hk1, hk2, hk3⟩ := mFree_is hfull
    have hb := mMst_b kind
    obtain ⟨Fr, b, w⟩ := r
    have hVu : ∀ t2 s F, (zU m M hi t2 s F).1 (m + 1) = some (gI 1999 V) := fun t2 s F => zU_n hV (by omega) (by omega)
    have bad : ∀ x : Int32, (w = true ∨ b < t) → x = -100 - nI b → ∀ F, Q (zU m M hi 0 (b, true) F) (some (.int x)) := by
      intro x h hx F
      have hA : aAddK V T t kind = (-100 - nI b, V, 0) := by rw [aAddK, if_neg hfull, hr, if_pos h]
      have := hQ (zU m M hi 0 (b, true) F) (nI b) (gb true) F (by rw [hA]; exact (gUp_id (hVu 0 (b, true) F)).symm)
      rw [hA] at this
      rw [hx]
      exact this
    have good : w = false → t ≤ b → gJ G kX12_add 5 0 0 (zU m M hi 0 (b, false) F) 129 [(0, .ref m), (1, .int (nI kind))] [] (gQ kX12_add Q) := by
      intro hw hbt
      subst hw
      have hFr : F = Fr := hF2 rfl
      subst hFr
      have hA : aAddK V T t kind = (nI (mFree V kind), mPut V kind (mFree V kind) F, 0) := by rw [aAddK, if_neg hfull, hr, if_neg (fun h => h.elim (fun h => by cases h) (fun h => absurd h (Nat.not_lt.mpr hbt)))]
      rw [hA] at hQ
      dsimp only at hQ
      generalize hkf : mFree V kind = kf at hk1 hk2 hk3 hQ
      have idx := mIdx_b hk1
      have store : ∀ (q j : Nat), j + q = mWid kind + 1 → j ≤ mWid kind → ∀ W : Nat → Int32, (∀ i, W i = if mFst kind + mWid kind * kf ≤ i ∧ i < mFst kind + mWid kind * kf + j then upd F 0 1 (i - (mFst kind + mWid kind * kf)) else V i) →
          gJ G kX12_add 5 0 0 (gUp (zU m M hi 0 (b, false) (upd F 0 1)) (m + 1) (gI 1999 W)) 155 [(3, .int (nI j)), (2, .int (nI kf)), (0, .ref m), (1, .int (nI kind))] [] (gQ kX12_add Q) := by
        intro q
        have hw12 : mWid kind ≤ 12 := by unfold mWid; grind
        induction q with
        | zero => intro j h1 h2; exact absurd h1 (by omega)
        | succ q ih =>
          intro j hq hj W hW
          refine gJ_iload_n dX12_add_155 rfl rfl ?_
          refine gJ_iload_n dX12_add_156 rfl rfl ?_
          refine gJ_callS (As := [_]) b_X12_wide lX12_79 i_X12_wide dX12_add_157 (c12_wide kind hk) rfl (Nat.le_of_ble_eq_true rfl) rfl (by decide) (fun M157 v_ h157 => ?_)
          obtain ⟨e_, rfl⟩ := h157
          replace e_ := e_.symm
          subst e_
          refine gJ_icmp_geN (tgt := 193) (a := j) (b := (mWid kind)) (by first | with_reducible rfl | rfl) (by first | with_reducible rfl | rfl) (by omega) (by omega) dX12_add_160 (by decide) (fun c160 => ?_) (fun c160 => ?_)
          · refine gJ_iload_n dX12_add_193 rfl rfl ?_
            refine gJ_iret dX12_add_194 rfl ?_
            have hj2 : j = mWid kind := by omega
            subst hj2
            refine hQ _ (nI b) (gb false) (upd F 0 1) ?_
            show _ = gUp (zU m M hi 0 (b, false) (upd F 0 1)) (m + 1) _
            congr 2
            congr 1
            funext i
            rw [hW, mPut]
          · refine gJ_aload_n dX12_add_163 rfl rfl ?_
            refine gJ_get fX12_9 dX12_add_164 (by first | with_reducible assumption | exact gUp_s | exact gUp_n zU_o (by omega) | exact gUp_n zU_F (by omega)) rfl ?_
            refine gJ_iload_n dX12_add_167 rfl rfl ?_
            refine gJ_callS (As := [_]) b_X12_first lX12_76 i_X12_first dX12_add_168 (c12_first kind hk) rfl (Nat.le_of_ble_eq_true rfl) rfl (by decide) (fun M168 v_ h168 => ?_)
            obtain ⟨e_, rfl⟩ := h168
            replace e_ := e_.symm
            subst e_
            refine gJ_iload_n dX12_add_171 rfl rfl ?_
            refine gJ_callS (As := [_]) b_X12_wide lX12_79 i_X12_wide dX12_add_172 (c12_wide kind hk) rfl (Nat.le_of_ble_eq_true rfl) rfl (by decide) (fun M172 v_ h172 => ?_)
            obtain ⟨e_, rfl⟩ := h172
            replace e_ := e_.symm
            subst e_
            refine gJ_iload_n dX12_add_175 rfl rfl ?_
            refine gJ_imulN (a := (mWid kind)) (b := kf) dX12_add_176 (by first | with_reducible rfl | rfl) (by first | with_reducible rfl | rfl) ?_
            refine gJ_iaddN (a := (mFst kind)) (b := ((mWid kind) * kf)) dX12_add_177 (by first | with_reducible rfl | rfl) (by first | with_reducible rfl | rfl) ?_
            refine gJ_iload_n dX12_add_178 rfl rfl ?_
            refine gJ_iaddN (a := ((mFst kind) + ((mWid kind) * kf))) (b := j) dX12_add_179 (by first | with_reducible rfl | rfl) (by first | with_reducible rfl | rfl) ?_
            refine gJ_aload_n dX12_add_180 rfl rfl ?_
            refine gJ_get fX12_32 dX12_add_181 (by first | with_reducible assumption | exact gUp_s | exact gUp_n zU_o (by omega) | exact gUp_n zU_F (by omega)) rfl ?_
            refine gJ_iload_n dX12_add_184 rfl rfl ?_
            refine gJ_ialdN (j := j) dX12_add_185 (by first | with_reducible assumption | exact gUp_s | exact gUp_n zU_o (by omega) | exact gUp_n zU_F (by omega)) (by first | with_reducible rfl | rfl) (by omega) (by decide) ?_
            refine gJ_iastN (j := (((mFst kind) + ((mWid kind) * kf)) + j)) dX12_add_186 (by first | with_reducible assumption | exact gUp_s | exact gUp_n zU_o (by omega) | exact gUp_n zU_F (by omega)) (by first | with_reducible rfl | rfl) (by omega) (by decide) ?_
            try rw [gUp_up]
            refine gJ_iincN (a := j) (b := 1) (lv2 := [(3, _), (2, _), (0, _), (1, _)]) dX12_add_187 rfl rfl rfl rfl ?_
            refine gJ_goto (tgt := 155) dX12_add_190 (by decide) ?_
            refine gJ_ls (ih (j + 1) (by omega) (by omega) _ ?_) ⟨rfl, rfl, rfl, rfl, trivial⟩
            intro i
            by_cases h1_ : i = mFst kind + mWid kind * kf + j
            · subst h1_; rw [show upd W (mFst kind + mWid kind * kf + j) (upd F 0 1 j) (mFst kind + mWid kind * kf + j) = upd F 0 1 j from if_pos rfl, if_pos (by omega)]; congr 1; omega
            · rw [show upd W (mFst kind + mWid kind * kf + j) (upd F 0 1 j) i = W i from if_neg h1_, hW]; by_cases h2_ : mFst kind + mWid kind * kf ≤ i ∧ i < mFst kind + mWid kind * kf + j
              · rw [if_pos h2_, if_pos (by omega)]
              · rw [if_neg h2_, if_neg (by omega)]
      have find : ∀ (q j : Nat), j + q = kf → gJ G kX12_add 5 0 0 (zU m M hi 0 (b, false) F) 131 [(2, .int (nI j)), (0, .ref m), (1, .int (nI kind))] [] (gQ kX12_add Q) := by
        intro q
        induction q with
        | zero =>
          intro j hj
          have hj2 : j = kf := by omega
          subst hj2
          have hOne : mOne V kind (nI j) = false := by rw [mOne, nI_clamp (by omega), hk2, Bool.and_false]
          refine gJ_aload_n dX12_add_131 rfl rfl ?_
          refine gJ_iload_n dX12_add_132 rfl rfl ?_
          refine gJ_iload_n dX12_add_133 rfl rfl ?_
          refine gJ_callV (As := [_, _]) b_X12_isOne lX12_82 i_X12_isOne s_X12_isOne dX12_add_134 (c12_isOne zU_o (hVu _ _ _) kind hk (nI j)) zU_o rfl rfl (Nat.le_of_ble_eq_true rfl) rfl (by decide) (fun M134 v_ h134 => ?_)
          obtain ⟨e_, rfl⟩ := h134
          replace e_ := e_.symm
          subst e_
          rw [hOne]
          refine gJ_if_eqB (tgt := 146) dX12_add_137 (by decide) (fun _ => ?_) (fun c_ => by exfalso; cases c_)
          refine gJ_aload_n dX12_add_146 rfl rfl ?_
          refine gJ_get fX12_32 dX12_add_147 (by first | with_reducible assumption | exact zU_o | exact zU_F) rfl ?_
          refine gJ_iconst (v := 0) dX12_add_150 (by decide) ?_
          refine gJ_iconst (v := 1) dX12_add_151 (by decide) ?_
          refine gJ_iastN (j := 0) dX12_add_152 (by first | with_reducible assumption | exact zU_o | exact zU_F) (by first | with_reducible rfl | rfl) (by omega) (by decide) ?_
          try rw [gUp_up]
          rw [zU_F2]
          refine gJ_iconst (v := 0) dX12_add_153 (by decide) ?_
          refine gJ_istore_n (lv2 := [(3, _), (2, _), (0, _), (1, _)]) dX12_add_154 rfl rfl rfl ?_
          have L := store (mWid kind + 1) 0 (by omega) (by omega) V (fun i => by rw [if_neg (by omega)])
          rw [gUp_id (hVu _ _ _)] at L
          exact gJ_ls L ⟨rfl, rfl, rfl, rfl, trivial⟩
        | succ q ih =>
          intro j hj
          have hOne : mOne V kind (nI j) = true := by
            rw [mOne, mIn, nI_clamp (by omega), hk3 j (by omega), decide_eq_true (nI_pos' (by omega) : (0 : Int32) ≤ nI j), decide_eq_true ((nI_leI (by omega) (by omega)).mpr (by omega : j ≤ mMst kind - 1))]
            rfl
          refine gJ_aload_n dX12_add_131 rfl rfl ?_
          refine gJ_iload_n dX12_add_132 rfl rfl ?_
          refine gJ_iload_n dX12_add_133 rfl rfl ?_
          refine gJ_callV (As := [_, _]) b_X12_isOne lX12_82 i_X12_isOne s_X12_isOne dX12_add_134 (c12_isOne zU_o (hVu _ _ _) kind hk (nI j)) zU_o rfl rfl (Nat.le_of_ble_eq_true rfl) rfl (by decide) (fun M134 v_ h134 => ?_)
          obtain ⟨e_, rfl⟩ := h134
          replace e_ := e_.symm
          subst e_
          rw [hOne]
          refine gJ_if_eqB (tgt := 146) dX12_add_137 (by decide) (fun c_ => by exfalso; cases c_) (fun _ => ?_)
          refine gJ_iincN (a := j) (b := 1) (lv2 := [(2, _), (0, _), (1, _)]) dX12_add_140 rfl rfl rfl rfl ?_
          refine gJ_goto (tgt := 131) dX12_add_143 (by decide) ?_
          exact gJ_ls (ih (j + 1) (by omega)) ⟨rfl, rfl, rfl, trivial⟩
      refine gJ_iconst (v := 0) dX12_add_129 (by decide) ?_
      refine gJ_istore_n (lv2 := [(2, _), (0, _), (1, _)]) dX12_add_130 rfl rfl rfl ?_
      exact gJ_ls (find kf 0 (by omega)) ⟨rfl, rfl, rfl, trivial⟩
    have hbn : b ≤ t := by
      have h : (zK T t kind).2.1 ≤ t := zK_le
      rw [hr] at h
      exact h
    cases w with
    | true =>
      refine gJ_aload_n dX12_add_84 rfl rfl ?_
      refine gJ_dup dX12_add_85 rfl ?_
      refine gJ_get fX12_46 dX12_add_86 (by first | with_reducible assumption | exact zU_o | exact zU_F | exact gUp_s) rfl ?_
      refine gJ_aload_n dX12_add_89 rfl rfl ?_
      refine gJ_get fX12_43 dX12_add_90 (by first | with_reducible assumption | exact zU_o | exact zU_F | exact gUp_s) rfl ?_
      refine gJ_aload_n dX12_add_93 rfl rfl ?_
      refine gJ_get fX12_39 dX12_add_94 (by first | with_reducible assumption | exact zU_o | exact zU_F | exact gUp_s) rfl ?_
      refine gJ_icmp_geN (tgt := 104) (a := b) (b := t) (by first | with_reducible rfl | rfl) (by first | with_reducible rfl | rfl) (by omega) (by omega) dX12_add_97 (by decide) (fun c97 => ?_) (fun c97 => ?_)
      · refine gJ_iconst (v := 0) dX12_add_104 (by decide) ?_
        refine gJ_ior dX12_add_105 ?_
        rw [show gb true ||| 0 = gb true from by decide]
        refine gJ_put fX12_46 dX12_add_106 (by first | with_reducible assumption | exact zU_o | exact zU_F | exact gUp_s) (by rcases (gb01 _) with h_ | h_ <;> rw [h_] <;> rfl) rfl (Nat.le_of_ble_eq_true rfl) ?_
        refine gJ_aload_n dX12_add_109 rfl rfl ?_
        refine gJ_iconst (v := 0) dX12_add_110 (by decide) ?_
        refine gJ_put fX12_39 dX12_add_111 (by first | with_reducible assumption | exact zU_o | exact zU_F | exact gUp_s) rfl rfl (Nat.le_of_ble_eq_true rfl) ?_
        refine zU_go3 (t2 := 0) (s2 := (b, true)) ?_
        refine gJ_aload_n dX12_add_114 rfl rfl ?_
        refine gJ_get fX12_46 dX12_add_115 (by first | with_reducible assumption | exact zU_o | exact zU_F | exact gUp_s) rfl ?_
        refine gJ_if_eqB (tgt := 129) dX12_add_118 (by decide) (fun c_ => by exfalso; cases c_) (fun _ => ?_)
        refine gJ_bipush (v := -100) dX12_add_121 (by decide) ?_
        refine gJ_aload_n dX12_add_123 rfl rfl ?_
        refine gJ_get fX12_43 dX12_add_124 (by first | with_reducible assumption | exact zU_o | exact zU_F | exact gUp_s) rfl ?_
        refine gJ_isub dX12_add_127 ?_
        refine gJ_iret dX12_add_128 rfl ?_
        exact bad _ (Or.inl rfl) rfl _
      · refine gJ_iconst (v := 1) dX12_add_100 (by decide) ?_
        refine gJ_goto (tgt := 105) dX12_add_101 (by decide) ?_
        refine gJ_ior dX12_add_105 ?_
        rw [show gb true ||| 1 = gb true from by decide]
        refine gJ_put fX12_46 dX12_add_106 (by first | with_reducible assumption | exact zU_o | exact zU_F | exact gUp_s) (by rcases (gb01 _) with h_ | h_ <;> rw [h_] <;> rfl) rfl (Nat.le_of_ble_eq_true rfl) ?_
        refine gJ_aload_n dX12_add_109 rfl rfl ?_
        refine gJ_iconst (v := 0) dX12_add_110 (by decide) ?_
        refine gJ_put fX12_39 dX12_add_111 (by first | with_reducible assumption | exact zU_o | exact zU_F | exact gUp_s) rfl rfl (Nat.le_of_ble_eq_true rfl) ?_
        refine zU_go3 (t2 := 0) (s2 := (b, true)) ?_
        refine gJ_aload_n dX12_add_114 rfl rfl ?_
        refine gJ_get fX12_46 dX12_add_115 (by first | with_reducible assumption | exact zU_o | exact zU_F | exact gUp_s) rfl ?_
        refine gJ_if_eqB (tgt := 129) dX12_add_118 (by decide) (fun c_ => by exfalso; cases c_) (fun _ => ?_)
        refine gJ_bipush (v := -100) dX12_add_121 (by decide) ?_
        refine gJ_aload_n dX12_add_123 rfl rfl ?_
        refine gJ_get fX12_43 dX12_add_124 (by first | with_reducible assumption | exact zU_o | exact zU_F | exact gUp_s) rfl ?_
        refine gJ_isub dX12_add_127 ?_
        refine gJ_iret dX12_add_128 rfl ?_
        exact bad _ (Or.inl rfl) rfl _
    | false =>
      refine gJ_aload_n dX12_add_84 rfl rfl ?_
      refine gJ_dup dX12_add_85 rfl ?_
      refine gJ_get fX12_46 dX12_add_86 (by first | with_reducible assumption | exact zU_o | exact zU_F | exact gUp_s) rfl ?_
      refine gJ_aload_n dX12_add_89 rfl rfl ?_
      refine gJ_get fX12_43 dX12_add_90 (by first | with_reducible assumption | exact zU_o | exact zU_F | exact gUp_s) rfl ?_
      refine gJ_aload_n dX12_add_93 rfl rfl ?_
      refine gJ_get fX12_39 dX12_add_94 (by first | with_reducible assumption | exact zU_o | exact zU_F | exact gUp_s) rfl ?_
      refine gJ_icmp_geN (tgt := 104) (a := b) (b := t) (by first | with_reducible rfl | rfl) (by first | with_reducible rfl | rfl) (by omega) (by omega) dX12_add_97 (by decide) (fun c97 => ?_) (fun c97 => ?_)
      · refine gJ_iconst (v := 0) dX12_add_104 (by decide) ?_
        refine gJ_ior dX12_add_105 ?_
        rw [show gb false ||| 0 = gb false from by decide]
        refine gJ_put fX12_46 dX12_add_106 (by first | with_reducible assumption | exact zU_o | exact zU_F | exact gUp_s) (by rcases (gb01 _) with h_ | h_ <;> rw [h_] <;> rfl) rfl (Nat.le_of_ble_eq_true rfl) ?_
        refine gJ_aload_n dX12_add_109 rfl rfl ?_
        refine gJ_iconst (v := 0) dX12_add_110 (by decide) ?_
        refine gJ_put fX12_39 dX12_add_111 (by first | with_reducible assumption | exact zU_o | exact zU_F | exact gUp_s) rfl rfl (Nat.le_of_ble_eq_true rfl) ?_
        refine zU_go3 (t2 := 0) (s2 := (b, false)) ?_
        refine gJ_aload_n dX12_add_114 rfl rfl ?_
        refine gJ_get fX12_46 dX12_add_115 (by first | with_reducible assumption | exact zU_o | exact zU_F | exact gUp_s) rfl ?_
        refine gJ_if_eqB (tgt := 129) dX12_add_118 (by decide) (fun _ => ?_) (fun c_ => by exfalso; cases c_)
        exact gJ_ls (good rfl c97) ⟨rfl, rfl, trivial⟩
      · refine gJ_iconst (v := 1) dX12_add_100 (by decide) ?_
        refine gJ_goto (tgt := 105) dX12_add_101 (by decide) ?_
        refine gJ_ior dX12_add_105 ?_
        rw [show gb false ||| 1 = gb true from by decide]
        refine gJ_put fX12_46 dX12_add_106 (by first | with_reducible assumption | exact zU_o | exact zU_F | exact gUp_s) (by rcases (gb01 _) with h_ | h_ <;> rw [h_] <;> rfl) rfl (Nat.le_of_ble_eq_true rfl) ?_
        refine gJ_aload_n dX12_add_109 rfl rfl ?_
        refine gJ_iconst (v := 0) dX12_add_110 (by decide) ?_
        refine gJ_put fX12_39 dX12_add_111 (by first | with_reducible assumption | exact zU_o | exact zU_F | exact gUp_s) rfl rfl (Nat.le_of_ble_eq_true rfl) ?_
        refine zU_go3 (t2 := 0) (s2 := (b, true)) ?_
        refine gJ_aload_n dX12_add_114 rfl rfl ?_
        refine gJ_get fX12_46 dX12_add_115 (by first | with_reducible assumption | exact zU_o | exact zU_F | exact gUp_s) rfl ?_
        refine gJ_if_eqB (tgt := 129) dX12_add_118 (by decide) (fun c_ => by exfalso; cases c_) (fun _ => ?_)
        refine gJ_bipush (v := -100) dX12_add_121 (by decide) ?_
        refine gJ_aload_n dX12_add_123 rfl rfl ?_
        refine gJ_get fX12_43 dX12_add_124 (by first | with_reducible assumption | exact zU_o | exact zU_F | exact gUp_s) rfl ?_
        refine gJ_isub dX12_add_127 ?_
        refine gJ_iret dX12_add_128 rfl ?_
        exact bad _ (Or.inr (by omega)) rfl _
  have clear : ∀ (kind : Nat), kind < 3 → ¬ mMany V kind = mMst kind → ∀ (Q : gPq), (∀ M2 a2 f2 F2, M2 = gUp (gUp (gUp M m (mO m hi (nI (aAddK V T t kind).2.2) a2 f2)) (m + 8) (gI 12 F2)) (m + 1) (gI 1999 (aAddK V T t kind).2.1) → Q M2 (some (.int (aAddK V T t kind).1))) →
      gJ G kX12_add 5 0 0 (zU m M hi t (0, false) (fun _ => 0)) 57 [(0, .ref m), (1, .int (nI kind))] [] (gQ kX12_add Q) := by
    intro kind hk hfull Q hQ
    rcases (show kind = 0 ∨ kind = 1 ∨ kind = 2 by omega) with rfl | rfl | rfl
    · skip
      refine gJ_iload_n dX12_add_57 rfl rfl ?_
      refine gJ_if_neN (tgt := 68) (a := 0) (by first | with_reducible rfl | rfl) (by omega) dX12_add_58 (by decide) (fun c_ => by exfalso; omega) (fun _ => ?_)
      refine gJ_aload_n dX12_add_61 rfl rfl ?_
      refine gJ_callV (As := []) b_X12_rule lX12_89 i_X12_rule s_X12_rule dX12_add_62 (c12_rule ht hB hT _ 0 (by omega)) zU_o rfl rfl (Nat.le_of_ble_eq_true rfl) rfl (by decide) (fun M62 v_ h62 => ?_)
      obtain ⟨rfl, F, rfl, hF2⟩ := h62
      refine gJ_goto (tgt := 84) dX12_add_65 (by decide) ?_
      exact gJ_ls (main 0 hk hfull Q hQ _ (by rw [zK, if_pos rfl]) F hF2) ⟨rfl, rfl, trivial⟩
    · skip
      refine gJ_iload_n dX12_add_57 rfl rfl ?_
      refine gJ_if_neN (tgt := 68) (a := 1) (by first | with_reducible rfl | rfl) (by omega) dX12_add_58 (by decide) (fun _ => ?_) (fun c_ => by exfalso; omega)
      refine gJ_iload_n dX12_add_68 rfl rfl ?_
      refine gJ_iconst (v := 1) dX12_add_69 (by decide) ?_
      refine gJ_icmp_neN (tgt := 80) (a := 1) (b := 1) (by first | with_reducible rfl | rfl) (by first | with_reducible rfl | rfl) (by omega) (by omega) dX12_add_70 (by decide) (fun c_ => by exfalso; omega) (fun _ => ?_)
      refine gJ_aload_n dX12_add_73 rfl rfl ?_
      refine gJ_callV (As := []) b_X12_silence lX12_92 i_X12_silence s_X12_silence dX12_add_74 (c12_silence ht hB hT _ 0 (by omega)) zU_o rfl rfl (Nat.le_of_ble_eq_true rfl) rfl (by decide) (fun M74 v_ h74 => ?_)
      obtain ⟨rfl, F, rfl, hF2⟩ := h74
      refine gJ_goto (tgt := 84) dX12_add_77 (by decide) ?_
      exact gJ_ls (main 1 hk hfull Q hQ _ (by rw [zK, if_neg (by decide), if_pos rfl]) F hF2) ⟨rfl, rfl, trivial⟩
    · skip
      refine gJ_iload_n dX12_add_57 rfl rfl ?_
      refine gJ_if_neN (tgt := 68) (a := 2) (by first | with_reducible rfl | rfl) (by omega) dX12_add_58 (by decide) (fun _ => ?_) (fun c_ => by exfalso; omega)
      refine gJ_iload_n dX12_add_68 rfl rfl ?_
      refine gJ_iconst (v := 1) dX12_add_69 (by decide) ?_
      refine gJ_icmp_neN (tgt := 80) (a := 2) (b := 1) (by first | with_reducible rfl | rfl) (by first | with_reducible rfl | rfl) (by omega) (by omega) dX12_add_70 (by decide) (fun _ => ?_) (fun c_ => by exfalso; omega)
      refine gJ_aload_n dX12_add_80 rfl rfl ?_
      refine gJ_callV (As := []) b_X12_inhibition lX12_95 i_X12_inhibition s_X12_inhibition dX12_add_81 (c12_inhibition ht hB hT _ 0 (by omega)) zU_o rfl rfl (Nat.le_of_ble_eq_true rfl) rfl (by decide) (fun M81 v_ h81 => ?_)
      obtain ⟨rfl, F, rfl, hF2⟩ := h81
      exact gJ_ls (main 2 hk hfull Q hQ _ (by rw [zK, if_neg (by decide), if_neg (by decide)]) F hF2) ⟨rfl, rfl, trivial⟩
  have zero : ∀ (kind : Nat), kind < 3 → ¬ mMany V kind = mMst kind → ∀ (Q : gPq), (∀ M2 a2 f2 F2, M2 = gUp (gUp (gUp M m (mO m hi (nI (aAddK V T t kind).2.2) a2 f2)) (m + 8) (gI 12 F2)) (m + 1) (gI 1999 (aAddK V T t kind).2.1) → Q M2 (some (.int (aAddK V T t kind).1))) →
      ∀ (q j : Nat), j + q = 13 → j ≤ 12 → ∀ W : Nat → Int32, (∀ i, i < j → W i = 0) → gJ G kX12_add 5 0 0 (gUp M (m + 8) (gI 12 W)) 28 [(2, .int (nI j)), (0, .ref m), (1, .int (nI kind))] [] (gQ kX12_add Q) := by
    intro kind hk hfull Q hQ q
    induction q with
    | zero => intro j h1 h2; exact absurd h1 (by omega)
    | succ q ih =>
      intro j hq hj W hW
      refine gJ_iload_n dX12_add_28 rfl rfl ?_
      refine gJ_bipush (v := 12) dX12_add_29 (by decide) ?_
      refine gJ_icmp_geN (tgt := 47) (a := j) (b := 12) (by first | with_reducible rfl | rfl) (by first | with_reducible rfl | rfl) (by omega) (by omega) dX12_add_31 (by decide) (fun c31 => ?_) (fun c31 => ?_)
      · refine gJ_sw (fun H => gW_sw (gsw_I (g := fun _ => 0) (fun i hi => hW i (by omega)))) ?_
        refine gJ_aload_n dX12_add_47 rfl rfl ?_
        refine gJ_iconst (v := 0) dX12_add_48 (by decide) ?_
        refine gJ_put fX12_43 dX12_add_49 (by first | with_reducible assumption | exact gUp_s | exact gUp_n hm (by omega)) rfl rfl (Nat.le_of_ble_eq_true rfl) ?_
        refine gJ_aload_n dX12_add_52 rfl rfl ?_
        refine gJ_iconst (v := 0) dX12_add_53 (by decide) ?_
        refine gJ_put fX12_46 dX12_add_54 (by first | with_reducible assumption | exact gUp_s | exact gUp_n hm (by omega)) rfl rfl (Nat.le_of_ble_eq_true rfl) ?_
        rw [gUp_up]
        have e_ : gUp (gUp M (m + 8) (gI 12 (fun _ => 0))) m (mO m hi (nI t) (nI 0) (gb false)) = zU m M hi t (0, false) (fun _ => 0) := gUp_cm (by omega)
        have L := clear kind hk hfull Q hQ
        rw [← e_] at L
        exact gJ_ls L ⟨rfl, rfl, trivial⟩
      · refine gJ_aload_n dX12_add_34 rfl rfl ?_
        refine gJ_get fX12_32 dX12_add_35 (by first | with_reducible assumption | exact gUp_s | exact gUp_n hm (by omega)) rfl ?_
        refine gJ_iload_n dX12_add_38 rfl rfl ?_
        refine gJ_iconst (v := 0) dX12_add_39 (by decide) ?_
        refine gJ_iastN (j := j) dX12_add_40 (by first | with_reducible assumption | exact gUp_s | exact gUp_n hm (by omega)) (by first | with_reducible rfl | rfl) (by omega) (by decide) ?_
        try rw [gUp_up]
        refine gJ_iincN (a := j) (b := 1) (lv2 := [(2, _), (0, _), (1, _)]) dX12_add_41 rfl rfl rfl rfl ?_
        refine gJ_goto (tgt := 28) dX12_add_44 (by decide) ?_
        refine gJ_ls (ih (j + 1) (by omega) (by omega) _ ?_) ⟨rfl, rfl, rfl, trivial⟩
        intro i hi
        by_cases e1 : i = j
        · subst e1; exact pk_us
        · rw [pk_un e1]; exact hW i (by omega)
  show gJ _ _ _ _ _ _ 0 [(0, _), (1, _)] [] _
  refine gJ_iload_n dX12_add_0 rfl rfl ?_
  refine gJ_iconst (v := 0) dX12_add_1 (by decide) ?_
  refine gJ_iconst (v := 2) dX12_add_2 (by decide) ?_
  refine gJ_callS (As := [_, _, _]) b_X12_isIn lX12_35 i_X12_isIn dX12_add_3 (c12_isIn _ _ _) rfl (Nat.le_of_ble_eq_true rfl) rfl (by decide) (fun M3 v_ h3 => ?_)
  obtain ⟨e_, rfl⟩ := h3
  replace e_ := e_.symm
  subst e_
  refine gJ_if_neB (tgt := 11) dX12_add_6 (by decide) (fun c6 => ?_) (fun c6 => ?_)
  · obtain ⟨kind, hk1, hk0, hk2, hk3⟩ := mIn_nat (lo := 0) (hi := 2) c6 (by decide)
    subst hk2
    have hb := mMst_b kind
    have hmm := mMany_le V kind
    refine gJ_aload_n dX12_add_11 rfl rfl ?_
    refine gJ_iload_n dX12_add_12 rfl rfl ?_
    refine gJ_callV (As := [_]) b_X12_many lX12_86 i_X12_many s_X12_many dX12_add_13 (c12_many hm hV kind (by omega)) (by first | with_reducible assumption | with_reducible exact gUp_s | with_reducible exact gUp_n (by with_reducible assumption) (by omega) | exact gUp_n (by assumption) (by omega) | exact gUp_s | assumption) rfl rfl (Nat.le_of_ble_eq_true rfl) rfl (by decide) (fun M13 v_ h13 => ?_)
    obtain ⟨e_, rfl⟩ := h13
    replace e_ := e_.symm
    subst e_
    refine gJ_iload_n dX12_add_16 rfl rfl ?_
    refine gJ_callS (As := [_]) b_X12_most lX12_73 i_X12_most dX12_add_17 (c12_most kind (by omega)) rfl (Nat.le_of_ble_eq_true rfl) rfl (by decide) (fun M17 v_ h17 => ?_)
    obtain ⟨e_, rfl⟩ := h17
    replace e_ := e_.symm
    subst e_
    refine gJ_icmp_neN (tgt := 26) (a := (mMany V kind)) (b := (mMst kind)) (by first | with_reducible rfl | rfl) (by first | with_reducible rfl | rfl) (by omega) (by omega) dX12_add_20 (by decide) (fun c20 => ?_) (fun c20 => ?_)
    · refine gJ_iconst (v := 0) dX12_add_26 (by decide) ?_
      refine gJ_istore_n (lv2 := [(2, _), (0, _), (1, _)]) dX12_add_27 rfl rfl rfl ?_
      have hA : aAdd V T t (nI kind) = aAddK V T t kind := by rw [aAdd, mIn, c6, hk3, if_pos rfl]
      rw [hA]
      have L := zero kind (by omega) c20 (fun M2 v => v = some (.int (aAddK V T t kind).1) ∧ ∃ a2 f2 F2, M2 = gUp (gUp (gUp M m (mO m hi (nI (aAddK V T t kind).2.2) a2 f2)) (m + 8) (gI 12 F2)) (m + 1) (gI 1999 (aAddK V T t kind).2.1)) (fun M2 a2 f2 F2 h => ⟨rfl, a2, f2, F2, h⟩) 13 0 (by omega) (by omega) F0 (fun i hi => absurd hi (by omega))
      rw [gUp_id hF] at L
      exact gJ_ls L ⟨rfl, rfl, rfl, trivial⟩
    · refine gJ_bipush (v := -4) dX12_add_23 (by decide) ?_
      refine gJ_iret dX12_add_25 rfl ?_
      have hA : aAdd V T t (nI kind) = (-4, V, t) := by rw [aAdd, mIn, c6, hk3, if_pos rfl, aAddK, if_pos c20]
      rw [hA]
      exact ⟨rfl, at_, fa, F0, same.symm⟩
  · refine gJ_iconst (v := -1) dX12_add_9 (by decide) ?_
    refine gJ_iret dX12_add_10 rfl ?_
    have hA : aAdd V T t w = (-1, V, t) := by rw [aAdd, mIn, c6]; rfl
    rw [hA]
    exact ⟨rfl, at_, fa, F0, same.symm⟩
end MODEL
