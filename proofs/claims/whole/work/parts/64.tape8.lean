theorem zI_v {T : Nat → Int32} {t i : Nat} (hi : i ≠ 11) : ∀ (k : Nat) (F : Nat → Int32) (s : zP), (zI T t k F s).1 i = F i
  | 0, _, _ => rfl
  | k + 1, F, s => by
    rw [zI]
    split
    · split
      · rfl
      · rw [zI_v hi k, pk_un hi]
    · rfl
theorem zI_w2 {T F : Nat → Int32} {t k : Nat} {s : zP} (h : (zI T t k F s).2.2 = false) : s.2 = false := by
  obtain ⟨a, w⟩ := s
  cases w with
  | false => rfl
  | true => rw [zI_w] at h; cases h
section TAPE
variable {G : gG} {M : gM} {p t : Nat} {T : Nat → Int32} {s s2 : zP}
set_option maxHeartbeats 2000000 in
set_option maxRecDepth 20000 in
theorem c10_inh29 {M1 : gM} {q nq mq : Nat} {Q : gPq} (ht : t ≤ 60) (hT : M1.1 (p + 1) = some (gI 60 T)) (R : (Nat → Int32) × zP) (K : ∀ (sL : zP) (xL : Int32), sL.1 ≤ t → zEnd t sL = zEnd t R.2 → ((zEnd t R.2).2 = false → xL = R.1 11) → gJ G kX10_readInhibition 4 1 3 (gUp M1 p (cTp p t sL)) 82 [(3, .int xL), (2, .ref nq), (1, .ref mq), (0, .ref p)] [] (gQ kX10_readInhibition Q)) :
    ∀ (k i : Nat), i + k = 60 → ∀ (F : Nat → Int32) (s : zP), s.1 ≤ t → zI T t k F s = R → gJ G kX10_readInhibition 4 1 3 (gUp M1 p (cTp p t s)) 29 [(4, .int (nI i)), (3, .int (F 11)), (2, .ref nq), (1, .ref mq), (0, .ref p)] [] (gQ kX10_readInhibition Q) := by
  intro k
  induction k with
  | zero =>
    intro i hi F s hs hR
    rw [zI] at hR
    subst hR
    refine gJ_iload dX10_readInhibition_29 rfl ?_
    refine gJ_bipush (v := 60) dX10_readInhibition_31 (by decide) ?_
    refine gJ_icmp_geN (tgt := 82) (a := i) (b := 60) (by first | with_reducible rfl | rfl) (by first | with_reducible rfl | rfl) (by omega) (by omega) dX10_readInhibition_33 (by decide) (fun _ => ?_) (fun c_ => by exfalso; omega)
    exact gJ_ls (K s (F 11) hs rfl (fun _ => rfl)) ⟨rfl, rfl, rfl, rfl, trivial⟩
  | succ k ih =>
    intro i hi F s hs hR
    have hP := c10_peek (G := G) (M := gUp M1 p (cTp p t s)) ht hs gUp_s (gUp_n hT (by omega))
    have hLo := fun c => c10_labelOf (G := G) (M := gUp M1 p (cTp p t s)) c
    rw [zI] at hR
    have brk : ∀ (x : Int32), zL true (zH T t s) = 4 ∨ zL true (zH T t s) = 3 → zEnd t s = zEnd t R.2 ∧ ((zEnd t R.2).2 = false → F 11 = R.1 11) := by
      intro _ h
      have h0 : zIl (zH T t s) = 0 := by
        unfold zL at h
        unfold zIl
        by_cases a1 : zH T t s = 116
        · rw [if_pos a1] at h; omega
        · rw [if_neg a1] at h ⊢
          by_cases a2 : zH T t s = 104
          · rw [if_pos a2] at h; omega
          · rw [if_neg a2] at h ⊢
            by_cases a3 : zH T t s = 122
            · rw [if_pos a3] at h; omega
            · rw [if_neg a3]
      by_cases hin : s.2 = false ∧ s.1 < t
      · rw [if_pos hin, if_pos h0] at hR
        subst hR
        have e1 : zEnd t s = (s.1, true) := if_pos hin.2
        have e2 : zEnd t ((F, (s.1, true)) : (Nat → Int32) × zP).2 = (s.1, true) := if_pos hin.2
        rw [e1, e2]
        exact ⟨rfl, fun h => by cases h⟩
      · rw [if_neg hin] at hR
        subst hR
        exact ⟨rfl, fun _ => rfl⟩
    have go : ∀ l : Int32, zIl (zH T t s) = l → ¬ l = 0 → zI T t k (upd F 11 (F 11 ||| l)) (s.1 + 1, s.2) = R ∧ s.1 < t := by
      intro l hl h0
      have hlt := zH_lt (T := T) (t := t) (s := s) (fun e => h0 (by rw [← hl, e]; decide))
      rw [if_pos ⟨hlt.2, hlt.1⟩, hl, if_neg h0] at hR
      rw [hlt.2]
      exact ⟨hR, hlt.1⟩
    have step : ∀ (l : Nat) (x : Int32), (l = 0 ∧ x = 1) ∨ (l = 1 ∧ x = 2) ∨ (l = 2 ∧ x = 4) → zIl (zH T t s) = x → zL true (zH T t s) = l → gJ G kX10_readInhibition 4 1 3 (gUp M1 p (cTp p t s)) 29 [(4, .int (nI i)), (3, .int (F 11)), (2, .ref nq), (1, .ref mq), (0, .ref p)] [] (gQ kX10_readInhibition Q) := by
      intro l x hlx hx hl
      obtain ⟨g1, g2⟩ := go x hx (by rcases hlx with ⟨-, h⟩ | ⟨-, h⟩ | ⟨-, h⟩ <;> rw [h] <;> decide)
      have hl3 : l < 3 := by omega
      have hsh : (1 : Int32) <<< (nI l &&& 31) = x := by rcases hlx with ⟨h, h2⟩ | ⟨h, h2⟩ | ⟨h, h2⟩ <;> rw [h, h2] <;> decide
      have hL := hLo (zH T t s)
      rw [cLof, hl, if_neg (by omega)] at hL
      refine gJ_iload dX10_readInhibition_29 rfl ?_
      refine gJ_bipush (v := 60) dX10_readInhibition_31 (by decide) ?_
      refine gJ_icmp_geN (tgt := 82) (a := i) (b := 60) (by first | with_reducible rfl | rfl) (by first | with_reducible rfl | rfl) (by omega) (by omega) dX10_readInhibition_33 (by decide) (fun c_ => by exfalso; omega) (fun _ => ?_)
      refine gJ_aload_n dX10_readInhibition_36 rfl rfl ?_
      refine gJ_callV (As := []) b_X10_peek lX10_37 i_X10_peek s_X10_peek dX10_readInhibition_37 (hP) gUp_s rfl rfl (Nat.le_of_ble_eq_true rfl) rfl (by decide) (fun M37 v_ h37 => ?_)
      obtain ⟨e_, rfl⟩ := h37
      replace e_ := e_.symm
      subst e_
      refine gJ_callS (As := [_]) b_X10_labelOf lX10_76 i_X10_labelOf dX10_readInhibition_40 (hL) rfl (Nat.le_of_ble_eq_true rfl) rfl (by decide) (fun M40 v_ h40 => ?_)
      obtain ⟨e_, rfl⟩ := h40
      replace e_ := e_.symm
      subst e_
      refine gJ_istore (lv2 := [(5, _), (4, _), (3, _), (2, _), (1, _), (0, _)]) dX10_readInhibition_43 rfl rfl ?_
      refine gJ_iload dX10_readInhibition_45 rfl ?_
      refine gJ_if_ltN (tgt := 82) (a := l) (by first | with_reducible rfl | rfl) (by omega) dX10_readInhibition_47 (by decide) (fun c_ => by exfalso; omega) (fun _ => ?_)
      refine gJ_iload dX10_readInhibition_50 rfl ?_
      refine gJ_iconst (v := 3) dX10_readInhibition_52 (by decide) ?_
      refine gJ_icmp_neN (tgt := 59) (a := l) (b := 3) (by first | with_reducible rfl | rfl) (by first | with_reducible rfl | rfl) (by omega) (by omega) dX10_readInhibition_53 (by decide) (fun _ => ?_) (fun c_ => by exfalso; omega)
      refine gJ_iload_n dX10_readInhibition_59 rfl rfl ?_
      refine gJ_iconst (v := 1) dX10_readInhibition_60 (by decide) ?_
      refine gJ_iload dX10_readInhibition_61 rfl ?_
      refine gJ_ishl dX10_readInhibition_63 ?_
      rw [hsh]
      refine gJ_ior dX10_readInhibition_64 ?_
      refine gJ_istore_n (lv2 := [(3, _), (5, _), (4, _), (2, _), (1, _), (0, _)]) dX10_readInhibition_65 rfl rfl rfl ?_
      refine gJ_aload_n dX10_readInhibition_66 rfl rfl ?_
      refine gJ_dup dX10_readInhibition_67 rfl ?_
      refine gJ_get fX10_19 dX10_readInhibition_68 (by first | with_reducible assumption | with_reducible exact gUp_s | with_reducible exact gUp_n (by with_reducible assumption) (by omega) | exact gUp_n (by assumption) (by omega) | exact gUp_s | assumption) rfl ?_
      refine gJ_iconst (v := 1) dX10_readInhibition_71 (by decide) ?_
      refine gJ_iaddN (a := s.1) (b := 1) dX10_readInhibition_72 (by first | with_reducible rfl | rfl) (by first | with_reducible rfl | rfl) ?_
      refine gJ_put fX10_19 dX10_readInhibition_73 (by first | with_reducible assumption | with_reducible exact gUp_s | with_reducible exact gUp_n (by with_reducible assumption) (by omega) | exact gUp_n (by assumption) (by omega) | exact gUp_s | assumption) rfl rfl (Nat.le_of_ble_eq_true rfl) ?_
      rw [gUp_up]
      refine cTp_go (s2 := (s.1 + 1, s.2)) ?_
      refine gJ_iincN (a := i) (b := 1) (lv2 := [(4, _), (3, _), (5, _), (2, _), (1, _), (0, _)]) dX10_readInhibition_76 rfl rfl rfl rfl ?_
      refine gJ_goto (tgt := 29) dX10_readInhibition_79 (by decide) ?_
      have ec : F 11 ||| x = (upd F 11 (F 11 ||| x)) 11 := pk_us.symm
      rw [ec]
      exact gJ_ls (ih (i + 1) (by omega) (upd F 11 (F 11 ||| x)) (s.1 + 1, s.2) g2 g1) ⟨rfl, rfl, rfl, rfl, rfl, trivial⟩
    by_cases a1 : zH T t s = 116
    · exact step 0 1 (Or.inl ⟨rfl, rfl⟩) (by rw [zIl, if_pos a1]) (by rw [zL, if_pos a1])
    · by_cases a2 : zH T t s = 104
      · exact step 1 2 (Or.inr (Or.inl ⟨rfl, rfl⟩)) (by rw [zIl, if_neg a1, if_pos a2]) (by rw [zL, if_neg a1, if_pos a2])
      · by_cases a3 : zH T t s = 122
        · exact step 2 4 (Or.inr (Or.inr ⟨rfl, rfl⟩)) (by rw [zIl, if_neg a1, if_neg a2, if_pos a3]) (by rw [zL, if_neg a1, if_neg a2, if_pos a3])
        · have hL := hLo (zH T t s)
          by_cases a4 : zH T t s = 115
          · have hl : zL true (zH T t s) = 3 := by rw [zL, if_neg a1, if_neg a2, if_neg a3, if_pos ⟨a4, rfl⟩]
            obtain ⟨b1, b2⟩ := brk 0 (Or.inr hl)
            rw [cLof, hl, if_neg (by omega)] at hL
            refine gJ_iload dX10_readInhibition_29 rfl ?_
            refine gJ_bipush (v := 60) dX10_readInhibition_31 (by decide) ?_
            refine gJ_icmp_geN (tgt := 82) (a := i) (b := 60) (by first | with_reducible rfl | rfl) (by first | with_reducible rfl | rfl) (by omega) (by omega) dX10_readInhibition_33 (by decide) (fun c_ => by exfalso; omega) (fun _ => ?_)
            refine gJ_aload_n dX10_readInhibition_36 rfl rfl ?_
            refine gJ_callV (As := []) b_X10_peek lX10_37 i_X10_peek s_X10_peek dX10_readInhibition_37 (hP) gUp_s rfl rfl (Nat.le_of_ble_eq_true rfl) rfl (by decide) (fun M37 v_ h37 => ?_)
            obtain ⟨e_, rfl⟩ := h37
            replace e_ := e_.symm
            subst e_
            refine gJ_callS (As := [_]) b_X10_labelOf lX10_76 i_X10_labelOf dX10_readInhibition_40 (hL) rfl (Nat.le_of_ble_eq_true rfl) rfl (by decide) (fun M40 v_ h40 => ?_)
            obtain ⟨e_, rfl⟩ := h40
            replace e_ := e_.symm
            subst e_
            refine gJ_istore (lv2 := [(5, _), (4, _), (3, _), (2, _), (1, _), (0, _)]) dX10_readInhibition_43 rfl rfl ?_
            refine gJ_iload dX10_readInhibition_45 rfl ?_
            refine gJ_if_ltN (tgt := 82) (a := 3) (by first | with_reducible rfl | rfl) (by omega) dX10_readInhibition_47 (by decide) (fun c_ => by exfalso; omega) (fun _ => ?_)
            refine gJ_iload dX10_readInhibition_50 rfl ?_
            refine gJ_iconst (v := 3) dX10_readInhibition_52 (by decide) ?_
            refine gJ_icmp_neN (tgt := 59) (a := 3) (b := 3) (by first | with_reducible rfl | rfl) (by first | with_reducible rfl | rfl) (by omega) (by omega) dX10_readInhibition_53 (by decide) (fun c_ => by exfalso; omega) (fun _ => ?_)
            refine gJ_goto (tgt := 82) dX10_readInhibition_56 (by decide) ?_
            exact gJ_ls (K s (F 11) hs b1 b2) ⟨rfl, rfl, rfl, rfl, trivial⟩
          · have hl : zL true (zH T t s) = 4 := by rw [zL, if_neg a1, if_neg a2, if_neg a3, if_neg (fun h => a4 h.1)]
            obtain ⟨b1, b2⟩ := brk 0 (Or.inl hl)
            rw [cLof, hl, if_pos rfl] at hL
            refine gJ_iload dX10_readInhibition_29 rfl ?_
            refine gJ_bipush (v := 60) dX10_readInhibition_31 (by decide) ?_
            refine gJ_icmp_geN (tgt := 82) (a := i) (b := 60) (by first | with_reducible rfl | rfl) (by first | with_reducible rfl | rfl) (by omega) (by omega) dX10_readInhibition_33 (by decide) (fun c_ => by exfalso; omega) (fun _ => ?_)
            refine gJ_aload_n dX10_readInhibition_36 rfl rfl ?_
            refine gJ_callV (As := []) b_X10_peek lX10_37 i_X10_peek s_X10_peek dX10_readInhibition_37 (hP) gUp_s rfl rfl (Nat.le_of_ble_eq_true rfl) rfl (by decide) (fun M37 v_ h37 => ?_)
            obtain ⟨e_, rfl⟩ := h37
            replace e_ := e_.symm
            subst e_
            refine gJ_callS (As := [_]) b_X10_labelOf lX10_76 i_X10_labelOf dX10_readInhibition_40 (hL) rfl (Nat.le_of_ble_eq_true rfl) rfl (by decide) (fun M40 v_ h40 => ?_)
            obtain ⟨e_, rfl⟩ := h40
            replace e_ := e_.symm
            subst e_
            refine gJ_istore (lv2 := [(5, _), (4, _), (3, _), (2, _), (1, _), (0, _)]) dX10_readInhibition_43 rfl rfl ?_
            refine gJ_iload dX10_readInhibition_45 rfl ?_
            refine gJ_if_lt (tgt := 82) dX10_readInhibition_47 (by decide) (fun _ => ?_) (fun c_ => by exfalso; exact c_ (by decide))
            exact gJ_ls (K s (F 11) hs b1 b2) ⟨rfl, rfl, rfl, rfl, trivial⟩
set_option maxHeartbeats 4000000 in
set_option maxRecDepth 20000 in
theorem c10_readInhibition (ht : t ≤ 60) (hB : zB T) (hm : M.1 p = some (cTp p t (0, false))) (hT : M.1 (p + 1) = some (gI 60 T)) : gCon G kX10_readInhibition 4 7 25 M [.ref p] (fun M2 v => cRdI M M2 p t (zIn T t (fun _ => 0) (0, false)) v) := by
  have hs0 : ((0, false) : zP).1 ≤ t := Nat.zero_le _
  have hA : gCon G kX10_readMatchers 3 3 11 M [.ref p, .int (gb false)] (fun M2 v => v = some (.ref M.2) ∧ cTf M M2 p M.2 ∧ p + 1 < M.2 ∧ M2.2 = M.2 + 3 ∧ M2.1 p = some (cTp p t (zMs T t true (0, false)).2.2) ∧ cMr M2 M.2 (zMs T t true (0, false))) := c10_readMatchers (G := G) ht hB hs0 hm hT false
  obtain ⟨ok1, ok2, -⟩ := zMs_ok (T := T) (t := t) (sev := true) (s := (0, false)) hs0
  refine gCon_of (by decide) (Nat.le_of_ble_eq_true rfl) ?_
  refine gJ_lt fun hlt => ?_
  have hpq : p + 1 < M.2 := hlt _ _ hT
  obtain ⟨F1, hF1⟩ : ∃ F1, F1 = upd (zLay 1 (zMs T t true (0, false)).1 (zMs T t true (0, false)).2.1 (fun _ => 0)) 1 (nI (zMs T t true (0, false)).1) := ⟨_, rfl⟩
  have hz : zIn T t (fun _ => 0) (0, false) = zI6 T t F1 (zEx T t 62 (zMs T t true (0, false)).2.2) := by rw [zIn, hF1]
  have hFn : F1 1 = nI (zMs T t true (0, false)).1 := by rw [hF1, pk_us]
  have hFc : ∀ j, j < (zMs T t true (0, false)).1 → F1 (1 + (j + 1)) = nI ((zMs T t true (0, false)).2.1 j) ∧ (zMs T t true (0, false)).2.1 j < 128 := fun j hj => ⟨by rw [hF1, pk_un (by omega), zLay, if_pos (by omega), show 1 + (j + 1) - (1 + 1) = j by omega], ok1.2 j⟩
  have hF11 : F1 11 = 0 := by rw [hF1, pk_un (by decide), zLay, if_neg (by omega)]
  rw [hz]
  clear hF1 hz
  have w1 : (zEx T t 62 (zMs T t true (0, false)).2.2).2 = false → (zMs T t true (0, false)).2.2.2 = false := zEx_w2
  generalize zMs T t true (0, false) = R at *
  have l1 := zEx_le (T := T) (t := t) (c := 62) (s := R.2.2) (by decide) ok1.1
  -- the first sequence is read
  have key : ∀ (M1 : gM), cTf M M1 p M.2 → M1.2 = M.2 + 3 → M1.1 p = some (cTp p t R.2.2) → cMr M1 M.2 R → gJ G kX10_readInhibition 4 4 14 M1 6 [(1, .ref M.2), (0, .ref p)] [] (gQ kX10_readInhibition (fun M2 v => cRdI M M2 p t (zI6 T t F1 (zEx T t 62 R.2.2)) v)) := by
    intro M1 hf h2 hp hmr
    obtain ⟨q, hq⟩ : ∃ q, q = M.2 := ⟨_, rfl⟩
    rw [← hq] at hf h2 hmr hpq ⊢
    have hT1 : M1.1 (p + 1) = some (gI 60 T) := (hf.2 _ hpq (by omega)).trans hT
    have hC9 := c10_expect (G := G) (M := M1) (s := R.2.2) ht ok1.1 hp hT1 62
    generalize zEx T t 62 R.2.2 = s1 at *
    have hA2 : gCon G kX10_readMatchers 3 3 11 (gUp M1 p (cTp p t s1)) [.ref p, .int (gb false)] (fun M2 v => v = some (.ref (gUp M1 p (cTp p t s1)).2) ∧ cTf (gUp M1 p (cTp p t s1)) M2 p (gUp M1 p (cTp p t s1)).2 ∧ p + 1 < (gUp M1 p (cTp p t s1)).2 ∧ M2.2 = (gUp M1 p (cTp p t s1)).2 + 3 ∧ M2.1 p = some (cTp p t (zMs T t true s1).2.2) ∧ cMr M2 (gUp M1 p (cTp p t s1)).2 (zMs T t true s1)) := c10_readMatchers (G := G) (M := gUp M1 p (cTp p t s1)) ht hB l1 gUp_s (gUp_n hT1 (by omega)) false
    have e2 : (gUp M1 p (cTp p t s1)).2 = q + 3 := h2
    rw [e2] at hA2
    obtain ⟨ok3, ok4, -⟩ := zMs_ok (T := T) (t := t) (sev := true) (s := s1) l1
    have hw3 : (zMs T t true s1).2.2.2 = false → s1.2 = false := by
      intro h
      obtain ⟨a, w⟩ := s1
      cases w with
      | false => rfl
      | true => rw [zMs_w] at h; cases h
    obtain ⟨F2, hF2⟩ : ∃ F2, F2 = upd (zLay 6 (zMs T t true s1).1 (zMs T t true s1).2.1 F1) 6 (nI (zMs T t true s1).1) := ⟨_, rfl⟩
    have hz2 : zI6 T t F1 s1 = zI T t 60 F2 (zEx T t 47 (zMs T t true s1).2.2) := by rw [zI6, hF2]
    have gFn : F2 6 = nI (zMs T t true s1).1 := by rw [hF2, pk_us]
    have gFc : ∀ j, j < (zMs T t true s1).1 → F2 (6 + (j + 1)) = nI ((zMs T t true s1).2.1 j) ∧ (zMs T t true s1).2.1 j < 128 := fun j hj => ⟨by rw [hF2, pk_un (by omega), zLay, if_pos (by omega), show 6 + (j + 1) - (6 + 1) = j by omega], ok3.2 j⟩
    have gFo : ∀ i, i < 6 → F2 i = F1 i := fun i hi => by rw [hF2, pk_un (by omega), zLay, if_neg (by omega)]
    have gF11 : F2 11 = 0 := by rw [hF2, pk_un (by decide), zLay, if_neg (by omega)]; exact hF11
    rw [hz2]
    clear hF2 hz2
    have w3 : (zEx T t 47 (zMs T t true s1).2.2).2 = false → (zMs T t true s1).2.2.2 = false := zEx_w2
    generalize zMs T t true s1 = R2 at *
    have l3 := zEx_le (T := T) (t := t) (c := 47) (s := R2.2.2) (by decide) ok3.1
    -- both are read
    have key2 : ∀ (M2 : gM), cTf (gUp M1 p (cTp p t s1)) M2 p (q + 3) → M2.2 = q + 6 → M2.1 p = some (cTp p t R2.2.2) → cMr M2 (q + 3) R2 → gJ G kX10_readInhibition 4 1 3 M2 18 [(2, .ref (q + 3)), (1, .ref q), (0, .ref p)] [] (gQ kX10_readInhibition (fun M2 v => cRdI M M2 p t (zI T t 60 F2 (zEx T t 47 R2.2.2)) v)) := by
      intro M2 hf2 h22 hp2 hmr2
      have hold : ∀ x, x < q + 3 → x ≠ p → M2.1 x = M1.1 x := fun x hx hxp => (hf2.2 x hx hxp).trans (gUp_n rfl hxp)
      have hT2 : M2.1 (p + 1) = some (gI 60 T) := (hold _ (by omega) (by omega)).trans hT1
      have hC21 := c10_expect (G := G) (M := M2) (s := R2.2.2) ht ok3.1 hp2 hT2 47
      generalize zEx T t 47 R2.2.2 = s3 at *
      have hv1 := fun i (hi : i ≠ 11) => zI_v (T := T) (t := t) hi 60 F2 s3
      have hw5 := zI_w2 (T := T) (F := F2) (t := t) (k := 60) (s := s3)
      have hle := zI_le (T := T) (t := t) 60 F2 s3 l3
      have loop := fun K => c10_inh29 (G := G) (p := p) (M1 := M2) (q := q) (nq := q + 3) (mq := q) (Q := fun M2 v => cRdI M M2 p t (zI T t 60 F2 s3) v) ht hT2 (zI T t 60 F2 s3) K 60 0 (by omega) F2 s3 l3 rfl
      generalize zI T t 60 F2 s3 = r at *
      have L := loop (by
        intro sL xL hsL heL hxL
        have hC83 := c10_expectEnd (G := G) (M := gUp M2 p (cTp p t sL)) (s := sL) ht hsL gUp_s
        rw [heL] at hC83
        obtain ⟨sE, hsE⟩ : ∃ sE, sE = zEnd t r.2 := ⟨_, rfl⟩
        have hrw : sE.2 = false → r.2.2 = false := fun h => zEnd_w2 (by rw [← hsE]; exact h)
        rw [← hsE] at hC83 hxL
        obtain ⟨b13, w13⟩ := sE
        cases w13 with
        | true =>
          refine gJ_aload_n dX10_readInhibition_82 rfl rfl ?_
          refine gJ_callV (As := []) b_X10_expectEnd lX10_59 i_X10_expectEnd s_X10_expectEnd dX10_readInhibition_83 (hC83) gUp_s rfl rfl (Nat.le_of_ble_eq_true rfl) rfl (by decide) (fun M83 v_ h83 => ?_)
          obtain ⟨e_, rfl⟩ := h83
          replace e_ := e_.symm
          rw [gUp_up] at e_
          subst e_
          refine gJ_aload_n dX10_readInhibition_86 rfl rfl ?_
          refine gJ_get fX10_22 dX10_readInhibition_87 (by first | with_reducible assumption | with_reducible exact gUp_s | with_reducible exact gUp_n (by with_reducible assumption) (by omega) | exact gUp_n (by assumption) (by omega) | exact gUp_s | assumption) rfl ?_
          refine gJ_if_eqB (tgt := 97) dX10_readInhibition_90 (by decide) (fun c_ => by exfalso; cases c_) (fun _ => ?_)
          refine gJ_null dX10_readInhibition_93 ?_
          refine gJ_goto (tgt := 107) dX10_readInhibition_94 (by decide) ?_
          refine gJ_aretN dX10_readInhibition_107 rfl (Or.inl ⟨_, rfl⟩) ?_
          refine ⟨⟨⟨?_, fun x hx hxp => (gUp_n rfl hxp).trans ((hold x (by omega) hxp).trans (hf.2 x (by omega) hxp))⟩, by omega, by rw [← hsE]; exact gUp_s⟩, Or.inl ⟨by rw [← hsE], rfl⟩⟩
          show M.2 ≤ M2.2
          omega
        | false =>
          have hx11 := hxL rfl
          have hr0 := hrw rfl
          have hR2w := w3 (hw5 hr0)
          have hRw := w1 (hw3 hR2w)
          have hnew : gCon G kX3_init 2 0 0 (gNew (gUp M2 p (cTp p t (b13, false))) (gO 2 [.null, .null, .int 0])) [.ref (q + 6), .ref q, .ref (q + 3), .int xL] (fun M3 w => M3 = gUp (gNew (gUp M2 p (cTp p t (b13, false))) (gO 2 [.null, .null, .int 0])) (q + 6) (gO 2 [.ref q, .ref (q + 3), .int xL]) ∧ w = none) := c3_init (by rw [← h22]; exact gNew_s)
          have old : ∀ x, x ≠ p → x ≠ q + 6 → (gUp (gNew (gUp M2 p (cTp p t (b13, false))) (gO 2 [.null, .null, .int 0])) (q + 6) (gO 2 [.ref q, .ref (q + 3), .int xL])).1 x = M2.1 x := fun x h1 h3 => gUp_n (gNew_n (gUp_n rfl h1) (by show x ≠ M2.2; omega)) h3
          have fin : cRdI M (gUp (gNew (gUp M2 p (cTp p t (b13, false))) (gO 2 [.null, .null, .int 0])) (q + 6) (gO 2 [.ref q, .ref (q + 3), .int xL])) p t r (some (.ref (q + 6))) := by
            refine ⟨⟨⟨?_, fun x hx hxp => (old x hxp (by omega)).trans ((hold x (by omega) hxp).trans (hf.2 x (by omega) hxp))⟩, by omega, ?_⟩, Or.inr ⟨by rw [← hsE], q + 6, q, q + 3, rfl, by omega, ?_, ?_, ?_⟩⟩
            · show M.2 ≤ M2.2 + 1
              omega
            · rw [← hsE]; exact gUp_n (gNew_n gUp_s (by show p ≠ M2.2; omega)) (by omega)
            · rw [← hx11]; exact gUp_s
            · exact cMr_mat hmr (by omega) hRw (fun x c h1 h3 hx => (old x (by omega) (by omega)).trans ((hold x (by omega) (by omega)).trans hx)) (by rw [hv1 1 (by omega), gFo 1 (by omega)]; exact hFn) ok2 (fun j hj => by rw [hv1 _ (by omega), gFo _ (by omega)]; exact hFc j hj)
            · exact cMr_mat hmr2 (by omega) hR2w (fun x c h1 h3 hx => (old x (by omega) (by omega)).trans hx) (by rw [hv1 6 (by omega)]; exact gFn) ok4 (fun j hj => by rw [hv1 _ (by omega)]; exact gFc j hj)
          refine gJ_aload_n dX10_readInhibition_82 rfl rfl ?_
          refine gJ_callV (As := []) b_X10_expectEnd lX10_59 i_X10_expectEnd s_X10_expectEnd dX10_readInhibition_83 (hC83) gUp_s rfl rfl (Nat.le_of_ble_eq_true rfl) rfl (by decide) (fun M83 v_ h83 => ?_)
          obtain ⟨e_, rfl⟩ := h83
          replace e_ := e_.symm
          rw [gUp_up] at e_
          subst e_
          refine gJ_aload_n dX10_readInhibition_86 rfl rfl ?_
          refine gJ_get fX10_22 dX10_readInhibition_87 (by first | with_reducible assumption | with_reducible exact gUp_s | with_reducible exact gUp_n (by with_reducible assumption) (by omega) | exact gUp_n (by assumption) (by omega) | exact gUp_s | assumption) rfl ?_
          refine gJ_if_eqB (tgt := 97) dX10_readInhibition_90 (by decide) (fun _ => ?_) (fun c_ => by exfalso; cases c_)
          refine gJ_new (k := kX10_readInhibition) nX10_79 dX10_readInhibition_97 ?_
          show gJ _ _ _ _ _ _ _ _ (Value.ref M2.2 :: _) _
          rw [h22]
          refine gJ_dup dX10_readInhibition_100 rfl ?_
          refine gJ_aload_n dX10_readInhibition_101 rfl rfl ?_
          refine gJ_aload_n dX10_readInhibition_102 rfl rfl ?_
          refine gJ_iload_n dX10_readInhibition_103 rfl rfl ?_
          refine gJ_callI (As := [_, _, _]) b_X3_init lX10_81 i_X3_init rfl rfl dX10_readInhibition_104 (hnew) rfl (Nat.le_of_ble_eq_true rfl) rfl (by decide) (fun M104 v_ h104 => ?_)
          obtain ⟨e_, rfl⟩ := h104
          replace e_ := e_.symm
          subst e_
          refine gJ_aret dX10_readInhibition_107 rfl (Or.inl ⟨_, rfl⟩) ?_
          exact fin
          )
      rw [gF11] at L
      refine gJ_aload_n dX10_readInhibition_18 rfl rfl ?_
      refine gJ_bipush (v := 47) dX10_readInhibition_19 (by decide) ?_
      refine gJ_callV (As := [_]) b_X10_expect lX10_48 i_X10_expect s_X10_expect dX10_readInhibition_21 (hC21) hp2 rfl rfl (Nat.le_of_ble_eq_true rfl) rfl (by decide) (fun M21 v_ h21 => ?_)
      obtain ⟨e_, rfl⟩ := h21
      replace e_ := e_.symm
      subst e_
      refine gJ_iconst (v := 0) dX10_readInhibition_24 (by decide) ?_
      refine gJ_istore_n (lv2 := [(3, _), (2, _), (1, _), (0, _)]) dX10_readInhibition_25 rfl rfl rfl ?_
      refine gJ_iconst (v := 0) dX10_readInhibition_26 (by decide) ?_
      refine gJ_istore (lv2 := [(4, _), (3, _), (2, _), (1, _), (0, _)]) dX10_readInhibition_27 rfl rfl ?_
      exact gJ_ls L ⟨rfl, rfl, rfl, rfl, rfl, trivial⟩
    refine gJ_aload_n dX10_readInhibition_6 rfl rfl ?_
    refine gJ_bipush (v := 62) dX10_readInhibition_7 (by decide) ?_
    refine gJ_callV (As := [_]) b_X10_expect lX10_48 i_X10_expect s_X10_expect dX10_readInhibition_9 (hC9) hp rfl rfl (Nat.le_of_ble_eq_true rfl) rfl (by decide) (fun M9 v_ h9 => ?_)
    obtain ⟨e_, rfl⟩ := h9
    replace e_ := e_.symm
    subst e_
    refine gJ_aload_n dX10_readInhibition_12 rfl rfl ?_
    refine gJ_iconst (v := 0) dX10_readInhibition_13 (by decide) ?_
    refine gJ_callV (As := [_]) b_X10_readMatchers lX10_67 i_X10_readMatchers s_X10_readMatchers dX10_readInhibition_14 (hA2) gUp_s rfl rfl (Nat.le_of_ble_eq_true rfl) rfl (by decide) (fun M14 v_ h14 => ?_)
    obtain ⟨rfl, hf14, -, h142, hp14, hmr14⟩ := h14
    refine gJ_astore_n (lv2 := [(2, _), (1, _), (0, _)]) dX10_readInhibition_17 rfl rfl rfl ?_
    exact gJ_ls (key2 M14 hf14 h142 hp14 hmr14) ⟨rfl, rfl, rfl, trivial⟩
  show gJ _ _ _ _ _ _ 0 [(0, _)] [] _
  refine gJ_aload_n dX10_readInhibition_0 rfl rfl ?_
  refine gJ_iconst (v := 0) dX10_readInhibition_1 (by decide) ?_
  refine gJ_callV (As := [_]) b_X10_readMatchers lX10_67 i_X10_readMatchers s_X10_readMatchers dX10_readInhibition_2 (hA) (by first | with_reducible assumption | with_reducible exact gUp_s | with_reducible exact gUp_n (by with_reducible assumption) (by omega) | exact gUp_n (by assumption) (by omega) | exact gUp_s | assumption) rfl rfl (Nat.le_of_ble_eq_true rfl) rfl (by decide) (fun M2 v_ h2 => ?_)
  obtain ⟨rfl, hf2, -, h22, hp2, hmr2⟩ := h2
  refine gJ_astore_n (lv2 := [(1, _), (0, _)]) dX10_readInhibition_5 rfl rfl rfl ?_
  exact gJ_ls (key M2 hf2 h22 hp2 hmr2) ⟨rfl, rfl, trivial⟩
end TAPE
