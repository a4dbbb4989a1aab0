/-- what an array holds beyond its length doesn't matter -/
theorem arrV_ext {cA : ClassId} {n : Nat} {f g : Nat → Value} (h : ∀ i, i < n → f i = g i) : arrV cA n f = arrV cA n g := by
  unfold arrV
  congr 1
  apply Array.ext
  · simp
  · intro i h1 h2
    simp at h1 h2
    simp [h i h1]
theorem gW_sw {G : gG} {M : gM} {H : Heap} {a : Nat} {c e : gE} (hc : ∀ H : Heap, va_at (gD G) vwCl (a, gCv G c) H → va_at (gD G) vwCl (a, gCv G e) H) (h : gW G (gUp M a c) H) : gW G (gUp M a e) H := by
  refine ⟨fun q x hq => ?_, h.2.1, h.2.2⟩
  by_cases e1 : q = a
  · subst e1
    have h0 := h.1 q c gUp_s
    simp only [gUp, if_true] at hq
    cases hq
    exact ⟨h0.1, hc H h0.2⟩
  · simp only [gUp, if_neg e1] at hq
    exact h.1 q x (gUp_n hq e1)
theorem gsw_I {G : gG} {a n : Nat} {f g : Nat → Int32} (h : ∀ i, i < n → f i = g i) (H : Heap) : va_at (gD G) vwCl (a, gCv G (gI n f)) H → va_at (gD G) vwCl (a, gCv G (gI n g)) H := by
  intro h1
  show H[a]? = some (vp_cell _ _)
  have h2 : H[a]? = some (vp_cell (G.2.2.1 0) (n, .inl f)) := h1
  rw [h2, vp_cell_i]
  show _ = some (vp_cell (G.2.2.1 0) (n, .inl g))
  rw [vp_cell_i, arrV_ext (fun i hi => by rw [h i hi])]
theorem gsw_L {G : gG} {a n : Nat} {f g : Nat → Int64} (h : ∀ i, i < n → f i = g i) (H : Heap) : va_at (gD G) vwCl (a, gCv G (gL n f)) H → va_at (gD G) vwCl (a, gCv G (gL n g)) H := by
  intro h1
  show H[a]? = some (vp_cell _ _)
  have h2 : H[a]? = some (vp_cell (G.2.2.1 2) (n, .inr (.inl f))) := h1
  rw [h2, vp_cell_l]
  show _ = some (vp_cell (G.2.2.1 2) (n, .inr (.inl g)))
  rw [vp_cell_l, arrV_ext (fun i hi => by rw [h i hi])]
theorem gsw_Z {G : gG} {a n : Nat} {f g : Nat → Int32} (h : ∀ i, i < n → f i = g i) (H : Heap) : va_at (gD G) vwCl (a, gCv G (gZ n f)) H → va_at (gD G) vwCl (a, gCv G (gZ n g)) H := by
  intro h1
  show H[a]? = some (vp_cell _ _)
  have h2 : H[a]? = some (vp_cell (G.2.2.1 1) (n, .inl f)) := h1
  rw [h2, vp_cell_i]
  show _ = some (vp_cell (G.2.2.1 1) (n, .inl g))
  rw [vp_cell_i, arrV_ext (fun i hi => by rw [h i hi])]
theorem gsw_R {G : gG} {t a n : Nat} {f g : Nat → Option Nat} (h : ∀ i, i < n → f i = g i) (H : Heap) : va_at (gD G) vwCl (a, gCv G (gR t n f)) H → va_at (gD G) vwCl (a, gCv G (gR t n g)) H := by
  intro h1
  show H[a]? = some (vp_cell _ _)
  have h2 : H[a]? = some (vp_cell (G.2.2.1 t) (n, .inr (.inr (.inr (.inr f))))) := h1
  rw [h2, vp_cell_q]
  show _ = some (vp_cell (G.2.2.1 t) (n, .inr (.inr (.inr (.inr g)))))
  rw [vp_cell_q, arrV_ext (fun i hi => by rw [h i hi])]
theorem gJ_sw {G : gG} {k : gMd} {d nc ns : Nat} {M M1 : gM} {pc : Nat} {lv : List (Nat × Value)} {st : List Value} {Q : gP} (h : ∀ H, gW G M H → gW G M1 H) (kk : gJ G k d nc ns M1 pc lv st Q) : gJ G k d nc ns M pc lv st Q := by
  intro p l e R s m args below meth c H locs cells slots Z ls C hw
  exact kk p l e R s m args below meth c H locs cells slots Z ls C (h H hw)
section MODEL
variable {G : gG} {M : gM}
set_option maxRecDepth 20000 in
theorem c12_copies (a b c e : Nat) (V W : Nat → Int32) (S T : Nat → Int64) (ha : M.1 a = some (gI 1999 V)) (hb : M.1 b = some (gI 1999 W)) (hc : M.1 c = some (gL 128 S)) (he : M.1 e = some (gL 128 T)) (hab : a ≠ b) (hce : c ≠ e) (hbc : c ≠ b) (hbe : e ≠ b) : gCon G kX12_copies 0 0 0 M [.ref a, .ref b, .ref c, .ref e] (fun M2 v => M2 = gUp (gUp M b (gI 1999 V)) e (gL 128 S) ∧ v = none) := by
  refine gCon_of (by decide) (Nat.le_of_ble_eq_true rfl) ?_
  have loop2 : ∀ (q j : Nat), j + q = 129 → j ≤ 128 → ∀ U : Nat → Int64, (∀ i, i < j → U i = S i) →
      gJ G kX12_copies 0 0 0 (gUp (gUp M b (gI 1999 V)) e (gL 128 U)) 28 [(4, .int (nI j)), (0, .ref a), (1, .ref b), (2, .ref c), (3, .ref e)] [] (gQ kX12_copies (fun M2 v => M2 = gUp (gUp M b (gI 1999 V)) e (gL 128 S) ∧ v = none)) := by
    intro q
    induction q with
    | zero => intro j h1 h2; exact absurd h1 (by omega)
    | succ q ih =>
      intro j hq hj U hU
      refine gJ_iload dX12_copies_28 rfl ?_
      refine gJ_sipush (v := 128) dX12_copies_30 (by decide) ?_
      refine gJ_icmp_geN (tgt := 50) (a := j) (b := 128) (by first | with_reducible rfl | rfl) (by first | with_reducible rfl | rfl) (by omega) (by omega) dX12_copies_33 (by decide) (fun c33 => ?_) (fun c33 => ?_)
      · refine gJ_sw (fun H => gW_sw (gsw_L (fun i hi => hU i (by omega)))) ?_
        refine gJ_vret dX12_copies_50 rfl ?_
        exact ⟨rfl, rfl⟩
      · refine gJ_aload_n dX12_copies_36 rfl rfl ?_
        refine gJ_iload dX12_copies_37 rfl ?_
        refine gJ_aload_n dX12_copies_39 rfl rfl ?_
        refine gJ_iload dX12_copies_40 rfl ?_
        refine gJ_laldN (j := j) dX12_copies_42 (gUp_n (gUp_n hc hbc) hce) (by first | with_reducible rfl | rfl) (by omega) (by decide) ?_
        refine gJ_lastN (j := j) dX12_copies_43 gUp_s (by first | with_reducible rfl | rfl) (by omega) (by decide) ?_
        try rw [gUp_up]
        refine gJ_iincN (a := j) (b := 1) (lv2 := [(4, _), (0, _), (1, _), (2, _), (3, _)]) dX12_copies_44 rfl rfl rfl rfl ?_
        refine gJ_goto (tgt := 28) dX12_copies_47 (by decide) ?_
        refine gJ_ls (ih (j + 1) (by omega) (by omega) _ ?_) ⟨rfl, rfl, rfl, rfl, rfl, trivial⟩
        intro i hi
        by_cases e1 : i = j
        · subst e1; exact pk_uLs
        · rw [pk_uLn e1]; exact hU i (by omega)
  have loop1 : ∀ (q j : Nat), j + q = 2000 → j ≤ 1999 → ∀ U : Nat → Int32, (∀ i, i < j → U i = V i) →
      gJ G kX12_copies 0 0 0 (gUp M b (gI 1999 U)) 3 [(4, .int (nI j)), (0, .ref a), (1, .ref b), (2, .ref c), (3, .ref e)] [] (gQ kX12_copies (fun M2 v => M2 = gUp (gUp M b (gI 1999 V)) e (gL 128 S) ∧ v = none)) := by
    intro q
    induction q with
    | zero => intro j h1 h2; exact absurd h1 (by omega)
    | succ q ih =>
      intro j hq hj U hU
      refine gJ_iload dX12_copies_3 rfl ?_
      refine gJ_sipush (v := 1999) dX12_copies_5 (by decide) ?_
      refine gJ_icmp_geN (tgt := 25) (a := j) (b := 1999) (by first | with_reducible rfl | rfl) (by first | with_reducible rfl | rfl) (by omega) (by omega) dX12_copies_8 (by decide) (fun c8 => ?_) (fun c8 => ?_)
      · refine gJ_sw (fun H => gW_sw (gsw_I (fun i hi => hU i (by omega)))) ?_
        refine gJ_iconst (v := 0) dX12_copies_25 (by decide) ?_
        refine gJ_istore (lv2 := [(4, _), (0, _), (1, _), (2, _), (3, _)]) dX12_copies_26 rfl rfl ?_
        have L := loop2 129 0 (by omega) (by omega) T (fun i hi => absurd hi (by omega))
        rw [gUp_id (gUp_n he hbe)] at L
        exact gJ_ls L ⟨rfl, rfl, rfl, rfl, rfl, trivial⟩
      · refine gJ_aload_n dX12_copies_11 rfl rfl ?_
        refine gJ_iload dX12_copies_12 rfl ?_
        refine gJ_aload_n dX12_copies_14 rfl rfl ?_
        refine gJ_iload dX12_copies_15 rfl ?_
        refine gJ_ialdN (j := j) dX12_copies_17 (gUp_n ha hab) (by first | with_reducible rfl | rfl) (by omega) (by decide) ?_
        refine gJ_iastN (j := j) dX12_copies_18 gUp_s (by first | with_reducible rfl | rfl) (by omega) (by decide) ?_
        try rw [gUp_up]
        refine gJ_iincN (a := j) (b := 1) (lv2 := [(4, _), (0, _), (1, _), (2, _), (3, _)]) dX12_copies_19 rfl rfl rfl rfl ?_
        refine gJ_goto (tgt := 3) dX12_copies_22 (by decide) ?_
        refine gJ_ls (ih (j + 1) (by omega) (by omega) _ ?_) ⟨rfl, rfl, rfl, rfl, rfl, trivial⟩
        intro i hi
        by_cases e1 : i = j
        · subst e1; exact pk_us
        · rw [pk_un e1]; exact hU i (by omega)
  show gJ _ _ _ _ _ _ 0 [(0, _), (1, _), (2, _), (3, _)] [] _
  refine gJ_iconst (v := 0) dX12_copies_0 (by decide) ?_
  refine gJ_istore (lv2 := [(4, _), (0, _), (1, _), (2, _), (3, _)]) dX12_copies_1 rfl rfl ?_
  have L := loop1 2000 0 (by omega) (by omega) W (fun i hi => absurd hi (by omega))
  rw [gUp_id hb] at L
  exact gJ_ls L ⟨rfl, rfl, rfl, rfl, rfl, trivial⟩
end MODEL
