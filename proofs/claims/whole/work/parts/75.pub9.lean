theorem feed_0 {U : Nat → Int32} {t : Nat} {a c d e f : Int32} : aFeedT U t 0 a c d e f = U := by
  funext i
  unfold aFeedT
  rw [if_neg (by omega)]
theorem feed_S {U : Nat → Int32} {t n : Nat} {a c d e f : Int32} : aFeedT U t (n + 1) a c d e f = upd (aFeedT U t n a c d e f) (t + n) (mPick a c d e f n) := by
  funext i
  show (if t ≤ i ∧ i < t + (n + 1) then mPick a c d e f (i - t) else U i) = (if i = t + n then mPick a c d e f n else if t ≤ i ∧ i < t + n then mPick a c d e f (i - t) else U i)
  by_cases h : i = t + n
  · rw [if_pos (by omega), if_pos h, show i - t = n by omega]
  · rw [if_neg h]
    by_cases h2 : t ≤ i ∧ i < t + n
    · rw [if_pos h2, if_pos (by omega)]
    · rw [if_neg h2, if_neg (by omega)]
theorem mPick_b {a c d e f : Int32} (ha : mIn a 0 127 = true) (hc : mIn c 0 127 = true) (hd : mIn d 0 127 = true) (he : mIn e 0 127 = true) (hf : mIn f 0 127 = true) (k : Nat) : ∃ x, x ≤ 127 ∧ mPick a c d e f k = nI x := by
  have hb : ∀ y, mIn y 0 127 = true → ∃ x, x ≤ 127 ∧ y = nI x := fun y hy => by
    obtain ⟨x, h1, -, h2, -⟩ := mIn_nat (lo := 0) (hi := 127) hy (by decide)
    exact ⟨x, h1, h2⟩
  unfold mPick
  split
  · exact hb _ ha
  split
  · exact hb _ hc
  split
  · exact hb _ hd
  split
  · exact hb _ he
  · exact hb _ hf
theorem aFeed_B {U : Nat → Int32} {t : Nat} {n a c d e f : Int32} (hB : zB U) (ht : t ≤ 60) : zB (aFeed U t n a c d e f).2.1 ∧ (aFeed U t n a c d e f).2.2 ≤ 60 := by
  unfold aFeed
  by_cases h : (mIn n 1 5 && (mIn a 0 127 && (mIn c 0 127 && (mIn d 0 127 && (mIn e 0 127 && mIn f 0 127))))) = true
  · rw [if_pos h]
    by_cases h2 : t + n.toNatClampNeg ≤ 60
    · rw [if_pos h2]
      refine ⟨fun i => ?_, h2⟩
      simp only [Bool.and_eq_true] at h
      show ∃ b, b ≤ 127 ∧ (if t ≤ i ∧ i < t + n.toNatClampNeg then mPick a c d e f (i - t) else U i) = nI b
      by_cases h3 : t ≤ i ∧ i < t + n.toNatClampNeg
      · rw [if_pos h3]; exact mPick_b h.2.1 h.2.2.1 h.2.2.2.1 h.2.2.2.2.1 h.2.2.2.2.2 _
      · rw [if_neg h3]; exact hB i
    · rw [if_neg h2]; exact ⟨hB, ht⟩
  · rw [if_neg h]; exact ⟨hB, ht⟩
section CLS
variable {G : gG} {M : gM} {b t : Nat} {V IV : Nat → Int32} {S IS : Nat → Int64} {hi : Bool} {U : Nat → Int32}
/-- only the tape has changed -/
theorem cX_tape {M2 : gM} {t2 : Nat} {U2 : Nat → Int32} (h : cX M b V S IV IS hi U t) (hf : gFr M M2 (b + 1) 2) (h1 : ∃ s, M2.1 (b + 1) = some (cTp (b + 1) t2 s)) (h2 : M2.1 (b + 2) = some (gI 60 U2)) : cX M2 b V S IV IS hi U2 t2 := by
  obtain ⟨h0, -, -, ⟨T, D, hT, hR⟩, ⟨T2, W2, WS2, D2, hT2, hI2, hJ2, hR2, he2⟩, ⟨T3, W3, WS3, D3, hR3⟩⟩ := h
  exact ⟨gFr_g hf h0 (by omega), h1, h2, ⟨T, D, hT, cR_fr hR hf (by omega) (by omega)⟩, ⟨T2, W2, WS2, D2, hT2, hI2, hJ2, cR_fr hR2 hf (by omega) (by omega), he2⟩, ⟨T3, W3, WS3, D3, cR_fr hR3 hf (by omega) (by omega)⟩⟩
set_option maxHeartbeats 2000000 in
set_option maxRecDepth 20000 in
theorem c11_feed (h : cX M b V S IV IS hi U t) (ht : t ≤ 60) (n a1 a2 a3 a4 a5 : Int32) : gCon G kX11_feed 1 0 0 M [.ref b, .int n, .int a1, .int a2, .int a3, .int a4, .int a5] (fun M2 v => gFr M M2 b 66 ∧ cX M2 b V S IV IS hi (aFeed U t n a1 a2 a3 a4 a5).2.1 (aFeed U t n a1 a2 a3 a4 a5).2.2 ∧ v = some (.int (aFeed U t n a1 a2 a3 a4 a5).1)) := by
  have h' := h
  obtain ⟨h0, ⟨s, h1⟩, h2, -⟩ := h
  refine gCon_of (by decide) (Nat.le_of_ble_eq_true rfl) ?_
  have e5 : ((1 : Int32) ≤ n) ↔ ¬ n < 1 := Int32.not_lt.symm
  have fin : ∀ N : Nat, 1 ≤ N → N ≤ 5 → t + N ≤ 60 → gJ G kX11_feed 1 0 0 M 68 [(0, .ref b), (1, .int (nI N)), (2, .int a1), (3, .int a2), (4, .int a3), (5, .int a4), (6, .int a5)] [] (gQ kX11_feed (fun M2 v => gFr M M2 b 66 ∧ cX M2 b V S IV IS hi (aFeedT U t N a1 a2 a3 a4 a5) (t + N) ∧ v = some (.int (nI (t + N))))) := by
    intro N hN1 hN5 hNt
    rcases (show N = 1 ∨ N = 2 ∨ N = 3 ∨ N = 4 ∨ N = 5 by omega) with rfl | rfl | rfl | rfl | rfl
    · have e : aFeedT U t 1 a1 a2 a3 a4 a5 = upd U t a1 := by rw [feed_S, feed_0]; rfl
      rw [e]
      refine gJ_aload_n dX11_feed_68 rfl rfl ?_
      refine gJ_get fX11_12 dX11_feed_69 (by repeat (first | exact gUp_s | assumption | refine gUp_n ?_ (by omega))) rfl ?_
      refine gJ_iload_n dX11_feed_72 rfl rfl ?_
      refine gJ_callV (As := [_]) b_X10_append lX11_64 i_X10_append s_X10_append dX11_feed_73 (c10_append (t := t) (by omega) h1 h2 _) (by first | with_reducible assumption | with_reducible exact gUp_s | with_reducible exact gUp_n (by with_reducible assumption) (by omega) | exact gUp_n (by assumption) (by omega) | exact gUp_s | assumption) rfl rfl (Nat.le_of_ble_eq_true rfl) rfl (by decide) (fun M73 v_ h73 => ?_)
      obtain ⟨e_, rfl⟩ := h73
      replace e_ := e_.symm
      subst e_
      refine gJ_iload_n dX11_feed_76 rfl rfl ?_
      refine gJ_iconst (v := 1) dX11_feed_77 (by decide) ?_
      refine gJ_icmp_leN (tgt := 89) (a := 1) (b := 1) (by first | with_reducible rfl | rfl) (by first | with_reducible rfl | rfl) (by omega) (by omega) dX11_feed_78 (by decide) (fun _ => ?_) (fun c_ => by exfalso; omega)
      refine gJ_iload_n dX11_feed_89 rfl rfl ?_
      refine gJ_iconst (v := 2) dX11_feed_90 (by decide) ?_
      refine gJ_icmp_leN (tgt := 103) (a := 1) (b := 2) (by first | with_reducible rfl | rfl) (by first | with_reducible rfl | rfl) (by omega) (by omega) dX11_feed_91 (by decide) (fun _ => ?_) (fun c_ => by exfalso; omega)
      refine gJ_iload_n dX11_feed_103 rfl rfl ?_
      refine gJ_iconst (v := 3) dX11_feed_104 (by decide) ?_
      refine gJ_icmp_leN (tgt := 117) (a := 1) (b := 3) (by first | with_reducible rfl | rfl) (by first | with_reducible rfl | rfl) (by omega) (by omega) dX11_feed_105 (by decide) (fun _ => ?_) (fun c_ => by exfalso; omega)
      refine gJ_iload_n dX11_feed_117 rfl rfl ?_
      refine gJ_iconst (v := 4) dX11_feed_118 (by decide) ?_
      refine gJ_icmp_leN (tgt := 131) (a := 1) (b := 4) (by first | with_reducible rfl | rfl) (by first | with_reducible rfl | rfl) (by omega) (by omega) dX11_feed_119 (by decide) (fun _ => ?_) (fun c_ => by exfalso; omega)
      refine gJ_aload_n dX11_feed_131 rfl rfl ?_
      refine gJ_get fX11_12 dX11_feed_132 (by repeat (first | exact gUp_s | assumption | refine gUp_n ?_ (by omega))) rfl ?_
      refine gJ_get fX11_68 dX11_feed_135 (by repeat (first | exact gUp_s | assumption | refine gUp_n ?_ (by omega))) rfl ?_
      refine gJ_iret dX11_feed_138 rfl ?_
      have hf : gFr M (gUp (gUp M (b + 1) (cTp (b + 1) (t + 1) s)) (b + 1 + 1) (gI 60 (upd U t a1))) (b + 1) 2 := gFr_u (gFr_u gFr_r (by omega)) (by omega)
      exact ⟨gFr_w hf (by omega) (by omega), cX_tape h' hf ⟨s, gUp_n gUp_s (by omega)⟩ gUp_s, rfl⟩
    · have e : aFeedT U t 2 a1 a2 a3 a4 a5 = upd (upd U t a1) (t + 1) a2 := by rw [feed_S, feed_S, feed_0]; rfl
      rw [e]
      refine gJ_aload_n dX11_feed_68 rfl rfl ?_
      refine gJ_get fX11_12 dX11_feed_69 (by repeat (first | exact gUp_s | assumption | refine gUp_n ?_ (by omega))) rfl ?_
      refine gJ_iload_n dX11_feed_72 rfl rfl ?_
      refine gJ_callV (As := [_]) b_X10_append lX11_64 i_X10_append s_X10_append dX11_feed_73 (c10_append (t := t) (by omega) h1 h2 _) (by first | with_reducible assumption | with_reducible exact gUp_s | with_reducible exact gUp_n (by with_reducible assumption) (by omega) | exact gUp_n (by assumption) (by omega) | exact gUp_s | assumption) rfl rfl (Nat.le_of_ble_eq_true rfl) rfl (by decide) (fun M73 v_ h73 => ?_)
      obtain ⟨e_, rfl⟩ := h73
      replace e_ := e_.symm
      subst e_
      refine gJ_iload_n dX11_feed_76 rfl rfl ?_
      refine gJ_iconst (v := 1) dX11_feed_77 (by decide) ?_
      refine gJ_icmp_leN (tgt := 89) (a := 2) (b := 1) (by first | with_reducible rfl | rfl) (by first | with_reducible rfl | rfl) (by omega) (by omega) dX11_feed_78 (by decide) (fun c_ => by exfalso; omega) (fun _ => ?_)
      refine gJ_aload_n dX11_feed_81 rfl rfl ?_
      refine gJ_get fX11_12 dX11_feed_82 (by repeat (first | exact gUp_s | assumption | refine gUp_n ?_ (by omega))) rfl ?_
      refine gJ_iload_n dX11_feed_85 rfl rfl ?_
      refine gJ_callV (As := [_]) b_X10_append lX11_64 i_X10_append s_X10_append dX11_feed_86 (c10_append (t := t + 1) (by omega) (gUp_n gUp_s (by omega)) gUp_s _) (gUp_n gUp_s (by omega)) rfl rfl (Nat.le_of_ble_eq_true rfl) rfl (by decide) (fun M86 v_ h86 => ?_)
      obtain ⟨e_, rfl⟩ := h86
      replace e_ := e_.symm
      subst e_
      refine gJ_iload_n dX11_feed_89 rfl rfl ?_
      refine gJ_iconst (v := 2) dX11_feed_90 (by decide) ?_
      refine gJ_icmp_leN (tgt := 103) (a := 2) (b := 2) (by first | with_reducible rfl | rfl) (by first | with_reducible rfl | rfl) (by omega) (by omega) dX11_feed_91 (by decide) (fun _ => ?_) (fun c_ => by exfalso; omega)
      refine gJ_iload_n dX11_feed_103 rfl rfl ?_
      refine gJ_iconst (v := 3) dX11_feed_104 (by decide) ?_
      refine gJ_icmp_leN (tgt := 117) (a := 2) (b := 3) (by first | with_reducible rfl | rfl) (by first | with_reducible rfl | rfl) (by omega) (by omega) dX11_feed_105 (by decide) (fun _ => ?_) (fun c_ => by exfalso; omega)
      refine gJ_iload_n dX11_feed_117 rfl rfl ?_
      refine gJ_iconst (v := 4) dX11_feed_118 (by decide) ?_
      refine gJ_icmp_leN (tgt := 131) (a := 2) (b := 4) (by first | with_reducible rfl | rfl) (by first | with_reducible rfl | rfl) (by omega) (by omega) dX11_feed_119 (by decide) (fun _ => ?_) (fun c_ => by exfalso; omega)
      refine gJ_aload_n dX11_feed_131 rfl rfl ?_
      refine gJ_get fX11_12 dX11_feed_132 (by repeat (first | exact gUp_s | assumption | refine gUp_n ?_ (by omega))) rfl ?_
      refine gJ_get fX11_68 dX11_feed_135 (by repeat (first | exact gUp_s | assumption | refine gUp_n ?_ (by omega))) rfl ?_
      refine gJ_iret dX11_feed_138 rfl ?_
      refine ⟨gFr_w (a := b + 1) (n := 2) ?_ (by omega) (by omega), cX_tape h' ?_ ⟨s, gUp_n gUp_s (by omega)⟩ gUp_s, rfl⟩
      all_goals (repeat (first | exact gFr_r | refine gFr_u ?_ (by omega)))
    · have e : aFeedT U t 3 a1 a2 a3 a4 a5 = upd (upd (upd U t a1) (t + 1) a2) (t + 1 + 1) a3 := by rw [feed_S, feed_S, feed_S, feed_0]; rfl
      rw [e]
      refine gJ_aload_n dX11_feed_68 rfl rfl ?_
      refine gJ_get fX11_12 dX11_feed_69 (by repeat (first | exact gUp_s | assumption | refine gUp_n ?_ (by omega))) rfl ?_
      refine gJ_iload_n dX11_feed_72 rfl rfl ?_
      refine gJ_callV (As := [_]) b_X10_append lX11_64 i_X10_append s_X10_append dX11_feed_73 (c10_append (t := t) (by omega) h1 h2 _) (by first | with_reducible assumption | with_reducible exact gUp_s | with_reducible exact gUp_n (by with_reducible assumption) (by omega) | exact gUp_n (by assumption) (by omega) | exact gUp_s | assumption) rfl rfl (Nat.le_of_ble_eq_true rfl) rfl (by decide) (fun M73 v_ h73 => ?_)
      obtain ⟨e_, rfl⟩ := h73
      replace e_ := e_.symm
      subst e_
      refine gJ_iload_n dX11_feed_76 rfl rfl ?_
      refine gJ_iconst (v := 1) dX11_feed_77 (by decide) ?_
      refine gJ_icmp_leN (tgt := 89) (a := 3) (b := 1) (by first | with_reducible rfl | rfl) (by first | with_reducible rfl | rfl) (by omega) (by omega) dX11_feed_78 (by decide) (fun c_ => by exfalso; omega) (fun _ => ?_)
      refine gJ_aload_n dX11_feed_81 rfl rfl ?_
      refine gJ_get fX11_12 dX11_feed_82 (by repeat (first | exact gUp_s | assumption | refine gUp_n ?_ (by omega))) rfl ?_
      refine gJ_iload_n dX11_feed_85 rfl rfl ?_
      refine gJ_callV (As := [_]) b_X10_append lX11_64 i_X10_append s_X10_append dX11_feed_86 (c10_append (t := t + 1) (by omega) (gUp_n gUp_s (by omega)) gUp_s _) (gUp_n gUp_s (by omega)) rfl rfl (Nat.le_of_ble_eq_true rfl) rfl (by decide) (fun M86 v_ h86 => ?_)
      obtain ⟨e_, rfl⟩ := h86
      replace e_ := e_.symm
      subst e_
      refine gJ_iload_n dX11_feed_89 rfl rfl ?_
      refine gJ_iconst (v := 2) dX11_feed_90 (by decide) ?_
      refine gJ_icmp_leN (tgt := 103) (a := 3) (b := 2) (by first | with_reducible rfl | rfl) (by first | with_reducible rfl | rfl) (by omega) (by omega) dX11_feed_91 (by decide) (fun c_ => by exfalso; omega) (fun _ => ?_)
      refine gJ_aload_n dX11_feed_94 rfl rfl ?_
      refine gJ_get fX11_12 dX11_feed_95 (by repeat (first | exact gUp_s | assumption | refine gUp_n ?_ (by omega))) rfl ?_
      refine gJ_iload dX11_feed_98 rfl ?_
      refine gJ_callV (As := [_]) b_X10_append lX11_64 i_X10_append s_X10_append dX11_feed_100 (c10_append (t := t + 1 + 1) (by omega) (gUp_n gUp_s (by omega)) gUp_s _) (gUp_n gUp_s (by omega)) rfl rfl (Nat.le_of_ble_eq_true rfl) rfl (by decide) (fun M100 v_ h100 => ?_)
      obtain ⟨e_, rfl⟩ := h100
      replace e_ := e_.symm
      subst e_
      refine gJ_iload_n dX11_feed_103 rfl rfl ?_
      refine gJ_iconst (v := 3) dX11_feed_104 (by decide) ?_
      refine gJ_icmp_leN (tgt := 117) (a := 3) (b := 3) (by first | with_reducible rfl | rfl) (by first | with_reducible rfl | rfl) (by omega) (by omega) dX11_feed_105 (by decide) (fun _ => ?_) (fun c_ => by exfalso; omega)
      refine gJ_iload_n dX11_feed_117 rfl rfl ?_
      refine gJ_iconst (v := 4) dX11_feed_118 (by decide) ?_
      refine gJ_icmp_leN (tgt := 131) (a := 3) (b := 4) (by first | with_reducible rfl | rfl) (by first | with_reducible rfl | rfl) (by omega) (by omega) dX11_feed_119 (by decide) (fun _ => ?_) (fun c_ => by exfalso; omega)
      refine gJ_aload_n dX11_feed_131 rfl rfl ?_
      refine gJ_get fX11_12 dX11_feed_132 (by repeat (first | exact gUp_s | assumption | refine gUp_n ?_ (by omega))) rfl ?_
      refine gJ_get fX11_68 dX11_feed_135 (by repeat (first | exact gUp_s | assumption | refine gUp_n ?_ (by omega))) rfl ?_
      refine gJ_iret dX11_feed_138 rfl ?_
      refine ⟨gFr_w (a := b + 1) (n := 2) ?_ (by omega) (by omega), cX_tape h' ?_ ⟨s, gUp_n gUp_s (by omega)⟩ gUp_s, rfl⟩
      all_goals (repeat (first | exact gFr_r | refine gFr_u ?_ (by omega)))
    · have e : aFeedT U t 4 a1 a2 a3 a4 a5 = upd (upd (upd (upd U t a1) (t + 1) a2) (t + 1 + 1) a3) (t + 1 + 1 + 1) a4 := by rw [feed_S, feed_S, feed_S, feed_S, feed_0]; rfl
      rw [e]
      refine gJ_aload_n dX11_feed_68 rfl rfl ?_
      refine gJ_get fX11_12 dX11_feed_69 (by repeat (first | exact gUp_s | assumption | refine gUp_n ?_ (by omega))) rfl ?_
      refine gJ_iload_n dX11_feed_72 rfl rfl ?_
      refine gJ_callV (As := [_]) b_X10_append lX11_64 i_X10_append s_X10_append dX11_feed_73 (c10_append (t := t) (by omega) h1 h2 _) (by first | with_reducible assumption | with_reducible exact gUp_s | with_reducible exact gUp_n (by with_reducible assumption) (by omega) | exact gUp_n (by assumption) (by omega) | exact gUp_s | assumption) rfl rfl (Nat.le_of_ble_eq_true rfl) rfl (by decide) (fun M73 v_ h73 => ?_)
      obtain ⟨e_, rfl⟩ := h73
      replace e_ := e_.symm
      subst e_
      refine gJ_iload_n dX11_feed_76 rfl rfl ?_
      refine gJ_iconst (v := 1) dX11_feed_77 (by decide) ?_
      refine gJ_icmp_leN (tgt := 89) (a := 4) (b := 1) (by first | with_reducible rfl | rfl) (by first | with_reducible rfl | rfl) (by omega) (by omega) dX11_feed_78 (by decide) (fun c_ => by exfalso; omega) (fun _ => ?_)
      refine gJ_aload_n dX11_feed_81 rfl rfl ?_
      refine gJ_get fX11_12 dX11_feed_82 (by repeat (first | exact gUp_s | assumption | refine gUp_n ?_ (by omega))) rfl ?_
      refine gJ_iload_n dX11_feed_85 rfl rfl ?_
      refine gJ_callV (As := [_]) b_X10_append lX11_64 i_X10_append s_X10_append dX11_feed_86 (c10_append (t := t + 1) (by omega) (gUp_n gUp_s (by omega)) gUp_s _) (gUp_n gUp_s (by omega)) rfl rfl (Nat.le_of_ble_eq_true rfl) rfl (by decide) (fun M86 v_ h86 => ?_)
      obtain ⟨e_, rfl⟩ := h86
      replace e_ := e_.symm
      subst e_
      refine gJ_iload_n dX11_feed_89 rfl rfl ?_
      refine gJ_iconst (v := 2) dX11_feed_90 (by decide) ?_
      refine gJ_icmp_leN (tgt := 103) (a := 4) (b := 2) (by first | with_reducible rfl | rfl) (by first | with_reducible rfl | rfl) (by omega) (by omega) dX11_feed_91 (by decide) (fun c_ => by exfalso; omega) (fun _ => ?_)
      refine gJ_aload_n dX11_feed_94 rfl rfl ?_
      refine gJ_get fX11_12 dX11_feed_95 (by repeat (first | exact gUp_s | assumption | refine gUp_n ?_ (by omega))) rfl ?_
      refine gJ_iload dX11_feed_98 rfl ?_
      refine gJ_callV (As := [_]) b_X10_append lX11_64 i_X10_append s_X10_append dX11_feed_100 (c10_append (t := t + 1 + 1) (by omega) (gUp_n gUp_s (by omega)) gUp_s _) (gUp_n gUp_s (by omega)) rfl rfl (Nat.le_of_ble_eq_true rfl) rfl (by decide) (fun M100 v_ h100 => ?_)
      obtain ⟨e_, rfl⟩ := h100
      replace e_ := e_.symm
      subst e_
      refine gJ_iload_n dX11_feed_103 rfl rfl ?_
      refine gJ_iconst (v := 3) dX11_feed_104 (by decide) ?_
      refine gJ_icmp_leN (tgt := 117) (a := 4) (b := 3) (by first | with_reducible rfl | rfl) (by first | with_reducible rfl | rfl) (by omega) (by omega) dX11_feed_105 (by decide) (fun c_ => by exfalso; omega) (fun _ => ?_)
      refine gJ_aload_n dX11_feed_108 rfl rfl ?_
      refine gJ_get fX11_12 dX11_feed_109 (by repeat (first | exact gUp_s | assumption | refine gUp_n ?_ (by omega))) rfl ?_
      refine gJ_iload dX11_feed_112 rfl ?_
      refine gJ_callV (As := [_]) b_X10_append lX11_64 i_X10_append s_X10_append dX11_feed_114 (c10_append (t := t + 1 + 1 + 1) (by omega) (gUp_n gUp_s (by omega)) gUp_s _) (gUp_n gUp_s (by omega)) rfl rfl (Nat.le_of_ble_eq_true rfl) rfl (by decide) (fun M114 v_ h114 => ?_)
      obtain ⟨e_, rfl⟩ := h114
      replace e_ := e_.symm
      subst e_
      refine gJ_iload_n dX11_feed_117 rfl rfl ?_
      refine gJ_iconst (v := 4) dX11_feed_118 (by decide) ?_
      refine gJ_icmp_leN (tgt := 131) (a := 4) (b := 4) (by first | with_reducible rfl | rfl) (by first | with_reducible rfl | rfl) (by omega) (by omega) dX11_feed_119 (by decide) (fun _ => ?_) (fun c_ => by exfalso; omega)
      refine gJ_aload_n dX11_feed_131 rfl rfl ?_
      refine gJ_get fX11_12 dX11_feed_132 (by repeat (first | exact gUp_s | assumption | refine gUp_n ?_ (by omega))) rfl ?_
      refine gJ_get fX11_68 dX11_feed_135 (by repeat (first | exact gUp_s | assumption | refine gUp_n ?_ (by omega))) rfl ?_
      refine gJ_iret dX11_feed_138 rfl ?_
      refine ⟨gFr_w (a := b + 1) (n := 2) ?_ (by omega) (by omega), cX_tape h' ?_ ⟨s, gUp_n gUp_s (by omega)⟩ gUp_s, rfl⟩
      all_goals (repeat (first | exact gFr_r | refine gFr_u ?_ (by omega)))
    · have e : aFeedT U t 5 a1 a2 a3 a4 a5 = upd (upd (upd (upd (upd U t a1) (t + 1) a2) (t + 1 + 1) a3) (t + 1 + 1 + 1) a4) (t + 1 + 1 + 1 + 1) a5 := by rw [feed_S, feed_S, feed_S, feed_S, feed_S, feed_0]; rfl
      rw [e]
      refine gJ_aload_n dX11_feed_68 rfl rfl ?_
      refine gJ_get fX11_12 dX11_feed_69 (by repeat (first | exact gUp_s | assumption | refine gUp_n ?_ (by omega))) rfl ?_
      refine gJ_iload_n dX11_feed_72 rfl rfl ?_
      refine gJ_callV (As := [_]) b_X10_append lX11_64 i_X10_append s_X10_append dX11_feed_73 (c10_append (t := t) (by omega) h1 h2 _) (by first | with_reducible assumption | with_reducible exact gUp_s | with_reducible exact gUp_n (by with_reducible assumption) (by omega) | exact gUp_n (by assumption) (by omega) | exact gUp_s | assumption) rfl rfl (Nat.le_of_ble_eq_true rfl) rfl (by decide) (fun M73 v_ h73 => ?_)
      obtain ⟨e_, rfl⟩ := h73
      replace e_ := e_.symm
      subst e_
      refine gJ_iload_n dX11_feed_76 rfl rfl ?_
      refine gJ_iconst (v := 1) dX11_feed_77 (by decide) ?_
      refine gJ_icmp_leN (tgt := 89) (a := 5) (b := 1) (by first | with_reducible rfl | rfl) (by first | with_reducible rfl | rfl) (by omega) (by omega) dX11_feed_78 (by decide) (fun c_ => by exfalso; omega) (fun _ => ?_)
      refine gJ_aload_n dX11_feed_81 rfl rfl ?_
      refine gJ_get fX11_12 dX11_feed_82 (by repeat (first | exact gUp_s | assumption | refine gUp_n ?_ (by omega))) rfl ?_
      refine gJ_iload_n dX11_feed_85 rfl rfl ?_
      refine gJ_callV (As := [_]) b_X10_append lX11_64 i_X10_append s_X10_append dX11_feed_86 (c10_append (t := t + 1) (by omega) (gUp_n gUp_s (by omega)) gUp_s _) (gUp_n gUp_s (by omega)) rfl rfl (Nat.le_of_ble_eq_true rfl) rfl (by decide) (fun M86 v_ h86 => ?_)
      obtain ⟨e_, rfl⟩ := h86
      replace e_ := e_.symm
      subst e_
      refine gJ_iload_n dX11_feed_89 rfl rfl ?_
      refine gJ_iconst (v := 2) dX11_feed_90 (by decide) ?_
      refine gJ_icmp_leN (tgt := 103) (a := 5) (b := 2) (by first | with_reducible rfl | rfl) (by first | with_reducible rfl | rfl) (by omega) (by omega) dX11_feed_91 (by decide) (fun c_ => by exfalso; omega) (fun _ => ?_)
      refine gJ_aload_n dX11_feed_94 rfl rfl ?_
      refine gJ_get fX11_12 dX11_feed_95 (by repeat (first | exact gUp_s | assumption | refine gUp_n ?_ (by omega))) rfl ?_
      refine gJ_iload dX11_feed_98 rfl ?_
      refine gJ_callV (As := [_]) b_X10_append lX11_64 i_X10_append s_X10_append dX11_feed_100 (c10_append (t := t + 1 + 1) (by omega) (gUp_n gUp_s (by omega)) gUp_s _) (gUp_n gUp_s (by omega)) rfl rfl (Nat.le_of_ble_eq_true rfl) rfl (by decide) (fun M100 v_ h100 => ?_)
      obtain ⟨e_, rfl⟩ := h100
      replace e_ := e_.symm
      subst e_
      refine gJ_iload_n dX11_feed_103 rfl rfl ?_
      refine gJ_iconst (v := 3) dX11_feed_104 (by decide) ?_
      refine gJ_icmp_leN (tgt := 117) (a := 5) (b := 3) (by first | with_reducible rfl | rfl) (by first | with_reducible rfl | rfl) (by omega) (by omega) dX11_feed_105 (by decide) (fun c_ => by exfalso; omega) (fun _ => ?_)
      refine gJ_aload_n dX11_feed_108 rfl rfl ?_
      refine gJ_get fX11_12 dX11_feed_109 (by repeat (first | exact gUp_s | assumption | refine gUp_n ?_ (by omega))) rfl ?_
      refine gJ_iload dX11_feed_112 rfl ?_
      refine gJ_callV (As := [_]) b_X10_append lX11_64 i_X10_append s_X10_append dX11_feed_114 (c10_append (t := t + 1 + 1 + 1) (by omega) (gUp_n gUp_s (by omega)) gUp_s _) (gUp_n gUp_s (by omega)) rfl rfl (Nat.le_of_ble_eq_true rfl) rfl (by decide) (fun M114 v_ h114 => ?_)
      obtain ⟨e_, rfl⟩ := h114
      replace e_ := e_.symm
      subst e_
      refine gJ_iload_n dX11_feed_117 rfl rfl ?_
      refine gJ_iconst (v := 4) dX11_feed_118 (by decide) ?_
      refine gJ_icmp_leN (tgt := 131) (a := 5) (b := 4) (by first | with_reducible rfl | rfl) (by first | with_reducible rfl | rfl) (by omega) (by omega) dX11_feed_119 (by decide) (fun c_ => by exfalso; omega) (fun _ => ?_)
      refine gJ_aload_n dX11_feed_122 rfl rfl ?_
      refine gJ_get fX11_12 dX11_feed_123 (by repeat (first | exact gUp_s | assumption | refine gUp_n ?_ (by omega))) rfl ?_
      refine gJ_iload dX11_feed_126 rfl ?_
      refine gJ_callV (As := [_]) b_X10_append lX11_64 i_X10_append s_X10_append dX11_feed_128 (c10_append (t := t + 1 + 1 + 1 + 1) (by omega) (gUp_n gUp_s (by omega)) gUp_s _) (gUp_n gUp_s (by omega)) rfl rfl (Nat.le_of_ble_eq_true rfl) rfl (by decide) (fun M128 v_ h128 => ?_)
      obtain ⟨e_, rfl⟩ := h128
      replace e_ := e_.symm
      subst e_
      refine gJ_aload_n dX11_feed_131 rfl rfl ?_
      refine gJ_get fX11_12 dX11_feed_132 (by repeat (first | exact gUp_s | assumption | refine gUp_n ?_ (by omega))) rfl ?_
      refine gJ_get fX11_68 dX11_feed_135 (by repeat (first | exact gUp_s | assumption | refine gUp_n ?_ (by omega))) rfl ?_
      refine gJ_iret dX11_feed_138 rfl ?_
      refine ⟨gFr_w (a := b + 1) (n := 2) ?_ (by omega) (by omega), cX_tape h' ?_ ⟨s, gUp_n gUp_s (by omega)⟩ gUp_s, rfl⟩
      all_goals (repeat (first | exact gFr_r | refine gFr_u ?_ (by omega)))
  have bad : mIn n 1 5 = false ∨ mIn a1 0 127 = false ∨ mIn a2 0 127 = false ∨ mIn a3 0 127 = false ∨ mIn a4 0 127 = false ∨ mIn a5 0 127 = false → aFeed U t n a1 a2 a3 a4 a5 = (-2, U, t) := by
    intro hx
    unfold aFeed
    rw [if_neg]
    intro hy
    simp only [Bool.and_eq_true] at hy
    obtain ⟨y1, y2, y3, y4, y5, y6⟩ := hy
    rcases hx with hx | hx | hx | hx | hx | hx
    · rw [y1] at hx; cases hx
    · rw [y2] at hx; cases hx
    · rw [y3] at hx; cases hx
    · rw [y4] at hx; cases hx
    · rw [y5] at hx; cases hx
    · rw [y6] at hx; cases hx
  show gJ _ _ _ _ _ _ 0 [(0, _), (1, _), (2, _), (3, _), (4, _), (5, _), (6, _)] [] _
  refine gJ_iload_n dX11_feed_0 rfl rfl ?_
  refine gJ_iconst (v := 1) dX11_feed_1 (by decide) ?_
  refine gJ_icmp_lt (tgt := 10) dX11_feed_2 (by decide) (fun c2 => ?_) (fun c2 => ?_)
  · refine gJ_bipush (v := -2) dX11_feed_10 (by decide) ?_
    refine gJ_iret dX11_feed_12 rfl ?_
    rw [bad (Or.inl (by rw [mIn, decide_eq_false (Int32.not_le.mpr c2), Bool.false_and]))]
    exact ⟨gFr_r, h', rfl⟩
  · refine gJ_iload_n dX11_feed_5 rfl rfl ?_
    refine gJ_iconst (v := 5) dX11_feed_6 (by decide) ?_
    refine gJ_icmp_le (tgt := 13) dX11_feed_7 (by decide) (fun c7 => ?_) (fun c7 => ?_)
    · refine gJ_iload_n dX11_feed_13 rfl rfl ?_
      refine gJ_callS (As := [_]) b_X11_isByte lX11_58 i_X11_isByte dX11_feed_14 (c11_isByte a1) rfl (Nat.le_of_ble_eq_true rfl) rfl (by decide) (fun M14 v_ h14 => ?_)
      obtain ⟨e_, rfl⟩ := h14
      replace e_ := e_.symm
      subst e_
      refine gJ_if_eqB (tgt := 51) dX11_feed_17 (by decide) (fun c17 => ?_) (fun c17 => ?_)
      · refine gJ_bipush (v := -2) dX11_feed_51 (by decide) ?_
        refine gJ_iret dX11_feed_53 rfl ?_
        rw [bad (Or.inr (Or.inl c17))]
        exact ⟨gFr_r, h', rfl⟩
      · refine gJ_iload_n dX11_feed_20 rfl rfl ?_
        refine gJ_callS (As := [_]) b_X11_isByte lX11_58 i_X11_isByte dX11_feed_21 (c11_isByte a2) rfl (Nat.le_of_ble_eq_true rfl) rfl (by decide) (fun M21 v_ h21 => ?_)
        obtain ⟨e_, rfl⟩ := h21
        replace e_ := e_.symm
        subst e_
        refine gJ_if_eqB (tgt := 51) dX11_feed_24 (by decide) (fun c24 => ?_) (fun c24 => ?_)
        · refine gJ_bipush (v := -2) dX11_feed_51 (by decide) ?_
          refine gJ_iret dX11_feed_53 rfl ?_
          rw [bad (Or.inr (Or.inr (Or.inl c24)))]
          exact ⟨gFr_r, h', rfl⟩
        · refine gJ_iload dX11_feed_27 rfl ?_
          refine gJ_callS (As := [_]) b_X11_isByte lX11_58 i_X11_isByte dX11_feed_29 (c11_isByte a3) rfl (Nat.le_of_ble_eq_true rfl) rfl (by decide) (fun M29 v_ h29 => ?_)
          obtain ⟨e_, rfl⟩ := h29
          replace e_ := e_.symm
          subst e_
          refine gJ_if_eqB (tgt := 51) dX11_feed_32 (by decide) (fun c32 => ?_) (fun c32 => ?_)
          · refine gJ_bipush (v := -2) dX11_feed_51 (by decide) ?_
            refine gJ_iret dX11_feed_53 rfl ?_
            rw [bad (Or.inr (Or.inr (Or.inr (Or.inl c32))))]
            exact ⟨gFr_r, h', rfl⟩
          · refine gJ_iload dX11_feed_35 rfl ?_
            refine gJ_callS (As := [_]) b_X11_isByte lX11_58 i_X11_isByte dX11_feed_37 (c11_isByte a4) rfl (Nat.le_of_ble_eq_true rfl) rfl (by decide) (fun M37 v_ h37 => ?_)
            obtain ⟨e_, rfl⟩ := h37
            replace e_ := e_.symm
            subst e_
            refine gJ_if_eqB (tgt := 51) dX11_feed_40 (by decide) (fun c40 => ?_) (fun c40 => ?_)
            · refine gJ_bipush (v := -2) dX11_feed_51 (by decide) ?_
              refine gJ_iret dX11_feed_53 rfl ?_
              rw [bad (Or.inr (Or.inr (Or.inr (Or.inr (Or.inl c40)))))]
              exact ⟨gFr_r, h', rfl⟩
            · refine gJ_iload dX11_feed_43 rfl ?_
              refine gJ_callS (As := [_]) b_X11_isByte lX11_58 i_X11_isByte dX11_feed_45 (c11_isByte a5) rfl (Nat.le_of_ble_eq_true rfl) rfl (by decide) (fun M45 v_ h45 => ?_)
              obtain ⟨e_, rfl⟩ := h45
              replace e_ := e_.symm
              subst e_
              refine gJ_if_neB (tgt := 54) dX11_feed_48 (by decide) (fun c48 => ?_) (fun c48 => ?_)
              · have hn : mIn n 1 5 = true := (by rw [mIn, decide_eq_true (Int32.not_lt.mp c2), decide_eq_true c7]; rfl)
                obtain ⟨N, hN1, hN0, hN2, hN3⟩ := mIn_nat (lo := 1) (hi := 5) hn (by decide)
                subst hN2
                have hA : aFeed U t (nI N) a1 a2 a3 a4 a5 = (if t + N ≤ 60 then (nI (t + N), aFeedT U t N a1 a2 a3 a4 a5, t + N) else (-4, U, t)) := (by rw [aFeed, if_pos (by rw [hn, c17, c24, c32, c40, c48]; rfl), hN3])
                rw [hA]
                refine gJ_aload_n dX11_feed_54 rfl rfl ?_
                refine gJ_get fX11_12 dX11_feed_55 (by first | with_reducible assumption | with_reducible exact gUp_s | with_reducible exact gUp_n (by with_reducible assumption) (by omega) | exact gUp_n (by assumption) (by omega) | exact gUp_s | assumption) rfl ?_
                refine gJ_iload_n dX11_feed_58 rfl rfl ?_
                refine gJ_callV (As := [_]) b_X10_hasRoomFor lX11_61 i_X10_hasRoomFor s_X10_hasRoomFor dX11_feed_59 (c10_hasRoomFor ht h1 N hN1) (by first | with_reducible assumption | with_reducible exact gUp_s | with_reducible exact gUp_n (by with_reducible assumption) (by omega) | exact gUp_n (by assumption) (by omega) | exact gUp_s | assumption) rfl rfl (Nat.le_of_ble_eq_true rfl) rfl (by decide) (fun M59 v_ h59 => ?_)
                obtain ⟨e_, rfl⟩ := h59
                replace e_ := e_.symm
                subst e_
                refine gJ_if_neB (tgt := 68) dX11_feed_62 (by decide) (fun c62 => ?_) (fun c62 => ?_)
                · rw [if_pos (of_decide_eq_true c62)]
                  exact gJ_ls (fin N hN0 hN1 (of_decide_eq_true c62)) ⟨rfl, rfl, rfl, rfl, rfl, rfl, rfl, trivial⟩
                · refine gJ_bipush (v := -4) dX11_feed_65 (by decide) ?_
                  refine gJ_iret dX11_feed_67 rfl ?_
                  rw [if_neg (of_decide_eq_false c62)]
                  exact ⟨gFr_r, h', rfl⟩
              · refine gJ_bipush (v := -2) dX11_feed_51 (by decide) ?_
                refine gJ_iret dX11_feed_53 rfl ?_
                rw [bad (Or.inr (Or.inr (Or.inr (Or.inr (Or.inr c48)))))]
                exact ⟨gFr_r, h', rfl⟩
    · refine gJ_bipush (v := -2) dX11_feed_10 (by decide) ?_
      refine gJ_iret dX11_feed_12 rfl ?_
      rw [bad (Or.inl (by rw [mIn, decide_eq_false c7, Bool.and_false]))]
      exact ⟨gFr_r, h', rfl⟩
end CLS
