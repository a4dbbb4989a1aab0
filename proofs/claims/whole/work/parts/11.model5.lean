theorem mI_of {V W : Nat → Int32} (h : mI V) (h1 : ∀ i, i < 206 → W i = V i) (h2 : ∀ i, 1842 ≤ i → i < 1847 → W i = V i) (ha : ∀ a, a < 60 → mB W (206 + 23 * a) 2 ∧ mB W (206 + 23 * a + 2) 20) (hg : ∀ k, k < 128 → mB W (1586 + 2 * k) 1) : mI W := by
  have b1 : ∀ i n, i < 206 → mB V i n → mB W i n := fun i n hi ⟨x, e1, e2⟩ => ⟨x, e1, by rw [h1 i hi, e2]⟩
  have b2 : ∀ i n, 1842 ≤ i → i < 1847 → mB V i n → mB W i n := fun i n hi hi2 ⟨x, e1, e2⟩ => ⟨x, e1, by rw [h2 i hi hi2, e2]⟩
  have b3 : ∀ f, mMs V f → mMs W f := fun f ⟨e0, n, e1, e2, e3⟩ => ⟨e0, n, e1, by rw [h1 f (by omega), e2], fun j hj => by
    obtain ⟨mm, g1, g2⟩ := e3 j hj
    exact ⟨mm, g1, by rw [h1 _ (by omega), g2]⟩⟩
  obtain ⟨i1, i2, i3, i4, i5, i6, i7, p0, p1, p2, p3, p4⟩ := h
  refine ⟨fun i hi => b1 _ _ (by omega) (i1 i hi), fun s hs => b1 _ _ (by omega) (i2 s hs), fun r hr => ?_, fun k hk => ?_, fun k hk => ?_, ha, hg, b2 _ _ (by omega) (by omega) p0, b2 _ _ (by omega) (by omega) p1, b2 _ _ (by omega) (by omega) p2, b2 _ _ (by omega) (by omega) p3, b2 _ _ (by omega) (by omega) p4⟩
  · obtain ⟨e1, e2, e3, e4, e5⟩ := i3 r hr
    exact ⟨b1 _ _ (by omega) e1, b3 _ e2, b1 _ _ (by omega) e3, b1 _ _ (by omega) e4, b1 _ _ (by omega) e5⟩
  · obtain ⟨e1, e2⟩ := i4 k hk
    exact ⟨b1 _ _ (by omega) e1, b3 _ e2⟩
  · obtain ⟨e1, e2, e3, e4⟩ := i5 k hk
    exact ⟨b1 _ _ (by omega) e1, b3 _ e2, b3 _ e3, b1 _ _ (by omega) e4⟩
/-- turns touches the alert's own part alone -/
theorem mTurns_out {V : Nat → Int32} {a i : Nat} (hn : mB V (206 + 23 * a + 2) 20) (h : i < 206 + 23 * a + 2 ∨ 206 + 23 * a + 23 ≤ i) : mTurns V a i = V i := by
  obtain ⟨c, hc, hVc⟩ := hn
  have hcN := mN_of hVc (by omega)
  unfold mTurns
  rw [hcN]
  by_cases e : V (206 + 23 * a + 2) = 20
  · rw [if_pos e, if_neg (by omega), if_neg (by omega)]
  · have : c ≠ 20 := fun h => e (by rw [hVc, h]; rfl)
    rw [if_neg e, if_neg (by omega), if_neg (by omega)]
theorem mTurns_n {V : Nat → Int32} {a : Nat} (hn : mB V (206 + 23 * a + 2) 20) : mB (mTurns V a) (206 + 23 * a + 2) 20 := by
  obtain ⟨c, hc, hVc⟩ := hn
  have hcN := mN_of hVc (by omega)
  unfold mTurns
  rw [hcN]
  by_cases e : V (206 + 23 * a + 2) = 20
  · rw [if_pos e]
    exact ⟨20, by omega, by simp only; rw [if_neg (by omega), if_neg (by omega)]; exact e⟩
  · have : c ≠ 20 := fun h => e (by rw [hVc, h]; rfl)
    rw [if_neg e]
    exact ⟨c + 1, by omega, by simp⟩
theorem mGo_out {V : Nat → Int32} {a i : Nat} (hn : mB V (206 + 23 * a + 2) 20) (h : i < 206 + 23 * a ∨ 206 + 23 * a + 23 ≤ i) : mGo V a i = V i := by
  have hn2 : mB (upd (upd V (206 + 23 * a) 2) (206 + 23 * a + 1) (V 1847)) (206 + 23 * a + 2) 20 := by
    obtain ⟨c, e1, e2⟩ := hn
    exact ⟨c, e1, by rw [pk_un (by omega), pk_un (by omega), e2]⟩
  unfold mGo
  have t1 := mTurns_out (i := i) hn (by omega)
  have t2 := mTurns_out (i := i) hn2 (by omega)
  have u : ∀ (f : Nat → Int32) (x : Int32), upd f (206 + 23 * a) x i = f i := fun f x => pk_un (by omega)
  have u2 : ∀ (f : Nat → Int32) (x : Int32), upd f (206 + 23 * a + 1) x i = f i := fun f x => pk_un (by omega)
  repeat' split
  all_goals simp only [t1, t2, u, u2]
theorem mGo_s {V : Nat → Int32} {a : Nat} (hs : mB V (206 + 23 * a) 2) (hn : mB V (206 + 23 * a + 2) 20) : mB (mGo V a) (206 + 23 * a) 2 ∧ mB (mGo V a) (206 + 23 * a + 2) 20 := by
  have hn2 : mB (upd (upd V (206 + 23 * a) 2) (206 + 23 * a + 1) (V 1847)) (206 + 23 * a + 2) 20 := by
    obtain ⟨c, e1, e2⟩ := hn
    exact ⟨c, e1, by rw [pk_un (by omega), pk_un (by omega), e2]⟩
  have t2 := mTurns_out (i := 206 + 23 * a) hn2 (by omega)
  rw [pk_un (by omega), pk_us] at t2
  have t3 := mTurns_n hn2
  have t1 := mTurns_n hn
  unfold mGo
  repeat' split
  · exact ⟨⟨1, by omega, by rw [pk_un (by omega), pk_us]; rfl⟩, by obtain ⟨c, e1, e2⟩ := hn; exact ⟨c, e1, by rw [pk_un (by omega), pk_un (by omega), e2]⟩⟩
  · exact ⟨⟨2, by omega, by rw [t2]; rfl⟩, t3⟩
  · exact ⟨hs, hn⟩
  · exact ⟨⟨2, by omega, by rw [t2]; rfl⟩, t3⟩
  · exact ⟨hs, hn⟩
  · exact ⟨⟨0, by omega, by rw [pk_us]; rfl⟩, by obtain ⟨c, e1, e2⟩ := t1; exact ⟨c, e1, by rw [pk_un (by omega), e2]⟩⟩
  · exact ⟨⟨0, by omega, by rw [pk_us]; rfl⟩, by obtain ⟨c, e1, e2⟩ := hn; exact ⟨c, e1, by rw [pk_un (by omega), e2]⟩⟩
theorem mGo_I {V : Nat → Int32} {a : Nat} (h : mI V) (ha : a < 60) : mI (mGo V a) := by
  have h0 := h.2.2.2.2.2.1
  have hh := h0 a ha
  refine mI_of h (fun i hi => mGo_out hh.2 (by omega)) (fun i h1 h2 => mGo_out hh.2 (by omega)) (fun b hb => ?_) (fun k hk => ?_)
  · by_cases e : b = a
    · subst e
      exact mGo_s hh.1 hh.2
    · obtain ⟨⟨x, e1, e2⟩, ⟨y, e3, e4⟩⟩ := h0 b hb
      exact ⟨⟨x, e1, by rw [mGo_out hh.2 (by omega), e2]⟩, ⟨y, e3, by rw [mGo_out hh.2 (by omega), e4]⟩⟩
  · obtain ⟨x, e1, e2⟩ := h.2.2.2.2.2.2.1 k hk
    exact ⟨x, e1, by rw [mGo_out hh.2 (by omega), e2]⟩
def mGos (V : Nat → Int32) : Nat → (Nat → Int32)
  | 0 => V
  | n + 1 => mGo (mGos V n) n
theorem mGos_I {V : Nat → Int32} (h : mI V) : ∀ n, n ≤ 60 → mI (mGos V n)
  | 0, _ => h
  | n + 1, hn => mGo_I (mGos_I h n (by omega)) (by omega)
section MODEL
variable {G : gG} {M : gM} {m : Nat} {hi tn at_ fa : Int32} {V : Nat → Int32} {S : Nat → Int64}
set_option maxRecDepth 20000 in
theorem c12_goesOn (hm : M.1 m = some (mO m hi tn at_ fa)) (hV : M.1 (m + 1) = some (gI 1999 V)) (hI : mI V) (a : Nat) (ha : a < 60) : gCon G kX12_goesOn 2 0 0 M [.ref m, .int (nI a)] (fun M2 v => M2 = gUp M (m + 1) (gI 1999 (mGo V a)) ∧ v = none) := by
  have hn := (hI.2.2.2.2.2.1 a ha).2
  have h77 : (upd (upd V (206 + 23 * a) 1) (206 + 23 * a + 1) (V 1847)) (206 + 23 * a) = 1 := by rw [pk_un (by omega), pk_us]
  have h89 : (upd (upd V (206 + 23 * a) 1) (206 + 23 * a + 1) (V 1847)) 1847 = V 1847 := by rw [pk_un (by omega), pk_un (by omega)]
  have h97 : (upd (upd V (206 + 23 * a) 1) (206 + 23 * a + 1) (V 1847)) (206 + 23 * a + 1) = V 1847 := by rw [pk_us]
  have h116 : (upd (upd V (206 + 23 * a) 1) (206 + 23 * a + 1) (V 1847)) (60 + 10 * (a / 12) + 8) = V (60 + 10 * (a / 12) + 8) := by rw [pk_un (by omega), pk_un (by omega)]
  have hE : upd (upd (upd (upd V (206 + 23 * a) 1) (206 + 23 * a + 1) (V 1847)) (206 + 23 * a) 2) (206 + 23 * a + 1) (V 1847) = upd (upd V (206 + 23 * a) 2) (206 + 23 * a + 1) (V 1847) := by funext i; simp only [upd]; grind
  have h70 : (upd V (206 + 23 * a) 1) 1847 = V 1847 := by rw [pk_un (by omega)]
  have h141 : (upd (upd (upd V (206 + 23 * a) 1) (206 + 23 * a + 1) (V 1847)) (206 + 23 * a) 2) 1847 = V 1847 := by rw [pk_un (by omega), h89]
  have h141b : (upd V (206 + 23 * a) 2) 1847 = V 1847 := by rw [pk_un (by omega)]
  refine gCon_of (by decide) (Nat.le_of_ble_eq_true rfl) ?_
  show gJ _ _ _ _ _ _ 0 [(0, _), (1, _)] [] _
  refine gJ_sipush (v := 206) dX12_goesOn_0 (by decide) ?_
  refine gJ_bipush (v := 23) dX12_goesOn_3 (by decide) ?_
  refine gJ_iload_n dX12_goesOn_5 rfl rfl ?_
  refine gJ_imulN (a := 23) (b := a) dX12_goesOn_6 (by first | with_reducible rfl | rfl) (by first | with_reducible rfl | rfl) ?_
  refine gJ_iaddN (a := 206) (b := (23 * a)) dX12_goesOn_7 (by first | with_reducible rfl | rfl) (by first | with_reducible rfl | rfl) ?_
  refine gJ_istore_n (lv2 := [(2, _), (0, _), (1, _)]) dX12_goesOn_8 rfl rfl rfl ?_
  refine gJ_aload_n dX12_goesOn_9 rfl rfl ?_
  refine gJ_iload_n dX12_goesOn_10 rfl rfl ?_
  refine gJ_callV (As := [_]) b_X12_holds lX12_132 i_X12_holds s_X12_holds dX12_goesOn_11 (c12_holds hm hV hI a ha) (by first | assumption | exact gUp_s | exact gUp_n (by assumption) (by omega)) rfl rfl (Nat.le_of_ble_eq_true rfl) rfl (by decide) (fun M11 v_ h11 => ?_)
  obtain ⟨rfl, rfl⟩ := h11
  refine gJ_if_neB (tgt := 40) dX12_goesOn_14 (by decide) (fun c14 => ?_) (fun c14 => ?_)
  · refine gJ_aload_n dX12_goesOn_40 rfl rfl ?_
    refine gJ_get fX12_9 dX12_goesOn_41 (by first | assumption | exact gUp_s | exact gUp_n (by assumption) (by omega)) rfl ?_
    refine gJ_iload_n dX12_goesOn_44 rfl rfl ?_
    refine gJ_ialdN (j := (206 + (23 * a))) dX12_goesOn_45 (by first | assumption | exact gUp_s | exact gUp_n (by assumption) (by omega)) (by first | with_reducible rfl | rfl) (by omega) (by decide) ?_
    refine gJ_if_ne (tgt := 72) dX12_goesOn_46 (by decide) (fun c46 => ?_) (fun c46 => ?_)
    · refine gJ_aload_n dX12_goesOn_72 rfl rfl ?_
      refine gJ_get fX12_9 dX12_goesOn_73 (by first | assumption | exact gUp_s | exact gUp_n (by assumption) (by omega)) rfl ?_
      refine gJ_iload_n dX12_goesOn_76 rfl rfl ?_
      refine gJ_ialdN (j := (206 + (23 * a))) dX12_goesOn_77 (by first | assumption | exact gUp_s | exact gUp_n (by assumption) (by omega)) (by first | with_reducible rfl | rfl) (by omega) (by decide) ?_
      refine gJ_iconst (v := 1) dX12_goesOn_78 (by decide) ?_
      refine gJ_icmp_ne (tgt := 148) dX12_goesOn_79 (by decide) (fun c79 => ?_) (fun c79 => ?_)
      · refine gJ_vret dX12_goesOn_148 rfl ?_
        refine ⟨?_, rfl⟩
        first | rw [mGo, if_pos c14, if_neg c46, if_neg c79, gUp_id hV] | rw [mGo, if_pos c14, if_neg c46, if_pos c79, if_pos c117, gUp_id hV] | rw [mGo, if_pos c14, if_neg c46, if_pos c79, if_neg c117] | rw [mGo, if_pos c14, if_pos c46, if_pos c117] | rw [mGo, if_pos c14, if_pos c46, if_neg c117, hE]
      · refine gJ_aload_n dX12_goesOn_82 rfl rfl ?_
        refine gJ_get fX12_9 dX12_goesOn_83 (by first | assumption | exact gUp_s | exact gUp_n (by assumption) (by omega)) rfl ?_
        refine gJ_sipush (v := 1847) dX12_goesOn_86 (by decide) ?_
        refine gJ_ialdN (j := 1847) dX12_goesOn_89 (by first | assumption | exact gUp_s | exact gUp_n (by assumption) (by omega)) (by first | with_reducible rfl | rfl) (by omega) (by decide) ?_
        refine gJ_aload_n dX12_goesOn_90 rfl rfl ?_
        refine gJ_get fX12_9 dX12_goesOn_91 (by first | assumption | exact gUp_s | exact gUp_n (by assumption) (by omega)) rfl ?_
        refine gJ_iload_n dX12_goesOn_94 rfl rfl ?_
        refine gJ_iconst (v := 1) dX12_goesOn_95 (by decide) ?_
        refine gJ_iaddN (a := (206 + (23 * a))) (b := 1) dX12_goesOn_96 (by first | with_reducible rfl | rfl) (by first | with_reducible rfl | rfl) ?_
        refine gJ_ialdN (j := ((206 + (23 * a)) + 1)) dX12_goesOn_97 (by first | assumption | exact gUp_s | exact gUp_n (by assumption) (by omega)) (by first | with_reducible rfl | rfl) (by omega) (by decide) ?_
        refine gJ_isub dX12_goesOn_98 ?_
        refine gJ_aload_n dX12_goesOn_99 rfl rfl ?_
        refine gJ_get fX12_9 dX12_goesOn_100 (by first | assumption | exact gUp_s | exact gUp_n (by assumption) (by omega)) rfl ?_
        refine gJ_bipush (v := 60) dX12_goesOn_103 (by decide) ?_
        refine gJ_bipush (v := 10) dX12_goesOn_105 (by decide) ?_
        refine gJ_iload_n dX12_goesOn_107 rfl rfl ?_
        refine gJ_bipush (v := 12) dX12_goesOn_108 (by decide) ?_
        refine gJ_idivN (a := a) (b := 12) dX12_goesOn_110 (by first | with_reducible rfl | rfl) (by first | with_reducible rfl | rfl) (by omega) (by decide) ?_
        refine gJ_imulN (a := 10) (b := (a / 12)) dX12_goesOn_111 (by first | with_reducible rfl | rfl) (by first | with_reducible rfl | rfl) ?_
        refine gJ_iaddN (a := 60) (b := (10 * (a / 12))) dX12_goesOn_112 (by first | with_reducible rfl | rfl) (by first | with_reducible rfl | rfl) ?_
        refine gJ_bipush (v := 8) dX12_goesOn_113 (by decide) ?_
        refine gJ_iaddN (a := (60 + (10 * (a / 12)))) (b := 8) dX12_goesOn_115 (by first | with_reducible rfl | rfl) (by first | with_reducible rfl | rfl) ?_
        refine gJ_ialdN (j := ((60 + (10 * (a / 12))) + 8)) dX12_goesOn_116 (by first | assumption | exact gUp_s | exact gUp_n (by assumption) (by omega)) (by first | with_reducible rfl | rfl) (by omega) (by decide) ?_
        refine gJ_icmp_lt (tgt := 148) dX12_goesOn_117 (by decide) (fun c117 => ?_) (fun c117 => ?_)
        · refine gJ_vret dX12_goesOn_148 rfl ?_
          refine ⟨?_, rfl⟩
          first | rw [mGo, if_pos c14, if_neg c46, if_neg c79, gUp_id hV] | rw [mGo, if_pos c14, if_neg c46, if_pos c79, if_pos c117, gUp_id hV] | rw [mGo, if_pos c14, if_neg c46, if_pos c79, if_neg c117] | rw [mGo, if_pos c14, if_pos c46, if_pos c117] | rw [mGo, if_pos c14, if_pos c46, if_neg c117, hE]
        · refine gJ_aload_n dX12_goesOn_120 rfl rfl ?_
          refine gJ_get fX12_9 dX12_goesOn_121 (by first | assumption | exact gUp_s | exact gUp_n (by assumption) (by omega)) rfl ?_
          refine gJ_iload_n dX12_goesOn_124 rfl rfl ?_
          refine gJ_iconst (v := 2) dX12_goesOn_125 (by decide) ?_
          refine gJ_iastN (j := (206 + (23 * a))) dX12_goesOn_126 (by first | assumption | exact gUp_s | exact gUp_n (by assumption) (by omega)) (by first | with_reducible rfl | rfl) (by omega) (by decide) ?_
          try rw [gUp_up]
          refine gJ_aload_n dX12_goesOn_127 rfl rfl ?_
          refine gJ_get fX12_9 dX12_goesOn_128 (by first | assumption | exact gUp_s | exact gUp_n (by assumption) (by omega)) rfl ?_
          refine gJ_iload_n dX12_goesOn_131 rfl rfl ?_
          refine gJ_iconst (v := 1) dX12_goesOn_132 (by decide) ?_
          refine gJ_iaddN (a := (206 + (23 * a))) (b := 1) dX12_goesOn_133 (by first | with_reducible rfl | rfl) (by first | with_reducible rfl | rfl) ?_
          refine gJ_aload_n dX12_goesOn_134 rfl rfl ?_
          refine gJ_get fX12_9 dX12_goesOn_135 (by first | assumption | exact gUp_s | exact gUp_n (by assumption) (by omega)) rfl ?_
          refine gJ_sipush (v := 1847) dX12_goesOn_138 (by decide) ?_
          refine gJ_ialdN (j := 1847) dX12_goesOn_141 (by first | assumption | exact gUp_s | exact gUp_n (by assumption) (by omega)) (by first | with_reducible rfl | rfl) (by omega) (by decide) ?_
          rw [h141b]
          refine gJ_iastN (j := ((206 + (23 * a)) + 1)) dX12_goesOn_142 (by first | assumption | exact gUp_s | exact gUp_n (by assumption) (by omega)) (by first | with_reducible rfl | rfl) (by omega) (by decide) ?_
          try rw [gUp_up]
          refine gJ_aload_n dX12_goesOn_143 rfl rfl ?_
          refine gJ_iload_n dX12_goesOn_144 rfl rfl ?_
          refine gJ_callV (As := [_]) b_X12_turns lX12_135 i_X12_turns s_X12_turns dX12_goesOn_145 (c12_turns (gUp_n hm (by omega)) gUp_s a ha (by obtain ⟨c, e1, e2⟩ := hn; exact ⟨c, e1, by simp only [upd]; grind⟩)) (by first | assumption | exact gUp_s | exact gUp_n (by assumption) (by omega)) rfl rfl (Nat.le_of_ble_eq_true rfl) rfl (by decide) (fun M145 v_ h145 => ?_)
          obtain ⟨rfl, rfl⟩ := h145
          rw [gUp_up]
          refine gJ_vret dX12_goesOn_148 rfl ?_
          refine ⟨?_, rfl⟩
          first | rw [mGo, if_pos c14, if_neg c46, if_neg c79, gUp_id hV] | rw [mGo, if_pos c14, if_neg c46, if_pos c79, if_pos c117, gUp_id hV] | rw [mGo, if_pos c14, if_neg c46, if_pos c79, if_neg c117] | rw [mGo, if_pos c14, if_pos c46, if_pos c117] | rw [mGo, if_pos c14, if_pos c46, if_neg c117, hE]
    · refine gJ_aload_n dX12_goesOn_49 rfl rfl ?_
      refine gJ_get fX12_9 dX12_goesOn_50 (by first | assumption | exact gUp_s | exact gUp_n (by assumption) (by omega)) rfl ?_
      refine gJ_iload_n dX12_goesOn_53 rfl rfl ?_
      refine gJ_iconst (v := 1) dX12_goesOn_54 (by decide) ?_
      refine gJ_iastN (j := (206 + (23 * a))) dX12_goesOn_55 (by first | assumption | exact gUp_s | exact gUp_n (by assumption) (by omega)) (by first | with_reducible rfl | rfl) (by omega) (by decide) ?_
      try rw [gUp_up]
      refine gJ_aload_n dX12_goesOn_56 rfl rfl ?_
      refine gJ_get fX12_9 dX12_goesOn_57 (by first | assumption | exact gUp_s | exact gUp_n (by assumption) (by omega)) rfl ?_
      refine gJ_iload_n dX12_goesOn_60 rfl rfl ?_
      refine gJ_iconst (v := 1) dX12_goesOn_61 (by decide) ?_
      refine gJ_iaddN (a := (206 + (23 * a))) (b := 1) dX12_goesOn_62 (by first | with_reducible rfl | rfl) (by first | with_reducible rfl | rfl) ?_
      refine gJ_aload_n dX12_goesOn_63 rfl rfl ?_
      refine gJ_get fX12_9 dX12_goesOn_64 (by first | assumption | exact gUp_s | exact gUp_n (by assumption) (by omega)) rfl ?_
      refine gJ_sipush (v := 1847) dX12_goesOn_67 (by decide) ?_
      refine gJ_ialdN (j := 1847) dX12_goesOn_70 (by first | assumption | exact gUp_s | exact gUp_n (by assumption) (by omega)) (by first | with_reducible rfl | rfl) (by omega) (by decide) ?_
      rw [h70]
      refine gJ_iastN (j := ((206 + (23 * a)) + 1)) dX12_goesOn_71 (by first | assumption | exact gUp_s | exact gUp_n (by assumption) (by omega)) (by first | with_reducible rfl | rfl) (by omega) (by decide) ?_
      try rw [gUp_up]
      refine gJ_aload_n dX12_goesOn_72 rfl rfl ?_
      refine gJ_get fX12_9 dX12_goesOn_73 (by first | assumption | exact gUp_s | exact gUp_n (by assumption) (by omega)) rfl ?_
      refine gJ_iload_n dX12_goesOn_76 rfl rfl ?_
      refine gJ_ialdN (j := (206 + (23 * a))) dX12_goesOn_77 (by first | assumption | exact gUp_s | exact gUp_n (by assumption) (by omega)) (by first | with_reducible rfl | rfl) (by omega) (by decide) ?_
      rw [h77]
      refine gJ_iconst (v := 1) dX12_goesOn_78 (by decide) ?_
      refine gJ_icmp_neN (tgt := 148) (a := 1) (b := 1) (by first | with_reducible rfl | rfl) (by first | with_reducible rfl | rfl) (by omega) (by omega) dX12_goesOn_79 (by decide) (fun c_ => by exfalso; omega) (fun _ => ?_)
      refine gJ_aload_n dX12_goesOn_82 rfl rfl ?_
      refine gJ_get fX12_9 dX12_goesOn_83 (by first | assumption | exact gUp_s | exact gUp_n (by assumption) (by omega)) rfl ?_
      refine gJ_sipush (v := 1847) dX12_goesOn_86 (by decide) ?_
      refine gJ_ialdN (j := 1847) dX12_goesOn_89 (by first | assumption | exact gUp_s | exact gUp_n (by assumption) (by omega)) (by first | with_reducible rfl | rfl) (by omega) (by decide) ?_
      rw [h89]
      refine gJ_aload_n dX12_goesOn_90 rfl rfl ?_
      refine gJ_get fX12_9 dX12_goesOn_91 (by first | assumption | exact gUp_s | exact gUp_n (by assumption) (by omega)) rfl ?_
      refine gJ_iload_n dX12_goesOn_94 rfl rfl ?_
      refine gJ_iconst (v := 1) dX12_goesOn_95 (by decide) ?_
      refine gJ_iaddN (a := (206 + (23 * a))) (b := 1) dX12_goesOn_96 (by first | with_reducible rfl | rfl) (by first | with_reducible rfl | rfl) ?_
      refine gJ_ialdN (j := ((206 + (23 * a)) + 1)) dX12_goesOn_97 (by first | assumption | exact gUp_s | exact gUp_n (by assumption) (by omega)) (by first | with_reducible rfl | rfl) (by omega) (by decide) ?_
      rw [h97]
      refine gJ_isub dX12_goesOn_98 ?_
      refine gJ_aload_n dX12_goesOn_99 rfl rfl ?_
      refine gJ_get fX12_9 dX12_goesOn_100 (by first | assumption | exact gUp_s | exact gUp_n (by assumption) (by omega)) rfl ?_
      refine gJ_bipush (v := 60) dX12_goesOn_103 (by decide) ?_
      refine gJ_bipush (v := 10) dX12_goesOn_105 (by decide) ?_
      refine gJ_iload_n dX12_goesOn_107 rfl rfl ?_
      refine gJ_bipush (v := 12) dX12_goesOn_108 (by decide) ?_
      refine gJ_idivN (a := a) (b := 12) dX12_goesOn_110 (by first | with_reducible rfl | rfl) (by first | with_reducible rfl | rfl) (by omega) (by decide) ?_
      refine gJ_imulN (a := 10) (b := (a / 12)) dX12_goesOn_111 (by first | with_reducible rfl | rfl) (by first | with_reducible rfl | rfl) ?_
      refine gJ_iaddN (a := 60) (b := (10 * (a / 12))) dX12_goesOn_112 (by first | with_reducible rfl | rfl) (by first | with_reducible rfl | rfl) ?_
      refine gJ_bipush (v := 8) dX12_goesOn_113 (by decide) ?_
      refine gJ_iaddN (a := (60 + (10 * (a / 12)))) (b := 8) dX12_goesOn_115 (by first | with_reducible rfl | rfl) (by first | with_reducible rfl | rfl) ?_
      refine gJ_ialdN (j := ((60 + (10 * (a / 12))) + 8)) dX12_goesOn_116 (by first | assumption | exact gUp_s | exact gUp_n (by assumption) (by omega)) (by first | with_reducible rfl | rfl) (by omega) (by decide) ?_
      rw [h116]
      refine gJ_icmp_lt (tgt := 148) dX12_goesOn_117 (by decide) (fun c117 => ?_) (fun c117 => ?_)
      · refine gJ_vret dX12_goesOn_148 rfl ?_
        refine ⟨?_, rfl⟩
        first | rw [mGo, if_pos c14, if_neg c46, if_neg c79, gUp_id hV] | rw [mGo, if_pos c14, if_neg c46, if_pos c79, if_pos c117, gUp_id hV] | rw [mGo, if_pos c14, if_neg c46, if_pos c79, if_neg c117] | rw [mGo, if_pos c14, if_pos c46, if_pos c117] | rw [mGo, if_pos c14, if_pos c46, if_neg c117, hE]
      · refine gJ_aload_n dX12_goesOn_120 rfl rfl ?_
        refine gJ_get fX12_9 dX12_goesOn_121 (by first | assumption | exact gUp_s | exact gUp_n (by assumption) (by omega)) rfl ?_
        refine gJ_iload_n dX12_goesOn_124 rfl rfl ?_
        refine gJ_iconst (v := 2) dX12_goesOn_125 (by decide) ?_
        refine gJ_iastN (j := (206 + (23 * a))) dX12_goesOn_126 (by first | assumption | exact gUp_s | exact gUp_n (by assumption) (by omega)) (by first | with_reducible rfl | rfl) (by omega) (by decide) ?_
        try rw [gUp_up]
        refine gJ_aload_n dX12_goesOn_127 rfl rfl ?_
        refine gJ_get fX12_9 dX12_goesOn_128 (by first | assumption | exact gUp_s | exact gUp_n (by assumption) (by omega)) rfl ?_
        refine gJ_iload_n dX12_goesOn_131 rfl rfl ?_
        refine gJ_iconst (v := 1) dX12_goesOn_132 (by decide) ?_
        refine gJ_iaddN (a := (206 + (23 * a))) (b := 1) dX12_goesOn_133 (by first | with_reducible rfl | rfl) (by first | with_reducible rfl | rfl) ?_
        refine gJ_aload_n dX12_goesOn_134 rfl rfl ?_
        refine gJ_get fX12_9 dX12_goesOn_135 (by first | assumption | exact gUp_s | exact gUp_n (by assumption) (by omega)) rfl ?_
        refine gJ_sipush (v := 1847) dX12_goesOn_138 (by decide) ?_
        refine gJ_ialdN (j := 1847) dX12_goesOn_141 (by first | assumption | exact gUp_s | exact gUp_n (by assumption) (by omega)) (by first | with_reducible rfl | rfl) (by omega) (by decide) ?_
        rw [h141]
        refine gJ_iastN (j := ((206 + (23 * a)) + 1)) dX12_goesOn_142 (by first | assumption | exact gUp_s | exact gUp_n (by assumption) (by omega)) (by first | with_reducible rfl | rfl) (by omega) (by decide) ?_
        try rw [gUp_up]
        refine gJ_aload_n dX12_goesOn_143 rfl rfl ?_
        refine gJ_iload_n dX12_goesOn_144 rfl rfl ?_
        refine gJ_callV (As := [_]) b_X12_turns lX12_135 i_X12_turns s_X12_turns dX12_goesOn_145 (c12_turns (gUp_n hm (by omega)) gUp_s a ha (by obtain ⟨c, e1, e2⟩ := hn; exact ⟨c, e1, by simp only [upd]; grind⟩)) (by first | assumption | exact gUp_s | exact gUp_n (by assumption) (by omega)) rfl rfl (Nat.le_of_ble_eq_true rfl) rfl (by decide) (fun M145 v_ h145 => ?_)
        obtain ⟨rfl, rfl⟩ := h145
        rw [gUp_up]
        refine gJ_vret dX12_goesOn_148 rfl ?_
        refine ⟨?_, rfl⟩
        first | rw [mGo, if_pos c14, if_neg c46, if_neg c79, gUp_id hV] | rw [mGo, if_pos c14, if_neg c46, if_pos c79, if_pos c117, gUp_id hV] | rw [mGo, if_pos c14, if_neg c46, if_pos c79, if_neg c117] | rw [mGo, if_pos c14, if_pos c46, if_pos c117] | rw [mGo, if_pos c14, if_pos c46, if_neg c117, hE]
  · refine gJ_aload_n dX12_goesOn_17 rfl rfl ?_
    refine gJ_get fX12_9 dX12_goesOn_18 (by first | assumption | exact gUp_s | exact gUp_n (by assumption) (by omega)) rfl ?_
    refine gJ_iload_n dX12_goesOn_21 rfl rfl ?_
    refine gJ_ialdN (j := (206 + (23 * a))) dX12_goesOn_22 (by first | assumption | exact gUp_s | exact gUp_n (by assumption) (by omega)) (by first | with_reducible rfl | rfl) (by omega) (by decide) ?_
    refine gJ_iconst (v := 2) dX12_goesOn_23 (by decide) ?_
    refine gJ_icmp_ne (tgt := 32) dX12_goesOn_24 (by decide) (fun c24 => ?_) (fun c24 => ?_)
    · refine gJ_aload_n dX12_goesOn_32 rfl rfl ?_
      refine gJ_get fX12_9 dX12_goesOn_33 (by first | assumption | exact gUp_s | exact gUp_n (by assumption) (by omega)) rfl ?_
      refine gJ_iload_n dX12_goesOn_36 rfl rfl ?_
      refine gJ_iconst (v := 0) dX12_goesOn_37 (by decide) ?_
      refine gJ_iastN (j := (206 + (23 * a))) dX12_goesOn_38 (by first | assumption | exact gUp_s | exact gUp_n (by assumption) (by omega)) (by first | with_reducible rfl | rfl) (by omega) (by decide) ?_
      try rw [gUp_up]
      refine gJ_vret dX12_goesOn_39 rfl ?_
      refine ⟨?_, rfl⟩
      congr 2
      congr 2
      simp only [mGo, c14, c24, Bool.false_eq_true, ↓reduceIte]
    · refine gJ_aload_n dX12_goesOn_27 rfl rfl ?_
      refine gJ_iload_n dX12_goesOn_28 rfl rfl ?_
      refine gJ_callV (As := [_]) b_X12_turns lX12_135 i_X12_turns s_X12_turns dX12_goesOn_29 (c12_turns hm hV a ha hn) (by first | assumption | exact gUp_s | exact gUp_n (by assumption) (by omega)) rfl rfl (Nat.le_of_ble_eq_true rfl) rfl (by decide) (fun M29 v_ h29 => ?_)
      obtain ⟨rfl, rfl⟩ := h29
      refine gJ_aload_n dX12_goesOn_32 rfl rfl ?_
      refine gJ_get fX12_9 dX12_goesOn_33 (by first | assumption | exact gUp_s | exact gUp_n (by assumption) (by omega)) rfl ?_
      refine gJ_iload_n dX12_goesOn_36 rfl rfl ?_
      refine gJ_iconst (v := 0) dX12_goesOn_37 (by decide) ?_
      refine gJ_iastN (j := (206 + (23 * a))) dX12_goesOn_38 (by first | assumption | exact gUp_s | exact gUp_n (by assumption) (by omega)) (by first | with_reducible rfl | rfl) (by omega) (by decide) ?_
      try rw [gUp_up]
      refine gJ_vret dX12_goesOn_39 rfl ?_
      refine ⟨?_, rfl⟩
      congr 2
      congr 2
      simp only [mGo, c14, c24, Bool.false_eq_true, ↓reduceIte]
end MODEL
