/-! THE CLASS' SETUP IS WRITTEN -/
theorem cMat_W {M : gM} {E q f : Nat} {V W : Nat → Int32} (h : cMat M E q V f) (hm : mMs V f) (hW : ∀ i, f ≤ i → i < f + 5 → W i = V i) : cMat M E q W f := by
  obtain ⟨e0, q1, q2, L, Z, e1, e2, g0, g1, g2, g3⟩ := h
  obtain ⟨hf, n, hn, hVn, -⟩ := hm
  have hnn := mN_of hVn (by omega)
  have eN : ∀ i, f ≤ i → i < f + 5 → mN W i = mN V i := fun i h1 hi => by unfold mN; rw [hW i h1 hi]
  refine ⟨e0, q1, q2, L, Z, e1, e2, by rw [hW f (by omega) (by omega)]; exact g0, g1, g2, fun j hj => ?_⟩
  rw [eN f (by omega) (by omega)] at hj
  rw [eN (f + (j + 1)) (by omega) (by omega)]
  exact g3 j hj
theorem cRul_W {M : gM} {E r : Nat} {o : Option Nat} {V W : Nat → Int32} (h : cRul M E V r o) (hr : r < 5) (hI : mI V) (hW : ∀ i, 60 + 10 * r ≤ i → i < 60 + 10 * r + 10 → W i = V i) : cRul M E W r o := by
  rcases h with ⟨h1, h2⟩ | ⟨h1, q, mq, h2, h3, h4, h5⟩
  · exact Or.inl ⟨by rw [hW _ (by omega) (by omega)]; exact h1, h2⟩
  · exact Or.inr ⟨by rw [hW _ (by omega) (by omega)]; exact h1, q, mq, h2, h3, by rw [hW _ (by omega) (by omega), hW _ (by omega) (by omega), hW _ (by omega) (by omega), hW _ (by omega) (by omega)]; exact h4, cMat_W h5 (hI.2.2.1 r hr).2.1 (fun i h1 h2 => hW i (by omega) (by omega))⟩
theorem cSil_W {M : gM} {E r : Nat} {o : Option Nat} {V W : Nat → Int32} (h : cSil M E V r o) (hr : r < 6) (hI : mI V) (hW : ∀ i, 110 + 8 * r ≤ i → i < 110 + 8 * r + 8 → W i = V i) : cSil M E W r o := by
  rcases h with ⟨h1, h2⟩ | ⟨h1, q, mq, h2, h3, h4, h5⟩
  · exact Or.inl ⟨by rw [hW _ (by omega) (by omega)]; exact h1, h2⟩
  · exact Or.inr ⟨by rw [hW _ (by omega) (by omega)]; exact h1, q, mq, h2, h3, by rw [hW _ (by omega) (by omega), hW _ (by omega) (by omega)]; exact h4, cMat_W h5 (hI.2.2.2.1 r hr).2 (fun i h1 h2 => hW i (by omega) (by omega))⟩
theorem cInh_W {M : gM} {E r : Nat} {o : Option Nat} {V W : Nat → Int32} (h : cInh M E V r o) (hr : r < 4) (hI : mI V) (hW : ∀ i, 158 + 12 * r ≤ i → i < 158 + 12 * r + 12 → W i = V i) : cInh M E W r o := by
  rcases h with ⟨h1, h2⟩ | ⟨h1, q, mq, nq, h2, h3, h4, h5, h6⟩
  · exact Or.inl ⟨by rw [hW _ (by omega) (by omega)]; exact h1, h2⟩
  · exact Or.inr ⟨by rw [hW _ (by omega) (by omega)]; exact h1, q, mq, nq, h2, h3, by rw [hW _ (by omega) (by omega)]; exact h4, cMat_W h5 (hI.2.2.2.2.1 r hr).2.1 (fun i h1 h2 => hW i (by omega) (by omega)), cMat_W h6 (hI.2.2.2.2.1 r hr).2.2.1 (fun i h1 h2 => hW i (by omega) (by omega))⟩
theorem cSets_W {V W : Nat → Int32} (hL : ∀ i, i < 36 → W i = V i) (hR : ∀ r, r < 5 → W (60 + 10 * r) = V (60 + 10 * r) ∧ W (60 + 10 * r + 9) = V (60 + 10 * r + 9)) : cSets W = cSets V := by
  funext i
  unfold cSets
  by_cases h : i < 20
  · rw [if_pos h, if_pos h]
    refine lS_ext fun a ha => ?_
    unfold cSet
    rw [hL _ (by omega), hL _ (by omega), hL _ (by omega), (hR (a / 12) (by omega)).1, (hR (a / 12) (by omega)).2]
  · rw [if_neg h, if_neg h]
theorem cLab_up {V : Nat → Int32} {s l : Nat} {x : Int32} (hs : s < 12) (hl : l < 3) : upd (cLab V) (l * 12 + s) x = cLab (upd V (3 * s + l) x) := by
  funext i
  show (if i = l * 12 + s then x else cLab V i) = (if i < 36 then (if 3 * (i % 12) + i / 12 = 3 * s + l then x else V (3 * (i % 12) + i / 12)) else 0)
  by_cases h : i < 36
  · rw [if_pos h]
    by_cases e : i = l * 12 + s
    · rw [if_pos e, if_pos (by omega)]
    · rw [if_neg e, if_neg (by omega)]; exact if_pos h
  · rw [if_neg (by omega), if_neg h]; exact if_neg h
theorem cHas_up {V : Nat → Int32} {s : Nat} {x : Int32} (hs : s < 12) : upd (cHas V) s x = cHas (upd V (48 + s) x) := by
  funext i
  show (if i = s then x else cHas V i) = (if i < 12 then (if 48 + i = 48 + s then x else V (48 + i)) else 0)
  by_cases h : i < 12
  · rw [if_pos h]
    by_cases e : i = s
    · rw [if_pos e, if_pos (by omega)]
    · rw [if_neg e, if_neg (by omega)]; exact if_pos h
  · rw [if_neg (by omega), if_neg h]; exact if_neg h
theorem cPar_up {V : Nat → Int32} {s : Nat} {x : Int32} (hs : s < 5) : upd (cPar V) s x = cPar (upd V (1842 + s) x) := by
  funext i
  show (if i = s then x else cPar V i) = (if i < 5 then (if 1842 + i = 1842 + s then x else V (1842 + i)) else 0)
  by_cases h : i < 5
  · rw [if_pos h]
    by_cases e : i = s
    · rw [if_pos e, if_pos (by omega)]
    · rw [if_neg e, if_neg (by omega)]; exact if_pos h
  · rw [if_neg (by omega), if_neg h]; exact if_neg h
theorem mB_up {V : Nat → Int32} {i j n : Nat} {x : Int32} (h : mB V i n) (hij : i ≠ j) : mB (upd V j x) i n := by
  obtain ⟨y, e1, e2⟩ := h
  exact ⟨y, e1, by rw [pk_un hij, e2]⟩
theorem mMs_up {V W : Nat → Int32} {f : Nat} (h : mMs V f) (hW : ∀ i, f ≤ i → i < f + 5 → W i = V i) : mMs W f := by
  obtain ⟨e0, n, e1, e2, e3⟩ := h
  refine ⟨e0, n, e1, by rw [hW f (by omega) (by omega), e2], fun j hj => ?_⟩
  obtain ⟨mm, g1, g2⟩ := e3 j hj
  exact ⟨mm, g1, by rw [hW _ (by omega) (by omega), g2]⟩
/-- one place of the row is another value -/
theorem mI_up {V : Nat → Int32} {j : Nat} {x : Int32} (h : mI V) (hx : (j < 36 ∧ ∃ v, v ≤ (if j % 3 = 1 then 7 else 3) ∧ x = nI v) ∨ (36 ≤ j ∧ j < 48) ∨ (48 ≤ j ∧ j < 60 ∧ (x = 0 ∨ x = 1)) ∨ (j = 1842 ∧ ∃ v, v ≤ 60 ∧ x = nI v) ∨ (j = 1843 ∧ ∃ v, v ≤ 999 ∧ x = nI v) ∨ (j = 1844 ∧ ∃ v, v ≤ 999 ∧ x = nI v) ∨ (j = 1845 ∧ ∃ v, v ≤ 20 ∧ x = nI v) ∨ (j = 1846 ∧ ∃ v, v ≤ 7 ∧ x = nI v)) : mI (upd V j x) := by
  obtain ⟨i1, i2, i3, i4, i5, i6, i7, p0, p1, p2, p3, p4⟩ := h
  refine ⟨fun i hi => ?_, fun s hs => ?_, fun r hr => ?_, fun k hk => ?_, fun k hk => ?_, fun a ha => ?_, fun k hk => ?_, ?_, ?_, ?_, ?_, ?_⟩
  · by_cases e : i = j
    · subst e
      rcases hx with ⟨-, v, h1, h2⟩ | h | ⟨h, -⟩ | ⟨h, -⟩ | ⟨h, -⟩ | ⟨h, -⟩ | ⟨h, -⟩ | ⟨h, -⟩
      · exact ⟨v, h1, by rw [pk_us, h2]⟩
      all_goals omega
    · exact mB_up (i1 i hi) e
  · by_cases e : 48 + s = j
    · subst e
      rcases hx with ⟨h, -⟩ | h | ⟨-, -, h | h⟩ | ⟨h, -⟩ | ⟨h, -⟩ | ⟨h, -⟩ | ⟨h, -⟩ | ⟨h, -⟩
      · omega
      · omega
      · exact ⟨0, by omega, by rw [pk_us, h]; rfl⟩
      · exact ⟨1, by omega, by rw [pk_us, h]; rfl⟩
      all_goals omega
    · exact mB_up (i2 s hs) e
  · have hj : ¬ (60 ≤ j ∧ j < 1842) := by rcases hx with ⟨h, -⟩ | h | ⟨-, h, -⟩ | ⟨h, -⟩ | ⟨h, -⟩ | ⟨h, -⟩ | ⟨h, -⟩ | ⟨h, -⟩ <;> omega
    obtain ⟨e1, e2, e3, e4, e5⟩ := i3 r hr
    exact ⟨mB_up e1 (by omega), mMs_up e2 (fun i h1 h2 => pk_un (by omega)), mB_up e3 (by omega), mB_up e4 (by omega), mB_up e5 (by omega)⟩
  · have hj : ¬ (60 ≤ j ∧ j < 1842) := by rcases hx with ⟨h, -⟩ | h | ⟨-, h, -⟩ | ⟨h, -⟩ | ⟨h, -⟩ | ⟨h, -⟩ | ⟨h, -⟩ | ⟨h, -⟩ <;> omega
    obtain ⟨e1, e2⟩ := i4 k hk
    exact ⟨mB_up e1 (by omega), mMs_up e2 (fun i h1 h2 => pk_un (by omega))⟩
  · have hj : ¬ (60 ≤ j ∧ j < 1842) := by rcases hx with ⟨h, -⟩ | h | ⟨-, h, -⟩ | ⟨h, -⟩ | ⟨h, -⟩ | ⟨h, -⟩ | ⟨h, -⟩ | ⟨h, -⟩ <;> omega
    obtain ⟨e1, e2, e3, e4⟩ := i5 k hk
    exact ⟨mB_up e1 (by omega), mMs_up e2 (fun i h1 h2 => pk_un (by omega)), mMs_up e3 (fun i h1 h2 => pk_un (by omega)), mB_up e4 (by omega)⟩
  · have hj : ¬ (60 ≤ j ∧ j < 1842) := by rcases hx with ⟨h, -⟩ | h | ⟨-, h, -⟩ | ⟨h, -⟩ | ⟨h, -⟩ | ⟨h, -⟩ | ⟨h, -⟩ | ⟨h, -⟩ <;> omega
    exact ⟨mB_up (i6 a ha).1 (by omega), mB_up (i6 a ha).2 (by omega)⟩
  · have hj : ¬ (60 ≤ j ∧ j < 1842) := by rcases hx with ⟨h, -⟩ | h | ⟨-, h, -⟩ | ⟨h, -⟩ | ⟨h, -⟩ | ⟨h, -⟩ | ⟨h, -⟩ | ⟨h, -⟩ <;> omega
    exact mB_up (i7 k hk) (by omega)
  · by_cases e : 1842 = j
    · subst e
      rcases hx with ⟨h, -⟩ | h | ⟨-, h, -⟩ | ⟨-, v, h1, h2⟩ | ⟨h, -⟩ | ⟨h, -⟩ | ⟨h, -⟩ | ⟨h, -⟩ <;> first | omega | exact ⟨v, h1, by rw [pk_us, h2]⟩
    · exact mB_up p0 e
  · by_cases e : 1843 = j
    · subst e
      rcases hx with ⟨h, -⟩ | h | ⟨-, h, -⟩ | ⟨h, -⟩ | ⟨-, v, h1, h2⟩ | ⟨h, -⟩ | ⟨h, -⟩ | ⟨h, -⟩ <;> first | omega | exact ⟨v, h1, by rw [pk_us, h2]⟩
    · exact mB_up p1 e
  · by_cases e : 1844 = j
    · subst e
      rcases hx with ⟨h, -⟩ | h | ⟨-, h, -⟩ | ⟨h, -⟩ | ⟨h, -⟩ | ⟨-, v, h1, h2⟩ | ⟨h, -⟩ | ⟨h, -⟩ <;> first | omega | exact ⟨v, h1, by rw [pk_us, h2]⟩
    · exact mB_up p2 e
  · by_cases e : 1845 = j
    · subst e
      rcases hx with ⟨h, -⟩ | h | ⟨-, h, -⟩ | ⟨h, -⟩ | ⟨h, -⟩ | ⟨h, -⟩ | ⟨-, v, h1, h2⟩ | ⟨h, -⟩ <;> first | omega | exact ⟨v, h1, by rw [pk_us, h2]⟩
    · exact mB_up p3 e
  · by_cases e : 1846 = j
    · subst e
      rcases hx with ⟨h, -⟩ | h | ⟨-, h, -⟩ | ⟨h, -⟩ | ⟨h, -⟩ | ⟨h, -⟩ | ⟨h, -⟩ | ⟨-, v, h1, h2⟩ <;> first | omega | exact ⟨v, h1, by rw [pk_us, h2]⟩
    · exact mB_up p4 e
section CLS
variable {G : gG} {M : gM} {p E : Nat} {V : Nat → Int32}
set_option maxHeartbeats 1000000 in
set_option maxRecDepth 20000 in
theorem c7_relabel (h : cRS M E p V) (hE : p + 9 ≤ E) (hI : mI V) (s l : Nat) (hs : s < 12) (hl : l < 3) (x : Int32) (hx : ∃ v, v ≤ (if l = 1 then 7 else 3) ∧ x = nI v) : gCon G kX7_relabel 1 0 0 M [.ref p, .int (nI s), .int (nI l), .int x] (fun M2 v => gFr M M2 p 9 ∧ cRS M2 E p (upd V (3 * s + l) x) ∧ v = some (.int (V (3 * s + l)))) := by
  obtain ⟨X, RU, SI, IN, h0, h1, h2, h3, h4, h5, h6, h7, h8, hX, hR, hS, hN⟩ := h
  have hlab := cLab_at (V := V) hl hs
  have hup := cLab_up (V := V) (x := x) hs hl
  have hI2 : mI (upd V (3 * s + l) x) := mI_up hI (Or.inl ⟨by omega, by obtain ⟨v, h1, h2⟩ := hx; exact ⟨v, by rw [show (3 * s + l) % 3 = l by omega]; exact h1, h2⟩⟩)
  have hk1 : gKp M (gUp M (p + 1) (gI 36 (cLab (upd V (3 * s + l) x)))) E := fun q c hq hc => gUp_n hc (by omega)
  have hR2 : ∀ r, r < 5 → cRul (gUp M (p + 1) (gI 36 (cLab (upd V (3 * s + l) x)))) E (upd V (3 * s + l) x) r (RU r) := fun r hr => cRul_kp (cRul_W (hR r hr) hr hI (fun i h1 h2 => pk_un (by omega))) hk1
  have hC := c7_sortLabels (G := G) (M := gUp M (p + 1) (gI 36 (cLab (upd V (3 * s + l) x)))) (V := upd V (3 * s + l) x) (E := E) (gUp_n h0 (by omega)) gUp_s (gUp_n h4 (by omega)) hE hR2 (gUp_n h8 (by omega)) hI2
  refine gCon_of (by decide) (Nat.le_of_ble_eq_true rfl) ?_
  show gJ _ _ _ _ _ _ 0 [(0, _), (1, _), (2, _), (3, _)] [] _
  refine gJ_aload_n dX7_relabel_0 rfl rfl ?_
  refine gJ_get fX7_9 dX7_relabel_1 (by first | with_reducible assumption | with_reducible exact gUp_s | with_reducible exact gUp_n (by with_reducible assumption) (by omega) | exact gUp_n (by assumption) (by omega) | exact gUp_s | assumption) rfl ?_
  refine gJ_iload_n dX7_relabel_4 rfl rfl ?_
  refine gJ_bipush (v := 12) dX7_relabel_5 (by decide) ?_
  refine gJ_imulN (a := l) (b := 12) dX7_relabel_7 (by first | with_reducible rfl | rfl) (by first | with_reducible rfl | rfl) ?_
  refine gJ_iload_n dX7_relabel_8 rfl rfl ?_
  refine gJ_iaddN (a := (l * 12)) (b := s) dX7_relabel_9 (by first | with_reducible rfl | rfl) (by first | with_reducible rfl | rfl) ?_
  refine gJ_ialdN (j := ((l * 12) + s)) dX7_relabel_10 (by first | with_reducible assumption | with_reducible exact gUp_s | with_reducible exact gUp_n (by with_reducible assumption) (by omega) | exact gUp_n (by assumption) (by omega) | exact gUp_s | assumption) (by first | with_reducible rfl | rfl) (by omega) (by decide) ?_
  rw [hlab]
  refine gJ_istore (lv2 := [(4, _), (0, _), (1, _), (2, _), (3, _)]) dX7_relabel_11 rfl rfl ?_
  refine gJ_aload_n dX7_relabel_13 rfl rfl ?_
  refine gJ_get fX7_9 dX7_relabel_14 (by first | with_reducible assumption | with_reducible exact gUp_s | with_reducible exact gUp_n (by with_reducible assumption) (by omega) | exact gUp_n (by assumption) (by omega) | exact gUp_s | assumption) rfl ?_
  refine gJ_iload_n dX7_relabel_17 rfl rfl ?_
  refine gJ_bipush (v := 12) dX7_relabel_18 (by decide) ?_
  refine gJ_imulN (a := l) (b := 12) dX7_relabel_20 (by first | with_reducible rfl | rfl) (by first | with_reducible rfl | rfl) ?_
  refine gJ_iload_n dX7_relabel_21 rfl rfl ?_
  refine gJ_iaddN (a := (l * 12)) (b := s) dX7_relabel_22 (by first | with_reducible rfl | rfl) (by first | with_reducible rfl | rfl) ?_
  refine gJ_iload_n dX7_relabel_23 rfl rfl ?_
  refine gJ_iastN (j := ((l * 12) + s)) dX7_relabel_24 (by first | with_reducible assumption | with_reducible exact gUp_s | with_reducible exact gUp_n (by with_reducible assumption) (by omega) | exact gUp_n (by assumption) (by omega) | exact gUp_s | assumption) (by first | with_reducible rfl | rfl) (by omega) (by decide) ?_
  try rw [gUp_up]
  rw [hup]
  refine gJ_aload_n dX7_relabel_25 rfl rfl ?_
  refine gJ_callV (As := []) b_X7_sortLabels lX7_47 i_X7_sortLabels s_X7_sortLabels dX7_relabel_26 (hC) (gUp_n h0 (by omega)) rfl rfl (Nat.le_of_ble_eq_true rfl) rfl (by decide) (fun M26 v_ h26 => ?_)
  obtain ⟨e26, rfl⟩ := h26
  replace e26 := e26.symm
  subst e26
  refine gJ_iload dX7_relabel_29 rfl ?_
  refine gJ_iret dX7_relabel_31 rfl ?_
  have hk2 : gKp M (gUp (gUp M (p + 1) (gI 36 (cLab (upd V (3 * s + l) x)))) (p + 8) (gL 20 (cSets (upd V (3 * s + l) x)))) E := (fun q c hq hc => gUp_n (hk1 q c hq hc) (by omega))
  refine ⟨gFr_u (gFr_u gFr_r (by omega)) (by omega), ⟨X, RU, SI, IN, gUp_n (gUp_n h0 (by omega)) (by omega), gUp_n gUp_s (by omega), gUp_n (gUp_n h2 (by omega)) (by omega), ?_, gUp_n (gUp_n h4 (by omega)) (by omega), gUp_n (gUp_n h5 (by omega)) (by omega), gUp_n (gUp_n h6 (by omega)) (by omega), ?_, gUp_s, fun j hj hz => ?_, fun r hr => cRul_kp (cRul_W (hR r hr) hr hI (fun i h1 h2 => pk_un (by omega))) hk2, fun r hr => cSil_kp (cSil_W (hS r hr) hr hI (fun i h1 h2 => pk_un (by omega))) hk2, fun r hr => cInh_kp (cInh_W (hN r hr) hr hI (fun i h1 h2 => pk_un (by omega))) hk2⟩, rfl⟩
  · rw [show cHas (upd V (3 * s + l) x) = cHas V from funext (fun i => by unfold cHas; by_cases hi : i < 12; rw [if_pos hi, if_pos hi, pk_un (by omega)]; rw [if_neg hi, if_neg hi])]; exact gUp_n (gUp_n h3 (by omega)) (by omega)
  · rw [show cPar (upd V (3 * s + l) x) = cPar V from funext (fun i => by unfold cPar; by_cases hi : i < 5; rw [if_pos hi, if_pos hi, pk_un (by omega)]; rw [if_neg hi, if_neg hi])]; exact gUp_n (gUp_n h7 (by omega)) (by omega)
  · rw [pk_un (by omega)] at hz ⊢; exact hX j hj hz
end CLS
