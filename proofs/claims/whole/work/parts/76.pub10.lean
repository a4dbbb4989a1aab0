theorem mB_z {V W : Nat → Int32} {i n : Nat} (h : mB V i n) (hw : W i = V i ∨ W i = 0) : mB W i n := by
  obtain ⟨x, h1, h2⟩ := h
  rcases hw with e | e
  · exact ⟨x, h1, e.trans h2⟩
  · exact ⟨0, Nat.zero_le _, e⟩
theorem mRem_c {V : Nat → Int32} {kind k : Nat} (i : Nat) : mRem V kind k i = V i ∨ mRem V kind k i = 0 := by
  unfold mRem
  split
  · exact Or.inr rfl
  split
  · exact Or.inr rfl
  · exact Or.inl rfl
theorem mRem_at {V : Nat → Int32} {kind k : Nat} (hk : kind < 3) (h : k < mMst kind) : mRem V kind k (mFst kind + mWid kind * k) = 0 := by
  have := mIdx_b h
  unfold mRem
  rw [if_neg (by omega), if_pos rfl]
theorem mRem_o {V : Nat → Int32} {kind k i : Nat} (h : i < 206 ∨ 1586 ≤ i ∨ ¬ kind = 0) (hi : i ≠ mFst kind + mWid kind * k) (hk5 : kind = 0 → k < 5) : mRem V kind k i = V i := by
  unfold mRem
  rw [if_neg (by omega), if_neg hi]
theorem mRem_I {V : Nat → Int32} {kind k : Nat} (hI : mI V) (hk : kind < 3) (h : k < mMst kind) : mI (mRem V kind k) := by
  have c := fun i => mRem_c (V := V) (kind := kind) (k := k) i
  have h5 : kind = 0 → k < 5 := fun e => by subst e; exact h
  have pl : (kind = 0 ∧ k < 5 ∧ mFst kind + mWid kind * k = 60 + 10 * k) ∨ (kind = 1 ∧ k < 6 ∧ mFst kind + mWid kind * k = 110 + 8 * k) ∨ (kind = 2 ∧ k < 4 ∧ mFst kind + mWid kind * k = 158 + 12 * k) := by
    rcases (show kind = 0 ∨ kind = 1 ∨ kind = 2 by omega) with rfl | rfl | rfl
    · exact Or.inl ⟨rfl, h, rfl⟩
    · exact Or.inr (Or.inl ⟨rfl, h, rfl⟩)
    · exact Or.inr (Or.inr ⟨rfl, h, rfl⟩)
  obtain ⟨i1, i2, i3, i4, i5, i6, i7, p0, p1, p2, p3, p4⟩ := hI
  refine ⟨fun i hi => mB_z (i1 i hi) (c _), fun s hs => mB_z (i2 s hs) (c _), fun r hr => ?_, fun r hr => ?_, fun r hr => ?_, fun a ha => ⟨mB_z (i6 a ha).1 (c _), mB_z (i6 a ha).2 (c _)⟩, fun k hk => mB_z (i7 k hk) (c _), mB_z p0 (c _), mB_z p1 (c _), mB_z p2 (c _), mB_z p3 (c _), mB_z p4 (c _)⟩
  · obtain ⟨e1, e2, e3, e4, e5⟩ := i3 r hr
    exact ⟨mB_z e1 (c _), mMs_up e2 (fun i h1 h2 => mRem_o (by omega) (by omega) h5), mB_z e3 (c _), mB_z e4 (c _), mB_z e5 (c _)⟩
  · obtain ⟨e1, e2⟩ := i4 r hr
    exact ⟨mB_z e1 (c _), mMs_up e2 (fun i h1 h2 => mRem_o (by omega) (by omega) h5)⟩
  · obtain ⟨e1, e2, e3, e4⟩ := i5 r hr
    exact ⟨mB_z e1 (c _), mMs_up e2 (fun i h1 h2 => mRem_o (by omega) (by omega) h5), mMs_up e3 (fun i h1 h2 => mRem_o (by omega) (by omega) h5), mB_z e4 (c _)⟩
theorem mRem_J {V : Nat → Int32} {kind k : Nat} (hJ : mJ V) (hk : kind < 3) (h : k < mMst kind) : mJ (mRem V kind k) := by
  intro a ha hz
  have hz2 : ¬ V (206 + 23 * a) = 0 := by
    rcases mRem_c (V := V) (kind := kind) (k := k) (206 + 23 * a) with e | e
    · rwa [e] at hz
    · exact absurd e hz
  have h1 := hJ a ha hz2
  rcases (show kind = 0 ∨ kind = 1 ∨ kind = 2 by omega) with rfl | rfl | rfl
  · have hk5 : k < 5 := h
    by_cases e : a / 12 = k
    · exfalso
      apply hz
      unfold mRem
      rw [if_pos ⟨rfl, by omega, by omega⟩]
    · have e2 : mFst 0 + mWid 0 * k = 60 + 10 * k := rfl
      rw [mRem_o (by omega) (by omega) (fun _ => hk5)]; exact h1
  · have e2 : mFst 1 + mWid 1 * k = 110 + 8 * k := rfl
    rw [mRem_o (by omega) (by omega) (fun h => absurd h (by decide))]; exact h1
  · have e2 : mFst 2 + mWid 2 * k = 158 + 12 * k := rfl
    rw [mRem_o (by omega) (by omega) (fun h => absurd h (by decide))]; exact h1
theorem aRem_I {V : Nat → Int32} (hI : mI V) (w x : Int32) : mI (aRem V w x).2 := by
  unfold aRem
  by_cases h : (mIn w 0 2 && mOne V w.toNatClampNeg x) = true
  · rw [if_pos h]
    rw [Bool.and_eq_true] at h
    obtain ⟨z, hz1, -, rfl, hz3⟩ := mIn_nat (lo := 0) (hi := 2) h.1 (by decide)
    rw [hz3] at h ⊢
    have h2 := h.2
    rw [mOne, Bool.and_eq_true] at h2
    have hb := mMst_b z
    obtain ⟨j, hj1, -, rfl, hj3⟩ := mIn_nat (lo := 0) (hi := mMst z - 1) h2.1 (by omega)
    rw [hj3]
    exact mRem_I hI (by omega) (by omega)
  · rw [if_neg h]; exact hI
theorem aRem_J {V : Nat → Int32} (hJ : mJ V) (w x : Int32) : mJ (aRem V w x).2 := by
  unfold aRem
  by_cases h : (mIn w 0 2 && mOne V w.toNatClampNeg x) = true
  · rw [if_pos h]
    rw [Bool.and_eq_true] at h
    obtain ⟨z, hz1, -, rfl, hz3⟩ := mIn_nat (lo := 0) (hi := 2) h.1 (by decide)
    rw [hz3] at h ⊢
    have h2 := h.2
    rw [mOne, Bool.and_eq_true] at h2
    have hb := mMst_b z
    obtain ⟨j, hj1, -, rfl, hj3⟩ := mIn_nat (lo := 0) (hi := mMst z - 1) h2.1 (by omega)
    rw [hj3]
    exact mRem_J hJ (by omega) (by omega)
  · rw [if_neg h]; exact hJ
section CLS
variable {G : gG} {M : gM} {E p : Nat} {V W : Nat → Int32} {X : Nat → Int32} {RU SI IN : Nat → Option Nat}
/-- the setup behind a rule's slot that took another entry, once its sets are made anew -/
theorem cRS_putR {o : Option Nat} {k : Nat} (s0 : M.1 p = some (cSu p)) (s1 : M.1 (p + 1) = some (gI 36 (cLab V))) (s2 : M.1 (p + 2) = some (gI 12 X)) (s3 : M.1 (p + 3) = some (gZ 12 (cHas V))) (s5 : M.1 (p + 5) = some (gR 4 6 SI)) (s6 : M.1 (p + 6) = some (gR 5 4 IN)) (s7 : M.1 (p + 7) = some (gI 5 (cPar V))) (sX : ∀ s, s < 12 → ¬ V (48 + s) = 0 → X s = V (36 + s)) (sS : ∀ k, k < 6 → cSil M E V k (SI k)) (sN : ∀ k, k < 4 → cInh M E V k (IN k)) (hI : mI V) (hE : p + 9 ≤ E) (hk : k < 5) (hW : ∀ i, (i < 60 + 10 * k ∨ (70 + 10 * k ≤ i ∧ i < 206) ∨ 1586 ≤ i) → W i = V i) (hR : ∀ r, r < 5 → cRul (gUp M (p + 4) (gR 3 5 (va_up RU k o))) E W r (va_up RU k o r)) : gFr M (gUp (gUp M (p + 4) (gR 3 5 (va_up RU k o))) (p + 8) (gL 20 (cSets W))) p 9 ∧ cRS (gUp (gUp M (p + 4) (gR 3 5 (va_up RU k o))) (p + 8) (gL 20 (cSets W))) E p W := by
  have hf : gFr M (gUp (gUp M (p + 4) (gR 3 5 (va_up RU k o))) (p + 8) (gL 20 (cSets W))) p 9 := gFr_u (gFr_u gFr_r (by omega)) (by omega)
  have hk1 := gFr_kp hf (E := E) (by omega)
  have hk2 : gKp (gUp M (p + 4) (gR 3 5 (va_up RU k o))) (gUp (gUp M (p + 4) (gR 3 5 (va_up RU k o))) (p + 8) (gL 20 (cSets W))) E := fun q c hq hc => gUp_n hc (by omega)
  refine ⟨hf, X, va_up RU k o, SI, IN, gUp_n (gUp_n s0 (by omega)) (by omega), by rw [cLab_W (fun i hi => hW i (by omega))]; exact gUp_n (gUp_n s1 (by omega)) (by omega), gUp_n (gUp_n s2 (by omega)) (by omega), by rw [cHas_W (fun i h1 h2 => hW i (by omega))]; exact gUp_n (gUp_n s3 (by omega)) (by omega), gUp_n gUp_s (by omega), gUp_n (gUp_n s5 (by omega)) (by omega), gUp_n (gUp_n s6 (by omega)) (by omega), by rw [cPar_V (fun i h1 h2 => hW i (by omega))]; exact gUp_n (gUp_n s7 (by omega)) (by omega), gUp_s, fun j hj hz => ?_, fun r hr => cRul_kp (hR r hr) hk2, fun r hr => cSil_kp (cSil_W (sS r hr) hr hI (fun i h1 h2 => hW i (by omega))) hk1, fun r hr => cInh_kp (cInh_W (sN r hr) hr hI (fun i h1 h2 => hW i (by omega))) hk1⟩
  rw [hW _ (by omega)] at hz ⊢
  exact sX j hj hz
set_option maxRecDepth 20000 in
/-- a rule's slot is emptied -/
theorem c7_putNone (h : cRS M E p V) (hE : p + 9 ≤ E) (hI : mI V) (hIW : mI W) (k : Nat) (hk : k < 5) (hW : ∀ i, (i < 60 + 10 * k ∨ (70 + 10 * k ≤ i ∧ i < 206) ∨ 1586 ≤ i) → W i = V i) (hz : W (60 + 10 * k) = 0) : gCon G kX7_putRule 1 0 0 M [.ref p, .int (nI k), .null] (fun M2 v => gFr M M2 p 9 ∧ cRS M2 E p W ∧ v = none) := by
  obtain ⟨X, RU, SI, IN, s0, s1, s2, s3, s4, s5, s6, s7, s8, sX, sR, sS, sN⟩ := h
  have hk1 : gKp M (gUp M (p + 4) (gR 3 5 (va_up RU k none))) E := fun q c hq hc => gUp_n hc (by omega)
  have hR : ∀ r, r < 5 → cRul (gUp M (p + 4) (gR 3 5 (va_up RU k none))) E W r (va_up RU k none r) := by
    intro r hr
    by_cases e : r = k
    · subst e
      have e2 : va_up RU r none r = none := if_pos rfl
      rw [e2]; exact Or.inl ⟨hz, rfl⟩
    · have e2 : va_up RU k none r = RU r := if_neg e
      rw [e2]; exact cRul_kp (cRul_W (sR r hr) hr hI (fun i h1 h2 => hW i (by omega))) hk1
  have hC := c7_sortLabels (G := G) (M := gUp M (p + 4) (gR 3 5 (va_up RU k none))) (V := W) (E := E) (gUp_n s0 (by omega)) (by rw [cLab_W (fun i hi => hW i (by omega))]; exact gUp_n s1 (by omega)) gUp_s hE hR (gUp_n s8 (by omega)) hIW
  refine gCon_of (by decide) (Nat.le_of_ble_eq_true rfl) ?_
  show gJ _ _ _ _ _ _ 0 [(0, .ref p), (1, .int (nI k)), (2, .null)] [] _
  refine gJ_aload_n dX7_putRule_0 rfl rfl ?_
  refine gJ_get fX7_24 dX7_putRule_1 (by first | with_reducible assumption | with_reducible exact gUp_s | with_reducible exact gUp_n (by with_reducible assumption) (by omega) | exact gUp_n (by assumption) (by omega) | exact gUp_s | assumption) rfl ?_
  refine gJ_iload_n dX7_putRule_4 rfl rfl ?_
  refine gJ_aload_nN dX7_putRule_5 rfl rfl ?_
  refine gJ_aastNN (j := k) dX7_putRule_6 s4 rfl (by first | with_reducible rfl | rfl) (by omega) (by decide) ?_
  try rw [gUp_up]
  refine gJ_aload_n dX7_putRule_7 rfl rfl ?_
  refine gJ_callV (As := []) b_X7_sortLabels lX7_47 i_X7_sortLabels s_X7_sortLabels dX7_putRule_8 (hC) (gUp_n s0 (by omega)) rfl rfl (Nat.le_of_ble_eq_true rfl) rfl (by decide) (fun M8 v_ h8 => ?_)
  obtain ⟨e8, rfl⟩ := h8
  replace e8 := e8.symm
  subst e8
  refine gJ_vret dX7_putRule_11 rfl ?_
  obtain ⟨f1, f2⟩ := cRS_putR s0 s1 s2 s3 s5 s6 s7 sX sS sN hI hE hk hW hR
  exact ⟨f1, f2, rfl⟩
set_option maxRecDepth 20000 in
/-- a rule's slot takes a rule -/
theorem c7_putSome (h : cRS M E p V) (hE : p + 9 ≤ E) (hI : mI V) (hIW : mI W) (k : Nat) (hk : k < 5) (hW : ∀ i, (i < 60 + 10 * k ∨ (70 + 10 * k ≤ i ∧ i < 206) ∨ 1586 ≤ i) → W i = V i) (q : Nat) (hq : E ≤ q) {l : List Value} (hv : M.1 q = some (gO 5 l)) (ho : cRul M E W k (some q)) : gCon G kX7_putRule 1 0 0 M [.ref p, .int (nI k), .ref q] (fun M2 v => gFr M M2 p 9 ∧ cRS M2 E p W ∧ v = none) := by
  obtain ⟨X, RU, SI, IN, s0, s1, s2, s3, s4, s5, s6, s7, s8, sX, sR, sS, sN⟩ := h
  have hk1 : gKp M (gUp M (p + 4) (gR 3 5 (va_up RU k (some q)))) E := fun q c hq hc => gUp_n hc (by omega)
  have hR : ∀ r, r < 5 → cRul (gUp M (p + 4) (gR 3 5 (va_up RU k (some q)))) E W r (va_up RU k (some q) r) := by
    intro r hr
    by_cases e : r = k
    · subst e
      have e2 : va_up RU r (some q) r = some q := if_pos rfl
      rw [e2]; exact cRul_kp ho hk1
    · have e2 : va_up RU k (some q) r = RU r := if_neg e
      rw [e2]; exact cRul_kp (cRul_W (sR r hr) hr hI (fun i h1 h2 => hW i (by omega))) hk1
  have hC := c7_sortLabels (G := G) (M := gUp M (p + 4) (gR 3 5 (va_up RU k (some q)))) (V := W) (E := E) (gUp_n s0 (by omega)) (by rw [cLab_W (fun i hi => hW i (by omega))]; exact gUp_n s1 (by omega)) gUp_s hE hR (gUp_n s8 (by omega)) hIW
  refine gCon_of (by decide) (Nat.le_of_ble_eq_true rfl) ?_
  show gJ _ _ _ _ _ _ 0 [(0, _), (1, _), (2, _)] [] _
  refine gJ_aload_n dX7_putRule_0 rfl rfl ?_
  refine gJ_get fX7_24 dX7_putRule_1 (by first | with_reducible assumption | with_reducible exact gUp_s | with_reducible exact gUp_n (by with_reducible assumption) (by omega) | exact gUp_n (by assumption) (by omega) | exact gUp_s | assumption) rfl ?_
  refine gJ_iload_n dX7_putRule_4 rfl rfl ?_
  refine gJ_aload_n dX7_putRule_5 rfl rfl ?_
  refine gJ_aastN_ (j := k) dX7_putRule_6 s4 rfl hv rfl (by first | with_reducible rfl | rfl) (by omega) (by decide) ?_
  try rw [gUp_up]
  refine gJ_aload_n dX7_putRule_7 rfl rfl ?_
  refine gJ_callV (As := []) b_X7_sortLabels lX7_47 i_X7_sortLabels s_X7_sortLabels dX7_putRule_8 (hC) (gUp_n s0 (by omega)) rfl rfl (Nat.le_of_ble_eq_true rfl) rfl (by decide) (fun M8 v_ h8 => ?_)
  obtain ⟨e8, rfl⟩ := h8
  replace e8 := e8.symm
  subst e8
  refine gJ_vret dX7_putRule_11 rfl ?_
  obtain ⟨f1, f2⟩ := cRS_putR s0 s1 s2 s3 s5 s6 s7 sX sS sN hI hE hk hW hR
  exact ⟨f1, f2, rfl⟩
end CLS
