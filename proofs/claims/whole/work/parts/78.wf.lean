/-! WHAT A TEXT GIVES KEEPS THE BOUNDS -/
def zOk (kind : Nat) (F : Nat → Int32) : Prop := mMs F 1 ∧ (kind = 0 → mB F 6 2 ∧ mB F 8 9999 ∧ mB F 9 3) ∧ (kind = 2 → mMs F 6 ∧ mB F 11 7)
theorem mMs_sh {F W : Nat → Int32} {f g : Nat} (h : mMs F f) (hg : g ≤ 200) (hW : ∀ i, i < 5 → W (g + i) = F (f + i)) : mMs W g := by
  obtain ⟨-, n, e1, e2, e3⟩ := h
  refine ⟨hg, n, e1, (hW 0 (by omega)).trans e2, fun j hj => ?_⟩
  obtain ⟨mm, g1, g2⟩ := e3 j hj
  exact ⟨mm, g1, by rw [hW (j + 1) (by omega), g2]⟩
theorem mB_sh {F W : Nat → Int32} {f g n : Nat} (h : mB F f n) (hW : W g = F f) : mB W g n := by
  obtain ⟨x, h1, h2⟩ := h
  exact ⟨x, h1, hW.trans h2⟩
theorem mMs_lay {F : Nat → Int32} {f n : Nat} {c : Nat → Nat} (hf : f ≤ 200) (hn : n ≤ 4) (hc : ∀ i, c i < 128) : mMs (upd (zLay f n c F) f (nI n)) f := by
  refine ⟨hf, n, hn, pk_us, fun j hj => ⟨c j, hc j, ?_⟩⟩
  rw [pk_un (by omega), zLay, if_pos (by omega), show f + (j + 1) - (f + 1) = j by omega]
theorem zR6_ok {T F : Nat → Int32} {t : Nat} {s : zP} (h : mMs F 1) : zOk 0 (zR6 T t F s).1 := by
  obtain ⟨k1, -, k3, k4, k5⟩ := zR6_v (T := T) (t := t) (F := F) (s := s)
  refine ⟨mMs_sh h (by decide) (fun i hi => k5 _ (by omega)), fun _ => ⟨?_, ?_, ?_⟩, fun e => absurd e (by decide)⟩
  · by_cases a : zH T t s = 60
    · rw [if_pos a] at k1; exact ⟨0, by omega, k1⟩
    · rw [if_neg a] at k1
      by_cases c : zH T t s = 62
      · rw [if_pos c] at k1; exact ⟨1, by omega, k1⟩
      · rw [if_neg c] at k1; exact ⟨2, by omega, k1⟩
  · exact ⟨_, Nat.le_of_lt_succ zNm_m, k3⟩
  · exact ⟨_, zDg_m, k4⟩
theorem zil_or : ∀ v, v < 8 → ∀ w, w < 8 → nI v ||| nI w = nI (v ||| w) ∧ v ||| w < 8 := by decide
theorem zIl_b (c : Int32) : ∃ w, w < 8 ∧ zIl c = nI w := by
  unfold zIl
  split
  · exact ⟨1, by omega, rfl⟩
  split
  · exact ⟨2, by omega, rfl⟩
  split
  · exact ⟨4, by omega, rfl⟩
  · exact ⟨0, by omega, rfl⟩
theorem zI_b {T : Nat → Int32} {t : Nat} : ∀ (k : Nat) (F : Nat → Int32) (s : zP), mB F 11 7 → mB (zI T t k F s).1 11 7
  | 0, F, s, h => h
  | k + 1, F, s, h => by
    rw [zI]
    split
    · split
      · exact h
      · refine zI_b k _ _ ?_
        obtain ⟨v, h1, h2⟩ := h
        obtain ⟨w, h3, h4⟩ := zIl_b (zH T t s)
        obtain ⟨h5, h6⟩ := zil_or v (by omega) w h3
        exact ⟨v ||| w, by omega, by rw [pk_us, h2, h4, h5]⟩
    · exact h
theorem zK_ok {T : Nat → Int32} {t kind : Nat} (hk : kind < 3) : zOk kind (zK T t kind).1 := by
  have m0 : mMs (fun _ => 0) 1 := ⟨by decide, 0, by omega, rfl, fun j hj => absurd hj (by omega)⟩
  have s0 : ((0, false) : zP).1 ≤ t := Nat.zero_le _
  rcases (show kind = 0 ∨ kind = 1 ∨ kind = 2 by omega) with rfl | rfl | rfl
  · rw [zK, if_pos rfl, zRu]
    obtain ⟨ok1, ok2, -⟩ := zMs_ok (T := T) (t := t) (sev := false) (s := (0, false)) s0
    split
    · exact zR6_ok m0
    · exact zR6_ok (mMs_lay (by decide) ok2 ok1.2)
  · rw [zK, if_neg (by decide), if_pos rfl, zS, zS6, zS7]
    obtain ⟨ok1, ok2, -⟩ := zMs_ok (T := T) (t := t) (sev := true) (s := (0, false)) s0
    refine ⟨mMs_sh (mMs_lay (F := fun _ => 0) (f := 1) (by decide) ok2 ok1.2) (by decide) (fun i hi => ?_), fun e => absurd e (by decide), fun e => absurd e (by decide)⟩
    dsimp only
    rw [pk_un (by omega), pk_un (by omega)]
  · rw [zK, if_neg (by decide), if_neg (by decide), zIn, zI6]
    obtain ⟨ok1, ok2, -⟩ := zMs_ok (T := T) (t := t) (sev := true) (s := (0, false)) s0
    have l1 := zEx_le (T := T) (t := t) (c := 62) (s := (zMs T t true (0, false)).2.2) (by decide) ok1.1
    obtain ⟨ok3, ok4, -⟩ := zMs_ok (T := T) (t := t) (sev := true) (s := zEx T t 62 (zMs T t true (0, false)).2.2) l1
    refine ⟨mMs_sh (mMs_lay (F := fun _ => 0) (f := 1) (by decide) ok2 ok1.2) (by decide) (fun i hi => ?_), fun e => absurd e (by decide), fun _ => ⟨mMs_sh (mMs_lay (F := upd (zLay 1 (zMs T t true (0, false)).1 (zMs T t true (0, false)).2.1 (fun _ => 0)) 1 (nI (zMs T t true (0, false)).1)) (f := 6) (by decide) ok4 ok3.2) (by decide) (fun i hi => ?_), zI_b _ _ _ ⟨0, by omega, ?_⟩⟩⟩
    · rw [zI_v (by omega), pk_un (by omega), zLay, if_neg (by omega)]
    · rw [zI_v (by omega)]
    · rw [pk_un (by omega), zLay, if_neg (by omega), pk_un (by omega), zLay, if_neg (by omega)]; rfl
theorem mPut_in {V F : Nat → Int32} {kind k b : Nat} (i : Nat) (hb : b = mFst kind + mWid kind * k) (hi : i < mWid kind) : mPut V kind k F (b + i) = upd F 0 1 i := by
  subst hb
  unfold mPut
  rw [if_pos (by omega), show mFst kind + mWid kind * k + i - (mFst kind + mWid kind * k) = i by omega]
theorem mPut_o {V F : Nat → Int32} {kind k b i : Nat} (hb : b = mFst kind + mWid kind * k) (hi : i < b ∨ b + mWid kind ≤ i) : mPut V kind k F i = V i := by
  subst hb
  unfold mPut
  rw [if_neg (by omega)]
theorem mPut_I {V F : Nat → Int32} {kind k : Nat} (hI : mI V) (hk : kind < 3) (h : k < mMst kind) (hF : zOk kind F) : mI (mPut V kind k F) := by
  obtain ⟨i1, i2, i3, i4, i5, i6, i7, p0, p1, p2, p3, p4⟩ := hI
  obtain ⟨f1, f2, f3⟩ := hF
  rcases (show kind = 0 ∨ kind = 1 ∨ kind = 2 by omega) with rfl | rfl | rfl
  · have hk5 : k < 5 := h
    have o : ∀ i, (i < 60 + 10 * k ∨ 60 + 10 * k + 10 ≤ i) → mPut V 0 k F i = V i := fun i hi => mPut_o (b := 60 + 10 * k) rfl hi
    have at_ : ∀ i, i < 10 → mPut V 0 k F (60 + 10 * k + i) = upd F 0 1 i := fun i hi => mPut_in (b := 60 + 10 * k) i rfl hi
    obtain ⟨g1, g2, g3⟩ := f2 rfl
    refine ⟨fun i hi => mB_sh (i1 i hi) (o _ (by omega)), fun s hs => mB_sh (i2 s hs) (o _ (by omega)), fun r hr => ?_, fun r hr => ?_, fun r hr => ?_, fun a ha => ⟨mB_sh (i6 a ha).1 (o _ (by omega)), mB_sh (i6 a ha).2 (o _ (by omega))⟩, fun k hk => mB_sh (i7 k hk) (o _ (by omega)), mB_sh p0 (o _ (by omega)), mB_sh p1 (o _ (by omega)), mB_sh p2 (o _ (by omega)), mB_sh p3 (o _ (by omega)), mB_sh p4 (o _ (by omega))⟩
    · by_cases e : r = k
      · subst e
        refine ⟨⟨1, by omega, (at_ 0 (by omega)).trans pk_us⟩, mMs_sh f1 (by omega) (fun i hi => ?_), mB_sh g1 ((at_ 6 (by omega)).trans (pk_un (by decide))), mB_sh g2 ((at_ 8 (by omega)).trans (pk_un (by decide))), mB_sh g3 ((at_ 9 (by omega)).trans (pk_un (by decide)))⟩
        rw [show 60 + 10 * r + 1 + i = 60 + 10 * r + (1 + i) by omega, at_ _ (by omega), pk_un (by omega)]
      · obtain ⟨e1, e2, e3, e4, e5⟩ := i3 r hr
        exact ⟨mB_sh e1 (o _ (by omega)), mMs_up e2 (fun i h1 h2 => o _ (by omega)), mB_sh e3 (o _ (by omega)), mB_sh e4 (o _ (by omega)), mB_sh e5 (o _ (by omega))⟩
    · obtain ⟨e1, e2⟩ := i4 r hr
      exact ⟨mB_sh e1 (o _ (by omega)), mMs_up e2 (fun i h1 h2 => o _ (by omega))⟩
    · obtain ⟨e1, e2, e3, e4⟩ := i5 r hr
      exact ⟨mB_sh e1 (o _ (by omega)), mMs_up e2 (fun i h1 h2 => o _ (by omega)), mMs_up e3 (fun i h1 h2 => o _ (by omega)), mB_sh e4 (o _ (by omega))⟩
  · have hk6 : k < 6 := h
    have o : ∀ i, (i < 110 + 8 * k ∨ 110 + 8 * k + 8 ≤ i) → mPut V 1 k F i = V i := fun i hi => mPut_o (b := 110 + 8 * k) rfl hi
    have at_ : ∀ i, i < 8 → mPut V 1 k F (110 + 8 * k + i) = upd F 0 1 i := fun i hi => mPut_in (b := 110 + 8 * k) i rfl hi
    refine ⟨fun i hi => mB_sh (i1 i hi) (o _ (by omega)), fun s hs => mB_sh (i2 s hs) (o _ (by omega)), fun r hr => ?_, fun r hr => ?_, fun r hr => ?_, fun a ha => ⟨mB_sh (i6 a ha).1 (o _ (by omega)), mB_sh (i6 a ha).2 (o _ (by omega))⟩, fun k hk => mB_sh (i7 k hk) (o _ (by omega)), mB_sh p0 (o _ (by omega)), mB_sh p1 (o _ (by omega)), mB_sh p2 (o _ (by omega)), mB_sh p3 (o _ (by omega)), mB_sh p4 (o _ (by omega))⟩
    · obtain ⟨e1, e2, e3, e4, e5⟩ := i3 r hr
      exact ⟨mB_sh e1 (o _ (by omega)), mMs_up e2 (fun i h1 h2 => o _ (by omega)), mB_sh e3 (o _ (by omega)), mB_sh e4 (o _ (by omega)), mB_sh e5 (o _ (by omega))⟩
    · by_cases e : r = k
      · subst e
        refine ⟨⟨1, by omega, (at_ 0 (by omega)).trans pk_us⟩, mMs_sh f1 (by omega) (fun i hi => ?_)⟩
        rw [show 110 + 8 * r + 1 + i = 110 + 8 * r + (1 + i) by omega, at_ _ (by omega), pk_un (by omega)]
      · obtain ⟨e1, e2⟩ := i4 r hr
        exact ⟨mB_sh e1 (o _ (by omega)), mMs_up e2 (fun i h1 h2 => o _ (by omega))⟩
    · obtain ⟨e1, e2, e3, e4⟩ := i5 r hr
      exact ⟨mB_sh e1 (o _ (by omega)), mMs_up e2 (fun i h1 h2 => o _ (by omega)), mMs_up e3 (fun i h1 h2 => o _ (by omega)), mB_sh e4 (o _ (by omega))⟩
  · have hk4 : k < 4 := h
    have o : ∀ i, (i < 158 + 12 * k ∨ 158 + 12 * k + 12 ≤ i) → mPut V 2 k F i = V i := fun i hi => mPut_o (b := 158 + 12 * k) rfl hi
    have at_ : ∀ i, i < 12 → mPut V 2 k F (158 + 12 * k + i) = upd F 0 1 i := fun i hi => mPut_in (b := 158 + 12 * k) i rfl hi
    obtain ⟨g1, g2⟩ := f3 rfl
    refine ⟨fun i hi => mB_sh (i1 i hi) (o _ (by omega)), fun s hs => mB_sh (i2 s hs) (o _ (by omega)), fun r hr => ?_, fun r hr => ?_, fun r hr => ?_, fun a ha => ⟨mB_sh (i6 a ha).1 (o _ (by omega)), mB_sh (i6 a ha).2 (o _ (by omega))⟩, fun k hk => mB_sh (i7 k hk) (o _ (by omega)), mB_sh p0 (o _ (by omega)), mB_sh p1 (o _ (by omega)), mB_sh p2 (o _ (by omega)), mB_sh p3 (o _ (by omega)), mB_sh p4 (o _ (by omega))⟩
    · obtain ⟨e1, e2, e3, e4, e5⟩ := i3 r hr
      exact ⟨mB_sh e1 (o _ (by omega)), mMs_up e2 (fun i h1 h2 => o _ (by omega)), mB_sh e3 (o _ (by omega)), mB_sh e4 (o _ (by omega)), mB_sh e5 (o _ (by omega))⟩
    · obtain ⟨e1, e2⟩ := i4 r hr
      exact ⟨mB_sh e1 (o _ (by omega)), mMs_up e2 (fun i h1 h2 => o _ (by omega))⟩
    · by_cases e : r = k
      · subst e
        refine ⟨⟨1, by omega, (at_ 0 (by omega)).trans pk_us⟩, mMs_sh f1 (by omega) (fun i hi => ?_), mMs_sh g1 (by omega) (fun i hi => ?_), mB_sh g2 ((at_ 11 (by omega)).trans (pk_un (by decide)))⟩
        · rw [show 158 + 12 * r + 1 + i = 158 + 12 * r + (1 + i) by omega, at_ _ (by omega), pk_un (by omega)]
        · rw [show 158 + 12 * r + 6 + i = 158 + 12 * r + (6 + i) by omega, at_ _ (by omega), pk_un (by omega)]
      · obtain ⟨e1, e2, e3, e4⟩ := i5 r hr
        exact ⟨mB_sh e1 (o _ (by omega)), mMs_up e2 (fun i h1 h2 => o _ (by omega)), mMs_up e3 (fun i h1 h2 => o _ (by omega)), mB_sh e4 (o _ (by omega))⟩
theorem mPut_J {V F : Nat → Int32} {kind k : Nat} (hJ : mJ V) (hk : kind < 3) (h : k < mMst kind) : mJ (mPut V kind k F) := by
  intro a ha hz
  have hb : mFst kind + mWid kind * k + mWid kind ≤ 206 ∧ (kind ≠ 0 → 110 ≤ mFst kind) := by
    rcases (show kind = 0 ∨ kind = 1 ∨ kind = 2 by omega) with rfl | rfl | rfl
    · have hk5 : k < 5 := h
      exact ⟨by show 60 + 10 * k + 10 ≤ 206; omega, fun e => absurd rfl e⟩
    · have hk5 : k < 6 := h
      exact ⟨by show 110 + 8 * k + 8 ≤ 206; omega, fun _ => by decide⟩
    · have hk5 : k < 4 := h
      exact ⟨by show 158 + 12 * k + 12 ≤ 206; omega, fun _ => by decide⟩
  rw [mPut_o rfl (by omega)] at hz
  have h1 := hJ a ha hz
  by_cases e : kind = 0
  · subst e
    by_cases e2 : a / 12 = k
    · have e3 : mPut V 0 k F (60 + 10 * k + 0) = upd F 0 1 0 := mPut_in (b := 60 + 10 * k) 0 rfl (by decide)
      rw [e2]; exact e3.trans pk_us
    · have e3 : mPut V 0 k F (60 + 10 * (a / 12)) = V (60 + 10 * (a / 12)) := mPut_o (b := 60 + 10 * k) rfl (by show _ ∨ 60 + 10 * k + 10 ≤ _; omega)
      rw [e3]; exact h1
  · have := hb.2 e
    rw [mPut_o rfl (by omega)]; exact h1
theorem aAdd_I {V T : Nat → Int32} {t : Nat} (hI : mI V) (w : Int32) : mI (aAdd V T t w).2.1 := by
  unfold aAdd
  by_cases h : mIn w 0 2 = true
  · rw [if_pos h]
    obtain ⟨z, hz1, -, rfl, hz3⟩ := mIn_nat (lo := 0) (hi := 2) h (by decide)
    rw [hz3, aAddK]
    split
    · exact hI
    · split
      · exact hI
      · exact mPut_I hI (by omega) (mFree_is (by assumption)).1 (zK_ok (by omega))
  · rw [if_neg h]; exact hI
theorem aAdd_J {V T : Nat → Int32} {t : Nat} (hJ : mJ V) (w : Int32) : mJ (aAdd V T t w).2.1 := by
  unfold aAdd
  by_cases h : mIn w 0 2 = true
  · rw [if_pos h]
    obtain ⟨z, hz1, -, rfl, hz3⟩ := mIn_nat (lo := 0) (hi := 2) h (by decide)
    rw [hz3, aAddK]
    split
    · exact hJ
    · split
      · exact hJ
      · exact mPut_J hJ (by omega) (mFree_is (by assumption)).1
  · rw [if_neg h]; exact hJ
theorem aAdd_t {V T : Nat → Int32} {t : Nat} (ht : t ≤ 60) (w : Int32) : (aAdd V T t w).2.2 ≤ 60 := by
  unfold aAdd
  by_cases h : mIn w 0 2 = true
  · rw [if_pos h, aAddK]
    split
    · exact ht
    · split <;> exact Nat.zero_le _
  · rw [if_neg h]; exact ht
theorem aLabel_I {V : Nat → Int32} (hI : mI V) (s l x : Int32) : mI (aLabel V s l x).2 := by
  unfold aLabel
  by_cases h : (mIn s 0 11 && mIn l 0 2) = true
  · rw [if_pos h]
    rw [Bool.and_eq_true] at h
    obtain ⟨s', hs1, -, rfl, hs3⟩ := mIn_nat (lo := 0) (hi := 11) h.1 (by decide)
    obtain ⟨l', hl1, -, rfl, hl3⟩ := mIn_nat (lo := 0) (hi := 2) h.2 (by decide)
    rw [hs3, hl3]
    by_cases hx : mIn x 0 (if l' = 1 then 7 else 3) = true
    · rw [if_pos hx]
      refine mI_up hI (Or.inl ⟨by omega, ?_⟩)
      have hm : (0 + 3 * s' + l') % 3 = l' := by omega
      rw [hm]
      by_cases e : l' = 1
      · rw [if_pos e] at hx ⊢
        obtain ⟨v, h1, -, h2, -⟩ := mIn_nat (lo := 0) (hi := 7) hx (by decide)
        exact ⟨v, h1, h2⟩
      · rw [if_neg e] at hx ⊢
        obtain ⟨v, h1, -, h2, -⟩ := mIn_nat (lo := 0) (hi := 3) hx (by decide)
        exact ⟨v, h1, h2⟩
    · rw [if_neg hx]; exact hI
  · rw [if_neg h]; exact hI
theorem aSample_I {V : Nat → Int32} (hI : mI V) (s x : Int32) : mI (aSample V s x).2 := by
  unfold aSample
  by_cases h : mIn s 0 11 = true
  · rw [if_pos h]
    obtain ⟨s', hs1, -, rfl, hs3⟩ := mIn_nat (lo := 0) (hi := 11) h (by decide)
    rw [hs3]
    exact mI_up (mI_up hI (Or.inr (Or.inr (Or.inl ⟨by omega, by omega, Or.inr rfl⟩)))) (Or.inr (Or.inl ⟨by omega, by omega⟩))
  · rw [if_neg h]; exact hI
theorem aDrop_I {V : Nat → Int32} (hI : mI V) (s : Int32) : mI (aDrop V s).2 := by
  unfold aDrop
  by_cases h : mIn s 0 11 = true
  · rw [if_pos h]
    obtain ⟨s', hs1, -, rfl, hs3⟩ := mIn_nat (lo := 0) (hi := 11) h (by decide)
    rw [hs3]
    exact mI_up (mI_up hI (Or.inr (Or.inr (Or.inl ⟨by omega, by omega, Or.inl rfl⟩)))) (Or.inr (Or.inl ⟨by omega, by omega⟩))
  · rw [if_neg h]; exact hI
theorem mJ_o {V W : Nat → Int32} (hJ : mJ V) (hW : ∀ i, (60 ≤ i ∧ i < 110) ∨ (206 ≤ i ∧ i < 1586) → W i = V i) : mJ W := fun a ha hz => by
  rw [hW _ (by omega)] at hz ⊢
  exact hJ a ha hz
theorem aLabel_J {V : Nat → Int32} (hJ : mJ V) (s l x : Int32) : mJ (aLabel V s l x).2 := by
  unfold aLabel
  by_cases h : (mIn s 0 11 && mIn l 0 2) = true
  · rw [if_pos h]
    rw [Bool.and_eq_true] at h
    obtain ⟨s', hs1, -, rfl, hs3⟩ := mIn_nat (lo := 0) (hi := 11) h.1 (by decide)
    obtain ⟨l', hl1, -, rfl, hl3⟩ := mIn_nat (lo := 0) (hi := 2) h.2 (by decide)
    rw [hs3, hl3]
    by_cases hx : mIn x 0 (if l' = 1 then 7 else 3) = true
    · rw [if_pos hx]; exact mJ_o hJ (fun i hi => pk_un (by omega))
    · rw [if_neg hx]; exact hJ
  · rw [if_neg h]; exact hJ
theorem aSample_J {V : Nat → Int32} (hJ : mJ V) (s x : Int32) : mJ (aSample V s x).2 := by
  unfold aSample
  by_cases h : mIn s 0 11 = true
  · rw [if_pos h]
    obtain ⟨s', hs1, -, rfl, hs3⟩ := mIn_nat (lo := 0) (hi := 11) h (by decide)
    rw [hs3]
    exact mJ_o hJ (fun i hi => by dsimp only; rw [pk_un (by omega), pk_un (by omega)])
  · rw [if_neg h]; exact hJ
theorem aDrop_J {V : Nat → Int32} (hJ : mJ V) (s : Int32) : mJ (aDrop V s).2 := by
  unfold aDrop
  by_cases h : mIn s 0 11 = true
  · rw [if_pos h]
    obtain ⟨s', hs1, -, rfl, hs3⟩ := mIn_nat (lo := 0) (hi := 11) h (by decide)
    rw [hs3]
    exact mJ_o hJ (fun i hi => by dsimp only; rw [pk_un (by omega), pk_un (by omega)])
  · rw [if_neg h]; exact hJ
