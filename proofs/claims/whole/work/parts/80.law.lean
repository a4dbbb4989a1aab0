theorem mClr_c {V : Nat → Int32} (i : Nat) : mClr V i = V i ∨ mClr V i = 0 := by
  unfold mClr
  split
  · exact Or.inr rfl
  · exact Or.inl rfl
theorem mClr_o {V : Nat → Int32} {i : Nat} (h : i < 1586 ∨ 1842 ≤ i) : mClr V i = V i := by
  unfold mClr
  rw [if_neg (by omega)]
theorem mClr_I {V : Nat → Int32} (hI : mI V) : mI (mClr V) := by
  obtain ⟨i1, i2, i3, i4, i5, i6, i7, p0, p1, p2, p3, p4⟩ := hI
  have c := fun i => mClr_c (V := V) i
  refine ⟨fun i hi => mB_z (i1 i hi) (c _), fun s hs => mB_z (i2 s hs) (c _), fun r hr => ?_, fun r hr => ?_, fun r hr => ?_, fun a ha => ⟨mB_z (i6 a ha).1 (c _), mB_z (i6 a ha).2 (c _)⟩, fun k hk => mB_z (i7 k hk) (c _), mB_z p0 (c _), mB_z p1 (c _), mB_z p2 (c _), mB_z p3 (c _), mB_z p4 (c _)⟩
  · obtain ⟨e1, e2, e3, e4, e5⟩ := i3 r hr
    exact ⟨mB_z e1 (c _), mMs_up e2 (fun i h1 h2 => mClr_o (by omega)), mB_z e3 (c _), mB_z e4 (c _), mB_z e5 (c _)⟩
  · obtain ⟨e1, e2⟩ := i4 r hr
    exact ⟨mB_z e1 (c _), mMs_up e2 (fun i h1 h2 => mClr_o (by omega))⟩
  · obtain ⟨e1, e2, e3, e4⟩ := i5 r hr
    exact ⟨mB_z e1 (c _), mMs_up e2 (fun i h1 h2 => mClr_o (by omega)), mMs_up e3 (fun i h1 h2 => mClr_o (by omega)), mB_z e4 (c _)⟩
theorem aParT_I {V : Nat → Int32} {S : Nat → Int64} {z : Nat} {x : Int32} (hI : mI V) (hz : z < 5) (hb : aParB z x = true) : mI (aParT (V, S) z x).1 := by
  have h1 : mI (upd V (1842 + z) x) := by
    refine mI_up hI ?_
    rcases (show z = 0 ∨ z = 1 ∨ z = 2 ∨ z = 3 ∨ z = 4 by omega) with rfl | rfl | rfl | rfl | rfl
    · obtain ⟨v, e1, -, e2, -⟩ := mIn_nat (lo := 1) (hi := 60) hb (by decide)
      exact Or.inr (Or.inr (Or.inr (Or.inl ⟨rfl, v, e1, e2⟩)))
    · obtain ⟨v, e1, -, e2, -⟩ := mIn_nat (lo := 1) (hi := 999) hb (by decide)
      exact Or.inr (Or.inr (Or.inr (Or.inr (Or.inl ⟨rfl, v, e1, e2⟩))))
    · obtain ⟨v, e1, -, e2, -⟩ := mIn_nat (lo := 1) (hi := 999) hb (by decide)
      exact Or.inr (Or.inr (Or.inr (Or.inr (Or.inr (Or.inl ⟨rfl, v, e1, e2⟩)))))
    · obtain ⟨v, e1, -, e2, -⟩ := mIn_nat (lo := 2) (hi := 20) hb (by decide)
      exact Or.inr (Or.inr (Or.inr (Or.inr (Or.inr (Or.inr (Or.inl ⟨rfl, v, e1, e2⟩))))))
    · obtain ⟨v, e1, -, e2, -⟩ := mIn_nat (lo := 0) (hi := 7) hb (by decide)
      exact Or.inr (Or.inr (Or.inr (Or.inr (Or.inr (Or.inr (Or.inr ⟨rfl, v, e1, e2⟩))))))
  unfold aParT
  split
  · exact mClr_I h1
  · exact h1
theorem aPar_I {V : Nat → Int32} {S : Nat → Int64} (hI : mI V) (w x : Int32) : mI (aPar (V, S) w x).2.1 := by
  unfold aPar
  by_cases h : mIn w 0 4 = true
  · rw [if_pos h]
    obtain ⟨z, hz1, -, rfl, hz3⟩ := mIn_nat (lo := 0) (hi := 4) h (by decide)
    rw [hz3]
    by_cases hb : aParB z x = true
    · rw [if_pos hb]; exact aParT_I hI (by omega) hb
    · rw [if_neg hb]; exact hI
  · rw [if_neg h]; exact hI
theorem aPar_J {V : Nat → Int32} {S : Nat → Int64} (hJ : mJ V) (w x : Int32) : mJ (aPar (V, S) w x).2.1 := by
  unfold aPar
  by_cases h : mIn w 0 4 = true
  · rw [if_pos h]
    obtain ⟨z, hz1, -, rfl, hz3⟩ := mIn_nat (lo := 0) (hi := 4) h (by decide)
    rw [hz3]
    by_cases hb : aParB z x = true
    · rw [if_pos hb, aParT]
      split
      · exact mJ_o hJ (fun i hi => by dsimp only; rw [mClr_o (by omega), pk_un (by omega)])
      · exact mJ_o hJ (fun i hi => by dsimp only; rw [pk_un (by omega)])
    · rw [if_neg hb]; exact hJ
  · rw [if_neg h]; exact hJ
theorem aPass_I {V : Nat → Int32} {S : Nat → Int64} (hI : mI V) (x : Int32) : mI (aPass (V, S) x).2.1 := by
  unfold aPass
  split
  · split
    · exact mIt_I (p := (V, S)) hI _
    · exact hI
  · exact hI
theorem aPass_J {V : Nat → Int32} {S : Nat → Int64} (hI : mI V) (hJ : mJ V) (x : Int32) : mJ (aPass (V, S) x).2.1 := by
  unfold aPass
  split
  · split
    · exact mIt_J (p := (V, S)) hI hJ _
    · exact hJ
  · exact hJ
/-! THE LAW: the class at b, its reference at b + 66 -/
def cM (M : gM) (m : Nat) (V : Nat → Int32) (S : Nat → Int64) (IV : Nat → Int32) (IS : Nat → Int64) (hh : Bool) (U : Nat → Int32) (t : Nat) : Prop := ∃ at_ fa K KS F, M.1 m = some (mO m (gb hh) (nI t) at_ fa) ∧ M.1 (m + 1) = some (gI 1999 V) ∧ M.1 (m + 2) = some (gI 1999 IV) ∧ M.1 (m + 3) = some (gI 1999 K) ∧ M.1 (m + 4) = some (gL 128 S) ∧ M.1 (m + 5) = some (gL 128 IS) ∧ M.1 (m + 6) = some (gL 128 KS) ∧ M.1 (m + 7) = some (gI 60 U) ∧ M.1 (m + 8) = some (gI 12 F)
def cL (M : gM) (b : Nat) : Prop := ∃ V S IV IS hh U t, cX M b V S IV IS hh U t ∧ mI V ∧ mJ V ∧ t ≤ 60 ∧ zB U ∧ b + 75 ≤ M.2 ∧ cM M (b + 66) V S IV IS hh U t
theorem cFx_f {M M2 : gM} {b : Nat} (h : gFr M M2 b 66) : cFx M M2 b := ⟨Nat.le_of_eq h.1.symm, fun x _ hx => h.2 x hx⟩
theorem cFx_r {M : gM} {b : Nat} : cFx M M b := ⟨Nat.le_refl _, fun _ _ _ => rfl⟩
theorem cM_fx {M M2 : gM} {b t : Nat} {V IV U : Nat → Int32} {S IS : Nat → Int64} {hh : Bool} (h : cM M (b + 66) V S IV IS hh U t) (hf : cFx M M2 b) (hb : b + 75 ≤ M.2) : cM M2 (b + 66) V S IV IS hh U t := by
  obtain ⟨at_, fa, K, KS, F, m0, m1, m2, m3, m4, m5, m6, m7, m8⟩ := h
  exact ⟨at_, fa, K, KS, F, (hf.2 _ (by omega) (by omega)).trans m0, (hf.2 _ (by omega) (by omega)).trans m1, (hf.2 _ (by omega) (by omega)).trans m2, (hf.2 _ (by omega) (by omega)).trans m3, (hf.2 _ (by omega) (by omega)).trans m4, (hf.2 _ (by omega) (by omega)).trans m5, (hf.2 _ (by omega) (by omega)).trans m6, (hf.2 _ (by omega) (by omega)).trans m7, (hf.2 _ (by omega) (by omega)).trans m8⟩
theorem cX_md {M M2 : gM} {b t : Nat} {V IV U : Nat → Int32} {S IS : Nat → Int64} {hh : Bool} (h : cX M b V S IV IS hh U t) (hf : gFr M M2 (b + 66) 9) : cX M2 b V S IV IS hh U t := by
  obtain ⟨h0, ⟨s, h1⟩, h2, ⟨T, D, hT, hR⟩, ⟨T2, W2, WS2, D2, hT2, hI2, hJ2, hR2, he2⟩, ⟨T3, W3, WS3, D3, hR3⟩⟩ := h
  exact ⟨gFr_g hf h0 (by omega), ⟨s, gFr_g hf h1 (by omega)⟩, gFr_g hf h2 (by omega), ⟨T, D, hT, cR_fr hR hf (by omega) (by omega)⟩, ⟨T2, W2, WS2, D2, hT2, hI2, hJ2, cR_fr hR2 hf (by omega) (by omega), he2⟩, ⟨T3, W3, WS3, D3, cR_fr hR3 hf (by omega) (by omega)⟩⟩
/-- an op's end: both sides are there -/
theorem cL_of {M M1 M2 : gM} {b t : Nat} {V IV U : Nat → Int32} {S IS : Nat → Int64} {hh : Bool} (hf : cFx M M1 b) (hX : cX M1 b V S IV IS hh U t) (hfm : gFr M1 M2 (b + 66) 9) (hcm : cM M2 (b + 66) V S IV IS hh U t) (hI : mI V) (hJ : mJ V) (ht : t ≤ 60) (hB : zB U) (hb : b + 75 ≤ M.2) : cL M2 b :=
  ⟨V, S, IV, IS, hh, U, t, cX_md hX hfm, hI, hJ, ht, hB, by have h1 := hf.1; have h2 := hfm.1; omega, hcm⟩
abbrev kLn (nm : String) : gMd := (⟨RL, nm, "([I)Z"⟩, cL_law, 4, some .boolean)
section LAW
variable {nm : String}
variable {G : gG} {M : gM} {b t : Nat} {V IV U : Nat → Int32} {S IS : Nat → Int64} {hh : Bool}
set_option maxHeartbeats 1000000 in
set_option maxRecDepth 20000 in
theorem law_label (hL : gSL G ≤ 3584) (i : Nat) (hi7 : i + 7 ≤ gSL G) (hcX : cX M b V S IV IS hh U t) (hI : mI V) (hJ : mJ V) (ht : t ≤ 60) (hB : zB U) (hbM : b + 75 ≤ M.2) (hM : cM M (b + 66) V S IV IS hh U t) : gJ G (kLn nm) 10 7 25 M 124 [(3, .int (nI i)), (2, .ref (b + 66)), (1, .ref b), (0, .ref (gS G 4))] [] (fun M' pc' lv' st' => pc' = 694 ∧ lv' = [(3, .int (nI i)), (2, .ref (b + 66)), (1, .ref b), (0, .ref (gS G 4))] ∧ st' = [] ∧ cL M' b) := by
  have hx0 := hcX.1
  refine gJ_aload_n dL_law_124 rfl rfl ?_
  refine gJ_aload_n dL_law_125 rfl rfl ?_
  refine gJ_iload_n dL_law_126 rfl rfl ?_
  refine gJ_iconst (v := 1) dL_law_127 (by decide) ?_
  refine gJ_iaddN (a := i) (b := 1) dL_law_128 (by first | with_reducible rfl | rfl) (by first | with_reducible rfl | rfl) ?_
  refine gJ_sld dL_law_129 (vp_in_nI (by omega) (by omega)) ?_
  refine gJ_aload_n dL_law_130 rfl rfl ?_
  refine gJ_iload_n dL_law_131 rfl rfl ?_
  refine gJ_iconst (v := 2) dL_law_132 (by decide) ?_
  refine gJ_iaddN (a := i) (b := 2) dL_law_133 (by first | with_reducible rfl | rfl) (by first | with_reducible rfl | rfl) ?_
  refine gJ_sld dL_law_134 (vp_in_nI (by omega) (by omega)) ?_
  refine gJ_aload_n dL_law_135 rfl rfl ?_
  refine gJ_iload_n dL_law_136 rfl rfl ?_
  refine gJ_iconst (v := 3) dL_law_137 (by decide) ?_
  refine gJ_iaddN (a := i) (b := 3) dL_law_138 (by first | with_reducible rfl | rfl) (by first | with_reducible rfl | rfl) ?_
  refine gJ_sld dL_law_139 (vp_in_nI (by omega) (by omega)) ?_
  refine gJ_callV (As := [_, _, _]) b_X11_label lL_13 i_X11_label s_X11_label dL_law_140 (c11_label hcX hI _ _ _) hx0 rfl rfl (Nat.le_of_ble_eq_true rfl) rfl (by decide) (fun M140 v_ h140 => ?_)
  obtain ⟨hg, hX1, rfl⟩ := h140
  have hfx : cFx M M140 b := cFx_f hg
  obtain ⟨at_, fa, K, KS, F, m0, m1, m2, m3, m4, m5, m6, m7, m8⟩ := cM_fx hM hfx hbM
  refine gJ_aload_n dL_law_143 rfl rfl ?_
  refine gJ_aload_n dL_law_144 rfl rfl ?_
  refine gJ_iload_n dL_law_145 rfl rfl ?_
  refine gJ_iconst (v := 1) dL_law_146 (by decide) ?_
  refine gJ_iaddN (a := i) (b := 1) dL_law_147 (by first | with_reducible rfl | rfl) (by first | with_reducible rfl | rfl) ?_
  refine gJ_sld dL_law_148 (vp_in_nI (by omega) (by omega)) ?_
  refine gJ_aload_n dL_law_149 rfl rfl ?_
  refine gJ_iload_n dL_law_150 rfl rfl ?_
  refine gJ_iconst (v := 2) dL_law_151 (by decide) ?_
  refine gJ_iaddN (a := i) (b := 2) dL_law_152 (by first | with_reducible rfl | rfl) (by first | with_reducible rfl | rfl) ?_
  refine gJ_sld dL_law_153 (vp_in_nI (by omega) (by omega)) ?_
  refine gJ_aload_n dL_law_154 rfl rfl ?_
  refine gJ_iload_n dL_law_155 rfl rfl ?_
  refine gJ_iconst (v := 3) dL_law_156 (by decide) ?_
  refine gJ_iaddN (a := i) (b := 3) dL_law_157 (by first | with_reducible rfl | rfl) (by first | with_reducible rfl | rfl) ?_
  refine gJ_sld dL_law_158 (vp_in_nI (by omega) (by omega)) ?_
  refine gJ_callV (As := [_, _, _]) b_X12_label lL_17 i_X12_label s_X12_label dL_law_159 (c12_label m0 m1 _ _ _) m0 rfl rfl (Nat.le_of_ble_eq_true rfl) rfl (by decide) (fun M159 v_ h159 => ?_)
  obtain ⟨e_, rfl⟩ := h159
  replace e_ := e_.symm
  subst e_
  refine gJ_icmp_eq (tgt := 694) dL_law_162 (by decide) (fun _ => ?_) (fun c_ => by exfalso; exact c_ rfl)
  exact gJ_done ⟨rfl, rfl, rfl, cL_of hfx hX1 (by repeat (first | exact gFr_r | refine gFr_u ?_ (by omega))) ⟨at_, fa, K, KS, F, (by repeat (first | with_reducible exact gUp_s | with_reducible assumption | refine gUp_n ?_ (by omega))), (by repeat (first | with_reducible exact gUp_s | with_reducible assumption | refine gUp_n ?_ (by omega))), (by repeat (first | with_reducible exact gUp_s | with_reducible assumption | refine gUp_n ?_ (by omega))), (by repeat (first | with_reducible exact gUp_s | with_reducible assumption | refine gUp_n ?_ (by omega))), (by repeat (first | with_reducible exact gUp_s | with_reducible assumption | refine gUp_n ?_ (by omega))), (by repeat (first | with_reducible exact gUp_s | with_reducible assumption | refine gUp_n ?_ (by omega))), (by repeat (first | with_reducible exact gUp_s | with_reducible assumption | refine gUp_n ?_ (by omega))), (by repeat (first | with_reducible exact gUp_s | with_reducible assumption | refine gUp_n ?_ (by omega))), (by repeat (first | with_reducible exact gUp_s | with_reducible assumption | refine gUp_n ?_ (by omega)))⟩ (aLabel_I hI _ _ _) (aLabel_J hJ _ _ _) ht hB hbM⟩
set_option maxHeartbeats 1000000 in
set_option maxRecDepth 20000 in
theorem law_sample (hL : gSL G ≤ 3584) (i : Nat) (hi7 : i + 7 ≤ gSL G) (hcX : cX M b V S IV IS hh U t) (hI : mI V) (hJ : mJ V) (ht : t ≤ 60) (hB : zB U) (hbM : b + 75 ≤ M.2) (hM : cM M (b + 66) V S IV IS hh U t) : gJ G (kLn nm) 10 7 25 M 167 [(3, .int (nI i)), (2, .ref (b + 66)), (1, .ref b), (0, .ref (gS G 4))] [] (fun M' pc' lv' st' => pc' = 694 ∧ lv' = [(3, .int (nI i)), (2, .ref (b + 66)), (1, .ref b), (0, .ref (gS G 4))] ∧ st' = [] ∧ cL M' b) := by
  have hx0 := hcX.1
  refine gJ_aload_n dL_law_167 rfl rfl ?_
  refine gJ_aload_n dL_law_168 rfl rfl ?_
  refine gJ_iload_n dL_law_169 rfl rfl ?_
  refine gJ_iconst (v := 1) dL_law_170 (by decide) ?_
  refine gJ_iaddN (a := i) (b := 1) dL_law_171 (by first | with_reducible rfl | rfl) (by first | with_reducible rfl | rfl) ?_
  refine gJ_sld dL_law_172 (vp_in_nI (by omega) (by omega)) ?_
  refine gJ_aload_n dL_law_173 rfl rfl ?_
  refine gJ_iload_n dL_law_174 rfl rfl ?_
  refine gJ_iconst (v := 2) dL_law_175 (by decide) ?_
  refine gJ_iaddN (a := i) (b := 2) dL_law_176 (by first | with_reducible rfl | rfl) (by first | with_reducible rfl | rfl) ?_
  refine gJ_sld dL_law_177 (vp_in_nI (by omega) (by omega)) ?_
  refine gJ_callV (As := [_, _]) b_X11_sample lL_18 i_X11_sample s_X11_sample dL_law_178 (c11_sample hcX hI _ _) hx0 rfl rfl (Nat.le_of_ble_eq_true rfl) rfl (by decide) (fun M178 v_ h178 => ?_)
  obtain ⟨hg, hX1, rfl⟩ := h178
  have hfx : cFx M M178 b := cFx_f hg
  obtain ⟨at_, fa, K, KS, F, m0, m1, m2, m3, m4, m5, m6, m7, m8⟩ := cM_fx hM hfx hbM
  refine gJ_aload_n dL_law_181 rfl rfl ?_
  refine gJ_aload_n dL_law_182 rfl rfl ?_
  refine gJ_iload_n dL_law_183 rfl rfl ?_
  refine gJ_iconst (v := 1) dL_law_184 (by decide) ?_
  refine gJ_iaddN (a := i) (b := 1) dL_law_185 (by first | with_reducible rfl | rfl) (by first | with_reducible rfl | rfl) ?_
  refine gJ_sld dL_law_186 (vp_in_nI (by omega) (by omega)) ?_
  refine gJ_aload_n dL_law_187 rfl rfl ?_
  refine gJ_iload_n dL_law_188 rfl rfl ?_
  refine gJ_iconst (v := 2) dL_law_189 (by decide) ?_
  refine gJ_iaddN (a := i) (b := 2) dL_law_190 (by first | with_reducible rfl | rfl) (by first | with_reducible rfl | rfl) ?_
  refine gJ_sld dL_law_191 (vp_in_nI (by omega) (by omega)) ?_
  refine gJ_callV (As := [_, _]) b_X12_sample lL_22 i_X12_sample s_X12_sample dL_law_192 (c12_sample m0 m1 _ _) m0 rfl rfl (Nat.le_of_ble_eq_true rfl) rfl (by decide) (fun M192 v_ h192 => ?_)
  obtain ⟨e_, rfl⟩ := h192
  replace e_ := e_.symm
  subst e_
  refine gJ_icmp_eq (tgt := 694) dL_law_195 (by decide) (fun _ => ?_) (fun c_ => by exfalso; exact c_ rfl)
  exact gJ_done ⟨rfl, rfl, rfl, cL_of hfx hX1 (by repeat (first | exact gFr_r | refine gFr_u ?_ (by omega))) ⟨at_, fa, K, KS, F, (by repeat (first | with_reducible exact gUp_s | with_reducible assumption | refine gUp_n ?_ (by omega))), (by repeat (first | with_reducible exact gUp_s | with_reducible assumption | refine gUp_n ?_ (by omega))), (by repeat (first | with_reducible exact gUp_s | with_reducible assumption | refine gUp_n ?_ (by omega))), (by repeat (first | with_reducible exact gUp_s | with_reducible assumption | refine gUp_n ?_ (by omega))), (by repeat (first | with_reducible exact gUp_s | with_reducible assumption | refine gUp_n ?_ (by omega))), (by repeat (first | with_reducible exact gUp_s | with_reducible assumption | refine gUp_n ?_ (by omega))), (by repeat (first | with_reducible exact gUp_s | with_reducible assumption | refine gUp_n ?_ (by omega))), (by repeat (first | with_reducible exact gUp_s | with_reducible assumption | refine gUp_n ?_ (by omega))), (by repeat (first | with_reducible exact gUp_s | with_reducible assumption | refine gUp_n ?_ (by omega)))⟩ (aSample_I hI _ _) (aSample_J hJ _ _) ht hB hbM⟩
set_option maxHeartbeats 1000000 in
set_option maxRecDepth 20000 in
theorem law_drop (hL : gSL G ≤ 3584) (i : Nat) (hi7 : i + 7 ≤ gSL G) (hcX : cX M b V S IV IS hh U t) (hI : mI V) (hJ : mJ V) (ht : t ≤ 60) (hB : zB U) (hbM : b + 75 ≤ M.2) (hM : cM M (b + 66) V S IV IS hh U t) : gJ G (kLn nm) 10 7 25 M 200 [(3, .int (nI i)), (2, .ref (b + 66)), (1, .ref b), (0, .ref (gS G 4))] [] (fun M' pc' lv' st' => pc' = 694 ∧ lv' = [(3, .int (nI i)), (2, .ref (b + 66)), (1, .ref b), (0, .ref (gS G 4))] ∧ st' = [] ∧ cL M' b) := by
  have hx0 := hcX.1
  refine gJ_aload_n dL_law_200 rfl rfl ?_
  refine gJ_aload_n dL_law_201 rfl rfl ?_
  refine gJ_iload_n dL_law_202 rfl rfl ?_
  refine gJ_iconst (v := 1) dL_law_203 (by decide) ?_
  refine gJ_iaddN (a := i) (b := 1) dL_law_204 (by first | with_reducible rfl | rfl) (by first | with_reducible rfl | rfl) ?_
  refine gJ_sld dL_law_205 (vp_in_nI (by omega) (by omega)) ?_
  refine gJ_callV (As := [_]) b_X11_drop lL_23 i_X11_drop s_X11_drop dL_law_206 (c11_drop hcX hI _) hx0 rfl rfl (Nat.le_of_ble_eq_true rfl) rfl (by decide) (fun M206 v_ h206 => ?_)
  obtain ⟨hg, hX1, rfl⟩ := h206
  have hfx : cFx M M206 b := cFx_f hg
  obtain ⟨at_, fa, K, KS, F, m0, m1, m2, m3, m4, m5, m6, m7, m8⟩ := cM_fx hM hfx hbM
  refine gJ_aload_n dL_law_209 rfl rfl ?_
  refine gJ_aload_n dL_law_210 rfl rfl ?_
  refine gJ_iload_n dL_law_211 rfl rfl ?_
  refine gJ_iconst (v := 1) dL_law_212 (by decide) ?_
  refine gJ_iaddN (a := i) (b := 1) dL_law_213 (by first | with_reducible rfl | rfl) (by first | with_reducible rfl | rfl) ?_
  refine gJ_sld dL_law_214 (vp_in_nI (by omega) (by omega)) ?_
  refine gJ_callV (As := [_]) b_X12_drop lL_27 i_X12_drop s_X12_drop dL_law_215 (c12_drop m0 m1 _) m0 rfl rfl (Nat.le_of_ble_eq_true rfl) rfl (by decide) (fun M215 v_ h215 => ?_)
  obtain ⟨e_, rfl⟩ := h215
  replace e_ := e_.symm
  subst e_
  refine gJ_icmp_eq (tgt := 694) dL_law_218 (by decide) (fun _ => ?_) (fun c_ => by exfalso; exact c_ rfl)
  exact gJ_done ⟨rfl, rfl, rfl, cL_of hfx hX1 (by repeat (first | exact gFr_r | refine gFr_u ?_ (by omega))) ⟨at_, fa, K, KS, F, (by repeat (first | with_reducible exact gUp_s | with_reducible assumption | refine gUp_n ?_ (by omega))), (by repeat (first | with_reducible exact gUp_s | with_reducible assumption | refine gUp_n ?_ (by omega))), (by repeat (first | with_reducible exact gUp_s | with_reducible assumption | refine gUp_n ?_ (by omega))), (by repeat (first | with_reducible exact gUp_s | with_reducible assumption | refine gUp_n ?_ (by omega))), (by repeat (first | with_reducible exact gUp_s | with_reducible assumption | refine gUp_n ?_ (by omega))), (by repeat (first | with_reducible exact gUp_s | with_reducible assumption | refine gUp_n ?_ (by omega))), (by repeat (first | with_reducible exact gUp_s | with_reducible assumption | refine gUp_n ?_ (by omega))), (by repeat (first | with_reducible exact gUp_s | with_reducible assumption | refine gUp_n ?_ (by omega))), (by repeat (first | with_reducible exact gUp_s | with_reducible assumption | refine gUp_n ?_ (by omega)))⟩ (aDrop_I hI _) (aDrop_J hJ _) ht hB hbM⟩
set_option maxHeartbeats 1000000 in
set_option maxRecDepth 20000 in
theorem law_feed (hL : gSL G ≤ 3584) (i : Nat) (hi7 : i + 7 ≤ gSL G) (hcX : cX M b V S IV IS hh U t) (hI : mI V) (hJ : mJ V) (ht : t ≤ 60) (hB : zB U) (hbM : b + 75 ≤ M.2) (hM : cM M (b + 66) V S IV IS hh U t) : gJ G (kLn nm) 10 7 25 M 223 [(3, .int (nI i)), (2, .ref (b + 66)), (1, .ref b), (0, .ref (gS G 4))] [] (fun M' pc' lv' st' => pc' = 694 ∧ lv' = [(3, .int (nI i)), (2, .ref (b + 66)), (1, .ref b), (0, .ref (gS G 4))] ∧ st' = [] ∧ cL M' b) := by
  have hx0 := hcX.1
  have hfd := fun n a c d e f => aFeed_B (U := U) (t := t) (n := n) (a := a) (c := c) (d := d) (e := e) (f := f) hB ht
  refine gJ_aload_n dL_law_223 rfl rfl ?_
  refine gJ_aload_n dL_law_224 rfl rfl ?_
  refine gJ_iload_n dL_law_225 rfl rfl ?_
  refine gJ_iconst (v := 1) dL_law_226 (by decide) ?_
  refine gJ_iaddN (a := i) (b := 1) dL_law_227 (by first | with_reducible rfl | rfl) (by first | with_reducible rfl | rfl) ?_
  refine gJ_sld dL_law_228 (vp_in_nI (by omega) (by omega)) ?_
  refine gJ_aload_n dL_law_229 rfl rfl ?_
  refine gJ_iload_n dL_law_230 rfl rfl ?_
  refine gJ_iconst (v := 2) dL_law_231 (by decide) ?_
  refine gJ_iaddN (a := i) (b := 2) dL_law_232 (by first | with_reducible rfl | rfl) (by first | with_reducible rfl | rfl) ?_
  refine gJ_sld dL_law_233 (vp_in_nI (by omega) (by omega)) ?_
  refine gJ_aload_n dL_law_234 rfl rfl ?_
  refine gJ_iload_n dL_law_235 rfl rfl ?_
  refine gJ_iconst (v := 3) dL_law_236 (by decide) ?_
  refine gJ_iaddN (a := i) (b := 3) dL_law_237 (by first | with_reducible rfl | rfl) (by first | with_reducible rfl | rfl) ?_
  refine gJ_sld dL_law_238 (vp_in_nI (by omega) (by omega)) ?_
  refine gJ_aload_n dL_law_239 rfl rfl ?_
  refine gJ_iload_n dL_law_240 rfl rfl ?_
  refine gJ_iconst (v := 4) dL_law_241 (by decide) ?_
  refine gJ_iaddN (a := i) (b := 4) dL_law_242 (by first | with_reducible rfl | rfl) (by first | with_reducible rfl | rfl) ?_
  refine gJ_sld dL_law_243 (vp_in_nI (by omega) (by omega)) ?_
  refine gJ_aload_n dL_law_244 rfl rfl ?_
  refine gJ_iload_n dL_law_245 rfl rfl ?_
  refine gJ_iconst (v := 5) dL_law_246 (by decide) ?_
  refine gJ_iaddN (a := i) (b := 5) dL_law_247 (by first | with_reducible rfl | rfl) (by first | with_reducible rfl | rfl) ?_
  refine gJ_sld dL_law_248 (vp_in_nI (by omega) (by omega)) ?_
  refine gJ_aload_n dL_law_249 rfl rfl ?_
  refine gJ_iload_n dL_law_250 rfl rfl ?_
  refine gJ_bipush (v := 6) dL_law_251 (by decide) ?_
  refine gJ_iaddN (a := i) (b := 6) dL_law_253 (by first | with_reducible rfl | rfl) (by first | with_reducible rfl | rfl) ?_
  refine gJ_sld dL_law_254 (vp_in_nI (by omega) (by omega)) ?_
  refine gJ_callV (As := [_, _, _, _, _, _]) b_X11_feed lL_28 i_X11_feed s_X11_feed dL_law_255 (c11_feed hcX ht _ _ _ _ _ _) hx0 rfl rfl (Nat.le_of_ble_eq_true rfl) rfl (by decide) (fun M255 v_ h255 => ?_)
  obtain ⟨hg, hX1, rfl⟩ := h255
  have hfx : cFx M M255 b := cFx_f hg
  obtain ⟨at_, fa, K, KS, F, m0, m1, m2, m3, m4, m5, m6, m7, m8⟩ := cM_fx hM hfx hbM
  refine gJ_aload_n dL_law_258 rfl rfl ?_
  refine gJ_aload_n dL_law_259 rfl rfl ?_
  refine gJ_iload_n dL_law_260 rfl rfl ?_
  refine gJ_iconst (v := 1) dL_law_261 (by decide) ?_
  refine gJ_iaddN (a := i) (b := 1) dL_law_262 (by first | with_reducible rfl | rfl) (by first | with_reducible rfl | rfl) ?_
  refine gJ_sld dL_law_263 (vp_in_nI (by omega) (by omega)) ?_
  refine gJ_aload_n dL_law_264 rfl rfl ?_
  refine gJ_iload_n dL_law_265 rfl rfl ?_
  refine gJ_iconst (v := 2) dL_law_266 (by decide) ?_
  refine gJ_iaddN (a := i) (b := 2) dL_law_267 (by first | with_reducible rfl | rfl) (by first | with_reducible rfl | rfl) ?_
  refine gJ_sld dL_law_268 (vp_in_nI (by omega) (by omega)) ?_
  refine gJ_aload_n dL_law_269 rfl rfl ?_
  refine gJ_iload_n dL_law_270 rfl rfl ?_
  refine gJ_iconst (v := 3) dL_law_271 (by decide) ?_
  refine gJ_iaddN (a := i) (b := 3) dL_law_272 (by first | with_reducible rfl | rfl) (by first | with_reducible rfl | rfl) ?_
  refine gJ_sld dL_law_273 (vp_in_nI (by omega) (by omega)) ?_
  refine gJ_aload_n dL_law_274 rfl rfl ?_
  refine gJ_iload_n dL_law_275 rfl rfl ?_
  refine gJ_iconst (v := 4) dL_law_276 (by decide) ?_
  refine gJ_iaddN (a := i) (b := 4) dL_law_277 (by first | with_reducible rfl | rfl) (by first | with_reducible rfl | rfl) ?_
  refine gJ_sld dL_law_278 (vp_in_nI (by omega) (by omega)) ?_
  refine gJ_aload_n dL_law_279 rfl rfl ?_
  refine gJ_iload_n dL_law_280 rfl rfl ?_
  refine gJ_iconst (v := 5) dL_law_281 (by decide) ?_
  refine gJ_iaddN (a := i) (b := 5) dL_law_282 (by first | with_reducible rfl | rfl) (by first | with_reducible rfl | rfl) ?_
  refine gJ_sld dL_law_283 (vp_in_nI (by omega) (by omega)) ?_
  refine gJ_aload_n dL_law_284 rfl rfl ?_
  refine gJ_iload_n dL_law_285 rfl rfl ?_
  refine gJ_bipush (v := 6) dL_law_286 (by decide) ?_
  refine gJ_iaddN (a := i) (b := 6) dL_law_288 (by first | with_reducible rfl | rfl) (by first | with_reducible rfl | rfl) ?_
  refine gJ_sld dL_law_289 (vp_in_nI (by omega) (by omega)) ?_
  refine gJ_callV (As := [_, _, _, _, _, _]) b_X12_feed lL_32 i_X12_feed s_X12_feed dL_law_290 (c12_feed t ht m0 m7 _ _ _ _ _ _) m0 rfl rfl (Nat.le_of_ble_eq_true rfl) rfl (by decide) (fun M290 v_ h290 => ?_)
  obtain ⟨e_, rfl⟩ := h290
  replace e_ := e_.symm
  subst e_
  refine gJ_icmp_eq (tgt := 694) dL_law_293 (by decide) (fun _ => ?_) (fun c_ => by exfalso; exact c_ rfl)
  exact gJ_done ⟨rfl, rfl, rfl, cL_of hfx hX1 (by repeat (first | exact gFr_r | refine gFr_u ?_ (by omega))) ⟨at_, fa, K, KS, F, (by repeat (first | with_reducible exact gUp_s | with_reducible assumption | refine gUp_n ?_ (by omega))), (by repeat (first | with_reducible exact gUp_s | with_reducible assumption | refine gUp_n ?_ (by omega))), (by repeat (first | with_reducible exact gUp_s | with_reducible assumption | refine gUp_n ?_ (by omega))), (by repeat (first | with_reducible exact gUp_s | with_reducible assumption | refine gUp_n ?_ (by omega))), (by repeat (first | with_reducible exact gUp_s | with_reducible assumption | refine gUp_n ?_ (by omega))), (by repeat (first | with_reducible exact gUp_s | with_reducible assumption | refine gUp_n ?_ (by omega))), (by repeat (first | with_reducible exact gUp_s | with_reducible assumption | refine gUp_n ?_ (by omega))), (by repeat (first | with_reducible exact gUp_s | with_reducible assumption | refine gUp_n ?_ (by omega))), (by repeat (first | with_reducible exact gUp_s | with_reducible assumption | refine gUp_n ?_ (by omega)))⟩ (hI) (hJ) (hfd _ _ _ _ _ _).2 (hfd _ _ _ _ _ _).1 hbM⟩
set_option maxHeartbeats 1000000 in
set_option maxRecDepth 20000 in
theorem law_add (hL : gSL G ≤ 3584) (i : Nat) (hi7 : i + 7 ≤ gSL G) (hcX : cX M b V S IV IS hh U t) (hI : mI V) (hJ : mJ V) (ht : t ≤ 60) (hB : zB U) (hbM : b + 75 ≤ M.2) (hM : cM M (b + 66) V S IV IS hh U t) : gJ G (kLn nm) 10 7 25 M 298 [(3, .int (nI i)), (2, .ref (b + 66)), (1, .ref b), (0, .ref (gS G 4))] [] (fun M' pc' lv' st' => pc' = 694 ∧ lv' = [(3, .int (nI i)), (2, .ref (b + 66)), (1, .ref b), (0, .ref (gS G 4))] ∧ st' = [] ∧ cL M' b) := by
  have hx0 := hcX.1
  refine gJ_aload_n dL_law_298 rfl rfl ?_
  refine gJ_aload_n dL_law_299 rfl rfl ?_
  refine gJ_iload_n dL_law_300 rfl rfl ?_
  refine gJ_iconst (v := 1) dL_law_301 (by decide) ?_
  refine gJ_iaddN (a := i) (b := 1) dL_law_302 (by first | with_reducible rfl | rfl) (by first | with_reducible rfl | rfl) ?_
  refine gJ_sld dL_law_303 (vp_in_nI (by omega) (by omega)) ?_
  refine gJ_callV (As := [_]) b_X11_add lL_33 i_X11_add s_X11_add dL_law_304 (c11_add hcX ht hB hI hbM _) hx0 rfl rfl (Nat.le_of_ble_eq_true rfl) rfl (by decide) (fun M304 v_ h304 => ?_)
  obtain ⟨hg, hX1, rfl⟩ := h304
  have hfx : cFx M M304 b := hg
  obtain ⟨at_, fa, K, KS, F, m0, m1, m2, m3, m4, m5, m6, m7, m8⟩ := cM_fx hM hfx hbM
  refine gJ_aload_n dL_law_307 rfl rfl ?_
  refine gJ_aload_n dL_law_308 rfl rfl ?_
  refine gJ_iload_n dL_law_309 rfl rfl ?_
  refine gJ_iconst (v := 1) dL_law_310 (by decide) ?_
  refine gJ_iaddN (a := i) (b := 1) dL_law_311 (by first | with_reducible rfl | rfl) (by first | with_reducible rfl | rfl) ?_
  refine gJ_sld dL_law_312 (vp_in_nI (by omega) (by omega)) ?_
  refine gJ_callV (As := [_]) b_X12_add lL_36 i_X12_add s_X12_add dL_law_313 (c12_add ht hB m0 m7 m8 m1 _) m0 rfl rfl (Nat.le_of_ble_eq_true rfl) rfl (by decide) (fun M313 v_ h313 => ?_)
  obtain ⟨rfl, a2, f2, F2, e_⟩ := h313
  replace e_ := e_.symm
  subst e_
  refine gJ_icmp_eq (tgt := 694) dL_law_316 (by decide) (fun _ => ?_) (fun c_ => by exfalso; exact c_ rfl)
  exact gJ_done ⟨rfl, rfl, rfl, cL_of hfx hX1 (by repeat (first | exact gFr_r | refine gFr_u ?_ (by omega))) ⟨a2, f2, K, KS, F2, (by repeat (first | with_reducible exact gUp_s | with_reducible assumption | refine gUp_n ?_ (by omega))), (by repeat (first | with_reducible exact gUp_s | with_reducible assumption | refine gUp_n ?_ (by omega))), (by repeat (first | with_reducible exact gUp_s | with_reducible assumption | refine gUp_n ?_ (by omega))), (by repeat (first | with_reducible exact gUp_s | with_reducible assumption | refine gUp_n ?_ (by omega))), (by repeat (first | with_reducible exact gUp_s | with_reducible assumption | refine gUp_n ?_ (by omega))), (by repeat (first | with_reducible exact gUp_s | with_reducible assumption | refine gUp_n ?_ (by omega))), (by repeat (first | with_reducible exact gUp_s | with_reducible assumption | refine gUp_n ?_ (by omega))), (by repeat (first | with_reducible exact gUp_s | with_reducible assumption | refine gUp_n ?_ (by omega))), (by repeat (first | with_reducible exact gUp_s | with_reducible assumption | refine gUp_n ?_ (by omega)))⟩ (aAdd_I hI _) (aAdd_J hJ _) (aAdd_t ht _) hB hbM⟩
set_option maxHeartbeats 1000000 in
set_option maxRecDepth 20000 in
theorem law_remove (hL : gSL G ≤ 3584) (i : Nat) (hi7 : i + 7 ≤ gSL G) (hcX : cX M b V S IV IS hh U t) (hI : mI V) (hJ : mJ V) (ht : t ≤ 60) (hB : zB U) (hbM : b + 75 ≤ M.2) (hM : cM M (b + 66) V S IV IS hh U t) : gJ G (kLn nm) 10 7 25 M 321 [(3, .int (nI i)), (2, .ref (b + 66)), (1, .ref b), (0, .ref (gS G 4))] [] (fun M' pc' lv' st' => pc' = 694 ∧ lv' = [(3, .int (nI i)), (2, .ref (b + 66)), (1, .ref b), (0, .ref (gS G 4))] ∧ st' = [] ∧ cL M' b) := by
  have hx0 := hcX.1
  refine gJ_aload_n dL_law_321 rfl rfl ?_
  refine gJ_aload_n dL_law_322 rfl rfl ?_
  refine gJ_iload_n dL_law_323 rfl rfl ?_
  refine gJ_iconst (v := 1) dL_law_324 (by decide) ?_
  refine gJ_iaddN (a := i) (b := 1) dL_law_325 (by first | with_reducible rfl | rfl) (by first | with_reducible rfl | rfl) ?_
  refine gJ_sld dL_law_326 (vp_in_nI (by omega) (by omega)) ?_
  refine gJ_aload_n dL_law_327 rfl rfl ?_
  refine gJ_iload_n dL_law_328 rfl rfl ?_
  refine gJ_iconst (v := 2) dL_law_329 (by decide) ?_
  refine gJ_iaddN (a := i) (b := 2) dL_law_330 (by first | with_reducible rfl | rfl) (by first | with_reducible rfl | rfl) ?_
  refine gJ_sld dL_law_331 (vp_in_nI (by omega) (by omega)) ?_
  refine gJ_callV (As := [_, _]) b_X11_remove lL_37 i_X11_remove s_X11_remove dL_law_332 (c11_remove hcX hI _ _) hx0 rfl rfl (Nat.le_of_ble_eq_true rfl) rfl (by decide) (fun M332 v_ h332 => ?_)
  obtain ⟨hg, hX1, rfl⟩ := h332
  have hfx : cFx M M332 b := cFx_f hg
  obtain ⟨at_, fa, K, KS, F, m0, m1, m2, m3, m4, m5, m6, m7, m8⟩ := cM_fx hM hfx hbM
  refine gJ_aload_n dL_law_335 rfl rfl ?_
  refine gJ_aload_n dL_law_336 rfl rfl ?_
  refine gJ_iload_n dL_law_337 rfl rfl ?_
  refine gJ_iconst (v := 1) dL_law_338 (by decide) ?_
  refine gJ_iaddN (a := i) (b := 1) dL_law_339 (by first | with_reducible rfl | rfl) (by first | with_reducible rfl | rfl) ?_
  refine gJ_sld dL_law_340 (vp_in_nI (by omega) (by omega)) ?_
  refine gJ_aload_n dL_law_341 rfl rfl ?_
  refine gJ_iload_n dL_law_342 rfl rfl ?_
  refine gJ_iconst (v := 2) dL_law_343 (by decide) ?_
  refine gJ_iaddN (a := i) (b := 2) dL_law_344 (by first | with_reducible rfl | rfl) (by first | with_reducible rfl | rfl) ?_
  refine gJ_sld dL_law_345 (vp_in_nI (by omega) (by omega)) ?_
  refine gJ_callV (As := [_, _]) b_X12_remove lL_40 i_X12_remove s_X12_remove dL_law_346 (c12_remove m0 m1 _ _) m0 rfl rfl (Nat.le_of_ble_eq_true rfl) rfl (by decide) (fun M346 v_ h346 => ?_)
  obtain ⟨e_, rfl⟩ := h346
  replace e_ := e_.symm
  subst e_
  refine gJ_icmp_eq (tgt := 694) dL_law_349 (by decide) (fun _ => ?_) (fun c_ => by exfalso; exact c_ rfl)
  exact gJ_done ⟨rfl, rfl, rfl, cL_of hfx hX1 (by repeat (first | exact gFr_r | refine gFr_u ?_ (by omega))) ⟨at_, fa, K, KS, F, (by repeat (first | with_reducible exact gUp_s | with_reducible assumption | refine gUp_n ?_ (by omega))), (by repeat (first | with_reducible exact gUp_s | with_reducible assumption | refine gUp_n ?_ (by omega))), (by repeat (first | with_reducible exact gUp_s | with_reducible assumption | refine gUp_n ?_ (by omega))), (by repeat (first | with_reducible exact gUp_s | with_reducible assumption | refine gUp_n ?_ (by omega))), (by repeat (first | with_reducible exact gUp_s | with_reducible assumption | refine gUp_n ?_ (by omega))), (by repeat (first | with_reducible exact gUp_s | with_reducible assumption | refine gUp_n ?_ (by omega))), (by repeat (first | with_reducible exact gUp_s | with_reducible assumption | refine gUp_n ?_ (by omega))), (by repeat (first | with_reducible exact gUp_s | with_reducible assumption | refine gUp_n ?_ (by omega))), (by repeat (first | with_reducible exact gUp_s | with_reducible assumption | refine gUp_n ?_ (by omega)))⟩ (aRem_I hI _ _) (aRem_J hJ _ _) ht hB hbM⟩
set_option maxHeartbeats 1000000 in
set_option maxRecDepth 20000 in
theorem law_parameter (hL : gSL G ≤ 3584) (i : Nat) (hi7 : i + 7 ≤ gSL G) (hcX : cX M b V S IV IS hh U t) (hI : mI V) (hJ : mJ V) (ht : t ≤ 60) (hB : zB U) (hbM : b + 75 ≤ M.2) (hM : cM M (b + 66) V S IV IS hh U t) : gJ G (kLn nm) 10 7 25 M 354 [(3, .int (nI i)), (2, .ref (b + 66)), (1, .ref b), (0, .ref (gS G 4))] [] (fun M' pc' lv' st' => pc' = 694 ∧ lv' = [(3, .int (nI i)), (2, .ref (b + 66)), (1, .ref b), (0, .ref (gS G 4))] ∧ st' = [] ∧ cL M' b) := by
  have hx0 := hcX.1
  refine gJ_aload_n dL_law_354 rfl rfl ?_
  refine gJ_aload_n dL_law_355 rfl rfl ?_
  refine gJ_iload_n dL_law_356 rfl rfl ?_
  refine gJ_iconst (v := 1) dL_law_357 (by decide) ?_
  refine gJ_iaddN (a := i) (b := 1) dL_law_358 (by first | with_reducible rfl | rfl) (by first | with_reducible rfl | rfl) ?_
  refine gJ_sld dL_law_359 (vp_in_nI (by omega) (by omega)) ?_
  refine gJ_aload_n dL_law_360 rfl rfl ?_
  refine gJ_iload_n dL_law_361 rfl rfl ?_
  refine gJ_iconst (v := 2) dL_law_362 (by decide) ?_
  refine gJ_iaddN (a := i) (b := 2) dL_law_363 (by first | with_reducible rfl | rfl) (by first | with_reducible rfl | rfl) ?_
  refine gJ_sld dL_law_364 (vp_in_nI (by omega) (by omega)) ?_
  refine gJ_callV (As := [_, _]) b_X11_parameter lL_41 i_X11_parameter s_X11_parameter dL_law_365 (c11_parameter hcX hI _ _) hx0 rfl rfl (Nat.le_of_ble_eq_true rfl) rfl (by decide) (fun M365 v_ h365 => ?_)
  obtain ⟨hg, hX1, rfl⟩ := h365
  have hfx : cFx M M365 b := cFx_f hg
  obtain ⟨at_, fa, K, KS, F, m0, m1, m2, m3, m4, m5, m6, m7, m8⟩ := cM_fx hM hfx hbM
  refine gJ_aload_n dL_law_368 rfl rfl ?_
  refine gJ_aload_n dL_law_369 rfl rfl ?_
  refine gJ_iload_n dL_law_370 rfl rfl ?_
  refine gJ_iconst (v := 1) dL_law_371 (by decide) ?_
  refine gJ_iaddN (a := i) (b := 1) dL_law_372 (by first | with_reducible rfl | rfl) (by first | with_reducible rfl | rfl) ?_
  refine gJ_sld dL_law_373 (vp_in_nI (by omega) (by omega)) ?_
  refine gJ_aload_n dL_law_374 rfl rfl ?_
  refine gJ_iload_n dL_law_375 rfl rfl ?_
  refine gJ_iconst (v := 2) dL_law_376 (by decide) ?_
  refine gJ_iaddN (a := i) (b := 2) dL_law_377 (by first | with_reducible rfl | rfl) (by first | with_reducible rfl | rfl) ?_
  refine gJ_sld dL_law_378 (vp_in_nI (by omega) (by omega)) ?_
  refine gJ_callV (As := [_, _]) b_X12_parameter lL_44 i_X12_parameter s_X12_parameter dL_law_379 (c12_parameter m0 m1 m4 _ _) m0 rfl rfl (Nat.le_of_ble_eq_true rfl) rfl (by decide) (fun M379 v_ h379 => ?_)
  obtain ⟨e_, rfl⟩ := h379
  rw [mUp] at e_
  replace e_ := e_.symm
  subst e_
  refine gJ_icmp_eq (tgt := 694) dL_law_382 (by decide) (fun _ => ?_) (fun c_ => by exfalso; exact c_ rfl)
  exact gJ_done ⟨rfl, rfl, rfl, cL_of hfx hX1 (by repeat (first | exact gFr_r | refine gFr_u ?_ (by omega))) ⟨at_, fa, K, KS, F, (by repeat (first | with_reducible exact gUp_s | with_reducible assumption | refine gUp_n ?_ (by omega))), (by repeat (first | with_reducible exact gUp_s | with_reducible assumption | refine gUp_n ?_ (by omega))), (by repeat (first | with_reducible exact gUp_s | with_reducible assumption | refine gUp_n ?_ (by omega))), (by repeat (first | with_reducible exact gUp_s | with_reducible assumption | refine gUp_n ?_ (by omega))), (by repeat (first | with_reducible exact gUp_s | with_reducible assumption | refine gUp_n ?_ (by omega))), (by repeat (first | with_reducible exact gUp_s | with_reducible assumption | refine gUp_n ?_ (by omega))), (by repeat (first | with_reducible exact gUp_s | with_reducible assumption | refine gUp_n ?_ (by omega))), (by repeat (first | with_reducible exact gUp_s | with_reducible assumption | refine gUp_n ?_ (by omega))), (by repeat (first | with_reducible exact gUp_s | with_reducible assumption | refine gUp_n ?_ (by omega)))⟩ (aPar_I hI _ _) (aPar_J hJ _ _) ht hB hbM⟩
set_option maxHeartbeats 1000000 in
set_option maxRecDepth 20000 in
theorem law_pass (hL : gSL G ≤ 3584) (i : Nat) (hi7 : i + 7 ≤ gSL G) (hcX : cX M b V S IV IS hh U t) (hI : mI V) (hJ : mJ V) (ht : t ≤ 60) (hB : zB U) (hbM : b + 75 ≤ M.2) (hM : cM M (b + 66) V S IV IS hh U t) : gJ G (kLn nm) 10 7 25 M 387 [(3, .int (nI i)), (2, .ref (b + 66)), (1, .ref b), (0, .ref (gS G 4))] [] (fun M' pc' lv' st' => pc' = 694 ∧ lv' = [(3, .int (nI i)), (2, .ref (b + 66)), (1, .ref b), (0, .ref (gS G 4))] ∧ st' = [] ∧ cL M' b) := by
  have hx0 := hcX.1
  refine gJ_aload_n dL_law_387 rfl rfl ?_
  refine gJ_aload_n dL_law_388 rfl rfl ?_
  refine gJ_iload_n dL_law_389 rfl rfl ?_
  refine gJ_iconst (v := 1) dL_law_390 (by decide) ?_
  refine gJ_iaddN (a := i) (b := 1) dL_law_391 (by first | with_reducible rfl | rfl) (by first | with_reducible rfl | rfl) ?_
  refine gJ_sld dL_law_392 (vp_in_nI (by omega) (by omega)) ?_
  refine gJ_callV (As := [_]) b_X11_pass lL_45 i_X11_pass s_X11_pass dL_law_393 (c11_pass hcX hI hJ _) hx0 rfl rfl (Nat.le_of_ble_eq_true rfl) rfl (by decide) (fun M393 v_ h393 => ?_)
  obtain ⟨hg, hX1, rfl⟩ := h393
  have hfx : cFx M M393 b := cFx_f hg
  obtain ⟨at_, fa, K, KS, F, m0, m1, m2, m3, m4, m5, m6, m7, m8⟩ := cM_fx hM hfx hbM
  refine gJ_aload_n dL_law_396 rfl rfl ?_
  refine gJ_aload_n dL_law_397 rfl rfl ?_
  refine gJ_iload_n dL_law_398 rfl rfl ?_
  refine gJ_iconst (v := 1) dL_law_399 (by decide) ?_
  refine gJ_iaddN (a := i) (b := 1) dL_law_400 (by first | with_reducible rfl | rfl) (by first | with_reducible rfl | rfl) ?_
  refine gJ_sld dL_law_401 (vp_in_nI (by omega) (by omega)) ?_
  refine gJ_callV (As := [_]) b_X12_pass lL_48 i_X12_pass s_X12_pass dL_law_402 (c12_pass m0 m1 m4 hI _) m0 rfl rfl (Nat.le_of_ble_eq_true rfl) rfl (by decide) (fun M402 v_ h402 => ?_)
  obtain ⟨e_, rfl⟩ := h402
  rw [mUp] at e_
  replace e_ := e_.symm
  subst e_
  refine gJ_icmp_eq (tgt := 694) dL_law_405 (by decide) (fun _ => ?_) (fun c_ => by exfalso; exact c_ rfl)
  exact gJ_done ⟨rfl, rfl, rfl, cL_of hfx hX1 (by repeat (first | exact gFr_r | refine gFr_u ?_ (by omega))) ⟨at_, fa, K, KS, F, (by repeat (first | with_reducible exact gUp_s | with_reducible assumption | refine gUp_n ?_ (by omega))), (by repeat (first | with_reducible exact gUp_s | with_reducible assumption | refine gUp_n ?_ (by omega))), (by repeat (first | with_reducible exact gUp_s | with_reducible assumption | refine gUp_n ?_ (by omega))), (by repeat (first | with_reducible exact gUp_s | with_reducible assumption | refine gUp_n ?_ (by omega))), (by repeat (first | with_reducible exact gUp_s | with_reducible assumption | refine gUp_n ?_ (by omega))), (by repeat (first | with_reducible exact gUp_s | with_reducible assumption | refine gUp_n ?_ (by omega))), (by repeat (first | with_reducible exact gUp_s | with_reducible assumption | refine gUp_n ?_ (by omega))), (by repeat (first | with_reducible exact gUp_s | with_reducible assumption | refine gUp_n ?_ (by omega))), (by repeat (first | with_reducible exact gUp_s | with_reducible assumption | refine gUp_n ?_ (by omega)))⟩ (aPass_I hI _) (aPass_J hI hJ _) ht hB hbM⟩
set_option maxHeartbeats 1000000 in
set_option maxRecDepth 20000 in
theorem law_alert (hL : gSL G ≤ 3584) (i : Nat) (hi7 : i + 7 ≤ gSL G) (hcX : cX M b V S IV IS hh U t) (hI : mI V) (hJ : mJ V) (ht : t ≤ 60) (hB : zB U) (hbM : b + 75 ≤ M.2) (hM : cM M (b + 66) V S IV IS hh U t) : gJ G (kLn nm) 10 7 25 M 410 [(3, .int (nI i)), (2, .ref (b + 66)), (1, .ref b), (0, .ref (gS G 4))] [] (fun M' pc' lv' st' => pc' = 694 ∧ lv' = [(3, .int (nI i)), (2, .ref (b + 66)), (1, .ref b), (0, .ref (gS G 4))] ∧ st' = [] ∧ cL M' b) := by
  have hx0 := hcX.1
  refine gJ_aload_n dL_law_410 rfl rfl ?_
  refine gJ_aload_n dL_law_411 rfl rfl ?_
  refine gJ_iload_n dL_law_412 rfl rfl ?_
  refine gJ_iconst (v := 1) dL_law_413 (by decide) ?_
  refine gJ_iaddN (a := i) (b := 1) dL_law_414 (by first | with_reducible rfl | rfl) (by first | with_reducible rfl | rfl) ?_
  refine gJ_sld dL_law_415 (vp_in_nI (by omega) (by omega)) ?_
  refine gJ_aload_n dL_law_416 rfl rfl ?_
  refine gJ_iload_n dL_law_417 rfl rfl ?_
  refine gJ_iconst (v := 2) dL_law_418 (by decide) ?_
  refine gJ_iaddN (a := i) (b := 2) dL_law_419 (by first | with_reducible rfl | rfl) (by first | with_reducible rfl | rfl) ?_
  refine gJ_sld dL_law_420 (vp_in_nI (by omega) (by omega)) ?_
  refine gJ_aload_n dL_law_421 rfl rfl ?_
  refine gJ_iload_n dL_law_422 rfl rfl ?_
  refine gJ_iconst (v := 3) dL_law_423 (by decide) ?_
  refine gJ_iaddN (a := i) (b := 3) dL_law_424 (by first | with_reducible rfl | rfl) (by first | with_reducible rfl | rfl) ?_
  refine gJ_sld dL_law_425 (vp_in_nI (by omega) (by omega)) ?_
  refine gJ_callV (As := [_, _, _]) b_X11_alert lL_49 i_X11_alert s_X11_alert dL_law_426 (c11_alert hcX hI hJ _ _ _) hx0 rfl rfl (Nat.le_of_ble_eq_true rfl) rfl (by decide) (fun M426 v_ h426 => ?_)
  obtain ⟨e_, rfl⟩ := h426
  replace e_ := e_.symm
  subst e_
  have hfx : cFx M M b := cFx_r
  have hX1 := hcX
  obtain ⟨at_, fa, K, KS, F, m0, m1, m2, m3, m4, m5, m6, m7, m8⟩ := hM
  refine gJ_aload_n dL_law_429 rfl rfl ?_
  refine gJ_aload_n dL_law_430 rfl rfl ?_
  refine gJ_iload_n dL_law_431 rfl rfl ?_
  refine gJ_iconst (v := 1) dL_law_432 (by decide) ?_
  refine gJ_iaddN (a := i) (b := 1) dL_law_433 (by first | with_reducible rfl | rfl) (by first | with_reducible rfl | rfl) ?_
  refine gJ_sld dL_law_434 (vp_in_nI (by omega) (by omega)) ?_
  refine gJ_aload_n dL_law_435 rfl rfl ?_
  refine gJ_iload_n dL_law_436 rfl rfl ?_
  refine gJ_iconst (v := 2) dL_law_437 (by decide) ?_
  refine gJ_iaddN (a := i) (b := 2) dL_law_438 (by first | with_reducible rfl | rfl) (by first | with_reducible rfl | rfl) ?_
  refine gJ_sld dL_law_439 (vp_in_nI (by omega) (by omega)) ?_
  refine gJ_aload_n dL_law_440 rfl rfl ?_
  refine gJ_iload_n dL_law_441 rfl rfl ?_
  refine gJ_iconst (v := 3) dL_law_442 (by decide) ?_
  refine gJ_iaddN (a := i) (b := 3) dL_law_443 (by first | with_reducible rfl | rfl) (by first | with_reducible rfl | rfl) ?_
  refine gJ_sld dL_law_444 (vp_in_nI (by omega) (by omega)) ?_
  refine gJ_callV (As := [_, _, _]) b_X12_alert lL_52 i_X12_alert s_X12_alert dL_law_445 (c12_alert m0 m1 hI _ _ _) m0 rfl rfl (Nat.le_of_ble_eq_true rfl) rfl (by decide) (fun M445 v_ h445 => ?_)
  obtain ⟨e_, rfl⟩ := h445
  replace e_ := e_.symm
  subst e_
  refine gJ_icmp_eq (tgt := 694) dL_law_448 (by decide) (fun _ => ?_) (fun c_ => by exfalso; exact c_ rfl)
  exact gJ_done ⟨rfl, rfl, rfl, cL_of hfx hX1 (by repeat (first | exact gFr_r | refine gFr_u ?_ (by omega))) ⟨at_, fa, K, KS, F, (by repeat (first | with_reducible exact gUp_s | with_reducible assumption | refine gUp_n ?_ (by omega))), (by repeat (first | with_reducible exact gUp_s | with_reducible assumption | refine gUp_n ?_ (by omega))), (by repeat (first | with_reducible exact gUp_s | with_reducible assumption | refine gUp_n ?_ (by omega))), (by repeat (first | with_reducible exact gUp_s | with_reducible assumption | refine gUp_n ?_ (by omega))), (by repeat (first | with_reducible exact gUp_s | with_reducible assumption | refine gUp_n ?_ (by omega))), (by repeat (first | with_reducible exact gUp_s | with_reducible assumption | refine gUp_n ?_ (by omega))), (by repeat (first | with_reducible exact gUp_s | with_reducible assumption | refine gUp_n ?_ (by omega))), (by repeat (first | with_reducible exact gUp_s | with_reducible assumption | refine gUp_n ?_ (by omega))), (by repeat (first | with_reducible exact gUp_s | with_reducible assumption | refine gUp_n ?_ (by omega)))⟩ (hI) (hJ) ht hB hbM⟩
set_option maxHeartbeats 1000000 in
set_option maxRecDepth 20000 in
theorem law_alerts (hL : gSL G ≤ 3584) (i : Nat) (hi7 : i + 7 ≤ gSL G) (hcX : cX M b V S IV IS hh U t) (hI : mI V) (hJ : mJ V) (ht : t ≤ 60) (hB : zB U) (hbM : b + 75 ≤ M.2) (hM : cM M (b + 66) V S IV IS hh U t) : gJ G (kLn nm) 10 7 25 M 453 [(3, .int (nI i)), (2, .ref (b + 66)), (1, .ref b), (0, .ref (gS G 4))] [] (fun M' pc' lv' st' => pc' = 694 ∧ lv' = [(3, .int (nI i)), (2, .ref (b + 66)), (1, .ref b), (0, .ref (gS G 4))] ∧ st' = [] ∧ cL M' b) := by
  have hx0 := hcX.1
  refine gJ_aload_n dL_law_453 rfl rfl ?_
  refine gJ_aload_n dL_law_454 rfl rfl ?_
  refine gJ_iload_n dL_law_455 rfl rfl ?_
  refine gJ_iconst (v := 1) dL_law_456 (by decide) ?_
  refine gJ_iaddN (a := i) (b := 1) dL_law_457 (by first | with_reducible rfl | rfl) (by first | with_reducible rfl | rfl) ?_
  refine gJ_sld dL_law_458 (vp_in_nI (by omega) (by omega)) ?_
  refine gJ_callV (As := [_]) b_X11_alerts lL_53 i_X11_alerts s_X11_alerts dL_law_459 (c11_alerts hcX hI hJ _) hx0 rfl rfl (Nat.le_of_ble_eq_true rfl) rfl (by decide) (fun M459 v_ h459 => ?_)
  obtain ⟨e_, rfl⟩ := h459
  replace e_ := e_.symm
  subst e_
  have hfx : cFx M M b := cFx_r
  have hX1 := hcX
  obtain ⟨at_, fa, K, KS, F, m0, m1, m2, m3, m4, m5, m6, m7, m8⟩ := hM
  refine gJ_aload_n dL_law_462 rfl rfl ?_
  refine gJ_aload_n dL_law_463 rfl rfl ?_
  refine gJ_iload_n dL_law_464 rfl rfl ?_
  refine gJ_iconst (v := 1) dL_law_465 (by decide) ?_
  refine gJ_iaddN (a := i) (b := 1) dL_law_466 (by first | with_reducible rfl | rfl) (by first | with_reducible rfl | rfl) ?_
  refine gJ_sld dL_law_467 (vp_in_nI (by omega) (by omega)) ?_
  refine gJ_callV (As := [_]) b_X12_alerts lL_57 i_X12_alerts s_X12_alerts dL_law_468 (c12_alerts m0 m1 hI _) m0 rfl rfl (Nat.le_of_ble_eq_true rfl) rfl (by decide) (fun M468 v_ h468 => ?_)
  obtain ⟨e_, rfl⟩ := h468
  replace e_ := e_.symm
  subst e_
  refine gJ_lcmp dL_law_471 ?_
  refine gJ_if_eq (tgt := 694) dL_law_472 (by decide) (fun _ => ?_) (fun c_ => by exfalso; exact c_ ((lg_cmp_eq _ _).mpr rfl))
  exact gJ_done ⟨rfl, rfl, rfl, cL_of hfx hX1 (by repeat (first | exact gFr_r | refine gFr_u ?_ (by omega))) ⟨at_, fa, K, KS, F, (by repeat (first | with_reducible exact gUp_s | with_reducible assumption | refine gUp_n ?_ (by omega))), (by repeat (first | with_reducible exact gUp_s | with_reducible assumption | refine gUp_n ?_ (by omega))), (by repeat (first | with_reducible exact gUp_s | with_reducible assumption | refine gUp_n ?_ (by omega))), (by repeat (first | with_reducible exact gUp_s | with_reducible assumption | refine gUp_n ?_ (by omega))), (by repeat (first | with_reducible exact gUp_s | with_reducible assumption | refine gUp_n ?_ (by omega))), (by repeat (first | with_reducible exact gUp_s | with_reducible assumption | refine gUp_n ?_ (by omega))), (by repeat (first | with_reducible exact gUp_s | with_reducible assumption | refine gUp_n ?_ (by omega))), (by repeat (first | with_reducible exact gUp_s | with_reducible assumption | refine gUp_n ?_ (by omega))), (by repeat (first | with_reducible exact gUp_s | with_reducible assumption | refine gUp_n ?_ (by omega)))⟩ (hI) (hJ) ht hB hbM⟩
set_option maxHeartbeats 1000000 in
set_option maxRecDepth 20000 in
theorem law_group (hL : gSL G ≤ 3584) (i : Nat) (hi7 : i + 7 ≤ gSL G) (hcX : cX M b V S IV IS hh U t) (hI : mI V) (hJ : mJ V) (ht : t ≤ 60) (hB : zB U) (hbM : b + 75 ≤ M.2) (hM : cM M (b + 66) V S IV IS hh U t) : gJ G (kLn nm) 10 7 25 M 477 [(3, .int (nI i)), (2, .ref (b + 66)), (1, .ref b), (0, .ref (gS G 4))] [] (fun M' pc' lv' st' => pc' = 694 ∧ lv' = [(3, .int (nI i)), (2, .ref (b + 66)), (1, .ref b), (0, .ref (gS G 4))] ∧ st' = [] ∧ cL M' b) := by
  have hx0 := hcX.1
  refine gJ_aload_n dL_law_477 rfl rfl ?_
  refine gJ_aload_n dL_law_478 rfl rfl ?_
  refine gJ_iload_n dL_law_479 rfl rfl ?_
  refine gJ_iconst (v := 1) dL_law_480 (by decide) ?_
  refine gJ_iaddN (a := i) (b := 1) dL_law_481 (by first | with_reducible rfl | rfl) (by first | with_reducible rfl | rfl) ?_
  refine gJ_sld dL_law_482 (vp_in_nI (by omega) (by omega)) ?_
  refine gJ_aload_n dL_law_483 rfl rfl ?_
  refine gJ_iload_n dL_law_484 rfl rfl ?_
  refine gJ_iconst (v := 2) dL_law_485 (by decide) ?_
  refine gJ_iaddN (a := i) (b := 2) dL_law_486 (by first | with_reducible rfl | rfl) (by first | with_reducible rfl | rfl) ?_
  refine gJ_sld dL_law_487 (vp_in_nI (by omega) (by omega)) ?_
  refine gJ_callV (As := [_, _]) b_X11_group lL_58 i_X11_group s_X11_group dL_law_488 (c11_group hcX hI hJ _ _) hx0 rfl rfl (Nat.le_of_ble_eq_true rfl) rfl (by decide) (fun M488 v_ h488 => ?_)
  obtain ⟨hg, hX1, rfl⟩ := h488
  have hfx : cFx M M488 b := cFx_f hg
  obtain ⟨at_, fa, K, KS, F, m0, m1, m2, m3, m4, m5, m6, m7, m8⟩ := cM_fx hM hfx hbM
  refine gJ_aload_n dL_law_491 rfl rfl ?_
  refine gJ_aload_n dL_law_492 rfl rfl ?_
  refine gJ_iload_n dL_law_493 rfl rfl ?_
  refine gJ_iconst (v := 1) dL_law_494 (by decide) ?_
  refine gJ_iaddN (a := i) (b := 1) dL_law_495 (by first | with_reducible rfl | rfl) (by first | with_reducible rfl | rfl) ?_
  refine gJ_sld dL_law_496 (vp_in_nI (by omega) (by omega)) ?_
  refine gJ_aload_n dL_law_497 rfl rfl ?_
  refine gJ_iload_n dL_law_498 rfl rfl ?_
  refine gJ_iconst (v := 2) dL_law_499 (by decide) ?_
  refine gJ_iaddN (a := i) (b := 2) dL_law_500 (by first | with_reducible rfl | rfl) (by first | with_reducible rfl | rfl) ?_
  refine gJ_sld dL_law_501 (vp_in_nI (by omega) (by omega)) ?_
  refine gJ_callV (As := [_, _]) b_X12_group lL_61 i_X12_group s_X12_group dL_law_502 (c12_group m0 m1 m4 hI _ _) m0 rfl rfl (Nat.le_of_ble_eq_true rfl) rfl (by decide) (fun M502 v_ h502 => ?_)
  obtain ⟨e_, rfl⟩ := h502
  replace e_ := e_.symm
  subst e_
  refine gJ_icmp_eq (tgt := 694) dL_law_505 (by decide) (fun _ => ?_) (fun c_ => by exfalso; exact c_ rfl)
  exact gJ_done ⟨rfl, rfl, rfl, cL_of hfx hX1 (by repeat (first | exact gFr_r | refine gFr_u ?_ (by omega))) ⟨at_, fa, K, KS, F, (by repeat (first | with_reducible exact gUp_s | with_reducible assumption | refine gUp_n ?_ (by omega))), (by repeat (first | with_reducible exact gUp_s | with_reducible assumption | refine gUp_n ?_ (by omega))), (by repeat (first | with_reducible exact gUp_s | with_reducible assumption | refine gUp_n ?_ (by omega))), (by repeat (first | with_reducible exact gUp_s | with_reducible assumption | refine gUp_n ?_ (by omega))), (by repeat (first | with_reducible exact gUp_s | with_reducible assumption | refine gUp_n ?_ (by omega))), (by repeat (first | with_reducible exact gUp_s | with_reducible assumption | refine gUp_n ?_ (by omega))), (by repeat (first | with_reducible exact gUp_s | with_reducible assumption | refine gUp_n ?_ (by omega))), (by repeat (first | with_reducible exact gUp_s | with_reducible assumption | refine gUp_n ?_ (by omega))), (by repeat (first | with_reducible exact gUp_s | with_reducible assumption | refine gUp_n ?_ (by omega)))⟩ (hI) (hJ) ht hB hbM⟩
set_option maxHeartbeats 1000000 in
set_option maxRecDepth 20000 in
theorem law_key (hL : gSL G ≤ 3584) (i : Nat) (hi7 : i + 7 ≤ gSL G) (hcX : cX M b V S IV IS hh U t) (hI : mI V) (hJ : mJ V) (ht : t ≤ 60) (hB : zB U) (hbM : b + 75 ≤ M.2) (hM : cM M (b + 66) V S IV IS hh U t) : gJ G (kLn nm) 10 7 25 M 510 [(3, .int (nI i)), (2, .ref (b + 66)), (1, .ref b), (0, .ref (gS G 4))] [] (fun M' pc' lv' st' => pc' = 694 ∧ lv' = [(3, .int (nI i)), (2, .ref (b + 66)), (1, .ref b), (0, .ref (gS G 4))] ∧ st' = [] ∧ cL M' b) := by
  have hx0 := hcX.1
  refine gJ_aload_n dL_law_510 rfl rfl ?_
  refine gJ_aload_n dL_law_511 rfl rfl ?_
  refine gJ_iload_n dL_law_512 rfl rfl ?_
  refine gJ_iconst (v := 1) dL_law_513 (by decide) ?_
  refine gJ_iaddN (a := i) (b := 1) dL_law_514 (by first | with_reducible rfl | rfl) (by first | with_reducible rfl | rfl) ?_
  refine gJ_sld dL_law_515 (vp_in_nI (by omega) (by omega)) ?_
  refine gJ_callV (As := [_]) b_X11_key lL_62 i_X11_key s_X11_key dL_law_516 (c11_key hcX hI hJ _) hx0 rfl rfl (Nat.le_of_ble_eq_true rfl) rfl (by decide) (fun M516 v_ h516 => ?_)
  obtain ⟨hg, hX1, rfl⟩ := h516
  have hfx : cFx M M516 b := cFx_f hg
  obtain ⟨at_, fa, K, KS, F, m0, m1, m2, m3, m4, m5, m6, m7, m8⟩ := cM_fx hM hfx hbM
  refine gJ_aload_n dL_law_519 rfl rfl ?_
  refine gJ_aload_n dL_law_520 rfl rfl ?_
  refine gJ_iload_n dL_law_521 rfl rfl ?_
  refine gJ_iconst (v := 1) dL_law_522 (by decide) ?_
  refine gJ_iaddN (a := i) (b := 1) dL_law_523 (by first | with_reducible rfl | rfl) (by first | with_reducible rfl | rfl) ?_
  refine gJ_sld dL_law_524 (vp_in_nI (by omega) (by omega)) ?_
  refine gJ_callV (As := [_]) b_X12_key lL_65 i_X12_key s_X12_key dL_law_525 (c12_key m0 m1 hI _) m0 rfl rfl (Nat.le_of_ble_eq_true rfl) rfl (by decide) (fun M525 v_ h525 => ?_)
  obtain ⟨e_, rfl⟩ := h525
  replace e_ := e_.symm
  subst e_
  refine gJ_icmp_eq (tgt := 694) dL_law_528 (by decide) (fun _ => ?_) (fun c_ => by exfalso; exact c_ rfl)
  exact gJ_done ⟨rfl, rfl, rfl, cL_of hfx hX1 (by repeat (first | exact gFr_r | refine gFr_u ?_ (by omega))) ⟨at_, fa, K, KS, F, (by repeat (first | with_reducible exact gUp_s | with_reducible assumption | refine gUp_n ?_ (by omega))), (by repeat (first | with_reducible exact gUp_s | with_reducible assumption | refine gUp_n ?_ (by omega))), (by repeat (first | with_reducible exact gUp_s | with_reducible assumption | refine gUp_n ?_ (by omega))), (by repeat (first | with_reducible exact gUp_s | with_reducible assumption | refine gUp_n ?_ (by omega))), (by repeat (first | with_reducible exact gUp_s | with_reducible assumption | refine gUp_n ?_ (by omega))), (by repeat (first | with_reducible exact gUp_s | with_reducible assumption | refine gUp_n ?_ (by omega))), (by repeat (first | with_reducible exact gUp_s | with_reducible assumption | refine gUp_n ?_ (by omega))), (by repeat (first | with_reducible exact gUp_s | with_reducible assumption | refine gUp_n ?_ (by omega))), (by repeat (first | with_reducible exact gUp_s | with_reducible assumption | refine gUp_n ?_ (by omega)))⟩ (hI) (hJ) ht hB hbM⟩
set_option maxHeartbeats 1000000 in
set_option maxRecDepth 20000 in
theorem law_sent (hL : gSL G ≤ 3584) (i : Nat) (hi7 : i + 7 ≤ gSL G) (hcX : cX M b V S IV IS hh U t) (hI : mI V) (hJ : mJ V) (ht : t ≤ 60) (hB : zB U) (hbM : b + 75 ≤ M.2) (hM : cM M (b + 66) V S IV IS hh U t) : gJ G (kLn nm) 10 7 25 M 533 [(3, .int (nI i)), (2, .ref (b + 66)), (1, .ref b), (0, .ref (gS G 4))] [] (fun M' pc' lv' st' => pc' = 694 ∧ lv' = [(3, .int (nI i)), (2, .ref (b + 66)), (1, .ref b), (0, .ref (gS G 4))] ∧ st' = [] ∧ cL M' b) := by
  have hx0 := hcX.1
  obtain ⟨n_, hn_, hv_⟩ : ∃ n, n < 2 ^ 31 ∧ V 1848 = nI n := by
    obtain ⟨-, -, -, ⟨T, D, hT, -, -, -, -, -, ⟨n, L, hn, hv, -⟩⟩, -⟩ := id hcX
    exact ⟨n, by omega, hv⟩
  refine gJ_aload_n dL_law_533 rfl rfl ?_
  refine gJ_aload_n dL_law_534 rfl rfl ?_
  refine gJ_iload_n dL_law_535 rfl rfl ?_
  refine gJ_iconst (v := 1) dL_law_536 (by decide) ?_
  refine gJ_iaddN (a := i) (b := 1) dL_law_537 (by first | with_reducible rfl | rfl) (by first | with_reducible rfl | rfl) ?_
  refine gJ_sld dL_law_538 (vp_in_nI (by omega) (by omega)) ?_
  refine gJ_aload_n dL_law_539 rfl rfl ?_
  refine gJ_iload_n dL_law_540 rfl rfl ?_
  refine gJ_iconst (v := 2) dL_law_541 (by decide) ?_
  refine gJ_iaddN (a := i) (b := 2) dL_law_542 (by first | with_reducible rfl | rfl) (by first | with_reducible rfl | rfl) ?_
  refine gJ_sld dL_law_543 (vp_in_nI (by omega) (by omega)) ?_
  refine gJ_callV (As := [_, _]) b_X11_sent lL_66 i_X11_sent s_X11_sent dL_law_544 (c11_sent hcX hI _ _) hx0 rfl rfl (Nat.le_of_ble_eq_true rfl) rfl (by decide) (fun M544 v_ h544 => ?_)
  obtain ⟨e_, rfl⟩ := h544
  replace e_ := e_.symm
  subst e_
  have hfx : cFx M M b := cFx_r
  have hX1 := hcX
  obtain ⟨at_, fa, K, KS, F, m0, m1, m2, m3, m4, m5, m6, m7, m8⟩ := hM
  refine gJ_aload_n dL_law_547 rfl rfl ?_
  refine gJ_aload_n dL_law_548 rfl rfl ?_
  refine gJ_iload_n dL_law_549 rfl rfl ?_
  refine gJ_iconst (v := 1) dL_law_550 (by decide) ?_
  refine gJ_iaddN (a := i) (b := 1) dL_law_551 (by first | with_reducible rfl | rfl) (by first | with_reducible rfl | rfl) ?_
  refine gJ_sld dL_law_552 (vp_in_nI (by omega) (by omega)) ?_
  refine gJ_aload_n dL_law_553 rfl rfl ?_
  refine gJ_iload_n dL_law_554 rfl rfl ?_
  refine gJ_iconst (v := 2) dL_law_555 (by decide) ?_
  refine gJ_iaddN (a := i) (b := 2) dL_law_556 (by first | with_reducible rfl | rfl) (by first | with_reducible rfl | rfl) ?_
  refine gJ_sld dL_law_557 (vp_in_nI (by omega) (by omega)) ?_
  refine gJ_callV (As := [_, _]) b_X12_sent lL_69 i_X12_sent s_X12_sent dL_law_558 (c12_sent m0 m1 n_ hn_ hv_ _ _) m0 rfl rfl (Nat.le_of_ble_eq_true rfl) rfl (by decide) (fun M558 v_ h558 => ?_)
  obtain ⟨e_, rfl⟩ := h558
  replace e_ := e_.symm
  subst e_
  refine gJ_icmp_eq (tgt := 694) dL_law_561 (by decide) (fun _ => ?_) (fun c_ => by exfalso; exact c_ rfl)
  exact gJ_done ⟨rfl, rfl, rfl, cL_of hfx hX1 (by repeat (first | exact gFr_r | refine gFr_u ?_ (by omega))) ⟨at_, fa, K, KS, F, (by repeat (first | with_reducible exact gUp_s | with_reducible assumption | refine gUp_n ?_ (by omega))), (by repeat (first | with_reducible exact gUp_s | with_reducible assumption | refine gUp_n ?_ (by omega))), (by repeat (first | with_reducible exact gUp_s | with_reducible assumption | refine gUp_n ?_ (by omega))), (by repeat (first | with_reducible exact gUp_s | with_reducible assumption | refine gUp_n ?_ (by omega))), (by repeat (first | with_reducible exact gUp_s | with_reducible assumption | refine gUp_n ?_ (by omega))), (by repeat (first | with_reducible exact gUp_s | with_reducible assumption | refine gUp_n ?_ (by omega))), (by repeat (first | with_reducible exact gUp_s | with_reducible assumption | refine gUp_n ?_ (by omega))), (by repeat (first | with_reducible exact gUp_s | with_reducible assumption | refine gUp_n ?_ (by omega))), (by repeat (first | with_reducible exact gUp_s | with_reducible assumption | refine gUp_n ?_ (by omega)))⟩ (hI) (hJ) ht hB hbM⟩
set_option maxHeartbeats 1000000 in
set_option maxRecDepth 20000 in
theorem law_ahead (hL : gSL G ≤ 3584) (i : Nat) (hi7 : i + 7 ≤ gSL G) (hcX : cX M b V S IV IS hh U t) (hI : mI V) (hJ : mJ V) (ht : t ≤ 60) (hB : zB U) (hbM : b + 75 ≤ M.2) (hM : cM M (b + 66) V S IV IS hh U t) : gJ G (kLn nm) 10 7 25 M 566 [(3, .int (nI i)), (2, .ref (b + 66)), (1, .ref b), (0, .ref (gS G 4))] [] (fun M' pc' lv' st' => pc' = 694 ∧ lv' = [(3, .int (nI i)), (2, .ref (b + 66)), (1, .ref b), (0, .ref (gS G 4))] ∧ st' = [] ∧ cL M' b) := by
  have hx0 := hcX.1
  refine gJ_aload_n dL_law_566 rfl rfl ?_
  refine gJ_aload_n dL_law_567 rfl rfl ?_
  refine gJ_iload_n dL_law_568 rfl rfl ?_
  refine gJ_iconst (v := 1) dL_law_569 (by decide) ?_
  refine gJ_iaddN (a := i) (b := 1) dL_law_570 (by first | with_reducible rfl | rfl) (by first | with_reducible rfl | rfl) ?_
  refine gJ_sld dL_law_571 (vp_in_nI (by omega) (by omega)) ?_
  refine gJ_callV (As := [_]) b_X11_ahead lL_70 i_X11_ahead s_X11_ahead dL_law_572 (c11_ahead hcX hI hJ _) hx0 rfl rfl (Nat.le_of_ble_eq_true rfl) rfl (by decide) (fun M572 v_ h572 => ?_)
  obtain ⟨hg, hX1, rfl⟩ := h572
  have hfx : cFx M M572 b := cFx_f hg
  obtain ⟨at_, fa, K, KS, F, m0, m1, m2, m3, m4, m5, m6, m7, m8⟩ := cM_fx hM hfx hbM
  refine gJ_aload_n dL_law_575 rfl rfl ?_
  refine gJ_aload_n dL_law_576 rfl rfl ?_
  refine gJ_iload_n dL_law_577 rfl rfl ?_
  refine gJ_iconst (v := 1) dL_law_578 (by decide) ?_
  refine gJ_iaddN (a := i) (b := 1) dL_law_579 (by first | with_reducible rfl | rfl) (by first | with_reducible rfl | rfl) ?_
  refine gJ_sld dL_law_580 (vp_in_nI (by omega) (by omega)) ?_
  refine gJ_callV (As := [_]) b_X12_ahead lL_73 i_X12_ahead s_X12_ahead dL_law_581 (c12_ahead m0 m1 m4 m3 m6 hI _) m0 rfl rfl (Nat.le_of_ble_eq_true rfl) rfl (by decide) (fun M581 v_ h581 => ?_)
  obtain ⟨hor, rfl⟩ := h581
  have hz : gFr M572 M581 (b + 66) 9 ∧ cM M581 (b + 66) V S IV IS hh U t := by
    rcases hor with e_ | e_
    · replace e_ := e_.symm
      subst e_
      exact ⟨gFr_r, ⟨at_, fa, K, KS, F, (by repeat (first | with_reducible exact gUp_s | with_reducible assumption | refine gUp_n ?_ (by omega))), (by repeat (first | with_reducible exact gUp_s | with_reducible assumption | refine gUp_n ?_ (by omega))), (by repeat (first | with_reducible exact gUp_s | with_reducible assumption | refine gUp_n ?_ (by omega))), (by repeat (first | with_reducible exact gUp_s | with_reducible assumption | refine gUp_n ?_ (by omega))), (by repeat (first | with_reducible exact gUp_s | with_reducible assumption | refine gUp_n ?_ (by omega))), (by repeat (first | with_reducible exact gUp_s | with_reducible assumption | refine gUp_n ?_ (by omega))), (by repeat (first | with_reducible exact gUp_s | with_reducible assumption | refine gUp_n ?_ (by omega))), (by repeat (first | with_reducible exact gUp_s | with_reducible assumption | refine gUp_n ?_ (by omega))), (by repeat (first | with_reducible exact gUp_s | with_reducible assumption | refine gUp_n ?_ (by omega)))⟩⟩
    · rw [mKp] at e_
      replace e_ := e_.symm
      subst e_
      exact ⟨(by repeat (first | exact gFr_r | refine gFr_u ?_ (by omega))), ⟨at_, fa, _, _, F, (by repeat (first | with_reducible exact gUp_s | with_reducible assumption | refine gUp_n ?_ (by omega))), (by repeat (first | with_reducible exact gUp_s | with_reducible assumption | refine gUp_n ?_ (by omega))), (by repeat (first | with_reducible exact gUp_s | with_reducible assumption | refine gUp_n ?_ (by omega))), (by repeat (first | with_reducible exact gUp_s | with_reducible assumption | refine gUp_n ?_ (by omega))), (by repeat (first | with_reducible exact gUp_s | with_reducible assumption | refine gUp_n ?_ (by omega))), (by repeat (first | with_reducible exact gUp_s | with_reducible assumption | refine gUp_n ?_ (by omega))), (by repeat (first | with_reducible exact gUp_s | with_reducible assumption | refine gUp_n ?_ (by omega))), (by repeat (first | with_reducible exact gUp_s | with_reducible assumption | refine gUp_n ?_ (by omega))), (by repeat (first | with_reducible exact gUp_s | with_reducible assumption | refine gUp_n ?_ (by omega)))⟩⟩
  refine gJ_icmp_eq (tgt := 694) dL_law_584 (by decide) (fun _ => ?_) (fun c_ => by exfalso; exact c_ rfl)
  exact gJ_done ⟨rfl, rfl, rfl, cL_of hfx hX1 hz.1 hz.2 (hI) (hJ) ht hB hbM⟩
set_option maxHeartbeats 1000000 in
set_option maxRecDepth 20000 in
theorem law_next (hL : gSL G ≤ 3584) (i : Nat) (hi7 : i + 7 ≤ gSL G) (hcX : cX M b V S IV IS hh U t) (hI : mI V) (hJ : mJ V) (ht : t ≤ 60) (hB : zB U) (hbM : b + 75 ≤ M.2) (hM : cM M (b + 66) V S IV IS hh U t) : gJ G (kLn nm) 10 7 25 M 589 [(3, .int (nI i)), (2, .ref (b + 66)), (1, .ref b), (0, .ref (gS G 4))] [] (fun M' pc' lv' st' => pc' = 694 ∧ lv' = [(3, .int (nI i)), (2, .ref (b + 66)), (1, .ref b), (0, .ref (gS G 4))] ∧ st' = [] ∧ cL M' b) := by
  have hx0 := hcX.1
  refine gJ_aload_n dL_law_589 rfl rfl ?_
  refine gJ_aload_n dL_law_590 rfl rfl ?_
  refine gJ_iload_n dL_law_591 rfl rfl ?_
  refine gJ_iconst (v := 1) dL_law_592 (by decide) ?_
  refine gJ_iaddN (a := i) (b := 1) dL_law_593 (by first | with_reducible rfl | rfl) (by first | with_reducible rfl | rfl) ?_
  refine gJ_sld dL_law_594 (vp_in_nI (by omega) (by omega)) ?_
  refine gJ_callV (As := [_]) b_X11_next lL_74 i_X11_next s_X11_next dL_law_595 (c11_next hcX hI hJ _) hx0 rfl rfl (Nat.le_of_ble_eq_true rfl) rfl (by decide) (fun M595 v_ h595 => ?_)
  obtain ⟨hg, hX1, rfl⟩ := h595
  have hfx : cFx M M595 b := cFx_f hg
  obtain ⟨at_, fa, K, KS, F, m0, m1, m2, m3, m4, m5, m6, m7, m8⟩ := cM_fx hM hfx hbM
  refine gJ_aload_n dL_law_598 rfl rfl ?_
  refine gJ_aload_n dL_law_599 rfl rfl ?_
  refine gJ_iload_n dL_law_600 rfl rfl ?_
  refine gJ_iconst (v := 1) dL_law_601 (by decide) ?_
  refine gJ_iaddN (a := i) (b := 1) dL_law_602 (by first | with_reducible rfl | rfl) (by first | with_reducible rfl | rfl) ?_
  refine gJ_sld dL_law_603 (vp_in_nI (by omega) (by omega)) ?_
  refine gJ_callV (As := [_]) b_X12_next lL_77 i_X12_next s_X12_next dL_law_604 (c12_next m0 m1 m4 m3 m6 hI _) m0 rfl rfl (Nat.le_of_ble_eq_true rfl) rfl (by decide) (fun M604 v_ h604 => ?_)
  obtain ⟨hor, rfl⟩ := h604
  have hz : gFr M595 M604 (b + 66) 9 ∧ cM M604 (b + 66) V S IV IS hh U t := by
    rcases hor with e_ | e_
    · replace e_ := e_.symm
      subst e_
      exact ⟨gFr_r, ⟨at_, fa, K, KS, F, (by repeat (first | with_reducible exact gUp_s | with_reducible assumption | refine gUp_n ?_ (by omega))), (by repeat (first | with_reducible exact gUp_s | with_reducible assumption | refine gUp_n ?_ (by omega))), (by repeat (first | with_reducible exact gUp_s | with_reducible assumption | refine gUp_n ?_ (by omega))), (by repeat (first | with_reducible exact gUp_s | with_reducible assumption | refine gUp_n ?_ (by omega))), (by repeat (first | with_reducible exact gUp_s | with_reducible assumption | refine gUp_n ?_ (by omega))), (by repeat (first | with_reducible exact gUp_s | with_reducible assumption | refine gUp_n ?_ (by omega))), (by repeat (first | with_reducible exact gUp_s | with_reducible assumption | refine gUp_n ?_ (by omega))), (by repeat (first | with_reducible exact gUp_s | with_reducible assumption | refine gUp_n ?_ (by omega))), (by repeat (first | with_reducible exact gUp_s | with_reducible assumption | refine gUp_n ?_ (by omega)))⟩⟩
    · rw [mKp] at e_
      replace e_ := e_.symm
      subst e_
      exact ⟨(by repeat (first | exact gFr_r | refine gFr_u ?_ (by omega))), ⟨at_, fa, _, _, F, (by repeat (first | with_reducible exact gUp_s | with_reducible assumption | refine gUp_n ?_ (by omega))), (by repeat (first | with_reducible exact gUp_s | with_reducible assumption | refine gUp_n ?_ (by omega))), (by repeat (first | with_reducible exact gUp_s | with_reducible assumption | refine gUp_n ?_ (by omega))), (by repeat (first | with_reducible exact gUp_s | with_reducible assumption | refine gUp_n ?_ (by omega))), (by repeat (first | with_reducible exact gUp_s | with_reducible assumption | refine gUp_n ?_ (by omega))), (by repeat (first | with_reducible exact gUp_s | with_reducible assumption | refine gUp_n ?_ (by omega))), (by repeat (first | with_reducible exact gUp_s | with_reducible assumption | refine gUp_n ?_ (by omega))), (by repeat (first | with_reducible exact gUp_s | with_reducible assumption | refine gUp_n ?_ (by omega))), (by repeat (first | with_reducible exact gUp_s | with_reducible assumption | refine gUp_n ?_ (by omega)))⟩⟩
  refine gJ_icmp_eq (tgt := 694) dL_law_607 (by decide) (fun _ => ?_) (fun c_ => by exfalso; exact c_ rfl)
  exact gJ_done ⟨rfl, rfl, rfl, cL_of hfx hX1 hz.1 hz.2 (hI) (hJ) ht hB hbM⟩
set_option maxHeartbeats 1000000 in
set_option maxRecDepth 20000 in
theorem law_saved (hL : gSL G ≤ 3584) (i : Nat) (hi7 : i + 7 ≤ gSL G) (hcX : cX M b V S IV IS hh U t) (hI : mI V) (hJ : mJ V) (ht : t ≤ 60) (hB : zB U) (hbM : b + 75 ≤ M.2) (hM : cM M (b + 66) V S IV IS hh U t) : gJ G (kLn nm) 10 7 25 M 612 [(3, .int (nI i)), (2, .ref (b + 66)), (1, .ref b), (0, .ref (gS G 4))] [] (fun M' pc' lv' st' => pc' = 694 ∧ lv' = [(3, .int (nI i)), (2, .ref (b + 66)), (1, .ref b), (0, .ref (gS G 4))] ∧ st' = [] ∧ cL M' b) := by
  have hx0 := hcX.1
  refine gJ_aload_n dL_law_612 rfl rfl ?_
  refine gJ_aload_n dL_law_613 rfl rfl ?_
  refine gJ_iload_n dL_law_614 rfl rfl ?_
  refine gJ_iconst (v := 1) dL_law_615 (by decide) ?_
  refine gJ_iaddN (a := i) (b := 1) dL_law_616 (by first | with_reducible rfl | rfl) (by first | with_reducible rfl | rfl) ?_
  refine gJ_sld dL_law_617 (vp_in_nI (by omega) (by omega)) ?_
  refine gJ_aload_n dL_law_618 rfl rfl ?_
  refine gJ_iload_n dL_law_619 rfl rfl ?_
  refine gJ_iconst (v := 2) dL_law_620 (by decide) ?_
  refine gJ_iaddN (a := i) (b := 2) dL_law_621 (by first | with_reducible rfl | rfl) (by first | with_reducible rfl | rfl) ?_
  refine gJ_sld dL_law_622 (vp_in_nI (by omega) (by omega)) ?_
  refine gJ_callV (As := [_, _]) b_X11_saved lL_78 i_X11_saved s_X11_saved dL_law_623 (c11_saved hcX hI hJ _ _) hx0 rfl rfl (Nat.le_of_ble_eq_true rfl) rfl (by decide) (fun M623 v_ h623 => ?_)
  obtain ⟨hg, hX1, rfl⟩ := h623
  have hfx : cFx M M623 b := cFx_f hg
  obtain ⟨at_, fa, K, KS, F, m0, m1, m2, m3, m4, m5, m6, m7, m8⟩ := cM_fx hM hfx hbM
  refine gJ_aload_n dL_law_626 rfl rfl ?_
  refine gJ_aload_n dL_law_627 rfl rfl ?_
  refine gJ_iload_n dL_law_628 rfl rfl ?_
  refine gJ_iconst (v := 1) dL_law_629 (by decide) ?_
  refine gJ_iaddN (a := i) (b := 1) dL_law_630 (by first | with_reducible rfl | rfl) (by first | with_reducible rfl | rfl) ?_
  refine gJ_sld dL_law_631 (vp_in_nI (by omega) (by omega)) ?_
  refine gJ_aload_n dL_law_632 rfl rfl ?_
  refine gJ_iload_n dL_law_633 rfl rfl ?_
  refine gJ_iconst (v := 2) dL_law_634 (by decide) ?_
  refine gJ_iaddN (a := i) (b := 2) dL_law_635 (by first | with_reducible rfl | rfl) (by first | with_reducible rfl | rfl) ?_
  refine gJ_sld dL_law_636 (vp_in_nI (by omega) (by omega)) ?_
  refine gJ_callV (As := [_, _]) b_X12_saved lL_81 i_X12_saved s_X12_saved dL_law_637 (c12_saved m0 m1 m4 m3 m6 hI _ _) m0 rfl rfl (Nat.le_of_ble_eq_true rfl) rfl (by decide) (fun M637 v_ h637 => ?_)
  obtain ⟨hor, rfl⟩ := h637
  have hz : gFr M623 M637 (b + 66) 9 ∧ cM M637 (b + 66) V S IV IS hh U t := by
    rcases hor with e_ | ⟨W_, e_⟩
    · replace e_ := e_.symm
      subst e_
      exact ⟨gFr_r, ⟨at_, fa, K, KS, F, (by repeat (first | with_reducible exact gUp_s | with_reducible assumption | refine gUp_n ?_ (by omega))), (by repeat (first | with_reducible exact gUp_s | with_reducible assumption | refine gUp_n ?_ (by omega))), (by repeat (first | with_reducible exact gUp_s | with_reducible assumption | refine gUp_n ?_ (by omega))), (by repeat (first | with_reducible exact gUp_s | with_reducible assumption | refine gUp_n ?_ (by omega))), (by repeat (first | with_reducible exact gUp_s | with_reducible assumption | refine gUp_n ?_ (by omega))), (by repeat (first | with_reducible exact gUp_s | with_reducible assumption | refine gUp_n ?_ (by omega))), (by repeat (first | with_reducible exact gUp_s | with_reducible assumption | refine gUp_n ?_ (by omega))), (by repeat (first | with_reducible exact gUp_s | with_reducible assumption | refine gUp_n ?_ (by omega))), (by repeat (first | with_reducible exact gUp_s | with_reducible assumption | refine gUp_n ?_ (by omega)))⟩⟩
    · rw [mKp] at e_
      replace e_ := e_.symm
      subst e_
      exact ⟨(by repeat (first | exact gFr_r | refine gFr_u ?_ (by omega))), ⟨at_, fa, _, _, F, (by repeat (first | with_reducible exact gUp_s | with_reducible assumption | refine gUp_n ?_ (by omega))), (by repeat (first | with_reducible exact gUp_s | with_reducible assumption | refine gUp_n ?_ (by omega))), (by repeat (first | with_reducible exact gUp_s | with_reducible assumption | refine gUp_n ?_ (by omega))), (by repeat (first | with_reducible exact gUp_s | with_reducible assumption | refine gUp_n ?_ (by omega))), (by repeat (first | with_reducible exact gUp_s | with_reducible assumption | refine gUp_n ?_ (by omega))), (by repeat (first | with_reducible exact gUp_s | with_reducible assumption | refine gUp_n ?_ (by omega))), (by repeat (first | with_reducible exact gUp_s | with_reducible assumption | refine gUp_n ?_ (by omega))), (by repeat (first | with_reducible exact gUp_s | with_reducible assumption | refine gUp_n ?_ (by omega))), (by repeat (first | with_reducible exact gUp_s | with_reducible assumption | refine gUp_n ?_ (by omega)))⟩⟩
  refine gJ_icmp_eq (tgt := 694) dL_law_640 (by decide) (fun _ => ?_) (fun c_ => by exfalso; exact c_ rfl)
  exact gJ_done ⟨rfl, rfl, rfl, cL_of hfx hX1 hz.1 hz.2 (hI) (hJ) ht hB hbM⟩
set_option maxHeartbeats 1000000 in
set_option maxRecDepth 20000 in
theorem law_image (hL : gSL G ≤ 3584) (i : Nat) (hi7 : i + 7 ≤ gSL G) (hcX : cX M b V S IV IS hh U t) (hI : mI V) (hJ : mJ V) (ht : t ≤ 60) (hB : zB U) (hbM : b + 75 ≤ M.2) (hM : cM M (b + 66) V S IV IS hh U t) : gJ G (kLn nm) 10 7 25 M 645 [(3, .int (nI i)), (2, .ref (b + 66)), (1, .ref b), (0, .ref (gS G 4))] [] (fun M' pc' lv' st' => pc' = 694 ∧ lv' = [(3, .int (nI i)), (2, .ref (b + 66)), (1, .ref b), (0, .ref (gS G 4))] ∧ st' = [] ∧ cL M' b) := by
  have hx0 := hcX.1
  refine gJ_aload_n dL_law_645 rfl rfl ?_
  refine gJ_callV (As := []) b_X11_image lL_82 i_X11_image s_X11_image dL_law_646 (c11_image hcX hI hJ) hx0 rfl rfl (Nat.le_of_ble_eq_true rfl) rfl (by decide) (fun M646 v_ h646 => ?_)
  obtain ⟨hg, hX1, rfl⟩ := h646
  have hfx : cFx M M646 b := cFx_f hg
  obtain ⟨at_, fa, K, KS, F, m0, m1, m2, m3, m4, m5, m6, m7, m8⟩ := cM_fx hM hfx hbM
  refine gJ_aload_n dL_law_649 rfl rfl ?_
  refine gJ_callV (As := []) b_X12_image lL_86 i_X12_image s_X12_image dL_law_650 (c12_image m0 m1 m4 m2 m5) m0 rfl rfl (Nat.le_of_ble_eq_true rfl) rfl (by decide) (fun M650 v_ h650 => ?_)
  obtain ⟨e_, rfl⟩ := h650
  replace e_ := e_.symm
  subst e_
  refine gJ_icmp_eq (tgt := 694) dL_law_653 (by decide) (fun _ => ?_) (fun c_ => by exfalso; exact c_ rfl)
  exact gJ_done ⟨rfl, rfl, rfl, cL_of hfx hX1 (by repeat (first | exact gFr_r | refine gFr_u ?_ (by omega))) ⟨at_, fa, K, KS, F, gUp_s, (by repeat (first | with_reducible exact gUp_s | with_reducible assumption | refine gUp_n ?_ (by omega))), (by repeat (first | with_reducible exact gUp_s | with_reducible assumption | refine gUp_n ?_ (by omega))), (by repeat (first | with_reducible exact gUp_s | with_reducible assumption | refine gUp_n ?_ (by omega))), (by repeat (first | with_reducible exact gUp_s | with_reducible assumption | refine gUp_n ?_ (by omega))), (by repeat (first | with_reducible exact gUp_s | with_reducible assumption | refine gUp_n ?_ (by omega))), (by repeat (first | with_reducible exact gUp_s | with_reducible assumption | refine gUp_n ?_ (by omega))), (by repeat (first | with_reducible exact gUp_s | with_reducible assumption | refine gUp_n ?_ (by omega))), (by repeat (first | with_reducible exact gUp_s | with_reducible assumption | refine gUp_n ?_ (by omega)))⟩ (hI) (hJ) ht hB hbM⟩
set_option maxHeartbeats 1000000 in
set_option maxRecDepth 20000 in
theorem law_undo (hL : gSL G ≤ 3584) (i : Nat) (hi7 : i + 7 ≤ gSL G) (hcX : cX M b V S IV IS hh U t) (hI : mI V) (hJ : mJ V) (ht : t ≤ 60) (hB : zB U) (hbM : b + 75 ≤ M.2) (hM : cM M (b + 66) V S IV IS hh U t) : gJ G (kLn nm) 10 7 25 M 658 [(3, .int (nI i)), (2, .ref (b + 66)), (1, .ref b), (0, .ref (gS G 4))] [] (fun M' pc' lv' st' => pc' = 694 ∧ lv' = [(3, .int (nI i)), (2, .ref (b + 66)), (1, .ref b), (0, .ref (gS G 4))] ∧ st' = [] ∧ cL M' b) := by
  have hx0 := hcX.1
  have hIJ : hh = true → mI IV ∧ mJ IV := by
    intro e
    obtain ⟨-, -, -, -, ⟨T2, W2, WS2, D2, hT2, hI2, hJ2, hR2, he2⟩, -⟩ := id hcX
    obtain ⟨rfl, -⟩ := he2 e
    exact ⟨hI2, hJ2⟩
  have hIu : mI (if hh = true then IV else V) := by
    split
    · exact (hIJ (by assumption)).1
    · exact hI
  have hJu : mJ (if hh = true then IV else V) := by
    split
    · exact (hIJ (by assumption)).2
    · exact hJ
  refine gJ_aload_n dL_law_658 rfl rfl ?_
  refine gJ_callV (As := []) b_X11_undo lL_87 i_X11_undo s_X11_undo dL_law_659 (c11_undo hcX) hx0 rfl rfl (Nat.le_of_ble_eq_true rfl) rfl (by decide) (fun M659 v_ h659 => ?_)
  obtain ⟨hg, hX1, rfl⟩ := h659
  have hfx : cFx M M659 b := cFx_f hg
  obtain ⟨at_, fa, K, KS, F, m0, m1, m2, m3, m4, m5, m6, m7, m8⟩ := cM_fx hM hfx hbM
  refine gJ_aload_n dL_law_662 rfl rfl ?_
  refine gJ_callV (As := []) b_X12_undo lL_90 i_X12_undo s_X12_undo dL_law_663 (c12_undo m0 m1 m4 m2 m5) m0 rfl rfl (Nat.le_of_ble_eq_true rfl) rfl (by decide) (fun M663 v_ h663 => ?_)
  obtain ⟨e_, e2_⟩ := h663
  have hz : gFr M659 M663 (b + 66) 9 ∧ cM M663 (b + 66) (if hh = true then IV else V) (if hh = true then IS else S) IV IS hh U t ∧ v_ = some (.int (if hh = true then IV 1847 else -3)) := by
    cases hh with
    | false =>
      rw [if_pos (show gb false = 0 from rfl)] at e_ e2_
      rw [if_neg Bool.false_ne_true, if_neg Bool.false_ne_true, if_neg Bool.false_ne_true]
      replace e_ := e_.symm
      subst e_
      exact ⟨gFr_r, ⟨at_, fa, K, KS, F, (by repeat (first | with_reducible exact gUp_s | with_reducible assumption | refine gUp_n ?_ (by omega))), (by repeat (first | with_reducible exact gUp_s | with_reducible assumption | refine gUp_n ?_ (by omega))), (by repeat (first | with_reducible exact gUp_s | with_reducible assumption | refine gUp_n ?_ (by omega))), (by repeat (first | with_reducible exact gUp_s | with_reducible assumption | refine gUp_n ?_ (by omega))), (by repeat (first | with_reducible exact gUp_s | with_reducible assumption | refine gUp_n ?_ (by omega))), (by repeat (first | with_reducible exact gUp_s | with_reducible assumption | refine gUp_n ?_ (by omega))), (by repeat (first | with_reducible exact gUp_s | with_reducible assumption | refine gUp_n ?_ (by omega))), (by repeat (first | with_reducible exact gUp_s | with_reducible assumption | refine gUp_n ?_ (by omega))), (by repeat (first | with_reducible exact gUp_s | with_reducible assumption | refine gUp_n ?_ (by omega)))⟩, e2_⟩
    | true =>
      rw [if_neg (show ¬ gb true = 0 by decide)] at e_ e2_
      rw [if_pos rfl, if_pos rfl, if_pos rfl]
      rw [mUp] at e_
      replace e_ := e_.symm
      subst e_
      exact ⟨(by repeat (first | exact gFr_r | refine gFr_u ?_ (by omega))), ⟨at_, fa, K, KS, F, (by repeat (first | with_reducible exact gUp_s | with_reducible assumption | refine gUp_n ?_ (by omega))), (by repeat (first | with_reducible exact gUp_s | with_reducible assumption | refine gUp_n ?_ (by omega))), (by repeat (first | with_reducible exact gUp_s | with_reducible assumption | refine gUp_n ?_ (by omega))), (by repeat (first | with_reducible exact gUp_s | with_reducible assumption | refine gUp_n ?_ (by omega))), (by repeat (first | with_reducible exact gUp_s | with_reducible assumption | refine gUp_n ?_ (by omega))), (by repeat (first | with_reducible exact gUp_s | with_reducible assumption | refine gUp_n ?_ (by omega))), (by repeat (first | with_reducible exact gUp_s | with_reducible assumption | refine gUp_n ?_ (by omega))), (by repeat (first | with_reducible exact gUp_s | with_reducible assumption | refine gUp_n ?_ (by omega))), (by repeat (first | with_reducible exact gUp_s | with_reducible assumption | refine gUp_n ?_ (by omega)))⟩, e2_⟩
  obtain ⟨hz1, hz2, rfl⟩ := hz
  refine gJ_icmp_eq (tgt := 694) dL_law_666 (by decide) (fun _ => ?_) (fun c_ => by exfalso; exact c_ rfl)
  exact gJ_done ⟨rfl, rfl, rfl, cL_of hfx hX1 hz1 hz2 (hIu) (hJu) ht hB hbM⟩
set_option maxHeartbeats 1000000 in
set_option maxRecDepth 20000 in
theorem law_count (hL : gSL G ≤ 3584) (i : Nat) (hi7 : i + 7 ≤ gSL G) (hcX : cX M b V S IV IS hh U t) (hI : mI V) (hJ : mJ V) (ht : t ≤ 60) (hB : zB U) (hbM : b + 75 ≤ M.2) (hM : cM M (b + 66) V S IV IS hh U t) : gJ G (kLn nm) 10 7 25 M 671 [(3, .int (nI i)), (2, .ref (b + 66)), (1, .ref b), (0, .ref (gS G 4))] [] (fun M' pc' lv' st' => pc' = 694 ∧ lv' = [(3, .int (nI i)), (2, .ref (b + 66)), (1, .ref b), (0, .ref (gS G 4))] ∧ st' = [] ∧ cL M' b) := by
  have hx0 := hcX.1
  refine gJ_aload_n dL_law_671 rfl rfl ?_
  refine gJ_aload_n dL_law_672 rfl rfl ?_
  refine gJ_iload_n dL_law_673 rfl rfl ?_
  refine gJ_iconst (v := 1) dL_law_674 (by decide) ?_
  refine gJ_iaddN (a := i) (b := 1) dL_law_675 (by first | with_reducible rfl | rfl) (by first | with_reducible rfl | rfl) ?_
  refine gJ_sld dL_law_676 (vp_in_nI (by omega) (by omega)) ?_
  refine gJ_callV (As := [_]) b_X11_count lL_91 i_X11_count s_X11_count dL_law_677 (c11_count hcX hI hJ _) hx0 rfl rfl (Nat.le_of_ble_eq_true rfl) rfl (by decide) (fun M677 v_ h677 => ?_)
  obtain ⟨e_, rfl⟩ := h677
  replace e_ := e_.symm
  subst e_
  have hfx : cFx M M b := cFx_r
  have hX1 := hcX
  obtain ⟨at_, fa, K, KS, F, m0, m1, m2, m3, m4, m5, m6, m7, m8⟩ := hM
  refine gJ_aload_n dL_law_680 rfl rfl ?_
  refine gJ_aload_n dL_law_681 rfl rfl ?_
  refine gJ_iload_n dL_law_682 rfl rfl ?_
  refine gJ_iconst (v := 1) dL_law_683 (by decide) ?_
  refine gJ_iaddN (a := i) (b := 1) dL_law_684 (by first | with_reducible rfl | rfl) (by first | with_reducible rfl | rfl) ?_
  refine gJ_sld dL_law_685 (vp_in_nI (by omega) (by omega)) ?_
  refine gJ_callV (As := [_]) b_X12_count lL_94 i_X12_count s_X12_count dL_law_686 (c12_count m0 m1 hI _) m0 rfl rfl (Nat.le_of_ble_eq_true rfl) rfl (by decide) (fun M686 v_ h686 => ?_)
  obtain ⟨e_, rfl⟩ := h686
  replace e_ := e_.symm
  subst e_
  refine gJ_icmp_eq (tgt := 694) dL_law_689 (by decide) (fun _ => ?_) (fun c_ => by exfalso; exact c_ rfl)
  exact gJ_done ⟨rfl, rfl, rfl, cL_of hfx hX1 (by repeat (first | exact gFr_r | refine gFr_u ?_ (by omega))) ⟨at_, fa, K, KS, F, (by repeat (first | with_reducible exact gUp_s | with_reducible assumption | refine gUp_n ?_ (by omega))), (by repeat (first | with_reducible exact gUp_s | with_reducible assumption | refine gUp_n ?_ (by omega))), (by repeat (first | with_reducible exact gUp_s | with_reducible assumption | refine gUp_n ?_ (by omega))), (by repeat (first | with_reducible exact gUp_s | with_reducible assumption | refine gUp_n ?_ (by omega))), (by repeat (first | with_reducible exact gUp_s | with_reducible assumption | refine gUp_n ?_ (by omega))), (by repeat (first | with_reducible exact gUp_s | with_reducible assumption | refine gUp_n ?_ (by omega))), (by repeat (first | with_reducible exact gUp_s | with_reducible assumption | refine gUp_n ?_ (by omega))), (by repeat (first | with_reducible exact gUp_s | with_reducible assumption | refine gUp_n ?_ (by omega))), (by repeat (first | with_reducible exact gUp_s | with_reducible assumption | refine gUp_n ?_ (by omega)))⟩ (hI) (hJ) ht hB hbM⟩
set_option maxHeartbeats 1000000 in
set_option maxRecDepth 20000 in
/-- one round of the law -/
theorem law_turn (hL : gSL G ≤ 3584) (i : Nat) (hi7 : i + 7 ≤ gSL G) (h : cL M b) (x : Int32) : gJ G (kLn nm) 10 7 25 M 33 [(3, .int (nI i)), (2, .ref (b + 66)), (1, .ref b), (0, .ref (gS G 4))] [.int x] (fun M' pc' lv' st' => pc' = 694 ∧ lv' = [(3, .int (nI i)), (2, .ref (b + 66)), (1, .ref b), (0, .ref (gS G 4))] ∧ st' = [] ∧ cL M' b) := by
  have h' := h
  obtain ⟨V, S, IV, IS, hh, U, t, hcX, hI, hJ, ht, hB, hbM, hM⟩ := h
  cases hx : mIn x 0 18 with
  | false =>
    refine gJ_tableOut (tgt := 694) dL_law_33 (mIn_out (n := 18) (by decide) hx) (by decide) ?_
    exact gJ_done ⟨rfl, rfl, rfl, h'⟩
  | true =>
    obtain ⟨z, hz1, hz0, rfl, hz3⟩ := mIn_nat (lo := 0) (hi := 18) hx (by decide)
    rcases (show z = 0 ∨ z = 1 ∨ z = 2 ∨ z = 3 ∨ z = 4 ∨ z = 5 ∨ z = 6 ∨ z = 7 ∨ z = 8 ∨ z = 9 ∨ z = 10 ∨ z = 11 ∨ z = 12 ∨ z = 13 ∨ z = 14 ∨ z = 15 ∨ z = 16 ∨ z = 17 ∨ z = 18 by omega) with rfl | rfl | rfl | rfl | rfl | rfl | rfl | rfl | rfl | rfl | rfl | rfl | rfl | rfl | rfl | rfl | rfl | rfl | rfl
    · exact gJ_tableIn (off := 91) (tgt := 124) dL_law_33 (by decide) (by decide) (by decide) (by decide) (law_label hL i hi7 hcX hI hJ ht hB hbM hM)
    · exact gJ_tableIn (off := 134) (tgt := 167) dL_law_33 (by decide) (by decide) (by decide) (by decide) (law_sample hL i hi7 hcX hI hJ ht hB hbM hM)
    · exact gJ_tableIn (off := 167) (tgt := 200) dL_law_33 (by decide) (by decide) (by decide) (by decide) (law_drop hL i hi7 hcX hI hJ ht hB hbM hM)
    · exact gJ_tableIn (off := 190) (tgt := 223) dL_law_33 (by decide) (by decide) (by decide) (by decide) (law_feed hL i hi7 hcX hI hJ ht hB hbM hM)
    · exact gJ_tableIn (off := 265) (tgt := 298) dL_law_33 (by decide) (by decide) (by decide) (by decide) (law_add hL i hi7 hcX hI hJ ht hB hbM hM)
    · exact gJ_tableIn (off := 288) (tgt := 321) dL_law_33 (by decide) (by decide) (by decide) (by decide) (law_remove hL i hi7 hcX hI hJ ht hB hbM hM)
    · exact gJ_tableIn (off := 321) (tgt := 354) dL_law_33 (by decide) (by decide) (by decide) (by decide) (law_parameter hL i hi7 hcX hI hJ ht hB hbM hM)
    · exact gJ_tableIn (off := 354) (tgt := 387) dL_law_33 (by decide) (by decide) (by decide) (by decide) (law_pass hL i hi7 hcX hI hJ ht hB hbM hM)
    · exact gJ_tableIn (off := 377) (tgt := 410) dL_law_33 (by decide) (by decide) (by decide) (by decide) (law_alert hL i hi7 hcX hI hJ ht hB hbM hM)
    · exact gJ_tableIn (off := 420) (tgt := 453) dL_law_33 (by decide) (by decide) (by decide) (by decide) (law_alerts hL i hi7 hcX hI hJ ht hB hbM hM)
    · exact gJ_tableIn (off := 444) (tgt := 477) dL_law_33 (by decide) (by decide) (by decide) (by decide) (law_group hL i hi7 hcX hI hJ ht hB hbM hM)
    · exact gJ_tableIn (off := 477) (tgt := 510) dL_law_33 (by decide) (by decide) (by decide) (by decide) (law_key hL i hi7 hcX hI hJ ht hB hbM hM)
    · exact gJ_tableIn (off := 500) (tgt := 533) dL_law_33 (by decide) (by decide) (by decide) (by decide) (law_sent hL i hi7 hcX hI hJ ht hB hbM hM)
    · exact gJ_tableIn (off := 533) (tgt := 566) dL_law_33 (by decide) (by decide) (by decide) (by decide) (law_ahead hL i hi7 hcX hI hJ ht hB hbM hM)
    · exact gJ_tableIn (off := 556) (tgt := 589) dL_law_33 (by decide) (by decide) (by decide) (by decide) (law_next hL i hi7 hcX hI hJ ht hB hbM hM)
    · exact gJ_tableIn (off := 579) (tgt := 612) dL_law_33 (by decide) (by decide) (by decide) (by decide) (law_saved hL i hi7 hcX hI hJ ht hB hbM hM)
    · exact gJ_tableIn (off := 612) (tgt := 645) dL_law_33 (by decide) (by decide) (by decide) (by decide) (law_image hL i hi7 hcX hI hJ ht hB hbM hM)
    · exact gJ_tableIn (off := 625) (tgt := 658) dL_law_33 (by decide) (by decide) (by decide) (by decide) (law_undo hL i hi7 hcX hI hJ ht hB hbM hM)
    · exact gJ_tableIn (off := 638) (tgt := 671) dL_law_33 (by decide) (by decide) (by decide) (by decide) (law_count hL i hi7 hcX hI hJ ht hB hbM hM)
set_option maxHeartbeats 1000000 in
set_option maxRecDepth 20000 in
/-- the law from its loop on answers true -/
theorem law_loop (hL : gSL G ≤ 3584) : ∀ (n i : Nat) (M : gM), gSL G ≤ i + 7 * n + 6 → i ≤ gSL G + 7 → cL M b → gJ G (kLn nm) 10 (7 * n) (25 * n) M 18 [(3, .int (nI i)), (2, .ref (b + 66)), (1, .ref b), (0, .ref (gS G 4))] [] (gQ (kLn nm) (fun _ v => v = some (.int 1))) := by
  intro n
  have e7 : (Int32.ofNat (gSL G) - 7).toInt = (gSL G : Int) - 7 := by
    have h1 : (Int32.ofNat (gSL G)).toInt = (gSL G : Int) := nI_toInt (by omega)
    rw [Int32.toInt_sub, h1, show (7 : Int32).toInt = 7 by decide]
    apply Int.bmod_eq_of_le <;> omega
  induction n with
  | zero =>
    intro i M h1 h2 h
    have e1 : (nI i).toInt = i := nI_toInt (by omega)
    refine gJ_iload_n dL_law_18 rfl rfl ?_
    refine gJ_aload_n dL_law_19 rfl rfl ?_
    refine gJ_slen dL_law_20 ?_
    refine gJ_bipush (v := 7) dL_law_21 (by decide) ?_
    refine gJ_isub dL_law_23 ?_
    refine gJ_icmp_gt (tgt := 700) dL_law_24 (by decide) (fun _ => ?_) (fun c_ => by exfalso; exact c_ (by rw [Int32.lt_iff_toInt_lt, e1, e7]; omega))
    refine gJ_iconst (v := 1) dL_law_700 (by decide) ?_
    refine gJ_zret dL_law_701 rfl (by first | exact gz0 | exact gz1 | exact gb01 _) ?_
    rfl
  | succ n ih =>
    intro i M h1 h2 h
    have e1 : (nI i).toInt = i := nI_toInt (by omega)
    by_cases hi7 : i + 7 ≤ gSL G
    · have body : ∀ x : Int32, gJ G (kLn nm) 10 (7 + 7 * n) (25 + 25 * n) M 33 [(3, .int (nI i)), (2, .ref (b + 66)), (1, .ref b), (0, .ref (gS G 4))] [.int x] (gQ (kLn nm) (fun _ v => v = some (.int 1))) := by
        intro x
        refine gJ_cut (law_turn hL i hi7 h x) ?_
        intro M' pc' lv' st' ⟨q1, q2, q3, q4⟩
        subst q1
        subst q2
        subst q3
        refine gJ_iincN (a := i) (b := 7) (lv2 := [(3, _), (2, _), (1, _), (0, _)]) dL_law_694 rfl rfl rfl rfl ?_
        refine gJ_goto (tgt := 18) dL_law_697 (by decide) ?_
        exact gJ_ls (ih (i + 7) M' (by omega) (by omega) q4) ⟨rfl, rfl, rfl, rfl, trivial⟩
      rw [show 7 * (n + 1) = 7 + 7 * n by omega, show 25 * (n + 1) = 25 + 25 * n by omega]
      refine gJ_iload_n dL_law_18 rfl rfl ?_
      refine gJ_aload_n dL_law_19 rfl rfl ?_
      refine gJ_slen dL_law_20 ?_
      refine gJ_bipush (v := 7) dL_law_21 (by decide) ?_
      refine gJ_isub dL_law_23 ?_
      refine gJ_icmp_gt (tgt := 700) dL_law_24 (by decide) (fun c_ => by exfalso; rw [Int32.lt_iff_toInt_lt, e1, e7] at c_; omega) (fun _ => ?_)
      refine gJ_aload_n dL_law_27 rfl rfl ?_
      refine gJ_iload_n dL_law_28 rfl rfl ?_
      refine gJ_sld dL_law_29 (vp_in_nI (by omega) (by omega)) ?_
      refine gJ_bipush (v := 31) dL_law_30 (by decide) ?_
      refine gJ_iand dL_law_32 ?_
      exact gJ_ls (body _) ⟨rfl, rfl, rfl, rfl, trivial⟩
    · skip
      refine gJ_iload_n dL_law_18 rfl rfl ?_
      refine gJ_aload_n dL_law_19 rfl rfl ?_
      refine gJ_slen dL_law_20 ?_
      refine gJ_bipush (v := 7) dL_law_21 (by decide) ?_
      refine gJ_isub dL_law_23 ?_
      refine gJ_icmp_gt (tgt := 700) dL_law_24 (by decide) (fun _ => ?_) (fun c_ => by exfalso; exact c_ (by rw [Int32.lt_iff_toInt_lt, e1, e7]; omega))
      refine gJ_iconst (v := 1) dL_law_700 (by decide) ?_
      refine gJ_zret dL_law_701 rfl (by first | exact gz0 | exact gz1 | exact gb01 _) ?_
      rfl
end LAW
