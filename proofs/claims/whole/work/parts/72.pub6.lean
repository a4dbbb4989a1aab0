theorem find_ext {p q : Nat → Bool} : ∀ l : List Nat, (∀ i, i ∈ l → p i = q i) → l.find? p = l.find? q
  | [], _ => rfl
  | a :: l, h => by
    have ha := h a (by simp)
    have hl := find_ext l (fun i hi => h i (by simp [hi]))
    rw [List.find?_cons, List.find?_cons, ha, hl]
theorem rany_ext {p q : Nat → Bool} {n : Nat} (h : ∀ i, i < n → p i = q i) : (List.range n).any p = (List.range n).any q := by
  rw [Bool.eq_iff_iff, List.any_eq_true, List.any_eq_true]
  constructor
  · rintro ⟨x, hx, hp⟩; exact ⟨x, hx, (h x (List.mem_range.mp hx)).symm.trans hp⟩
  · rintro ⟨x, hx, hp⟩; exact ⟨x, hx, (h x (List.mem_range.mp hx)).trans hp⟩
theorem rcnt_ext {p q : Nat → Bool} {n : Nat} (h : ∀ i, i < n → p i = q i) : (List.range n).countP p = (List.range n).countP q := by
  apply List.countP_congr
  intro x hx
  rw [h x (List.mem_range.mp hx)]
theorem nI_nm1 {i : Nat} (h : i < 2 ^ 31) : ¬ nI i = (-1 : Int32) := fun e => absurd (nI_pos' h) (by rw [e]; decide)
section KEY
variable {V : Nat → Int32} {D : Nat → Int64} {x : Int32}
theorem mNeN_D (hD : ∀ k, k < 128 → D k = mWith V (mActs V) (nI k)) (n : Nat) (hn : n ≤ 128) : mNeN V (mActs V) n = (List.range n).countP (fun k => !decide (D k = 0)) := by
  unfold mNeN
  refine rcnt_ext (fun k hk => ?_)
  rw [mNe, hD k (by omega)]
theorem mNeN_le (act : Int64) (n : Nat) : mNeN V act n ≤ n := by
  have := List.countP_le_length (p := mNe V act) (l := List.range n)
  rwa [List.length_range] at this
theorem aKey_out (h : ∀ i, i < 128 → ¬ nI i = x) : aKey V x = if x = -1 then nI (mNeN V (mActs V) 128) else -1 := by
  unfold aKey
  rw [any_f (fun k hk => by
    have := mNeN_le (V := V) (mActs V) k
    rw [mKeyQ, decide_eq_false (h _ (by omega)), Bool.and_false])]
  rfl
theorem aKey_in (hD : ∀ k, k < 128 → D k = mWith V (mActs V) (nI k)) (i : Nat) (hi : i < 128) : aKey V (nI i) = cKeyAt D i := by
  have e : ∀ k, k < 128 → mKeyQ V (mActs V) (nI i) k = cKeyQ D i k := by
    intro k hk
    have hle := mNeN_le (V := V) (mActs V) k
    unfold mKeyQ cKeyQ
    rw [← mNeN_D hD k (by omega), mNe, hD k hk, Bool.eq_iff_iff]
    simp only [Bool.and_eq_true, decide_eq_true_eq, nI_eq (show mNeN V (mActs V) k < 2 ^ 31 by omega) (show i < 2 ^ 31 by omega)]
  unfold aKey cKeyAt
  rw [rany_ext e, mFind_ext e, if_neg (nI_nm1 (by omega))]
end KEY
section CLS
variable {G : gG} {M : gM} {b t : Nat} {V IV : Nat → Int32} {S IS : Nat → Int64} {hi : Bool} {U : Nat → Int32}
/-- the sorting of the groups leaves the class as it was -/
theorem cX_sort {M2 : gM} {D2 : Nat → Int64} (h : cX M b V S IV IS hi U t) (hf : gFr M M2 (b + 17) 5) (hG : cRG M2 (b + 17) V S D2) : cX M2 b V S IV IS hi U t := by
  have h' := h
  obtain ⟨-, -, -, ⟨T, D, hT, hV, hs, hS, hA, -, hL⟩, -⟩ := h
  exact cX_now h' (gFr_w hf (by omega) (by omega)) ⟨T, D2, hT, hV, gFr_g hf hs (by omega), cRS_fr hS hf (by omega) (by omega), cRA_fr hA hf (by omega), hG, cRL_fr hL hf (by omega)⟩
set_option maxHeartbeats 1000000 in
set_option maxRecDepth 20000 in
theorem c11_key (h : cX M b V S IV IS hi U t) (hI : mI V) (hJ : mJ V) (x : Int32) : gCon G kX11_key 4 0 0 M [.ref b, .int x] (fun M2 v => gFr M M2 b 66 ∧ cX M2 b V S IV IS hi U t ∧ v = some (.int (aKey V x))) := by
  have h' := h
  obtain ⟨h0, -, -, ⟨T, D, hT, hR⟩, -⟩ := h
  have hAct := c9_active (G := G) hR (by omega) hI hJ
  obtain ⟨hV, hs, hS, hA, hG, hL⟩ := hR
  have hSo := c2_sort (G := G) hG (by omega) hS (by omega) hI (mAct V)
  obtain ⟨og, hog⟩ : ∃ o, M.1 (b + 3 + 14) = some (gO 1 o) := by obtain ⟨_, _, q0, -⟩ := hG; exact ⟨_, q0⟩
  have hm1 : (-1 : Int32).toInt = -1 := by decide
  have h128 : (128 : Int32).toInt = 128 := by decide
  have out : (x < -1 ∨ ¬ x < 128) → aKey V x = -1 := by
    intro hx
    have hno : ∀ i, i < 128 → ¬ nI i = x := by
      intro i hi e
      subst e
      rcases hx with hx | hx
      · have := (nI_pos' (show i < 2 ^ 31 by omega))
        exact absurd (Int32.lt_of_le_of_lt this hx) (by decide)
      · exact hx ((nI_ltI (b := 128) (by omega) (by decide)).mpr hi)
    rw [aKey_out hno, if_neg (fun e => by subst e; rcases hx with hx | hx <;> exact absurd hx (by decide))]
  refine gCon_of (by decide) (Nat.le_of_ble_eq_true rfl) ?_
  show gJ _ _ _ _ _ _ 0 [(0, _), (1, _)] [] _
  refine gJ_iload_n dX11_key_0 rfl rfl ?_
  refine gJ_iconst (v := -1) dX11_key_1 (by decide) ?_
  refine gJ_icmp_lt (tgt := 12) dX11_key_2 (by decide) (fun c2 => ?_) (fun c2 => ?_)
  · refine gJ_iconst (v := -1) dX11_key_12 (by decide) ?_
    refine gJ_iret dX11_key_13 rfl ?_
    rw [out (Or.inl c2)]
    exact ⟨gFr_r, h', rfl⟩
  · refine gJ_iload_n dX11_key_5 rfl rfl ?_
    refine gJ_sipush (v := 128) dX11_key_6 (by decide) ?_
    refine gJ_icmp_lt (tgt := 14) dX11_key_9 (by decide) (fun c9 => ?_) (fun c9 => ?_)
    · refine gJ_aload_n dX11_key_14 rfl rfl ?_
      refine gJ_get fX11_19 dX11_key_15 (by first | with_reducible assumption | with_reducible exact gUp_s | with_reducible exact gUp_n (by with_reducible assumption) (by omega) | exact gUp_n (by assumption) (by omega) | exact gUp_s | assumption) rfl ?_
      refine gJ_get fX11_145 dX11_key_18 (by first | with_reducible assumption | with_reducible exact gUp_s | with_reducible exact gUp_n (by with_reducible assumption) (by omega) | exact gUp_n (by assumption) (by omega) | exact gUp_s | assumption) rfl ?_
      refine gJ_aload_n dX11_key_21 rfl rfl ?_
      refine gJ_get fX11_19 dX11_key_22 (by first | with_reducible assumption | with_reducible exact gUp_s | with_reducible exact gUp_n (by with_reducible assumption) (by omega) | exact gUp_n (by assumption) (by omega) | exact gUp_s | assumption) rfl ?_
      refine gJ_callV (As := []) b_X9_active lX11_193 i_X9_active s_X9_active dX11_key_25 (hAct) (by first | with_reducible assumption | with_reducible exact gUp_s | with_reducible exact gUp_n (by with_reducible assumption) (by omega) | exact gUp_n (by assumption) (by omega) | exact gUp_s | assumption) rfl rfl (Nat.le_of_ble_eq_true rfl) rfl (by decide) (fun M25 v_ h25 => ?_)
      obtain ⟨e_, rfl⟩ := h25
      replace e_ := e_.symm
      subst e_
      refine gJ_aload_n dX11_key_28 rfl rfl ?_
      refine gJ_get fX11_19 dX11_key_29 (by first | with_reducible assumption | with_reducible exact gUp_s | with_reducible exact gUp_n (by with_reducible assumption) (by omega) | exact gUp_n (by assumption) (by omega) | exact gUp_s | assumption) rfl ?_
      refine gJ_get fX11_37 dX11_key_32 (by first | with_reducible assumption | with_reducible exact gUp_s | with_reducible exact gUp_n (by with_reducible assumption) (by omega) | exact gUp_n (by assumption) (by omega) | exact gUp_s | assumption) rfl ?_
      refine gJ_callV (As := [_, _]) b_X2_sort lX11_229 i_X2_sort s_X2_sort dX11_key_35 (hSo) hog rfl rfl (Nat.le_of_ble_eq_true rfl) rfl (by decide) (fun M35 v_ h35 => ?_)
      obtain ⟨hf35, ⟨D2, hG35, hD2⟩, rfl⟩ := h35
      have hX := cX_sort h' hf35 hG35
      have h035 := gFr_g hf35 h0 (by omega)
      have hs35 := gFr_g hf35 hs (by omega)
      obtain ⟨og2, hog2⟩ : ∃ o, M35.1 (b + 3 + 14) = some (gO 1 o) := (by obtain ⟨_, _, q0, -⟩ := hG35; exact ⟨_, q0⟩)
      refine gJ_iload_n dX11_key_38 rfl rfl ?_
      refine gJ_iconst (v := -1) dX11_key_39 (by decide) ?_
      refine gJ_icmp_ne (tgt := 56) dX11_key_40 (by decide) (fun c40 => ?_) (fun c40 => ?_)
      · have hx0 : ¬ x < 0 := (by have c2' := c2; have c40' := c40; have h00 : (0 : Int32).toInt = 0 := (by decide); rw [← Int32.toInt_inj] at c40'; rw [Int32.lt_iff_toInt_lt] at c2' ⊢; omega)
        obtain ⟨i, hi1, hi2⟩ := nI_of hx0
        subst hi2
        have hi128 : i < 128 := (nI_ltI (b := 128) (by omega) (by decide)).mp c9
        refine gJ_aload_n dX11_key_56 rfl rfl ?_
        refine gJ_get fX11_19 dX11_key_57 (by first | with_reducible assumption | with_reducible exact gUp_s | with_reducible exact gUp_n (by with_reducible assumption) (by omega) | exact gUp_n (by assumption) (by omega) | exact gUp_s | assumption) rfl ?_
        refine gJ_get fX11_145 dX11_key_60 (by first | with_reducible assumption | with_reducible exact gUp_s | with_reducible exact gUp_n (by with_reducible assumption) (by omega) | exact gUp_n (by assumption) (by omega) | exact gUp_s | assumption) rfl ?_
        refine gJ_iload_n dX11_key_63 rfl rfl ?_
        refine gJ_callV (As := [_]) b_X2_keyAt lX11_258 i_X2_keyAt s_X2_keyAt dX11_key_64 (c2_keyAt hG35 i (by omega)) hog2 rfl rfl (Nat.le_of_ble_eq_true rfl) rfl (by decide) (fun M64 v_ h64 => ?_)
        obtain ⟨e_, rfl⟩ := h64
        replace e_ := e_.symm
        subst e_
        refine gJ_iret dX11_key_67 rfl ?_
        exact ⟨gFr_w hf35 (by omega) (by omega), hX, by rw [aKey_in hD2 i hi128]⟩
      · refine gJ_aload_n dX11_key_43 rfl rfl ?_
        refine gJ_get fX11_19 dX11_key_44 (by first | with_reducible assumption | with_reducible exact gUp_s | with_reducible exact gUp_n (by with_reducible assumption) (by omega) | exact gUp_n (by assumption) (by omega) | exact gUp_s | assumption) rfl ?_
        refine gJ_get fX11_145 dX11_key_47 (by first | with_reducible assumption | with_reducible exact gUp_s | with_reducible exact gUp_n (by with_reducible assumption) (by omega) | exact gUp_n (by assumption) (by omega) | exact gUp_s | assumption) rfl ?_
        refine gJ_callV (As := []) b_X2_countNonEmpty lX11_255 i_X2_countNonEmpty s_X2_countNonEmpty dX11_key_50 (c2_countNonEmpty hG35) hog2 rfl rfl (Nat.le_of_ble_eq_true rfl) rfl (by decide) (fun M50 v_ h50 => ?_)
        obtain ⟨e_, rfl⟩ := h50
        replace e_ := e_.symm
        subst e_
        refine gJ_goto (tgt := 67) dX11_key_53 (by decide) ?_
        refine gJ_iret dX11_key_67 rfl ?_
        exact ⟨gFr_w hf35 (by omega) (by omega), hX, by rw [aKey_out (fun i hi e => by rw [← e] at c40; exact absurd c40 (nI_nm1 (by omega))), if_pos c40, mNeN_D hD2 128 (by omega)]⟩
    · refine gJ_iconst (v := -1) dX11_key_12 (by decide) ?_
      refine gJ_iret dX11_key_13 rfl ?_
      rw [out (Or.inr c9)]
      exact ⟨gFr_r, h', rfl⟩
set_option maxHeartbeats 1000000 in
set_option maxRecDepth 20000 in
theorem c11_group (h : cX M b V S IV IS hi U t) (hI : mI V) (hJ : mJ V) (k x : Int32) : gCon G kX11_group 4 0 0 M [.ref b, .int k, .int x] (fun M2 v => gFr M M2 b 66 ∧ cX M2 b V S IV IS hi U t ∧ v = some (.int (aGroup (V, S) k x))) := by
  have h' := h
  obtain ⟨h0, -, -, ⟨T, D, hT, hR⟩, -⟩ := h
  have hAct := c9_active (G := G) hR (by omega) hI hJ
  obtain ⟨hV, hs, hS, hA, hG, hL⟩ := hR
  have hSo := c2_sort (G := G) hG (by omega) hS (by omega) hI (mAct V)
  obtain ⟨og, hog⟩ : ∃ o, M.1 (b + 3 + 14) = some (gO 1 o) := by obtain ⟨_, _, q0, -⟩ := hG; exact ⟨_, q0⟩
  have out : mIn k 0 127 = false → aGroup (V, S) k x = -1 := by
    intro hk
    rw [aGroup, if_neg (by rw [hk, Bool.false_and]; exact Bool.false_ne_true)]
  have e128 : (k < (128 : Int32)) ↔ k ≤ (127 : Int32) := by
    rw [Int32.le_iff_toInt_le, Int32.lt_iff_toInt_lt]
    have e1 : (127 : Int32).toInt = 127 := by decide
    have e2 : (128 : Int32).toInt = 128 := by decide
    omega
  have sw : ∀ (M1 : gM) (D2 : Nat → Int64) (j : Nat), j < 128 → gFr M M1 (b + 3 + 14) 5 → cRG M1 (b + 3 + 14) V S D2 → (∀ k, k < 128 → D2 k = mWith V (mActs V) (nI k)) → gJ G kX11_group 4 0 0 M1 38 [(0, .ref b), (1, .int (nI j)), (2, .int x)] [.int x] (gQ kX11_group (fun M2 v => gFr M M2 b 66 ∧ cX M2 b V S IV IS hi U t ∧ v = some (.int (aGroup (V, S) (nI j) x)))) := by
    intro M1 D2 j hj hf hG1 hD
    have hX := cX_sort h' hf hG1
    have hF : gFr M M1 b 66 := gFr_w hf (by omega) (by omega)
    have h01 := gFr_g hf h0 (by omega)
    have hs1 := gFr_g hf hs (by omega)
    have hN := c2_newcomers (G := G) hG1 hI j hj
    obtain ⟨X, RU, SI, IN, s0, s1, s2, s3, s4, s5, s6, s7, s8, -⟩ := cRS_fr hS hf (by omega) (by omega)
    have hNx := c2_nextMinute (G := G) hG1 s0 s7 hI (by omega : T ≤ 200000) hV j hj
    obtain ⟨A, B, g0, g1, g2, g3, g4, g5⟩ := hG1
    by_cases hx : mIn x 0 4 = true
    · obtain ⟨z, hz1, hz0, rfl, hz3⟩ := mIn_nat (lo := 0) (hi := 4) hx (by decide)
      rw [aGroup_in V S (by omega) hz1, ← hD j hj]
      have hbig : ∀ y : Int64, (∀ a, 60 ≤ a → lB (D2 j &&& y) a = false) := fun y a ha => by rw [lB_and, hD j hj, mWith, lS_big ha]; rfl
      have hbig0 : ∀ a, 60 ≤ a → lB (D2 j) a = false := fun a ha => by rw [hD j hj, mWith, lS_big ha]
      have hopen : cOpen V j = V (1586 + 2 * j) := cOpen_at hj
      rcases (show z = 0 ∨ z = 1 ∨ z = 2 ∨ z = 3 ∨ z = 4 by omega) with rfl | rfl | rfl | rfl | rfl
      · refine gJ_tableIn (off := 34) (tgt := 72) dX11_group_38 (by decide) (by decide) (by decide) (by decide) ?_
        rcases cOp hI hj with ho | ho
        · skip
          refine gJ_aload_n dX11_group_72 rfl rfl ?_
          refine gJ_get fX11_19 dX11_group_73 (by first | with_reducible assumption | with_reducible exact gUp_s | with_reducible exact gUp_n (by with_reducible assumption) (by omega) | exact gUp_n (by assumption) (by omega) | exact gUp_s | assumption) rfl ?_
          refine gJ_get fX11_145 dX11_group_76 (by first | with_reducible assumption | with_reducible exact gUp_s | with_reducible exact gUp_n (by with_reducible assumption) (by omega) | exact gUp_n (by assumption) (by omega) | exact gUp_s | assumption) rfl ?_
          refine gJ_get fX11_233 dX11_group_79 (by first | with_reducible assumption | with_reducible exact gUp_s | with_reducible exact gUp_n (by with_reducible assumption) (by omega) | exact gUp_n (by assumption) (by omega) | exact gUp_s | assumption) rfl ?_
          refine gJ_iload_n dX11_group_82 rfl rfl ?_
          refine gJ_zaldN (j := j) dX11_group_83 (by first | with_reducible assumption | with_reducible exact gUp_s | with_reducible exact gUp_n (by with_reducible assumption) (by omega) | exact gUp_n (by assumption) (by omega) | exact gUp_s | assumption) (by first | with_reducible rfl | rfl) (by omega) (by decide) ?_
          rw [hopen, ho]
          show gJ _ _ _ _ _ _ _ _ (Value.int (gb false) :: _) _
          refine gJ_callS (As := [_]) b_X11_bit lX11_51 i_X11_bit dX11_group_84 (c11_bit false) rfl (Nat.le_of_ble_eq_true rfl) rfl (by decide) (fun M84 v_ h84 => ?_)
          obtain ⟨e_, rfl⟩ := h84
          replace e_ := e_.symm
          subst e_
          refine gJ_iret dX11_group_87 rfl ?_
          exact ⟨hF, hX, by rw [if_pos rfl, if_neg (by decide)]; rfl⟩
        · skip
          refine gJ_aload_n dX11_group_72 rfl rfl ?_
          refine gJ_get fX11_19 dX11_group_73 (by first | with_reducible assumption | with_reducible exact gUp_s | with_reducible exact gUp_n (by with_reducible assumption) (by omega) | exact gUp_n (by assumption) (by omega) | exact gUp_s | assumption) rfl ?_
          refine gJ_get fX11_145 dX11_group_76 (by first | with_reducible assumption | with_reducible exact gUp_s | with_reducible exact gUp_n (by with_reducible assumption) (by omega) | exact gUp_n (by assumption) (by omega) | exact gUp_s | assumption) rfl ?_
          refine gJ_get fX11_233 dX11_group_79 (by first | with_reducible assumption | with_reducible exact gUp_s | with_reducible exact gUp_n (by with_reducible assumption) (by omega) | exact gUp_n (by assumption) (by omega) | exact gUp_s | assumption) rfl ?_
          refine gJ_iload_n dX11_group_82 rfl rfl ?_
          refine gJ_zaldN (j := j) dX11_group_83 (by first | with_reducible assumption | with_reducible exact gUp_s | with_reducible exact gUp_n (by with_reducible assumption) (by omega) | exact gUp_n (by assumption) (by omega) | exact gUp_s | assumption) (by first | with_reducible rfl | rfl) (by omega) (by decide) ?_
          rw [hopen, ho]
          show gJ _ _ _ _ _ _ _ _ (Value.int (gb true) :: _) _
          refine gJ_callS (As := [_]) b_X11_bit lX11_51 i_X11_bit dX11_group_84 (c11_bit true) rfl (Nat.le_of_ble_eq_true rfl) rfl (by decide) (fun M84 v_ h84 => ?_)
          obtain ⟨e_, rfl⟩ := h84
          replace e_ := e_.symm
          subst e_
          refine gJ_iret dX11_group_87 rfl ?_
          exact ⟨hF, hX, by rw [if_pos rfl, if_pos rfl]; rfl⟩
      · refine gJ_tableIn (off := 50) (tgt := 88) dX11_group_38 (by decide) (by decide) (by decide) (by decide) ?_
        rcases cOp hI hj with ho | ho
        · skip
          refine gJ_aload_n dX11_group_88 rfl rfl ?_
          refine gJ_get fX11_19 dX11_group_89 (by first | with_reducible assumption | with_reducible exact gUp_s | with_reducible exact gUp_n (by with_reducible assumption) (by omega) | exact gUp_n (by assumption) (by omega) | exact gUp_s | assumption) rfl ?_
          refine gJ_get fX11_145 dX11_group_92 (by first | with_reducible assumption | with_reducible exact gUp_s | with_reducible exact gUp_n (by with_reducible assumption) (by omega) | exact gUp_n (by assumption) (by omega) | exact gUp_s | assumption) rfl ?_
          refine gJ_get fX11_233 dX11_group_95 (by first | with_reducible assumption | with_reducible exact gUp_s | with_reducible exact gUp_n (by with_reducible assumption) (by omega) | exact gUp_n (by assumption) (by omega) | exact gUp_s | assumption) rfl ?_
          refine gJ_iload_n dX11_group_98 rfl rfl ?_
          refine gJ_zaldN (j := j) dX11_group_99 (by first | with_reducible assumption | with_reducible exact gUp_s | with_reducible exact gUp_n (by with_reducible assumption) (by omega) | exact gUp_n (by assumption) (by omega) | exact gUp_s | assumption) (by first | with_reducible rfl | rfl) (by omega) (by decide) ?_
          rw [hopen, ho]
          show gJ _ _ _ _ _ _ _ _ (Value.int (gb false) :: _) _
          refine gJ_if_eqB (tgt := 118) dX11_group_100 (by decide) (fun _ => ?_) (fun c_ => by exfalso; cases c_)
          refine gJ_bipush (v := -5) dX11_group_118 (by decide) ?_
          refine gJ_iret dX11_group_120 rfl ?_
          exact ⟨hF, hX, by rw [if_neg (by decide), if_pos rfl, if_neg (by decide)]⟩
        · skip
          refine gJ_aload_n dX11_group_88 rfl rfl ?_
          refine gJ_get fX11_19 dX11_group_89 (by first | with_reducible assumption | with_reducible exact gUp_s | with_reducible exact gUp_n (by with_reducible assumption) (by omega) | exact gUp_n (by assumption) (by omega) | exact gUp_s | assumption) rfl ?_
          refine gJ_get fX11_145 dX11_group_92 (by first | with_reducible assumption | with_reducible exact gUp_s | with_reducible exact gUp_n (by with_reducible assumption) (by omega) | exact gUp_n (by assumption) (by omega) | exact gUp_s | assumption) rfl ?_
          refine gJ_get fX11_233 dX11_group_95 (by first | with_reducible assumption | with_reducible exact gUp_s | with_reducible exact gUp_n (by with_reducible assumption) (by omega) | exact gUp_n (by assumption) (by omega) | exact gUp_s | assumption) rfl ?_
          refine gJ_iload_n dX11_group_98 rfl rfl ?_
          refine gJ_zaldN (j := j) dX11_group_99 (by first | with_reducible assumption | with_reducible exact gUp_s | with_reducible exact gUp_n (by with_reducible assumption) (by omega) | exact gUp_n (by assumption) (by omega) | exact gUp_s | assumption) (by first | with_reducible rfl | rfl) (by omega) (by decide) ?_
          rw [hopen, ho]
          show gJ _ _ _ _ _ _ _ _ (Value.int (gb true) :: _) _
          refine gJ_if_eqB (tgt := 118) dX11_group_100 (by decide) (fun c_ => by exfalso; cases c_) (fun _ => ?_)
          refine gJ_aload_n dX11_group_103 rfl rfl ?_
          refine gJ_get fX11_19 dX11_group_104 (by first | with_reducible assumption | with_reducible exact gUp_s | with_reducible exact gUp_n (by with_reducible assumption) (by omega) | exact gUp_n (by assumption) (by omega) | exact gUp_s | assumption) rfl ?_
          refine gJ_get fX11_145 dX11_group_107 (by first | with_reducible assumption | with_reducible exact gUp_s | with_reducible exact gUp_n (by with_reducible assumption) (by omega) | exact gUp_n (by assumption) (by omega) | exact gUp_s | assumption) rfl ?_
          refine gJ_get fX11_236 dX11_group_110 (by first | with_reducible assumption | with_reducible exact gUp_s | with_reducible exact gUp_n (by with_reducible assumption) (by omega) | exact gUp_n (by assumption) (by omega) | exact gUp_s | assumption) rfl ?_
          refine gJ_iload_n dX11_group_113 rfl rfl ?_
          refine gJ_ialdN (j := j) dX11_group_114 (by first | with_reducible assumption | with_reducible exact gUp_s | with_reducible exact gUp_n (by with_reducible assumption) (by omega) | exact gUp_n (by assumption) (by omega) | exact gUp_s | assumption) (by first | with_reducible rfl | rfl) (by omega) (by decide) ?_
          refine gJ_goto (tgt := 120) dX11_group_115 (by decide) ?_
          refine gJ_iret dX11_group_120 rfl ?_
          exact ⟨hF, hX, by rw [if_neg (by decide), if_pos rfl, if_pos rfl, (g5 j hj ho).1]⟩
      · refine gJ_tableIn (off := 83) (tgt := 121) dX11_group_38 (by decide) (by decide) (by decide) (by decide) ?_
        refine gJ_aload_n dX11_group_121 rfl rfl ?_
        refine gJ_get fX11_19 dX11_group_122 (by first | with_reducible assumption | with_reducible exact gUp_s | with_reducible exact gUp_n (by with_reducible assumption) (by omega) | exact gUp_n (by assumption) (by omega) | exact gUp_s | assumption) rfl ?_
        refine gJ_get fX11_145 dX11_group_125 (by first | with_reducible assumption | with_reducible exact gUp_s | with_reducible exact gUp_n (by with_reducible assumption) (by omega) | exact gUp_n (by assumption) (by omega) | exact gUp_s | assumption) rfl ?_
        refine gJ_get fX11_239 dX11_group_128 (by first | with_reducible assumption | with_reducible exact gUp_s | with_reducible exact gUp_n (by with_reducible assumption) (by omega) | exact gUp_n (by assumption) (by omega) | exact gUp_s | assumption) rfl ?_
        refine gJ_iload_n dX11_group_131 rfl rfl ?_
        refine gJ_laldN (j := j) dX11_group_132 (by first | with_reducible assumption | with_reducible exact gUp_s | with_reducible exact gUp_n (by with_reducible assumption) (by omega) | exact gUp_n (by assumption) (by omega) | exact gUp_s | assumption) (by first | with_reducible rfl | rfl) (by omega) (by decide) ?_
        refine gJ_callS (As := [_]) b_J13_bitCount_95d88 lX11_243 i_J13_bitCount_95d88 dX11_group_133 (c13_bitCount _) rfl (Nat.le_of_ble_eq_true rfl) rfl (by decide) (fun M133 v_ h133 => ?_)
        obtain ⟨e_, rfl⟩ := h133
        replace e_ := e_.symm
        subst e_
        refine gJ_iret dX11_group_136 rfl ?_
        exact ⟨hF, hX, by rw [if_neg (by decide), if_neg (by decide), if_pos rfl, bC_size hbig0]⟩
      · refine gJ_tableIn (off := 99) (tgt := 137) dX11_group_38 (by decide) (by decide) (by decide) (by decide) ?_
        refine gJ_aload_n dX11_group_137 rfl rfl ?_
        refine gJ_get fX11_19 dX11_group_138 (by first | with_reducible assumption | with_reducible exact gUp_s | with_reducible exact gUp_n (by with_reducible assumption) (by omega) | exact gUp_n (by assumption) (by omega) | exact gUp_s | assumption) rfl ?_
        refine gJ_get fX11_145 dX11_group_141 (by first | with_reducible assumption | with_reducible exact gUp_s | with_reducible exact gUp_n (by with_reducible assumption) (by omega) | exact gUp_n (by assumption) (by omega) | exact gUp_s | assumption) rfl ?_
        refine gJ_iload_n dX11_group_144 rfl rfl ?_
        refine gJ_callV (As := [_]) b_X2_newcomers lX11_248 i_X2_newcomers s_X2_newcomers dX11_group_145 (hN) g0 rfl rfl (Nat.le_of_ble_eq_true rfl) rfl (by decide) (fun M145 v_ h145 => ?_)
        obtain ⟨e_, rfl⟩ := h145
        replace e_ := e_.symm
        subst e_
        refine gJ_callS (As := [_]) b_J13_bitCount_95d88 lX11_243 i_J13_bitCount_95d88 dX11_group_148 (c13_bitCount _) rfl (Nat.le_of_ble_eq_true rfl) rfl (by decide) (fun M148 v_ h148 => ?_)
        obtain ⟨e_, rfl⟩ := h148
        replace e_ := e_.symm
        subst e_
        refine gJ_iret dX11_group_151 rfl ?_
        exact ⟨hF, hX, by rw [if_neg (by decide), if_neg (by decide), if_neg (by decide), if_pos rfl, cNew, bC_size (by split; exact hbig _; exact hbig0)]⟩
      · refine gJ_tableIn (off := 114) (tgt := 152) dX11_group_38 (by decide) (by decide) (by decide) (by decide) ?_
        refine gJ_aload_n dX11_group_152 rfl rfl ?_
        refine gJ_get fX11_19 dX11_group_153 (by first | with_reducible assumption | with_reducible exact gUp_s | with_reducible exact gUp_n (by with_reducible assumption) (by omega) | exact gUp_n (by assumption) (by omega) | exact gUp_s | assumption) rfl ?_
        refine gJ_get fX11_145 dX11_group_156 (by first | with_reducible assumption | with_reducible exact gUp_s | with_reducible exact gUp_n (by with_reducible assumption) (by omega) | exact gUp_n (by assumption) (by omega) | exact gUp_s | assumption) rfl ?_
        refine gJ_iload_n dX11_group_159 rfl rfl ?_
        refine gJ_aload_n dX11_group_160 rfl rfl ?_
        refine gJ_get fX11_19 dX11_group_161 (by first | with_reducible assumption | with_reducible exact gUp_s | with_reducible exact gUp_n (by with_reducible assumption) (by omega) | exact gUp_n (by assumption) (by omega) | exact gUp_s | assumption) rfl ?_
        refine gJ_get fX11_157 dX11_group_164 (by first | with_reducible assumption | with_reducible exact gUp_s | with_reducible exact gUp_n (by with_reducible assumption) (by omega) | exact gUp_n (by assumption) (by omega) | exact gUp_s | assumption) rfl ?_
        refine gJ_aload_n dX11_group_167 rfl rfl ?_
        refine gJ_get fX11_19 dX11_group_168 (by first | with_reducible assumption | with_reducible exact gUp_s | with_reducible exact gUp_n (by with_reducible assumption) (by omega) | exact gUp_n (by assumption) (by omega) | exact gUp_s | assumption) rfl ?_
        refine gJ_get fX11_37 dX11_group_171 (by first | with_reducible assumption | with_reducible exact gUp_s | with_reducible exact gUp_n (by with_reducible assumption) (by omega) | exact gUp_n (by assumption) (by omega) | exact gUp_s | assumption) rfl ?_
        refine gJ_callV (As := [_, _, _]) b_X2_nextMinute lX11_251 i_X2_nextMinute s_X2_nextMinute dX11_group_174 (hNx) g0 rfl rfl (Nat.le_of_ble_eq_true rfl) rfl (by decide) (fun M174 v_ h174 => ?_)
        obtain ⟨e_, rfl⟩ := h174
        replace e_ := e_.symm
        subst e_
        refine gJ_iret dX11_group_177 rfl ?_
        exact ⟨hF, hX, by rw [if_neg (by decide), if_neg (by decide), if_neg (by decide), if_neg (by decide)]; rfl⟩
    · have hA : aGroup (V, S) (nI j) x = -1 := by rw [aGroup, if_neg (by rw [Bool.and_eq_true]; exact fun h => hx h.2)]
      have ho : x.toInt < 0 ∨ 4 < x.toInt := by
        apply Classical.byContradiction
        intro hn
        apply hx
        have e1 : (0 : Int32).toInt = 0 := by decide
        have e2 : (4 : Int32).toInt = 4 := by decide
        rw [mIn, Bool.and_eq_true, decide_eq_true_eq, decide_eq_true_eq, Int32.le_iff_toInt_le, Int32.le_iff_toInt_le, e1, e2]
        omega
      rw [hA]
      refine gJ_tableOut (tgt := 178) dX11_group_38 ho (by decide) ?_
      refine gJ_iconst (v := -1) dX11_group_178 (by decide) ?_
      refine gJ_iret dX11_group_179 rfl ?_
      exact ⟨hF, hX, rfl⟩
  refine gCon_of (by decide) (Nat.le_of_ble_eq_true rfl) ?_
  show gJ _ _ _ _ _ _ 0 [(0, _), (1, _), (2, _)] [] _
  refine gJ_iload_n dX11_group_0 rfl rfl ?_
  refine gJ_if_lt (tgt := 11) dX11_group_1 (by decide) (fun c1 => ?_) (fun c1 => ?_)
  · refine gJ_iconst (v := -1) dX11_group_11 (by decide) ?_
    refine gJ_iret dX11_group_12 rfl ?_
    rw [out (by rw [mIn, decide_eq_false (Int32.not_le.mpr c1), Bool.false_and])]
    exact ⟨gFr_r, h', rfl⟩
  · refine gJ_iload_n dX11_group_4 rfl rfl ?_
    refine gJ_sipush (v := 128) dX11_group_5 (by decide) ?_
    refine gJ_icmp_lt (tgt := 13) dX11_group_8 (by decide) (fun c8 => ?_) (fun c8 => ?_)
    · obtain ⟨j, hj1, hj2⟩ := nI_of c1
      subst hj2
      have hj : j < 128 := (nI_ltI (b := 128) (by omega) (by decide)).mp c8
      refine gJ_aload_n dX11_group_13 rfl rfl ?_
      refine gJ_get fX11_19 dX11_group_14 (by first | with_reducible assumption | with_reducible exact gUp_s | with_reducible exact gUp_n (by with_reducible assumption) (by omega) | exact gUp_n (by assumption) (by omega) | exact gUp_s | assumption) rfl ?_
      refine gJ_get fX11_145 dX11_group_17 (by first | with_reducible assumption | with_reducible exact gUp_s | with_reducible exact gUp_n (by with_reducible assumption) (by omega) | exact gUp_n (by assumption) (by omega) | exact gUp_s | assumption) rfl ?_
      refine gJ_aload_n dX11_group_20 rfl rfl ?_
      refine gJ_get fX11_19 dX11_group_21 (by first | with_reducible assumption | with_reducible exact gUp_s | with_reducible exact gUp_n (by with_reducible assumption) (by omega) | exact gUp_n (by assumption) (by omega) | exact gUp_s | assumption) rfl ?_
      refine gJ_callV (As := []) b_X9_active lX11_193 i_X9_active s_X9_active dX11_group_24 (hAct) (by first | with_reducible assumption | with_reducible exact gUp_s | with_reducible exact gUp_n (by with_reducible assumption) (by omega) | exact gUp_n (by assumption) (by omega) | exact gUp_s | assumption) rfl rfl (Nat.le_of_ble_eq_true rfl) rfl (by decide) (fun M24 v_ h24 => ?_)
      obtain ⟨e_, rfl⟩ := h24
      replace e_ := e_.symm
      subst e_
      refine gJ_aload_n dX11_group_27 rfl rfl ?_
      refine gJ_get fX11_19 dX11_group_28 (by first | with_reducible assumption | with_reducible exact gUp_s | with_reducible exact gUp_n (by with_reducible assumption) (by omega) | exact gUp_n (by assumption) (by omega) | exact gUp_s | assumption) rfl ?_
      refine gJ_get fX11_37 dX11_group_31 (by first | with_reducible assumption | with_reducible exact gUp_s | with_reducible exact gUp_n (by with_reducible assumption) (by omega) | exact gUp_n (by assumption) (by omega) | exact gUp_s | assumption) rfl ?_
      refine gJ_callV (As := [_, _]) b_X2_sort lX11_229 i_X2_sort s_X2_sort dX11_group_34 (hSo) hog rfl rfl (Nat.le_of_ble_eq_true rfl) rfl (by decide) (fun M34 v_ h34 => ?_)
      obtain ⟨hf34, ⟨D2, hG34, hD2⟩, rfl⟩ := h34
      refine gJ_iload_n dX11_group_37 rfl rfl ?_
      exact gJ_ls (sw M34 D2 j hj hf34 hG34 hD2) ⟨rfl, rfl, rfl, trivial⟩
    · refine gJ_iconst (v := -1) dX11_group_11 (by decide) ?_
      refine gJ_iret dX11_group_12 rfl ?_
      rw [out (by rw [mIn, decide_eq_false (fun h => c8 (e128.mpr h)), Bool.and_false])]
      exact ⟨gFr_r, h', rfl⟩
end CLS
