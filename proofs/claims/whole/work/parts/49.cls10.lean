/-! THE CLASS' GROUPS at p: open p+1, sentAt p+2, sentMembers p+3, members p+4 -/
def cGr (p : Nat) : gE := gO 1 [.ref (p + 1), .ref (p + 2), .ref (p + 3), .ref (p + 4)]
def cOpen (V : Nat → Int32) : Nat → Int32 := fun k => if k < 128 then V (1586 + 2 * k) else 0
theorem cOpen_at {V : Nat → Int32} {k : Nat} (h : k < 128) : cOpen V k = V (1586 + 2 * k) := if_pos h
def cRG (M : gM) (p : Nat) (V : Nat → Int32) (S D : Nat → Int64) : Prop := ∃ A B, M.1 p = some (cGr p) ∧ M.1 (p + 1) = some (gZ 128 (cOpen V)) ∧ M.1 (p + 2) = some (gI 128 A) ∧ M.1 (p + 3) = some (gL 128 B) ∧ M.1 (p + 4) = some (gL 128 D) ∧ ∀ k, k < 128 → V (1586 + 2 * k) = 1 → A k = V (1586 + 2 * k + 1) ∧ B k = S k ∧ ∃ L, L ≤ 200000 ∧ A k = nI L
theorem cRG_fr {M M2 : gM} {p b n : Nat} {V : Nat → Int32} {S D : Nat → Int64} (h : cRG M p V S D) (hf : gFr M M2 b n) (hd : p + 5 ≤ b ∨ b + n ≤ p) : cRG M2 p V S D := by
  obtain ⟨A, B, h0, h1, h2, h3, h4, h5⟩ := h
  exact ⟨A, B, gFr_g hf h0 (by omega), gFr_g hf h1 (by omega), gFr_g hf h2 (by omega), gFr_g hf h3 (by omega), gFr_g hf h4 (by omega), h5⟩
theorem cRG_V {M : gM} {p : Nat} {V W : Nat → Int32} {S D : Nat → Int64} (h : cRG M p V S D) (hW : ∀ i, 1586 ≤ i → i < 1842 → W i = V i) : cRG M p W S D := by
  obtain ⟨A, B, h0, h1, h2, h3, h4, h5⟩ := h
  have e : cOpen W = cOpen V := by
    funext k
    unfold cOpen
    by_cases hk : k < 128
    · rw [if_pos hk, if_pos hk, hW _ (by omega) (by omega)]
    · rw [if_neg hk, if_neg hk]
  refine ⟨A, B, h0, by rw [e]; exact h1, h2, h3, h4, fun k hk ho => ?_⟩
  rw [hW _ (by omega) (by omega)] at ho ⊢
  exact h5 k hk ho
def cNew (V : Nat → Int32) (S D : Nat → Int64) (k : Nat) : Int64 := if V (1586 + 2 * k) = 1 then D k &&& (S k ^^^ (-1)) else D k
/-- what is due for a key; -5: nothing -/
def cDue (V : Nat → Int32) (S D : Nat → Int64) (x : Int32) (k : Nat) : Int32 := if V (1586 + 2 * k) = 1 then (if D k = 0 then 3 else if ¬ D k &&& (S k ^^^ (-1)) = 0 ∧ ¬ x - V (1586 + 2 * k + 1) < V 1842 then 1 else if x - V (1586 + 2 * k + 1) < V 1843 then -5 else 2) else (if D k = 0 then -5 else 0)
theorem cOp {V : Nat → Int32} (hI : mI V) {k : Nat} (hk : k < 128) : V (1586 + 2 * k) = 0 ∨ V (1586 + 2 * k) = 1 := by
  obtain ⟨x, h1, h2⟩ := hI.2.2.2.2.2.2.1 k hk
  rw [h2]
  rcases (show x = 0 ∨ x = 1 by omega) with rfl | rfl
  · exact Or.inl rfl
  · exact Or.inr rfl
section CLS
variable {G : gG} {M : gM} {p E p2 : Nat} {V : Nat → Int32} {S D : Nat → Int64}
theorem c2_newcomers (h : cRG M p V S D) (hI : mI V) (k : Nat) (hk : k < 128) : gCon G kX2_newcomers 0 0 0 M [.ref p, .int (nI k)] (fun M2 v => M2 = M ∧ v = some (.long (cNew V S D k))) := by
  obtain ⟨A, B, h0, h1, h2, h3, h4, h5⟩ := h
  refine gCon_of (by decide) (Nat.le_of_ble_eq_true rfl) ?_
  rcases cOp hI hk with ho | ho
  · have e : cOpen V k = nI 0 := (cOpen_at hk).trans ho
    show gJ _ _ _ _ _ _ 0 [(0, _), (1, _)] [] _
    refine gJ_aload_n dX2_newcomers_0 rfl rfl ?_
    refine gJ_get fX2_9 dX2_newcomers_1 (by first | with_reducible assumption | with_reducible exact gUp_s | with_reducible exact gUp_n (by with_reducible assumption) (by omega) | exact gUp_n (by assumption) (by omega) | exact gUp_s | assumption) rfl ?_
    refine gJ_iload_n dX2_newcomers_4 rfl rfl ?_
    refine gJ_zaldN (j := k) dX2_newcomers_5 (by first | with_reducible assumption | with_reducible exact gUp_s | with_reducible exact gUp_n (by with_reducible assumption) (by omega) | exact gUp_n (by assumption) (by omega) | exact gUp_s | assumption) (by first | with_reducible rfl | rfl) (by omega) (by decide) ?_
    rw [e]
    refine gJ_if_eqN (tgt := 29) (a := 0) (by first | with_reducible rfl | rfl) (by omega) dX2_newcomers_6 (by decide) (fun _ => ?_) (fun c_ => by exfalso; omega)
    refine gJ_aload_n dX2_newcomers_29 rfl rfl ?_
    refine gJ_get fX2_23 dX2_newcomers_30 (by first | with_reducible assumption | with_reducible exact gUp_s | with_reducible exact gUp_n (by with_reducible assumption) (by omega) | exact gUp_n (by assumption) (by omega) | exact gUp_s | assumption) rfl ?_
    refine gJ_iload_n dX2_newcomers_33 rfl rfl ?_
    refine gJ_laldN (j := k) dX2_newcomers_34 (by first | with_reducible assumption | with_reducible exact gUp_s | with_reducible exact gUp_n (by with_reducible assumption) (by omega) | exact gUp_n (by assumption) (by omega) | exact gUp_s | assumption) (by first | with_reducible rfl | rfl) (by omega) (by decide) ?_
    refine gJ_lret dX2_newcomers_35 rfl ?_
    refine ⟨rfl, ?_⟩
    rw [cNew, if_neg (by rw [ho]; decide)]
  · have e : cOpen V k = nI 1 := (cOpen_at hk).trans ho
    show gJ _ _ _ _ _ _ 0 [(0, _), (1, _)] [] _
    refine gJ_aload_n dX2_newcomers_0 rfl rfl ?_
    refine gJ_get fX2_9 dX2_newcomers_1 (by first | with_reducible assumption | with_reducible exact gUp_s | with_reducible exact gUp_n (by with_reducible assumption) (by omega) | exact gUp_n (by assumption) (by omega) | exact gUp_s | assumption) rfl ?_
    refine gJ_iload_n dX2_newcomers_4 rfl rfl ?_
    refine gJ_zaldN (j := k) dX2_newcomers_5 (by first | with_reducible assumption | with_reducible exact gUp_s | with_reducible exact gUp_n (by with_reducible assumption) (by omega) | exact gUp_n (by assumption) (by omega) | exact gUp_s | assumption) (by first | with_reducible rfl | rfl) (by omega) (by decide) ?_
    rw [e]
    refine gJ_if_eqN (tgt := 29) (a := 1) (by first | with_reducible rfl | rfl) (by omega) dX2_newcomers_6 (by decide) (fun c_ => by exfalso; omega) (fun _ => ?_)
    refine gJ_aload_n dX2_newcomers_9 rfl rfl ?_
    refine gJ_get fX2_23 dX2_newcomers_10 (by first | with_reducible assumption | with_reducible exact gUp_s | with_reducible exact gUp_n (by with_reducible assumption) (by omega) | exact gUp_n (by assumption) (by omega) | exact gUp_s | assumption) rfl ?_
    refine gJ_iload_n dX2_newcomers_13 rfl rfl ?_
    refine gJ_laldN (j := k) dX2_newcomers_14 (by first | with_reducible assumption | with_reducible exact gUp_s | with_reducible exact gUp_n (by with_reducible assumption) (by omega) | exact gUp_n (by assumption) (by omega) | exact gUp_s | assumption) (by first | with_reducible rfl | rfl) (by omega) (by decide) ?_
    refine gJ_aload_n dX2_newcomers_15 rfl rfl ?_
    refine gJ_get fX2_19 dX2_newcomers_16 (by first | with_reducible assumption | with_reducible exact gUp_s | with_reducible exact gUp_n (by with_reducible assumption) (by omega) | exact gUp_n (by assumption) (by omega) | exact gUp_s | assumption) rfl ?_
    refine gJ_iload_n dX2_newcomers_19 rfl rfl ?_
    refine gJ_laldN (j := k) dX2_newcomers_20 (by first | with_reducible assumption | with_reducible exact gUp_s | with_reducible exact gUp_n (by with_reducible assumption) (by omega) | exact gUp_n (by assumption) (by omega) | exact gUp_s | assumption) (by first | with_reducible rfl | rfl) (by omega) (by decide) ?_
    refine gJ_ldc2 (v := -1) dX2_newcomers_21 cX2_40 ?_
    refine gJ_lxor dX2_newcomers_24 ?_
    refine gJ_land dX2_newcomers_25 ?_
    refine gJ_goto (tgt := 35) dX2_newcomers_26 (by decide) ?_
    refine gJ_lret dX2_newcomers_35 rfl ?_
    refine ⟨rfl, ?_⟩
    rw [cNew, if_pos ho, (h5 k hk ho).2.1]
set_option maxRecDepth 20000 in
theorem c2_dueKind (h : cRG M p V S D) (hS : M.1 p2 = some (cSu p2)) (h7 : M.1 (p2 + 7) = some (gI 5 (cPar V))) (hI : mI V) (k : Nat) (hk : k < 128) (x : Int32) : gCon G kX2_dueKind 1 0 0 M [.ref p, .int (nI k), .int x, .ref p2] (fun M2 v => M2 = M ∧ v = some (.int (cDue V S D x k))) := by
  have hN := c2_newcomers (G := G) h hI k hk
  obtain ⟨A, B, h0, h1, h2, h3, h4, h5⟩ := h
  have p0 : cPar V 0 = V 1842 := cPar_at (by decide)
  have p1 : cPar V 1 = V 1843 := cPar_at (by decide)
  refine gCon_of (by decide) (Nat.le_of_ble_eq_true rfl) ?_
  rcases cOp hI hk with ho | ho
  · have e : cOpen V k = nI 0 := (cOpen_at hk).trans ho
    have hD : cDue V S D x k = if D k = 0 then -5 else 0 := by rw [cDue, if_neg (by rw [ho]; decide)]
    show gJ _ _ _ _ _ _ 0 [(0, _), (1, _), (2, _), (3, _)] [] _
    refine gJ_aload_n dX2_dueKind_0 rfl rfl ?_
    refine gJ_get fX2_9 dX2_dueKind_1 (by first | with_reducible assumption | with_reducible exact gUp_s | with_reducible exact gUp_n (by with_reducible assumption) (by omega) | exact gUp_n (by assumption) (by omega) | exact gUp_s | assumption) rfl ?_
    refine gJ_iload_n dX2_dueKind_4 rfl rfl ?_
    refine gJ_zaldN (j := k) dX2_dueKind_5 (by first | with_reducible assumption | with_reducible exact gUp_s | with_reducible exact gUp_n (by with_reducible assumption) (by omega) | exact gUp_n (by assumption) (by omega) | exact gUp_s | assumption) (by first | with_reducible rfl | rfl) (by omega) (by decide) ?_
    rw [e]
    refine gJ_if_neN (tgt := 27) (a := 0) (by first | with_reducible rfl | rfl) (by omega) dX2_dueKind_6 (by decide) (fun c_ => by exfalso; omega) (fun _ => ?_)
    refine gJ_aload_n dX2_dueKind_9 rfl rfl ?_
    refine gJ_get fX2_23 dX2_dueKind_10 (by first | with_reducible assumption | with_reducible exact gUp_s | with_reducible exact gUp_n (by with_reducible assumption) (by omega) | exact gUp_n (by assumption) (by omega) | exact gUp_s | assumption) rfl ?_
    refine gJ_iload_n dX2_dueKind_13 rfl rfl ?_
    refine gJ_laldN (j := k) dX2_dueKind_14 (by first | with_reducible assumption | with_reducible exact gUp_s | with_reducible exact gUp_n (by with_reducible assumption) (by omega) | exact gUp_n (by assumption) (by omega) | exact gUp_s | assumption) (by first | with_reducible rfl | rfl) (by omega) (by decide) ?_
    refine gJ_lconst (v := 0) dX2_dueKind_15 (by decide) ?_
    refine gJ_lcmp dX2_dueKind_16 ?_
    refine gJ_if_ne (tgt := 25) dX2_dueKind_17 (by decide) (fun c17 => ?_) (fun c17 => ?_)
    · refine gJ_iconst (v := 0) dX2_dueKind_25 (by decide) ?_
      refine gJ_iret dX2_dueKind_26 rfl ?_
      refine ⟨rfl, ?_⟩
      rw [hD, if_neg (fun h => c17 ((lg_cmp_eq _ _).mpr h))]
    · refine gJ_bipush (v := -5) dX2_dueKind_20 (by decide) ?_
      refine gJ_goto (tgt := 26) dX2_dueKind_22 (by decide) ?_
      refine gJ_iret dX2_dueKind_26 rfl ?_
      refine ⟨rfl, ?_⟩
      rw [hD, if_pos ((lg_cmp_eq _ _).mp c17)]
  · have e : cOpen V k = nI 1 := (cOpen_at hk).trans ho
    have eA := (h5 k hk ho).1
    have hD : cDue V S D x k = (if D k = 0 then 3 else if ¬ D k &&& (S k ^^^ (-1)) = 0 ∧ ¬ x - V (1586 + 2 * k + 1) < V 1842 then 1 else if x - V (1586 + 2 * k + 1) < V 1843 then -5 else 2) := by rw [cDue, if_pos ho]
    have hC : cNew V S D k = D k &&& (S k ^^^ (-1)) := by rw [cNew, if_pos ho]
    rw [hC] at hN
    show gJ _ _ _ _ _ _ 0 [(0, _), (1, _), (2, _), (3, _)] [] _
    refine gJ_aload_n dX2_dueKind_0 rfl rfl ?_
    refine gJ_get fX2_9 dX2_dueKind_1 (by first | with_reducible assumption | with_reducible exact gUp_s | with_reducible exact gUp_n (by with_reducible assumption) (by omega) | exact gUp_n (by assumption) (by omega) | exact gUp_s | assumption) rfl ?_
    refine gJ_iload_n dX2_dueKind_4 rfl rfl ?_
    refine gJ_zaldN (j := k) dX2_dueKind_5 (by first | with_reducible assumption | with_reducible exact gUp_s | with_reducible exact gUp_n (by with_reducible assumption) (by omega) | exact gUp_n (by assumption) (by omega) | exact gUp_s | assumption) (by first | with_reducible rfl | rfl) (by omega) (by decide) ?_
    rw [e]
    refine gJ_if_neN (tgt := 27) (a := 1) (by first | with_reducible rfl | rfl) (by omega) dX2_dueKind_6 (by decide) (fun _ => ?_) (fun c_ => by exfalso; omega)
    refine gJ_aload_n dX2_dueKind_27 rfl rfl ?_
    refine gJ_get fX2_23 dX2_dueKind_28 (by first | with_reducible assumption | with_reducible exact gUp_s | with_reducible exact gUp_n (by with_reducible assumption) (by omega) | exact gUp_n (by assumption) (by omega) | exact gUp_s | assumption) rfl ?_
    refine gJ_iload_n dX2_dueKind_31 rfl rfl ?_
    refine gJ_laldN (j := k) dX2_dueKind_32 (by first | with_reducible assumption | with_reducible exact gUp_s | with_reducible exact gUp_n (by with_reducible assumption) (by omega) | exact gUp_n (by assumption) (by omega) | exact gUp_s | assumption) (by first | with_reducible rfl | rfl) (by omega) (by decide) ?_
    refine gJ_lconst (v := 0) dX2_dueKind_33 (by decide) ?_
    refine gJ_lcmp dX2_dueKind_34 ?_
    refine gJ_if_ne (tgt := 40) dX2_dueKind_35 (by decide) (fun c35 => ?_) (fun c35 => ?_)
    · refine gJ_iload_n dX2_dueKind_40 rfl rfl ?_
      refine gJ_aload_n dX2_dueKind_41 rfl rfl ?_
      refine gJ_get fX2_15 dX2_dueKind_42 (by first | with_reducible assumption | with_reducible exact gUp_s | with_reducible exact gUp_n (by with_reducible assumption) (by omega) | exact gUp_n (by assumption) (by omega) | exact gUp_s | assumption) rfl ?_
      refine gJ_iload_n dX2_dueKind_45 rfl rfl ?_
      refine gJ_ialdN (j := k) dX2_dueKind_46 (by first | with_reducible assumption | with_reducible exact gUp_s | with_reducible exact gUp_n (by with_reducible assumption) (by omega) | exact gUp_n (by assumption) (by omega) | exact gUp_s | assumption) (by first | with_reducible rfl | rfl) (by omega) (by decide) ?_
      rw [eA]
      refine gJ_isub dX2_dueKind_47 ?_
      refine gJ_istore (lv2 := [(4, _), (0, _), (1, _), (2, _), (3, _)]) dX2_dueKind_48 rfl rfl ?_
      refine gJ_aload_n dX2_dueKind_50 rfl rfl ?_
      refine gJ_iload_n dX2_dueKind_51 rfl rfl ?_
      refine gJ_callV (As := [_]) b_X2_newcomers lX2_42 i_X2_newcomers s_X2_newcomers dX2_dueKind_52 (hN) (by first | with_reducible assumption | with_reducible exact gUp_s | with_reducible exact gUp_n (by with_reducible assumption) (by omega) | exact gUp_n (by assumption) (by omega) | exact gUp_s | assumption) rfl rfl (Nat.le_of_ble_eq_true rfl) rfl (by decide) (fun M52 v_ h52 => ?_)
      obtain ⟨e_, rfl⟩ := h52
      replace e_ := e_.symm
      subst e_
      refine gJ_lconst (v := 0) dX2_dueKind_55 (by decide) ?_
      refine gJ_lcmp dX2_dueKind_56 ?_
      refine gJ_if_eq (tgt := 73) dX2_dueKind_57 (by decide) (fun c57 => ?_) (fun c57 => ?_)
      · refine gJ_iload dX2_dueKind_73 rfl ?_
        refine gJ_aload_n dX2_dueKind_75 rfl rfl ?_
        refine gJ_get fX2_46 dX2_dueKind_76 (by first | with_reducible assumption | with_reducible exact gUp_s | with_reducible exact gUp_n (by with_reducible assumption) (by omega) | exact gUp_n (by assumption) (by omega) | exact gUp_s | assumption) rfl ?_
        refine gJ_iconst (v := 1) dX2_dueKind_79 (by decide) ?_
        refine gJ_ialdN (j := 1) dX2_dueKind_80 (by first | with_reducible assumption | with_reducible exact gUp_s | with_reducible exact gUp_n (by with_reducible assumption) (by omega) | exact gUp_n (by assumption) (by omega) | exact gUp_s | assumption) (by first | with_reducible rfl | rfl) (by omega) (by decide) ?_
        rw [p1]
        refine gJ_icmp_lt (tgt := 88) dX2_dueKind_81 (by decide) (fun c81 => ?_) (fun c81 => ?_)
        · refine gJ_bipush (v := -5) dX2_dueKind_88 (by decide) ?_
          refine gJ_iret dX2_dueKind_90 rfl ?_
          refine ⟨rfl, ?_⟩
          rw [hD, if_neg (fun h => c35 ((lg_cmp_eq _ _).mpr h)), if_neg (fun h => h.1 ((lg_cmp_eq _ _).mp c57)), if_pos c81]
        · refine gJ_iconst (v := 2) dX2_dueKind_84 (by decide) ?_
          refine gJ_goto (tgt := 90) dX2_dueKind_85 (by decide) ?_
          refine gJ_iret dX2_dueKind_90 rfl ?_
          refine ⟨rfl, ?_⟩
          rw [hD, if_neg (fun h => c35 ((lg_cmp_eq _ _).mpr h)), if_neg (fun h => h.1 ((lg_cmp_eq _ _).mp c57)), if_neg c81]
      · refine gJ_iload dX2_dueKind_60 rfl ?_
        refine gJ_aload_n dX2_dueKind_62 rfl rfl ?_
        refine gJ_get fX2_46 dX2_dueKind_63 (by first | with_reducible assumption | with_reducible exact gUp_s | with_reducible exact gUp_n (by with_reducible assumption) (by omega) | exact gUp_n (by assumption) (by omega) | exact gUp_s | assumption) rfl ?_
        refine gJ_iconst (v := 0) dX2_dueKind_66 (by decide) ?_
        refine gJ_ialdN (j := 0) dX2_dueKind_67 (by first | with_reducible assumption | with_reducible exact gUp_s | with_reducible exact gUp_n (by with_reducible assumption) (by omega) | exact gUp_n (by assumption) (by omega) | exact gUp_s | assumption) (by first | with_reducible rfl | rfl) (by omega) (by decide) ?_
        rw [p0]
        refine gJ_icmp_lt (tgt := 73) dX2_dueKind_68 (by decide) (fun c68 => ?_) (fun c68 => ?_)
        · refine gJ_iload dX2_dueKind_73 rfl ?_
          refine gJ_aload_n dX2_dueKind_75 rfl rfl ?_
          refine gJ_get fX2_46 dX2_dueKind_76 (by first | with_reducible assumption | with_reducible exact gUp_s | with_reducible exact gUp_n (by with_reducible assumption) (by omega) | exact gUp_n (by assumption) (by omega) | exact gUp_s | assumption) rfl ?_
          refine gJ_iconst (v := 1) dX2_dueKind_79 (by decide) ?_
          refine gJ_ialdN (j := 1) dX2_dueKind_80 (by first | with_reducible assumption | with_reducible exact gUp_s | with_reducible exact gUp_n (by with_reducible assumption) (by omega) | exact gUp_n (by assumption) (by omega) | exact gUp_s | assumption) (by first | with_reducible rfl | rfl) (by omega) (by decide) ?_
          rw [p1]
          refine gJ_icmp_lt (tgt := 88) dX2_dueKind_81 (by decide) (fun c81 => ?_) (fun c81 => ?_)
          · refine gJ_bipush (v := -5) dX2_dueKind_88 (by decide) ?_
            refine gJ_iret dX2_dueKind_90 rfl ?_
            refine ⟨rfl, ?_⟩
            rw [hD, if_neg (fun h => c35 ((lg_cmp_eq _ _).mpr h)), if_neg (fun h => h.2 c68), if_pos c81]
          · refine gJ_iconst (v := 2) dX2_dueKind_84 (by decide) ?_
            refine gJ_goto (tgt := 90) dX2_dueKind_85 (by decide) ?_
            refine gJ_iret dX2_dueKind_90 rfl ?_
            refine ⟨rfl, ?_⟩
            rw [hD, if_neg (fun h => c35 ((lg_cmp_eq _ _).mpr h)), if_neg (fun h => h.2 c68), if_neg c81]
        · refine gJ_iconst (v := 1) dX2_dueKind_71 (by decide) ?_
          refine gJ_iret dX2_dueKind_72 rfl ?_
          refine ⟨rfl, ?_⟩
          rw [hD, if_neg (fun h => c35 ((lg_cmp_eq _ _).mpr h)), if_pos ⟨fun h => c57 ((lg_cmp_eq _ _).mpr h), c68⟩]
    · refine gJ_iconst (v := 3) dX2_dueKind_38 (by decide) ?_
      refine gJ_iret dX2_dueKind_39 rfl ?_
      refine ⟨rfl, ?_⟩
      rw [hD, if_pos ((lg_cmp_eq _ _).mp c35)]
theorem mSnd_op {V : Nat → Int32} {key kind k : Nat} {x : Int64} (hk : k < 128) : mSnd V key kind x (1586 + 2 * k) = if k = key then (if kind = 3 then 0 else 1) else V (1586 + 2 * k) := by
  unfold mSnd
  rw [if_neg (by omega), if_neg (by omega), if_neg (by omega), if_neg (by omega), if_neg (by omega), if_neg (by omega), if_neg (by omega)]
  by_cases e : k = key
  · rw [if_pos (by omega), if_pos e]
  · rw [if_neg (by omega), if_neg (by omega), if_neg e]
theorem mSnd_at {V : Nat → Int32} {key kind k : Nat} {x : Int64} (hk : k < 128) : mSnd V key kind x (1586 + 2 * k + 1) = if k = key then V 1847 else V (1586 + 2 * k + 1) := by
  unfold mSnd
  rw [if_neg (by omega), if_neg (by omega), if_neg (by omega), if_neg (by omega), if_neg (by omega), if_neg (by omega), if_neg (by omega), if_neg (by omega)]
  by_cases e : k = key
  · rw [if_pos (by omega), if_pos e]
  · rw [if_neg (by omega), if_neg e]
set_option maxRecDepth 20000 in
theorem c2_markSent (h : cRG M p V S D) (hT : ∃ t, t ≤ 200000 ∧ V 1847 = nI t) (k kind : Nat) (hk : k < 128) (hkd : kind < 4) : gCon G kX2_markSent 0 0 0 M [.ref p, .int (nI k), .int (nI kind), .int (V 1847)] (fun M2 v => gFr M M2 p 5 ∧ cRG M2 p (mSnd V k kind (D k)) (vp_updL S k (D k)) D ∧ v = none) := by
  obtain ⟨A, B, h0, h1, h2, h3, h4, h5⟩ := h
  have fin : ∀ (M2 : gM) (o : Int32), o = (if kind = 3 then 0 else 1) → gFr M M2 p 5 → M2.1 p = some (cGr p) → M2.1 (p + 1) = some (gZ 128 (upd (cOpen V) k o)) → M2.1 (p + 2) = some (gI 128 (upd A k (V 1847))) → M2.1 (p + 3) = some (gL 128 (vp_updL B k (D k))) → M2.1 (p + 4) = some (gL 128 D) → gFr M M2 p 5 ∧ cRG M2 p (mSnd V k kind (D k)) (vp_updL S k (D k)) D ∧ (none : Option Value) = none := by
    intro M2 o ho hf g0 g1 g2 g3 g4
    refine ⟨hf, ⟨_, _, g0, ?_, g2, g3, g4, fun j hj hv => ?_⟩, rfl⟩
    · rw [g1]
      congr 2
      congr 3
      funext j
      unfold cOpen
      by_cases hj : j < 128
      · rw [if_pos hj, mSnd_op hj]
        by_cases e : j = k
        · subst e; rw [pk_us, if_pos rfl, ho]
        · rw [pk_un e, if_neg e, if_pos hj]
      · rw [if_neg hj, pk_un (by omega), if_neg hj]
    · rw [mSnd_op hj] at hv
      rw [mSnd_at hj]
      by_cases e : j = k
      · subst e; rw [pk_us, pk_uLs, pk_uLs, if_pos rfl]; exact ⟨rfl, rfl, hT⟩
      · rw [if_neg e] at hv ⊢
        rw [pk_un e, pk_uLn e, pk_uLn e]
        exact h5 j hj hv
  refine gCon_of (by decide) (Nat.le_of_ble_eq_true rfl) ?_
  show gJ _ _ _ _ _ _ 0 [(0, _), (1, _), (2, _), (3, _)] [] _
  refine gJ_aload_n dX2_markSent_0 rfl rfl ?_
  refine gJ_get fX2_9 dX2_markSent_1 (by repeat (first | exact gUp_s | assumption | refine gUp_n ?_ (by omega))) rfl ?_
  refine gJ_iload_n dX2_markSent_4 rfl rfl ?_
  refine gJ_iload_n dX2_markSent_5 rfl rfl ?_
  refine gJ_iconst (v := 3) dX2_markSent_6 (by decide) ?_
  refine gJ_icmp_eqN (tgt := 14) (a := kind) (b := 3) (by first | with_reducible rfl | rfl) (by first | with_reducible rfl | rfl) (by omega) (by omega) dX2_markSent_7 (by decide) (fun c7 => ?_) (fun c7 => ?_)
  · refine gJ_iconst (v := 0) dX2_markSent_14 (by decide) ?_
    refine gJ_zastN (j := k) dX2_markSent_15 (by repeat (first | exact gUp_s | assumption | refine gUp_n ?_ (by omega))) (by first | with_reducible rfl | rfl) (by omega) (by decide) (by decide) ?_
    try rw [gUp_up]
    refine gJ_aload_n dX2_markSent_16 rfl rfl ?_
    refine gJ_get fX2_15 dX2_markSent_17 (by repeat (first | exact gUp_s | assumption | refine gUp_n ?_ (by omega))) rfl ?_
    refine gJ_iload_n dX2_markSent_20 rfl rfl ?_
    refine gJ_iload_n dX2_markSent_21 rfl rfl ?_
    refine gJ_iastN (j := k) dX2_markSent_22 (by repeat (first | exact gUp_s | assumption | refine gUp_n ?_ (by omega))) (by first | with_reducible rfl | rfl) (by omega) (by decide) ?_
    try rw [gUp_up]
    refine gJ_aload_n dX2_markSent_23 rfl rfl ?_
    refine gJ_get fX2_19 dX2_markSent_24 (by repeat (first | exact gUp_s | assumption | refine gUp_n ?_ (by omega))) rfl ?_
    refine gJ_iload_n dX2_markSent_27 rfl rfl ?_
    refine gJ_aload_n dX2_markSent_28 rfl rfl ?_
    refine gJ_get fX2_23 dX2_markSent_29 (by repeat (first | exact gUp_s | assumption | refine gUp_n ?_ (by omega))) rfl ?_
    refine gJ_iload_n dX2_markSent_32 rfl rfl ?_
    refine gJ_laldN (j := k) dX2_markSent_33 (by repeat (first | exact gUp_s | assumption | refine gUp_n ?_ (by omega))) (by first | with_reducible rfl | rfl) (by omega) (by decide) ?_
    refine gJ_lastN (j := k) dX2_markSent_34 (by repeat (first | exact gUp_s | assumption | refine gUp_n ?_ (by omega))) (by first | with_reducible rfl | rfl) (by omega) (by decide) ?_
    try rw [gUp_up]
    refine gJ_vret dX2_markSent_35 rfl ?_
    exact fin _ 0 (by rw [if_pos c7]) (by repeat (first | exact gFr_r | refine gFr_u ?_ (by omega))) (by repeat (first | exact gUp_s | assumption | refine gUp_n ?_ (by omega))) (by repeat (first | exact gUp_s | assumption | refine gUp_n ?_ (by omega))) (by repeat (first | exact gUp_s | assumption | refine gUp_n ?_ (by omega))) (by repeat (first | exact gUp_s | assumption | refine gUp_n ?_ (by omega))) (by repeat (first | exact gUp_s | assumption | refine gUp_n ?_ (by omega)))
  · refine gJ_iconst (v := 1) dX2_markSent_10 (by decide) ?_
    refine gJ_goto (tgt := 15) dX2_markSent_11 (by decide) ?_
    refine gJ_zastN (j := k) dX2_markSent_15 (by repeat (first | exact gUp_s | assumption | refine gUp_n ?_ (by omega))) (by first | with_reducible rfl | rfl) (by omega) (by decide) (by decide) ?_
    try rw [gUp_up]
    refine gJ_aload_n dX2_markSent_16 rfl rfl ?_
    refine gJ_get fX2_15 dX2_markSent_17 (by repeat (first | exact gUp_s | assumption | refine gUp_n ?_ (by omega))) rfl ?_
    refine gJ_iload_n dX2_markSent_20 rfl rfl ?_
    refine gJ_iload_n dX2_markSent_21 rfl rfl ?_
    refine gJ_iastN (j := k) dX2_markSent_22 (by repeat (first | exact gUp_s | assumption | refine gUp_n ?_ (by omega))) (by first | with_reducible rfl | rfl) (by omega) (by decide) ?_
    try rw [gUp_up]
    refine gJ_aload_n dX2_markSent_23 rfl rfl ?_
    refine gJ_get fX2_19 dX2_markSent_24 (by repeat (first | exact gUp_s | assumption | refine gUp_n ?_ (by omega))) rfl ?_
    refine gJ_iload_n dX2_markSent_27 rfl rfl ?_
    refine gJ_aload_n dX2_markSent_28 rfl rfl ?_
    refine gJ_get fX2_23 dX2_markSent_29 (by repeat (first | exact gUp_s | assumption | refine gUp_n ?_ (by omega))) rfl ?_
    refine gJ_iload_n dX2_markSent_32 rfl rfl ?_
    refine gJ_laldN (j := k) dX2_markSent_33 (by repeat (first | exact gUp_s | assumption | refine gUp_n ?_ (by omega))) (by first | with_reducible rfl | rfl) (by omega) (by decide) ?_
    refine gJ_lastN (j := k) dX2_markSent_34 (by repeat (first | exact gUp_s | assumption | refine gUp_n ?_ (by omega))) (by first | with_reducible rfl | rfl) (by omega) (by decide) ?_
    try rw [gUp_up]
    refine gJ_vret dX2_markSent_35 rfl ?_
    exact fin _ 1 (by rw [if_neg c7]) (by repeat (first | exact gFr_r | refine gFr_u ?_ (by omega))) (by repeat (first | exact gUp_s | assumption | refine gUp_n ?_ (by omega))) (by repeat (first | exact gUp_s | assumption | refine gUp_n ?_ (by omega))) (by repeat (first | exact gUp_s | assumption | refine gUp_n ?_ (by omega))) (by repeat (first | exact gUp_s | assumption | refine gUp_n ?_ (by omega))) (by repeat (first | exact gUp_s | assumption | refine gUp_n ?_ (by omega)))
set_option maxRecDepth 20000 in
theorem c2_sort (h : cRG M p V S D) (hE : p + 5 ≤ E) (hS : cRS M E p2 V) (hd : p + 5 ≤ p2 ∨ p2 + 9 ≤ p) (hI : mI V) (P : Nat → Bool) : gCon G kX2_sort 1 0 0 M [.ref p, .long (lS P 60), .ref p2] (fun M2 v => gFr M M2 p 5 ∧ (∃ D2, cRG M2 p V S D2 ∧ ∀ k, k < 128 → D2 k = mWith V (lS P 60) (nI k)) ∧ v = none) := by
  obtain ⟨A, B, h0, h1, h2, h3, h4, h5⟩ := h
  obtain ⟨X, RU, SI, IN, s0, s1, s2, s3, s4, s5, s6, s7, s8, sX, sR, -, -⟩ := hS
  have U0 : ∀ L, (gUp M (p + 4) (gL 128 L)).1 p = some (cGr p) := fun L => gUp_n h0 (by omega)
  have fin : ∀ L : Nat → Int64, (∀ k, k < 128 → L k = lS (fun a => P a && (decide (a % 12 < 12) && decide (cKey V (a % 12) = k))) 60) → gFr M (gUp M (p + 4) (gL 128 L)) p 5 ∧ (∃ D2, cRG (gUp M (p + 4) (gL 128 L)) p V S D2 ∧ ∀ k, k < 128 → D2 k = mWith V (lS P 60) (nI k)) ∧ (none : Option Value) = none := by
    intro L hL
    refine ⟨gFr_u gFr_r (by omega), ⟨L, ⟨A, B, gUp_n h0 (by omega), gUp_n h1 (by omega), gUp_n h2 (by omega), gUp_n h3 (by omega), gUp_s, h5⟩, fun k hk => ?_⟩, rfl⟩
    rw [hL k hk, mWith]
    refine lS_ext fun a ha => ?_
    unfold mKeyP
    rw [lS_b, decide_eq_true ha, Bool.true_and, decide_eq_true (Nat.mod_lt a (by decide : 0 < 12)), Bool.true_and, mKey_N hI ha]
    congr 1
    exact decide_eq_decide.mpr (nI_eq (by have := cKey_lt hI (Nat.mod_lt a (by decide : 0 < 12)); omega) (by omega)).symm
  refine gCon_of (by decide) (Nat.le_of_ble_eq_true rfl) ?_
  have second : ∀ (q s : Nat), s + q = 13 → s ≤ 12 → ∀ L : Nat → Int64, (∀ k, k < 128 → L k = lS (fun a => P a && (decide (a % 12 < s) && decide (cKey V (a % 12) = k))) 60) →
      gJ G kX2_sort 1 0 0 (gUp M (p + 4) (gL 128 L)) 28 [(4, .int (nI s)), (0, .ref p), (1, .long (lS P 60)), (3, .ref p2)] [] (gQ kX2_sort (fun M2 v => gFr M M2 p 5 ∧ (∃ D2, cRG M2 p V S D2 ∧ ∀ k, k < 128 → D2 k = mWith V (lS P 60) (nI k)) ∧ v = none)) := by
    intro q
    induction q with
    | zero => intro s h1 h2; exact absurd h1 (by omega)
    | succ q ih =>
      intro s hq hs L hL
      by_cases h12 : s < 12
      · have hky := cKey_lt hI h12
        refine gJ_iload dX2_sort_28 rfl ?_
        refine gJ_bipush (v := 12) dX2_sort_30 (by decide) ?_
        refine gJ_icmp_geN (tgt := 63) (a := s) (b := 12) (by first | with_reducible rfl | rfl) (by first | with_reducible rfl | rfl) (by omega) (by omega) dX2_sort_32 (by decide) (fun c_ => by exfalso; omega) (fun _ => ?_)
        refine gJ_aload_n dX2_sort_35 rfl rfl ?_
        refine gJ_get fX2_23 dX2_sort_36 (by first | exact U0 _ | exact gUp_s) rfl ?_
        refine gJ_aload_n dX2_sort_39 rfl rfl ?_
        refine gJ_iload dX2_sort_40 rfl ?_
        refine gJ_callV (As := [_]) b_X7_keyOf lX2_32 i_X7_keyOf s_X7_keyOf dX2_sort_42 (c7_keyOf (gUp_n s0 (by omega)) (gUp_n s1 (by omega)) (gUp_n s7 (by omega)) hI s h12) (gUp_n s0 (by omega)) rfl rfl (Nat.le_of_ble_eq_true rfl) rfl (by decide) (fun M42 v_ h42 => ?_)
        obtain ⟨e42, rfl⟩ := h42
        replace e42 := e42.symm
        subst e42
        refine gJ_dup2 dX2_sort_45 rfl rfl ?_
        refine gJ_laldN (j := (cKey V s)) dX2_sort_46 (by first | exact U0 _ | exact gUp_s) (by first | with_reducible rfl | rfl) (by omega) (by decide) ?_
        refine gJ_lload_n dX2_sort_47 rfl rfl ?_
        refine gJ_ldc2 (v := 281543712968705) dX2_sort_48 cX2_38 ?_
        refine gJ_iload dX2_sort_51 rfl ?_
        refine gJ_lshl dX2_sort_53 ?_
        refine gJ_land dX2_sort_54 ?_
        rw [cSer_b s h12, lS_and]
        refine gJ_lor dX2_sort_55 ?_
        refine gJ_lastN (j := (cKey V s)) dX2_sort_56 (by first | exact U0 _ | exact gUp_s) (by first | with_reducible rfl | rfl) (by omega) (by decide) ?_
        try rw [gUp_up]
        refine gJ_iincN (a := s) (b := 1) (lv2 := [(4, _), (0, _), (1, _), (3, _)]) dX2_sort_57 rfl rfl rfl rfl ?_
        refine gJ_goto (tgt := 28) dX2_sort_60 (by decide) ?_
        refine gJ_ls (ih (s + 1) (by omega) (by omega) _ (fun k hk => ?_)) ⟨rfl, rfl, rfl, rfl, trivial⟩
        by_cases e : k = cKey V s
        · subst e; rw [pk_uLs, hL _ hk, lS_or]; refine lS_ext (fun a _ => ?_); by_cases e2 : a % 12 = s
          · simp [e2]
          · have e3 : (a % 12 < s + 1) ↔ (a % 12 < s) := by omega
            simp [e2, e3]
        · rw [pk_uLn e, hL _ hk]; refine lS_ext (fun a _ => ?_); by_cases e2 : a % 12 = s
          · simp [e2, Ne.symm e]
          · have e3 : (a % 12 < s + 1) ↔ (a % 12 < s) := by omega
            simp [e3]
      · have e12 : s = 12 := by omega
        subst e12
        refine gJ_iload dX2_sort_28 rfl ?_
        refine gJ_bipush (v := 12) dX2_sort_30 (by decide) ?_
        refine gJ_icmp_geN (tgt := 63) (a := 12) (b := 12) (by first | with_reducible rfl | rfl) (by first | with_reducible rfl | rfl) (by omega) (by omega) dX2_sort_32 (by decide) (fun _ => ?_) (fun c_ => by exfalso; omega)
        refine gJ_vret dX2_sort_63 rfl ?_
        exact fin L hL
  have first : ∀ (q j : Nat), j + q = 129 → j ≤ 128 → ∀ L : Nat → Int64, (∀ k, k < j → L k = 0) →
      gJ G kX2_sort 1 0 0 (gUp M (p + 4) (gL 128 L)) 3 [(4, .int (nI j)), (0, .ref p), (1, .long (lS P 60)), (3, .ref p2)] [] (gQ kX2_sort (fun M2 v => gFr M M2 p 5 ∧ (∃ D2, cRG M2 p V S D2 ∧ ∀ k, k < 128 → D2 k = mWith V (lS P 60) (nI k)) ∧ v = none)) := by
    intro q
    induction q with
    | zero => intro j h1 h2; exact absurd h1 (by omega)
    | succ q ih =>
      intro j hq hj L hL
      refine gJ_iload dX2_sort_3 rfl ?_
      refine gJ_sipush (v := 128) dX2_sort_5 (by decide) ?_
      refine gJ_icmp_geN (tgt := 25) (a := j) (b := 128) (by first | with_reducible rfl | rfl) (by first | with_reducible rfl | rfl) (by omega) (by omega) dX2_sort_8 (by decide) (fun c8 => ?_) (fun c8 => ?_)
      · refine gJ_iconst (v := 0) dX2_sort_25 (by decide) ?_
        refine gJ_istore (lv2 := [(4, _), (0, _), (1, _), (3, _)]) dX2_sort_26 rfl rfl ?_
        refine gJ_ls (second 13 0 (by omega) (by omega) L (fun k hk => ?_)) ⟨rfl, rfl, rfl, rfl, trivial⟩
        rw [hL k (by omega)]
        exact (lS_0 (fun a _ => by simp)).symm
      · refine gJ_aload_n dX2_sort_11 rfl rfl ?_
        refine gJ_get fX2_23 dX2_sort_12 (by first | exact U0 _ | exact gUp_s) rfl ?_
        refine gJ_iload dX2_sort_15 rfl ?_
        refine gJ_lconst (v := 0) dX2_sort_17 (by decide) ?_
        refine gJ_lastN (j := j) dX2_sort_18 (by first | exact U0 _ | exact gUp_s) (by first | with_reducible rfl | rfl) (by omega) (by decide) ?_
        try rw [gUp_up]
        refine gJ_iincN (a := j) (b := 1) (lv2 := [(4, _), (0, _), (1, _), (3, _)]) dX2_sort_19 rfl rfl rfl rfl ?_
        refine gJ_goto (tgt := 3) dX2_sort_22 (by decide) ?_
        refine gJ_ls (ih (j + 1) (by omega) (by omega) _ (fun k hk => ?_)) ⟨rfl, rfl, rfl, rfl, trivial⟩
        by_cases e : k = j
        · subst e; exact pk_uLs
        · rw [pk_uLn e]; exact hL k (by omega)
  show gJ _ _ _ _ _ _ 0 [(0, _), (1, _), (3, _)] [] _
  refine gJ_iconst (v := 0) dX2_sort_0 (by decide) ?_
  refine gJ_istore (lv2 := [(4, _), (0, _), (1, _), (3, _)]) dX2_sort_1 rfl rfl ?_
  have L := first 129 0 (by omega) (by omega) D (fun k hk => absurd hk (by omega))
  rw [gUp_id h4] at L
  exact gJ_ls L ⟨rfl, rfl, rfl, rfl, trivial⟩
end CLS
