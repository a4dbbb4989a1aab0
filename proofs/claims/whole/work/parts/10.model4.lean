/-! THE REFERENCE WRITES: its row and its row of sets, nothing else -/
def mUp (m : Nat) (M : gM) (V : Nat → Int32) (S : Nat → Int64) : gM := gUp (gUp M (m + 1) (gI 1999 V)) (m + 4) (gL 128 S)
theorem mUp_up {m : Nat} {M : gM} {V W : Nat → Int32} {S T : Nat → Int64} : mUp m (mUp m M V S) W T = mUp m M W T := by
  unfold mUp
  rw [gUp_cm (a := m + 4) (b := m + 1) (by omega), gUp_up, gUp_up]
theorem mUp_V {m : Nat} {M : gM} {V : Nat → Int32} {S : Nat → Int64} : (mUp m M V S).1 (m + 1) = some (gI 1999 V) := gUp_n gUp_s (by omega)
theorem mUp_S {m : Nat} {M : gM} {V : Nat → Int32} {S : Nat → Int64} : (mUp m M V S).1 (m + 4) = some (gL 128 S) := gUp_s
theorem mUp_n {m : Nat} {M : gM} {V : Nat → Int32} {S : Nat → Int64} {q : Nat} {x : Option gE} (h : M.1 q = x) (h1 : q ≠ m + 1) (h2 : q ≠ m + 4) : (mUp m M V S).1 q = x := gUp_n (gUp_n h h1) h2
theorem mUp_v {m : Nat} {M : gM} {V : Nat → Int32} {S : Nat → Int64} (hS : M.1 (m + 4) = some (gL 128 S)) : gUp M (m + 1) (gI 1999 V) = mUp m M V S := (gUp_id (gUp_n hS (by omega))).symm
theorem mUp_id {m : Nat} {M : gM} {V : Nat → Int32} {S : Nat → Int64} (hV : M.1 (m + 1) = some (gI 1999 V)) (hS : M.1 (m + 4) = some (gL 128 S)) : mUp m M V S = M := by rw [← mUp_v hS, gUp_id hV]
def mTurns (V : Nat → Int32) (a : Nat) : Nat → Int32 := if V (206 + 23 * a + 2) = 20 then
    fun i => if 206 + 23 * a + 3 ≤ i ∧ i < 206 + 23 * a + 22 then V (i + 1) else if i = 206 + 23 * a + 22 then V 1847 else V i
  else fun i => if i = 206 + 23 * a + 2 then nI (mN V (206 + 23 * a + 2) + 1) else if i = 206 + 23 * a + 3 + mN V (206 + 23 * a + 2) then V 1847 else V i
def mGo (V : Nat → Int32) (a : Nat) : Nat → Int32 :=
  if mHolds V a = true then
    if V (206 + 23 * a) = 0 then
      if V 1847 - V 1847 < V (60 + 10 * (a / 12) + 8) then upd (upd V (206 + 23 * a) 1) (206 + 23 * a + 1) (V 1847) else mTurns (upd (upd V (206 + 23 * a) 2) (206 + 23 * a + 1) (V 1847)) a
    else if V (206 + 23 * a) = 1 then
      if V 1847 - V (206 + 23 * a + 1) < V (60 + 10 * (a / 12) + 8) then V else mTurns (upd (upd V (206 + 23 * a) 2) (206 + 23 * a + 1) (V 1847)) a
    else V
  else if V (206 + 23 * a) = 2 then upd (mTurns V a) (206 + 23 * a) 0 else upd V (206 + 23 * a) 0
section MODEL
variable {G : gG} {M : gM} {m : Nat} {hi tn at_ fa : Int32} {V : Nat → Int32} {S : Nat → Int64}
set_option maxRecDepth 20000 in
theorem c12_turns (hm : M.1 m = some (mO m hi tn at_ fa)) (hV : M.1 (m + 1) = some (gI 1999 V)) (a : Nat) (ha : a < 60) (hn : mB V (206 + 23 * a + 2) 20) : gCon G kX12_turns 0 0 0 M [.ref m, .int (nI a)] (fun M2 v => M2 = gUp M (m + 1) (gI 1999 (mTurns V a)) ∧ v = none) := by
  obtain ⟨c, hc, hVc⟩ := hn
  have hcN := mN_of hVc (by omega)
  refine gCon_of (by decide) (Nat.le_of_ble_eq_true rfl) ?_
  by_cases h20 : c = 20
  · subst h20
    have loop : ∀ (q j : Nat), j + q = 21 → 1 ≤ j → j ≤ 20 → ∀ W : Nat → Int32, (∀ i, W i = if 206 + 23 * a + 3 ≤ i ∧ i < 206 + 23 * a + 2 + j then V (i + 1) else V i) →
        gJ G kX12_turns 0 0 0 (gUp M (m + 1) (gI 1999 W)) 24 [(3, .int (nI j)), (2, .int (nI (206 + 23 * a))), (0, .ref m), (1, .int (nI a))] [] (gQ kX12_turns (fun M2 v => M2 = gUp M (m + 1) (gI 1999 (mTurns V a)) ∧ v = none)) := by
      intro q
      induction q with
      | zero => intro j h1 h2 h3; exact absurd h1 (by omega)
      | succ q ih =>
        intro j hq hj1 hj2 W hW
        refine gJ_iload_n dX12_turns_24 rfl rfl ?_
        refine gJ_bipush (v := 20) dX12_turns_25 (by decide) ?_
        refine gJ_icmp_geN (tgt := 56) (a := j) (b := 20) (by first | with_reducible rfl | rfl) (by first | with_reducible rfl | rfl) (by omega) (by omega) dX12_turns_27 (by decide) (fun c27 => ?_) (fun c27 => ?_)
        · refine gJ_aload_n dX12_turns_56 rfl rfl ?_
          refine gJ_get fX12_9 dX12_turns_57 (by first | assumption | exact gUp_s | exact gUp_n (by assumption) (by omega)) rfl ?_
          refine gJ_iload_n dX12_turns_60 rfl rfl ?_
          refine gJ_iconst (v := 2) dX12_turns_61 (by decide) ?_
          refine gJ_iaddN (a := (206+23*a)) (b := 2) dX12_turns_62 (by first | with_reducible rfl | rfl) (by first | with_reducible rfl | rfl) ?_
          refine gJ_dup2 dX12_turns_63 rfl rfl ?_
          refine gJ_ialdN (j := ((206+23*a) + 2)) dX12_turns_64 (by first | assumption | exact gUp_s | exact gUp_n (by assumption) (by omega)) (by first | with_reducible rfl | rfl) (by omega) (by decide) ?_
          rw [show W (206 + 23 * a + 2) = nI 20 by rw [hW, if_neg (by omega), hVc]]
          refine gJ_iconst (v := 1) dX12_turns_65 (by decide) ?_
          refine gJ_isubN (a := 20) (b := 1) dX12_turns_66 (by first | with_reducible rfl | rfl) (by first | with_reducible rfl | rfl) (by omega) ?_
          refine gJ_iastN (j := ((206+23*a) + 2)) dX12_turns_67 (by first | assumption | exact gUp_s | exact gUp_n (by assumption) (by omega)) (by first | with_reducible rfl | rfl) (by omega) (by decide) ?_
          try rw [gUp_up]
          refine gJ_aload_n dX12_turns_68 rfl rfl ?_
          refine gJ_get fX12_9 dX12_turns_69 (by first | assumption | exact gUp_s | exact gUp_n (by assumption) (by omega)) rfl ?_
          refine gJ_iload_n dX12_turns_72 rfl rfl ?_
          refine gJ_iconst (v := 3) dX12_turns_73 (by decide) ?_
          refine gJ_iaddN (a := (206+23*a)) (b := 3) dX12_turns_74 (by first | with_reducible rfl | rfl) (by first | with_reducible rfl | rfl) ?_
          refine gJ_aload_n dX12_turns_75 rfl rfl ?_
          refine gJ_get fX12_9 dX12_turns_76 (by first | assumption | exact gUp_s | exact gUp_n (by assumption) (by omega)) rfl ?_
          refine gJ_iload_n dX12_turns_79 rfl rfl ?_
          refine gJ_iconst (v := 2) dX12_turns_80 (by decide) ?_
          refine gJ_iaddN (a := (206+23*a)) (b := 2) dX12_turns_81 (by first | with_reducible rfl | rfl) (by first | with_reducible rfl | rfl) ?_
          refine gJ_ialdN (j := ((206+23*a) + 2)) dX12_turns_82 (by first | assumption | exact gUp_s | exact gUp_n (by assumption) (by omega)) (by first | with_reducible rfl | rfl) (by omega) (by decide) ?_
          rw [pk_us]
          refine gJ_iaddN (a := ((206+23*a) + 3)) (b := 19) dX12_turns_83 (by first | with_reducible rfl | rfl) (by first | with_reducible rfl | rfl) ?_
          refine gJ_aload_n dX12_turns_84 rfl rfl ?_
          refine gJ_get fX12_9 dX12_turns_85 (by first | assumption | exact gUp_s | exact gUp_n (by assumption) (by omega)) rfl ?_
          refine gJ_sipush (v := 1847) dX12_turns_88 (by decide) ?_
          refine gJ_ialdN (j := 1847) dX12_turns_91 (by first | assumption | exact gUp_s | exact gUp_n (by assumption) (by omega)) (by first | with_reducible rfl | rfl) (by omega) (by decide) ?_
          rw [pk_un (by omega)]
          refine gJ_iastN (j := (((206+23*a) + 3) + 19)) dX12_turns_92 (by first | assumption | exact gUp_s | exact gUp_n (by assumption) (by omega)) (by first | with_reducible rfl | rfl) (by omega) (by decide) ?_
          try rw [gUp_up]
          refine gJ_aload_n dX12_turns_93 rfl rfl ?_
          refine gJ_get fX12_9 dX12_turns_94 (by first | assumption | exact gUp_s | exact gUp_n (by assumption) (by omega)) rfl ?_
          refine gJ_iload_n dX12_turns_97 rfl rfl ?_
          refine gJ_iconst (v := 2) dX12_turns_98 (by decide) ?_
          refine gJ_iaddN (a := (206+23*a)) (b := 2) dX12_turns_99 (by first | with_reducible rfl | rfl) (by first | with_reducible rfl | rfl) ?_
          refine gJ_dup2 dX12_turns_100 rfl rfl ?_
          refine gJ_ialdN (j := ((206+23*a) + 2)) dX12_turns_101 (by first | assumption | exact gUp_s | exact gUp_n (by assumption) (by omega)) (by first | with_reducible rfl | rfl) (by omega) (by decide) ?_
          rw [pk_un (by omega), pk_us]
          refine gJ_iconst (v := 1) dX12_turns_102 (by decide) ?_
          refine gJ_iaddN (a := 19) (b := 1) dX12_turns_103 (by first | with_reducible rfl | rfl) (by first | with_reducible rfl | rfl) ?_
          refine gJ_iastN (j := ((206+23*a) + 2)) dX12_turns_104 (by first | assumption | exact gUp_s | exact gUp_n (by assumption) (by omega)) (by first | with_reducible rfl | rfl) (by omega) (by decide) ?_
          try rw [gUp_up]
          refine gJ_vret dX12_turns_105 rfl ?_
          refine ⟨?_, rfl⟩
          congr 2
          have e20 : j = 20 := by omega
          subst e20
          congr 2
          funext i
          have hT : W 1847 = V 1847 := by rw [hW, if_neg (by omega)]
          rw [mTurns, if_pos (show V (206 + 23 * a + 2) = 20 from hVc)]
          simp only [upd, hT, hW]
          have h20_ : nI 20 = V (206 + 23 * a + 2) := hVc.symm
          grind
        · refine gJ_aload_n dX12_turns_30 rfl rfl ?_
          refine gJ_get fX12_9 dX12_turns_31 (by first | assumption | exact gUp_s | exact gUp_n (by assumption) (by omega)) rfl ?_
          refine gJ_iload_n dX12_turns_34 rfl rfl ?_
          refine gJ_iconst (v := 2) dX12_turns_35 (by decide) ?_
          refine gJ_iaddN (a := (206+23*a)) (b := 2) dX12_turns_36 (by first | with_reducible rfl | rfl) (by first | with_reducible rfl | rfl) ?_
          refine gJ_iload_n dX12_turns_37 rfl rfl ?_
          refine gJ_iaddN (a := ((206+23*a) + 2)) (b := j) dX12_turns_38 (by first | with_reducible rfl | rfl) (by first | with_reducible rfl | rfl) ?_
          refine gJ_aload_n dX12_turns_39 rfl rfl ?_
          refine gJ_get fX12_9 dX12_turns_40 (by first | assumption | exact gUp_s | exact gUp_n (by assumption) (by omega)) rfl ?_
          refine gJ_iload_n dX12_turns_43 rfl rfl ?_
          refine gJ_iconst (v := 3) dX12_turns_44 (by decide) ?_
          refine gJ_iaddN (a := (206+23*a)) (b := 3) dX12_turns_45 (by first | with_reducible rfl | rfl) (by first | with_reducible rfl | rfl) ?_
          refine gJ_iload_n dX12_turns_46 rfl rfl ?_
          refine gJ_iaddN (a := ((206+23*a) + 3)) (b := j) dX12_turns_47 (by first | with_reducible rfl | rfl) (by first | with_reducible rfl | rfl) ?_
          refine gJ_ialdN (j := (((206+23*a) + 3) + j)) dX12_turns_48 (by first | assumption | exact gUp_s | exact gUp_n (by assumption) (by omega)) (by first | with_reducible rfl | rfl) (by omega) (by decide) ?_
          refine gJ_iastN (j := (((206+23*a) + 2) + j)) dX12_turns_49 (by first | assumption | exact gUp_s | exact gUp_n (by assumption) (by omega)) (by first | with_reducible rfl | rfl) (by omega) (by decide) ?_
          try rw [gUp_up]
          refine gJ_iincN (a := j) (b := 1) (lv2 := [(3, _), (2, _), (0, _), (1, _)]) dX12_turns_50 rfl rfl rfl rfl ?_
          refine gJ_goto (tgt := 24) dX12_turns_53 (by decide) ?_
          refine gJ_ls (ih (j + 1) (by omega) (by omega) (by omega) _ ?_) ⟨rfl, rfl, rfl, rfl, trivial⟩
          intro i
          simp only [upd]
          by_cases hi_ : i = 206 + 23 * a + 2 + j
          · subst hi_; rw [if_pos rfl, if_pos (by omega), hW, if_neg (by omega)]; congr 1; omega
          · rw [if_neg hi_, hW]; by_cases h2_ : 206 + 23 * a + 3 ≤ i ∧ i < 206 + 23 * a + 2 + j
            · rw [if_pos h2_, if_pos (by omega)]
            · rw [if_neg h2_, if_neg (by omega)]
    show gJ _ _ _ _ _ _ 0 [(0, _), (1, _)] [] _
    refine gJ_sipush (v := 206) dX12_turns_0 (by decide) ?_
    refine gJ_bipush (v := 23) dX12_turns_3 (by decide) ?_
    refine gJ_iload_n dX12_turns_5 rfl rfl ?_
    refine gJ_imulN (a := 23) (b := a) dX12_turns_6 (by first | with_reducible rfl | rfl) (by first | with_reducible rfl | rfl) ?_
    refine gJ_iaddN (a := 206) (b := (23 * a)) dX12_turns_7 (by first | with_reducible rfl | rfl) (by first | with_reducible rfl | rfl) ?_
    refine gJ_istore_n (lv2 := [(2, _), (0, _), (1, _)]) dX12_turns_8 rfl rfl rfl ?_
    refine gJ_aload_n dX12_turns_9 rfl rfl ?_
    refine gJ_get fX12_9 dX12_turns_10 (by first | assumption | exact gUp_s | exact gUp_n (by assumption) (by omega)) rfl ?_
    refine gJ_iload_n dX12_turns_13 rfl rfl ?_
    refine gJ_iconst (v := 2) dX12_turns_14 (by decide) ?_
    refine gJ_iaddN (a := (206 + (23 * a))) (b := 2) dX12_turns_15 (by first | with_reducible rfl | rfl) (by first | with_reducible rfl | rfl) ?_
    refine gJ_ialdN (j := ((206 + (23 * a)) + 2)) dX12_turns_16 (by first | assumption | exact gUp_s | exact gUp_n (by assumption) (by omega)) (by first | with_reducible rfl | rfl) (by omega) (by decide) ?_
    rw [hVc]
    refine gJ_bipush (v := 20) dX12_turns_17 (by decide) ?_
    refine gJ_icmp_neN (tgt := 68) (a := 20) (b := 20) (by first | with_reducible rfl | rfl) (by first | with_reducible rfl | rfl) (by omega) (by omega) dX12_turns_19 (by decide) (fun c_ => by exfalso; omega) (fun _ => ?_)
    refine gJ_iconst (v := 1) dX12_turns_22 (by decide) ?_
    refine gJ_istore_n (lv2 := [(3, _), (2, _), (0, _), (1, _)]) dX12_turns_23 rfl rfl rfl ?_
    have L := loop 20 1 (by omega) (by omega) (by omega) V (fun i => by rw [if_neg (by omega)])
    rw [gUp_id hV] at L
    exact gJ_ls L ⟨rfl, rfl, rfl, rfl, trivial⟩
  · skip
    show gJ _ _ _ _ _ _ 0 [(0, _), (1, _)] [] _
    refine gJ_sipush (v := 206) dX12_turns_0 (by decide) ?_
    refine gJ_bipush (v := 23) dX12_turns_3 (by decide) ?_
    refine gJ_iload_n dX12_turns_5 rfl rfl ?_
    refine gJ_imulN (a := 23) (b := a) dX12_turns_6 (by first | with_reducible rfl | rfl) (by first | with_reducible rfl | rfl) ?_
    refine gJ_iaddN (a := 206) (b := (23 * a)) dX12_turns_7 (by first | with_reducible rfl | rfl) (by first | with_reducible rfl | rfl) ?_
    refine gJ_istore_n (lv2 := [(2, _), (0, _), (1, _)]) dX12_turns_8 rfl rfl rfl ?_
    refine gJ_aload_n dX12_turns_9 rfl rfl ?_
    refine gJ_get fX12_9 dX12_turns_10 (by first | assumption | exact gUp_s | exact gUp_n (by assumption) (by omega)) rfl ?_
    refine gJ_iload_n dX12_turns_13 rfl rfl ?_
    refine gJ_iconst (v := 2) dX12_turns_14 (by decide) ?_
    refine gJ_iaddN (a := (206 + (23 * a))) (b := 2) dX12_turns_15 (by first | with_reducible rfl | rfl) (by first | with_reducible rfl | rfl) ?_
    refine gJ_ialdN (j := ((206 + (23 * a)) + 2)) dX12_turns_16 (by first | assumption | exact gUp_s | exact gUp_n (by assumption) (by omega)) (by first | with_reducible rfl | rfl) (by omega) (by decide) ?_
    rw [hVc]
    refine gJ_bipush (v := 20) dX12_turns_17 (by decide) ?_
    refine gJ_icmp_neN (tgt := 68) (a := c) (b := 20) (by first | with_reducible rfl | rfl) (by first | with_reducible rfl | rfl) (by omega) (by omega) dX12_turns_19 (by decide) (fun _ => ?_) (fun c_ => by exfalso; omega)
    refine gJ_aload_n dX12_turns_68 rfl rfl ?_
    refine gJ_get fX12_9 dX12_turns_69 (by first | assumption | exact gUp_s | exact gUp_n (by assumption) (by omega)) rfl ?_
    refine gJ_iload_n dX12_turns_72 rfl rfl ?_
    refine gJ_iconst (v := 3) dX12_turns_73 (by decide) ?_
    refine gJ_iaddN (a := (206 + (23 * a))) (b := 3) dX12_turns_74 (by first | with_reducible rfl | rfl) (by first | with_reducible rfl | rfl) ?_
    refine gJ_aload_n dX12_turns_75 rfl rfl ?_
    refine gJ_get fX12_9 dX12_turns_76 (by first | assumption | exact gUp_s | exact gUp_n (by assumption) (by omega)) rfl ?_
    refine gJ_iload_n dX12_turns_79 rfl rfl ?_
    refine gJ_iconst (v := 2) dX12_turns_80 (by decide) ?_
    refine gJ_iaddN (a := (206 + (23 * a))) (b := 2) dX12_turns_81 (by first | with_reducible rfl | rfl) (by first | with_reducible rfl | rfl) ?_
    refine gJ_ialdN (j := ((206 + (23 * a)) + 2)) dX12_turns_82 (by first | assumption | exact gUp_s | exact gUp_n (by assumption) (by omega)) (by first | with_reducible rfl | rfl) (by omega) (by decide) ?_
    rw [hVc]
    refine gJ_iaddN (a := ((206 + (23 * a)) + 3)) (b := c) dX12_turns_83 (by first | with_reducible rfl | rfl) (by first | with_reducible rfl | rfl) ?_
    refine gJ_aload_n dX12_turns_84 rfl rfl ?_
    refine gJ_get fX12_9 dX12_turns_85 (by first | assumption | exact gUp_s | exact gUp_n (by assumption) (by omega)) rfl ?_
    refine gJ_sipush (v := 1847) dX12_turns_88 (by decide) ?_
    refine gJ_ialdN (j := 1847) dX12_turns_91 (by first | assumption | exact gUp_s | exact gUp_n (by assumption) (by omega)) (by first | with_reducible rfl | rfl) (by omega) (by decide) ?_
    refine gJ_iastN (j := (((206 + (23 * a)) + 3) + c)) dX12_turns_92 (by first | assumption | exact gUp_s | exact gUp_n (by assumption) (by omega)) (by first | with_reducible rfl | rfl) (by omega) (by decide) ?_
    try rw [gUp_up]
    refine gJ_aload_n dX12_turns_93 rfl rfl ?_
    refine gJ_get fX12_9 dX12_turns_94 (by first | assumption | exact gUp_s | exact gUp_n (by assumption) (by omega)) rfl ?_
    refine gJ_iload_n dX12_turns_97 rfl rfl ?_
    refine gJ_iconst (v := 2) dX12_turns_98 (by decide) ?_
    refine gJ_iaddN (a := (206 + (23 * a))) (b := 2) dX12_turns_99 (by first | with_reducible rfl | rfl) (by first | with_reducible rfl | rfl) ?_
    refine gJ_dup2 dX12_turns_100 rfl rfl ?_
    refine gJ_ialdN (j := ((206 + (23 * a)) + 2)) dX12_turns_101 (by first | assumption | exact gUp_s | exact gUp_n (by assumption) (by omega)) (by first | with_reducible rfl | rfl) (by omega) (by decide) ?_
    rw [pk_un (by omega), hVc]
    refine gJ_iconst (v := 1) dX12_turns_102 (by decide) ?_
    refine gJ_iaddN (a := c) (b := 1) dX12_turns_103 (by first | with_reducible rfl | rfl) (by first | with_reducible rfl | rfl) ?_
    refine gJ_iastN (j := ((206 + (23 * a)) + 2)) dX12_turns_104 (by first | assumption | exact gUp_s | exact gUp_n (by assumption) (by omega)) (by first | with_reducible rfl | rfl) (by omega) (by decide) ?_
    try rw [gUp_up]
    refine gJ_vret dX12_turns_105 rfl ?_
    refine ⟨?_, rfl⟩
    congr 2
    have h20' : ¬ nI c = 20 := fun h => h20 ((nI_eq (by omega) (by omega)).mp (h.trans (show (20 : Int32) = nI 20 from rfl)))
    rw [mTurns, hVc, if_neg h20', hcN]
    congr 2
end MODEL
