/-- the reference after a look ahead: the copies hold what is; nothing else has changed -/
def mKp (m : Nat) (M : gM) (V : Nat → Int32) (S : Nat → Int64) : gM := gUp (gUp M (m + 3) (gI 1999 V)) (m + 6) (gL 128 S)
section MODEL
variable {G : gG} {M : gM} {m : Nat} {hi tn at_ fa : Int32} {V K : Nat → Int32} {S KS : Nat → Int64}
theorem mKp_V {x : Option gE} {q : Nat} (h : M.1 q = x) (h1 : q ≠ m + 3) (h2 : q ≠ m + 6) : (mKp m M V S).1 q = x := gUp_n (gUp_n h h1) h2
set_option maxHeartbeats 2000000 in
theorem c12_looks0 (hm : M.1 m = some (mO m hi tn at_ fa)) (hV : M.1 (m + 1) = some (gI 1999 V)) (hS : M.1 (m + 4) = some (gL 128 S)) (hK : M.1 (m + 3) = some (gI 1999 K)) (hKS : M.1 (m + 6) = some (gL 128 KS)) (hI : mI V) (n : Nat) (hn : n ≤ 100) : gCon G kX12_looks 6 0 0 M [.ref m, .int (nI n), .int 0] (fun M2 v => M2 = mKp m M V S ∧ v = some (.int (mTot (V, S) n))) := by
  refine gCon_of (by decide) (Nat.le_of_ble_eq_true rfl) ?_
  have hmK : (mKp m M V S).1 m = some (mO m hi tn at_ fa) := mKp_V hm (by omega) (by omega)
  have hVK : (mKp m M V S).1 (m + 1) = some (gI 1999 V) := mKp_V hV (by omega) (by omega)
  have hSK : (mKp m M V S).1 (m + 4) = some (gL 128 S) := mKp_V hS (by omega) (by omega)
  have hKK : (mKp m M V S).1 (m + 3) = some (gI 1999 V) := gUp_n gUp_s (by omega)
  have hTK : (mKp m M V S).1 (m + 6) = some (gL 128 S) := gUp_s
  have loop : ∀ (q j : Nat), j + q = n + 1 → j ≤ n → ∀ f : Int32,
      gJ G kX12_looks 6 0 0 (mUp m (mKp m M V S) (mIt (V, S) j).1 (mIt (V, S) j).2) 28 [(5, .int (nI j)), (4, .int f), (3, .int (mTot (V, S) j)), (0, .ref m), (1, .int (nI n)), (2, .int 0)] [] (gQ kX12_looks (fun M2 v => M2 = mKp m M V S ∧ v = some (.int (mTot (V, S) n)))) := by
    intro q
    induction q with
    | zero => intro j h1 h2; exact absurd h1 (by omega)
    | succ q ih =>
      intro j hq hj f
      have hmU : ∀ W T, (mUp m (mKp m M V S) W T).1 m = some (mO m hi tn at_ fa) := fun W T => mUp_n hmK (by omega) (by omega)
      refine gJ_iload dX12_looks_28 rfl ?_
      refine gJ_iload_n dX12_looks_30 rfl rfl ?_
      refine gJ_icmp_geN (tgt := 79) (a := j) (b := n) (by first | with_reducible rfl | rfl) (by first | with_reducible rfl | rfl) (by omega) (by omega) dX12_looks_31 (by decide) (fun c31 => ?_) (fun c31 => ?_)
      · refine gJ_aload_n dX12_looks_79 rfl rfl ?_
        refine gJ_get fX12_16 dX12_looks_80 (by first | with_reducible assumption | exact hmU _ _ | exact mUp_V) rfl ?_
        refine gJ_aload_n dX12_looks_83 rfl rfl ?_
        refine gJ_get fX12_9 dX12_looks_84 (by first | with_reducible assumption | exact hmU _ _ | exact mUp_V) rfl ?_
        refine gJ_aload_n dX12_looks_87 rfl rfl ?_
        refine gJ_get fX12_26 dX12_looks_88 (by first | with_reducible assumption | exact hmU _ _ | exact mUp_V) rfl ?_
        refine gJ_aload_n dX12_looks_91 rfl rfl ?_
        refine gJ_get fX12_19 dX12_looks_92 (by first | with_reducible assumption | exact hmU _ _ | exact mUp_V) rfl ?_
        refine gJ_callS (As := [_, _, _, _]) b_X12_copies lX12_172 i_X12_copies dX12_looks_95 (c12_copies (m + 3) (m + 1) (m + 6) (m + 4) V _ S _ (mUp_n hKK (by omega) (by omega)) mUp_V (mUp_n hTK (by omega) (by omega)) mUp_S (by omega) (by omega) (by omega) (by omega)) rfl (Nat.le_of_ble_eq_true rfl) rfl (by decide) (fun M95 v_ h95 => ?_)
        obtain ⟨rfl, rfl⟩ := h95
        rw [show gUp (gUp (mUp m (mKp m M V S) (mIt (V, S) j).1 (mIt (V, S) j).2) (m + 1) (gI 1999 V)) (m + 4) (gL 128 S) = mKp m M V S from mUp_up.trans (mUp_id hVK hSK)]
        refine gJ_iload_n dX12_looks_98 rfl rfl ?_
        refine gJ_if_eqN (tgt := 107) (a := 0) (by first | with_reducible rfl | rfl) (by omega) dX12_looks_99 (by decide) (fun _ => ?_) (fun c_ => by exfalso; omega)
        refine gJ_iload_n dX12_looks_107 rfl rfl ?_
        refine gJ_iret dX12_looks_108 rfl ?_
        have e1 : j = n := by omega
        subst e1
        exact ⟨rfl, rfl⟩
      · refine gJ_iload_n dX12_looks_34 rfl rfl ?_
        refine gJ_if_eqN (tgt := 42) (a := 0) (by first | with_reducible rfl | rfl) (by omega) dX12_looks_35 (by decide) (fun _ => ?_) (fun c_ => by exfalso; omega)
        refine gJ_iload_n dX12_looks_42 rfl rfl ?_
        refine gJ_aload_n dX12_looks_43 rfl rfl ?_
        refine gJ_callV (As := []) b_X12_step lX12_163 i_X12_step s_X12_step dX12_looks_44 (c12_step (hmU _ _) mUp_V mUp_S (mIt_I (p := (V, S)) hI j)) (hmU _ _) rfl rfl (Nat.le_of_ble_eq_true rfl) rfl (by decide) (fun M44 v_ h44 => ?_)
        obtain ⟨rfl, rfl⟩ := h44
        rw [mUp_up]
        refine gJ_iadd dX12_looks_47 ?_
        refine gJ_istore_n (lv2 := [(3, _), (5, _), (4, _), (0, _), (1, _), (2, _)]) dX12_looks_48 rfl rfl rfl ?_
        refine gJ_iload_n dX12_looks_49 rfl rfl ?_
        refine gJ_if_le (tgt := 69) dX12_looks_50 (by decide) (fun c50 => ?_) (fun c50 => ?_)
        · refine gJ_iload dX12_looks_69 rfl ?_
          refine gJ_istore (lv2 := [(4, _), (3, _), (5, _), (0, _), (1, _), (2, _)]) dX12_looks_71 rfl rfl ?_
          refine gJ_iincN (a := j) (b := 1) (lv2 := [(5, _), (4, _), (3, _), (0, _), (1, _), (2, _)]) dX12_looks_73 rfl rfl rfl rfl ?_
          refine gJ_goto (tgt := 28) dX12_looks_76 (by decide) ?_
          exact gJ_ls (ih (j + 1) (by omega) (by omega) _) ⟨rfl, rfl, rfl, rfl, rfl, rfl, trivial⟩
        · refine gJ_iload dX12_looks_53 rfl ?_
          refine gJ_if_ge (tgt := 69) dX12_looks_55 (by decide) (fun c55 => ?_) (fun c55 => ?_)
          · refine gJ_iload dX12_looks_69 rfl ?_
            refine gJ_istore (lv2 := [(4, _), (3, _), (5, _), (0, _), (1, _), (2, _)]) dX12_looks_71 rfl rfl ?_
            refine gJ_iincN (a := j) (b := 1) (lv2 := [(5, _), (4, _), (3, _), (0, _), (1, _), (2, _)]) dX12_looks_73 rfl rfl rfl rfl ?_
            refine gJ_goto (tgt := 28) dX12_looks_76 (by decide) ?_
            exact gJ_ls (ih (j + 1) (by omega) (by omega) _) ⟨rfl, rfl, rfl, rfl, rfl, rfl, trivial⟩
          · refine gJ_aload_n dX12_looks_58 rfl rfl ?_
            refine gJ_get fX12_9 dX12_looks_59 (by first | with_reducible assumption | exact hmU _ _ | exact mUp_V) rfl ?_
            refine gJ_sipush (v := 1847) dX12_looks_62 (by decide) ?_
            refine gJ_ialdN (j := 1847) dX12_looks_65 (by first | with_reducible assumption | exact hmU _ _ | exact mUp_V) (by first | with_reducible rfl | rfl) (by omega) (by decide) ?_
            refine gJ_goto (tgt := 71) dX12_looks_66 (by decide) ?_
            refine gJ_istore (lv2 := [(4, _), (3, _), (5, _), (0, _), (1, _), (2, _)]) dX12_looks_71 rfl rfl ?_
            refine gJ_iincN (a := j) (b := 1) (lv2 := [(5, _), (4, _), (3, _), (0, _), (1, _), (2, _)]) dX12_looks_73 rfl rfl rfl rfl ?_
            refine gJ_goto (tgt := 28) dX12_looks_76 (by decide) ?_
            exact gJ_ls (ih (j + 1) (by omega) (by omega) _) ⟨rfl, rfl, rfl, rfl, rfl, rfl, trivial⟩
  show gJ _ _ _ _ _ _ 0 [(0, _), (1, _), (2, _)] [] _
  refine gJ_aload_n dX12_looks_0 rfl rfl ?_
  refine gJ_get fX12_9 dX12_looks_1 (by first | with_reducible assumption | with_reducible exact gUp_s | with_reducible exact gUp_n (by with_reducible assumption) (by omega) | exact gUp_n (by assumption) (by omega) | assumption) rfl ?_
  refine gJ_aload_n dX12_looks_4 rfl rfl ?_
  refine gJ_get fX12_16 dX12_looks_5 (by first | with_reducible assumption | with_reducible exact gUp_s | with_reducible exact gUp_n (by with_reducible assumption) (by omega) | exact gUp_n (by assumption) (by omega) | assumption) rfl ?_
  refine gJ_aload_n dX12_looks_8 rfl rfl ?_
  refine gJ_get fX12_19 dX12_looks_9 (by first | with_reducible assumption | with_reducible exact gUp_s | with_reducible exact gUp_n (by with_reducible assumption) (by omega) | exact gUp_n (by assumption) (by omega) | assumption) rfl ?_
  refine gJ_aload_n dX12_looks_12 rfl rfl ?_
  refine gJ_get fX12_26 dX12_looks_13 (by first | with_reducible assumption | with_reducible exact gUp_s | with_reducible exact gUp_n (by with_reducible assumption) (by omega) | exact gUp_n (by assumption) (by omega) | assumption) rfl ?_
  refine gJ_callS (As := [_, _, _, _]) b_X12_copies lX12_172 i_X12_copies dX12_looks_16 (c12_copies (m + 1) (m + 3) (m + 4) (m + 6) V K S KS hV hK hS hKS (by omega) (by omega) (by omega) (by omega)) rfl (Nat.le_of_ble_eq_true rfl) rfl (by decide) (fun M16 v_ h16 => ?_)
  obtain ⟨e16, rfl⟩ := h16
  have e16' : M16 = mKp m M V S := e16
  subst e16'
  refine gJ_iconst (v := 0) dX12_looks_19 (by decide) ?_
  refine gJ_istore_n (lv2 := [(3, _), (0, _), (1, _), (2, _)]) dX12_looks_20 rfl rfl rfl ?_
  refine gJ_bipush (v := -5) dX12_looks_21 (by decide) ?_
  refine gJ_istore (lv2 := [(4, _), (3, _), (0, _), (1, _), (2, _)]) dX12_looks_23 rfl rfl ?_
  refine gJ_iconst (v := 0) dX12_looks_25 (by decide) ?_
  refine gJ_istore (lv2 := [(5, _), (4, _), (3, _), (0, _), (1, _), (2, _)]) dX12_looks_26 rfl rfl ?_
  have L := loop (n + 1) 0 (by omega) (by omega) (-5)
  rw [show mUp m (mKp m M V S) (mIt (V, S) 0).1 (mIt (V, S) 0).2 = mKp m M V S from mUp_id hVK hSK] at L
  exact gJ_ls L ⟨rfl, rfl, rfl, rfl, rfl, rfl, trivial⟩
set_option maxHeartbeats 2000000 in
theorem c12_looks1 (hm : M.1 m = some (mO m hi tn at_ fa)) (hV : M.1 (m + 1) = some (gI 1999 V)) (hS : M.1 (m + 4) = some (gL 128 S)) (hK : M.1 (m + 3) = some (gI 1999 K)) (hKS : M.1 (m + 6) = some (gL 128 KS)) (hI : mI V) (n : Nat) (hn : n ≤ 100) : gCon G kX12_looks 6 0 0 M [.ref m, .int (nI n), .int 1] (fun M2 v => M2 = mKp m M V S ∧ v = some (.int (mNx (V, S) n))) := by
  refine gCon_of (by decide) (Nat.le_of_ble_eq_true rfl) ?_
  have hmK : (mKp m M V S).1 m = some (mO m hi tn at_ fa) := mKp_V hm (by omega) (by omega)
  have hVK : (mKp m M V S).1 (m + 1) = some (gI 1999 V) := mKp_V hV (by omega) (by omega)
  have hSK : (mKp m M V S).1 (m + 4) = some (gL 128 S) := mKp_V hS (by omega) (by omega)
  have hKK : (mKp m M V S).1 (m + 3) = some (gI 1999 V) := gUp_n gUp_s (by omega)
  have hTK : (mKp m M V S).1 (m + 6) = some (gL 128 S) := gUp_s
  have hmU : ∀ W T, (mUp m (mKp m M V S) W T).1 m = some (mO m hi tn at_ fa) := fun W T => mUp_n hmK (by omega) (by omega)
  have fin : ∀ (W : Nat → Int32) (T : Nat → Int64) (f c : Int32) (j : Nat), f = mNx (V, S) n →
      gJ G kX12_looks 6 0 0 (mUp m (mKp m M V S) W T) 79 [(5, .int (nI j)), (4, .int f), (3, .int c), (0, .ref m), (1, .int (nI n)), (2, .int 1)] [] (gQ kX12_looks (fun M2 v => M2 = mKp m M V S ∧ v = some (.int (mNx (V, S) n)))) := by
    intro W T f c j hf
    refine gJ_aload_n dX12_looks_79 rfl rfl ?_
    refine gJ_get fX12_16 dX12_looks_80 (by first | with_reducible assumption | exact hmU _ _ | exact mUp_V) rfl ?_
    refine gJ_aload_n dX12_looks_83 rfl rfl ?_
    refine gJ_get fX12_9 dX12_looks_84 (by first | with_reducible assumption | exact hmU _ _ | exact mUp_V) rfl ?_
    refine gJ_aload_n dX12_looks_87 rfl rfl ?_
    refine gJ_get fX12_26 dX12_looks_88 (by first | with_reducible assumption | exact hmU _ _ | exact mUp_V) rfl ?_
    refine gJ_aload_n dX12_looks_91 rfl rfl ?_
    refine gJ_get fX12_19 dX12_looks_92 (by first | with_reducible assumption | exact hmU _ _ | exact mUp_V) rfl ?_
    refine gJ_callS (As := [_, _, _, _]) b_X12_copies lX12_172 i_X12_copies dX12_looks_95 (c12_copies (m + 3) (m + 1) (m + 6) (m + 4) V _ S _ (mUp_n hKK (by omega) (by omega)) mUp_V (mUp_n hTK (by omega) (by omega)) mUp_S (by omega) (by omega) (by omega) (by omega)) rfl (Nat.le_of_ble_eq_true rfl) rfl (by decide) (fun M95 v_ h95 => ?_)
    obtain ⟨rfl, rfl⟩ := h95
    rw [show gUp (gUp (mUp m (mKp m M V S) W T) (m + 1) (gI 1999 V)) (m + 4) (gL 128 S) = mKp m M V S from mUp_up.trans (mUp_id hVK hSK)]
    refine gJ_iload_n dX12_looks_98 rfl rfl ?_
    refine gJ_if_eqN (tgt := 107) (a := 1) (by first | with_reducible rfl | rfl) (by omega) dX12_looks_99 (by decide) (fun c_ => by exfalso; omega) (fun _ => ?_)
    refine gJ_iload dX12_looks_102 rfl ?_
    refine gJ_goto (tgt := 108) dX12_looks_104 (by decide) ?_
    refine gJ_iret dX12_looks_108 rfl ?_
    exact ⟨rfl, by rw [hf]⟩
  have ph2 : ∀ (W : Nat → Int32) (T : Nat → Int64) (f : Int32) (c j : Nat), 0 < c → c ≤ 128 ∧ j ≤ n → f = mNx (V, S) n →
      gJ G kX12_looks 6 0 0 (mUp m (mKp m M V S) W T) 28 [(5, .int (nI j)), (4, .int f), (3, .int (nI c)), (0, .ref m), (1, .int (nI n)), (2, .int 1)] [] (gQ kX12_looks (fun M2 v => M2 = mKp m M V S ∧ v = some (.int (mNx (V, S) n)))) := by
    intro W T f c j hc hcj hf
    refine gJ_iload dX12_looks_28 rfl ?_
    refine gJ_iload_n dX12_looks_30 rfl rfl ?_
    refine gJ_icmp_geN (tgt := 79) (a := j) (b := n) (by first | with_reducible rfl | rfl) (by first | with_reducible rfl | rfl) (by omega) (by omega) dX12_looks_31 (by decide) (fun c31 => ?_) (fun c31 => ?_)
    · exact gJ_ls (fin W T f _ j hf) ⟨rfl, rfl, rfl, rfl, rfl, rfl, trivial⟩
    · refine gJ_iload_n dX12_looks_34 rfl rfl ?_
      refine gJ_if_eqN (tgt := 42) (a := 1) (by first | with_reducible rfl | rfl) (by omega) dX12_looks_35 (by decide) (fun c_ => by exfalso; omega) (fun _ => ?_)
      refine gJ_iload_n dX12_looks_38 rfl rfl ?_
      refine gJ_if_neN (tgt := 79) (a := c) (by first | with_reducible rfl | rfl) (by omega) dX12_looks_39 (by decide) (fun _ => ?_) (fun c_ => by exfalso; omega)
      exact gJ_ls (fin W T f _ j hf) ⟨rfl, rfl, rfl, rfl, rfl, rfl, trivial⟩
  have loop : ∀ (q j : Nat), j + q = n → mNx (V, S) n = mNx (mIt (V, S) j) q →
      gJ G kX12_looks 6 0 0 (mUp m (mKp m M V S) (mIt (V, S) j).1 (mIt (V, S) j).2) 28 [(5, .int (nI j)), (4, .int (-5)), (3, .int 0), (0, .ref m), (1, .int (nI n)), (2, .int 1)] [] (gQ kX12_looks (fun M2 v => M2 = mKp m M V S ∧ v = some (.int (mNx (V, S) n)))) := by
    intro q
    induction q with
    | zero =>
      intro j hj hx
      refine gJ_iload dX12_looks_28 rfl ?_
      refine gJ_iload_n dX12_looks_30 rfl rfl ?_
      refine gJ_icmp_geN (tgt := 79) (a := j) (b := n) (by first | with_reducible rfl | rfl) (by first | with_reducible rfl | rfl) (by omega) (by omega) dX12_looks_31 (by decide) (fun _ => ?_) (fun c_ => by exfalso; omega)
      exact gJ_ls (fin _ _ (-5) 0 j (by rw [hx]; rfl)) ⟨rfl, rfl, rfl, rfl, rfl, rfl, trivial⟩
    | succ q ih =>
      intro j hj hx
      obtain ⟨c, hc1, hc2⟩ := mCnt_c (mIt_I (p := (V, S)) hI j)
      refine gJ_iload dX12_looks_28 rfl ?_
      refine gJ_iload_n dX12_looks_30 rfl rfl ?_
      refine gJ_icmp_geN (tgt := 79) (a := j) (b := n) (by first | with_reducible rfl | rfl) (by first | with_reducible rfl | rfl) (by omega) (by omega) dX12_looks_31 (by decide) (fun c_ => by exfalso; omega) (fun _ => ?_)
      refine gJ_iload_n dX12_looks_34 rfl rfl ?_
      refine gJ_if_eqN (tgt := 42) (a := 1) (by first | with_reducible rfl | rfl) (by omega) dX12_looks_35 (by decide) (fun c_ => by exfalso; omega) (fun _ => ?_)
      refine gJ_iload_n dX12_looks_38 rfl rfl ?_
      refine gJ_if_neN (tgt := 79) (a := 0) (by first | with_reducible rfl | rfl) (by omega) dX12_looks_39 (by decide) (fun c_ => by exfalso; omega) (fun _ => ?_)
      refine gJ_iload_n dX12_looks_42 rfl rfl ?_
      refine gJ_aload_n dX12_looks_43 rfl rfl ?_
      refine gJ_callV (As := []) b_X12_step lX12_163 i_X12_step s_X12_step dX12_looks_44 (c12_step (hmU _ _) mUp_V mUp_S (mIt_I (p := (V, S)) hI j)) (hmU _ _) rfl rfl (Nat.le_of_ble_eq_true rfl) rfl (by decide) (fun M44 v_ h44 => ?_)
      obtain ⟨rfl, rfl⟩ := h44
      rw [mUp_up, hc2]
      refine gJ_iaddN (a := 0) (b := c) dX12_looks_47 (by first | with_reducible rfl | rfl) (by first | with_reducible rfl | rfl) ?_
      refine gJ_istore_n (lv2 := [(3, _), (5, _), (4, _), (0, _), (1, _), (2, _)]) dX12_looks_48 rfl rfl rfl ?_
      refine gJ_iload_n dX12_looks_49 rfl rfl ?_
      refine gJ_if_leN (tgt := 69) (a := (0 + c)) (by first | with_reducible rfl | rfl) (by omega) dX12_looks_50 (by decide) (fun c50 => ?_) (fun c50 => ?_)
      · refine gJ_iload dX12_looks_69 rfl ?_
        refine gJ_istore (lv2 := [(4, _), (3, _), (5, _), (0, _), (1, _), (2, _)]) dX12_looks_71 rfl rfl ?_
        refine gJ_iincN (a := j) (b := 1) (lv2 := [(5, _), (4, _), (3, _), (0, _), (1, _), (2, _)]) dX12_looks_73 rfl rfl rfl rfl ?_
        refine gJ_goto (tgt := 28) dX12_looks_76 (by decide) ?_
        have c0 : c = 0 := by omega
        subst c0
        refine gJ_ls (ih (j + 1) (by omega) ?_) ⟨rfl, rfl, rfl, rfl, rfl, rfl, trivial⟩
        rw [hx, mNx, if_pos (by rw [hc2]; rfl), ← mIt]
      · refine gJ_iload dX12_looks_53 rfl ?_
        refine gJ_if_ge (tgt := 69) dX12_looks_55 (by decide) (fun c_ => by exfalso; exact absurd c_ (by decide)) (fun _ => ?_)
        refine gJ_aload_n dX12_looks_58 rfl rfl ?_
        refine gJ_get fX12_9 dX12_looks_59 (by first | with_reducible assumption | exact hmU _ _ | exact mUp_V) rfl ?_
        refine gJ_sipush (v := 1847) dX12_looks_62 (by decide) ?_
        refine gJ_ialdN (j := 1847) dX12_looks_65 (by first | with_reducible assumption | exact hmU _ _ | exact mUp_V) (by first | with_reducible rfl | rfl) (by omega) (by decide) ?_
        refine gJ_goto (tgt := 71) dX12_looks_66 (by decide) ?_
        refine gJ_istore (lv2 := [(4, _), (3, _), (5, _), (0, _), (1, _), (2, _)]) dX12_looks_71 rfl rfl ?_
        refine gJ_iincN (a := j) (b := 1) (lv2 := [(5, _), (4, _), (3, _), (0, _), (1, _), (2, _)]) dX12_looks_73 rfl rfl rfl rfl ?_
        refine gJ_goto (tgt := 28) dX12_looks_76 (by decide) ?_
        exact gJ_ls (ph2 _ _ _ (0 + c) (j + 1) (by omega) (by omega) (by rw [hx, mNx, if_neg (by rw [hc2]; exact nI_ne0 (by omega) (by omega))])) ⟨rfl, rfl, rfl, rfl, rfl, rfl, trivial⟩
  show gJ _ _ _ _ _ _ 0 [(0, _), (1, _), (2, _)] [] _
  refine gJ_aload_n dX12_looks_0 rfl rfl ?_
  refine gJ_get fX12_9 dX12_looks_1 (by first | with_reducible assumption | with_reducible exact gUp_s | with_reducible exact gUp_n (by with_reducible assumption) (by omega) | exact gUp_n (by assumption) (by omega) | assumption) rfl ?_
  refine gJ_aload_n dX12_looks_4 rfl rfl ?_
  refine gJ_get fX12_16 dX12_looks_5 (by first | with_reducible assumption | with_reducible exact gUp_s | with_reducible exact gUp_n (by with_reducible assumption) (by omega) | exact gUp_n (by assumption) (by omega) | assumption) rfl ?_
  refine gJ_aload_n dX12_looks_8 rfl rfl ?_
  refine gJ_get fX12_19 dX12_looks_9 (by first | with_reducible assumption | with_reducible exact gUp_s | with_reducible exact gUp_n (by with_reducible assumption) (by omega) | exact gUp_n (by assumption) (by omega) | assumption) rfl ?_
  refine gJ_aload_n dX12_looks_12 rfl rfl ?_
  refine gJ_get fX12_26 dX12_looks_13 (by first | with_reducible assumption | with_reducible exact gUp_s | with_reducible exact gUp_n (by with_reducible assumption) (by omega) | exact gUp_n (by assumption) (by omega) | assumption) rfl ?_
  refine gJ_callS (As := [_, _, _, _]) b_X12_copies lX12_172 i_X12_copies dX12_looks_16 (c12_copies (m + 1) (m + 3) (m + 4) (m + 6) V K S KS hV hK hS hKS (by omega) (by omega) (by omega) (by omega)) rfl (Nat.le_of_ble_eq_true rfl) rfl (by decide) (fun M16 v_ h16 => ?_)
  obtain ⟨e16, rfl⟩ := h16
  have e16' : M16 = mKp m M V S := e16
  subst e16'
  refine gJ_iconst (v := 0) dX12_looks_19 (by decide) ?_
  refine gJ_istore_n (lv2 := [(3, _), (0, _), (1, _), (2, _)]) dX12_looks_20 rfl rfl rfl ?_
  refine gJ_bipush (v := -5) dX12_looks_21 (by decide) ?_
  refine gJ_istore (lv2 := [(4, _), (3, _), (0, _), (1, _), (2, _)]) dX12_looks_23 rfl rfl ?_
  refine gJ_iconst (v := 0) dX12_looks_25 (by decide) ?_
  refine gJ_istore (lv2 := [(5, _), (4, _), (3, _), (0, _), (1, _), (2, _)]) dX12_looks_26 rfl rfl ?_
  have L := loop n 0 (by omega) rfl
  rw [show mUp m (mKp m M V S) (mIt (V, S) 0).1 (mIt (V, S) 0).2 = mKp m M V S from mUp_id hVK hSK] at L
  exact gJ_ls L ⟨rfl, rfl, rfl, rfl, rfl, rfl, trivial⟩
end MODEL
