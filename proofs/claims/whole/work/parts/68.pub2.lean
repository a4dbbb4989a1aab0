section CLS
variable {G : gG} {M : gM} {a n : Nat} {f : Nat → Option Nat}
set_option maxRecDepth 20000 in
theorem c11_holdsEntry (kind : Nat) (hk : kind < 3) (hn : 4 ≤ n ∧ n ≤ 6) (hA : M.1 a = some (gR (3 + kind) n f)) (x : Int32) : gCon G kX11_holdsEntry 0 0 0 M [.ref a, .int x] (fun M2 v => M2 = M ∧ v = some (.int (gb (mIn x 0 (nI (n - 1)) && (f x.toNatClampNeg).isSome)))) := by
  refine gCon_of (by decide) (Nat.le_of_ble_eq_true rfl) ?_
  cases hin : mIn x 0 (nI (n - 1)) with
  | false =>
    have hz : ¬ x < 0 → ∃ j, x = nI j ∧ j < 2 ^ 31 ∧ n ≤ j := by
      intro h0
      obtain ⟨j, hj, rfl⟩ := nI_of h0
      refine ⟨j, rfl, hj, ?_⟩
      apply Classical.byContradiction
      intro hlt
      rw [mIn, decide_eq_true (nI_pos' hj : (0 : Int32) ≤ nI j), decide_eq_true ((nI_leI hj (by omega)).mpr (by omega : j ≤ n - 1))] at hin
      cases hin
    rcases (show kind = 0 ∨ kind = 1 ∨ kind = 2 by omega) with rfl | rfl | rfl
    · skip
      show gJ _ _ _ _ _ _ 0 [(0, _), (1, _)] [] _
      refine gJ_iload_n dX11_holdsEntry_0 rfl rfl ?_
      refine gJ_if_lt (tgt := 20) dX11_holdsEntry_1 (by decide) (fun c1 => ?_) (fun c1 => ?_)
      · refine gJ_iconst (v := 0) dX11_holdsEntry_20 (by decide) ?_
        refine gJ_zret dX11_holdsEntry_21 rfl (by first | exact gz0 | exact gz1 | exact gb01 _) ?_
        exact ⟨rfl, rfl⟩
      · refine gJ_iload_n dX11_holdsEntry_4 rfl rfl ?_
        refine gJ_aload_n dX11_holdsEntry_5 rfl rfl ?_
        refine gJ_alen (v := nI (n)) dX11_holdsEntry_6 hA rfl rfl ?_
        refine gJ_icmp_ge (tgt := 20) dX11_holdsEntry_7 (by decide) (fun _ => ?_) (fun c_ => by exfalso; obtain ⟨j_, rfl, hj1_, hj2_⟩ := hz c1; exact c_ ((nI_leI (by omega) hj1_).mpr hj2_))
        refine gJ_iconst (v := 0) dX11_holdsEntry_20 (by decide) ?_
        refine gJ_zret dX11_holdsEntry_21 rfl (by first | exact gz0 | exact gz1 | exact gb01 _) ?_
        exact ⟨rfl, rfl⟩
    · skip
      show gJ _ _ _ _ _ _ 0 [(0, _), (1, _)] [] _
      refine gJ_iload_n dX11_holdsEntry_0 rfl rfl ?_
      refine gJ_if_lt (tgt := 20) dX11_holdsEntry_1 (by decide) (fun c1 => ?_) (fun c1 => ?_)
      · refine gJ_iconst (v := 0) dX11_holdsEntry_20 (by decide) ?_
        refine gJ_zret dX11_holdsEntry_21 rfl (by first | exact gz0 | exact gz1 | exact gb01 _) ?_
        exact ⟨rfl, rfl⟩
      · refine gJ_iload_n dX11_holdsEntry_4 rfl rfl ?_
        refine gJ_aload_n dX11_holdsEntry_5 rfl rfl ?_
        refine gJ_alen (v := nI (n)) dX11_holdsEntry_6 hA rfl rfl ?_
        refine gJ_icmp_ge (tgt := 20) dX11_holdsEntry_7 (by decide) (fun _ => ?_) (fun c_ => by exfalso; obtain ⟨j_, rfl, hj1_, hj2_⟩ := hz c1; exact c_ ((nI_leI (by omega) hj1_).mpr hj2_))
        refine gJ_iconst (v := 0) dX11_holdsEntry_20 (by decide) ?_
        refine gJ_zret dX11_holdsEntry_21 rfl (by first | exact gz0 | exact gz1 | exact gb01 _) ?_
        exact ⟨rfl, rfl⟩
    · skip
      show gJ _ _ _ _ _ _ 0 [(0, _), (1, _)] [] _
      refine gJ_iload_n dX11_holdsEntry_0 rfl rfl ?_
      refine gJ_if_lt (tgt := 20) dX11_holdsEntry_1 (by decide) (fun c1 => ?_) (fun c1 => ?_)
      · refine gJ_iconst (v := 0) dX11_holdsEntry_20 (by decide) ?_
        refine gJ_zret dX11_holdsEntry_21 rfl (by first | exact gz0 | exact gz1 | exact gb01 _) ?_
        exact ⟨rfl, rfl⟩
      · refine gJ_iload_n dX11_holdsEntry_4 rfl rfl ?_
        refine gJ_aload_n dX11_holdsEntry_5 rfl rfl ?_
        refine gJ_alen (v := nI (n)) dX11_holdsEntry_6 hA rfl rfl ?_
        refine gJ_icmp_ge (tgt := 20) dX11_holdsEntry_7 (by decide) (fun _ => ?_) (fun c_ => by exfalso; obtain ⟨j_, rfl, hj1_, hj2_⟩ := hz c1; exact c_ ((nI_leI (by omega) hj1_).mpr hj2_))
        refine gJ_iconst (v := 0) dX11_holdsEntry_20 (by decide) ?_
        refine gJ_zret dX11_holdsEntry_21 rfl (by first | exact gz0 | exact gz1 | exact gb01 _) ?_
        exact ⟨rfl, rfl⟩
  | true =>
    obtain ⟨j, hj1, hj0, rfl, hj3⟩ := mIn_nat (lo := 0) (hi := n - 1) hin (by omega)
    rw [hj3]
    cases hf : f j with
    | none =>
      rcases (show kind = 0 ∨ kind = 1 ∨ kind = 2 by omega) with rfl | rfl | rfl
      · skip
        show gJ _ _ _ _ _ _ 0 [(0, _), (1, _)] [] _
        refine gJ_iload_n dX11_holdsEntry_0 rfl rfl ?_
        refine gJ_if_ltN (tgt := 20) (a := j) (by first | with_reducible rfl | rfl) (by omega) dX11_holdsEntry_1 (by decide) (fun c_ => by exfalso; omega) (fun _ => ?_)
        refine gJ_iload_n dX11_holdsEntry_4 rfl rfl ?_
        refine gJ_aload_n dX11_holdsEntry_5 rfl rfl ?_
        refine gJ_alen (v := nI (n)) dX11_holdsEntry_6 hA rfl rfl ?_
        refine gJ_icmp_geN (tgt := 20) (a := j) (b := n) (by first | with_reducible rfl | rfl) (by first | with_reducible rfl | rfl) (by omega) (by omega) dX11_holdsEntry_7 (by decide) (fun c_ => by exfalso; omega) (fun _ => ?_)
        refine gJ_aload_n dX11_holdsEntry_10 rfl rfl ?_
        refine gJ_iload_n dX11_holdsEntry_11 rfl rfl ?_
        refine gJ_aaldN (j := j) dX11_holdsEntry_12 hA rfl (by first | with_reducible rfl | rfl) (by omega) (by omega) hf ?_
        refine gJ_ifnullN (tgt := 20) dX11_holdsEntry_13 (by decide) ?_
        refine gJ_iconst (v := 0) dX11_holdsEntry_20 (by decide) ?_
        refine gJ_zret dX11_holdsEntry_21 rfl (by first | exact gz0 | exact gz1 | exact gb01 _) ?_
        exact ⟨rfl, rfl⟩
      · skip
        show gJ _ _ _ _ _ _ 0 [(0, _), (1, _)] [] _
        refine gJ_iload_n dX11_holdsEntry_0 rfl rfl ?_
        refine gJ_if_ltN (tgt := 20) (a := j) (by first | with_reducible rfl | rfl) (by omega) dX11_holdsEntry_1 (by decide) (fun c_ => by exfalso; omega) (fun _ => ?_)
        refine gJ_iload_n dX11_holdsEntry_4 rfl rfl ?_
        refine gJ_aload_n dX11_holdsEntry_5 rfl rfl ?_
        refine gJ_alen (v := nI (n)) dX11_holdsEntry_6 hA rfl rfl ?_
        refine gJ_icmp_geN (tgt := 20) (a := j) (b := n) (by first | with_reducible rfl | rfl) (by first | with_reducible rfl | rfl) (by omega) (by omega) dX11_holdsEntry_7 (by decide) (fun c_ => by exfalso; omega) (fun _ => ?_)
        refine gJ_aload_n dX11_holdsEntry_10 rfl rfl ?_
        refine gJ_iload_n dX11_holdsEntry_11 rfl rfl ?_
        refine gJ_aaldN (j := j) dX11_holdsEntry_12 hA rfl (by first | with_reducible rfl | rfl) (by omega) (by omega) hf ?_
        refine gJ_ifnullN (tgt := 20) dX11_holdsEntry_13 (by decide) ?_
        refine gJ_iconst (v := 0) dX11_holdsEntry_20 (by decide) ?_
        refine gJ_zret dX11_holdsEntry_21 rfl (by first | exact gz0 | exact gz1 | exact gb01 _) ?_
        exact ⟨rfl, rfl⟩
      · skip
        show gJ _ _ _ _ _ _ 0 [(0, _), (1, _)] [] _
        refine gJ_iload_n dX11_holdsEntry_0 rfl rfl ?_
        refine gJ_if_ltN (tgt := 20) (a := j) (by first | with_reducible rfl | rfl) (by omega) dX11_holdsEntry_1 (by decide) (fun c_ => by exfalso; omega) (fun _ => ?_)
        refine gJ_iload_n dX11_holdsEntry_4 rfl rfl ?_
        refine gJ_aload_n dX11_holdsEntry_5 rfl rfl ?_
        refine gJ_alen (v := nI (n)) dX11_holdsEntry_6 hA rfl rfl ?_
        refine gJ_icmp_geN (tgt := 20) (a := j) (b := n) (by first | with_reducible rfl | rfl) (by first | with_reducible rfl | rfl) (by omega) (by omega) dX11_holdsEntry_7 (by decide) (fun c_ => by exfalso; omega) (fun _ => ?_)
        refine gJ_aload_n dX11_holdsEntry_10 rfl rfl ?_
        refine gJ_iload_n dX11_holdsEntry_11 rfl rfl ?_
        refine gJ_aaldN (j := j) dX11_holdsEntry_12 hA rfl (by first | with_reducible rfl | rfl) (by omega) (by omega) hf ?_
        refine gJ_ifnullN (tgt := 20) dX11_holdsEntry_13 (by decide) ?_
        refine gJ_iconst (v := 0) dX11_holdsEntry_20 (by decide) ?_
        refine gJ_zret dX11_holdsEntry_21 rfl (by first | exact gz0 | exact gz1 | exact gb01 _) ?_
        exact ⟨rfl, rfl⟩
    | some q =>
      rcases (show kind = 0 ∨ kind = 1 ∨ kind = 2 by omega) with rfl | rfl | rfl
      · skip
        show gJ _ _ _ _ _ _ 0 [(0, _), (1, _)] [] _
        refine gJ_iload_n dX11_holdsEntry_0 rfl rfl ?_
        refine gJ_if_ltN (tgt := 20) (a := j) (by first | with_reducible rfl | rfl) (by omega) dX11_holdsEntry_1 (by decide) (fun c_ => by exfalso; omega) (fun _ => ?_)
        refine gJ_iload_n dX11_holdsEntry_4 rfl rfl ?_
        refine gJ_aload_n dX11_holdsEntry_5 rfl rfl ?_
        refine gJ_alen (v := nI (n)) dX11_holdsEntry_6 hA rfl rfl ?_
        refine gJ_icmp_geN (tgt := 20) (a := j) (b := n) (by first | with_reducible rfl | rfl) (by first | with_reducible rfl | rfl) (by omega) (by omega) dX11_holdsEntry_7 (by decide) (fun c_ => by exfalso; omega) (fun _ => ?_)
        refine gJ_aload_n dX11_holdsEntry_10 rfl rfl ?_
        refine gJ_iload_n dX11_holdsEntry_11 rfl rfl ?_
        refine gJ_aaldS (j := j) dX11_holdsEntry_12 hA rfl (by first | with_reducible rfl | rfl) (by omega) (by omega) hf ?_
        refine gJ_ifnull dX11_holdsEntry_13 ?_
        refine gJ_iconst (v := 1) dX11_holdsEntry_16 (by decide) ?_
        refine gJ_goto (tgt := 21) dX11_holdsEntry_17 (by decide) ?_
        refine gJ_zret dX11_holdsEntry_21 rfl (by first | exact gz0 | exact gz1 | exact gb01 _) ?_
        exact ⟨rfl, rfl⟩
      · skip
        show gJ _ _ _ _ _ _ 0 [(0, _), (1, _)] [] _
        refine gJ_iload_n dX11_holdsEntry_0 rfl rfl ?_
        refine gJ_if_ltN (tgt := 20) (a := j) (by first | with_reducible rfl | rfl) (by omega) dX11_holdsEntry_1 (by decide) (fun c_ => by exfalso; omega) (fun _ => ?_)
        refine gJ_iload_n dX11_holdsEntry_4 rfl rfl ?_
        refine gJ_aload_n dX11_holdsEntry_5 rfl rfl ?_
        refine gJ_alen (v := nI (n)) dX11_holdsEntry_6 hA rfl rfl ?_
        refine gJ_icmp_geN (tgt := 20) (a := j) (b := n) (by first | with_reducible rfl | rfl) (by first | with_reducible rfl | rfl) (by omega) (by omega) dX11_holdsEntry_7 (by decide) (fun c_ => by exfalso; omega) (fun _ => ?_)
        refine gJ_aload_n dX11_holdsEntry_10 rfl rfl ?_
        refine gJ_iload_n dX11_holdsEntry_11 rfl rfl ?_
        refine gJ_aaldS (j := j) dX11_holdsEntry_12 hA rfl (by first | with_reducible rfl | rfl) (by omega) (by omega) hf ?_
        refine gJ_ifnull dX11_holdsEntry_13 ?_
        refine gJ_iconst (v := 1) dX11_holdsEntry_16 (by decide) ?_
        refine gJ_goto (tgt := 21) dX11_holdsEntry_17 (by decide) ?_
        refine gJ_zret dX11_holdsEntry_21 rfl (by first | exact gz0 | exact gz1 | exact gb01 _) ?_
        exact ⟨rfl, rfl⟩
      · skip
        show gJ _ _ _ _ _ _ 0 [(0, _), (1, _)] [] _
        refine gJ_iload_n dX11_holdsEntry_0 rfl rfl ?_
        refine gJ_if_ltN (tgt := 20) (a := j) (by first | with_reducible rfl | rfl) (by omega) dX11_holdsEntry_1 (by decide) (fun c_ => by exfalso; omega) (fun _ => ?_)
        refine gJ_iload_n dX11_holdsEntry_4 rfl rfl ?_
        refine gJ_aload_n dX11_holdsEntry_5 rfl rfl ?_
        refine gJ_alen (v := nI (n)) dX11_holdsEntry_6 hA rfl rfl ?_
        refine gJ_icmp_geN (tgt := 20) (a := j) (b := n) (by first | with_reducible rfl | rfl) (by first | with_reducible rfl | rfl) (by omega) (by omega) dX11_holdsEntry_7 (by decide) (fun c_ => by exfalso; omega) (fun _ => ?_)
        refine gJ_aload_n dX11_holdsEntry_10 rfl rfl ?_
        refine gJ_iload_n dX11_holdsEntry_11 rfl rfl ?_
        refine gJ_aaldS (j := j) dX11_holdsEntry_12 hA rfl (by first | with_reducible rfl | rfl) (by omega) (by omega) hf ?_
        refine gJ_ifnull dX11_holdsEntry_13 ?_
        refine gJ_iconst (v := 1) dX11_holdsEntry_16 (by decide) ?_
        refine gJ_goto (tgt := 21) dX11_holdsEntry_17 (by decide) ?_
        refine gJ_zret dX11_holdsEntry_21 rfl (by first | exact gz0 | exact gz1 | exact gb01 _) ?_
        exact ⟨rfl, rfl⟩
set_option maxRecDepth 20000 in
theorem c11_lowestFree (kind : Nat) (hk : kind < 3) (hn : 4 ≤ n ∧ n ≤ 6) (hA : M.1 a = some (gR (3 + kind) n f)) : gCon G kX11_lowestFree 0 0 0 M [.ref a] (fun M2 v => M2 = M ∧ v = some (.int (mFind n (fun k => (f k).isNone)))) := by
  refine gCon_of (by decide) (Nat.le_of_ble_eq_true rfl) ?_
  have loop : ∀ (q j : Nat), j + q = n → (∀ i, i < j → (f i).isNone = false) →
      gJ G kX11_lowestFree 0 0 0 M 2 [(1, .int (nI j)), (0, .ref a)] [] (gQ kX11_lowestFree (fun M2 v => M2 = M ∧ v = some (.int (mFind n (fun k => (f k).isNone))))) := by
    intro q
    induction q with
    | zero =>
      intro j hj hb
      rcases (show kind = 0 ∨ kind = 1 ∨ kind = 2 by omega) with rfl | rfl | rfl
      · skip
        refine gJ_iload_n dX11_lowestFree_2 rfl rfl ?_
        refine gJ_aload_n dX11_lowestFree_3 rfl rfl ?_
        refine gJ_alen (v := nI (n)) dX11_lowestFree_4 hA rfl rfl ?_
        refine gJ_icmp_geN (tgt := 22) (a := j) (b := n) (by first | with_reducible rfl | rfl) (by first | with_reducible rfl | rfl) (by omega) (by omega) dX11_lowestFree_5 (by decide) (fun _ => ?_) (fun c_ => by exfalso; omega)
        refine gJ_bipush (v := -5) dX11_lowestFree_22 (by decide) ?_
        refine gJ_iret dX11_lowestFree_24 rfl ?_
        exact ⟨rfl, by rw [mFind_none (fun i hi => hb i (by omega))]⟩
      · skip
        refine gJ_iload_n dX11_lowestFree_2 rfl rfl ?_
        refine gJ_aload_n dX11_lowestFree_3 rfl rfl ?_
        refine gJ_alen (v := nI (n)) dX11_lowestFree_4 hA rfl rfl ?_
        refine gJ_icmp_geN (tgt := 22) (a := j) (b := n) (by first | with_reducible rfl | rfl) (by first | with_reducible rfl | rfl) (by omega) (by omega) dX11_lowestFree_5 (by decide) (fun _ => ?_) (fun c_ => by exfalso; omega)
        refine gJ_bipush (v := -5) dX11_lowestFree_22 (by decide) ?_
        refine gJ_iret dX11_lowestFree_24 rfl ?_
        exact ⟨rfl, by rw [mFind_none (fun i hi => hb i (by omega))]⟩
      · skip
        refine gJ_iload_n dX11_lowestFree_2 rfl rfl ?_
        refine gJ_aload_n dX11_lowestFree_3 rfl rfl ?_
        refine gJ_alen (v := nI (n)) dX11_lowestFree_4 hA rfl rfl ?_
        refine gJ_icmp_geN (tgt := 22) (a := j) (b := n) (by first | with_reducible rfl | rfl) (by first | with_reducible rfl | rfl) (by omega) (by omega) dX11_lowestFree_5 (by decide) (fun _ => ?_) (fun c_ => by exfalso; omega)
        refine gJ_bipush (v := -5) dX11_lowestFree_22 (by decide) ?_
        refine gJ_iret dX11_lowestFree_24 rfl ?_
        exact ⟨rfl, by rw [mFind_none (fun i hi => hb i (by omega))]⟩
    | succ q ih =>
      intro j hj hb
      cases hf : f j with
      | none =>
        rcases (show kind = 0 ∨ kind = 1 ∨ kind = 2 by omega) with rfl | rfl | rfl
        · skip
          refine gJ_iload_n dX11_lowestFree_2 rfl rfl ?_
          refine gJ_aload_n dX11_lowestFree_3 rfl rfl ?_
          refine gJ_alen (v := nI (n)) dX11_lowestFree_4 hA rfl rfl ?_
          refine gJ_icmp_geN (tgt := 22) (a := j) (b := n) (by first | with_reducible rfl | rfl) (by first | with_reducible rfl | rfl) (by omega) (by omega) dX11_lowestFree_5 (by decide) (fun c_ => by exfalso; omega) (fun _ => ?_)
          refine gJ_aload_n dX11_lowestFree_8 rfl rfl ?_
          refine gJ_iload_n dX11_lowestFree_9 rfl rfl ?_
          refine gJ_aaldN (j := j) dX11_lowestFree_10 hA rfl (by first | with_reducible rfl | rfl) (by omega) (by omega) hf ?_
          refine gJ_ifnonnullN dX11_lowestFree_11 ?_
          refine gJ_iload_n dX11_lowestFree_14 rfl rfl ?_
          refine gJ_iret dX11_lowestFree_15 rfl ?_
          exact ⟨rfl, by rw [mFind_hit (by omega) (show (f j).isNone = true by rw [hf]; rfl) hb]⟩
        · skip
          refine gJ_iload_n dX11_lowestFree_2 rfl rfl ?_
          refine gJ_aload_n dX11_lowestFree_3 rfl rfl ?_
          refine gJ_alen (v := nI (n)) dX11_lowestFree_4 hA rfl rfl ?_
          refine gJ_icmp_geN (tgt := 22) (a := j) (b := n) (by first | with_reducible rfl | rfl) (by first | with_reducible rfl | rfl) (by omega) (by omega) dX11_lowestFree_5 (by decide) (fun c_ => by exfalso; omega) (fun _ => ?_)
          refine gJ_aload_n dX11_lowestFree_8 rfl rfl ?_
          refine gJ_iload_n dX11_lowestFree_9 rfl rfl ?_
          refine gJ_aaldN (j := j) dX11_lowestFree_10 hA rfl (by first | with_reducible rfl | rfl) (by omega) (by omega) hf ?_
          refine gJ_ifnonnullN dX11_lowestFree_11 ?_
          refine gJ_iload_n dX11_lowestFree_14 rfl rfl ?_
          refine gJ_iret dX11_lowestFree_15 rfl ?_
          exact ⟨rfl, by rw [mFind_hit (by omega) (show (f j).isNone = true by rw [hf]; rfl) hb]⟩
        · skip
          refine gJ_iload_n dX11_lowestFree_2 rfl rfl ?_
          refine gJ_aload_n dX11_lowestFree_3 rfl rfl ?_
          refine gJ_alen (v := nI (n)) dX11_lowestFree_4 hA rfl rfl ?_
          refine gJ_icmp_geN (tgt := 22) (a := j) (b := n) (by first | with_reducible rfl | rfl) (by first | with_reducible rfl | rfl) (by omega) (by omega) dX11_lowestFree_5 (by decide) (fun c_ => by exfalso; omega) (fun _ => ?_)
          refine gJ_aload_n dX11_lowestFree_8 rfl rfl ?_
          refine gJ_iload_n dX11_lowestFree_9 rfl rfl ?_
          refine gJ_aaldN (j := j) dX11_lowestFree_10 hA rfl (by first | with_reducible rfl | rfl) (by omega) (by omega) hf ?_
          refine gJ_ifnonnullN dX11_lowestFree_11 ?_
          refine gJ_iload_n dX11_lowestFree_14 rfl rfl ?_
          refine gJ_iret dX11_lowestFree_15 rfl ?_
          exact ⟨rfl, by rw [mFind_hit (by omega) (show (f j).isNone = true by rw [hf]; rfl) hb]⟩
      | some x =>
        rcases (show kind = 0 ∨ kind = 1 ∨ kind = 2 by omega) with rfl | rfl | rfl
        · skip
          refine gJ_iload_n dX11_lowestFree_2 rfl rfl ?_
          refine gJ_aload_n dX11_lowestFree_3 rfl rfl ?_
          refine gJ_alen (v := nI (n)) dX11_lowestFree_4 hA rfl rfl ?_
          refine gJ_icmp_geN (tgt := 22) (a := j) (b := n) (by first | with_reducible rfl | rfl) (by first | with_reducible rfl | rfl) (by omega) (by omega) dX11_lowestFree_5 (by decide) (fun c_ => by exfalso; omega) (fun _ => ?_)
          refine gJ_aload_n dX11_lowestFree_8 rfl rfl ?_
          refine gJ_iload_n dX11_lowestFree_9 rfl rfl ?_
          refine gJ_aaldS (j := j) dX11_lowestFree_10 hA rfl (by first | with_reducible rfl | rfl) (by omega) (by omega) hf ?_
          refine gJ_ifnonnull (tgt := 16) dX11_lowestFree_11 (by decide) ?_
          refine gJ_iincN (a := j) (b := 1) (lv2 := [(1, _), (0, _)]) dX11_lowestFree_16 rfl rfl rfl rfl ?_
          refine gJ_goto (tgt := 2) dX11_lowestFree_19 (by decide) ?_
          refine gJ_ls (ih (j + 1) (by omega) (fun i hi => ?_)) ⟨rfl, rfl, trivial⟩
          rcases Nat.lt_succ_iff_lt_or_eq.mp hi with h | rfl
          · exact hb i h
          · rw [hf]; rfl
        · skip
          refine gJ_iload_n dX11_lowestFree_2 rfl rfl ?_
          refine gJ_aload_n dX11_lowestFree_3 rfl rfl ?_
          refine gJ_alen (v := nI (n)) dX11_lowestFree_4 hA rfl rfl ?_
          refine gJ_icmp_geN (tgt := 22) (a := j) (b := n) (by first | with_reducible rfl | rfl) (by first | with_reducible rfl | rfl) (by omega) (by omega) dX11_lowestFree_5 (by decide) (fun c_ => by exfalso; omega) (fun _ => ?_)
          refine gJ_aload_n dX11_lowestFree_8 rfl rfl ?_
          refine gJ_iload_n dX11_lowestFree_9 rfl rfl ?_
          refine gJ_aaldS (j := j) dX11_lowestFree_10 hA rfl (by first | with_reducible rfl | rfl) (by omega) (by omega) hf ?_
          refine gJ_ifnonnull (tgt := 16) dX11_lowestFree_11 (by decide) ?_
          refine gJ_iincN (a := j) (b := 1) (lv2 := [(1, _), (0, _)]) dX11_lowestFree_16 rfl rfl rfl rfl ?_
          refine gJ_goto (tgt := 2) dX11_lowestFree_19 (by decide) ?_
          refine gJ_ls (ih (j + 1) (by omega) (fun i hi => ?_)) ⟨rfl, rfl, trivial⟩
          rcases Nat.lt_succ_iff_lt_or_eq.mp hi with h | rfl
          · exact hb i h
          · rw [hf]; rfl
        · skip
          refine gJ_iload_n dX11_lowestFree_2 rfl rfl ?_
          refine gJ_aload_n dX11_lowestFree_3 rfl rfl ?_
          refine gJ_alen (v := nI (n)) dX11_lowestFree_4 hA rfl rfl ?_
          refine gJ_icmp_geN (tgt := 22) (a := j) (b := n) (by first | with_reducible rfl | rfl) (by first | with_reducible rfl | rfl) (by omega) (by omega) dX11_lowestFree_5 (by decide) (fun c_ => by exfalso; omega) (fun _ => ?_)
          refine gJ_aload_n dX11_lowestFree_8 rfl rfl ?_
          refine gJ_iload_n dX11_lowestFree_9 rfl rfl ?_
          refine gJ_aaldS (j := j) dX11_lowestFree_10 hA rfl (by first | with_reducible rfl | rfl) (by omega) (by omega) hf ?_
          refine gJ_ifnonnull (tgt := 16) dX11_lowestFree_11 (by decide) ?_
          refine gJ_iincN (a := j) (b := 1) (lv2 := [(1, _), (0, _)]) dX11_lowestFree_16 rfl rfl rfl rfl ?_
          refine gJ_goto (tgt := 2) dX11_lowestFree_19 (by decide) ?_
          refine gJ_ls (ih (j + 1) (by omega) (fun i hi => ?_)) ⟨rfl, rfl, trivial⟩
          rcases Nat.lt_succ_iff_lt_or_eq.mp hi with h | rfl
          · exact hb i h
          · rw [hf]; rfl
  show gJ _ _ _ _ _ _ 0 [(0, _)] [] _
  refine gJ_iconst (v := 0) dX11_lowestFree_0 (by decide) ?_
  refine gJ_istore_n (lv2 := [(1, _), (0, _)]) dX11_lowestFree_1 rfl rfl rfl ?_
  exact gJ_ls (loop n 0 (by omega) (fun i hi => absurd hi (by omega))) ⟨rfl, rfl, trivial⟩
set_option maxRecDepth 20000 in
theorem c11_countEntries (kind : Nat) (hk : kind < 3) (hn : 4 ≤ n ∧ n ≤ 6) (hA : M.1 a = some (gR (3 + kind) n f)) : gCon G kX11_countEntries 0 0 0 M [.ref a] (fun M2 v => M2 = M ∧ v = some (.int (nI ((List.range n).countP (fun k => (f k).isSome))))) := by
  refine gCon_of (by decide) (Nat.le_of_ble_eq_true rfl) ?_
  have loop : ∀ (q j c : Nat), j + q = n → c = (List.range j).countP (fun k => (f k).isSome) → c ≤ j →
      gJ G kX11_countEntries 0 0 0 M 4 [(2, .int (nI j)), (1, .int (nI c)), (0, .ref a)] [] (gQ kX11_countEntries (fun M2 v => M2 = M ∧ v = some (.int (nI ((List.range n).countP (fun k => (f k).isSome)))))) := by
    intro q
    induction q with
    | zero =>
      intro j c hj hp hc
      rcases (show kind = 0 ∨ kind = 1 ∨ kind = 2 by omega) with rfl | rfl | rfl
      · skip
        refine gJ_iload_n dX11_countEntries_4 rfl rfl ?_
        refine gJ_aload_n dX11_countEntries_5 rfl rfl ?_
        refine gJ_alen (v := nI (n)) dX11_countEntries_6 hA rfl rfl ?_
        refine gJ_icmp_geN (tgt := 25) (a := j) (b := n) (by first | with_reducible rfl | rfl) (by first | with_reducible rfl | rfl) (by omega) (by omega) dX11_countEntries_7 (by decide) (fun _ => ?_) (fun c_ => by exfalso; omega)
        refine gJ_iload_n dX11_countEntries_25 rfl rfl ?_
        refine gJ_iret dX11_countEntries_26 rfl ?_
        exact ⟨rfl, by rw [hp, show j = n by omega]⟩
      · skip
        refine gJ_iload_n dX11_countEntries_4 rfl rfl ?_
        refine gJ_aload_n dX11_countEntries_5 rfl rfl ?_
        refine gJ_alen (v := nI (n)) dX11_countEntries_6 hA rfl rfl ?_
        refine gJ_icmp_geN (tgt := 25) (a := j) (b := n) (by first | with_reducible rfl | rfl) (by first | with_reducible rfl | rfl) (by omega) (by omega) dX11_countEntries_7 (by decide) (fun _ => ?_) (fun c_ => by exfalso; omega)
        refine gJ_iload_n dX11_countEntries_25 rfl rfl ?_
        refine gJ_iret dX11_countEntries_26 rfl ?_
        exact ⟨rfl, by rw [hp, show j = n by omega]⟩
      · skip
        refine gJ_iload_n dX11_countEntries_4 rfl rfl ?_
        refine gJ_aload_n dX11_countEntries_5 rfl rfl ?_
        refine gJ_alen (v := nI (n)) dX11_countEntries_6 hA rfl rfl ?_
        refine gJ_icmp_geN (tgt := 25) (a := j) (b := n) (by first | with_reducible rfl | rfl) (by first | with_reducible rfl | rfl) (by omega) (by omega) dX11_countEntries_7 (by decide) (fun _ => ?_) (fun c_ => by exfalso; omega)
        refine gJ_iload_n dX11_countEntries_25 rfl rfl ?_
        refine gJ_iret dX11_countEntries_26 rfl ?_
        exact ⟨rfl, by rw [hp, show j = n by omega]⟩
    | succ q ih =>
      intro j c hj hp hc
      cases hf : f j with
      | none =>
        rcases (show kind = 0 ∨ kind = 1 ∨ kind = 2 by omega) with rfl | rfl | rfl
        · skip
          refine gJ_iload_n dX11_countEntries_4 rfl rfl ?_
          refine gJ_aload_n dX11_countEntries_5 rfl rfl ?_
          refine gJ_alen (v := nI (n)) dX11_countEntries_6 hA rfl rfl ?_
          refine gJ_icmp_geN (tgt := 25) (a := j) (b := n) (by first | with_reducible rfl | rfl) (by first | with_reducible rfl | rfl) (by omega) (by omega) dX11_countEntries_7 (by decide) (fun c_ => by exfalso; omega) (fun _ => ?_)
          refine gJ_aload_n dX11_countEntries_10 rfl rfl ?_
          refine gJ_iload_n dX11_countEntries_11 rfl rfl ?_
          refine gJ_aaldN (j := j) dX11_countEntries_12 hA rfl (by first | with_reducible rfl | rfl) (by omega) (by omega) hf ?_
          refine gJ_ifnullN (tgt := 19) dX11_countEntries_13 (by decide) ?_
          refine gJ_iincN (a := j) (b := 1) (lv2 := [(2, _), (1, _), (0, _)]) dX11_countEntries_19 rfl rfl rfl rfl ?_
          refine gJ_goto (tgt := 4) dX11_countEntries_22 (by decide) ?_
          refine gJ_ls (ih (j + 1) c (by omega) ?_ (by omega)) ⟨rfl, rfl, rfl, trivial⟩
          rw [List.range_succ, List.countP_append, ← hp]
          simp [hf]
        · skip
          refine gJ_iload_n dX11_countEntries_4 rfl rfl ?_
          refine gJ_aload_n dX11_countEntries_5 rfl rfl ?_
          refine gJ_alen (v := nI (n)) dX11_countEntries_6 hA rfl rfl ?_
          refine gJ_icmp_geN (tgt := 25) (a := j) (b := n) (by first | with_reducible rfl | rfl) (by first | with_reducible rfl | rfl) (by omega) (by omega) dX11_countEntries_7 (by decide) (fun c_ => by exfalso; omega) (fun _ => ?_)
          refine gJ_aload_n dX11_countEntries_10 rfl rfl ?_
          refine gJ_iload_n dX11_countEntries_11 rfl rfl ?_
          refine gJ_aaldN (j := j) dX11_countEntries_12 hA rfl (by first | with_reducible rfl | rfl) (by omega) (by omega) hf ?_
          refine gJ_ifnullN (tgt := 19) dX11_countEntries_13 (by decide) ?_
          refine gJ_iincN (a := j) (b := 1) (lv2 := [(2, _), (1, _), (0, _)]) dX11_countEntries_19 rfl rfl rfl rfl ?_
          refine gJ_goto (tgt := 4) dX11_countEntries_22 (by decide) ?_
          refine gJ_ls (ih (j + 1) c (by omega) ?_ (by omega)) ⟨rfl, rfl, rfl, trivial⟩
          rw [List.range_succ, List.countP_append, ← hp]
          simp [hf]
        · skip
          refine gJ_iload_n dX11_countEntries_4 rfl rfl ?_
          refine gJ_aload_n dX11_countEntries_5 rfl rfl ?_
          refine gJ_alen (v := nI (n)) dX11_countEntries_6 hA rfl rfl ?_
          refine gJ_icmp_geN (tgt := 25) (a := j) (b := n) (by first | with_reducible rfl | rfl) (by first | with_reducible rfl | rfl) (by omega) (by omega) dX11_countEntries_7 (by decide) (fun c_ => by exfalso; omega) (fun _ => ?_)
          refine gJ_aload_n dX11_countEntries_10 rfl rfl ?_
          refine gJ_iload_n dX11_countEntries_11 rfl rfl ?_
          refine gJ_aaldN (j := j) dX11_countEntries_12 hA rfl (by first | with_reducible rfl | rfl) (by omega) (by omega) hf ?_
          refine gJ_ifnullN (tgt := 19) dX11_countEntries_13 (by decide) ?_
          refine gJ_iincN (a := j) (b := 1) (lv2 := [(2, _), (1, _), (0, _)]) dX11_countEntries_19 rfl rfl rfl rfl ?_
          refine gJ_goto (tgt := 4) dX11_countEntries_22 (by decide) ?_
          refine gJ_ls (ih (j + 1) c (by omega) ?_ (by omega)) ⟨rfl, rfl, rfl, trivial⟩
          rw [List.range_succ, List.countP_append, ← hp]
          simp [hf]
      | some x =>
        rcases (show kind = 0 ∨ kind = 1 ∨ kind = 2 by omega) with rfl | rfl | rfl
        · skip
          refine gJ_iload_n dX11_countEntries_4 rfl rfl ?_
          refine gJ_aload_n dX11_countEntries_5 rfl rfl ?_
          refine gJ_alen (v := nI (n)) dX11_countEntries_6 hA rfl rfl ?_
          refine gJ_icmp_geN (tgt := 25) (a := j) (b := n) (by first | with_reducible rfl | rfl) (by first | with_reducible rfl | rfl) (by omega) (by omega) dX11_countEntries_7 (by decide) (fun c_ => by exfalso; omega) (fun _ => ?_)
          refine gJ_aload_n dX11_countEntries_10 rfl rfl ?_
          refine gJ_iload_n dX11_countEntries_11 rfl rfl ?_
          refine gJ_aaldS (j := j) dX11_countEntries_12 hA rfl (by first | with_reducible rfl | rfl) (by omega) (by omega) hf ?_
          refine gJ_ifnull dX11_countEntries_13 ?_
          refine gJ_iincN (a := c) (b := 1) (lv2 := [(1, _), (2, _), (0, _)]) dX11_countEntries_16 rfl rfl rfl rfl ?_
          refine gJ_iincN (a := j) (b := 1) (lv2 := [(2, _), (1, _), (0, _)]) dX11_countEntries_19 rfl rfl rfl rfl ?_
          refine gJ_goto (tgt := 4) dX11_countEntries_22 (by decide) ?_
          refine gJ_ls (ih (j + 1) (c + 1) (by omega) ?_ (by omega)) ⟨rfl, rfl, rfl, trivial⟩
          rw [List.range_succ, List.countP_append, ← hp]
          simp [hf]
        · skip
          refine gJ_iload_n dX11_countEntries_4 rfl rfl ?_
          refine gJ_aload_n dX11_countEntries_5 rfl rfl ?_
          refine gJ_alen (v := nI (n)) dX11_countEntries_6 hA rfl rfl ?_
          refine gJ_icmp_geN (tgt := 25) (a := j) (b := n) (by first | with_reducible rfl | rfl) (by first | with_reducible rfl | rfl) (by omega) (by omega) dX11_countEntries_7 (by decide) (fun c_ => by exfalso; omega) (fun _ => ?_)
          refine gJ_aload_n dX11_countEntries_10 rfl rfl ?_
          refine gJ_iload_n dX11_countEntries_11 rfl rfl ?_
          refine gJ_aaldS (j := j) dX11_countEntries_12 hA rfl (by first | with_reducible rfl | rfl) (by omega) (by omega) hf ?_
          refine gJ_ifnull dX11_countEntries_13 ?_
          refine gJ_iincN (a := c) (b := 1) (lv2 := [(1, _), (2, _), (0, _)]) dX11_countEntries_16 rfl rfl rfl rfl ?_
          refine gJ_iincN (a := j) (b := 1) (lv2 := [(2, _), (1, _), (0, _)]) dX11_countEntries_19 rfl rfl rfl rfl ?_
          refine gJ_goto (tgt := 4) dX11_countEntries_22 (by decide) ?_
          refine gJ_ls (ih (j + 1) (c + 1) (by omega) ?_ (by omega)) ⟨rfl, rfl, rfl, trivial⟩
          rw [List.range_succ, List.countP_append, ← hp]
          simp [hf]
        · skip
          refine gJ_iload_n dX11_countEntries_4 rfl rfl ?_
          refine gJ_aload_n dX11_countEntries_5 rfl rfl ?_
          refine gJ_alen (v := nI (n)) dX11_countEntries_6 hA rfl rfl ?_
          refine gJ_icmp_geN (tgt := 25) (a := j) (b := n) (by first | with_reducible rfl | rfl) (by first | with_reducible rfl | rfl) (by omega) (by omega) dX11_countEntries_7 (by decide) (fun c_ => by exfalso; omega) (fun _ => ?_)
          refine gJ_aload_n dX11_countEntries_10 rfl rfl ?_
          refine gJ_iload_n dX11_countEntries_11 rfl rfl ?_
          refine gJ_aaldS (j := j) dX11_countEntries_12 hA rfl (by first | with_reducible rfl | rfl) (by omega) (by omega) hf ?_
          refine gJ_ifnull dX11_countEntries_13 ?_
          refine gJ_iincN (a := c) (b := 1) (lv2 := [(1, _), (2, _), (0, _)]) dX11_countEntries_16 rfl rfl rfl rfl ?_
          refine gJ_iincN (a := j) (b := 1) (lv2 := [(2, _), (1, _), (0, _)]) dX11_countEntries_19 rfl rfl rfl rfl ?_
          refine gJ_goto (tgt := 4) dX11_countEntries_22 (by decide) ?_
          refine gJ_ls (ih (j + 1) (c + 1) (by omega) ?_ (by omega)) ⟨rfl, rfl, rfl, trivial⟩
          rw [List.range_succ, List.countP_append, ← hp]
          simp [hf]
  show gJ _ _ _ _ _ _ 0 [(0, _)] [] _
  refine gJ_iconst (v := 0) dX11_countEntries_0 (by decide) ?_
  refine gJ_istore_n (lv2 := [(1, _), (0, _)]) dX11_countEntries_1 rfl rfl rfl ?_
  refine gJ_iconst (v := 0) dX11_countEntries_2 (by decide) ?_
  refine gJ_istore_n (lv2 := [(2, _), (1, _), (0, _)]) dX11_countEntries_3 rfl rfl rfl ?_
  exact gJ_ls (loop n 0 0 (by omega) rfl (by omega)) ⟨rfl, rfl, rfl, trivial⟩
theorem cOneR {E : Nat} {V : Nat → Int32} {RU : Nat → Option Nat} (h : ∀ r, r < 5 → cRul M E V r (RU r)) (k : Nat) (hk : k < 5) : (RU k).isSome = mOneN V 0 k := by
  have e : mOneN V 0 k = decide (V (60 + 10 * k) = 1) := rfl
  rw [e]
  rcases h k hk with ⟨h1, h2⟩ | ⟨h1, q, mq, h2, -⟩ <;> rw [h1, h2] <;> rfl
theorem cOneS {E : Nat} {V : Nat → Int32} {RU : Nat → Option Nat} (h : ∀ r, r < 6 → cSil M E V r (RU r)) (k : Nat) (hk : k < 6) : (RU k).isSome = mOneN V 1 k := by
  have e : mOneN V 1 k = decide (V (110 + 8 * k) = 1) := rfl
  rw [e]
  rcases h k hk with ⟨h1, h2⟩ | ⟨h1, q, mq, h2, -⟩ <;> rw [h1, h2] <;> rfl
theorem cOneI {E : Nat} {V : Nat → Int32} {RU : Nat → Option Nat} (h : ∀ r, r < 4 → cInh M E V r (RU r)) (k : Nat) (hk : k < 4) : (RU k).isSome = mOneN V 2 k := by
  have e : mOneN V 2 k = decide (V (158 + 12 * k) = 1) := rfl
  rw [e]
  rcases h k hk with ⟨h1, h2⟩ | ⟨h1, q, mq, nq, h2, -⟩ <;> rw [h1, h2] <;> rfl
/-- the slots of a kind hold what the row says -/
def cSlots (V : Nat → Int32) (kind : Nat) (f : Nat → Option Nat) : Prop := ∀ k, k < mMst kind → (f k).isSome = mOneN V kind k
theorem cSlots_many {V : Nat → Int32} {kind : Nat} (h : cSlots V kind f) : (List.range (mMst kind)).countP (fun k => (f k).isSome) = mMany V kind := by
  unfold mMany
  apply List.countP_congr
  intro x hx
  rw [h x (List.mem_range.mp hx)]
theorem cSlots_one {V : Nat → Int32} {kind : Nat} (h : cSlots V kind f) (x : Int32) : (mIn x 0 (nI (mMst kind - 1)) && (f x.toNatClampNeg).isSome) = mOne V kind x := by
  unfold mOne
  cases hin : mIn x 0 (nI (mMst kind - 1)) with
  | false => rfl
  | true =>
    have hb := mMst_b kind
    obtain ⟨j, hj1, hj0, rfl, hj3⟩ := mIn_nat (lo := 0) (hi := mMst kind - 1) hin (by omega)
    rw [hj3, h j (by omega)]
theorem cSlots_free {V : Nat → Int32} {kind : Nat} (h : cSlots V kind f) : mFind (mMst kind) (fun k => (f k).isNone) = if mMany V kind = mMst kind then -5 else nI (mFree V kind) := by
  have hb := mMst_b kind
  have e : ∀ k, k < mMst kind → (f k).isNone = !mOneN V kind k := by
    intro k hk
    rw [← h k hk]
    cases f k <;> rfl
  by_cases hfull : mMany V kind = mMst kind
  · rw [if_pos hfull]
    have hall : ∀ k, k < mMst kind → mOneN V kind k = true := by
      intro k hk
      have h2 : (List.range (mMst kind)).countP (mOneN V kind) = (List.range (mMst kind)).length := by rw [List.length_range]; exact hfull
      rw [List.countP_eq_length] at h2
      exact h2 k (List.mem_range.mpr hk)
    exact mFind_none (fun i hi => by rw [e i hi, hall i hi]; rfl)
  · rw [if_neg hfull]
    obtain ⟨h1, h2, h3⟩ := mFree_is hfull
    exact mFind_hit h1 (by rw [e _ h1, h2]; rfl) (fun i hi => by rw [e i (by omega), h3 i hi]; rfl)
end CLS
