def mNe (V : Nat → Int32) (act : Int64) (key : Nat) : Bool := !(decide (mWith V act (nI key) = 0))
def mNeN (V : Nat → Int32) (act : Int64) (n : Nat) : Nat := (List.range n).countP (mNe V act)
def mKeyQ (V : Nat → Int32) (act : Int64) (x : Int32) (key : Nat) : Bool := mNe V act key && decide (nI (mNeN V act key) = x)
def aKey (V : Nat → Int32) (x : Int32) : Int32 := if (List.range 128).any (mKeyQ V (mActs V) x) = true then mFind 128 (mKeyQ V (mActs V) x) else if x = -1 then nI (mNeN V (mActs V) 128) else -1
def mLater (V : Nat → Int32) (x : Int32) : Int32 := if V 1847 < x then x else V 1847 + 1
def aGroup (p : mT) (key w : Int32) : Int32 :=
  if (mIn key 0 127 && mIn w 0 4) = true then
    if w.toNatClampNeg = 0 then (if p.1 (1586 + 2 * key.toNatClampNeg) = 1 then 1 else 0)
    else if w.toNatClampNeg = 1 then (if p.1 (1586 + 2 * key.toNatClampNeg) = 1 then p.1 (1586 + 2 * key.toNatClampNeg + 1) else -5)
    else if w.toNatClampNeg = 2 then nI (mSize (mWith p.1 (mActs p.1) key))
    else if w.toNatClampNeg = 3 then nI (mSize (if p.1 (1586 + 2 * key.toNatClampNeg) = 1 then mWith p.1 (mActs p.1) key &&& (p.2 key.toNatClampNeg ^^^ (-1)) else mWith p.1 (mActs p.1) key))
    else if mWith p.1 (mActs p.1) key = 0 then (if p.1 (1586 + 2 * key.toNatClampNeg) = 1 then p.1 1847 + 1 else -5)
    else if p.1 (1586 + 2 * key.toNatClampNeg) = 1 then
      (if mWith p.1 (mActs p.1) key &&& (p.2 key.toNatClampNeg ^^^ (-1)) = 0 then mLater p.1 (p.1 (1586 + 2 * key.toNatClampNeg + 1) + p.1 1843)
       else if mLater p.1 (p.1 (1586 + 2 * key.toNatClampNeg + 1) + p.1 1843) ≤ mLater p.1 (p.1 (1586 + 2 * key.toNatClampNeg + 1) + p.1 1842) then mLater p.1 (p.1 (1586 + 2 * key.toNatClampNeg + 1) + p.1 1843) else mLater p.1 (p.1 (1586 + 2 * key.toNatClampNeg + 1) + p.1 1842))
    else p.1 1847 + 1
  else -1
theorem aGroup_in (V : Nat → Int32) (S : Nat → Int64) {k z : Nat} (hk : k ≤ 127) (hz : z ≤ 4) : aGroup (V, S) (nI k) (nI z) =
    if z = 0 then (if V (1586 + 2 * k) = 1 then 1 else 0)
    else if z = 1 then (if V (1586 + 2 * k) = 1 then V (1586 + 2 * k + 1) else -5)
    else if z = 2 then nI (mSize (mWith V (mActs V) (nI k)))
    else if z = 3 then nI (mSize (if V (1586 + 2 * k) = 1 then mWith V (mActs V) (nI k) &&& (S k ^^^ (-1)) else mWith V (mActs V) (nI k)))
    else if mWith V (mActs V) (nI k) = 0 then (if V (1586 + 2 * k) = 1 then V 1847 + 1 else -5)
    else if V (1586 + 2 * k) = 1 then
      (if mWith V (mActs V) (nI k) &&& (S k ^^^ (-1)) = 0 then mLater V (V (1586 + 2 * k + 1) + V 1843)
       else if mLater V (V (1586 + 2 * k + 1) + V 1843) ≤ mLater V (V (1586 + 2 * k + 1) + V 1842) then mLater V (V (1586 + 2 * k + 1) + V 1843) else mLater V (V (1586 + 2 * k + 1) + V 1842))
    else V 1847 + 1 := by
  have h1 : (mIn (nI k) 0 127 && mIn (nI z) 0 4) = true := by
    rw [mIn, mIn, decide_eq_true (nI_pos' (by omega) : (0 : Int32) ≤ nI k), decide_eq_true (show nI k ≤ (127 : Int32) from (nI_leI (b := 127) (by omega) (by decide)).mpr hk), decide_eq_true (nI_pos' (by omega) : (0 : Int32) ≤ nI z), decide_eq_true (show nI z ≤ (4 : Int32) from (nI_leI (b := 4) (by omega) (by decide)).mpr hz)]
    rfl
  rw [aGroup, if_pos h1, nI_clamp (show k < 2 ^ 31 by omega), nI_clamp (show z < 2 ^ 31 by omega)]
def mUse (V : Nat → Int32) (k : Nat) : Bool := (List.range 60).any (fun a => decide (V (206 + 23 * a) = 2) && mSil V a k)
section MODEL
variable {G : gG} {M : gM} {m : Nat} {hi tn at_ fa : Int32} {V K IV : Nat → Int32} {S KS IS : Nat → Int64}
set_option maxRecDepth 20000 in
theorem c12_key (hm : M.1 m = some (mO m hi tn at_ fa)) (hV : M.1 (m + 1) = some (gI 1999 V)) (hI : mI V) (x : Int32) : gCon G kX12_key 5 0 0 M [.ref m, .int x] (fun M2 v => M2 = M ∧ v = some (.int (aKey V x))) := by
  refine gCon_of (by decide) (Nat.le_of_ble_eq_true rfl) ?_
  have loop : ∀ (act : Int64), act = mActs V → ∀ (q j c : Nat), j + q = 129 → j ≤ 128 → c = mNeN V act j → c ≤ j → (∀ i, i < j → mKeyQ V act x i = false) →
      gJ G kX12_key 5 0 0 M 11 [(5, .int (nI j)), (4, .int (nI c)), (2, .long act), (0, .ref m), (1, .int x)] [] (gQ kX12_key (fun M2 v => M2 = M ∧ v = some (.int (aKey V x)))) := by
    intro act hact q
    induction q with
    | zero => intro j c h1 h2; exact absurd h1 (by omega)
    | succ q ih =>
      intro j c hq hj hp hc hb
      refine gJ_iload dX12_key_11 rfl ?_
      refine gJ_sipush (v := 128) dX12_key_13 (by decide) ?_
      refine gJ_icmp_geN (tgt := 52) (a := j) (b := 128) (by first | with_reducible rfl | rfl) (by first | with_reducible rfl | rfl) (by omega) (by omega) dX12_key_16 (by decide) (fun c16 => ?_) (fun c16 => ?_)
      · refine gJ_iload_n dX12_key_52 rfl rfl ?_
        refine gJ_iconst (v := -1) dX12_key_53 (by decide) ?_
        refine gJ_icmp_ne (tgt := 62) dX12_key_54 (by decide) (fun c54 => ?_) (fun c54 => ?_)
        · refine gJ_iconst (v := -1) dX12_key_62 (by decide) ?_
          refine gJ_iret dX12_key_63 rfl ?_
          refine ⟨rfl, ?_⟩
          have e1 : j = 128 := by omega
          subst e1
          rw [aKey, ← hact, if_neg (by rw [any_f hb]; exact Bool.false_ne_true), if_neg c54]
        · refine gJ_iload dX12_key_57 rfl ?_
          refine gJ_goto (tgt := 63) dX12_key_59 (by decide) ?_
          refine gJ_iret dX12_key_63 rfl ?_
          refine ⟨rfl, ?_⟩
          have e1 : j = 128 := by omega
          subst e1
          rw [aKey, ← hact, if_neg (by rw [any_f hb]; exact Bool.false_ne_true), if_pos c54, hp]
      · refine gJ_aload_n dX12_key_19 rfl rfl ?_
        refine gJ_lload_n dX12_key_20 rfl rfl ?_
        refine gJ_iload dX12_key_21 rfl ?_
        refine gJ_callV (As := [_, _]) b_X12_withKey lX12_152 i_X12_withKey s_X12_withKey dX12_key_23 (c12_withKey hm hV act (nI j)) (by first | with_reducible assumption | with_reducible exact gUp_s | with_reducible exact gUp_n (by with_reducible assumption) (by omega) | exact gUp_n (by assumption) (by omega) | assumption) rfl rfl (Nat.le_of_ble_eq_true rfl) rfl (by decide) (fun M23 v_ h23 => ?_)
        obtain ⟨e23, rfl⟩ := h23
        replace e23 := e23.symm
        subst e23
        refine gJ_lconst (v := 0) dX12_key_26 (by decide) ?_
        refine gJ_lcmp dX12_key_27 ?_
        refine gJ_if_ne (tgt := 34) dX12_key_28 (by decide) (fun c28 => ?_) (fun c28 => ?_)
        · refine gJ_iload dX12_key_34 rfl ?_
          refine gJ_iload_n dX12_key_36 rfl rfl ?_
          refine gJ_icmp_ne (tgt := 43) dX12_key_37 (by decide) (fun c37 => ?_) (fun c37 => ?_)
          · refine gJ_iincN (a := c) (b := 1) (lv2 := [(4, _), (5, _), (2, _), (0, _), (1, _)]) dX12_key_43 rfl rfl rfl rfl ?_
            refine gJ_iincN (a := j) (b := 1) (lv2 := [(5, _), (4, _), (2, _), (0, _), (1, _)]) dX12_key_46 rfl rfl rfl rfl ?_
            refine gJ_goto (tgt := 11) dX12_key_49 (by decide) ?_
            have hne : mNe V act j = true := by rw [mNe, decide_eq_false (fun h => c28 ((lg_cmp_eq _ _).mpr h))]; rfl
            refine gJ_ls (ih (j + 1) _ (by omega) (by omega) ?_ (by omega) ?_) ⟨rfl, rfl, rfl, rfl, rfl, trivial⟩
            · rw [mNeN, List.range_succ, List.countP_append, ← mNeN, ← hp]; simp [hne]
            · intro i hi; rcases Nat.lt_succ_iff_lt_or_eq.mp hi with h | rfl
              · exact hb i h
              · rw [mKeyQ, ← hp, decide_eq_false c37, Bool.and_false]
          · refine gJ_iload dX12_key_40 rfl ?_
            refine gJ_iret dX12_key_42 rfl ?_
            refine ⟨rfl, ?_⟩
            have hne : mNe V act j = true := by rw [mNe, decide_eq_false (fun h => c28 ((lg_cmp_eq _ _).mpr h))]; rfl
            have hQ : mKeyQ V act x j = true := by rw [mKeyQ, hne, ← hp, decide_eq_true c37]; rfl
            rw [aKey, ← hact, if_pos (any_t (by omega) hQ), mFind_hit (by omega) hQ hb]
        · refine gJ_goto (tgt := 46) dX12_key_31 (by decide) ?_
          refine gJ_iincN (a := j) (b := 1) (lv2 := [(5, _), (4, _), (2, _), (0, _), (1, _)]) dX12_key_46 rfl rfl rfl rfl ?_
          refine gJ_goto (tgt := 11) dX12_key_49 (by decide) ?_
          have hne : mNe V act j = false := by rw [mNe, decide_eq_true ((lg_cmp_eq _ _).mp c28)]; rfl
          refine gJ_ls (ih (j + 1) _ (by omega) (by omega) ?_ (by omega) ?_) ⟨rfl, rfl, rfl, rfl, rfl, trivial⟩
          · rw [mNeN, List.range_succ, List.countP_append, ← mNeN, ← hp]; simp [hne]
          · intro i hi; rcases Nat.lt_succ_iff_lt_or_eq.mp hi with h | rfl
            · exact hb i h
            · rw [mKeyQ, hne, Bool.false_and]
  show gJ _ _ _ _ _ _ 0 [(0, _), (1, _)] [] _
  refine gJ_aload_n dX12_key_0 rfl rfl ?_
  refine gJ_callV (As := []) b_X12_actives lX12_148 i_X12_actives s_X12_actives dX12_key_1 (c12_actives hm hV hI) (by first | with_reducible assumption | with_reducible exact gUp_s | with_reducible exact gUp_n (by with_reducible assumption) (by omega) | exact gUp_n (by assumption) (by omega) | assumption) rfl rfl (Nat.le_of_ble_eq_true rfl) rfl (by decide) (fun M1 v_ h1 => ?_)
  obtain ⟨e1_, rfl⟩ := h1
  replace e1_ := e1_.symm
  subst e1_
  refine gJ_lstore_n (lv2 := [(2, _), (0, _), (1, _)]) dX12_key_4 rfl rfl rfl ?_
  refine gJ_iconst (v := 0) dX12_key_5 (by decide) ?_
  refine gJ_istore (lv2 := [(4, _), (2, _), (0, _), (1, _)]) dX12_key_6 rfl rfl ?_
  refine gJ_iconst (v := 0) dX12_key_8 (by decide) ?_
  refine gJ_istore (lv2 := [(5, _), (4, _), (2, _), (0, _), (1, _)]) dX12_key_9 rfl rfl ?_
  exact gJ_ls (loop _ rfl 129 0 0 (by omega) (by omega) rfl (by omega) (fun i hi => absurd hi (by omega))) ⟨rfl, rfl, rfl, rfl, rfl, trivial⟩
set_option maxHeartbeats 4000000 in
set_option maxRecDepth 20000 in
theorem c12_group (hm : M.1 m = some (mO m hi tn at_ fa)) (hV : M.1 (m + 1) = some (gI 1999 V)) (hS : M.1 (m + 4) = some (gL 128 S)) (hI : mI V) (x w : Int32) : gCon G kX12_group 5 0 0 M [.ref m, .int x, .int w] (fun M2 v => M2 = M ∧ v = some (.int (aGroup (V, S) x w))) := by
  refine gCon_of (by decide) (Nat.le_of_ble_eq_true rfl) ?_
  show gJ _ _ _ _ _ _ 0 [(0, _), (1, _), (2, _)] [] _
  refine gJ_iload_n dX12_group_0 rfl rfl ?_
  refine gJ_iconst (v := 0) dX12_group_1 (by decide) ?_
  refine gJ_bipush (v := 127) dX12_group_2 (by decide) ?_
  refine gJ_callS (As := [_, _, _]) b_X12_isIn lX12_35 i_X12_isIn dX12_group_4 (c12_isIn _ _ _) rfl (Nat.le_of_ble_eq_true rfl) rfl (by decide) (fun M4 v_ h4 => ?_)
  obtain ⟨e4, rfl⟩ := h4
  replace e4 := e4.symm
  subst e4
  refine gJ_if_eqB (tgt := 19) dX12_group_7 (by decide) (fun c7 => ?_) (fun c7 => ?_)
  · refine gJ_iconst (v := -1) dX12_group_19 (by decide) ?_
    refine gJ_iret dX12_group_20 rfl ?_
    have hA : aGroup (V, S) x w = -1 := by simp only [aGroup, mIn, c7, Bool.false_and, Bool.false_eq_true, ↓reduceIte]
    rw [hA]
    exact ⟨rfl, rfl⟩
  · refine gJ_iload_n dX12_group_10 rfl rfl ?_
    refine gJ_iconst (v := 0) dX12_group_11 (by decide) ?_
    refine gJ_iconst (v := 4) dX12_group_12 (by decide) ?_
    refine gJ_callS (As := [_, _, _]) b_X12_isIn lX12_35 i_X12_isIn dX12_group_13 (c12_isIn _ _ _) rfl (Nat.le_of_ble_eq_true rfl) rfl (by decide) (fun M13 v_ h13 => ?_)
    obtain ⟨e13, rfl⟩ := h13
    replace e13 := e13.symm
    subst e13
    refine gJ_if_neB (tgt := 21) dX12_group_16 (by decide) (fun c16 => ?_) (fun c16 => ?_)
    · obtain ⟨k, hk1, hk0, hk2, hk3⟩ := mIn_nat (lo := 0) (hi := 127) c7 (by decide)
      obtain ⟨z, hz1, hz0, hz2, hz3⟩ := mIn_nat (lo := 0) (hi := 4) c16 (by decide)
      subst hk2 hz2
      have hG := aGroup_in V S hk1 hz1
      refine gJ_aload_n dX12_group_21 rfl rfl ?_
      refine gJ_get fX12_9 dX12_group_22 (by first | with_reducible assumption | with_reducible exact gUp_s | with_reducible exact gUp_n (by with_reducible assumption) (by omega) | exact gUp_n (by assumption) (by omega) | assumption) rfl ?_
      refine gJ_sipush (v := 1586) dX12_group_25 (by decide) ?_
      refine gJ_iconst (v := 2) dX12_group_28 (by decide) ?_
      refine gJ_iload_n dX12_group_29 rfl rfl ?_
      refine gJ_imulN (a := 2) (b := k) dX12_group_30 (by first | with_reducible rfl | rfl) (by first | with_reducible rfl | rfl) ?_
      refine gJ_iaddN (a := 1586) (b := (2 * k)) dX12_group_31 (by first | with_reducible rfl | rfl) (by first | with_reducible rfl | rfl) ?_
      refine gJ_ialdN (j := (1586 + (2 * k))) dX12_group_32 (by first | with_reducible assumption | with_reducible exact gUp_s | with_reducible exact gUp_n (by with_reducible assumption) (by omega) | exact gUp_n (by assumption) (by omega) | assumption) (by first | with_reducible rfl | rfl) (by omega) (by decide) ?_
      refine gJ_iconst (v := 1) dX12_group_33 (by decide) ?_
      refine gJ_icmp_ne (tgt := 41) dX12_group_34 (by decide) (fun c34 => ?_) (fun c34 => ?_)
      · refine gJ_iconst (v := 0) dX12_group_41 (by decide) ?_
        refine gJ_istore_n (lv2 := [(3, _), (0, _), (1, _), (2, _)]) dX12_group_42 rfl rfl rfl ?_
        refine gJ_aload_n dX12_group_43 rfl rfl ?_
        refine gJ_get fX12_9 dX12_group_44 (by first | with_reducible assumption | with_reducible exact gUp_s | with_reducible exact gUp_n (by with_reducible assumption) (by omega) | exact gUp_n (by assumption) (by omega) | assumption) rfl ?_
        refine gJ_sipush (v := 1586) dX12_group_47 (by decide) ?_
        refine gJ_iconst (v := 2) dX12_group_50 (by decide) ?_
        refine gJ_iload_n dX12_group_51 rfl rfl ?_
        refine gJ_imulN (a := 2) (b := k) dX12_group_52 (by first | with_reducible rfl | rfl) (by first | with_reducible rfl | rfl) ?_
        refine gJ_iaddN (a := 1586) (b := (2 * k)) dX12_group_53 (by first | with_reducible rfl | rfl) (by first | with_reducible rfl | rfl) ?_
        refine gJ_iconst (v := 1) dX12_group_54 (by decide) ?_
        refine gJ_iaddN (a := (1586 + (2 * k))) (b := 1) dX12_group_55 (by first | with_reducible rfl | rfl) (by first | with_reducible rfl | rfl) ?_
        refine gJ_ialdN (j := ((1586 + (2 * k)) + 1)) dX12_group_56 (by first | with_reducible assumption | with_reducible exact gUp_s | with_reducible exact gUp_n (by with_reducible assumption) (by omega) | exact gUp_n (by assumption) (by omega) | assumption) (by first | with_reducible rfl | rfl) (by omega) (by decide) ?_
        refine gJ_istore (lv2 := [(4, _), (3, _), (0, _), (1, _), (2, _)]) dX12_group_57 rfl rfl ?_
        refine gJ_iload_n dX12_group_59 rfl rfl ?_
        refine gJ_if_neN (tgt := 73) (a := z) (by first | with_reducible rfl | rfl) (by omega) dX12_group_60 (by decide) (fun c60 => ?_) (fun c60 => ?_)
        · refine gJ_iload_n dX12_group_73 rfl rfl ?_
          refine gJ_iconst (v := 1) dX12_group_74 (by decide) ?_
          refine gJ_icmp_neN (tgt := 90) (a := z) (b := 1) (by first | with_reducible rfl | rfl) (by first | with_reducible rfl | rfl) (by omega) (by omega) dX12_group_75 (by decide) (fun c75 => ?_) (fun c75 => ?_)
          · refine gJ_aload_n dX12_group_90 rfl rfl ?_
            refine gJ_aload_n dX12_group_91 rfl rfl ?_
            refine gJ_callV (As := []) b_X12_actives lX12_148 i_X12_actives s_X12_actives dX12_group_92 (c12_actives hm hV hI) (by first | with_reducible assumption | with_reducible exact gUp_s | with_reducible exact gUp_n (by with_reducible assumption) (by omega) | exact gUp_n (by assumption) (by omega) | assumption) rfl rfl (Nat.le_of_ble_eq_true rfl) rfl (by decide) (fun M92 v_ h92 => ?_)
            obtain ⟨e92, rfl⟩ := h92
            replace e92 := e92.symm
            subst e92
            refine gJ_iload_n dX12_group_95 rfl rfl ?_
            refine gJ_callV (As := [_, _]) b_X12_withKey lX12_152 i_X12_withKey s_X12_withKey dX12_group_96 (c12_withKey hm hV _ _) (by first | with_reducible assumption | with_reducible exact gUp_s | with_reducible exact gUp_n (by with_reducible assumption) (by omega) | exact gUp_n (by assumption) (by omega) | assumption) rfl rfl (Nat.le_of_ble_eq_true rfl) rfl (by decide) (fun M96 v_ h96 => ?_)
            obtain ⟨e96, rfl⟩ := h96
            replace e96 := e96.symm
            subst e96
            refine gJ_lstore (lv2 := [(5, _), (4, _), (3, _), (0, _), (1, _), (2, _)]) dX12_group_99 rfl rfl ?_
            refine gJ_iload_n dX12_group_101 rfl rfl ?_
            refine gJ_if_eqN (tgt := 121) (a := 0) (by first | with_reducible rfl | rfl) (by omega) dX12_group_102 (by decide) (fun _ => ?_) (fun c_ => by exfalso; omega)
            refine gJ_lload dX12_group_121 rfl ?_
            refine gJ_lstore (lv2 := [(7, _), (5, _), (4, _), (3, _), (0, _), (1, _), (2, _)]) dX12_group_123 rfl rfl ?_
            refine gJ_iload_n dX12_group_125 rfl rfl ?_
            refine gJ_iconst (v := 4) dX12_group_126 (by decide) ?_
            refine gJ_icmp_geN (tgt := 146) (a := z) (b := 4) (by first | with_reducible rfl | rfl) (by first | with_reducible rfl | rfl) (by omega) (by omega) dX12_group_127 (by decide) (fun c127 => ?_) (fun c127 => ?_)
            · refine gJ_iload_n dX12_group_146 rfl rfl ?_
              refine gJ_if_neN (tgt := 160) (a := 0) (by first | with_reducible rfl | rfl) (by omega) dX12_group_147 (by decide) (fun c_ => by exfalso; omega) (fun _ => ?_)
              refine gJ_lload dX12_group_150 rfl ?_
              refine gJ_lconst (v := 0) dX12_group_152 (by decide) ?_
              refine gJ_lcmp dX12_group_153 ?_
              refine gJ_if_ne (tgt := 160) dX12_group_154 (by decide) (fun c154 => ?_) (fun c154 => ?_)
              · refine gJ_iload_n dX12_group_160 rfl rfl ?_
                refine gJ_if_eqN (tgt := 171) (a := 0) (by first | with_reducible rfl | rfl) (by omega) dX12_group_161 (by decide) (fun _ => ?_) (fun c_ => by exfalso; omega)
                refine gJ_aload_n dX12_group_171 rfl rfl ?_
                refine gJ_get fX12_9 dX12_group_172 (by first | with_reducible assumption | with_reducible exact gUp_s | with_reducible exact gUp_n (by with_reducible assumption) (by omega) | exact gUp_n (by assumption) (by omega) | assumption) rfl ?_
                refine gJ_sipush (v := 1847) dX12_group_175 (by decide) ?_
                refine gJ_ialdN (j := 1847) dX12_group_178 (by first | with_reducible assumption | with_reducible exact gUp_s | with_reducible exact gUp_n (by with_reducible assumption) (by omega) | exact gUp_n (by assumption) (by omega) | assumption) (by first | with_reducible rfl | rfl) (by omega) (by decide) ?_
                refine gJ_iconst (v := 1) dX12_group_179 (by decide) ?_
                refine gJ_iadd dX12_group_180 ?_
                refine gJ_iret dX12_group_181 rfl ?_
                refine ⟨rfl, ?_⟩
                rw [hG, if_neg c60, if_neg c75, if_neg (by omega : ¬ z = 2), if_neg (by omega : ¬ z = 3), if_neg (fun h => c154 ((lg_cmp_eq _ _).mpr h)), if_neg c34]
              · refine gJ_bipush (v := -5) dX12_group_157 (by decide) ?_
                refine gJ_iret dX12_group_159 rfl ?_
                refine ⟨rfl, ?_⟩
                rw [hG, if_neg c60, if_neg c75, if_neg (by omega : ¬ z = 2), if_neg (by omega : ¬ z = 3), if_pos ((lg_cmp_eq _ _).mp c154), if_neg c34]
            · refine gJ_iload_n dX12_group_130 rfl rfl ?_
              refine gJ_iconst (v := 2) dX12_group_131 (by decide) ?_
              refine gJ_icmp_neN (tgt := 140) (a := z) (b := 2) (by first | with_reducible rfl | rfl) (by first | with_reducible rfl | rfl) (by omega) (by omega) dX12_group_132 (by decide) (fun c132 => ?_) (fun c132 => ?_)
              · refine gJ_lload dX12_group_140 rfl ?_
                refine gJ_callS (As := [_]) b_X12_size lX12_138 i_X12_size dX12_group_142 (c12_size _) rfl (Nat.le_of_ble_eq_true rfl) rfl (by decide) (fun M142 v_ h142 => ?_)
                obtain ⟨e142, rfl⟩ := h142
                replace e142 := e142.symm
                subst e142
                refine gJ_iret dX12_group_145 rfl ?_
                refine ⟨rfl, ?_⟩
                rw [hG, if_neg c60, if_neg c75, if_neg c132, if_pos (by omega : z = 3), if_neg c34]
              · refine gJ_lload dX12_group_135 rfl ?_
                refine gJ_goto (tgt := 142) dX12_group_137 (by decide) ?_
                refine gJ_callS (As := [_]) b_X12_size lX12_138 i_X12_size dX12_group_142 (c12_size _) rfl (Nat.le_of_ble_eq_true rfl) rfl (by decide) (fun M142 v_ h142 => ?_)
                obtain ⟨e142, rfl⟩ := h142
                replace e142 := e142.symm
                subst e142
                refine gJ_iret dX12_group_145 rfl ?_
                refine ⟨rfl, ?_⟩
                rw [hG, if_neg c60, if_neg c75, if_pos c132]
          · refine gJ_iload_n dX12_group_78 rfl rfl ?_
            refine gJ_if_eqN (tgt := 87) (a := 0) (by first | with_reducible rfl | rfl) (by omega) dX12_group_79 (by decide) (fun _ => ?_) (fun c_ => by exfalso; omega)
            refine gJ_bipush (v := -5) dX12_group_87 (by decide) ?_
            refine gJ_iret dX12_group_89 rfl ?_
            refine ⟨rfl, ?_⟩
            rw [hG, if_neg c60, if_pos c75, if_neg c34]
        · refine gJ_iload_n dX12_group_63 rfl rfl ?_
          refine gJ_if_eqN (tgt := 71) (a := 0) (by first | with_reducible rfl | rfl) (by omega) dX12_group_64 (by decide) (fun _ => ?_) (fun c_ => by exfalso; omega)
          refine gJ_iconst (v := 0) dX12_group_71 (by decide) ?_
          refine gJ_iret dX12_group_72 rfl ?_
          refine ⟨rfl, ?_⟩
          rw [hG, if_pos c60, if_neg c34]
      · refine gJ_iconst (v := 1) dX12_group_37 (by decide) ?_
        refine gJ_goto (tgt := 42) dX12_group_38 (by decide) ?_
        refine gJ_istore_n (lv2 := [(3, _), (0, _), (1, _), (2, _)]) dX12_group_42 rfl rfl rfl ?_
        refine gJ_aload_n dX12_group_43 rfl rfl ?_
        refine gJ_get fX12_9 dX12_group_44 (by first | with_reducible assumption | with_reducible exact gUp_s | with_reducible exact gUp_n (by with_reducible assumption) (by omega) | exact gUp_n (by assumption) (by omega) | assumption) rfl ?_
        refine gJ_sipush (v := 1586) dX12_group_47 (by decide) ?_
        refine gJ_iconst (v := 2) dX12_group_50 (by decide) ?_
        refine gJ_iload_n dX12_group_51 rfl rfl ?_
        refine gJ_imulN (a := 2) (b := k) dX12_group_52 (by first | with_reducible rfl | rfl) (by first | with_reducible rfl | rfl) ?_
        refine gJ_iaddN (a := 1586) (b := (2 * k)) dX12_group_53 (by first | with_reducible rfl | rfl) (by first | with_reducible rfl | rfl) ?_
        refine gJ_iconst (v := 1) dX12_group_54 (by decide) ?_
        refine gJ_iaddN (a := (1586 + (2 * k))) (b := 1) dX12_group_55 (by first | with_reducible rfl | rfl) (by first | with_reducible rfl | rfl) ?_
        refine gJ_ialdN (j := ((1586 + (2 * k)) + 1)) dX12_group_56 (by first | with_reducible assumption | with_reducible exact gUp_s | with_reducible exact gUp_n (by with_reducible assumption) (by omega) | exact gUp_n (by assumption) (by omega) | assumption) (by first | with_reducible rfl | rfl) (by omega) (by decide) ?_
        refine gJ_istore (lv2 := [(4, _), (3, _), (0, _), (1, _), (2, _)]) dX12_group_57 rfl rfl ?_
        refine gJ_iload_n dX12_group_59 rfl rfl ?_
        refine gJ_if_neN (tgt := 73) (a := z) (by first | with_reducible rfl | rfl) (by omega) dX12_group_60 (by decide) (fun c60 => ?_) (fun c60 => ?_)
        · refine gJ_iload_n dX12_group_73 rfl rfl ?_
          refine gJ_iconst (v := 1) dX12_group_74 (by decide) ?_
          refine gJ_icmp_neN (tgt := 90) (a := z) (b := 1) (by first | with_reducible rfl | rfl) (by first | with_reducible rfl | rfl) (by omega) (by omega) dX12_group_75 (by decide) (fun c75 => ?_) (fun c75 => ?_)
          · refine gJ_aload_n dX12_group_90 rfl rfl ?_
            refine gJ_aload_n dX12_group_91 rfl rfl ?_
            refine gJ_callV (As := []) b_X12_actives lX12_148 i_X12_actives s_X12_actives dX12_group_92 (c12_actives hm hV hI) (by first | with_reducible assumption | with_reducible exact gUp_s | with_reducible exact gUp_n (by with_reducible assumption) (by omega) | exact gUp_n (by assumption) (by omega) | assumption) rfl rfl (Nat.le_of_ble_eq_true rfl) rfl (by decide) (fun M92 v_ h92 => ?_)
            obtain ⟨e92, rfl⟩ := h92
            replace e92 := e92.symm
            subst e92
            refine gJ_iload_n dX12_group_95 rfl rfl ?_
            refine gJ_callV (As := [_, _]) b_X12_withKey lX12_152 i_X12_withKey s_X12_withKey dX12_group_96 (c12_withKey hm hV _ _) (by first | with_reducible assumption | with_reducible exact gUp_s | with_reducible exact gUp_n (by with_reducible assumption) (by omega) | exact gUp_n (by assumption) (by omega) | assumption) rfl rfl (Nat.le_of_ble_eq_true rfl) rfl (by decide) (fun M96 v_ h96 => ?_)
            obtain ⟨e96, rfl⟩ := h96
            replace e96 := e96.symm
            subst e96
            refine gJ_lstore (lv2 := [(5, _), (4, _), (3, _), (0, _), (1, _), (2, _)]) dX12_group_99 rfl rfl ?_
            refine gJ_iload_n dX12_group_101 rfl rfl ?_
            refine gJ_if_eqN (tgt := 121) (a := 1) (by first | with_reducible rfl | rfl) (by omega) dX12_group_102 (by decide) (fun c_ => by exfalso; omega) (fun _ => ?_)
            refine gJ_lload dX12_group_105 rfl ?_
            refine gJ_aload_n dX12_group_107 rfl rfl ?_
            refine gJ_get fX12_19 dX12_group_108 (by first | with_reducible assumption | with_reducible exact gUp_s | with_reducible exact gUp_n (by with_reducible assumption) (by omega) | exact gUp_n (by assumption) (by omega) | assumption) rfl ?_
            refine gJ_iload_n dX12_group_111 rfl rfl ?_
            refine gJ_laldN (j := k) dX12_group_112 (by first | with_reducible assumption | with_reducible exact gUp_s | with_reducible exact gUp_n (by with_reducible assumption) (by omega) | exact gUp_n (by assumption) (by omega) | assumption) (by first | with_reducible rfl | rfl) (by omega) (by decide) ?_
            refine gJ_ldc2 (v := -1) dX12_group_113 cX12_160 ?_
            refine gJ_lxor dX12_group_116 ?_
            refine gJ_land dX12_group_117 ?_
            refine gJ_goto (tgt := 123) dX12_group_118 (by decide) ?_
            refine gJ_lstore (lv2 := [(7, _), (5, _), (4, _), (3, _), (0, _), (1, _), (2, _)]) dX12_group_123 rfl rfl ?_
            refine gJ_iload_n dX12_group_125 rfl rfl ?_
            refine gJ_iconst (v := 4) dX12_group_126 (by decide) ?_
            refine gJ_icmp_geN (tgt := 146) (a := z) (b := 4) (by first | with_reducible rfl | rfl) (by first | with_reducible rfl | rfl) (by omega) (by omega) dX12_group_127 (by decide) (fun c127 => ?_) (fun c127 => ?_)
            · refine gJ_iload_n dX12_group_146 rfl rfl ?_
              refine gJ_if_neN (tgt := 160) (a := 1) (by first | with_reducible rfl | rfl) (by omega) dX12_group_147 (by decide) (fun _ => ?_) (fun c_ => by exfalso; omega)
              refine gJ_iload_n dX12_group_160 rfl rfl ?_
              refine gJ_if_eqN (tgt := 171) (a := 1) (by first | with_reducible rfl | rfl) (by omega) dX12_group_161 (by decide) (fun c_ => by exfalso; omega) (fun _ => ?_)
              refine gJ_lload dX12_group_164 rfl ?_
              refine gJ_lconst (v := 0) dX12_group_166 (by decide) ?_
              refine gJ_lcmp dX12_group_167 ?_
              refine gJ_if_ne (tgt := 182) dX12_group_168 (by decide) (fun c168 => ?_) (fun c168 => ?_)
              · refine gJ_aload_n dX12_group_182 rfl rfl ?_
                refine gJ_iload dX12_group_183 rfl ?_
                refine gJ_aload_n dX12_group_185 rfl rfl ?_
                refine gJ_get fX12_9 dX12_group_186 (by first | with_reducible assumption | with_reducible exact gUp_s | with_reducible exact gUp_n (by with_reducible assumption) (by omega) | exact gUp_n (by assumption) (by omega) | assumption) rfl ?_
                refine gJ_sipush (v := 1843) dX12_group_189 (by decide) ?_
                refine gJ_ialdN (j := 1843) dX12_group_192 (by first | with_reducible assumption | with_reducible exact gUp_s | with_reducible exact gUp_n (by with_reducible assumption) (by omega) | exact gUp_n (by assumption) (by omega) | assumption) (by first | with_reducible rfl | rfl) (by omega) (by decide) ?_
                refine gJ_iadd dX12_group_193 ?_
                refine gJ_callV (As := [_]) b_X12_later lX12_169 i_X12_later s_X12_later dX12_group_194 (c12_later hm hV _) (by first | with_reducible assumption | with_reducible exact gUp_s | with_reducible exact gUp_n (by with_reducible assumption) (by omega) | exact gUp_n (by assumption) (by omega) | assumption) rfl rfl (Nat.le_of_ble_eq_true rfl) rfl (by decide) (fun M194 v_ h194 => ?_)
                obtain ⟨e194, rfl⟩ := h194
                replace e194 := e194.symm
                subst e194
                refine gJ_istore (lv2 := [(9, _), (7, _), (5, _), (4, _), (3, _), (0, _), (1, _), (2, _)]) dX12_group_197 rfl rfl ?_
                refine gJ_aload_n dX12_group_199 rfl rfl ?_
                refine gJ_iload dX12_group_200 rfl ?_
                refine gJ_aload_n dX12_group_202 rfl rfl ?_
                refine gJ_get fX12_9 dX12_group_203 (by first | with_reducible assumption | with_reducible exact gUp_s | with_reducible exact gUp_n (by with_reducible assumption) (by omega) | exact gUp_n (by assumption) (by omega) | assumption) rfl ?_
                refine gJ_sipush (v := 1842) dX12_group_206 (by decide) ?_
                refine gJ_ialdN (j := 1842) dX12_group_209 (by first | with_reducible assumption | with_reducible exact gUp_s | with_reducible exact gUp_n (by with_reducible assumption) (by omega) | exact gUp_n (by assumption) (by omega) | assumption) (by first | with_reducible rfl | rfl) (by omega) (by decide) ?_
                refine gJ_iadd dX12_group_210 ?_
                refine gJ_callV (As := [_]) b_X12_later lX12_169 i_X12_later s_X12_later dX12_group_211 (c12_later hm hV _) (by first | with_reducible assumption | with_reducible exact gUp_s | with_reducible exact gUp_n (by with_reducible assumption) (by omega) | exact gUp_n (by assumption) (by omega) | assumption) rfl rfl (Nat.le_of_ble_eq_true rfl) rfl (by decide) (fun M211 v_ h211 => ?_)
                obtain ⟨e211, rfl⟩ := h211
                replace e211 := e211.symm
                subst e211
                refine gJ_istore (lv2 := [(10, _), (9, _), (7, _), (5, _), (4, _), (3, _), (0, _), (1, _), (2, _)]) dX12_group_214 rfl rfl ?_
                refine gJ_lload dX12_group_216 rfl ?_
                refine gJ_lconst (v := 0) dX12_group_218 (by decide) ?_
                refine gJ_lcmp dX12_group_219 ?_
                refine gJ_if_eq (tgt := 235) dX12_group_220 (by decide) (fun c220 => ?_) (fun c220 => ?_)
                · refine gJ_iload dX12_group_235 rfl ?_
                  refine gJ_iret dX12_group_237 rfl ?_
                  refine ⟨rfl, ?_⟩
                  rw [hG, if_neg c60, if_neg c75, if_neg (by omega : ¬ z = 2), if_neg (by omega : ¬ z = 3), if_neg (fun h => c168 ((lg_cmp_eq _ _).mpr h)), if_pos c34, if_pos ((lg_cmp_eq _ _).mp c220)]
                  rfl
                · refine gJ_iload dX12_group_223 rfl ?_
                  refine gJ_iload dX12_group_225 rfl ?_
                  refine gJ_icmp_ge (tgt := 235) dX12_group_227 (by decide) (fun c227 => ?_) (fun c227 => ?_)
                  · refine gJ_iload dX12_group_235 rfl ?_
                    have c227' : mLater V (V (1586 + 2 * k + 1) + V 1843) ≤ mLater V (V (1586 + 2 * k + 1) + V 1842) := c227
                    refine gJ_iret dX12_group_237 rfl ?_
                    refine ⟨rfl, ?_⟩
                    rw [hG, if_neg c60, if_neg c75, if_neg (by omega : ¬ z = 2), if_neg (by omega : ¬ z = 3), if_neg (fun h => c168 ((lg_cmp_eq _ _).mpr h)), if_pos c34, if_neg (fun h => c220 ((lg_cmp_eq _ _).mpr h)), if_pos c227']
                    rfl
                  · refine gJ_iload dX12_group_230 rfl ?_
                    refine gJ_goto (tgt := 237) dX12_group_232 (by decide) ?_
                    have c227' : ¬ mLater V (V (1586 + 2 * k + 1) + V 1843) ≤ mLater V (V (1586 + 2 * k + 1) + V 1842) := c227
                    refine gJ_iret dX12_group_237 rfl ?_
                    refine ⟨rfl, ?_⟩
                    rw [hG, if_neg c60, if_neg c75, if_neg (by omega : ¬ z = 2), if_neg (by omega : ¬ z = 3), if_neg (fun h => c168 ((lg_cmp_eq _ _).mpr h)), if_pos c34, if_neg (fun h => c220 ((lg_cmp_eq _ _).mpr h)), if_neg c227']
                    rfl
              · refine gJ_aload_n dX12_group_171 rfl rfl ?_
                refine gJ_get fX12_9 dX12_group_172 (by first | with_reducible assumption | with_reducible exact gUp_s | with_reducible exact gUp_n (by with_reducible assumption) (by omega) | exact gUp_n (by assumption) (by omega) | assumption) rfl ?_
                refine gJ_sipush (v := 1847) dX12_group_175 (by decide) ?_
                refine gJ_ialdN (j := 1847) dX12_group_178 (by first | with_reducible assumption | with_reducible exact gUp_s | with_reducible exact gUp_n (by with_reducible assumption) (by omega) | exact gUp_n (by assumption) (by omega) | assumption) (by first | with_reducible rfl | rfl) (by omega) (by decide) ?_
                refine gJ_iconst (v := 1) dX12_group_179 (by decide) ?_
                refine gJ_iadd dX12_group_180 ?_
                refine gJ_iret dX12_group_181 rfl ?_
                refine ⟨rfl, ?_⟩
                rw [hG, if_neg c60, if_neg c75, if_neg (by omega : ¬ z = 2), if_neg (by omega : ¬ z = 3), if_pos ((lg_cmp_eq _ _).mp c168), if_pos c34]
            · refine gJ_iload_n dX12_group_130 rfl rfl ?_
              refine gJ_iconst (v := 2) dX12_group_131 (by decide) ?_
              refine gJ_icmp_neN (tgt := 140) (a := z) (b := 2) (by first | with_reducible rfl | rfl) (by first | with_reducible rfl | rfl) (by omega) (by omega) dX12_group_132 (by decide) (fun c132 => ?_) (fun c132 => ?_)
              · refine gJ_lload dX12_group_140 rfl ?_
                refine gJ_callS (As := [_]) b_X12_size lX12_138 i_X12_size dX12_group_142 (c12_size _) rfl (Nat.le_of_ble_eq_true rfl) rfl (by decide) (fun M142 v_ h142 => ?_)
                obtain ⟨e142, rfl⟩ := h142
                replace e142 := e142.symm
                subst e142
                refine gJ_iret dX12_group_145 rfl ?_
                refine ⟨rfl, ?_⟩
                rw [hG, if_neg c60, if_neg c75, if_neg c132, if_pos (by omega : z = 3), if_pos c34]
              · refine gJ_lload dX12_group_135 rfl ?_
                refine gJ_goto (tgt := 142) dX12_group_137 (by decide) ?_
                refine gJ_callS (As := [_]) b_X12_size lX12_138 i_X12_size dX12_group_142 (c12_size _) rfl (Nat.le_of_ble_eq_true rfl) rfl (by decide) (fun M142 v_ h142 => ?_)
                obtain ⟨e142, rfl⟩ := h142
                replace e142 := e142.symm
                subst e142
                refine gJ_iret dX12_group_145 rfl ?_
                refine ⟨rfl, ?_⟩
                rw [hG, if_neg c60, if_neg c75, if_pos c132]
          · refine gJ_iload_n dX12_group_78 rfl rfl ?_
            refine gJ_if_eqN (tgt := 87) (a := 1) (by first | with_reducible rfl | rfl) (by omega) dX12_group_79 (by decide) (fun c_ => by exfalso; omega) (fun _ => ?_)
            refine gJ_iload dX12_group_82 rfl ?_
            refine gJ_goto (tgt := 89) dX12_group_84 (by decide) ?_
            refine gJ_iret dX12_group_89 rfl ?_
            refine ⟨rfl, ?_⟩
            rw [hG, if_neg c60, if_pos c75, if_pos c34]
        · refine gJ_iload_n dX12_group_63 rfl rfl ?_
          refine gJ_if_eqN (tgt := 71) (a := 1) (by first | with_reducible rfl | rfl) (by omega) dX12_group_64 (by decide) (fun c_ => by exfalso; omega) (fun _ => ?_)
          refine gJ_iconst (v := 1) dX12_group_67 (by decide) ?_
          refine gJ_goto (tgt := 72) dX12_group_68 (by decide) ?_
          refine gJ_iret dX12_group_72 rfl ?_
          refine ⟨rfl, ?_⟩
          rw [hG, if_pos c60, if_pos c34]
    · refine gJ_iconst (v := -1) dX12_group_19 (by decide) ?_
      refine gJ_iret dX12_group_20 rfl ?_
      have hA : aGroup (V, S) x w = -1 := by simp only [aGroup, mIn, c7, c16, Bool.and_false, Bool.false_eq_true, ↓reduceIte]
      rw [hA]
      exact ⟨rfl, rfl⟩
set_option maxRecDepth 20000 in
theorem c12_silencing (hm : M.1 m = some (mO m hi tn at_ fa)) (hV : M.1 (m + 1) = some (gI 1999 V)) (hI : mI V) : gCon G kX12_silencing 2 0 0 M [.ref m] (fun M2 v => M2 = M ∧ v = some (.int (nI ((List.range 6).countP (mUse V))))) := by
  refine gCon_of (by decide) (Nat.le_of_ble_eq_true rfl) ?_
  have outer : ∀ (q k c : Nat), k + q = 7 → k ≤ 6 → c = (List.range k).countP (mUse V) → c ≤ k →
      gJ G kX12_silencing 2 0 0 M 4 [(2, .int (nI k)), (1, .int (nI c)), (0, .ref m)] [] (gQ kX12_silencing (fun M2 v => M2 = M ∧ v = some (.int (nI ((List.range 6).countP (mUse V)))))) := by
    intro q
    induction q with
    | zero => intro k c h1 h2; exact absurd h1 (by omega)
    | succ q ih =>
      intro k c hq hk hp hc
      have inner : k < 6 → ∀ (r a : Nat), a + r = 61 → a ≤ 60 → ∀ b : Bool, b = (List.range a).any (fun a => decide (V (206 + 23 * a) = 2) && mSil V a k) →
          gJ G kX12_silencing 2 0 0 M 15 [(4, .int (nI a)), (3, .int (gb b)), (2, .int (nI k)), (1, .int (nI c)), (0, .ref m)] [] (gQ kX12_silencing (fun M2 v => M2 = M ∧ v = some (.int (nI ((List.range 6).countP (mUse V)))))) := by
        intro hk6 r
        induction r with
        | zero => intro a h1 h2; exact absurd h1 (by omega)
        | succ r ihr =>
          intro a har ha b hb
          refine gJ_iload dX12_silencing_15 rfl ?_
          refine gJ_bipush (v := 60) dX12_silencing_17 (by decide) ?_
          refine gJ_icmp_geN (tgt := 56) (a := a) (b := 60) (by first | with_reducible rfl | rfl) (by first | with_reducible rfl | rfl) (by omega) (by omega) dX12_silencing_19 (by decide) (fun c19 => ?_) (fun c19 => ?_)
          · refine gJ_iload_n dX12_silencing_56 rfl rfl ?_
            refine gJ_iload_n dX12_silencing_57 rfl rfl ?_
            refine gJ_if_eqB (tgt := 65) dX12_silencing_58 (by decide) (fun c58 => ?_) (fun c58 => ?_)
            · refine gJ_iconst (v := 0) dX12_silencing_65 (by decide) ?_
              refine gJ_iaddN (a := c) (b := 0) dX12_silencing_66 (by first | with_reducible rfl | rfl) (by first | with_reducible rfl | rfl) ?_
              refine gJ_istore_n (lv2 := [(1, _), (4, _), (3, _), (2, _), (0, _)]) dX12_silencing_67 rfl rfl rfl ?_
              refine gJ_iincN (a := k) (b := 1) (lv2 := [(2, _), (1, _), (4, _), (3, _), (0, _)]) dX12_silencing_68 rfl rfl rfl rfl ?_
              refine gJ_goto (tgt := 4) dX12_silencing_71 (by decide) ?_
              have e60 : a = 60 := by omega
              subst e60
              have hU : mUse V k = b := by rw [mUse, ← hb]
              refine gJ_ls (ih (k + 1) _ (by omega) (by omega) ?_ (by omega)) ⟨rfl, rfl, rfl, trivial⟩
              rw [List.range_succ, List.countP_append, ← hp]
              simp [hU, c58]
            · refine gJ_iconst (v := 1) dX12_silencing_61 (by decide) ?_
              refine gJ_goto (tgt := 66) dX12_silencing_62 (by decide) ?_
              refine gJ_iaddN (a := c) (b := 1) dX12_silencing_66 (by first | with_reducible rfl | rfl) (by first | with_reducible rfl | rfl) ?_
              refine gJ_istore_n (lv2 := [(1, _), (4, _), (3, _), (2, _), (0, _)]) dX12_silencing_67 rfl rfl rfl ?_
              refine gJ_iincN (a := k) (b := 1) (lv2 := [(2, _), (1, _), (4, _), (3, _), (0, _)]) dX12_silencing_68 rfl rfl rfl rfl ?_
              refine gJ_goto (tgt := 4) dX12_silencing_71 (by decide) ?_
              have e60 : a = 60 := by omega
              subst e60
              have hU : mUse V k = b := by rw [mUse, ← hb]
              refine gJ_ls (ih (k + 1) _ (by omega) (by omega) ?_ (by omega)) ⟨rfl, rfl, rfl, trivial⟩
              rw [List.range_succ, List.countP_append, ← hp]
              simp [hU, c58]
          · refine gJ_iload_n dX12_silencing_22 rfl rfl ?_
            refine gJ_aload_n dX12_silencing_23 rfl rfl ?_
            refine gJ_iload dX12_silencing_24 rfl ?_
            refine gJ_callV (As := [_]) b_X12_state lX12_104 i_X12_state s_X12_state dX12_silencing_26 (c12_state hm hV a (by omega)) (by first | with_reducible assumption | with_reducible exact gUp_s | with_reducible exact gUp_n (by with_reducible assumption) (by omega) | exact gUp_n (by assumption) (by omega) | assumption) rfl rfl (Nat.le_of_ble_eq_true rfl) rfl (by decide) (fun M26 v_ h26 => ?_)
            obtain ⟨e_, rfl⟩ := h26
            replace e_ := e_.symm
            subst e_
            refine gJ_iconst (v := 2) dX12_silencing_29 (by decide) ?_
            refine gJ_icmp_ne (tgt := 47) dX12_silencing_30 (by decide) (fun c30 => ?_) (fun c30 => ?_)
            · refine gJ_iconst (v := 0) dX12_silencing_47 (by decide) ?_
              refine gJ_ior dX12_silencing_48 ?_
              refine gJ_istore_n (lv2 := [(3, _), (4, _), (2, _), (1, _), (0, _)]) dX12_silencing_49 rfl rfl rfl ?_
              refine gJ_iincN (a := a) (b := 1) (lv2 := [(4, _), (3, _), (2, _), (1, _), (0, _)]) dX12_silencing_50 rfl rfl rfl rfl ?_
              refine gJ_goto (tgt := 15) dX12_silencing_53 (by decide) ?_
              refine gJ_ls (ihr (a + 1) (by omega) (by omega) b ?_) ⟨rfl, ?_, rfl, rfl, rfl, trivial⟩
              · rw [List.range_succ, List.any_append, ← hb]; simp [c30]
              · exact congrArg (fun z => some (Value.int z)) (by cases b <;> decide : gb b ||| 0 = gb b)
            · refine gJ_aload_n dX12_silencing_33 rfl rfl ?_
              refine gJ_iload dX12_silencing_34 rfl ?_
              refine gJ_iload_n dX12_silencing_36 rfl rfl ?_
              refine gJ_callV (As := [_, _]) b_X12_isSilencedBy lX12_101 i_X12_isSilencedBy s_X12_isSilencedBy dX12_silencing_37 (c12_isSilencedBy hm hV hI a k (by omega) hk6) (by first | with_reducible assumption | with_reducible exact gUp_s | with_reducible exact gUp_n (by with_reducible assumption) (by omega) | exact gUp_n (by assumption) (by omega) | assumption) rfl rfl (Nat.le_of_ble_eq_true rfl) rfl (by decide) (fun M37 v_ h37 => ?_)
              obtain ⟨e_, rfl⟩ := h37
              replace e_ := e_.symm
              subst e_
              refine gJ_if_eqB (tgt := 47) dX12_silencing_40 (by decide) (fun c40 => ?_) (fun c40 => ?_)
              · refine gJ_iconst (v := 0) dX12_silencing_47 (by decide) ?_
                refine gJ_ior dX12_silencing_48 ?_
                refine gJ_istore_n (lv2 := [(3, _), (4, _), (2, _), (1, _), (0, _)]) dX12_silencing_49 rfl rfl rfl ?_
                refine gJ_iincN (a := a) (b := 1) (lv2 := [(4, _), (3, _), (2, _), (1, _), (0, _)]) dX12_silencing_50 rfl rfl rfl rfl ?_
                refine gJ_goto (tgt := 15) dX12_silencing_53 (by decide) ?_
                refine gJ_ls (ihr (a + 1) (by omega) (by omega) b ?_) ⟨rfl, ?_, rfl, rfl, rfl, trivial⟩
                · rw [List.range_succ, List.any_append, ← hb]; simp [c40]
                · exact congrArg (fun z => some (Value.int z)) (by cases b <;> decide : gb b ||| 0 = gb b)
              · refine gJ_iconst (v := 1) dX12_silencing_43 (by decide) ?_
                refine gJ_goto (tgt := 48) dX12_silencing_44 (by decide) ?_
                refine gJ_ior dX12_silencing_48 ?_
                refine gJ_istore_n (lv2 := [(3, _), (4, _), (2, _), (1, _), (0, _)]) dX12_silencing_49 rfl rfl rfl ?_
                refine gJ_iincN (a := a) (b := 1) (lv2 := [(4, _), (3, _), (2, _), (1, _), (0, _)]) dX12_silencing_50 rfl rfl rfl rfl ?_
                refine gJ_goto (tgt := 15) dX12_silencing_53 (by decide) ?_
                refine gJ_ls (ihr (a + 1) (by omega) (by omega) true ?_) ⟨rfl, ?_, rfl, rfl, rfl, trivial⟩
                · rw [List.range_succ, List.any_append, ← hb]; simp [c40, c30]
                · exact congrArg (fun z => some (Value.int z)) (by cases b <;> decide : gb b ||| 1 = gb true)
      refine gJ_iload_n dX12_silencing_4 rfl rfl ?_
      refine gJ_bipush (v := 6) dX12_silencing_5 (by decide) ?_
      refine gJ_icmp_geN (tgt := 74) (a := k) (b := 6) (by first | with_reducible rfl | rfl) (by first | with_reducible rfl | rfl) (by omega) (by omega) dX12_silencing_7 (by decide) (fun c7 => ?_) (fun c7 => ?_)
      · refine gJ_iload_n dX12_silencing_74 rfl rfl ?_
        refine gJ_iret dX12_silencing_75 rfl ?_
        refine ⟨rfl, ?_⟩
        rw [hp, show k = 6 by omega]
      · refine gJ_iconst (v := 0) dX12_silencing_10 (by decide) ?_
        refine gJ_istore_n (lv2 := [(3, _), (2, _), (1, _), (0, _)]) dX12_silencing_11 rfl rfl rfl ?_
        refine gJ_iconst (v := 0) dX12_silencing_12 (by decide) ?_
        refine gJ_istore (lv2 := [(4, _), (3, _), (2, _), (1, _), (0, _)]) dX12_silencing_13 rfl rfl ?_
        exact gJ_ls (inner (by omega) 61 0 (by omega) (by omega) false rfl) ⟨rfl, rfl, rfl, rfl, rfl, trivial⟩
  show gJ _ _ _ _ _ _ 0 [(0, _)] [] _
  refine gJ_iconst (v := 0) dX12_silencing_0 (by decide) ?_
  refine gJ_istore_n (lv2 := [(1, _), (0, _)]) dX12_silencing_1 rfl rfl rfl ?_
  refine gJ_iconst (v := 0) dX12_silencing_2 (by decide) ?_
  refine gJ_istore_n (lv2 := [(2, _), (1, _), (0, _)]) dX12_silencing_3 rfl rfl rfl ?_
  exact gJ_ls (outer 7 0 0 (by omega) (by omega) rfl (by omega)) ⟨rfl, rfl, rfl, trivial⟩
end MODEL
