noncomputable def mIt (p : mT) : Nat → mT
  | 0 => p
  | n + 1 => mStep (mIt p n)
noncomputable def mTot (p : mT) : Nat → Int32
  | 0 => 0
  | n + 1 => mTot p n + mCnt (mIt p n)
/-- the minute of the first sending in so many minutes, -5 if there is none -/
noncomputable def mNx (p : mT) : Nat → Int32
  | 0 => -5
  | n + 1 => if mCnt p = 0 then mNx (mStep p) n else (mStep p).1 1847
theorem mSnd_I {V : Nat → Int32} {key kind : Nat} {x : Int64} (h : mI V) (hk : key < 128) : mI (mSnd V key kind x) := by
  have o : ∀ i, i < 1586 ∨ (1842 ≤ i ∧ i < 1848) → mSnd V key kind x i = V i := by
    intro i hi
    unfold mSnd
    rw [if_neg (by omega), if_neg (by omega), if_neg (by omega), if_neg (by omega), if_neg (by omega), if_neg (by omega), if_neg (by omega), if_neg (by omega), if_neg (by omega)]
  refine mI_of h (fun i hi => o i (by omega)) (fun i h1 h2 => o i (by omega)) (fun a ha => ?_) (fun k hk2 => ?_)
  · obtain ⟨⟨x, e1, e2⟩, ⟨y, e3, e4⟩⟩ := h.2.2.2.2.2.1 a ha
    exact ⟨⟨x, e1, by rw [o _ (by omega), e2]⟩, ⟨y, e3, by rw [o _ (by omega), e4]⟩⟩
  · obtain ⟨y, e1, e2⟩ := h.2.2.2.2.2.2.1 k hk2
    by_cases e : k = key
    · subst e
      by_cases e3 : kind = 3
      · exact ⟨0, by omega, by unfold mSnd; rw [if_neg (by omega), if_neg (by omega), if_neg (by omega), if_neg (by omega), if_neg (by omega), if_neg (by omega), if_neg (by omega), if_pos rfl, if_pos e3]; rfl⟩
      · exact ⟨1, by omega, by unfold mSnd; rw [if_neg (by omega), if_neg (by omega), if_neg (by omega), if_neg (by omega), if_neg (by omega), if_neg (by omega), if_neg (by omega), if_pos rfl, if_neg e3]; rfl⟩
    · exact ⟨y, e1, by unfold mSnd; rw [if_neg (by omega), if_neg (by omega), if_neg (by omega), if_neg (by omega), if_neg (by omega), if_neg (by omega), if_neg (by omega), if_neg (by omega), if_neg (by omega), e2]⟩
theorem mStepK_or (act : Int64) (p : mT) (key : Nat) : mStepK act p key = p ∨ ∃ kind x T, kind < 4 ∧ mStepK act p key = (mSnd p.1 key kind x, T) := by
  unfold mStepK
  repeat' split
  · exact Or.inr ⟨3, _, _, by omega, rfl⟩
  · exact Or.inl rfl
  · exact Or.inr ⟨2, _, _, by omega, rfl⟩
  · exact Or.inr ⟨1, _, _, by omega, rfl⟩
  · exact Or.inl rfl
  · exact Or.inr ⟨0, _, _, by omega, rfl⟩
theorem mKs_I {act : Int64} {p : mT} (h : mI p.1) : ∀ n, n ≤ 128 → mI (mKs act p n).1
  | 0, _ => h
  | n + 1, hn => by
    have ih := mKs_I (act := act) h n (by omega)
    rw [mKs]
    rcases mStepK_or act (mKs act p n) n with e | ⟨kind, x, T, -, e⟩
    · rw [e]; exact ih
    · rw [e]; exact mSnd_I ih (by omega)
theorem mKs_c {act : Int64} {p : mT} : ∀ n, ∃ c, c ≤ n ∧ (mKs act p n).1 1848 = p.1 1848 + nI c
  | 0 => ⟨0, by omega, by rw [mKs, nI_0, Int32.add_zero]⟩
  | n + 1 => by
    obtain ⟨c, h1, h2⟩ := mKs_c (act := act) (p := p) n
    rw [mKs]
    rcases mStepK_or act (mKs act p n) n with e | ⟨kind, x, T, -, e⟩
    · exact ⟨c, by omega, by rw [e, h2]⟩
    · exact ⟨c + 1, by omega, by rw [e]; show mSnd (mKs act p n).1 n kind x 1848 = _; rw [mSnd, if_pos rfl, h2, Int32.add_assoc, nI_1]⟩
theorem mTick_I {V : Nat → Int32} (h : mI V) : mI (mTick V) := by rw [mTick_eq]; exact mGos_I (mI_tick h) 60 (by omega)
theorem mStep_I {p : mT} (h : mI p.1) : mI (mStep p).1 := by rw [mStep_eq]; exact mKs_I (p := (mTick p.1, p.2)) (mTick_I h) 128 (by omega)
theorem mIt_I {p : mT} (h : mI p.1) : ∀ n, mI (mIt p n).1
  | 0 => h
  | n + 1 => mStep_I (mIt_I h n)
theorem mCnt_c {p : mT} (h : mI p.1) : ∃ c, c ≤ 128 ∧ mCnt p = nI c := by
  obtain ⟨c, h1, h2⟩ := mKs_c (act := mActs (mTick p.1)) (p := (mTick p.1, p.2)) 128
  refine ⟨c, h1, ?_⟩
  unfold mCnt
  rw [mStep_eq, h2]
  show mTick p.1 1848 + nI c - p.1 1848 = _
  rw [mTick_48 h, Int32.add_comm, Int32.add_sub_cancel]
theorem mIt_s (p : mT) : ∀ n, mIt (mStep p) n = mIt p (n + 1)
  | 0 => rfl
  | n + 1 => by rw [mIt, mIt_s p n]; rfl
noncomputable def aPass (p : mT) (x : Int32) : Int32 × mT := if mIn x 1 100 = true then (if p.1 1847 + x ≤ 99999 then (mTot p x.toNatClampNeg, mIt p x.toNatClampNeg) else (-4, p)) else (-2, p)
section MODEL
variable {G : gG} {M : gM} {m : Nat} {hi tn at_ fa : Int32} {V K : Nat → Int32} {S KS : Nat → Int64}
theorem c12_pass (hm : M.1 m = some (mO m hi tn at_ fa)) (hV : M.1 (m + 1) = some (gI 1999 V)) (hS : M.1 (m + 4) = some (gL 128 S)) (hI : mI V) (x : Int32) : gCon G kX12_pass 6 0 0 M [.ref m, .int x] (fun M2 v => M2 = mUp m M (aPass (V, S) x).2.1 (aPass (V, S) x).2.2 ∧ v = some (.int (aPass (V, S) x).1)) := by
  refine gCon_of (by decide) (Nat.le_of_ble_eq_true rfl) ?_
  have loop : ∀ (x : Int32) (n : Nat), n ≤ 100 → ∀ (q j : Nat), j + q = n + 1 → j ≤ n → (aPass (V, S) x) = (mTot (V, S) n, mIt (V, S) n) →
      gJ G kX12_pass 6 0 0 (mUp m M (mIt (V, S) j).1 (mIt (V, S) j).2) 35 [(3, .int (nI j)), (2, .int (mTot (V, S) j)), (0, .ref m), (1, .int (nI n))] [] (gQ kX12_pass (fun M2 v => M2 = mUp m M (aPass (V, S) x).2.1 (aPass (V, S) x).2.2 ∧ v = some (.int (aPass (V, S) x).1))) := by
    intro x n hn q
    induction q with
    | zero => intro j h1 h2; exact absurd h1 (by omega)
    | succ q ih =>
      intro j hq hj hx
      refine gJ_iload_n dX12_pass_35 rfl rfl ?_
      refine gJ_iload_n dX12_pass_36 rfl rfl ?_
      refine gJ_icmp_geN (tgt := 53) (a := j) (b := n) (by first | with_reducible rfl | rfl) (by first | with_reducible rfl | rfl) (by omega) (by omega) dX12_pass_37 (by decide) (fun c37 => ?_) (fun c37 => ?_)
      · refine gJ_iload_n dX12_pass_53 rfl rfl ?_
        refine gJ_iret dX12_pass_54 rfl ?_
        have e1 : j = n := by omega
        subst e1
        rw [hx]
        exact ⟨rfl, rfl⟩
      · refine gJ_iload_n dX12_pass_40 rfl rfl ?_
        refine gJ_aload_n dX12_pass_41 rfl rfl ?_
        refine gJ_callV (As := []) b_X12_step lX12_163 i_X12_step s_X12_step dX12_pass_42 (c12_step (mUp_n hm (by omega) (by omega)) mUp_V mUp_S (mIt_I hI j)) (mUp_n hm (by omega) (by omega)) rfl rfl (Nat.le_of_ble_eq_true rfl) rfl (by decide) (fun M42 v_ h42 => ?_)
        obtain ⟨rfl, rfl⟩ := h42
        rw [mUp_up]
        refine gJ_iadd dX12_pass_45 ?_
        refine gJ_istore_n (lv2 := [(2, _), (3, _), (0, _), (1, _)]) dX12_pass_46 rfl rfl rfl ?_
        refine gJ_iincN (a := j) (b := 1) (lv2 := [(3, _), (2, _), (0, _), (1, _)]) dX12_pass_47 rfl rfl rfl rfl ?_
        refine gJ_goto (tgt := 35) dX12_pass_50 (by decide) ?_
        exact gJ_ls (ih (j + 1) (by omega) (by omega) hx) ⟨rfl, rfl, rfl, rfl, trivial⟩
  show gJ _ _ _ _ _ _ 0 [(0, _), (1, _)] [] _
  refine gJ_iload_n dX12_pass_0 rfl rfl ?_
  refine gJ_iconst (v := 1) dX12_pass_1 (by decide) ?_
  refine gJ_bipush (v := 100) dX12_pass_2 (by decide) ?_
  refine gJ_callS (As := [_, _, _]) b_X12_isIn lX12_35 i_X12_isIn dX12_pass_4 (c12_isIn _ _ _) rfl (Nat.le_of_ble_eq_true rfl) rfl (by decide) (fun M4 v_ h4 => ?_)
  obtain ⟨e4, rfl⟩ := h4
  replace e4 := e4.symm
  subst e4
  refine gJ_if_neB (tgt := 13) dX12_pass_7 (by decide) (fun c7 => ?_) (fun c7 => ?_)
  · obtain ⟨n, hn1, hn0, hn2, hn3⟩ := mIn_nat (lo := 1) (hi := 100) c7 (by decide)
    subst hn2
    refine gJ_aload_n dX12_pass_13 rfl rfl ?_
    refine gJ_get fX12_9 dX12_pass_14 (by first | with_reducible assumption | with_reducible exact gUp_s | with_reducible exact gUp_n (by with_reducible assumption) (by omega) | exact gUp_n (by assumption) (by omega) | assumption) rfl ?_
    refine gJ_sipush (v := 1847) dX12_pass_17 (by decide) ?_
    refine gJ_ialdN (j := 1847) dX12_pass_20 (by first | with_reducible assumption | with_reducible exact gUp_s | with_reducible exact gUp_n (by with_reducible assumption) (by omega) | exact gUp_n (by assumption) (by omega) | assumption) (by first | with_reducible rfl | rfl) (by omega) (by decide) ?_
    refine gJ_iload_n dX12_pass_21 rfl rfl ?_
    refine gJ_iadd dX12_pass_22 ?_
    refine gJ_ldc (v := 99999) dX12_pass_23 cX12_162 ?_
    refine gJ_icmp_le (tgt := 31) dX12_pass_25 (by decide) (fun c25 => ?_) (fun c25 => ?_)
    · refine gJ_iconst (v := 0) dX12_pass_31 (by decide) ?_
      refine gJ_istore_n (lv2 := [(2, _), (0, _), (1, _)]) dX12_pass_32 rfl rfl rfl ?_
      refine gJ_iconst (v := 0) dX12_pass_33 (by decide) ?_
      refine gJ_istore_n (lv2 := [(3, _), (2, _), (0, _), (1, _)]) dX12_pass_34 rfl rfl rfl ?_
      have L := loop (nI n) n (by omega) (n + 1) 0 (by omega) (by omega) (by simp only [aPass, mIn, c7, c25, ↓reduceIte, hn3])
      rw [show mUp m M (mIt (V, S) 0).1 (mIt (V, S) 0).2 = M from mUp_id hV hS] at L
      exact gJ_ls L ⟨rfl, rfl, rfl, rfl, trivial⟩
    · refine gJ_bipush (v := -4) dX12_pass_28 (by decide) ?_
      refine gJ_iret dX12_pass_30 rfl ?_
      have hA : aPass (V, S) (nI n) = (-4, (V, S)) := by simp only [aPass, mIn, c7, c25, ↓reduceIte]
      rw [hA]
      exact ⟨(mUp_id hV hS).symm, rfl⟩
  · refine gJ_bipush (v := -2) dX12_pass_10 (by decide) ?_
    refine gJ_iret dX12_pass_12 rfl ?_
    have hA : aPass (V, S) x = (-2, (V, S)) := by simp only [aPass, mIn, c7, Bool.false_eq_true, ↓reduceIte]
    rw [hA]
    exact ⟨(mUp_id hV hS).symm, rfl⟩
end MODEL
