abbrev mT : Type := (Nat → Int32) × (Nat → Int64)
def mStepK (act : Int64) (p : mT) (key : Nat) : mT :=
  if p.1 (1586 + 2 * key) = 1 then
    if mWith p.1 act (nI key) &&& (p.2 key ^^^ (-1)) = 0 ∨ p.1 1847 - p.1 (1586 + 2 * key + 1) < p.1 1842 then
      if mWith p.1 act (nI key) = 0 then (mSnd p.1 key 3 (mWith p.1 act (nI key)), vp_updL p.2 key (mWith p.1 act (nI key)))
      else if p.1 1847 - p.1 (1586 + 2 * key + 1) < p.1 1843 then p else (mSnd p.1 key 2 (mWith p.1 act (nI key)), vp_updL p.2 key (mWith p.1 act (nI key)))
    else (mSnd p.1 key 1 (mWith p.1 act (nI key)), vp_updL p.2 key (mWith p.1 act (nI key)))
  else if mWith p.1 act (nI key) = 0 then p else (mSnd p.1 key 0 (mWith p.1 act (nI key)), vp_updL p.2 key (mWith p.1 act (nI key)))
def mKs (act : Int64) (p : mT) : Nat → mT
  | 0 => p
  | n + 1 => mStepK act (mKs act p n) n
theorem mTick_ex (V : Nat → Int32) : ∃ W : Nat → Int32, W = mGos (upd V 1847 (V 1847 + 1)) 60 := ⟨_, rfl⟩
/-- one minute's first half; shut, so that nothing unrolls it -/
noncomputable def mTick (V : Nat → Int32) : Nat → Int32 := Classical.choose (mTick_ex V)
theorem mTick_eq (V : Nat → Int32) : mTick V = mGos (upd V 1847 (V 1847 + 1)) 60 := Classical.choose_spec (mTick_ex V)
theorem mStep_ex (p : mT) : ∃ q : mT, q = mKs (mActs (mTick p.1)) (mTick p.1, p.2) 128 := ⟨_, rfl⟩
noncomputable def mStep (p : mT) : mT := Classical.choose (mStep_ex p)
theorem mStep_eq (p : mT) : mStep p = mKs (mActs (mTick p.1)) (mTick p.1, p.2) 128 := Classical.choose_spec (mStep_ex p)
noncomputable def mCnt (p : mT) : Int32 := (mStep p).1 1848 - p.1 1848
theorem mWith_0 (V : Nat → Int32) (key : Int32) : mWith V 0 key = 0 := lS_0 (fun a _ => by rw [mKeyP, lB_0, Bool.false_and])
theorem mI_tick {V : Nat → Int32} {x : Int32} (h : mI V) : mI (upd V 1847 x) := by
  refine mI_of h (fun i hi => pk_un (by omega)) (fun i h1 h2 => pk_un (by omega)) (fun a ha => ?_) (fun k hk => ?_)
  · obtain ⟨⟨x, e1, e2⟩, ⟨y, e3, e4⟩⟩ := h.2.2.2.2.2.1 a ha
    exact ⟨⟨x, e1, by rw [pk_un (by omega), e2]⟩, ⟨y, e3, by rw [pk_un (by omega), e4]⟩⟩
  · obtain ⟨x, e1, e2⟩ := h.2.2.2.2.2.2.1 k hk
    exact ⟨x, e1, by rw [pk_un (by omega), e2]⟩
theorem mGos_out {V : Nat → Int32} (h : mI V) {i : Nat} (hi : i < 206 ∨ 1586 ≤ i) : ∀ n, n ≤ 60 → mGos V n i = V i
  | 0, _ => rfl
  | n + 1, hn => by
    rw [mGos, mGo_out ((mGos_I h n (by omega)).2.2.2.2.2.1 n (by omega)).2 (by omega)]
    exact mGos_out h hi n (by omega)
theorem mTick_48 {V : Nat → Int32} (h : mI V) : mTick V 1848 = V 1848 := by rw [mTick_eq, mGos_out (mI_tick h) (by omega) 60 (by omega), pk_un (by omega)]
section MODEL
variable {G : gG} {M : gM} {m : Nat} {hi tn at_ fa : Int32} {V : Nat → Int32} {S : Nat → Int64}
set_option maxHeartbeats 1000000 in
set_option maxRecDepth 20000 in
theorem c12_step (hm : M.1 m = some (mO m hi tn at_ fa)) (hV : M.1 (m + 1) = some (gI 1999 V)) (hS : M.1 (m + 4) = some (gL 128 S)) (hI : mI V) : gCon G kX12_step 5 0 0 M [.ref m] (fun M2 v => M2 = mUp m M (mStep (V, S)).1 (mStep (V, S)).2 ∧ v = some (.int (mCnt (V, S)))) := by
  have hI0 : mI (upd V 1847 (V 1847 + 1)) := mI_tick hI
  refine gCon_of (by decide) (Nat.le_of_ble_eq_true rfl) ?_
  have loop2 : ∀ (q j : Nat), j + q = 129 → j ≤ 128 → ∀ (W : Nat → Int32) (T : Nat → Int64), (W, T) = mKs (mActs (mTick V)) (mTick V, S) j →
      gJ G kX12_step 5 0 0 (mUp m M W T) 48 [(4, .int (nI j)), (3, .int (mTick V 1848)), (1, .long (mActs (mTick V))), (0, .ref m)] [] (gQ kX12_step (fun M2 v => M2 = mUp m M (mStep (V, S)).1 (mStep (V, S)).2 ∧ v = some (.int (mCnt (V, S))))) := by
    intro q
    induction q with
    | zero => intro j h1 h2; exact absurd h1 (by omega)
    | succ q ih =>
      intro j hq hj W T hWT
      have hm2 : (mUp m M W T).1 m = some (mO m hi tn at_ fa) := mUp_n hm (by omega) (by omega)
      have hV2 := mUp_V (m := m) (M := M) (V := W) (S := T)
      have hS2 := mUp_S (m := m) (M := M) (V := W) (S := T)
      have H : mWith W (mActs (mTick V)) (nI j) = mWith W (mActs (mTick V)) (nI j) := rfl
      revert H
      generalize hset : mWith W (mActs (mTick V)) (nI j) = set
      intro _
      have L197 : j < 128 → W (1586 + 2 * j) = 1 → (set &&& (T j ^^^ (-1)) = 0 ∨ W 1847 - W (1586 + 2 * j + 1) < W 1842) → gJ G kX12_step 5 0 0 (mUp m M W T) 197 [(8, .int (W 1847 - W (1586 + 2 * j + 1))), (6, .long set), (5, .int 1), (4, .int (nI j)), (3, .int (mTick V 1848)), (1, .long (mActs (mTick V))), (0, .ref m)] [] (gQ kX12_step (fun M2 v => M2 = mUp m M (mStep (V, S)).1 (mStep (V, S)).2 ∧ v = some (.int (mCnt (V, S))))) := by
        intro hj4 ho hc
        refine gJ_lload dX12_step_197 rfl ?_
        refine gJ_lconst (v := 0) dX12_step_199 (by decide) ?_
        refine gJ_lcmp dX12_step_200 ?_
        refine gJ_if_eq (tgt := 229) dX12_step_201 (by decide) (fun c201 => ?_) (fun c201 => ?_)
        · refine gJ_aload_n dX12_step_229 rfl rfl ?_
          refine gJ_iload dX12_step_230 rfl ?_
          refine gJ_iconst (v := 3) dX12_step_232 (by decide) ?_
          refine gJ_lload dX12_step_233 rfl ?_
          refine gJ_callV (As := [_, _, _]) b_X12_sends lX12_156 i_X12_sends s_X12_sends dX12_step_235 (c12_sends hm2 hV2 hS2 j 3 (by omega) (by decide) _) (by first | with_reducible assumption | with_reducible exact gUp_s | with_reducible exact gUp_n (by with_reducible assumption) (by omega) | exact gUp_n (by assumption) (by omega) | assumption) rfl rfl (Nat.le_of_ble_eq_true rfl) rfl (by decide) (fun M235 v_ h235 => ?_)
          obtain ⟨rfl, rfl⟩ := h235
          rw [mUp_up]
          refine gJ_iincN (a := j) (b := 1) (lv2 := [(4, _), (8, _), (6, _), (5, _), (3, _), (1, _), (0, _)]) dX12_step_238 rfl rfl rfl rfl ?_
          refine gJ_goto (tgt := 48) dX12_step_241 (by decide) ?_
          refine gJ_ls (ih (j + 1) (by omega) (by omega) _ _ ?_) ⟨rfl, rfl, rfl, rfl, trivial⟩
          rw [mKs, ← hWT, mStepK]
          rw [if_pos ho, hset, if_pos hc, if_pos ((lg_cmp_eq _ _).mp c201)]
        · refine gJ_iload dX12_step_204 rfl ?_
          refine gJ_aload_n dX12_step_206 rfl rfl ?_
          refine gJ_get fX12_9 dX12_step_207 (by first | with_reducible assumption | with_reducible exact gUp_s | with_reducible exact gUp_n (by with_reducible assumption) (by omega) | exact gUp_n (by assumption) (by omega) | assumption) rfl ?_
          refine gJ_sipush (v := 1843) dX12_step_210 (by decide) ?_
          refine gJ_ialdN (j := 1843) dX12_step_213 (by first | with_reducible assumption | with_reducible exact gUp_s | with_reducible exact gUp_n (by with_reducible assumption) (by omega) | exact gUp_n (by assumption) (by omega) | assumption) (by first | with_reducible rfl | rfl) (by omega) (by decide) ?_
          refine gJ_icmp_lt (tgt := 238) dX12_step_214 (by decide) (fun c214 => ?_) (fun c214 => ?_)
          · refine gJ_iincN (a := j) (b := 1) (lv2 := [(4, _), (8, _), (6, _), (5, _), (3, _), (1, _), (0, _)]) dX12_step_238 rfl rfl rfl rfl ?_
            refine gJ_goto (tgt := 48) dX12_step_241 (by decide) ?_
            refine gJ_ls (ih (j + 1) (by omega) (by omega) _ _ ?_) ⟨rfl, rfl, rfl, rfl, trivial⟩
            rw [mKs, ← hWT, mStepK]
            rw [if_pos ho, hset, if_pos hc, if_neg (fun h => c201 ((lg_cmp_eq _ _).mpr h)), if_pos c214]
          · refine gJ_aload_n dX12_step_217 rfl rfl ?_
            refine gJ_iload dX12_step_218 rfl ?_
            refine gJ_iconst (v := 2) dX12_step_220 (by decide) ?_
            refine gJ_lload dX12_step_221 rfl ?_
            refine gJ_callV (As := [_, _, _]) b_X12_sends lX12_156 i_X12_sends s_X12_sends dX12_step_223 (c12_sends hm2 hV2 hS2 j 2 (by omega) (by decide) _) (by first | with_reducible assumption | with_reducible exact gUp_s | with_reducible exact gUp_n (by with_reducible assumption) (by omega) | exact gUp_n (by assumption) (by omega) | assumption) rfl rfl (Nat.le_of_ble_eq_true rfl) rfl (by decide) (fun M223 v_ h223 => ?_)
            obtain ⟨rfl, rfl⟩ := h223
            rw [mUp_up]
            refine gJ_goto (tgt := 238) dX12_step_226 (by decide) ?_
            refine gJ_iincN (a := j) (b := 1) (lv2 := [(4, _), (8, _), (6, _), (5, _), (3, _), (1, _), (0, _)]) dX12_step_238 rfl rfl rfl rfl ?_
            refine gJ_goto (tgt := 48) dX12_step_241 (by decide) ?_
            refine gJ_ls (ih (j + 1) (by omega) (by omega) _ _ ?_) ⟨rfl, rfl, rfl, rfl, trivial⟩
            rw [mKs, ← hWT, mStepK]
            rw [if_pos ho, hset, if_pos hc, if_neg (fun h => c201 ((lg_cmp_eq _ _).mpr h)), if_neg c214]
      have L94o : j < 128 → W (1586 + 2 * j) = 1 → gJ G kX12_step 5 0 0 (mUp m M W T) 94 [(5, .int 1), (4, .int (nI j)), (3, .int (mTick V 1848)), (1, .long (mActs (mTick V))), (0, .ref m)] [] (gQ kX12_step (fun M2 v => M2 = mUp m M (mStep (V, S)).1 (mStep (V, S)).2 ∧ v = some (.int (mCnt (V, S))))) := by
        intro hj4 ho
        refine gJ_aload_n dX12_step_94 rfl rfl ?_
        refine gJ_lload_n dX12_step_95 rfl rfl ?_
        refine gJ_iload dX12_step_96 rfl ?_
        refine gJ_callV (As := [_, _]) b_X12_withKey lX12_152 i_X12_withKey s_X12_withKey dX12_step_98 (c12_withKey hm2 hV2 _ _) (by first | with_reducible assumption | with_reducible exact gUp_s | with_reducible exact gUp_n (by with_reducible assumption) (by omega) | exact gUp_n (by assumption) (by omega) | assumption) rfl rfl (Nat.le_of_ble_eq_true rfl) rfl (by decide) (fun M98 v_ h98 => ?_)
        obtain ⟨e98, rfl⟩ := h98
        subst e98
        rw [hset]
        refine gJ_lstore (lv2 := [(6, _), (5, _), (4, _), (3, _), (1, _), (0, _)]) dX12_step_101 rfl rfl ?_
        refine gJ_aload_n dX12_step_103 rfl rfl ?_
        refine gJ_get fX12_9 dX12_step_104 (by first | with_reducible assumption | with_reducible exact gUp_s | with_reducible exact gUp_n (by with_reducible assumption) (by omega) | exact gUp_n (by assumption) (by omega) | assumption) rfl ?_
        refine gJ_sipush (v := 1847) dX12_step_107 (by decide) ?_
        refine gJ_ialdN (j := 1847) dX12_step_110 (by first | with_reducible assumption | with_reducible exact gUp_s | with_reducible exact gUp_n (by with_reducible assumption) (by omega) | exact gUp_n (by assumption) (by omega) | assumption) (by first | with_reducible rfl | rfl) (by omega) (by decide) ?_
        refine gJ_aload_n dX12_step_111 rfl rfl ?_
        refine gJ_get fX12_9 dX12_step_112 (by first | with_reducible assumption | with_reducible exact gUp_s | with_reducible exact gUp_n (by with_reducible assumption) (by omega) | exact gUp_n (by assumption) (by omega) | assumption) rfl ?_
        refine gJ_sipush (v := 1586) dX12_step_115 (by decide) ?_
        refine gJ_iconst (v := 2) dX12_step_118 (by decide) ?_
        refine gJ_iload dX12_step_119 rfl ?_
        refine gJ_imulN (a := 2) (b := j) dX12_step_121 (by first | with_reducible rfl | rfl) (by first | with_reducible rfl | rfl) ?_
        refine gJ_iaddN (a := 1586) (b := (2 * j)) dX12_step_122 (by first | with_reducible rfl | rfl) (by first | with_reducible rfl | rfl) ?_
        refine gJ_iconst (v := 1) dX12_step_123 (by decide) ?_
        refine gJ_iaddN (a := (1586 + (2 * j))) (b := 1) dX12_step_124 (by first | with_reducible rfl | rfl) (by first | with_reducible rfl | rfl) ?_
        refine gJ_ialdN (j := ((1586 + (2 * j)) + 1)) dX12_step_125 (by first | with_reducible assumption | with_reducible exact gUp_s | with_reducible exact gUp_n (by with_reducible assumption) (by omega) | exact gUp_n (by assumption) (by omega) | assumption) (by first | with_reducible rfl | rfl) (by omega) (by decide) ?_
        refine gJ_isub dX12_step_126 ?_
        refine gJ_istore (lv2 := [(8, _), (6, _), (5, _), (4, _), (3, _), (1, _), (0, _)]) dX12_step_127 rfl rfl ?_
        refine gJ_iload dX12_step_129 rfl ?_
        refine gJ_if_neN (tgt := 153) (a := 1) (by first | with_reducible rfl | rfl) (by omega) dX12_step_131 (by decide) (fun _ => ?_) (fun c_ => by exfalso; omega)
        refine gJ_lload dX12_step_153 rfl ?_
        refine gJ_aload_n dX12_step_155 rfl rfl ?_
        refine gJ_get fX12_19 dX12_step_156 (by first | with_reducible assumption | with_reducible exact gUp_s | with_reducible exact gUp_n (by with_reducible assumption) (by omega) | exact gUp_n (by assumption) (by omega) | assumption) rfl ?_
        refine gJ_iload dX12_step_159 rfl ?_
        refine gJ_laldN (j := j) dX12_step_161 (by first | with_reducible assumption | with_reducible exact gUp_s | with_reducible exact gUp_n (by with_reducible assumption) (by omega) | exact gUp_n (by assumption) (by omega) | assumption) (by first | with_reducible rfl | rfl) (by omega) (by decide) ?_
        refine gJ_ldc2 (v := -1) dX12_step_162 cX12_160 ?_
        refine gJ_lxor dX12_step_165 ?_
        refine gJ_land dX12_step_166 ?_
        refine gJ_lconst (v := 0) dX12_step_167 (by decide) ?_
        refine gJ_lcmp dX12_step_168 ?_
        refine gJ_if_eq (tgt := 197) dX12_step_169 (by decide) (fun c169 => ?_) (fun c169 => ?_)
        · exact gJ_ls (L197 hj4 ho (Or.inl ((lg_cmp_eq _ _).mp c169))) ⟨rfl, rfl, rfl, rfl, rfl, rfl, rfl, trivial⟩
        · refine gJ_iload dX12_step_172 rfl ?_
          refine gJ_aload_n dX12_step_174 rfl rfl ?_
          refine gJ_get fX12_9 dX12_step_175 (by first | with_reducible assumption | with_reducible exact gUp_s | with_reducible exact gUp_n (by with_reducible assumption) (by omega) | exact gUp_n (by assumption) (by omega) | assumption) rfl ?_
          refine gJ_sipush (v := 1842) dX12_step_178 (by decide) ?_
          refine gJ_ialdN (j := 1842) dX12_step_181 (by first | with_reducible assumption | with_reducible exact gUp_s | with_reducible exact gUp_n (by with_reducible assumption) (by omega) | exact gUp_n (by assumption) (by omega) | assumption) (by first | with_reducible rfl | rfl) (by omega) (by decide) ?_
          refine gJ_icmp_lt (tgt := 197) dX12_step_182 (by decide) (fun c182 => ?_) (fun c182 => ?_)
          · exact gJ_ls (L197 hj4 ho (Or.inr c182)) ⟨rfl, rfl, rfl, rfl, rfl, rfl, rfl, trivial⟩
          · refine gJ_aload_n dX12_step_185 rfl rfl ?_
            refine gJ_iload dX12_step_186 rfl ?_
            refine gJ_iconst (v := 1) dX12_step_188 (by decide) ?_
            refine gJ_lload dX12_step_189 rfl ?_
            refine gJ_callV (As := [_, _, _]) b_X12_sends lX12_156 i_X12_sends s_X12_sends dX12_step_191 (c12_sends hm2 hV2 hS2 j 1 (by omega) (by decide) _) (by first | with_reducible assumption | with_reducible exact gUp_s | with_reducible exact gUp_n (by with_reducible assumption) (by omega) | exact gUp_n (by assumption) (by omega) | assumption) rfl rfl (Nat.le_of_ble_eq_true rfl) rfl (by decide) (fun M191 v_ h191 => ?_)
            obtain ⟨rfl, rfl⟩ := h191
            rw [mUp_up]
            refine gJ_goto (tgt := 238) dX12_step_194 (by decide) ?_
            refine gJ_iincN (a := j) (b := 1) (lv2 := [(4, _), (8, _), (6, _), (5, _), (3, _), (1, _), (0, _)]) dX12_step_238 rfl rfl rfl rfl ?_
            refine gJ_goto (tgt := 48) dX12_step_241 (by decide) ?_
            refine gJ_ls (ih (j + 1) (by omega) (by omega) _ _ ?_) ⟨rfl, rfl, rfl, rfl, trivial⟩
            rw [mKs, ← hWT, mStepK]
            rw [if_pos ho, hset, if_neg (fun h => h.elim (fun h => c169 ((lg_cmp_eq _ _).mpr h)) c182)]
      have L94c : j < 128 → ¬ W (1586 + 2 * j) = 1 → gJ G kX12_step 5 0 0 (mUp m M W T) 94 [(5, .int 0), (4, .int (nI j)), (3, .int (mTick V 1848)), (1, .long (mActs (mTick V))), (0, .ref m)] [] (gQ kX12_step (fun M2 v => M2 = mUp m M (mStep (V, S)).1 (mStep (V, S)).2 ∧ v = some (.int (mCnt (V, S))))) := by
        intro hj4 ho
        refine gJ_aload_n dX12_step_94 rfl rfl ?_
        refine gJ_lload_n dX12_step_95 rfl rfl ?_
        refine gJ_iload dX12_step_96 rfl ?_
        refine gJ_callV (As := [_, _]) b_X12_withKey lX12_152 i_X12_withKey s_X12_withKey dX12_step_98 (c12_withKey hm2 hV2 _ _) (by first | with_reducible assumption | with_reducible exact gUp_s | with_reducible exact gUp_n (by with_reducible assumption) (by omega) | exact gUp_n (by assumption) (by omega) | assumption) rfl rfl (Nat.le_of_ble_eq_true rfl) rfl (by decide) (fun M98 v_ h98 => ?_)
        obtain ⟨e98, rfl⟩ := h98
        subst e98
        rw [hset]
        refine gJ_lstore (lv2 := [(6, _), (5, _), (4, _), (3, _), (1, _), (0, _)]) dX12_step_101 rfl rfl ?_
        refine gJ_aload_n dX12_step_103 rfl rfl ?_
        refine gJ_get fX12_9 dX12_step_104 (by first | with_reducible assumption | with_reducible exact gUp_s | with_reducible exact gUp_n (by with_reducible assumption) (by omega) | exact gUp_n (by assumption) (by omega) | assumption) rfl ?_
        refine gJ_sipush (v := 1847) dX12_step_107 (by decide) ?_
        refine gJ_ialdN (j := 1847) dX12_step_110 (by first | with_reducible assumption | with_reducible exact gUp_s | with_reducible exact gUp_n (by with_reducible assumption) (by omega) | exact gUp_n (by assumption) (by omega) | assumption) (by first | with_reducible rfl | rfl) (by omega) (by decide) ?_
        refine gJ_aload_n dX12_step_111 rfl rfl ?_
        refine gJ_get fX12_9 dX12_step_112 (by first | with_reducible assumption | with_reducible exact gUp_s | with_reducible exact gUp_n (by with_reducible assumption) (by omega) | exact gUp_n (by assumption) (by omega) | assumption) rfl ?_
        refine gJ_sipush (v := 1586) dX12_step_115 (by decide) ?_
        refine gJ_iconst (v := 2) dX12_step_118 (by decide) ?_
        refine gJ_iload dX12_step_119 rfl ?_
        refine gJ_imulN (a := 2) (b := j) dX12_step_121 (by first | with_reducible rfl | rfl) (by first | with_reducible rfl | rfl) ?_
        refine gJ_iaddN (a := 1586) (b := (2 * j)) dX12_step_122 (by first | with_reducible rfl | rfl) (by first | with_reducible rfl | rfl) ?_
        refine gJ_iconst (v := 1) dX12_step_123 (by decide) ?_
        refine gJ_iaddN (a := (1586 + (2 * j))) (b := 1) dX12_step_124 (by first | with_reducible rfl | rfl) (by first | with_reducible rfl | rfl) ?_
        refine gJ_ialdN (j := ((1586 + (2 * j)) + 1)) dX12_step_125 (by first | with_reducible assumption | with_reducible exact gUp_s | with_reducible exact gUp_n (by with_reducible assumption) (by omega) | exact gUp_n (by assumption) (by omega) | assumption) (by first | with_reducible rfl | rfl) (by omega) (by decide) ?_
        refine gJ_isub dX12_step_126 ?_
        refine gJ_istore (lv2 := [(8, _), (6, _), (5, _), (4, _), (3, _), (1, _), (0, _)]) dX12_step_127 rfl rfl ?_
        refine gJ_iload dX12_step_129 rfl ?_
        refine gJ_if_neN (tgt := 153) (a := 0) (by first | with_reducible rfl | rfl) (by omega) dX12_step_131 (by decide) (fun c_ => by exfalso; omega) (fun _ => ?_)
        refine gJ_lload dX12_step_134 rfl ?_
        refine gJ_lconst (v := 0) dX12_step_136 (by decide) ?_
        refine gJ_lcmp dX12_step_137 ?_
        refine gJ_if_eq (tgt := 238) dX12_step_138 (by decide) (fun c138 => ?_) (fun c138 => ?_)
        · refine gJ_iincN (a := j) (b := 1) (lv2 := [(4, _), (8, _), (6, _), (5, _), (3, _), (1, _), (0, _)]) dX12_step_238 rfl rfl rfl rfl ?_
          refine gJ_goto (tgt := 48) dX12_step_241 (by decide) ?_
          refine gJ_ls (ih (j + 1) (by omega) (by omega) _ _ ?_) ⟨rfl, rfl, rfl, rfl, trivial⟩
          rw [mKs, ← hWT, mStepK]
          rw [if_neg ho, hset, if_pos ((lg_cmp_eq _ _).mp c138)]
        · refine gJ_aload_n dX12_step_141 rfl rfl ?_
          refine gJ_iload dX12_step_142 rfl ?_
          refine gJ_iconst (v := 0) dX12_step_144 (by decide) ?_
          refine gJ_lload dX12_step_145 rfl ?_
          refine gJ_callV (As := [_, _, _]) b_X12_sends lX12_156 i_X12_sends s_X12_sends dX12_step_147 (c12_sends hm2 hV2 hS2 j 0 (by omega) (by decide) _) (by first | with_reducible assumption | with_reducible exact gUp_s | with_reducible exact gUp_n (by with_reducible assumption) (by omega) | exact gUp_n (by assumption) (by omega) | assumption) rfl rfl (Nat.le_of_ble_eq_true rfl) rfl (by decide) (fun M147 v_ h147 => ?_)
          obtain ⟨rfl, rfl⟩ := h147
          rw [mUp_up]
          refine gJ_goto (tgt := 238) dX12_step_150 (by decide) ?_
          refine gJ_iincN (a := j) (b := 1) (lv2 := [(4, _), (8, _), (6, _), (5, _), (3, _), (1, _), (0, _)]) dX12_step_238 rfl rfl rfl rfl ?_
          refine gJ_goto (tgt := 48) dX12_step_241 (by decide) ?_
          refine gJ_ls (ih (j + 1) (by omega) (by omega) _ _ ?_) ⟨rfl, rfl, rfl, rfl, trivial⟩
          rw [mKs, ← hWT, mStepK]
          rw [if_neg ho, hset, if_neg (fun h => c138 ((lg_cmp_eq _ _).mpr h))]
      refine gJ_iload dX12_step_48 rfl ?_
      refine gJ_sipush (v := 128) dX12_step_50 (by decide) ?_
      refine gJ_icmp_geN (tgt := 244) (a := j) (b := 128) (by first | with_reducible rfl | rfl) (by first | with_reducible rfl | rfl) (by omega) (by omega) dX12_step_53 (by decide) (fun c53 => ?_) (fun c53 => ?_)
      · refine gJ_aload_n dX12_step_244 rfl rfl ?_
        refine gJ_get fX12_9 dX12_step_245 (by first | with_reducible assumption | with_reducible exact gUp_s | with_reducible exact gUp_n (by with_reducible assumption) (by omega) | exact gUp_n (by assumption) (by omega) | assumption) rfl ?_
        refine gJ_sipush (v := 1848) dX12_step_248 (by decide) ?_
        refine gJ_ialdN (j := 1848) dX12_step_251 (by first | with_reducible assumption | with_reducible exact gUp_s | with_reducible exact gUp_n (by with_reducible assumption) (by omega) | exact gUp_n (by assumption) (by omega) | assumption) (by first | with_reducible rfl | rfl) (by omega) (by decide) ?_
        refine gJ_iload_n dX12_step_252 rfl rfl ?_
        refine gJ_isub dX12_step_253 ?_
        refine gJ_iret dX12_step_254 rfl ?_
        have e1 : j = 128 := by omega
        subst e1
        refine ⟨by rw [mStep_eq, ← hWT], ?_⟩
        rw [mCnt, mStep_eq, ← hWT, mTick_48 hI]
      · refine gJ_aload_n dX12_step_56 rfl rfl ?_
        refine gJ_get fX12_9 dX12_step_57 (by first | with_reducible assumption | with_reducible exact gUp_s | with_reducible exact gUp_n (by with_reducible assumption) (by omega) | exact gUp_n (by assumption) (by omega) | assumption) rfl ?_
        refine gJ_sipush (v := 1586) dX12_step_60 (by decide) ?_
        refine gJ_iconst (v := 2) dX12_step_63 (by decide) ?_
        refine gJ_iload dX12_step_64 rfl ?_
        refine gJ_imulN (a := 2) (b := j) dX12_step_66 (by first | with_reducible rfl | rfl) (by first | with_reducible rfl | rfl) ?_
        refine gJ_iaddN (a := 1586) (b := (2 * j)) dX12_step_67 (by first | with_reducible rfl | rfl) (by first | with_reducible rfl | rfl) ?_
        refine gJ_ialdN (j := (1586 + (2 * j))) dX12_step_68 (by first | with_reducible assumption | with_reducible exact gUp_s | with_reducible exact gUp_n (by with_reducible assumption) (by omega) | exact gUp_n (by assumption) (by omega) | assumption) (by first | with_reducible rfl | rfl) (by omega) (by decide) ?_
        refine gJ_iconst (v := 1) dX12_step_69 (by decide) ?_
        refine gJ_icmp_ne (tgt := 77) dX12_step_70 (by decide) (fun c70 => ?_) (fun c70 => ?_)
        · refine gJ_iconst (v := 0) dX12_step_77 (by decide) ?_
          refine gJ_istore (lv2 := [(5, _), (4, _), (3, _), (1, _), (0, _)]) dX12_step_78 rfl rfl ?_
          refine gJ_lload_n dX12_step_80 rfl rfl ?_
          refine gJ_lconst (v := 0) dX12_step_81 (by decide) ?_
          refine gJ_lcmp dX12_step_82 ?_
          refine gJ_if_ne (tgt := 94) dX12_step_83 (by decide) (fun c83 => ?_) (fun c83 => ?_)
          · exact gJ_ls (L94c (by omega) c70) ⟨rfl, rfl, rfl, rfl, rfl, trivial⟩
          · refine gJ_iload dX12_step_86 rfl ?_
            refine gJ_if_neN (tgt := 94) (a := 0) (by first | with_reducible rfl | rfl) (by omega) dX12_step_88 (by decide) (fun c_ => by exfalso; omega) (fun _ => ?_)
            refine gJ_goto (tgt := 238) dX12_step_91 (by decide) ?_
            refine gJ_iincN (a := j) (b := 1) (lv2 := [(4, _), (5, _), (3, _), (1, _), (0, _)]) dX12_step_238 rfl rfl rfl rfl ?_
            refine gJ_goto (tgt := 48) dX12_step_241 (by decide) ?_
            refine gJ_ls (ih (j + 1) (by omega) (by omega) _ _ ?_) ⟨rfl, rfl, rfl, rfl, trivial⟩
            rw [mKs, ← hWT, mStepK]
            rw [if_neg c70, if_pos (by rw [(lg_cmp_eq _ _).mp c83]; exact mWith_0 _ _)]
        · refine gJ_iconst (v := 1) dX12_step_73 (by decide) ?_
          refine gJ_goto (tgt := 78) dX12_step_74 (by decide) ?_
          refine gJ_istore (lv2 := [(5, _), (4, _), (3, _), (1, _), (0, _)]) dX12_step_78 rfl rfl ?_
          refine gJ_lload_n dX12_step_80 rfl rfl ?_
          refine gJ_lconst (v := 0) dX12_step_81 (by decide) ?_
          refine gJ_lcmp dX12_step_82 ?_
          refine gJ_if_ne (tgt := 94) dX12_step_83 (by decide) (fun c83 => ?_) (fun c83 => ?_)
          · exact gJ_ls (L94o (by omega) c70) ⟨rfl, rfl, rfl, rfl, rfl, trivial⟩
          · refine gJ_iload dX12_step_86 rfl ?_
            refine gJ_if_neN (tgt := 94) (a := 1) (by first | with_reducible rfl | rfl) (by omega) dX12_step_88 (by decide) (fun _ => ?_) (fun c_ => by exfalso; omega)
            exact gJ_ls (L94o (by omega) c70) ⟨rfl, rfl, rfl, rfl, rfl, trivial⟩
  have L31 : ∀ W : Nat → Int32, mTick V = W → gJ G kX12_step 5 0 0 (gUp M (m + 1) (gI 1999 W)) 31 [(0, .ref m)] [] (gQ kX12_step (fun M2 v => M2 = mUp m M (mStep (V, S)).1 (mStep (V, S)).2 ∧ v = some (.int (mCnt (V, S))))) := by
    intro W hW
    have hIW : mI W := by rw [← hW, mTick_eq]; exact mGos_I hI0 60 (by omega)
    have L := loop2 129 0 (by omega) (by omega) (mTick V) S rfl
    rw [hW] at L
    clear hW loop2 hI0
    refine gJ_aload_n dX12_step_31 rfl rfl ?_
    refine gJ_callV (As := []) b_X12_actives lX12_148 i_X12_actives s_X12_actives dX12_step_32 (c12_actives (gUp_n hm (by omega)) gUp_s hIW) (by first | with_reducible assumption | with_reducible exact gUp_s | with_reducible exact gUp_n (by with_reducible assumption) (by omega) | exact gUp_n (by assumption) (by omega) | assumption) rfl rfl (Nat.le_of_ble_eq_true rfl) rfl (by decide) (fun M32 v_ h32 => ?_)
    obtain ⟨e32, rfl⟩ := h32
    subst e32
    refine gJ_lstore_n (lv2 := [(1, _), (0, _)]) dX12_step_35 rfl rfl rfl ?_
    refine gJ_aload_n dX12_step_36 rfl rfl ?_
    refine gJ_get fX12_9 dX12_step_37 (by first | with_reducible assumption | with_reducible exact gUp_s | with_reducible exact gUp_n (by with_reducible assumption) (by omega) | exact gUp_n (by assumption) (by omega) | assumption) rfl ?_
    refine gJ_sipush (v := 1848) dX12_step_40 (by decide) ?_
    refine gJ_ialdN (j := 1848) dX12_step_43 (by first | with_reducible assumption | with_reducible exact gUp_s | with_reducible exact gUp_n (by with_reducible assumption) (by omega) | exact gUp_n (by assumption) (by omega) | assumption) (by first | with_reducible rfl | rfl) (by omega) (by decide) ?_
    refine gJ_istore_n (lv2 := [(3, _), (1, _), (0, _)]) dX12_step_44 rfl rfl rfl ?_
    refine gJ_iconst (v := 0) dX12_step_45 (by decide) ?_
    refine gJ_istore (lv2 := [(4, _), (3, _), (1, _), (0, _)]) dX12_step_46 rfl rfl ?_
    rw [mUp_v hS]
    exact gJ_ls L ⟨rfl, rfl, rfl, rfl, trivial⟩
  have loop1 : ∀ (q j : Nat), j + q = 61 → j ≤ 60 →
      gJ G kX12_step 5 0 0 (gUp M (m + 1) (gI 1999 (mGos (upd V 1847 (V 1847 + 1)) j))) 14 [(1, .int (nI j)), (0, .ref m)] [] (gQ kX12_step (fun M2 v => M2 = mUp m M (mStep (V, S)).1 (mStep (V, S)).2 ∧ v = some (.int (mCnt (V, S))))) := by
    intro q
    induction q with
    | zero => intro j h1 h2; exact absurd h1 (by omega)
    | succ q ih =>
      intro j hq hj
      refine gJ_iload_n dX12_step_14 rfl rfl ?_
      refine gJ_bipush (v := 60) dX12_step_15 (by decide) ?_
      refine gJ_icmp_geN (tgt := 31) (a := j) (b := 60) (by first | with_reducible rfl | rfl) (by first | with_reducible rfl | rfl) (by omega) (by omega) dX12_step_17 (by decide) (fun c17 => ?_) (fun c17 => ?_)
      · have e1 : j = 60 := by omega
        subst e1
        exact gJ_ls (L31 _ (mTick_eq V)) ⟨rfl, trivial⟩
      · refine gJ_aload_n dX12_step_20 rfl rfl ?_
        refine gJ_iload_n dX12_step_21 rfl rfl ?_
        refine gJ_callV (As := [_]) b_X12_goesOn lX12_145 i_X12_goesOn s_X12_goesOn dX12_step_22 (c12_goesOn (gUp_n hm (by omega)) gUp_s (mGos_I hI0 j (by omega)) j (by omega)) (by first | with_reducible assumption | with_reducible exact gUp_s | with_reducible exact gUp_n (by with_reducible assumption) (by omega) | exact gUp_n (by assumption) (by omega) | assumption) rfl rfl (Nat.le_of_ble_eq_true rfl) rfl (by decide) (fun M22 v_ h22 => ?_)
        obtain ⟨rfl, rfl⟩ := h22
        rw [gUp_up]
        refine gJ_iincN (a := j) (b := 1) (lv2 := [(1, _), (0, _)]) dX12_step_25 rfl rfl rfl rfl ?_
        refine gJ_goto (tgt := 14) dX12_step_28 (by decide) ?_
        exact gJ_ls (ih (j + 1) (by omega) (by omega)) ⟨rfl, rfl, trivial⟩
  show gJ _ _ _ _ _ _ 0 [(0, _)] [] _
  refine gJ_aload_n dX12_step_0 rfl rfl ?_
  refine gJ_get fX12_9 dX12_step_1 (by first | with_reducible assumption | with_reducible exact gUp_s | with_reducible exact gUp_n (by with_reducible assumption) (by omega) | exact gUp_n (by assumption) (by omega) | assumption) rfl ?_
  refine gJ_sipush (v := 1847) dX12_step_4 (by decide) ?_
  refine gJ_dup2 dX12_step_7 rfl rfl ?_
  refine gJ_ialdN (j := 1847) dX12_step_8 (by first | with_reducible assumption | with_reducible exact gUp_s | with_reducible exact gUp_n (by with_reducible assumption) (by omega) | exact gUp_n (by assumption) (by omega) | assumption) (by first | with_reducible rfl | rfl) (by omega) (by decide) ?_
  refine gJ_iconst (v := 1) dX12_step_9 (by decide) ?_
  refine gJ_iadd dX12_step_10 ?_
  refine gJ_iastN (j := 1847) dX12_step_11 (by first | with_reducible assumption | with_reducible exact gUp_s | with_reducible exact gUp_n (by with_reducible assumption) (by omega) | exact gUp_n (by assumption) (by omega) | assumption) (by first | with_reducible rfl | rfl) (by omega) (by decide) ?_
  try rw [gUp_up]
  refine gJ_iconst (v := 0) dX12_step_12 (by decide) ?_
  refine gJ_istore_n (lv2 := [(1, _), (0, _)]) dX12_step_13 rfl rfl rfl ?_
  exact gJ_ls (loop1 61 0 (by omega) (by omega)) ⟨rfl, rfl, trivial⟩
end MODEL
