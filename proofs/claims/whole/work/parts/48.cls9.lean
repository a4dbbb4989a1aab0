/-- all cells from E on stay -/
def gKp (M M2 : gM) (E : Nat) : Prop := ∀ q c, E ≤ q → M.1 q = some c → M2.1 q = some c
theorem gFr_kp {M M2 : gM} {a n E : Nat} (h : gFr M M2 a n) (hE : a + n ≤ E) : gKp M M2 E := fun q c hq hc => (h.2 q (by omega)).trans hc
theorem cMat_kp {M M2 : gM} {E q f : Nat} {V : Nat → Int32} (h : cMat M E q V f) (hk : gKp M M2 E) : cMat M2 E q V f := by
  obtain ⟨e0, q1, q2, L, Z, e1, e2, g0, g1, g2, g3⟩ := h
  exact ⟨e0, q1, q2, L, Z, e1, e2, hk _ _ e0 g0, hk _ _ e1 g1, hk _ _ e2 g2, g3⟩
theorem cMat_V {M : gM} {E q f : Nat} {V W : Nat → Int32} (h : cMat M E q V f) (hm : mMs V f) (hW : ∀ i, i < 206 → W i = V i) : cMat M E q W f := by
  obtain ⟨e0, q1, q2, L, Z, e1, e2, g0, g1, g2, g3⟩ := h
  obtain ⟨hf, n, hn, hVn, -⟩ := hm
  have hnn := mN_of hVn (by omega)
  have eN : ∀ i, i < 206 → mN W i = mN V i := fun i hi => by unfold mN; rw [hW i hi]
  refine ⟨e0, q1, q2, L, Z, e1, e2, by rw [hW f (by omega)]; exact g0, g1, g2, fun j hj => ?_⟩
  rw [eN f (by omega)] at hj
  rw [eN (f + (j + 1)) (by omega)]
  exact g3 j hj
def cRS (M : gM) (E p : Nat) (V : Nat → Int32) : Prop := ∃ X RU SI IN, M.1 p = some (cSu p) ∧ M.1 (p + 1) = some (gI 36 (cLab V)) ∧ M.1 (p + 2) = some (gI 12 X) ∧ M.1 (p + 3) = some (gZ 12 (cHas V)) ∧ M.1 (p + 4) = some (gR 3 5 RU) ∧ M.1 (p + 5) = some (gR 4 6 SI) ∧ M.1 (p + 6) = some (gR 5 4 IN) ∧ M.1 (p + 7) = some (gI 5 (cPar V)) ∧ M.1 (p + 8) = some (gL 20 (cSets V)) ∧ (∀ s, s < 12 → ¬ V (48 + s) = 0 → X s = V (36 + s)) ∧ (∀ r, r < 5 → cRul M E V r (RU r)) ∧ (∀ k, k < 6 → cSil M E V k (SI k)) ∧ ∀ k, k < 4 → cInh M E V k (IN k)
theorem cRul_kp {M M2 : gM} {E r : Nat} {o : Option Nat} {V : Nat → Int32} (h : cRul M E V r o) (hk : gKp M M2 E) : cRul M2 E V r o := by
  rcases h with h | ⟨h1, q, mq, h2, h3, h4, h5⟩
  · exact Or.inl h
  · exact Or.inr ⟨h1, q, mq, h2, h3, hk _ _ h3 h4, cMat_kp h5 hk⟩
theorem cSil_kp {M M2 : gM} {E r : Nat} {o : Option Nat} {V : Nat → Int32} (h : cSil M E V r o) (hk : gKp M M2 E) : cSil M2 E V r o := by
  rcases h with h | ⟨h1, q, mq, h2, h3, h4, h5⟩
  · exact Or.inl h
  · exact Or.inr ⟨h1, q, mq, h2, h3, hk _ _ h3 h4, cMat_kp h5 hk⟩
theorem cInh_kp {M M2 : gM} {E r : Nat} {o : Option Nat} {V : Nat → Int32} (h : cInh M E V r o) (hk : gKp M M2 E) : cInh M2 E V r o := by
  rcases h with h | ⟨h1, q, mq, nq, h2, h3, h4, h5, h6⟩
  · exact Or.inl h
  · exact Or.inr ⟨h1, q, mq, nq, h2, h3, hk _ _ h3 h4, cMat_kp h5 hk, cMat_kp h6 hk⟩
theorem cRul_V {M : gM} {E r : Nat} {o : Option Nat} {V W : Nat → Int32} (h : cRul M E V r o) (hr : r < 5) (hI : mI V) (hW : ∀ i, i < 206 → W i = V i) : cRul M E W r o := by
  rcases h with ⟨h1, h2⟩ | ⟨h1, q, mq, h2, h3, h4, h5⟩
  · exact Or.inl ⟨by rw [hW _ (by omega)]; exact h1, h2⟩
  · exact Or.inr ⟨by rw [hW _ (by omega)]; exact h1, q, mq, h2, h3, by rw [hW _ (by omega), hW _ (by omega), hW _ (by omega), hW _ (by omega)]; exact h4, cMat_V h5 (hI.2.2.1 r hr).2.1 hW⟩
theorem cSil_V {M : gM} {E r : Nat} {o : Option Nat} {V W : Nat → Int32} (h : cSil M E V r o) (hr : r < 6) (hI : mI V) (hW : ∀ i, i < 206 → W i = V i) : cSil M E W r o := by
  rcases h with ⟨h1, h2⟩ | ⟨h1, q, mq, h2, h3, h4, h5⟩
  · exact Or.inl ⟨by rw [hW _ (by omega)]; exact h1, h2⟩
  · exact Or.inr ⟨by rw [hW _ (by omega)]; exact h1, q, mq, h2, h3, by rw [hW _ (by omega), hW _ (by omega)]; exact h4, cMat_V h5 (hI.2.2.2.1 r hr).2 hW⟩
theorem cInh_V {M : gM} {E r : Nat} {o : Option Nat} {V W : Nat → Int32} (h : cInh M E V r o) (hr : r < 4) (hI : mI V) (hW : ∀ i, i < 206 → W i = V i) : cInh M E W r o := by
  rcases h with ⟨h1, h2⟩ | ⟨h1, q, mq, nq, h2, h3, h4, h5, h6⟩
  · exact Or.inl ⟨by rw [hW _ (by omega)]; exact h1, h2⟩
  · exact Or.inr ⟨by rw [hW _ (by omega)]; exact h1, q, mq, nq, h2, h3, by rw [hW _ (by omega)]; exact h4, cMat_V h5 (hI.2.2.2.2.1 r hr).2.1 hW, cMat_V h6 (hI.2.2.2.2.1 r hr).2.2.1 hW⟩
theorem cLab_V {V W : Nat → Int32} (hW : ∀ i, i < 206 → W i = V i) : cLab W = cLab V := by
  funext i
  unfold cLab
  by_cases h : i < 36
  · rw [if_pos h, if_pos h, hW _ (by omega)]
  · rw [if_neg h, if_neg h]
theorem cHas_V {V W : Nat → Int32} (hW : ∀ i, i < 206 → W i = V i) : cHas W = cHas V := by
  funext i
  unfold cHas
  by_cases h : i < 12
  · rw [if_pos h, if_pos h, hW _ (by omega)]
  · rw [if_neg h, if_neg h]
theorem cPar_V {V W : Nat → Int32} (hP : ∀ i, 1842 ≤ i → i < 1847 → W i = V i) : cPar W = cPar V := by
  funext i
  unfold cPar
  by_cases h : i < 5
  · rw [if_pos h, if_pos h, hP _ (by omega) (by omega)]
  · rw [if_neg h, if_neg h]
theorem cSet_V {V W : Nat → Int32} (hW : ∀ i, i < 206 → W i = V i) {i a : Nat} (ha : a < 60) : cSet W i a = cSet V i a := by
  unfold cSet
  rw [hW _ (by omega), hW _ (by omega), hW _ (by omega), hW _ (by omega), hW _ (by omega)]
theorem cSets_V {V W : Nat → Int32} (hW : ∀ i, i < 206 → W i = V i) : cSets W = cSets V := by
  funext i
  unfold cSets
  by_cases h : i < 20
  · rw [if_pos h, if_pos h]
    exact lS_ext fun a ha => cSet_V hW ha
  · rw [if_neg h, if_neg h]
theorem cRS_V {M : gM} {E p : Nat} {V W : Nat → Int32} (h : cRS M E p V) (hI : mI V) (hW : ∀ i, i < 206 → W i = V i) (hP : ∀ i, 1842 ≤ i → i < 1847 → W i = V i) : cRS M E p W := by
  obtain ⟨X, RU, SI, IN, h0, h1, h2, h3, h4, h5, h6, h7, h8, hX, hR, hS, hN⟩ := h
  refine ⟨X, RU, SI, IN, h0, by rw [cLab_V hW]; exact h1, h2, by rw [cHas_V hW]; exact h3, h4, h5, h6, by rw [cPar_V hP]; exact h7, by rw [cSets_V hW]; exact h8, fun s hs hz => ?_, fun r hr => cRul_V (hR r hr) hr hI hW, fun k hk => cSil_V (hS k hk) hk hI hW, fun k hk => cInh_V (hN k hk) hk hI hW⟩
  rw [hW _ (by omega)] at hz ⊢
  exact hX s hs hz
theorem cRS_fr {M M2 : gM} {E p b n : Nat} {V : Nat → Int32} (h : cRS M E p V) (hf : gFr M M2 b n) (hd : p + 9 ≤ b ∨ b + n ≤ p) (hE : b + n ≤ E) : cRS M2 E p V := by
  obtain ⟨X, RU, SI, IN, h0, h1, h2, h3, h4, h5, h6, h7, h8, hX, hR, hS, hN⟩ := h
  have hk := gFr_kp hf hE
  exact ⟨X, RU, SI, IN, gFr_g hf h0 (by omega), gFr_g hf h1 (by omega), gFr_g hf h2 (by omega), gFr_g hf h3 (by omega), gFr_g hf h4 (by omega), gFr_g hf h5 (by omega), gFr_g hf h6 (by omega), gFr_g hf h7 (by omega), gFr_g hf h8 (by omega), hX, fun r hr => cRul_kp (hR r hr) hk, fun k hq => cSil_kp (hS k hq) hk, fun k hq => cInh_kp (hN k hq) hk⟩
theorem mMat_V {V W : Nat → Int32} (hW : ∀ i, i < 206 → W i = V i) {a f : Nat} (ha : a < 60) (hm : mMs V f) : mMat W a f = mMat V a f := by
  obtain ⟨hf, n, hn, hVn, hmm⟩ := hm
  have eN : ∀ i, i < 206 → mN W i = mN V i := fun i hi => by unfold mN; rw [hW i hi]
  unfold mMat
  rw [eN f (by omega), mN_of hVn (by omega)]
  rw [Bool.eq_iff_iff, List.all_eq_true, List.all_eq_true]
  have key : ∀ x, x < n → mMt W a (mN W (f + (x + 1))) = mMt V a (mN V (f + (x + 1))) := by
    intro x hx
    rw [eN (f + (x + 1)) (by omega)]
    unfold mMt
    by_cases h3 : mN V (f + (x + 1)) % 64 / 16 = 3
    · rw [if_pos h3, if_pos h3, hW _ (by omega)]
    · rw [if_neg h3, if_neg h3, hW _ (by omega)]
  constructor
  · intro h x hx
    rw [← key x (List.mem_range.mp hx)]
    exact h x hx
  · intro h x hx
    rw [key x (List.mem_range.mp hx)]
    exact h x hx
theorem mHolds_V {V W : Nat → Int32} (hI : mI V) (hW : ∀ i, i < 206 → W i = V i) {a : Nat} (ha : a < 60) : mHolds W a = mHolds V a := by
  unfold mHolds
  rw [mMat_V hW ha (hI.2.2.1 (a / 12) (by omega)).2.1, hW _ (by omega), hW _ (by omega), hW _ (by omega), hW _ (by omega), hW _ (by omega)]
section CLS
variable {G : gG} {M : gM} {p E p2 T : Nat} {V : Nat → Int32}
set_option maxHeartbeats 2000000 in
set_option maxRecDepth 20000 in
theorem c0_advance (h : cRA (fun _ => T) M p V) (hS : cRS M E p2 V) (hd : p + 4 ≤ p2 ∨ p2 + 9 ≤ p) (hE : p + 4 ≤ E) (hI : mI V) (hT : T + 1 ≤ 200000) : gCon G kX0_advance 3 0 0 M [.ref p, .int (V 1847), .long (lS (mHolds V) 60), .ref p2] (fun M2 v => gFr M M2 p 4 ∧ cRA (fun _ => T + 1) M2 p (mGos V 60) ∧ v = none) := by
  refine gCon_of (by decide) (Nat.le_of_ble_eq_true rfl) ?_
  have loop : ∀ (q j : Nat), j + q = 61 → j ≤ 60 → ∀ M1 : gM, gFr M M1 p 4 → cRA (fun b => if b < j then T + 1 else T) M1 p (mGos V j) →
      gJ G kX0_advance 3 0 0 M1 3 [(5, .int (nI j)), (0, .ref p), (1, .int (V 1847)), (2, .long (lS (mHolds V) 60)), (4, .ref p2)] [] (gQ kX0_advance (fun M2 v => gFr M M2 p 4 ∧ cRA (fun _ => T + 1) M2 p (mGos V 60) ∧ v = none)) := by
    intro q
    induction q with
    | zero => intro j h1 h2; exact absurd h1 (by omega)
    | succ q ih =>
      intro j hq hj M1 hf hA
      by_cases h60 : j < 60
      · have hIj := mGos_I hI j (by omega)
        have hW : ∀ i, i < 206 → mGos V j i = V i := fun i hi => mGos_out hI (Or.inl hi) j (by omega)
        have e47 : mGos V j 1847 = V 1847 := mGos_out hI (by omega) j (by omega)
        have hHo := mHolds_V hI hW h60
        have hnx : (fun b => if b = j then (if j < j then T + 1 else T) + 1 else if b < j then T + 1 else T) = (fun b => if b < j + 1 then T + 1 else T) := by
          funext b
          by_cases e : b = j
          · subst e; rw [if_pos rfl, if_neg (by omega), if_pos (by omega)]
          · rw [if_neg e]
            by_cases e2 : b < j
            · rw [if_pos e2, if_pos (by omega)]
            · rw [if_neg e2, if_neg (by omega)]
        obtain ⟨o, ho⟩ : ∃ o, M1.1 p = some (gO 0 o) := by obtain ⟨X, R, C, h0, -⟩ := hA; exact ⟨_, h0⟩
        obtain ⟨X, RU, SI, IN, s0, s1, s2, s3, s4, s5, s6, s7, s8, sX, sR, -, -⟩ := cRS_fr hS hf (by omega) hE
        cases hb : mHolds V j with
        | true =>
          have hC := c0_rise (G := G) hA hIj j h60 (by show (if j < j then T + 1 else T) + 1 ≤ 200000; rw [if_neg (by omega)]; exact hT) (by rw [hHo, hb])
          rw [e47, hW _ (by omega), hnx] at hC
          have hp : ¬ V (60 + 10 * (j / 12)) = 0 := by
            intro h0
            unfold mHolds at hb
            rw [h0] at hb
            cases hb
          have hw : cWait V j = V (60 + 10 * (j / 12) + 8) := by rw [cWait, if_neg hp]
          refine gJ_iload dX0_advance_3 rfl ?_
          refine gJ_bipush (v := 60) dX0_advance_5 (by decide) ?_
          refine gJ_icmp_geN (tgt := 49) (a := j) (b := 60) (by first | with_reducible rfl | rfl) (by first | with_reducible rfl | rfl) (by omega) (by omega) dX0_advance_7 (by decide) (fun c_ => by exfalso; omega) (fun _ => ?_)
          refine gJ_lload_n dX0_advance_10 rfl rfl ?_
          refine gJ_iload dX0_advance_11 rfl ?_
          refine gJ_callSN (As := [_, _]) b_X11_has lX0_34 i_X11_has dX0_advance_13 (c11_has _ j (by omega)) rfl (Nat.le_of_ble_eq_true rfl) rfl (by decide) (fun M13 v_ h13 => ?_)
          obtain ⟨e13, rfl⟩ := h13
          replace e13 := e13.symm
          subst e13
          rw [show lB (lS (mHolds V) 60) j = true by rw [lS_b, decide_eq_true h60, hb]; rfl]
          refine gJ_if_eqB (tgt := 36) dX0_advance_16 (by decide) (fun c_ => by exfalso; cases c_) (fun _ => ?_)
          refine gJ_aload_n dX0_advance_19 rfl rfl ?_
          refine gJ_iload dX0_advance_20 rfl ?_
          refine gJ_iload_n dX0_advance_22 rfl rfl ?_
          refine gJ_aload dX0_advance_23 rfl ?_
          refine gJ_iload dX0_advance_25 rfl ?_
          refine gJ_callV (As := [_]) b_X7_waitOf lX0_42 i_X7_waitOf s_X7_waitOf dX0_advance_27 (c7_waitOf s0 s4 sR j h60) s0 rfl rfl (Nat.le_of_ble_eq_true rfl) rfl (by decide) (fun M27 v_ h27 => ?_)
          obtain ⟨e27, rfl⟩ := h27
          replace e27 := e27.symm
          subst e27
          rw [hw]
          refine gJ_callV (As := [_, _, _]) b_X0_rise lX0_47 i_X0_rise s_X0_rise dX0_advance_30 (hC) ho rfl rfl (Nat.le_of_ble_eq_true rfl) rfl (by decide) (fun M30 v_ h30 => ?_)
          obtain ⟨hf2, hA2, rfl⟩ := h30
          refine gJ_goto (tgt := 43) dX0_advance_33 (by decide) ?_
          refine gJ_iincN (a := j) (b := 1) (lv2 := [(5, _), (0, _), (1, _), (2, _), (4, _)]) dX0_advance_43 rfl rfl rfl rfl ?_
          refine gJ_goto (tgt := 3) dX0_advance_46 (by decide) ?_
          exact gJ_ls (ih (j + 1) (by omega) (by omega) _ (gFr_t hf hf2) hA2) ⟨rfl, rfl, rfl, rfl, rfl, trivial⟩
        | false =>
          have hC := c0_settle (G := G) hA hIj j h60 (by show (if j < j then T + 1 else T) + 1 ≤ 200000; rw [if_neg (by omega)]; exact hT) (by rw [hHo, hb])
          rw [e47, hnx] at hC
          refine gJ_iload dX0_advance_3 rfl ?_
          refine gJ_bipush (v := 60) dX0_advance_5 (by decide) ?_
          refine gJ_icmp_geN (tgt := 49) (a := j) (b := 60) (by first | with_reducible rfl | rfl) (by first | with_reducible rfl | rfl) (by omega) (by omega) dX0_advance_7 (by decide) (fun c_ => by exfalso; omega) (fun _ => ?_)
          refine gJ_lload_n dX0_advance_10 rfl rfl ?_
          refine gJ_iload dX0_advance_11 rfl ?_
          refine gJ_callSN (As := [_, _]) b_X11_has lX0_34 i_X11_has dX0_advance_13 (c11_has _ j (by omega)) rfl (Nat.le_of_ble_eq_true rfl) rfl (by decide) (fun M13 v_ h13 => ?_)
          obtain ⟨e13, rfl⟩ := h13
          replace e13 := e13.symm
          subst e13
          rw [show lB (lS (mHolds V) 60) j = false by rw [lS_b, decide_eq_true h60, hb]; rfl]
          refine gJ_if_eqB (tgt := 36) dX0_advance_16 (by decide) (fun _ => ?_) (fun c_ => by exfalso; cases c_)
          refine gJ_aload_n dX0_advance_36 rfl rfl ?_
          refine gJ_iload dX0_advance_37 rfl ?_
          refine gJ_iload_n dX0_advance_39 rfl rfl ?_
          refine gJ_callV (As := [_, _]) b_X0_settle lX0_51 i_X0_settle s_X0_settle dX0_advance_40 (hC) ho rfl rfl (Nat.le_of_ble_eq_true rfl) rfl (by decide) (fun M40 v_ h40 => ?_)
          obtain ⟨hf2, hA2, rfl⟩ := h40
          refine gJ_iincN (a := j) (b := 1) (lv2 := [(5, _), (0, _), (1, _), (2, _), (4, _)]) dX0_advance_43 rfl rfl rfl rfl ?_
          refine gJ_goto (tgt := 3) dX0_advance_46 (by decide) ?_
          exact gJ_ls (ih (j + 1) (by omega) (by omega) _ (gFr_t hf hf2) hA2) ⟨rfl, rfl, rfl, rfl, rfl, trivial⟩
      · have e60 : j = 60 := by omega
        subst e60
        have hA2 : cRA (fun _ => T + 1) M1 p (mGos V 60) := by
          obtain ⟨X, R, C, h0, h1, h2, h3, hX, hR⟩ := hA
          refine ⟨X, R, C, h0, h1, h2, h3, hX, fun a ha => ?_⟩
          have := hR a ha
          dsimp only at this
          rw [if_pos ha] at this
          exact this
        refine gJ_iload dX0_advance_3 rfl ?_
        refine gJ_bipush (v := 60) dX0_advance_5 (by decide) ?_
        refine gJ_icmp_geN (tgt := 49) (a := 60) (b := 60) (by first | with_reducible rfl | rfl) (by first | with_reducible rfl | rfl) (by omega) (by omega) dX0_advance_7 (by decide) (fun _ => ?_) (fun c_ => by exfalso; omega)
        refine gJ_vret dX0_advance_49 rfl ?_
        exact ⟨hf, hA2, rfl⟩
  show gJ _ _ _ _ _ _ 0 [(0, _), (1, _), (2, _), (4, _)] [] _
  refine gJ_iconst (v := 0) dX0_advance_0 (by decide) ?_
  refine gJ_istore (lv2 := [(5, _), (0, _), (1, _), (2, _), (4, _)]) dX0_advance_1 rfl rfl ?_
  exact gJ_ls (loop 61 0 (by omega) (by omega) M gFr_r h) ⟨rfl, rfl, rfl, rfl, rfl, trivial⟩
set_option maxHeartbeats 2000000 in
set_option maxRecDepth 20000 in
theorem c0_forgetRule {K : Nat → Nat} (h : cRA K M p V) (r : Nat) (hr : r < 5) : gCon G kX0_forgetRule 0 0 0 M [.ref p, .int (nI r)] (fun M2 v => gFr M M2 p 4 ∧ cRA K M2 p (mRem V 0 r) ∧ v = none) := by
  obtain ⟨X, R, C, h0, h1, h2, h3, hX, hR⟩ := h
  have hin : ∀ a i, a < 60 → i < 23 → a / 12 = r → mRem V 0 r (206 + 23 * a + i) = 0 := fun a i ha hi h => if_pos ⟨rfl, by omega, by omega⟩
  have hout : ∀ a i, a < 60 → i < 23 → ¬ a / 12 = r → mRem V 0 r (206 + 23 * a + i) = V (206 + 23 * a + i) := by
    intro a i ha hi h
    unfold mRem
    rw [if_neg (by omega), if_neg]
    have e1 : mFst 0 = 60 := rfl
    have e2 : mWid 0 = 10 := rfl
    rw [e1, e2]
    omega
  have hs : ∀ z : Int32, ¬ (0 : Int32) = z → lS (fun a => cStB V z a && !decide (a / 12 = r)) 60 = lS (cStB (mRem V 0 r) z) 60 := by
    intro z hz
    refine lS_ext fun a ha => ?_
    unfold cStB
    by_cases e : a / 12 = r
    · have := hin a 0 ha (by omega) e
      rw [Nat.add_zero] at this
      rw [this, decide_eq_false hz, decide_eq_true e]
      simp
    · have := hout a 0 ha (by omega) e
      rw [Nat.add_zero] at this
      rw [this, decide_eq_false e]
      simp
  have hg : ∀ P : Nat → Bool, lS P 60 &&& (((4095 : Int64) <<< ((nI (r * 12)).toInt64 &&& 63)) ^^^ (-1)) = lS (fun a => P a && !decide (a / 12 = r)) 60 := fun P => by rw [cRow_b r hr, lS_an]
  have fin : ∀ (M2 : gM) (C2 : Nat → Int32), gFr M M2 p 4 → M2.1 p = some (cAS p (lS (cStB (mRem V 0 r) 1) 60) (lS (cStB (mRem V 0 r) 2) 60)) → M2.1 (p + 1) = some (gI 60 X) → M2.1 (p + 2) = some (gI 1200 R) → M2.1 (p + 3) = some (gI 60 C2) → (∀ a, a < 60 → C2 a = if a / 12 = r then 0 else C a) → cRA K M2 p (mRem V 0 r) := by
    intro M2 C2 hf g0 g1 g2 g3 hC
    refine ⟨X, R, C2, g0, g1, g2, g3, fun a ha hz => ?_, fun a ha => ?_⟩
    · by_cases e : a / 12 = r
      · exact absurd (hin a 0 ha (by omega) e) hz
      · have e0 := hout a 0 ha (by omega) e
        rw [Nat.add_zero] at e0
        rw [e0] at hz
        rw [hX a ha hz, hout a 1 ha (by omega) e]
    · by_cases e : a / 12 = r
      · refine ⟨0, by rw [hC a ha, if_pos e]; rfl, Nat.zero_le _, by rw [hin a 2 ha (by omega) e]; rfl, fun j hj => absurd hj (by omega)⟩
      · obtain ⟨c, c1, c2, c3, c4⟩ := hR a ha
        refine ⟨c, by rw [hC a ha, if_neg e, c1], c2, by rw [hout a 2 ha (by omega) e, c3], fun j hj => ?_⟩
        rw [Nat.add_assoc (206 + 23 * a), hout a (3 + j) ha (by omega) e, ← Nat.add_assoc]
        exact c4 j hj
  refine gCon_of (by decide) (Nat.le_of_ble_eq_true rfl) ?_
  have loop : ∀ (q j : Nat), j + q = 12 → ∀ (M1 : gM) (C1 : Nat → Int32) (g : Int64), gFr M M1 p 4 → M1.1 p = some (cAS p (lS (cStB (mRem V 0 r) 1) 60) (lS (cStB (mRem V 0 r) 2) 60)) → M1.1 (p + 1) = some (gI 60 X) → M1.1 (p + 2) = some (gI 1200 R) → M1.1 (p + 3) = some (gI 60 C1) → (∀ a, a < 60 → C1 a = if a / 12 = r ∧ a % 12 < j then 0 else C a) →
      gJ G kX0_forgetRule 0 0 0 M1 40 [(4, .int (nI j)), (2, .long g), (0, .ref p), (1, .int (nI r))] [] (gQ kX0_forgetRule (fun M2 v => gFr M M2 p 4 ∧ cRA K M2 p (mRem V 0 r) ∧ v = none)) := by
    intro q
    induction q with
    | zero =>
      intro j hj M1 C1 g hf g0 g1 g2 g3 hC
      refine gJ_iload dX0_forgetRule_40 rfl ?_
      refine gJ_bipush (v := 12) dX0_forgetRule_42 (by decide) ?_
      refine gJ_icmp_geN (tgt := 66) (a := j) (b := 12) (by first | with_reducible rfl | rfl) (by first | with_reducible rfl | rfl) (by omega) (by omega) dX0_forgetRule_44 (by decide) (fun _ => ?_) (fun c_ => by exfalso; omega)
      refine gJ_vret dX0_forgetRule_66 rfl ?_
      refine ⟨hf, fin M1 C1 hf g0 g1 g2 g3 (fun a ha => ?_), rfl⟩
      rw [hC a ha]
      have : a % 12 < j := by omega
      simp [this]
    | succ q ih =>
      intro j hj M1 C1 g hf g0 g1 g2 g3 hC
      refine gJ_iload dX0_forgetRule_40 rfl ?_
      refine gJ_bipush (v := 12) dX0_forgetRule_42 (by decide) ?_
      refine gJ_icmp_geN (tgt := 66) (a := j) (b := 12) (by first | with_reducible rfl | rfl) (by first | with_reducible rfl | rfl) (by omega) (by omega) dX0_forgetRule_44 (by decide) (fun c_ => by exfalso; omega) (fun _ => ?_)
      refine gJ_aload_n dX0_forgetRule_47 rfl rfl ?_
      refine gJ_get fX0_18 dX0_forgetRule_48 (by first | with_reducible assumption | with_reducible exact gUp_s | with_reducible exact gUp_n (by with_reducible assumption) (by omega) | exact gUp_n (by assumption) (by omega) | exact gUp_s | assumption) rfl ?_
      refine gJ_iload_n dX0_forgetRule_51 rfl rfl ?_
      refine gJ_bipush (v := 12) dX0_forgetRule_52 (by decide) ?_
      refine gJ_imulN (a := r) (b := 12) dX0_forgetRule_54 (by first | with_reducible rfl | rfl) (by first | with_reducible rfl | rfl) ?_
      refine gJ_iload dX0_forgetRule_55 rfl ?_
      refine gJ_iaddN (a := (r * 12)) (b := j) dX0_forgetRule_57 (by first | with_reducible rfl | rfl) (by first | with_reducible rfl | rfl) ?_
      refine gJ_iconst (v := 0) dX0_forgetRule_58 (by decide) ?_
      refine gJ_iastN (j := ((r * 12) + j)) dX0_forgetRule_59 (by first | with_reducible assumption | with_reducible exact gUp_s | with_reducible exact gUp_n (by with_reducible assumption) (by omega) | exact gUp_n (by assumption) (by omega) | exact gUp_s | assumption) (by first | with_reducible rfl | rfl) (by omega) (by decide) ?_
      try rw [gUp_up]
      refine gJ_iincN (a := j) (b := 1) (lv2 := [(4, _), (2, _), (0, _), (1, _)]) dX0_forgetRule_60 rfl rfl rfl rfl ?_
      refine gJ_goto (tgt := 40) dX0_forgetRule_63 (by decide) ?_
      refine gJ_ls (ih (j + 1) (by omega) _ _ g (gFr_u hf (by omega)) (gUp_n g0 (by omega)) (gUp_n g1 (by omega)) (gUp_n g2 (by omega)) gUp_s (fun a ha => ?_)) ⟨rfl, rfl, rfl, rfl, trivial⟩
      by_cases e : a = r * 12 + j
      · subst e; rw [pk_us, if_pos (by omega)]
      · rw [pk_un e, hC a ha]; have e2 : (a / 12 = r ∧ a % 12 < j + 1) ↔ (a / 12 = r ∧ a % 12 < j) := by omega
        simp only [e2]
  show gJ _ _ _ _ _ _ 0 [(0, _), (1, _)] [] _
  refine gJ_ldc2 (v := 4095) dX0_forgetRule_0 cX0_64 ?_
  refine gJ_iload_n dX0_forgetRule_3 rfl rfl ?_
  refine gJ_bipush (v := 12) dX0_forgetRule_4 (by decide) ?_
  refine gJ_imulN (a := r) (b := 12) dX0_forgetRule_6 (by first | with_reducible rfl | rfl) (by first | with_reducible rfl | rfl) ?_
  refine gJ_lshl dX0_forgetRule_7 ?_
  refine gJ_lstore_n (lv2 := [(2, _), (0, _), (1, _)]) dX0_forgetRule_8 rfl rfl rfl ?_
  refine gJ_aload_n dX0_forgetRule_9 rfl rfl ?_
  refine gJ_dup dX0_forgetRule_10 rfl ?_
  refine gJ_get fX0_21 dX0_forgetRule_11 (by repeat (first | exact gUp_s | assumption | refine gUp_n ?_ (by omega))) rfl ?_
  refine gJ_lload_n dX0_forgetRule_14 rfl rfl ?_
  refine gJ_ldc2 (v := -1) dX0_forgetRule_15 cX0_55 ?_
  refine gJ_lxor dX0_forgetRule_18 ?_
  refine gJ_land dX0_forgetRule_19 ?_
  rw [hg, hs 1 (by decide)]
  refine gJ_put fX0_21 dX0_forgetRule_20 (by repeat (first | exact gUp_s | assumption | refine gUp_n ?_ (by omega))) rfl rfl (Nat.le_of_ble_eq_true rfl) ?_
  refine gJ_aload_n dX0_forgetRule_23 rfl rfl ?_
  refine gJ_dup dX0_forgetRule_24 rfl ?_
  refine gJ_get fX0_25 dX0_forgetRule_25 (by repeat (first | exact gUp_s | assumption | refine gUp_n ?_ (by omega))) rfl ?_
  refine gJ_lload_n dX0_forgetRule_28 rfl rfl ?_
  refine gJ_ldc2 (v := -1) dX0_forgetRule_29 cX0_55 ?_
  refine gJ_lxor dX0_forgetRule_32 ?_
  refine gJ_land dX0_forgetRule_33 ?_
  rw [hg, hs 2 (by decide)]
  refine gJ_put fX0_25 dX0_forgetRule_34 (by repeat (first | exact gUp_s | assumption | refine gUp_n ?_ (by omega))) rfl rfl (Nat.le_of_ble_eq_true rfl) ?_
  refine gJ_iconst (v := 0) dX0_forgetRule_37 (by decide) ?_
  refine gJ_istore (lv2 := [(4, _), (2, _), (0, _), (1, _)]) dX0_forgetRule_38 rfl rfl ?_
  refine gJ_ls (loop 12 0 (by omega) _ C _ (by repeat (first | exact gFr_r | refine gFr_u ?_ (by omega))) (by repeat (first | exact gUp_s | assumption | refine gUp_n ?_ (by omega))) (by repeat (first | exact gUp_s | assumption | refine gUp_n ?_ (by omega))) (by repeat (first | exact gUp_s | assumption | refine gUp_n ?_ (by omega))) (by repeat (first | exact gUp_s | assumption | refine gUp_n ?_ (by omega))) (fun a ha => by rw [if_neg (by omega)])) ⟨rfl, rfl, rfl, rfl, trivial⟩
end CLS
