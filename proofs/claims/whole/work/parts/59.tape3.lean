section TAPE
variable {G : gG} {M : gM} {p t : Nat} {T : Nat → Int32} {s s2 : zP}
/-- new objects lie from q on; of the old cells the tape's alone has changed -/
def cTf (M M2 : gM) (p q : Nat) : Prop := q ≤ M2.2 ∧ ∀ x, x < q → x ≠ p → M2.1 x = M.1 x
theorem cTf_t {M M2 M3 : gM} {p q : Nat} (h : cTf M M2 p q) (h2 : cTf M2 M3 p q) : cTf M M3 p q := ⟨h2.1, fun x hx hp => (h2.2 x hx hp).trans (h.2 x hx hp)⟩
/-- a sequence that was read: its object, and its contents where nothing was wrong -/
def cMr (M : gM) (q : Nat) (R : zR) : Prop := ∃ n L Z, n ≤ R.1 ∧ M.1 q = some (gO 4 [.ref (q + 1), .ref (q + 2), .int (nI n)]) ∧ M.1 (q + 1) = some (gI 4 L) ∧ M.1 (q + 2) = some (gZ 4 Z) ∧ (R.2.2.2 = false → n = R.1 ∧ mOkc R.2.1 L Z n)
theorem zMd_d {T : Nat → Int32} {t nt l b : Nat} (hl : l ≤ 4) (hnt : nt = 0 ∨ nt = 64) (h : (zMd T t nt l b).2.2 = false) : (zMd T t nt l b).1 % 16 < cSz ((zMd T t nt l b).1 % 64 / 16) := by
  unfold zMd at h ⊢
  by_cases h4 : l = 4
  · rw [if_pos h4] at h; cases h
  · rw [if_neg h4]
    have hd := zDg_m (T := T) (t := t) (m := if l = 1 then 7 else 3) (s := (b + 1, false))
    generalize (zDg T t (if l = 1 then 7 else 3) (b + 1, false)).1 = d at hd
    show (nt + 16 * l + d) % 16 < cSz ((nt + 16 * l + d) % 64 / 16)
    by_cases h1 : l = 1
    · rw [if_pos h1] at hd
      have e : (nt + 16 * l + d) % 64 / 16 = 1 := by omega
      rw [e]
      show _ < 8
      omega
    · rw [if_neg h1] at hd
      have e : cSz ((nt + 16 * l + d) % 64 / 16) = 4 := by
        unfold cSz
        rw [if_neg (by omega)]
      rw [e]
      omega
theorem zMt_d {T : Nat → Int32} {t : Nat} {sev : Bool} {s : zP} (h : (zMt T t sev s).2.2 = false) : (zMt T t sev s).1 % 16 < cSz ((zMt T t sev s).1 % 64 / 16) := by
  unfold zMt at h ⊢
  by_cases hs : s.2 = true
  · rw [if_pos hs] at h
    rw [hs] at h
    cases h
  · rw [if_neg hs] at h ⊢
    by_cases h33 : zH T t s = 33
    · rw [if_pos h33] at h ⊢
      exact zMd_d zL_4 (Or.inr rfl) h
    · rw [if_neg h33] at h ⊢
      exact zMd_d zL_4 (Or.inl rfl) h
theorem zMt_w2 {T : Nat → Int32} {t : Nat} {sev : Bool} {s : zP} (h : (zMt T t sev s).2.2 = false) : s.2 = false := by
  obtain ⟨a, w⟩ := s
  cases w with
  | false => rfl
  | true => rw [zMt_w] at h; cases h
set_option maxHeartbeats 2000000 in
set_option maxRecDepth 20000 in
theorem c10_readMatchers (ht : t ≤ 60) (hB : zB T) (hs : s.1 ≤ t) (hm : M.1 p = some (cTp p t s)) (hT : M.1 (p + 1) = some (gI 60 T)) (r : Bool) : gCon G kX10_readMatchers 3 3 11 M [.ref p, .int (gb r)] (fun M2 v => v = some (.ref M.2) ∧ cTf M M2 p M.2 ∧ p + 1 < M.2 ∧ M2.2 = M.2 + 3 ∧ M2.1 p = some (cTp p t (zMs T t (!r) s).2.2) ∧ cMr M2 M.2 (zMs T t (!r) s)) := by
  obtain ⟨q, hqe⟩ : ∃ q, q = M.2 := ⟨_, rfl⟩
  refine gCon_of (by decide) (Nat.le_of_ble_eq_true rfl) ?_
  rw [← hqe]
  -- one reading
  have one : ∀ (k0 : gMd) (M1 : gM) (R : zR), k0 = kX10_readMatchers → p + 1 < q → cTf M M1 p q → M1.2 = q + 3 → M1.1 p = some (cTp p t R.2.2) → R.2.2.1 ≤ t → R.1 < 4 → cMr M1 q R → gCon G kX10_readMatcher 2 0 0 M1 [.ref p, .ref q, .int (gb r)] (fun M2 v => v = none ∧ cTf M M2 p q ∧ M2.2 = q + 3 ∧ M2.1 p = some (cTp p t (zM1 T t (!r) R).2.2) ∧ cMr M2 q (zM1 T t (!r) R)) := by
    intro k0 M1 R _ hpq hf h2 hp hle hR4 hmr
    obtain ⟨n, L, Z, hn, hq, hq1, hq2, hok⟩ := hmr
    have hT1 : M1.1 (p + 1) = some (gI 60 T) := (hf.2 _ hpq (by omega)).trans hT
    have hzw := zMt_w2 (T := T) (t := t) (sev := !r) (s := R.2.2)
    have hzd := zMt_d (T := T) (t := t) (sev := !r) (s := R.2.2)
    refine gCon_mono (c10_readMatcher (G := G) ht hB hle hp hT1 hpq (by omega) hq hq1 hq2 r) ?_
    rintro M2 v ⟨rfl, rfl⟩
    refine ⟨rfl, ?_⟩
    show cTf M (cMtM M1 p t q (zMt T t (!r) R.2.2) L Z n) p q ∧ (cMtM M1 p t q (zMt T t (!r) R.2.2) L Z n).2 = q + 3 ∧ (cMtM M1 p t q (zMt T t (!r) R.2.2) L Z n).1 p = some (cTp p t (zMt T t (!r) R.2.2).2) ∧ cMr (cMtM M1 p t q (zMt T t (!r) R.2.2) L Z n) q (R.1 + 1, zUp R.2.1 R.1 (zMt T t (!r) R.2.2).1, (zMt T t (!r) R.2.2).2)
    generalize zMt T t (!r) R.2.2 = z at hzw hzd
    obtain ⟨c, b, w⟩ := z
    cases w with
    | true =>
      have e : cMtM M1 p t q (c, b, true) L Z n = gUp M1 p (cTp p t (b, true)) := if_pos rfl
      rw [e]
      exact ⟨⟨hf.1, fun x hx hxp => (gUp_n rfl hxp).trans (hf.2 x hx hxp)⟩, h2, gUp_s, n, L, Z, (show n ≤ R.1 + 1 by omega), gUp_n hq (by omega), gUp_n hq1 (by omega), gUp_n hq2 (by omega), fun h => by cases h⟩
    | false =>
      obtain ⟨e1, e2⟩ := hok (hzw rfl)
      subst e1
      have e : cMtM M1 p t q (c, b, false) L Z R.1 = gUp (gUp (gUp (gUp M1 p (cTp p t (b, false))) (q + 1) (gI 4 (upd L R.1 (nI (cFs (c % 64 / 16) + c % 16))))) (q + 2) (gZ 4 (upd Z R.1 (gb (decide (64 ≤ c)))))) q (gO 4 [.ref (q + 1), .ref (q + 2), .int (nI (R.1 + 1))]) := if_neg Bool.false_ne_true
      rw [e]
      refine ⟨⟨hf.1, fun x hx hxp => ?_⟩, h2, gUp_n (gUp_n (gUp_n gUp_s (by omega)) (by omega)) (by omega), R.1 + 1, _, _, Nat.le_refl _, gUp_s, gUp_n (gUp_n gUp_s (by omega)) (by omega), gUp_n gUp_s (by omega), fun _ => ⟨rfl, fun j hj => ?_⟩⟩
      · exact (gUp_n (gUp_n (gUp_n (gUp_n rfl hxp) (by omega)) (by omega)) (by omega)).trans (hf.2 x hx hxp)
      · show zUp R.2.1 R.1 c j % 16 < cSz (zUp R.2.1 R.1 c j % 64 / 16) ∧ upd L R.1 _ j = nI (cFs (zUp R.2.1 R.1 c j % 64 / 16) + zUp R.2.1 R.1 c j % 16) ∧ upd Z R.1 _ j = gb (decide (64 ≤ zUp R.2.1 R.1 c j))
        unfold zUp
        by_cases ej : j = R.1
        · subst ej
          rw [if_pos rfl, pk_us, pk_us]
          exact ⟨hzd rfl, rfl, rfl⟩
        · rw [if_neg ej, pk_un ej, pk_un ej]
          exact e2 j (by omega)
  have loop : ∀ (F : zR) (k i : Nat), i + k = 4 → ∀ (M1 : gM) (R : zR), p + 1 < q → cTf M M1 p q → M1.2 = q + 3 → M1.1 p = some (cTp p t R.2.2) → R.2.2.1 ≤ t → R.1 = i → cMr M1 q R → zMsL T t (!r) k R = F →
      gJ G kX10_readMatchers 3 0 0 M1 16 [(3, .int (nI i)), (2, .ref q), (0, .ref p), (1, .int (gb r))] [] (gQ kX10_readMatchers (fun M2 v => v = some (.ref q) ∧ cTf M M2 p q ∧ p + 1 < q ∧ M2.2 = q + 3 ∧ M2.1 p = some (cTp p t F.2.2) ∧ cMr M2 q F)) := by
    intro F k
    induction k with
    | zero =>
      intro i hi M1 R hpq hf h2 hp hle hRi hmr hF
      subst hF
      refine gJ_iload_n dX10_readMatchers_16 rfl rfl ?_
      refine gJ_iconst (v := 4) dX10_readMatchers_17 (by decide) ?_
      refine gJ_icmp_geN (tgt := 45) (a := i) (b := 4) (by first | with_reducible rfl | rfl) (by first | with_reducible rfl | rfl) (by omega) (by omega) dX10_readMatchers_18 (by decide) (fun _ => ?_) (fun c_ => by exfalso; omega)
      refine gJ_aload_n dX10_readMatchers_45 rfl rfl ?_
      refine gJ_aret dX10_readMatchers_46 rfl (Or.inl ⟨_, rfl⟩) ?_
      exact ⟨rfl, hf, hpq, h2, hp, hmr⟩
    | succ k ih =>
      intro i hi M1 R hpq hf h2 hp hle hRi hmr hF
      have hT1 : M1.1 (p + 1) = some (gI 60 T) := (hf.2 _ hpq (by omega)).trans hT
      have hSk := c10_skip (G := G) ht hle hp hT1 44
      rw [zMsL] at hF
      by_cases h44 : zH T t R.2.2 = 44
      · rw [if_pos h44] at hF
        rw [decide_eq_true h44, zSk, if_pos h44] at hSk
        have hlt := zH_lt (s := R.2.2) (by rw [h44]; decide)
        have hmr2 : cMr (gUp M1 p (cTp p t (R.2.2.1 + 1, R.2.2.2))) q (R.1, R.2.1, (R.2.2.1 + 1, R.2.2.2)) := by
          obtain ⟨n, L, Z, hn, hq, hq1, hq2, hok⟩ := hmr
          exact ⟨n, L, Z, hn, gUp_n hq (by omega), gUp_n hq1 (by omega), gUp_n hq2 (by omega), hok⟩
        have hC := one _ (gUp M1 p (cTp p t (R.2.2.1 + 1, R.2.2.2))) (R.1, R.2.1, (R.2.2.1 + 1, R.2.2.2)) rfl hpq ⟨hf.1, fun x hx hxp => (gUp_n rfl hxp).trans (hf.2 x hx hxp)⟩ h2 gUp_s hlt.1 (by show R.1 < 4; omega) hmr2
        have hle2 := (zM1_ok (T := T) (t := t) (sev := !r) (r := (R.1, fun _ => 0, (R.2.2.1 + 1, R.2.2.2))) ⟨hlt.1, fun _ => (by decide : 0 < 128)⟩).1
        refine gJ_iload_n dX10_readMatchers_16 rfl rfl ?_
        refine gJ_iconst (v := 4) dX10_readMatchers_17 (by decide) ?_
        refine gJ_icmp_geN (tgt := 45) (a := i) (b := 4) (by first | with_reducible rfl | rfl) (by first | with_reducible rfl | rfl) (by omega) (by omega) dX10_readMatchers_18 (by decide) (fun c_ => by exfalso; omega) (fun _ => ?_)
        refine gJ_aload_n dX10_readMatchers_21 rfl rfl ?_
        refine gJ_bipush (v := 44) dX10_readMatchers_22 (by decide) ?_
        refine gJ_callV (As := [_]) b_X10_skip lX10_41 i_X10_skip s_X10_skip dX10_readMatchers_24 (hSk) hp rfl rfl (Nat.le_of_ble_eq_true rfl) rfl (by decide) (fun M24 v_ h24 => ?_)
        obtain ⟨e_, rfl⟩ := h24
        replace e_ := e_.symm
        subst e_
        refine gJ_if_neB (tgt := 33) dX10_readMatchers_27 (by decide) (fun _ => ?_) (fun c_ => by exfalso; cases c_)
        refine gJ_aload_n dX10_readMatchers_33 rfl rfl ?_
        refine gJ_aload_n dX10_readMatchers_34 rfl rfl ?_
        refine gJ_iload_n dX10_readMatchers_35 rfl rfl ?_
        refine gJ_callV (As := [_, _]) b_X10_readMatcher lX10_84 i_X10_readMatcher s_X10_readMatcher dX10_readMatchers_36 (hC) gUp_s rfl rfl (Nat.le_of_ble_eq_true rfl) rfl (by decide) (fun M36 v_ h36 => ?_)
        obtain ⟨rfl, hf36, h236, hp36, hmr36⟩ := h36
        refine gJ_iincN (a := i) (b := 1) (lv2 := [(3, _), (2, _), (0, _), (1, _)]) dX10_readMatchers_39 rfl rfl rfl rfl ?_
        refine gJ_goto (tgt := 16) dX10_readMatchers_42 (by decide) ?_
        exact gJ_ls (ih (i + 1) (by omega) M36 _ hpq hf36 h236 hp36 hle2 (by show R.1 + 1 = i + 1; omega) hmr36 hF) ⟨rfl, rfl, rfl, rfl, trivial⟩
      · rw [if_neg h44] at hF
        subst hF
        rw [decide_eq_false h44, zSk, if_neg h44, gUp_id hp] at hSk
        refine gJ_iload_n dX10_readMatchers_16 rfl rfl ?_
        refine gJ_iconst (v := 4) dX10_readMatchers_17 (by decide) ?_
        refine gJ_icmp_geN (tgt := 45) (a := i) (b := 4) (by first | with_reducible rfl | rfl) (by first | with_reducible rfl | rfl) (by omega) (by omega) dX10_readMatchers_18 (by decide) (fun c_ => by exfalso; omega) (fun _ => ?_)
        refine gJ_aload_n dX10_readMatchers_21 rfl rfl ?_
        refine gJ_bipush (v := 44) dX10_readMatchers_22 (by decide) ?_
        refine gJ_callV (As := [_]) b_X10_skip lX10_41 i_X10_skip s_X10_skip dX10_readMatchers_24 (hSk) hp rfl rfl (Nat.le_of_ble_eq_true rfl) rfl (by decide) (fun M24 v_ h24 => ?_)
        obtain ⟨e_, rfl⟩ := h24
        replace e_ := e_.symm
        subst e_
        refine gJ_if_neB (tgt := 33) dX10_readMatchers_27 (by decide) (fun c_ => by exfalso; cases c_) (fun _ => ?_)
        refine gJ_goto (tgt := 45) dX10_readMatchers_30 (by decide) ?_
        refine gJ_aload_n dX10_readMatchers_45 rfl rfl ?_
        refine gJ_aret dX10_readMatchers_46 rfl (Or.inl ⟨_, rfl⟩) ?_
        exact ⟨rfl, hf, hpq, h2, hp, hmr⟩
  refine gJ_lt fun hlt => ?_
  have hpq : p + 1 < q := by rw [hqe]; exact hlt _ _ hT
  have hI := c5_init (G := G) (M := gNew M (gO 4 [.null, .null, .int 0])) (q := q) (by rw [hqe]; rfl) (by rw [hqe]; exact gNew_s)
  have hms : zMs T t (!r) s = zMsL T t (!r) 3 (zM1 T t (!r) (0, fun _ => 0, s)) := rfl
  rw [hms]
  have hle1 := (zM1_ok (T := T) (t := t) (sev := !r) (r := (0, fun _ => 0, s)) ⟨hs, fun _ => (by decide : 0 < 128)⟩).1
  show gJ _ _ _ _ _ _ 0 [(0, _), (1, _)] [] _
  refine gJ_new (k := kX10_readMatchers) nX10_30 dX10_readMatchers_0 ?_
  rw [← hqe]
  refine gJ_dup dX10_readMatchers_3 rfl ?_
  refine gJ_callIN (As := []) b_X5_init lX10_32 i_X5_init rfl rfl dX10_readMatchers_4 (hI) rfl (Nat.le_of_ble_eq_true rfl) rfl (by decide) (fun M4 v_ h4 => ?_)
  obtain ⟨rfl, h42, hf4, hq4, hq14, hq24⟩ := h4
  have hold : ∀ x, x < q → M4.1 x = M.1 x := (fun x hx => (hf4 x hx).trans (gNew_n rfl (by rw [← hqe]; omega)))
  have hp4 : M4.1 p = some (cTp p t s) := (hold p (by omega)).trans hm
  have hC := one _ M4 (0, fun _ => 0, s) rfl hpq ⟨by omega, fun x hx _ => hold x hx⟩ h42 hp4 hs (by show 0 < 4; decide) ⟨0, _, _, Nat.le_refl _, hq4, hq14, hq24, fun _ => ⟨rfl, fun j hj => absurd hj (by omega)⟩⟩
  refine gJ_astore_n (lv2 := [(2, _), (0, _), (1, _)]) dX10_readMatchers_7 rfl rfl rfl ?_
  refine gJ_aload_n dX10_readMatchers_8 rfl rfl ?_
  refine gJ_aload_n dX10_readMatchers_9 rfl rfl ?_
  refine gJ_iload_n dX10_readMatchers_10 rfl rfl ?_
  refine gJ_callV (As := [_, _]) b_X10_readMatcher lX10_84 i_X10_readMatcher s_X10_readMatcher dX10_readMatchers_11 (hC) hp4 rfl rfl (Nat.le_of_ble_eq_true rfl) rfl (by decide) (fun M11 v_ h11 => ?_)
  obtain ⟨rfl, hf11, h211, hp11, hmr11⟩ := h11
  refine gJ_iconst (v := 1) dX10_readMatchers_14 (by decide) ?_
  refine gJ_istore_n (lv2 := [(3, _), (2, _), (0, _), (1, _)]) dX10_readMatchers_15 rfl rfl rfl ?_
  exact gJ_ls (loop _ 3 1 (by omega) M11 _ hpq hf11 h211 hp11 hle1 rfl hmr11 rfl) ⟨rfl, rfl, rfl, rfl, trivial⟩
end TAPE
