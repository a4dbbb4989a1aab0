/-- all that is there lies below the next free address -/
theorem gJ_lt {G : gG} {M : gM} {k : gMd} {d nc ns pc : Nat} {lv : List (Nat × Value)} {st : List Value} {Q : gP} (kk : (∀ q c, M.1 q = some c → q < M.2) → gJ G k d nc ns M pc lv st Q) : gJ G k d nc ns M pc lv st Q := by
  intro p l e R s m args below meth c H locs cells slots Z ls C hw
  exact kk (fun q c hq => by have := gW_lt hw hq; rw [hw.2.2] at this; exact this) p l e R s m args below meth c H locs cells slots Z ls C hw
def mOkc (f : Nat → Nat) (L Z : Nat → Int32) (n : Nat) : Prop := ∀ j, j < n → f j % 16 < cSz (f j % 64 / 16) ∧ L j = nI (cFs (f j % 64 / 16) + f j % 16) ∧ Z j = gb (decide (64 ≤ f j))
theorem zL_r {r : Bool} {c : Int32} : zL (!r) c = if r = true ∧ zL true c = 3 then 4 else zL true c := by
  unfold zL
  cases r <;> by_cases h1 : c = 116 <;> by_cases h2 : c = 104 <;> by_cases h3 : c = 122 <;> by_cases h4 : c = 115 <;> simp_all
section TAPE
variable {G : gG} {M : gM} {p t q : Nat} {T : Nat → Int32} {s s2 : zP}
theorem c5_init (hn : M.2 = q + 1) (hm : M.1 q = some (gO 4 [.null, .null, .int 0])) : gCon G kX5_init 1 2 8 M [.ref q] (fun M2 v => v = none ∧ M2.2 = q + 3 ∧ (∀ x, x < q → M2.1 x = M.1 x) ∧ M2.1 q = some (gO 4 [.ref (q + 1), .ref (q + 2), .int (nI 0)]) ∧ M2.1 (q + 1) = some (gI 4 (fun _ => 0)) ∧ M2.1 (q + 2) = some (gZ 4 (fun _ => 0))) := by
  obtain ⟨f, n⟩ := M
  have hn' : n = q + 1 := hn
  subst hn'
  clear hn
  refine gCon_of (by decide) (Nat.le_of_ble_eq_true rfl) ?_
  show gJ _ _ _ _ _ _ 0 [(0, _)] [] _
  refine gJ_aload_n dX5_init_0 rfl rfl ?_
  refine gJ_objInit oX5_1 dX5_init_1 (by decide) (by omega) ?_
  refine gJ_aload_n dX5_init_4 rfl rfl ?_
  refine gJ_iconst (v := 4) dX5_init_5 (by decide) ?_
  refine gJ_newI (N := 4) (by decide) (by decide) (by decide) dX5_init_6 ?_
  show gJ _ _ _ _ _ _ _ _ (Value.ref (q + 1) :: _) _
  refine gJ_putF fX5_9 rfl rfl dX5_init_8 (by repeat (first | exact gUp_s | exact gNew_s | assumption | refine gUp_n ?_ (by first | omega | (simp only [gUp, gNew]; omega)) | refine gNew_n ?_ (by first | omega | (simp only [gUp, gNew]; omega)))) rfl rfl (Nat.le_of_ble_eq_true rfl) ?_
  refine gJ_aload_n dX5_init_11 rfl rfl ?_
  refine gJ_iconst (v := 4) dX5_init_12 (by decide) ?_
  refine gJ_newZ (N := 4) (by decide) (by decide) (by decide) dX5_init_13 ?_
  show gJ _ _ _ _ _ _ _ _ (Value.ref (q + 2) :: _) _
  refine gJ_putF fX5_13 rfl rfl dX5_init_15 (by repeat (first | exact gUp_s | exact gNew_s | assumption | refine gUp_n ?_ (by first | omega | (simp only [gUp, gNew]; omega)) | refine gNew_n ?_ (by first | omega | (simp only [gUp, gNew]; omega)))) rfl rfl (Nat.le_of_ble_eq_true rfl) ?_
  refine gJ_vret dX5_init_18 rfl ?_
  refine ⟨rfl, rfl, fun x hx => ?_, ?_, ?_, ?_⟩
  · (repeat (first | refine gUp_n ?_ (by first | omega | (simp only [gUp, gNew]; omega)) | refine gNew_n ?_ (by first | omega | (simp only [gUp, gNew]; omega))))
    rfl
  all_goals (repeat (first | exact gUp_s | exact gNew_s | refine gUp_n ?_ (by first | omega | (simp only [gUp, gNew]; omega)) | refine gNew_n ?_ (by first | omega | (simp only [gUp, gNew]; omega))))
def cMtM (M : gM) (p t q : Nat) (z : Nat × zP) (L Z : Nat → Int32) (n : Nat) : gM := if z.2.2 = true then gUp M p (cTp p t z.2) else gUp (gUp (gUp (gUp M p (cTp p t z.2)) (q + 1) (gI 4 (upd L n (nI (cFs (z.1 % 64 / 16) + z.1 % 16))))) (q + 2) (gZ 4 (upd Z n (gb (decide (64 ≤ z.1)))))) q (gO 4 [.ref (q + 1), .ref (q + 2), .int (nI (n + 1))])
set_option maxHeartbeats 2000000 in
set_option maxRecDepth 20000 in
theorem c10_readMatcher {L Z : Nat → Int32} {n : Nat} (ht : t ≤ 60) (hB : zB T) (hs : s.1 ≤ t) (hm : M.1 p = some (cTp p t s)) (hT : M.1 (p + 1) = some (gI 60 T)) (hpq : p + 1 < q) (hn : n < 4) (hq : M.1 q = some (gO 4 [.ref (q + 1), .ref (q + 2), .int (nI n)])) (hq1 : M.1 (q + 1) = some (gI 4 L)) (hq2 : M.1 (q + 2) = some (gZ 4 Z)) (r : Bool) : gCon G kX10_readMatcher 2 0 0 M [.ref p, .ref q, .int (gb r)] (fun M2 v => M2 = cMtM M p t q (zMt T t (!r) s) L Z n ∧ v = none) := by
  obtain ⟨a, w⟩ := s
  have ha : a ≤ t := hs
  refine gCon_of (by decide) (Nat.le_of_ble_eq_true rfl) ?_
  have hTU : ∀ c, (gUp M p c).1 (p + 1) = some (gI 60 T) := fun c => gUp_n hT (by omega)
  have L31 : ∀ (b : Nat) (c x : Int32) (R : Nat × zP), R.2 = (b, true) → gJ G kX10_readMatcher 2 0 0 (gUp M p (cTp p t (b, false))) 31 [(4, .int x), (3, .int c), (0, .ref p), (1, .ref q), (2, .int (gb r))] [] (gQ kX10_readMatcher (fun M2 v => M2 = cMtM M p t q R L Z n ∧ v = none)) := by
    intro b c x R hR
    refine gJ_aload_n dX10_readMatcher_31 rfl rfl ?_
    refine gJ_iconst (v := 1) dX10_readMatcher_32 (by decide) ?_
    refine gJ_put fX10_22 dX10_readMatcher_33 (by first | with_reducible assumption | with_reducible exact gUp_s | with_reducible exact gUp_n (by with_reducible assumption) (by omega) | exact gUp_n (by assumption) (by omega) | exact gUp_s | assumption) rfl rfl (Nat.le_of_ble_eq_true rfl) ?_
    refine gJ_vret dX10_readMatcher_36 rfl ?_
    rw [gUp_up]
    refine ⟨?_, rfl⟩
    rw [cMtM, hR, if_pos rfl]
    rfl
  have L37 : ∀ (b l nt : Nat) (ntb : Bool), l < 4 → b < t → nt = (if ntb = true then 64 else 0) → gJ G kX10_readMatcher 2 0 0 (gUp M p (cTp p t (b, false))) 37 [(4, .int (nI l)), (3, .int (gb ntb)), (0, .ref p), (1, .ref q), (2, .int (gb r))] [] (gQ kX10_readMatcher (fun M2 v => M2 = cMtM M p t q (zMd T t nt l b) L Z n ∧ v = none)) := by
    intro b l nt ntb hl hb hnt
    have hg1 : (gSt 1).2.2 l = nI (if l = 1 then 7 else 3) := by rcases (show l = 0 ∨ l = 1 ∨ l = 2 ∨ l = 3 by omega) with rfl | rfl | rfl | rfl <;> rfl
    have hg0 : (gSt 0).2.2 l = nI (cFs l) := by rcases (show l = 0 ∨ l = 1 ∨ l = 2 ∨ l = 3 by omega) with rfl | rfl | rfl | rfl <;> rfl
    have hmo : (if l = 1 then 7 else 3) ≤ 9 := by split <;> omega
    have hC := c10_readDigit (G := G) (M := gUp M p (cTp p t (b + 1, false))) (s := (b + 1, false)) ht hB (by show b + 1 ≤ t; omega) gUp_s (hTU _) (if l = 1 then 7 else 3) hmo
    have hz : zMd T t nt l b = (nt + 16 * l + (zDg T t (if l = 1 then 7 else 3) (b + 1, false)).1, (zDg T t (if l = 1 then 7 else 3) (b + 1, false)).2) := by rw [zMd, if_neg (by omega)]
    rw [hz]
    have hdm := zDg_m (T := T) (t := t) (m := if l = 1 then 7 else 3) (s := (b + 1, false))
    have hsz : (if l = 1 then 7 else 3) < cSz l := by unfold cSz; split <;> omega
    generalize zDg T t (if l = 1 then 7 else 3) (b + 1, false) = z at hC hdm
    obtain ⟨d, b2, w2⟩ := z
    have hd7 : d < cSz l := Nat.lt_of_le_of_lt hdm hsz
    have hd8 : d < 16 := by unfold cSz at hd7; split at hd7 <;> omega
    have hlt := cFs_lt (by omega : l ≤ 3) hd7
    cases w2 with
    | true =>
      refine gJ_aload_n dX10_readMatcher_37 rfl rfl ?_
      refine gJ_dup dX10_readMatcher_38 rfl ?_
      refine gJ_get fX10_19 dX10_readMatcher_39 (by first | with_reducible assumption | with_reducible exact gUp_s | with_reducible exact gUp_n (by with_reducible assumption) (by omega) | exact gUp_n (by assumption) (by omega) | exact gUp_s | assumption) rfl ?_
      refine gJ_iconst (v := 1) dX10_readMatcher_42 (by decide) ?_
      refine gJ_iaddN (a := b) (b := 1) dX10_readMatcher_43 (by first | with_reducible rfl | rfl) (by first | with_reducible rfl | rfl) ?_
      refine gJ_put fX10_19 dX10_readMatcher_44 (by first | with_reducible assumption | with_reducible exact gUp_s | with_reducible exact gUp_n (by with_reducible assumption) (by omega) | exact gUp_n (by assumption) (by omega) | exact gUp_s | assumption) rfl rfl (Nat.le_of_ble_eq_true rfl) ?_
      rw [gUp_up]
      refine gJ_aload_n dX10_readMatcher_47 rfl rfl ?_
      refine gJ_getsN (q := 1) (by decide) gX10_52 dX10_readMatcher_48 ?_
      refine gJ_iload dX10_readMatcher_51 rfl ?_
      refine gJ_taldN (j := l) dX10_readMatcher_53 (q := 1) (by decide) (by first | with_reducible rfl | rfl) (show l < 4 by omega) (by decide) ?_
      rw [hg1]
      refine gJ_callV (As := [_]) b_X10_readDigit lX10_55 i_X10_readDigit s_X10_readDigit dX10_readMatcher_54 (hC) gUp_s rfl rfl (Nat.le_of_ble_eq_true rfl) rfl (by decide) (fun M54 v_ h54 => ?_)
      obtain ⟨e54, rfl⟩ := h54
      replace e54 := e54.symm
      rw [gUp_up] at e54
      subst e54
      refine gJ_istore (lv2 := [(5, _), (4, _), (3, _), (0, _), (1, _), (2, _)]) dX10_readMatcher_57 rfl rfl ?_
      refine gJ_aload_n dX10_readMatcher_59 rfl rfl ?_
      refine gJ_get fX10_22 dX10_readMatcher_60 (by first | with_reducible assumption | with_reducible exact gUp_s | with_reducible exact gUp_n (by with_reducible assumption) (by omega) | exact gUp_n (by assumption) (by omega) | exact gUp_s | assumption) rfl ?_
      refine gJ_if_neB (tgt := 74) dX10_readMatcher_63 (by decide) (fun _ => ?_) (fun c_ => by exfalso; cases c_)
      refine gJ_vret dX10_readMatcher_74 rfl ?_
      refine ⟨?_, rfl⟩
      rw [cMtM, if_pos rfl]
    | false =>
      have hcode : (nt + 16 * l + d) % 64 / 16 = l ∧ (nt + 16 * l + d) % 16 = d ∧ decide (64 ≤ nt + 16 * l + d) = ntb := by
        cases ntb
        · rw [if_neg Bool.false_ne_true] at hnt
          subst hnt
          exact ⟨by omega, by omega, decide_eq_false (by omega)⟩
        · rw [if_pos rfl] at hnt
          subst hnt
          exact ⟨by omega, by omega, decide_eq_true (by omega)⟩
      refine gJ_aload_n dX10_readMatcher_37 rfl rfl ?_
      refine gJ_dup dX10_readMatcher_38 rfl ?_
      refine gJ_get fX10_19 dX10_readMatcher_39 (by repeat (first | exact gUp_s | assumption | refine gUp_n ?_ (by omega))) rfl ?_
      refine gJ_iconst (v := 1) dX10_readMatcher_42 (by decide) ?_
      refine gJ_iaddN (a := b) (b := 1) dX10_readMatcher_43 (by first | with_reducible rfl | rfl) (by first | with_reducible rfl | rfl) ?_
      refine gJ_put fX10_19 dX10_readMatcher_44 (by repeat (first | exact gUp_s | assumption | refine gUp_n ?_ (by omega))) rfl rfl (Nat.le_of_ble_eq_true rfl) ?_
      rw [gUp_up]
      refine gJ_aload_n dX10_readMatcher_47 rfl rfl ?_
      refine gJ_getsN (q := 1) (by decide) gX10_52 dX10_readMatcher_48 ?_
      refine gJ_iload dX10_readMatcher_51 rfl ?_
      refine gJ_taldN (j := l) dX10_readMatcher_53 (q := 1) (by decide) (by first | with_reducible rfl | rfl) (show l < 4 by omega) (by decide) ?_
      rw [hg1]
      refine gJ_callV (As := [_]) b_X10_readDigit lX10_55 i_X10_readDigit s_X10_readDigit dX10_readMatcher_54 (hC) gUp_s rfl rfl (Nat.le_of_ble_eq_true rfl) rfl (by decide) (fun M54 v_ h54 => ?_)
      obtain ⟨e54, rfl⟩ := h54
      replace e54 := e54.symm
      rw [gUp_up] at e54
      subst e54
      refine gJ_istore (lv2 := [(5, _), (4, _), (3, _), (0, _), (1, _), (2, _)]) dX10_readMatcher_57 rfl rfl ?_
      refine gJ_aload_n dX10_readMatcher_59 rfl rfl ?_
      refine gJ_get fX10_22 dX10_readMatcher_60 (by repeat (first | exact gUp_s | assumption | refine gUp_n ?_ (by omega))) rfl ?_
      refine gJ_if_neB (tgt := 74) dX10_readMatcher_63 (by decide) (fun c_ => by exfalso; cases c_) (fun _ => ?_)
      refine gJ_aload_n dX10_readMatcher_66 rfl rfl ?_
      refine gJ_get fX10_88 dX10_readMatcher_67 (by repeat (first | exact gUp_s | assumption | refine gUp_n ?_ (by omega))) rfl ?_
      refine gJ_iconst (v := 4) dX10_readMatcher_70 (by decide) ?_
      refine gJ_icmp_ltN (tgt := 75) (a := n) (b := 4) (by first | with_reducible rfl | rfl) (by first | with_reducible rfl | rfl) (by omega) (by omega) dX10_readMatcher_71 (by decide) (fun _ => ?_) (fun c_ => by exfalso; omega)
      refine gJ_aload_n dX10_readMatcher_75 rfl rfl ?_
      refine gJ_get fX10_91 dX10_readMatcher_76 (by repeat (first | exact gUp_s | assumption | refine gUp_n ?_ (by omega))) rfl ?_
      refine gJ_aload_n dX10_readMatcher_79 rfl rfl ?_
      refine gJ_get fX10_88 dX10_readMatcher_80 (by repeat (first | exact gUp_s | assumption | refine gUp_n ?_ (by omega))) rfl ?_
      refine gJ_getsN (q := 0) (by decide) gX10_94 dX10_readMatcher_83 ?_
      refine gJ_iload dX10_readMatcher_86 rfl ?_
      refine gJ_taldN (j := l) dX10_readMatcher_88 (q := 0) (by decide) (by first | with_reducible rfl | rfl) (show l < 4 by omega) (by decide) ?_
      rw [hg0]
      refine gJ_iload dX10_readMatcher_89 rfl ?_
      refine gJ_iaddN (a := (cFs l)) (b := d) dX10_readMatcher_91 (by first | with_reducible rfl | rfl) (by first | with_reducible rfl | rfl) ?_
      refine gJ_iastN (j := n) dX10_readMatcher_92 (by repeat (first | exact gUp_s | assumption | refine gUp_n ?_ (by omega))) (by first | with_reducible rfl | rfl) (by omega) (by decide) ?_
      try rw [gUp_up]
      refine gJ_aload_n dX10_readMatcher_93 rfl rfl ?_
      refine gJ_get fX10_97 dX10_readMatcher_94 (by repeat (first | exact gUp_s | assumption | refine gUp_n ?_ (by omega))) rfl ?_
      refine gJ_aload_n dX10_readMatcher_97 rfl rfl ?_
      refine gJ_get fX10_88 dX10_readMatcher_98 (by repeat (first | exact gUp_s | assumption | refine gUp_n ?_ (by omega))) rfl ?_
      refine gJ_iload_n dX10_readMatcher_101 rfl rfl ?_
      refine gJ_zastN (j := n) dX10_readMatcher_102 (by repeat (first | exact gUp_s | assumption | refine gUp_n ?_ (by omega))) (by first | with_reducible rfl | rfl) (by omega) (by decide) (gb01 _) ?_
      try rw [gUp_up]
      refine gJ_aload_n dX10_readMatcher_103 rfl rfl ?_
      refine gJ_dup dX10_readMatcher_104 rfl ?_
      refine gJ_get fX10_88 dX10_readMatcher_105 (by repeat (first | exact gUp_s | assumption | refine gUp_n ?_ (by omega))) rfl ?_
      refine gJ_iconst (v := 1) dX10_readMatcher_108 (by decide) ?_
      refine gJ_iaddN (a := n) (b := 1) dX10_readMatcher_109 (by first | with_reducible rfl | rfl) (by first | with_reducible rfl | rfl) ?_
      refine gJ_put fX10_88 dX10_readMatcher_110 (by repeat (first | exact gUp_s | assumption | refine gUp_n ?_ (by omega))) rfl rfl (Nat.le_of_ble_eq_true rfl) ?_
      refine gJ_vret dX10_readMatcher_113 rfl ?_
      refine ⟨?_, rfl⟩
      obtain ⟨k1, k2, k3⟩ := hcode
      rw [cMtM, if_neg (show ¬ (false = true) from Bool.false_ne_true)]
      dsimp only
      rw [k1, k2, k3]
      rfl
  have L7 : ∀ (b nt : Nat) (ntb : Bool), b ≤ t → nt = (if ntb = true then 64 else 0) → gJ G kX10_readMatcher 2 0 0 (gUp M p (cTp p t (b, false))) 7 [(3, .int (gb ntb)), (0, .ref p), (1, .ref q), (2, .int (gb r))] [] (gQ kX10_readMatcher (fun M2 v => M2 = cMtM M p t q (zMd T t nt (zL (!r) (zH T t (b, false))) b) L Z n ∧ v = none)) := by
    intro b nt ntb hb hnt
    have hP := c10_peek (G := G) (M := gUp M p (cTp p t (b, false))) (s := (b, false)) ht hb gUp_s (hTU _)
    have hbt : ¬ zL true (zH T t (b, false)) = 4 → b < t := fun h => (zH_lt (s := (b, false)) (zL_n h)).1
    have hl4 : zL true (zH T t (b, false)) ≤ 4 := zL_4
    rw [zL_r]
    generalize zH T t (b, false) = c at hP hbt hl4
    have hLo := c10_labelOf (G := G) (M := gUp M p (cTp p t (b, false))) c
    unfold cLof at hLo
    generalize zL true c = l at hbt hl4 hLo
    by_cases h4 : l = 4
    · subst h4
      rw [if_pos rfl] at hLo
      rw [if_neg (by omega : ¬ (r = true ∧ 4 = 3))]
      refine gJ_aload_n dX10_readMatcher_7 rfl rfl ?_
      refine gJ_callV (As := []) b_X10_peek lX10_37 i_X10_peek s_X10_peek dX10_readMatcher_8 (hP) gUp_s rfl rfl (Nat.le_of_ble_eq_true rfl) rfl (by decide) (fun M8 v_ h8 => ?_)
      obtain ⟨e_, rfl⟩ := h8
      replace e_ := e_.symm
      subst e_
      refine gJ_callS (As := [_]) b_X10_labelOf lX10_76 i_X10_labelOf dX10_readMatcher_11 (hLo) rfl (Nat.le_of_ble_eq_true rfl) rfl (by decide) (fun M11 v_ h11 => ?_)
      obtain ⟨e_, rfl⟩ := h11
      replace e_ := e_.symm
      subst e_
      refine gJ_istore (lv2 := [(4, _), (3, _), (0, _), (1, _), (2, _)]) dX10_readMatcher_14 rfl rfl ?_
      refine gJ_iload dX10_readMatcher_16 rfl ?_
      refine gJ_if_lt (tgt := 31) dX10_readMatcher_18 (by decide) (fun _ => ?_) (fun c_ => by exfalso; exact c_ (by decide))
      exact gJ_ls (L31 b _ _ _ rfl) ⟨rfl, rfl, rfl, rfl, rfl, trivial⟩
    · rw [if_neg h4] at hLo
      by_cases hr3 : r = true ∧ l = 3
      · obtain ⟨hr, h3⟩ := hr3
        subst h3 hr
        rw [if_pos ⟨rfl, rfl⟩]
        refine gJ_aload_n dX10_readMatcher_7 rfl rfl ?_
        refine gJ_callV (As := []) b_X10_peek lX10_37 i_X10_peek s_X10_peek dX10_readMatcher_8 (hP) gUp_s rfl rfl (Nat.le_of_ble_eq_true rfl) rfl (by decide) (fun M8 v_ h8 => ?_)
        obtain ⟨e_, rfl⟩ := h8
        replace e_ := e_.symm
        subst e_
        refine gJ_callS (As := [_]) b_X10_labelOf lX10_76 i_X10_labelOf dX10_readMatcher_11 (hLo) rfl (Nat.le_of_ble_eq_true rfl) rfl (by decide) (fun M11 v_ h11 => ?_)
        obtain ⟨e_, rfl⟩ := h11
        replace e_ := e_.symm
        subst e_
        refine gJ_istore (lv2 := [(4, _), (3, _), (0, _), (1, _), (2, _)]) dX10_readMatcher_14 rfl rfl ?_
        refine gJ_iload dX10_readMatcher_16 rfl ?_
        refine gJ_if_ltN (tgt := 31) (a := 3) (by first | with_reducible rfl | rfl) (by omega) dX10_readMatcher_18 (by decide) (fun c_ => by exfalso; omega) (fun _ => ?_)
        refine gJ_iload_n dX10_readMatcher_21 rfl rfl ?_
        refine gJ_if_eqB (tgt := 37) dX10_readMatcher_22 (by decide) (fun c_ => by exfalso; cases c_) (fun _ => ?_)
        refine gJ_iload dX10_readMatcher_25 rfl ?_
        refine gJ_iconst (v := 3) dX10_readMatcher_27 (by decide) ?_
        refine gJ_icmp_neN (tgt := 37) (a := 3) (b := 3) (by first | with_reducible rfl | rfl) (by first | with_reducible rfl | rfl) (by omega) (by omega) dX10_readMatcher_28 (by decide) (fun c_ => by exfalso; omega) (fun _ => ?_)
        exact gJ_ls (L31 b _ _ _ rfl) ⟨rfl, rfl, rfl, rfl, rfl, trivial⟩
      · rw [if_neg hr3]
        refine gJ_aload_n dX10_readMatcher_7 rfl rfl ?_
        refine gJ_callV (As := []) b_X10_peek lX10_37 i_X10_peek s_X10_peek dX10_readMatcher_8 (hP) gUp_s rfl rfl (Nat.le_of_ble_eq_true rfl) rfl (by decide) (fun M8 v_ h8 => ?_)
        obtain ⟨e_, rfl⟩ := h8
        replace e_ := e_.symm
        subst e_
        refine gJ_callS (As := [_]) b_X10_labelOf lX10_76 i_X10_labelOf dX10_readMatcher_11 (hLo) rfl (Nat.le_of_ble_eq_true rfl) rfl (by decide) (fun M11 v_ h11 => ?_)
        obtain ⟨e_, rfl⟩ := h11
        replace e_ := e_.symm
        subst e_
        refine gJ_istore (lv2 := [(4, _), (3, _), (0, _), (1, _), (2, _)]) dX10_readMatcher_14 rfl rfl ?_
        refine gJ_iload dX10_readMatcher_16 rfl ?_
        refine gJ_if_ltN (tgt := 31) (a := l) (by first | with_reducible rfl | rfl) (by omega) dX10_readMatcher_18 (by decide) (fun c_ => by exfalso; omega) (fun _ => ?_)
        refine gJ_iload_n dX10_readMatcher_21 rfl rfl ?_
        refine gJ_if_eqB (tgt := 37) dX10_readMatcher_22 (by decide) (fun c22 => ?_) (fun c22 => ?_)
        · exact gJ_ls (L37 b l nt ntb (by omega) (hbt h4) hnt) ⟨rfl, rfl, rfl, rfl, rfl, trivial⟩
        · refine gJ_iload dX10_readMatcher_25 rfl ?_
          refine gJ_iconst (v := 3) dX10_readMatcher_27 (by decide) ?_
          refine gJ_icmp_neN (tgt := 37) (a := l) (b := 3) (by first | with_reducible rfl | rfl) (by first | with_reducible rfl | rfl) (by omega) (by omega) dX10_readMatcher_28 (by decide) (fun _ => ?_) (fun c_ => by exfalso; exact hr3 ⟨c22, c_⟩)
          exact gJ_ls (L37 b l nt ntb (by omega) (hbt h4) hnt) ⟨rfl, rfl, rfl, rfl, rfl, trivial⟩
  have hSk := c10_skip (G := G) ht hs hm hT 33
  cases w with
  | true =>
    rw [zMt_w]
    rw [zH_w, decide_eq_false (by decide : ¬ (-1 : Int32) = 33), zSk, zH_w, if_neg (by decide), gUp_id hm] at hSk
    have hP := c10_peek (G := G) ht hs hm hT
    rw [zH_w] at hP
    have hLo := c10_labelOf (G := G) (M := M) (-1)
    rw [show cLof (-1) = -5 from by decide] at hLo
    show gJ _ _ _ _ _ _ 0 [(0, _), (1, _), (2, _)] [] _
    refine gJ_aload_n dX10_readMatcher_0 rfl rfl ?_
    refine gJ_bipush (v := 33) dX10_readMatcher_1 (by decide) ?_
    refine gJ_callV (As := [_]) b_X10_skip lX10_41 i_X10_skip s_X10_skip dX10_readMatcher_3 (hSk) (by first | with_reducible assumption | with_reducible exact gUp_s | with_reducible exact gUp_n (by with_reducible assumption) (by omega) | exact gUp_n (by assumption) (by omega) | exact gUp_s | assumption) rfl rfl (Nat.le_of_ble_eq_true rfl) rfl (by decide) (fun M3 v_ h3 => ?_)
    obtain ⟨e_, rfl⟩ := h3
    replace e_ := e_.symm
    subst e_
    refine gJ_istore_n (lv2 := [(3, _), (0, _), (1, _), (2, _)]) dX10_readMatcher_6 rfl rfl rfl ?_
    refine gJ_aload_n dX10_readMatcher_7 rfl rfl ?_
    refine gJ_callV (As := []) b_X10_peek lX10_37 i_X10_peek s_X10_peek dX10_readMatcher_8 (hP) (by first | with_reducible assumption | with_reducible exact gUp_s | with_reducible exact gUp_n (by with_reducible assumption) (by omega) | exact gUp_n (by assumption) (by omega) | exact gUp_s | assumption) rfl rfl (Nat.le_of_ble_eq_true rfl) rfl (by decide) (fun M8 v_ h8 => ?_)
    obtain ⟨e_, rfl⟩ := h8
    replace e_ := e_.symm
    subst e_
    refine gJ_callS (As := [_]) b_X10_labelOf lX10_76 i_X10_labelOf dX10_readMatcher_11 (hLo) rfl (Nat.le_of_ble_eq_true rfl) rfl (by decide) (fun M11 v_ h11 => ?_)
    obtain ⟨e_, rfl⟩ := h11
    replace e_ := e_.symm
    subst e_
    refine gJ_istore (lv2 := [(4, _), (3, _), (0, _), (1, _), (2, _)]) dX10_readMatcher_14 rfl rfl ?_
    refine gJ_iload dX10_readMatcher_16 rfl ?_
    refine gJ_if_lt (tgt := 31) dX10_readMatcher_18 (by decide) (fun _ => ?_) (fun c_ => by exfalso; exact c_ (by decide))
    refine gJ_aload_n dX10_readMatcher_31 rfl rfl ?_
    refine gJ_iconst (v := 1) dX10_readMatcher_32 (by decide) ?_
    refine gJ_put fX10_22 dX10_readMatcher_33 (by first | with_reducible assumption | with_reducible exact gUp_s | with_reducible exact gUp_n (by with_reducible assumption) (by omega) | exact gUp_n (by assumption) (by omega) | exact gUp_s | assumption) rfl rfl (Nat.le_of_ble_eq_true rfl) ?_
    refine gJ_vret dX10_readMatcher_36 rfl ?_
    refine ⟨?_, rfl⟩
    rw [cMtM, if_pos rfl]
    rfl
  | false =>
    by_cases h33 : zH T t (a, false) = 33
    · have e_ : zMt T t (!r) (a, false) = zMd T t 64 (zL (!r) (zH T t (a + 1, false))) (a + 1) := by rw [zMt, if_neg Bool.false_ne_true, if_pos h33]
      rw [e_]
      rw [decide_eq_true h33, zSk, if_pos h33] at hSk
      have hlt := (zH_lt (s := (a, false)) (by rw [h33]; decide)).1
      show gJ _ _ _ _ _ _ 0 [(0, _), (1, _), (2, _)] [] _
      refine gJ_aload_n dX10_readMatcher_0 rfl rfl ?_
      refine gJ_bipush (v := 33) dX10_readMatcher_1 (by decide) ?_
      refine gJ_callV (As := [_]) b_X10_skip lX10_41 i_X10_skip s_X10_skip dX10_readMatcher_3 (hSk) (by first | with_reducible assumption | with_reducible exact gUp_s | with_reducible exact gUp_n (by with_reducible assumption) (by omega) | exact gUp_n (by assumption) (by omega) | exact gUp_s | assumption) rfl rfl (Nat.le_of_ble_eq_true rfl) rfl (by decide) (fun M3 v_ h3 => ?_)
      obtain ⟨e3, rfl⟩ := h3
      replace e3 := e3.symm
      subst e3
      refine gJ_istore_n (lv2 := [(3, _), (0, _), (1, _), (2, _)]) dX10_readMatcher_6 rfl rfl rfl ?_
      exact gJ_ls (L7 (a + 1) 64 true hlt rfl) ⟨rfl, rfl, rfl, rfl, trivial⟩
    · have e_ : zMt T t (!r) (a, false) = zMd T t 0 (zL (!r) (zH T t (a, false))) a := by rw [zMt, if_neg Bool.false_ne_true, if_neg h33]
      rw [e_]
      rw [decide_eq_false h33, zSk, if_neg h33] at hSk
      show gJ _ _ _ _ _ _ 0 [(0, _), (1, _), (2, _)] [] _
      refine gJ_aload_n dX10_readMatcher_0 rfl rfl ?_
      refine gJ_bipush (v := 33) dX10_readMatcher_1 (by decide) ?_
      refine gJ_callV (As := [_]) b_X10_skip lX10_41 i_X10_skip s_X10_skip dX10_readMatcher_3 (hSk) (by first | with_reducible assumption | with_reducible exact gUp_s | with_reducible exact gUp_n (by with_reducible assumption) (by omega) | exact gUp_n (by assumption) (by omega) | exact gUp_s | assumption) rfl rfl (Nat.le_of_ble_eq_true rfl) rfl (by decide) (fun M3 v_ h3 => ?_)
      obtain ⟨e3, rfl⟩ := h3
      replace e3 := e3.symm
      subst e3
      refine gJ_istore_n (lv2 := [(3, _), (0, _), (1, _), (2, _)]) dX10_readMatcher_6 rfl rfl rfl ?_
      exact gJ_ls (L7 a 0 false ha rfl) ⟨rfl, rfl, rfl, rfl, trivial⟩
end TAPE
