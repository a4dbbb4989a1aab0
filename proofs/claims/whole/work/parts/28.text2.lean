def zL (sev : Bool) (c : Int32) : Nat := if c = 116 then 0 else if c = 104 then 1 else if c = 122 then 2 else if c = 115 ∧ sev = true then 3 else 4
/-- behind a letter -/
def zMd (T : Nat → Int32) (t nt l b : Nat) : Nat × zP := if l = 4 then (0, (b, true)) else (nt + 16 * l + (zDg T t (if l = 1 then 7 else 3) (b + 1, false)).1, (zDg T t (if l = 1 then 7 else 3) (b + 1, false)).2)
def zMt (T : Nat → Int32) (t : Nat) (sev : Bool) (s : zP) : Nat × zP := if s.2 = true then (0, s) else if zH T t s = 33 then zMd T t 64 (zL sev (zH T t (s.1 + 1, false))) (s.1 + 1) else zMd T t 0 (zL sev (zH T t s)) s.1
abbrev zR : Type := Nat × (Nat → Nat) × zP
def zUp (f : Nat → Nat) (n c : Nat) : Nat → Nat := fun i => if i = n then c else f i
def zM1 (T : Nat → Int32) (t : Nat) (sev : Bool) (r : zR) : zR := (r.1 + 1, zUp r.2.1 r.1 (zMt T t sev r.2.2).1, (zMt T t sev r.2.2).2)
def zMsL (T : Nat → Int32) (t : Nat) (sev : Bool) : Nat → zR → zR
  | 0, r => r
  | k + 1, r => if zH T t r.2.2 = 44 then zMsL T t sev k (zM1 T t sev (r.1, r.2.1, (r.2.2.1 + 1, r.2.2.2))) else r
def zMs (T : Nat → Int32) (t : Nat) (sev : Bool) (s : zP) : zR := zMsL T t sev 3 (zM1 T t sev (0, fun _ => 0, s))
theorem zL_4 {sev : Bool} {c : Int32} : zL sev c ≤ 4 := by unfold zL; (repeat' split) <;> omega
theorem zL_n {sev : Bool} {c : Int32} (h : ¬ zL sev c = 4) : ¬ c = -1 := by
  intro e
  subst e
  apply h
  unfold zL
  rw [if_neg (by decide), if_neg (by decide), if_neg (by decide), if_neg (fun h => absurd h.1 (by decide))]
theorem zMt_w {T : Nat → Int32} {t a : Nat} {sev : Bool} : zMt T t sev (a, true) = (0, (a, true)) := if_pos rfl
theorem zMd_le {T : Nat → Int32} {t nt l b : Nat} (h : b ≤ t) (hl : ¬ l = 4 → b < t) : (zMd T t nt l b).2.1 ≤ t := by
  unfold zMd
  split
  · exact h
  · exact zDg_le (hl (by assumption))
theorem zMd_m {T : Nat → Int32} {t nt l b : Nat} (h : nt ≤ 64) (hl : l ≤ 4) : (zMd T t nt l b).1 < 128 := by
  unfold zMd
  split
  · exact (by decide : 0 < 128)
  · have := zDg_m (T := T) (t := t) (m := if l = 1 then 7 else 3) (s := (b + 1, false))
    show nt + 16 * l + _ < 128
    have h7 : (if l = 1 then 7 else 3) ≤ 7 := by split <;> omega
    omega
theorem zMt_le {T : Nat → Int32} {t : Nat} {sev : Bool} {s : zP} (h : s.1 ≤ t) : (zMt T t sev s).2.1 ≤ t := by
  obtain ⟨a, w⟩ := s
  cases w with
  | true => exact h
  | false =>
    unfold zMt
    rw [if_neg Bool.false_ne_true]
    split
    · have h33 : zH T t (a, false) = 33 := by assumption
      refine zMd_le (zH_lt (s := (a, false)) (by rw [h33]; decide)).1 (fun hl => ?_)
      exact (zH_lt (s := (a + 1, false)) (zL_n hl)).1
    · refine zMd_le h (fun hl => ?_)
      exact (zH_lt (s := (a, false)) (zL_n hl)).1
theorem zMt_m {T : Nat → Int32} {t : Nat} {sev : Bool} {s : zP} : (zMt T t sev s).1 < 128 := by
  unfold zMt
  split
  · exact (by decide : 0 < 128)
  · split
    · exact zMd_m (by omega) zL_4
    · exact zMd_m (by omega) zL_4
def zROk (t : Nat) (r : zR) : Prop := r.2.2.1 ≤ t ∧ ∀ i, r.2.1 i < 128
theorem zM1_ok {T : Nat → Int32} {t : Nat} {sev : Bool} {r : zR} (h : zROk t r) : zROk t (zM1 T t sev r) := by
  refine ⟨zMt_le h.1, fun i => ?_⟩
  show (if i = r.1 then _ else _) < 128
  split
  · exact zMt_m
  · exact h.2 i
theorem zMsL_ok {T : Nat → Int32} {t : Nat} {sev : Bool} : ∀ (k : Nat) (r : zR), zROk t r → zROk t (zMsL T t sev k r) ∧ (zMsL T t sev k r).1 ≤ r.1 + k ∧ r.1 ≤ (zMsL T t sev k r).1
  | 0, r, h => ⟨h, Nat.le_refl _, Nat.le_refl _⟩
  | k + 1, r, h => by
    rw [zMsL]
    split
    · have h44 : zH T t r.2.2 = 44 := by assumption
      have hlt := (zH_lt (s := r.2.2) (by rw [h44]; decide)).1
      obtain ⟨h1, h2, h3⟩ := zMsL_ok (sev := sev) (T := T) k (zM1 T t sev (r.1, r.2.1, (r.2.2.1 + 1, r.2.2.2))) (zM1_ok ⟨hlt, h.2⟩)
      have h4 : (zM1 T t sev (r.1, r.2.1, (r.2.2.1 + 1, r.2.2.2))).1 = r.1 + 1 := rfl
      exact ⟨h1, by omega, by omega⟩
    · exact ⟨h, by omega, by omega⟩
theorem zMs_ok {T : Nat → Int32} {t : Nat} {sev : Bool} {s : zP} (h : s.1 ≤ t) : zROk t (zMs T t sev s) ∧ (zMs T t sev s).1 ≤ 4 ∧ 1 ≤ (zMs T t sev s).1 := by
  obtain ⟨h1, h2, h3⟩ := zMsL_ok (T := T) (t := t) (sev := sev) 3 (zM1 T t sev (0, fun _ => 0, s)) (zM1_ok ⟨h, fun _ => (by decide : 0 < 128)⟩)
  exact ⟨h1, h2, h3⟩
theorem zMsL_n {T : Nat → Int32} {t : Nat} {sev : Bool} {k : Nat} {r : zR} (h : ¬ zH T t r.2.2 = 44) : zMsL T t sev k r = r := by
  cases k with
  | zero => rfl
  | succ k => rw [zMsL, if_neg h]
theorem zMs_w {T : Nat → Int32} {t a : Nat} {sev : Bool} : (zMs T t sev (a, true)).2.2 = (a, true) := by
  have h : (zM1 T t sev (0, fun _ => 0, (a, true))).2.2 = (a, true) := by show (zMt T t sev (a, true)).2 = _; rw [zMt_w]
  rw [zMs, zMsL_n (by rw [h, zH_w]; decide), h]
/-- the codes as they are laid -/
def zLay (to n : Nat) (f : Nat → Nat) (F : Nat → Int32) : Nat → Int32 := fun i => if to + 1 ≤ i ∧ i < to + 1 + n then nI (f (i - (to + 1))) else F i
theorem zLay_0 {to : Nat} {f : Nat → Nat} {F : Nat → Int32} : zLay to 0 f F = F := by
  funext i
  exact if_neg (by omega)
theorem zLay_up {to n c : Nat} {f : Nat → Nat} {F : Nat → Int32} : upd (zLay to n f F) (to + 1 + n) (nI c) = zLay to (n + 1) (zUp f n c) F := by
  funext i
  simp only [upd, zLay, zUp]
  by_cases h : i = to + 1 + n
  · subst h
    rw [if_pos rfl, if_pos (by omega), if_pos (by omega)]
  · rw [if_neg h]
    by_cases h2 : to + 1 ≤ i ∧ i < to + 1 + n
    · rw [if_pos h2, if_pos (by omega), if_neg (by omega)]
    · rw [if_neg h2, if_neg (by omega)]
def zU (m : Nat) (M : gM) (hi : Int32) (t : Nat) (s : zP) (F : Nat → Int32) : gM := gUp (gUp M m (mO m hi (nI t) (nI s.1) (gb s.2))) (m + 8) (gI 12 F)
section MODEL
variable {G : gG} {M : gM} {m : Nat} {hi : Int32} {T : Nat → Int32} {t : Nat} {s s2 : zP} {F F2 : Nat → Int32}
theorem zU_o : (zU m M hi t s F).1 m = some (mO m hi (nI t) (nI s.1) (gb s.2)) := gUp_n gUp_s (by omega)
theorem zU_F : (zU m M hi t s F).1 (m + 8) = some (gI 12 F) := gUp_s
theorem zU_n {q : Nat} {x : Option gE} (h : M.1 q = x) (h1 : q ≠ m) (h2 : q ≠ m + 8) : (zU m M hi t s F).1 q = x := gUp_n (gUp_n h h1) h2
theorem zU_o2 : gUp (zU m M hi t s F) m (mO m hi (nI t) (nI s2.1) (gb s2.2)) = zU m M hi t s2 F := by
  unfold zU
  rw [gUp_cm (a := m + 8) (b := m) (by omega), gUp_up]
theorem zU_go {k : gMd} {d nc ns pc : Nat} {lv : List (Nat × Value)} {st : List Value} {Q : gP} (kk : gJ G k d nc ns (zU m M hi t s2 F) pc lv st Q) : gJ G k d nc ns (gUp (zU m M hi t s F) m (mO m hi (nI t) (nI s2.1) (gb s2.2))) pc lv st Q := by
  rw [zU_o2]
  exact kk
theorem zU_F2 : gUp (zU m M hi t s F) (m + 8) (gI 12 F2) = zU m M hi t s F2 := gUp_up
set_option maxRecDepth 20000 in
theorem c12_matcher (ht : t ≤ 60) (hB : zB T) (hT : M.1 (m + 7) = some (gI 60 T)) (a : Nat) (ha : a ≤ t) (hm : M.1 m = some (mO m hi (nI t) (nI a) 0)) (sev : Bool) : gCon G kX12_matcher 2 0 0 M [.ref m, .int (gb sev)] (fun M2 v => M2 = gUp M m (mO m hi (nI t) (nI (zMt T t sev (a, false)).2.1) (gb (zMt T t sev (a, false)).2.2)) ∧ v = some (.int (nI (zMt T t sev (a, false)).1))) := by
  refine gCon_of (by decide) (Nat.le_of_ble_eq_true rfl) ?_
  have L84 : ∀ (b nt l : Nat) (c : Int32), b ≤ 60 → l ≤ 4 → (¬ l = 4 → b < t) → gJ G kX12_matcher 2 0 0 (gUp M m (mO m hi (nI t) (nI b) 0)) 84 [(3, .int c), (2, .int (nI nt)), (0, .ref m), (1, .int (gb sev))] [.int (if l = 4 then -1 else nI l)] (gQ kX12_matcher (fun M2 v => M2 = gUp M m (mO m hi (nI t) (nI (zMd T t nt l b).2.1) (gb (zMd T t nt l b).2.2)) ∧ v = some (.int (nI (zMd T t nt l b).1)))) := by
    intro b nt l c hb hl hbt
    by_cases h4 : l = 4
    · rw [if_pos h4, zMd, if_pos h4]
      refine gJ_istore (lv2 := [(4, _), (3, _), (2, _), (0, _), (1, _)]) dX12_matcher_84 rfl rfl ?_
      refine gJ_aload_n dX12_matcher_86 rfl rfl ?_
      refine gJ_dup dX12_matcher_87 rfl ?_
      refine gJ_get fX12_46 dX12_matcher_88 (by first | with_reducible assumption | with_reducible exact gUp_s | with_reducible exact gUp_n (by with_reducible assumption) (by omega) | exact gUp_n (by assumption) (by omega) | exact gUp_s | assumption) rfl ?_
      refine gJ_iload dX12_matcher_91 rfl ?_
      refine gJ_if_ge (tgt := 100) dX12_matcher_93 (by decide) (fun c_ => by exfalso; exact absurd c_ (by decide)) (fun _ => ?_)
      refine gJ_iconst (v := 1) dX12_matcher_96 (by decide) ?_
      refine gJ_goto (tgt := 101) dX12_matcher_97 (by decide) ?_
      refine gJ_ior dX12_matcher_101 ?_
      rw [show (0 : Int32) ||| 1 = gb true from by decide]
      refine gJ_put fX12_46 dX12_matcher_102 (by first | with_reducible assumption | with_reducible exact gUp_s | with_reducible exact gUp_n (by with_reducible assumption) (by omega) | exact gUp_n (by assumption) (by omega) | exact gUp_s | assumption) (by rcases (gb01 _) with h_ | h_ <;> rw [h_] <;> rfl) rfl (Nat.le_of_ble_eq_true rfl) ?_
      refine gJ_aload_n dX12_matcher_105 rfl rfl ?_
      refine gJ_get fX12_46 dX12_matcher_106 (by first | with_reducible assumption | with_reducible exact gUp_s | with_reducible exact gUp_n (by with_reducible assumption) (by omega) | exact gUp_n (by assumption) (by omega) | exact gUp_s | assumption) rfl ?_
      refine gJ_if_eqB (tgt := 114) dX12_matcher_109 (by decide) (fun c_ => by exfalso; cases c_) (fun _ => ?_)
      refine gJ_iconst (v := 0) dX12_matcher_112 (by decide) ?_
      refine gJ_iret dX12_matcher_113 rfl ?_
      rw [gUp_up]
      exact ⟨rfl, rfl⟩
    · rw [if_neg h4, zMd, if_neg h4]
      have hb2 := hbt h4
      refine gJ_istore (lv2 := [(4, _), (3, _), (2, _), (0, _), (1, _)]) dX12_matcher_84 rfl rfl ?_
      refine gJ_aload_n dX12_matcher_86 rfl rfl ?_
      refine gJ_dup dX12_matcher_87 rfl ?_
      refine gJ_get fX12_46 dX12_matcher_88 (by first | with_reducible assumption | with_reducible exact gUp_s | with_reducible exact gUp_n (by with_reducible assumption) (by omega) | exact gUp_n (by assumption) (by omega) | exact gUp_s | assumption) rfl ?_
      refine gJ_iload dX12_matcher_91 rfl ?_
      refine gJ_if_geN (tgt := 100) (a := l) (by first | with_reducible rfl | rfl) (by omega) dX12_matcher_93 (by decide) (fun _ => ?_) (fun c_ => by exfalso; omega)
      refine gJ_iconst (v := 0) dX12_matcher_100 (by decide) ?_
      refine gJ_ior dX12_matcher_101 ?_
      rw [show (0 : Int32) ||| 0 = gb false from by decide]
      refine gJ_put fX12_46 dX12_matcher_102 (by first | with_reducible assumption | with_reducible exact gUp_s | with_reducible exact gUp_n (by with_reducible assumption) (by omega) | exact gUp_n (by assumption) (by omega) | exact gUp_s | assumption) (by rcases (gb01 _) with h_ | h_ <;> rw [h_] <;> rfl) rfl (Nat.le_of_ble_eq_true rfl) ?_
      refine gJ_aload_n dX12_matcher_105 rfl rfl ?_
      refine gJ_get fX12_46 dX12_matcher_106 (by first | with_reducible assumption | with_reducible exact gUp_s | with_reducible exact gUp_n (by with_reducible assumption) (by omega) | exact gUp_n (by assumption) (by omega) | exact gUp_s | assumption) rfl ?_
      refine gJ_if_eqB (tgt := 114) dX12_matcher_109 (by decide) (fun _ => ?_) (fun c_ => by exfalso; cases c_)
      refine gJ_aload_n dX12_matcher_114 rfl rfl ?_
      refine gJ_dup dX12_matcher_115 rfl ?_
      refine gJ_get fX12_43 dX12_matcher_116 (by first | with_reducible assumption | with_reducible exact gUp_s | with_reducible exact gUp_n (by with_reducible assumption) (by omega) | exact gUp_n (by assumption) (by omega) | exact gUp_s | assumption) rfl ?_
      refine gJ_iconst (v := 1) dX12_matcher_119 (by decide) ?_
      refine gJ_iaddN (a := b) (b := 1) dX12_matcher_120 (by first | with_reducible rfl | rfl) (by first | with_reducible rfl | rfl) ?_
      refine gJ_put fX12_43 dX12_matcher_121 (by first | with_reducible assumption | with_reducible exact gUp_s | with_reducible exact gUp_n (by with_reducible assumption) (by omega) | exact gUp_n (by assumption) (by omega) | exact gUp_s | assumption) rfl rfl (Nat.le_of_ble_eq_true rfl) ?_
      refine gJ_iload_n dX12_matcher_124 rfl rfl ?_
      refine gJ_bipush (v := 16) dX12_matcher_125 (by decide) ?_
      refine gJ_iload dX12_matcher_127 rfl ?_
      refine gJ_imulN (a := 16) (b := l) dX12_matcher_129 (by first | with_reducible rfl | rfl) (by first | with_reducible rfl | rfl) ?_
      refine gJ_iaddN (a := nt) (b := (16 * l)) dX12_matcher_130 (by first | with_reducible rfl | rfl) (by first | with_reducible rfl | rfl) ?_
      refine gJ_aload_n dX12_matcher_131 rfl rfl ?_
      refine gJ_iload dX12_matcher_132 rfl ?_
      refine gJ_iconst (v := 1) dX12_matcher_134 (by decide) ?_
      refine gJ_icmp_neN (tgt := 143) (a := l) (b := 1) (by first | with_reducible rfl | rfl) (by first | with_reducible rfl | rfl) (by omega) (by omega) dX12_matcher_135 (by decide) (fun c135 => ?_) (fun c135 => ?_)
      · refine gJ_iconst (v := 3) dX12_matcher_143 (by decide) ?_
        refine gJ_callV (As := [_]) b_X12_digit lX12_54 i_X12_digit s_X12_digit dX12_matcher_144 (c12_digit ht hB (by rw [gUp_up, gUp_up]; exact gUp_n hT (by omega)) (b + 1) (by omega) gUp_s 3 (by decide)) gUp_s rfl rfl (Nat.le_of_ble_eq_true rfl) rfl (by decide) (fun M144 v_ h144 => ?_)
        obtain ⟨e144, rfl⟩ := h144
        replace e144 := e144.symm
        rw [gUp_up, gUp_up, gUp_up] at e144
        subst e144
        refine gJ_iaddN (a := (nt + (16 * l))) (b := (zDg T t 3 (b + 1, false)).1) dX12_matcher_147 (by first | with_reducible rfl | rfl) (by first | with_reducible rfl | rfl) ?_
        refine gJ_iret dX12_matcher_148 rfl ?_
        rw [if_neg c135]
        exact ⟨rfl, rfl⟩
      · refine gJ_bipush (v := 7) dX12_matcher_138 (by decide) ?_
        refine gJ_goto (tgt := 144) dX12_matcher_140 (by decide) ?_
        refine gJ_callV (As := [_]) b_X12_digit lX12_54 i_X12_digit s_X12_digit dX12_matcher_144 (c12_digit ht hB (by rw [gUp_up, gUp_up]; exact gUp_n hT (by omega)) (b + 1) (by omega) gUp_s 7 (by decide)) gUp_s rfl rfl (Nat.le_of_ble_eq_true rfl) rfl (by decide) (fun M144 v_ h144 => ?_)
        obtain ⟨e144, rfl⟩ := h144
        replace e144 := e144.symm
        rw [gUp_up, gUp_up, gUp_up] at e144
        subst e144
        refine gJ_iaddN (a := (nt + (16 * l))) (b := (zDg T t 7 (b + 1, false)).1) dX12_matcher_147 (by first | with_reducible rfl | rfl) (by first | with_reducible rfl | rfl) ?_
        refine gJ_iret dX12_matcher_148 rfl ?_
        rw [if_pos c135]
        exact ⟨rfl, rfl⟩
  have L39 : ∀ (b nt : Nat) (c : Int32), b ≤ 60 → (¬ zL sev c = 4 → b < t) → gJ G kX12_matcher 2 0 0 (gUp M m (mO m hi (nI t) (nI b) 0)) 39 [(3, .int c), (2, .int (nI nt)), (0, .ref m), (1, .int (gb sev))] [] (gQ kX12_matcher (fun M2 v => M2 = gUp M m (mO m hi (nI t) (nI (zMd T t nt (zL sev c) b).2.1) (gb (zMd T t nt (zL sev c) b).2.2)) ∧ v = some (.int (nI (zMd T t nt (zL sev c) b).1)))) := by
    intro b nt c hb hbt
    have L := L84 b nt (zL sev c) c hb zL_4 hbt
    refine gJ_iload_n dX12_matcher_39 rfl rfl ?_
    refine gJ_bipush (v := 116) dX12_matcher_40 (by decide) ?_
    refine gJ_icmp_ne (tgt := 49) dX12_matcher_42 (by decide) (fun c42 => ?_) (fun c42 => ?_)
    · refine gJ_iload_n dX12_matcher_49 rfl rfl ?_
      refine gJ_bipush (v := 104) dX12_matcher_50 (by decide) ?_
      refine gJ_icmp_ne (tgt := 59) dX12_matcher_52 (by decide) (fun c52 => ?_) (fun c52 => ?_)
      · refine gJ_iload_n dX12_matcher_59 rfl rfl ?_
        refine gJ_bipush (v := 122) dX12_matcher_60 (by decide) ?_
        refine gJ_icmp_ne (tgt := 69) dX12_matcher_62 (by decide) (fun c62 => ?_) (fun c62 => ?_)
        · refine gJ_iload_n dX12_matcher_69 rfl rfl ?_
          refine gJ_bipush (v := 115) dX12_matcher_70 (by decide) ?_
          refine gJ_icmp_ne (tgt := 83) dX12_matcher_72 (by decide) (fun c72 => ?_) (fun c72 => ?_)
          · refine gJ_iconst (v := -1) dX12_matcher_83 (by decide) ?_
            have e_ : zL sev c = 4 := by unfold zL; rw [if_neg c42, if_neg c52, if_neg c62, if_neg (fun h => c72 h.1)]
            rw [e_] at L ⊢
            exact L
          · refine gJ_iload_n dX12_matcher_75 rfl rfl ?_
            refine gJ_if_eqB (tgt := 83) dX12_matcher_76 (by decide) (fun c76 => ?_) (fun c76 => ?_)
            · refine gJ_iconst (v := -1) dX12_matcher_83 (by decide) ?_
              have e_ : zL sev c = 4 := by unfold zL; rw [if_neg c42, if_neg c52, if_neg c62, if_neg (fun h => by rw [c76] at h; cases h.2)]
              rw [e_] at L ⊢
              exact L
            · refine gJ_iconst (v := 3) dX12_matcher_79 (by decide) ?_
              refine gJ_goto (tgt := 84) dX12_matcher_80 (by decide) ?_
              have e_ : zL sev c = 3 := by unfold zL; rw [if_neg c42, if_neg c52, if_neg c62, if_pos ⟨c72, c76⟩]
              rw [e_] at L ⊢
              exact L
        · refine gJ_iconst (v := 2) dX12_matcher_65 (by decide) ?_
          refine gJ_goto (tgt := 84) dX12_matcher_66 (by decide) ?_
          have e_ : zL sev c = 2 := by unfold zL; rw [if_neg c42, if_neg c52, if_pos c62]
          rw [e_] at L ⊢
          exact L
      · refine gJ_iconst (v := 1) dX12_matcher_55 (by decide) ?_
        refine gJ_goto (tgt := 84) dX12_matcher_56 (by decide) ?_
        have e_ : zL sev c = 1 := by unfold zL; rw [if_neg c42, if_pos c52]
        rw [e_] at L ⊢
        exact L
    · refine gJ_iconst (v := 0) dX12_matcher_45 (by decide) ?_
      refine gJ_goto (tgt := 84) dX12_matcher_46 (by decide) ?_
      have e_ : zL sev c = 0 := by unfold zL; rw [if_pos c42]
      rw [e_] at L ⊢
      exact L
  show gJ _ _ _ _ _ _ 0 [(0, _), (1, _)] [] _
  refine gJ_aload_n dX12_matcher_0 rfl rfl ?_
  refine gJ_callV (As := []) b_X12_here lX12_50 i_X12_here s_X12_here dX12_matcher_1 (c12_here ht hT a (by omega) 0 hm) (by first | with_reducible assumption | with_reducible exact gUp_s | with_reducible exact gUp_n (by with_reducible assumption) (by omega) | exact gUp_n (by assumption) (by omega) | exact gUp_s | assumption) rfl rfl (Nat.le_of_ble_eq_true rfl) rfl (by decide) (fun M1 v_ h1 => ?_)
  obtain ⟨e1, rfl⟩ := h1
  replace e1 := e1.symm
  subst e1
  refine gJ_bipush (v := 33) dX12_matcher_4 (by decide) ?_
  refine gJ_icmp_ne (tgt := 14) dX12_matcher_6 (by decide) (fun c6 => ?_) (fun c6 => ?_)
  · refine gJ_iconst (v := 0) dX12_matcher_14 (by decide) ?_
    refine gJ_istore_n (lv2 := [(2, _), (0, _), (1, _)]) dX12_matcher_15 rfl rfl rfl ?_
    refine gJ_aload_n dX12_matcher_16 rfl rfl ?_
    refine gJ_dup dX12_matcher_17 rfl ?_
    refine gJ_get fX12_43 dX12_matcher_18 (by first | with_reducible assumption | with_reducible exact gUp_s | with_reducible exact gUp_n (by with_reducible assumption) (by omega) | exact gUp_n (by assumption) (by omega) | exact gUp_s | assumption) rfl ?_
    refine gJ_iload_n dX12_matcher_21 rfl rfl ?_
    refine gJ_if_leN (tgt := 29) (a := 0) (by first | with_reducible rfl | rfl) (by omega) dX12_matcher_22 (by decide) (fun _ => ?_) (fun c_ => by exfalso; omega)
    refine gJ_iconst (v := 0) dX12_matcher_29 (by decide) ?_
    refine gJ_iaddN (a := a) (b := 0) dX12_matcher_30 (by first | with_reducible rfl | rfl) (by first | with_reducible rfl | rfl) ?_
    refine gJ_put fX12_43 dX12_matcher_31 (by first | with_reducible assumption | with_reducible exact gUp_s | with_reducible exact gUp_n (by with_reducible assumption) (by omega) | exact gUp_n (by assumption) (by omega) | exact gUp_s | assumption) rfl rfl (Nat.le_of_ble_eq_true rfl) ?_
    refine gJ_aload_n dX12_matcher_34 rfl rfl ?_
    refine gJ_callV (As := []) b_X12_here lX12_50 i_X12_here s_X12_here dX12_matcher_35 (c12_here ht (gUp_n hT (by omega)) (a + 0) (by omega) 0 gUp_s) (by first | with_reducible assumption | with_reducible exact gUp_s | with_reducible exact gUp_n (by with_reducible assumption) (by omega) | exact gUp_n (by assumption) (by omega) | exact gUp_s | assumption) rfl rfl (Nat.le_of_ble_eq_true rfl) rfl (by decide) (fun M35 v_ h35 => ?_)
    obtain ⟨e35, rfl⟩ := h35
    replace e35 := e35.symm
    subst e35
    refine gJ_istore_n (lv2 := [(3, _), (2, _), (0, _), (1, _)]) dX12_matcher_38 rfl rfl rfl ?_
    have e_ : zMt T t sev (a, false) = zMd T t 0 (zL sev (zH T t (a, false))) a := by rw [zMt, if_neg Bool.false_ne_true, if_neg c6]
    rw [e_]
    exact gJ_ls (L39 a 0 (zH T t (a, false)) (by omega) (fun h => (zH_lt (s := (a, false)) (zL_n h)).1)) ⟨rfl, rfl, rfl, rfl, trivial⟩
  · refine gJ_bipush (v := 64) dX12_matcher_9 (by decide) ?_
    refine gJ_goto (tgt := 15) dX12_matcher_11 (by decide) ?_
    refine gJ_istore_n (lv2 := [(2, _), (0, _), (1, _)]) dX12_matcher_15 rfl rfl rfl ?_
    refine gJ_aload_n dX12_matcher_16 rfl rfl ?_
    refine gJ_dup dX12_matcher_17 rfl ?_
    refine gJ_get fX12_43 dX12_matcher_18 (by first | with_reducible assumption | with_reducible exact gUp_s | with_reducible exact gUp_n (by with_reducible assumption) (by omega) | exact gUp_n (by assumption) (by omega) | exact gUp_s | assumption) rfl ?_
    refine gJ_iload_n dX12_matcher_21 rfl rfl ?_
    refine gJ_if_leN (tgt := 29) (a := 64) (by first | with_reducible rfl | rfl) (by omega) dX12_matcher_22 (by decide) (fun c_ => by exfalso; omega) (fun _ => ?_)
    refine gJ_iconst (v := 1) dX12_matcher_25 (by decide) ?_
    refine gJ_goto (tgt := 30) dX12_matcher_26 (by decide) ?_
    refine gJ_iaddN (a := a) (b := 1) dX12_matcher_30 (by first | with_reducible rfl | rfl) (by first | with_reducible rfl | rfl) ?_
    refine gJ_put fX12_43 dX12_matcher_31 (by first | with_reducible assumption | with_reducible exact gUp_s | with_reducible exact gUp_n (by with_reducible assumption) (by omega) | exact gUp_n (by assumption) (by omega) | exact gUp_s | assumption) rfl rfl (Nat.le_of_ble_eq_true rfl) ?_
    refine gJ_aload_n dX12_matcher_34 rfl rfl ?_
    refine gJ_callV (As := []) b_X12_here lX12_50 i_X12_here s_X12_here dX12_matcher_35 (c12_here ht (gUp_n hT (by omega)) (a + 1) (by have := (zH_lt (s := (a, false)) (by rw [c6]; decide)).1; omega) 0 gUp_s) (by first | with_reducible assumption | with_reducible exact gUp_s | with_reducible exact gUp_n (by with_reducible assumption) (by omega) | exact gUp_n (by assumption) (by omega) | exact gUp_s | assumption) rfl rfl (Nat.le_of_ble_eq_true rfl) rfl (by decide) (fun M35 v_ h35 => ?_)
    obtain ⟨e35, rfl⟩ := h35
    replace e35 := e35.symm
    subst e35
    refine gJ_istore_n (lv2 := [(3, _), (2, _), (0, _), (1, _)]) dX12_matcher_38 rfl rfl rfl ?_
    have e_ : zMt T t sev (a, false) = zMd T t 64 (zL sev (zH T t (a + 1, false))) (a + 1) := by rw [zMt, if_neg Bool.false_ne_true, if_pos c6]
    rw [e_]
    have h33 := (zH_lt (s := (a, false)) (by rw [c6]; decide)).1
    exact gJ_ls (L39 (a + 1) 64 (zH T t (a + 1, false)) (by omega) (fun h => (zH_lt (s := (a + 1, false)) (zL_n h)).1)) ⟨rfl, rfl, rfl, rfl, trivial⟩
set_option maxRecDepth 20000 in
theorem c12_matchers (ht : t ≤ 60) (hB : zB T) (hT : M.1 (m + 7) = some (gI 60 T)) (a : Nat) (ha : a ≤ t) (sev : Bool) (to : Nat) (hto : to ≤ 7) : gCon G kX12_matchers 3 0 0 (zU m M hi t (a, false) F) [.ref m, .int (nI to), .int (gb sev)] (fun M2 v => M2 = zU m M hi t (zMs T t sev (a, false)).2.2 (upd (zLay to (zMs T t sev (a, false)).1 (zMs T t sev (a, false)).2.1 F) to (nI (zMs T t sev (a, false)).1)) ∧ v = none) := by
  refine gCon_of (by decide) (Nat.le_of_ble_eq_true rfl) ?_
  have L0 : ∀ (n : Nat) (s : zP) (F2 : Nat → Int32) (Q : gPq), Q (zU m M hi t s (upd F2 to (nI n))) none → gJ G kX12_matchers 3 0 0 (zU m M hi t s F2) 5 [(4, .int (nI 0)), (3, .int (nI n)), (0, .ref m), (1, .int (nI to)), (2, .int (gb sev))] [] (gQ kX12_matchers Q) := by
    intro n s F2 Q hQ
    refine gJ_iload dX12_matchers_5 rfl ?_
    refine gJ_if_eqN (tgt := 78) (a := 0) (by first | with_reducible rfl | rfl) (by omega) dX12_matchers_7 (by decide) (fun _ => ?_) (fun c_ => by exfalso; omega)
    refine gJ_aload_n dX12_matchers_78 rfl rfl ?_
    refine gJ_get fX12_32 dX12_matchers_79 (by first | with_reducible assumption | exact zU_o | exact zU_F) rfl ?_
    refine gJ_iload_n dX12_matchers_82 rfl rfl ?_
    refine gJ_iload_n dX12_matchers_83 rfl rfl ?_
    refine gJ_iastN (j := to) dX12_matchers_84 (by first | with_reducible assumption | exact zU_o | exact zU_F) (by first | with_reducible rfl | rfl) (by omega) (by decide) ?_
    try rw [gUp_up]
    rw [zU_F2]
    refine gJ_vret dX12_matchers_85 rfl ?_
    exact hQ
  have loop : ∀ (R : zR) (k n : Nat) (f : Nat → Nat) (a : Nat), n + k = 3 → a ≤ t → zMsL T t sev k (zM1 T t sev (n, f, (a, false))) = R →
      gJ G kX12_matchers 3 0 0 (zU m M hi t (a, false) (zLay to n f F)) 5 [(4, .int (nI 1)), (3, .int (nI n)), (0, .ref m), (1, .int (nI to)), (2, .int (gb sev))] [] (gQ kX12_matchers (fun M2 v => M2 = zU m M hi t R.2.2 (upd (zLay to R.1 R.2.1 F) to (nI R.1)) ∧ v = none)) := by
    intro R k
    induction k with
    | zero =>
      intro n f a hn ha hr
      have hC := c12_matcher (G := G) (M := zU m M hi t (a, false) (zLay to n f F)) ht hB (zU_n hT (by omega) (by omega)) a ha zU_o sev
      rw [show zM1 T t sev (n, f, (a, false)) = (n + 1, zUp f n (zMt T t sev (a, false)).1, (zMt T t sev (a, false)).2) from rfl] at hr
      generalize zMt T t sev (a, false) = z at hr hC
      obtain ⟨z1, b, w⟩ := z
      rw [zMsL] at hr
      subst hr
      cases w with
      | true =>
        refine gJ_iload dX12_matchers_5 rfl ?_
        refine gJ_if_eqN (tgt := 78) (a := 1) (by first | with_reducible rfl | rfl) (by omega) dX12_matchers_7 (by decide) (fun c_ => by exfalso; omega) (fun _ => ?_)
        refine gJ_aload_n dX12_matchers_10 rfl rfl ?_
        refine gJ_get fX12_32 dX12_matchers_11 (by first | with_reducible assumption | exact zU_o | exact zU_F) rfl ?_
        refine gJ_iload_n dX12_matchers_14 rfl rfl ?_
        refine gJ_iconst (v := 1) dX12_matchers_15 (by decide) ?_
        refine gJ_iaddN (a := to) (b := 1) dX12_matchers_16 (by first | with_reducible rfl | rfl) (by first | with_reducible rfl | rfl) ?_
        refine gJ_iload_n dX12_matchers_17 rfl rfl ?_
        refine gJ_iaddN (a := (to + 1)) (b := n) dX12_matchers_18 (by first | with_reducible rfl | rfl) (by first | with_reducible rfl | rfl) ?_
        refine gJ_aload_n dX12_matchers_19 rfl rfl ?_
        refine gJ_iload_n dX12_matchers_20 rfl rfl ?_
        refine gJ_callV (As := [_]) b_X12_matcher lX12_58 i_X12_matcher s_X12_matcher dX12_matchers_21 (hC) zU_o rfl rfl (Nat.le_of_ble_eq_true rfl) rfl (by decide) (fun M21 v_ h21 => ?_)
        obtain ⟨e21, rfl⟩ := h21
        replace e21 := e21.symm
        rw [zU_o2 (s2 := (b, true))] at e21
        subst e21
        refine gJ_iastN (j := ((to + 1) + n)) dX12_matchers_24 (by first | with_reducible assumption | exact zU_o | exact zU_F) (by first | with_reducible rfl | rfl) (by omega) (by decide) ?_
        try rw [gUp_up]
        rw [zU_F2, zLay_up]
        refine gJ_iincN (a := n) (b := 1) (lv2 := [(3, _), (4, _), (0, _), (1, _), (2, _)]) dX12_matchers_25 rfl rfl rfl rfl ?_
        refine gJ_aload_n dX12_matchers_28 rfl rfl ?_
        refine gJ_get fX12_46 dX12_matchers_29 (by first | with_reducible assumption | exact zU_o | exact zU_F) rfl ?_
        refine gJ_if_neB (tgt := 53) dX12_matchers_32 (by decide) (fun _ => ?_) (fun c_ => by exfalso; cases c_)
        refine gJ_iconst (v := 0) dX12_matchers_53 (by decide) ?_
        refine gJ_istore (lv2 := [(4, _), (3, _), (0, _), (1, _), (2, _)]) dX12_matchers_54 rfl rfl ?_
        refine gJ_aload_n dX12_matchers_56 rfl rfl ?_
        refine gJ_dup dX12_matchers_57 rfl ?_
        refine gJ_get fX12_43 dX12_matchers_58 (by first | with_reducible assumption | exact zU_o | exact zU_F) rfl ?_
        refine gJ_iload dX12_matchers_61 rfl ?_
        refine gJ_if_eqN (tgt := 70) (a := 0) (by first | with_reducible rfl | rfl) (by omega) dX12_matchers_63 (by decide) (fun _ => ?_) (fun c_ => by exfalso; omega)
        refine gJ_iconst (v := 0) dX12_matchers_70 (by decide) ?_
        refine gJ_iaddN (a := b) (b := 0) dX12_matchers_71 (by first | with_reducible rfl | rfl) (by first | with_reducible rfl | rfl) ?_
        refine gJ_put fX12_43 dX12_matchers_72 (by first | with_reducible assumption | exact zU_o | exact zU_F) rfl rfl (Nat.le_of_ble_eq_true rfl) ?_
        refine zU_go (s2 := (b, true)) ?_
        refine gJ_goto (tgt := 5) dX12_matchers_75 (by decide) ?_
        exact gJ_ls (L0 _ _ _ _ ⟨rfl, rfl⟩) ⟨rfl, rfl, rfl, rfl, rfl, trivial⟩
      | false =>
        refine gJ_iload dX12_matchers_5 rfl ?_
        refine gJ_if_eqN (tgt := 78) (a := 1) (by first | with_reducible rfl | rfl) (by omega) dX12_matchers_7 (by decide) (fun c_ => by exfalso; omega) (fun _ => ?_)
        refine gJ_aload_n dX12_matchers_10 rfl rfl ?_
        refine gJ_get fX12_32 dX12_matchers_11 (by first | with_reducible assumption | exact zU_o | exact zU_F) rfl ?_
        refine gJ_iload_n dX12_matchers_14 rfl rfl ?_
        refine gJ_iconst (v := 1) dX12_matchers_15 (by decide) ?_
        refine gJ_iaddN (a := to) (b := 1) dX12_matchers_16 (by first | with_reducible rfl | rfl) (by first | with_reducible rfl | rfl) ?_
        refine gJ_iload_n dX12_matchers_17 rfl rfl ?_
        refine gJ_iaddN (a := (to + 1)) (b := n) dX12_matchers_18 (by first | with_reducible rfl | rfl) (by first | with_reducible rfl | rfl) ?_
        refine gJ_aload_n dX12_matchers_19 rfl rfl ?_
        refine gJ_iload_n dX12_matchers_20 rfl rfl ?_
        refine gJ_callV (As := [_]) b_X12_matcher lX12_58 i_X12_matcher s_X12_matcher dX12_matchers_21 (hC) zU_o rfl rfl (Nat.le_of_ble_eq_true rfl) rfl (by decide) (fun M21 v_ h21 => ?_)
        obtain ⟨e21, rfl⟩ := h21
        replace e21 := e21.symm
        rw [zU_o2 (s2 := (b, false))] at e21
        subst e21
        refine gJ_iastN (j := ((to + 1) + n)) dX12_matchers_24 (by first | with_reducible assumption | exact zU_o | exact zU_F) (by first | with_reducible rfl | rfl) (by omega) (by decide) ?_
        try rw [gUp_up]
        rw [zU_F2, zLay_up]
        refine gJ_iincN (a := n) (b := 1) (lv2 := [(3, _), (4, _), (0, _), (1, _), (2, _)]) dX12_matchers_25 rfl rfl rfl rfl ?_
        refine gJ_aload_n dX12_matchers_28 rfl rfl ?_
        refine gJ_get fX12_46 dX12_matchers_29 (by first | with_reducible assumption | exact zU_o | exact zU_F) rfl ?_
        refine gJ_if_neB (tgt := 53) dX12_matchers_32 (by decide) (fun c_ => by exfalso; cases c_) (fun _ => ?_)
        refine gJ_iload_n dX12_matchers_35 rfl rfl ?_
        refine gJ_iconst (v := 4) dX12_matchers_36 (by decide) ?_
        refine gJ_icmp_geN (tgt := 53) (a := (n + 1)) (b := 4) (by first | with_reducible rfl | rfl) (by first | with_reducible rfl | rfl) (by omega) (by omega) dX12_matchers_37 (by decide) (fun _ => ?_) (fun c_ => by exfalso; omega)
        refine gJ_iconst (v := 0) dX12_matchers_53 (by decide) ?_
        refine gJ_istore (lv2 := [(4, _), (3, _), (0, _), (1, _), (2, _)]) dX12_matchers_54 rfl rfl ?_
        refine gJ_aload_n dX12_matchers_56 rfl rfl ?_
        refine gJ_dup dX12_matchers_57 rfl ?_
        refine gJ_get fX12_43 dX12_matchers_58 (by first | with_reducible assumption | exact zU_o | exact zU_F) rfl ?_
        refine gJ_iload dX12_matchers_61 rfl ?_
        refine gJ_if_eqN (tgt := 70) (a := 0) (by first | with_reducible rfl | rfl) (by omega) dX12_matchers_63 (by decide) (fun _ => ?_) (fun c_ => by exfalso; omega)
        refine gJ_iconst (v := 0) dX12_matchers_70 (by decide) ?_
        refine gJ_iaddN (a := b) (b := 0) dX12_matchers_71 (by first | with_reducible rfl | rfl) (by first | with_reducible rfl | rfl) ?_
        refine gJ_put fX12_43 dX12_matchers_72 (by first | with_reducible assumption | exact zU_o | exact zU_F) rfl rfl (Nat.le_of_ble_eq_true rfl) ?_
        refine zU_go (s2 := (b, false)) ?_
        refine gJ_goto (tgt := 5) dX12_matchers_75 (by decide) ?_
        exact gJ_ls (L0 _ _ _ _ ⟨rfl, rfl⟩) ⟨rfl, rfl, rfl, rfl, rfl, trivial⟩
    | succ k ih =>
      intro n f a hn ha hr
      have hC := c12_matcher (G := G) (M := zU m M hi t (a, false) (zLay to n f F)) ht hB (zU_n hT (by omega) (by omega)) a ha zU_o sev
      have hle := zMt_le (T := T) (t := t) (sev := sev) (s := (a, false)) ha
      rw [show zM1 T t sev (n, f, (a, false)) = (n + 1, zUp f n (zMt T t sev (a, false)).1, (zMt T t sev (a, false)).2) from rfl] at hr
      generalize zMt T t sev (a, false) = z at hr hC hle
      obtain ⟨z1, b, w⟩ := z
      cases w with
      | true =>
        rw [zMsL_n (by rw [zH_w]; decide)] at hr
        subst hr
        refine gJ_iload dX12_matchers_5 rfl ?_
        refine gJ_if_eqN (tgt := 78) (a := 1) (by first | with_reducible rfl | rfl) (by omega) dX12_matchers_7 (by decide) (fun c_ => by exfalso; omega) (fun _ => ?_)
        refine gJ_aload_n dX12_matchers_10 rfl rfl ?_
        refine gJ_get fX12_32 dX12_matchers_11 (by first | with_reducible assumption | exact zU_o | exact zU_F) rfl ?_
        refine gJ_iload_n dX12_matchers_14 rfl rfl ?_
        refine gJ_iconst (v := 1) dX12_matchers_15 (by decide) ?_
        refine gJ_iaddN (a := to) (b := 1) dX12_matchers_16 (by first | with_reducible rfl | rfl) (by first | with_reducible rfl | rfl) ?_
        refine gJ_iload_n dX12_matchers_17 rfl rfl ?_
        refine gJ_iaddN (a := (to + 1)) (b := n) dX12_matchers_18 (by first | with_reducible rfl | rfl) (by first | with_reducible rfl | rfl) ?_
        refine gJ_aload_n dX12_matchers_19 rfl rfl ?_
        refine gJ_iload_n dX12_matchers_20 rfl rfl ?_
        refine gJ_callV (As := [_]) b_X12_matcher lX12_58 i_X12_matcher s_X12_matcher dX12_matchers_21 (hC) zU_o rfl rfl (Nat.le_of_ble_eq_true rfl) rfl (by decide) (fun M21 v_ h21 => ?_)
        obtain ⟨e21, rfl⟩ := h21
        replace e21 := e21.symm
        rw [zU_o2 (s2 := (b, true))] at e21
        subst e21
        refine gJ_iastN (j := ((to + 1) + n)) dX12_matchers_24 (by first | with_reducible assumption | exact zU_o | exact zU_F) (by first | with_reducible rfl | rfl) (by omega) (by decide) ?_
        try rw [gUp_up]
        rw [zU_F2, zLay_up]
        refine gJ_iincN (a := n) (b := 1) (lv2 := [(3, _), (4, _), (0, _), (1, _), (2, _)]) dX12_matchers_25 rfl rfl rfl rfl ?_
        refine gJ_aload_n dX12_matchers_28 rfl rfl ?_
        refine gJ_get fX12_46 dX12_matchers_29 (by first | with_reducible assumption | exact zU_o | exact zU_F) rfl ?_
        refine gJ_if_neB (tgt := 53) dX12_matchers_32 (by decide) (fun _ => ?_) (fun c_ => by exfalso; cases c_)
        refine gJ_iconst (v := 0) dX12_matchers_53 (by decide) ?_
        refine gJ_istore (lv2 := [(4, _), (3, _), (0, _), (1, _), (2, _)]) dX12_matchers_54 rfl rfl ?_
        refine gJ_aload_n dX12_matchers_56 rfl rfl ?_
        refine gJ_dup dX12_matchers_57 rfl ?_
        refine gJ_get fX12_43 dX12_matchers_58 (by first | with_reducible assumption | exact zU_o | exact zU_F) rfl ?_
        refine gJ_iload dX12_matchers_61 rfl ?_
        refine gJ_if_eqN (tgt := 70) (a := 0) (by first | with_reducible rfl | rfl) (by omega) dX12_matchers_63 (by decide) (fun _ => ?_) (fun c_ => by exfalso; omega)
        refine gJ_iconst (v := 0) dX12_matchers_70 (by decide) ?_
        refine gJ_iaddN (a := b) (b := 0) dX12_matchers_71 (by first | with_reducible rfl | rfl) (by first | with_reducible rfl | rfl) ?_
        refine gJ_put fX12_43 dX12_matchers_72 (by first | with_reducible assumption | exact zU_o | exact zU_F) rfl rfl (Nat.le_of_ble_eq_true rfl) ?_
        refine zU_go (s2 := (b, true)) ?_
        refine gJ_goto (tgt := 5) dX12_matchers_75 (by decide) ?_
        exact gJ_ls (L0 _ _ _ _ ⟨rfl, rfl⟩) ⟨rfl, rfl, rfl, rfl, rfl, trivial⟩
      | false =>
        have hH := c12_here (G := G) (hi := hi) (M := zU m M hi t (b, false) (zLay to (n + 1) (zUp f n z1) F)) ht (zU_n hT (by omega) (by omega)) b (by have : b ≤ t := hle; omega) _ zU_o
        rw [zMsL] at hr
        refine gJ_iload dX12_matchers_5 rfl ?_
        refine gJ_if_eqN (tgt := 78) (a := 1) (by first | with_reducible rfl | rfl) (by omega) dX12_matchers_7 (by decide) (fun c_ => by exfalso; omega) (fun _ => ?_)
        refine gJ_aload_n dX12_matchers_10 rfl rfl ?_
        refine gJ_get fX12_32 dX12_matchers_11 (by first | with_reducible assumption | exact zU_o | exact zU_F) rfl ?_
        refine gJ_iload_n dX12_matchers_14 rfl rfl ?_
        refine gJ_iconst (v := 1) dX12_matchers_15 (by decide) ?_
        refine gJ_iaddN (a := to) (b := 1) dX12_matchers_16 (by first | with_reducible rfl | rfl) (by first | with_reducible rfl | rfl) ?_
        refine gJ_iload_n dX12_matchers_17 rfl rfl ?_
        refine gJ_iaddN (a := (to + 1)) (b := n) dX12_matchers_18 (by first | with_reducible rfl | rfl) (by first | with_reducible rfl | rfl) ?_
        refine gJ_aload_n dX12_matchers_19 rfl rfl ?_
        refine gJ_iload_n dX12_matchers_20 rfl rfl ?_
        refine gJ_callV (As := [_]) b_X12_matcher lX12_58 i_X12_matcher s_X12_matcher dX12_matchers_21 (hC) zU_o rfl rfl (Nat.le_of_ble_eq_true rfl) rfl (by decide) (fun M21 v_ h21 => ?_)
        obtain ⟨e21, rfl⟩ := h21
        replace e21 := e21.symm
        rw [zU_o2 (s2 := (b, false))] at e21
        subst e21
        refine gJ_iastN (j := ((to + 1) + n)) dX12_matchers_24 (by first | with_reducible assumption | exact zU_o | exact zU_F) (by first | with_reducible rfl | rfl) (by omega) (by decide) ?_
        try rw [gUp_up]
        rw [zU_F2, zLay_up]
        refine gJ_iincN (a := n) (b := 1) (lv2 := [(3, _), (4, _), (0, _), (1, _), (2, _)]) dX12_matchers_25 rfl rfl rfl rfl ?_
        refine gJ_aload_n dX12_matchers_28 rfl rfl ?_
        refine gJ_get fX12_46 dX12_matchers_29 (by first | with_reducible assumption | exact zU_o | exact zU_F) rfl ?_
        refine gJ_if_neB (tgt := 53) dX12_matchers_32 (by decide) (fun c_ => by exfalso; cases c_) (fun _ => ?_)
        refine gJ_iload_n dX12_matchers_35 rfl rfl ?_
        refine gJ_iconst (v := 4) dX12_matchers_36 (by decide) ?_
        refine gJ_icmp_geN (tgt := 53) (a := (n + 1)) (b := 4) (by first | with_reducible rfl | rfl) (by first | with_reducible rfl | rfl) (by omega) (by omega) dX12_matchers_37 (by decide) (fun c_ => by exfalso; omega) (fun _ => ?_)
        refine gJ_aload_n dX12_matchers_40 rfl rfl ?_
        refine gJ_callV (As := []) b_X12_here lX12_50 i_X12_here s_X12_here dX12_matchers_41 (hH) zU_o rfl rfl (Nat.le_of_ble_eq_true rfl) rfl (by decide) (fun M41 v_ h41 => ?_)
        obtain ⟨e41, rfl⟩ := h41
        replace e41 := e41.symm
        subst e41
        refine gJ_bipush (v := 44) dX12_matchers_44 (by decide) ?_
        refine gJ_icmp_ne (tgt := 53) dX12_matchers_46 (by decide) (fun c46 => ?_) (fun c46 => ?_)
        · refine gJ_iconst (v := 0) dX12_matchers_53 (by decide) ?_
          refine gJ_istore (lv2 := [(4, _), (3, _), (0, _), (1, _), (2, _)]) dX12_matchers_54 rfl rfl ?_
          refine gJ_aload_n dX12_matchers_56 rfl rfl ?_
          refine gJ_dup dX12_matchers_57 rfl ?_
          refine gJ_get fX12_43 dX12_matchers_58 (by first | with_reducible assumption | exact zU_o | exact zU_F) rfl ?_
          refine gJ_iload dX12_matchers_61 rfl ?_
          refine gJ_if_eqN (tgt := 70) (a := 0) (by first | with_reducible rfl | rfl) (by omega) dX12_matchers_63 (by decide) (fun _ => ?_) (fun c_ => by exfalso; omega)
          refine gJ_iconst (v := 0) dX12_matchers_70 (by decide) ?_
          refine gJ_iaddN (a := b) (b := 0) dX12_matchers_71 (by first | with_reducible rfl | rfl) (by first | with_reducible rfl | rfl) ?_
          refine gJ_put fX12_43 dX12_matchers_72 (by first | with_reducible assumption | exact zU_o | exact zU_F) rfl rfl (Nat.le_of_ble_eq_true rfl) ?_
          refine zU_go (s2 := (b + 0, false)) ?_
          refine gJ_goto (tgt := 5) dX12_matchers_75 (by decide) ?_
          rw [if_neg c46] at hr
          subst hr
          exact gJ_ls (L0 _ _ _ _ ⟨rfl, rfl⟩) ⟨rfl, rfl, rfl, rfl, rfl, trivial⟩
        · refine gJ_iconst (v := 1) dX12_matchers_49 (by decide) ?_
          refine gJ_goto (tgt := 54) dX12_matchers_50 (by decide) ?_
          refine gJ_istore (lv2 := [(4, _), (3, _), (0, _), (1, _), (2, _)]) dX12_matchers_54 rfl rfl ?_
          refine gJ_aload_n dX12_matchers_56 rfl rfl ?_
          refine gJ_dup dX12_matchers_57 rfl ?_
          refine gJ_get fX12_43 dX12_matchers_58 (by first | with_reducible assumption | exact zU_o | exact zU_F) rfl ?_
          refine gJ_iload dX12_matchers_61 rfl ?_
          refine gJ_if_eqN (tgt := 70) (a := 1) (by first | with_reducible rfl | rfl) (by omega) dX12_matchers_63 (by decide) (fun c_ => by exfalso; omega) (fun _ => ?_)
          refine gJ_iconst (v := 1) dX12_matchers_66 (by decide) ?_
          refine gJ_goto (tgt := 71) dX12_matchers_67 (by decide) ?_
          refine gJ_iaddN (a := b) (b := 1) dX12_matchers_71 (by first | with_reducible rfl | rfl) (by first | with_reducible rfl | rfl) ?_
          refine gJ_put fX12_43 dX12_matchers_72 (by first | with_reducible assumption | exact zU_o | exact zU_F) rfl rfl (Nat.le_of_ble_eq_true rfl) ?_
          refine zU_go (s2 := (b + 1, false)) ?_
          refine gJ_goto (tgt := 5) dX12_matchers_75 (by decide) ?_
          rw [if_pos c46] at hr
          exact gJ_ls (ih (n + 1) _ (b + 1) (by omega) (by have := (zH_lt (s := (b, false)) (by rw [c46]; decide)).1; omega) hr) ⟨rfl, rfl, rfl, rfl, rfl, trivial⟩
  show gJ _ _ _ _ _ _ 0 [(0, _), (1, _), (2, _)] [] _
  refine gJ_iconst (v := 0) dX12_matchers_0 (by decide) ?_
  refine gJ_istore_n (lv2 := [(3, _), (0, _), (1, _), (2, _)]) dX12_matchers_1 rfl rfl rfl ?_
  refine gJ_iconst (v := 1) dX12_matchers_2 (by decide) ?_
  refine gJ_istore (lv2 := [(4, _), (3, _), (0, _), (1, _), (2, _)]) dX12_matchers_3 rfl rfl ?_
  have L := loop (zMs T t sev (a, false)) 3 0 (fun _ => 0) a (by omega) ha rfl
  rw [zLay_0] at L
  exact gJ_ls L ⟨rfl, rfl, rfl, rfl, rfl, trivial⟩
end MODEL
