/-! THE CLASS' ALERT STATES at p: since p+1, transitions p+2, transitionCount p+3 -/
/-- nothing but the cells from a on has changed, and nothing is new -/
def gFr (M M2 : gM) (a n : Nat) : Prop := M2.2 = M.2 ∧ ∀ q, (q < a ∨ a + n ≤ q) → M2.1 q = M.1 q
theorem gFr_r {M : gM} {a n : Nat} : gFr M M a n := ⟨rfl, fun _ _ => rfl⟩
theorem gFr_t {M M2 M3 : gM} {a n : Nat} (h : gFr M M2 a n) (h2 : gFr M2 M3 a n) : gFr M M3 a n := ⟨h2.1.trans h.1, fun q hq => (h2.2 q hq).trans (h.2 q hq)⟩
theorem gFr_u {M M2 : gM} {a n b : Nat} {c : gE} (h : gFr M M2 a n) (hb : a ≤ b ∧ b < a + n) : gFr M (gUp M2 b c) a n := ⟨h.1, fun q hq => (gUp_n rfl (by omega)).trans (h.2 q hq)⟩
theorem gFr_w {M M2 : gM} {a n b k : Nat} (h : gFr M M2 a n) (h1 : b ≤ a) (h2 : a + n ≤ b + k) : gFr M M2 b k := ⟨h.1, fun q hq => h.2 q (by omega)⟩
theorem gFr_g {M M2 : gM} {a n q : Nat} {x : Option gE} (h : gFr M M2 a n) (hx : M.1 q = x) (hq : q < a ∨ a + n ≤ q) : M2.1 q = x := (h.2 q hq).trans hx
def cAS (p : Nat) (pe fi : Int64) : gE := gO 0 [.long pe, .long fi, .ref (p + 1), .ref (p + 2), .ref (p + 3)]
def cStB (V : Nat → Int32) (z : Int32) (a : Nat) : Bool := decide (V (206 + 23 * a) = z)
def cRing (K : Nat) (R C : Nat → Int32) (V : Nat → Int32) (a : Nat) : Prop := ∃ c, C a = nI c ∧ c ≤ K ∧ V (206 + 23 * a + 2) = nI (min c 20) ∧ ∀ j, j < min c 20 → R (a * 20 + (c - min c 20 + j) % 20) = V (206 + 23 * a + 3 + j)
def cRA (K : Nat → Nat) (M : gM) (p : Nat) (V : Nat → Int32) : Prop := ∃ X R C, M.1 p = some (cAS p (lS (cStB V 1) 60) (lS (cStB V 2) 60)) ∧ M.1 (p + 1) = some (gI 60 X) ∧ M.1 (p + 2) = some (gI 1200 R) ∧ M.1 (p + 3) = some (gI 60 C) ∧ (∀ a, a < 60 → ¬ V (206 + 23 * a) = 0 → X a = V (206 + 23 * a + 1)) ∧ ∀ a, a < 60 → cRing (K a) R C V a
theorem cRA_fr {K : Nat → Nat} {M M2 : gM} {p b n : Nat} {V : Nat → Int32} (h : cRA K M p V) (hf : gFr M M2 b n) (hd : p + 4 ≤ b ∨ b + n ≤ p) : cRA K M2 p V := by
  obtain ⟨X, R, C, h0, h1, h2, h3, h4⟩ := h
  exact ⟨X, R, C, gFr_g hf h0 (by omega), gFr_g hf h1 (by omega), gFr_g hf h2 (by omega), gFr_g hf h3 (by omega), h4⟩
theorem cSt_c {V : Nat → Int32} (hI : mI V) {a : Nat} (ha : a < 60) : V (206 + 23 * a) = 0 ∨ V (206 + 23 * a) = 1 ∨ V (206 + 23 * a) = 2 := by
  obtain ⟨x, h1, h2⟩ := (hI.2.2.2.2.2.1 a ha).1
  rw [h2]
  rcases (show x = 0 ∨ x = 1 ∨ x = 2 by omega) with rfl | rfl | rfl
  · exact Or.inl rfl
  · exact Or.inr (Or.inl rfl)
  · exact Or.inr (Or.inr rfl)
/-- how many of the transitions kept are later than a minute -/
def cLate (V : Nat → Int32) (x : Int32) (a : Nat) : Nat := (List.range (mN V (206 + 23 * a + 2))).countP fun j => !decide (V (206 + 23 * a + 3 + j) ≤ x)
theorem rot_20 : ∀ r, r < 20 → ((List.range 20).map fun i => (r + i) % 20).Perm (List.range 20) := by decide +kernel
theorem rot_c (r : Nat) (p : Nat → Bool) : (List.range 20).countP (fun i => p ((r + i) % 20)) = (List.range 20).countP p := by
  have h := (rot_20 (r % 20) (Nat.mod_lt _ (by decide))).countP_eq p
  rw [List.countP_map] at h
  rw [← h]
  apply List.countP_congr
  intro x hx
  show p ((r + x) % 20) = true ↔ p ((r % 20 + x) % 20) = true
  rw [Nat.mod_add_mod]
/-- counted in the ring as in the list -/
theorem ring_c {c : Nat} {R W : Nat → Int32} {b : Nat} {p : Int32 → Bool} (h : ∀ j, j < min c 20 → R (b + (c - min c 20 + j) % 20) = W j) : (List.range (min c 20)).countP (fun j => p (R (b + j))) = (List.range (min c 20)).countP (fun j => p (W j)) := by
  have h2 : (List.range (min c 20)).countP (fun j => p (W j)) = (List.range (min c 20)).countP (fun j => p (R (b + (c - min c 20 + j) % 20))) := by
    apply List.countP_congr
    intro x hx
    rw [h x (List.mem_range.mp hx)]
  rw [h2]
  by_cases hc : c < 20
  · rw [Nat.min_eq_left (by omega)]
    apply List.countP_congr
    intro x hx
    have := List.mem_range.mp hx
    rw [show (c - c + x) % 20 = x by omega]
  · rw [Nat.min_eq_right (by omega)]
    exact (rot_c (c - 20) (fun j => p (R (b + j)))).symm
section CLS
variable {G : gG} {K : Nat → Nat} {M : gM} {p : Nat} {V : Nat → Int32}
theorem c0_st {P F : Nat → Bool} (h0 : M.1 p = some (cAS p (lS P 60) (lS F 60))) (a : Nat) (ha : a < 60) (z : Nat) (hz : (if F a = true then 2 else if P a = true then 1 else 0) = z) : gCon G kX0_stateOf 1 0 0 M [.ref p, .int (nI a)] (fun M2 v => M2 = M ∧ v = some (.int (nI z))) := by
  subst hz
  have b1 : ∀ Q : Nat → Bool, lB (lS Q 60) a = Q a := fun Q => by rw [lS_b, decide_eq_true ha, Bool.true_and]
  refine gCon_of (by decide) (Nat.le_of_ble_eq_true rfl) ?_
  show gJ _ _ _ _ _ _ 0 [(0, _), (1, _)] [] _
  refine gJ_aload_n dX0_stateOf_0 rfl rfl ?_
  refine gJ_get fX0_25 dX0_stateOf_1 (by first | with_reducible assumption | with_reducible exact gUp_s | with_reducible exact gUp_n (by with_reducible assumption) (by omega) | exact gUp_n (by assumption) (by omega) | exact gUp_s | assumption) rfl ?_
  refine gJ_iload_n dX0_stateOf_4 rfl rfl ?_
  refine gJ_callSN (As := [_, _]) b_X11_has lX0_34 i_X11_has dX0_stateOf_5 (c11_has _ a (by omega)) rfl (Nat.le_of_ble_eq_true rfl) rfl (by decide) (fun M5 v_ h5 => ?_)
  obtain ⟨e5, rfl⟩ := h5
  replace e5 := e5.symm
  subst e5
  rw [b1]
  refine gJ_if_eqB (tgt := 13) dX0_stateOf_8 (by decide) (fun c8 => ?_) (fun c8 => ?_)
  · refine gJ_aload_n dX0_stateOf_13 rfl rfl ?_
    refine gJ_get fX0_21 dX0_stateOf_14 (by first | with_reducible assumption | with_reducible exact gUp_s | with_reducible exact gUp_n (by with_reducible assumption) (by omega) | exact gUp_n (by assumption) (by omega) | exact gUp_s | assumption) rfl ?_
    refine gJ_iload_n dX0_stateOf_17 rfl rfl ?_
    refine gJ_callSN (As := [_, _]) b_X11_has lX0_34 i_X11_has dX0_stateOf_18 (c11_has _ a (by omega)) rfl (Nat.le_of_ble_eq_true rfl) rfl (by decide) (fun M18 v_ h18 => ?_)
    obtain ⟨e18, rfl⟩ := h18
    replace e18 := e18.symm
    subst e18
    rw [b1]
    refine gJ_if_eqB (tgt := 28) dX0_stateOf_21 (by decide) (fun c21 => ?_) (fun c21 => ?_)
    · refine gJ_iconst (v := 0) dX0_stateOf_28 (by decide) ?_
      refine gJ_iret dX0_stateOf_29 rfl ?_
      refine ⟨rfl, ?_⟩
      rw [if_neg (by rw [c8]; exact Bool.false_ne_true), if_neg (by rw [c21]; exact Bool.false_ne_true)]
      rfl
    · refine gJ_iconst (v := 1) dX0_stateOf_24 (by decide) ?_
      refine gJ_goto (tgt := 29) dX0_stateOf_25 (by decide) ?_
      refine gJ_iret dX0_stateOf_29 rfl ?_
      refine ⟨rfl, ?_⟩
      rw [if_neg (by rw [c8]; exact Bool.false_ne_true), if_pos c21]
      rfl
  · refine gJ_iconst (v := 2) dX0_stateOf_11 (by decide) ?_
    refine gJ_iret dX0_stateOf_12 rfl ?_
    refine ⟨rfl, ?_⟩
    rw [if_pos c8]
    rfl
theorem cStB_z (V : Nat → Int32) (hI : mI V) {a : Nat} (ha : a < 60) : nI (if cStB V 2 a = true then 2 else if cStB V 1 a = true then 1 else 0) = V (206 + 23 * a) := by
  unfold cStB
  rcases cSt_c hI ha with h | h | h <;> rw [h] <;> rfl
theorem c0_stateOf (h : cRA K M p V) (hI : mI V) (a : Nat) (ha : a < 60) : gCon G kX0_stateOf 1 0 0 M [.ref p, .int (nI a)] (fun M2 v => M2 = M ∧ v = some (.int (V (206 + 23 * a)))) := by
  obtain ⟨X, R, C, h0, -⟩ := h
  rw [← cStB_z V hI ha]
  exact c0_st h0 a ha _ rfl
theorem c0_sinceOf (h : cRA K M p V) (hI : mI V) (a : Nat) (ha : a < 60) : gCon G kX0_sinceOf 2 0 0 M [.ref p, .int (nI a)] (fun M2 v => M2 = M ∧ v = some (.int (if V (206 + 23 * a) = 0 then -5 else V (206 + 23 * a + 1)))) := by
  have hs := c0_stateOf (G := G) h hI a ha
  obtain ⟨X, R, C, h0, h1, h2, h3, hX, -⟩ := h
  refine gCon_of (by decide) (Nat.le_of_ble_eq_true rfl) ?_
  show gJ _ _ _ _ _ _ 0 [(0, _), (1, _)] [] _
  refine gJ_aload_n dX0_sinceOf_0 rfl rfl ?_
  refine gJ_iload_n dX0_sinceOf_1 rfl rfl ?_
  refine gJ_callV (As := [_]) b_X0_stateOf lX0_38 i_X0_stateOf s_X0_stateOf dX0_sinceOf_2 (hs) (by first | with_reducible assumption | with_reducible exact gUp_s | with_reducible exact gUp_n (by with_reducible assumption) (by omega) | exact gUp_n (by assumption) (by omega) | exact gUp_s | assumption) rfl rfl (Nat.le_of_ble_eq_true rfl) rfl (by decide) (fun M2 v_ h2 => ?_)
  obtain ⟨e_, rfl⟩ := h2
  replace e_ := e_.symm
  subst e_
  refine gJ_if_ne (tgt := 13) dX0_sinceOf_5 (by decide) (fun c5 => ?_) (fun c5 => ?_)
  · refine gJ_aload_n dX0_sinceOf_13 rfl rfl ?_
    refine gJ_get fX0_9 dX0_sinceOf_14 (by first | with_reducible assumption | with_reducible exact gUp_s | with_reducible exact gUp_n (by with_reducible assumption) (by omega) | exact gUp_n (by assumption) (by omega) | exact gUp_s | assumption) rfl ?_
    refine gJ_iload_n dX0_sinceOf_17 rfl rfl ?_
    refine gJ_ialdN (j := a) dX0_sinceOf_18 (by first | with_reducible assumption | with_reducible exact gUp_s | with_reducible exact gUp_n (by with_reducible assumption) (by omega) | exact gUp_n (by assumption) (by omega) | exact gUp_s | assumption) (by first | with_reducible rfl | rfl) (by omega) (by decide) ?_
    refine gJ_iret dX0_sinceOf_19 rfl ?_
    refine ⟨rfl, ?_⟩
    rw [if_neg c5, hX a ha c5]
  · refine gJ_bipush (v := -5) dX0_sinceOf_8 (by decide) ?_
    refine gJ_goto (tgt := 19) dX0_sinceOf_10 (by decide) ?_
    refine gJ_iret dX0_sinceOf_19 rfl ?_
    refine ⟨rfl, ?_⟩
    rw [if_pos c5]
set_option maxRecDepth 20000 in
theorem c0_transitionsAfter (h : cRA K M p V) (hK : ∀ a, a < 60 → K a ≤ 200000) (a : Nat) (ha : a < 60) (x : Int32) : gCon G kX0_transitionsAfter 0 0 0 M [.ref p, .int (nI a), .int x] (fun M2 v => M2 = M ∧ v = some (.int (nI (cLate V x a)))) := by
  obtain ⟨X, R, C, h0, h1, h2, h3, -, hR⟩ := h
  obtain ⟨c, hC, hcT, hVn, hj⟩ := hR a ha
  have hKa := hK a ha
  have hmin : min c 20 ≤ 20 ∧ min c 20 ≤ c := by omega
  have hnn := mN_of hVn (by omega)
  have hcnt := ring_c (b := a * 20) (W := fun j => V (206 + 23 * a + 3 + j)) (p := fun y => !decide (y ≤ x)) hj
  have hL : cLate V x a = (List.range (min c 20)).countP (fun j => !decide (R (a * 20 + j) ≤ x)) := by rw [hcnt, cLate, hnn]
  rw [hL]
  refine gCon_of (by decide) (Nat.le_of_ble_eq_true rfl) ?_
  have loop : ∀ (q i m : Nat), i + q = min c 20 → m = (List.range i).countP (fun j => !decide (R (a * 20 + j) ≤ x)) → m ≤ i →
      gJ G kX0_transitionsAfter 0 0 0 M 5 [(4, .int (nI i)), (3, .int (nI m)), (0, .ref p), (1, .int (nI a)), (2, .int x)] [] (gQ kX0_transitionsAfter (fun M2 v => M2 = M ∧ v = some (.int (nI ((List.range (min c 20)).countP (fun j => !decide (R (a * 20 + j) ≤ x))))))) := by
    intro q
    induction q with
    | zero =>
      intro i m hi hm hmi
      have hi2 : i = min c 20 := hi
      refine gJ_iload dX0_transitionsAfter_5 rfl ?_
      refine gJ_bipush (v := 20) dX0_transitionsAfter_7 (by decide) ?_
      refine gJ_icmp_geN (tgt := 48) (a := i) (b := 20) (by first | with_reducible rfl | rfl) (by first | with_reducible rfl | rfl) (by omega) (by omega) dX0_transitionsAfter_9 (by decide) (fun c9 => ?_) (fun c9 => ?_)
      · refine gJ_iload_n dX0_transitionsAfter_48 rfl rfl ?_
        refine gJ_iret dX0_transitionsAfter_49 rfl ?_
        refine ⟨rfl, ?_⟩
        rw [hm, hi2]
      · refine gJ_iload dX0_transitionsAfter_12 rfl ?_
        refine gJ_aload_n dX0_transitionsAfter_14 rfl rfl ?_
        refine gJ_get fX0_18 dX0_transitionsAfter_15 (by first | with_reducible assumption | with_reducible exact gUp_s | with_reducible exact gUp_n (by with_reducible assumption) (by omega) | exact gUp_n (by assumption) (by omega) | exact gUp_s | assumption) rfl ?_
        refine gJ_iload_n dX0_transitionsAfter_18 rfl rfl ?_
        refine gJ_ialdN (j := a) dX0_transitionsAfter_19 (by first | with_reducible assumption | with_reducible exact gUp_s | with_reducible exact gUp_n (by with_reducible assumption) (by omega) | exact gUp_n (by assumption) (by omega) | exact gUp_s | assumption) (by first | with_reducible rfl | rfl) (by omega) (by decide) ?_
        rw [hC]
        refine gJ_icmp_geN (tgt := 48) (a := i) (b := c) (by first | with_reducible rfl | rfl) (by first | with_reducible rfl | rfl) (by omega) (by omega) dX0_transitionsAfter_20 (by decide) (fun _ => ?_) (fun c_ => by exfalso; omega)
        refine gJ_iload_n dX0_transitionsAfter_48 rfl rfl ?_
        refine gJ_iret dX0_transitionsAfter_49 rfl ?_
        refine ⟨rfl, ?_⟩
        rw [hm, hi2]
    | succ q ih =>
      intro i m hi hm hmi
      refine gJ_iload dX0_transitionsAfter_5 rfl ?_
      refine gJ_bipush (v := 20) dX0_transitionsAfter_7 (by decide) ?_
      refine gJ_icmp_geN (tgt := 48) (a := i) (b := 20) (by first | with_reducible rfl | rfl) (by first | with_reducible rfl | rfl) (by omega) (by omega) dX0_transitionsAfter_9 (by decide) (fun c_ => by exfalso; omega) (fun _ => ?_)
      refine gJ_iload dX0_transitionsAfter_12 rfl ?_
      refine gJ_aload_n dX0_transitionsAfter_14 rfl rfl ?_
      refine gJ_get fX0_18 dX0_transitionsAfter_15 (by first | with_reducible assumption | with_reducible exact gUp_s | with_reducible exact gUp_n (by with_reducible assumption) (by omega) | exact gUp_n (by assumption) (by omega) | exact gUp_s | assumption) rfl ?_
      refine gJ_iload_n dX0_transitionsAfter_18 rfl rfl ?_
      refine gJ_ialdN (j := a) dX0_transitionsAfter_19 (by first | with_reducible assumption | with_reducible exact gUp_s | with_reducible exact gUp_n (by with_reducible assumption) (by omega) | exact gUp_n (by assumption) (by omega) | exact gUp_s | assumption) (by first | with_reducible rfl | rfl) (by omega) (by decide) ?_
      rw [hC]
      refine gJ_icmp_geN (tgt := 48) (a := i) (b := c) (by first | with_reducible rfl | rfl) (by first | with_reducible rfl | rfl) (by omega) (by omega) dX0_transitionsAfter_20 (by decide) (fun c_ => by exfalso; omega) (fun _ => ?_)
      refine gJ_aload_n dX0_transitionsAfter_23 rfl rfl ?_
      refine gJ_get fX0_15 dX0_transitionsAfter_24 (by first | with_reducible assumption | with_reducible exact gUp_s | with_reducible exact gUp_n (by with_reducible assumption) (by omega) | exact gUp_n (by assumption) (by omega) | exact gUp_s | assumption) rfl ?_
      refine gJ_iload_n dX0_transitionsAfter_27 rfl rfl ?_
      refine gJ_bipush (v := 20) dX0_transitionsAfter_28 (by decide) ?_
      refine gJ_imulN (a := a) (b := 20) dX0_transitionsAfter_30 (by first | with_reducible rfl | rfl) (by first | with_reducible rfl | rfl) ?_
      refine gJ_iload dX0_transitionsAfter_31 rfl ?_
      refine gJ_iaddN (a := (a * 20)) (b := i) dX0_transitionsAfter_33 (by first | with_reducible rfl | rfl) (by first | with_reducible rfl | rfl) ?_
      refine gJ_ialdN (j := ((a * 20) + i)) dX0_transitionsAfter_34 (by first | with_reducible assumption | with_reducible exact gUp_s | with_reducible exact gUp_n (by with_reducible assumption) (by omega) | exact gUp_n (by assumption) (by omega) | exact gUp_s | assumption) (by first | with_reducible rfl | rfl) (by omega) (by decide) ?_
      refine gJ_iload_n dX0_transitionsAfter_35 rfl rfl ?_
      refine gJ_icmp_le (tgt := 42) dX0_transitionsAfter_36 (by decide) (fun c36 => ?_) (fun c36 => ?_)
      · refine gJ_iincN (a := i) (b := 1) (lv2 := [(4, _), (3, _), (0, _), (1, _), (2, _)]) dX0_transitionsAfter_42 rfl rfl rfl rfl ?_
        refine gJ_goto (tgt := 5) dX0_transitionsAfter_45 (by decide) ?_
        refine gJ_ls (ih (i + 1) m (by omega) ?_ (by omega)) ⟨rfl, rfl, rfl, rfl, rfl, trivial⟩
        rw [List.range_succ, List.countP_append, ← hm]
        simp [c36]
      · refine gJ_iincN (a := m) (b := 1) (lv2 := [(3, _), (4, _), (0, _), (1, _), (2, _)]) dX0_transitionsAfter_39 rfl rfl rfl rfl ?_
        refine gJ_iincN (a := i) (b := 1) (lv2 := [(4, _), (3, _), (0, _), (1, _), (2, _)]) dX0_transitionsAfter_42 rfl rfl rfl rfl ?_
        refine gJ_goto (tgt := 5) dX0_transitionsAfter_45 (by decide) ?_
        refine gJ_ls (ih (i + 1) (m + 1) (by omega) ?_ (by omega)) ⟨rfl, rfl, rfl, rfl, rfl, trivial⟩
        rw [List.range_succ, List.countP_append, ← hm]
        simp [c36]
  show gJ _ _ _ _ _ _ 0 [(0, _), (1, _), (2, _)] [] _
  refine gJ_iconst (v := 0) dX0_transitionsAfter_0 (by decide) ?_
  refine gJ_istore_n (lv2 := [(3, _), (0, _), (1, _), (2, _)]) dX0_transitionsAfter_1 rfl rfl rfl ?_
  refine gJ_iconst (v := 0) dX0_transitionsAfter_2 (by decide) ?_
  refine gJ_istore (lv2 := [(4, _), (3, _), (0, _), (1, _), (2, _)]) dX0_transitionsAfter_3 rfl rfl ?_
  exact gJ_ls (loop (min c 20) 0 0 (by omega) rfl (by omega)) ⟨rfl, rfl, rfl, rfl, rfl, trivial⟩
set_option maxRecDepth 20000 in
theorem c0_flapping (h : cRA K M p V) (hK : ∀ a, a < 60 → K a ≤ 200000) (x lim : Int32) (P : Nat → Bool) : gCon G kX0_flapping 1 0 0 M [.ref p, .long (lS P 60), .int x, .int lim] (fun M2 v => M2 = M ∧ v = some (.long (lS (fun a => P a && !decide (nI (cLate V x a) < lim)) 60))) := by
  have hT := fun a ha => c0_transitionsAfter (G := G) h hK a ha x
  obtain ⟨X, R, C, h0, h1, h2, h3, -, -⟩ := h
  refine gCon_of (by decide) (Nat.le_of_ble_eq_true rfl) ?_
  have loop : ∀ (q a : Nat), a + q = 61 → a ≤ 60 →
      gJ G kX0_flapping 1 0 0 M 6 [(7, .int (nI a)), (5, .long (lS (fun a => P a && !decide (nI (cLate V x a) < lim)) a)), (0, .ref p), (1, .long (lS P 60)), (3, .int x), (4, .int lim)] [] (gQ kX0_flapping (fun M2 v => M2 = M ∧ v = some (.long (lS (fun a => P a && !decide (nI (cLate V x a) < lim)) 60)))) := by
    intro q
    induction q with
    | zero => intro a h1 h2; exact absurd h1 (by omega)
    | succ q ih =>
      intro a hq ha
      refine gJ_iload dX0_flapping_6 rfl ?_
      refine gJ_bipush (v := 60) dX0_flapping_8 (by decide) ?_
      refine gJ_icmp_geN (tgt := 49) (a := a) (b := 60) (by first | with_reducible rfl | rfl) (by first | with_reducible rfl | rfl) (by omega) (by omega) dX0_flapping_10 (by decide) (fun c10 => ?_) (fun c10 => ?_)
      · refine gJ_lload dX0_flapping_49 rfl ?_
        refine gJ_lret dX0_flapping_51 rfl ?_
        refine ⟨rfl, ?_⟩
        rw [show a = 60 by omega]
      · refine gJ_lload_n dX0_flapping_13 rfl rfl ?_
        refine gJ_iload dX0_flapping_14 rfl ?_
        refine gJ_callSN (As := [_, _]) b_X11_has lX0_34 i_X11_has dX0_flapping_16 (c11_has _ a (by omega)) rfl (Nat.le_of_ble_eq_true rfl) rfl (by decide) (fun M16 v_ h16 => ?_)
        obtain ⟨e16, rfl⟩ := h16
        replace e16 := e16.symm
        subst e16
        rw [show lB (lS P 60) a = P a by rw [lS_b, decide_eq_true (by omega : a < 60), Bool.true_and]]
        refine gJ_if_eqB (tgt := 43) dX0_flapping_19 (by decide) (fun c19 => ?_) (fun c19 => ?_)
        · refine gJ_iincN (a := a) (b := 1) (lv2 := [(7, _), (5, _), (0, _), (1, _), (3, _), (4, _)]) dX0_flapping_43 rfl rfl rfl rfl ?_
          refine gJ_goto (tgt := 6) dX0_flapping_46 (by decide) ?_
          refine gJ_ls (ih (a + 1) (by omega) (by omega)) ⟨rfl, ?_, rfl, rfl, rfl, rfl, trivial⟩
          show some (Value.long _) = some (Value.long _)
          rw [lS_f (by rw [c19, Bool.false_and])]
        · refine gJ_aload_n dX0_flapping_22 rfl rfl ?_
          refine gJ_iload dX0_flapping_23 rfl ?_
          refine gJ_iload_n dX0_flapping_25 rfl rfl ?_
          refine gJ_callV (As := [_, _]) b_X0_transitionsAfter lX0_60 i_X0_transitionsAfter s_X0_transitionsAfter dX0_flapping_26 (hT a (by omega)) (by first | with_reducible assumption | with_reducible exact gUp_s | with_reducible exact gUp_n (by with_reducible assumption) (by omega) | exact gUp_n (by assumption) (by omega) | exact gUp_s | assumption) rfl rfl (Nat.le_of_ble_eq_true rfl) rfl (by decide) (fun M26 v_ h26 => ?_)
          obtain ⟨e_, rfl⟩ := h26
          replace e_ := e_.symm
          subst e_
          refine gJ_iload dX0_flapping_29 rfl ?_
          refine gJ_icmp_lt (tgt := 43) dX0_flapping_31 (by decide) (fun c31 => ?_) (fun c31 => ?_)
          · refine gJ_iincN (a := a) (b := 1) (lv2 := [(7, _), (5, _), (0, _), (1, _), (3, _), (4, _)]) dX0_flapping_43 rfl rfl rfl rfl ?_
            refine gJ_goto (tgt := 6) dX0_flapping_46 (by decide) ?_
            refine gJ_ls (ih (a + 1) (by omega) (by omega)) ⟨rfl, ?_, rfl, rfl, rfl, rfl, trivial⟩
            show some (Value.long _) = some (Value.long _)
            rw [lS_f (by rw [c19, decide_eq_true c31]; rfl)]
          · refine gJ_lload dX0_flapping_34 rfl ?_
            refine gJ_lconst (v := 1) dX0_flapping_36 (by decide) ?_
            refine gJ_iload dX0_flapping_37 rfl ?_
            refine gJ_lshl dX0_flapping_39 ?_
            refine gJ_lor dX0_flapping_40 ?_
            refine gJ_lstore (lv2 := [(5, _), (7, _), (0, _), (1, _), (3, _), (4, _)]) dX0_flapping_41 rfl rfl ?_
            refine gJ_iincN (a := a) (b := 1) (lv2 := [(7, _), (5, _), (0, _), (1, _), (3, _), (4, _)]) dX0_flapping_43 rfl rfl rfl rfl ?_
            refine gJ_goto (tgt := 6) dX0_flapping_46 (by decide) ?_
            refine gJ_ls (ih (a + 1) (by omega) (by omega)) ⟨rfl, ?_, rfl, rfl, rfl, rfl, trivial⟩
            show some (Value.long _) = some (Value.long _)
            rw [lS_t (by rw [c19, decide_eq_false c31]; rfl)]
  show gJ _ _ _ _ _ _ 0 [(0, _), (1, _), (3, _), (4, _)] [] _
  refine gJ_lconst (v := 0) dX0_flapping_0 (by decide) ?_
  refine gJ_lstore (lv2 := [(5, _), (0, _), (1, _), (3, _), (4, _)]) dX0_flapping_1 rfl rfl ?_
  refine gJ_iconst (v := 0) dX0_flapping_3 (by decide) ?_
  refine gJ_istore (lv2 := [(7, _), (5, _), (0, _), (1, _), (3, _), (4, _)]) dX0_flapping_4 rfl rfl ?_
  exact gJ_ls (loop 61 0 (by omega) (by omega)) ⟨rfl, rfl, rfl, rfl, rfl, rfl, trivial⟩
end CLS
