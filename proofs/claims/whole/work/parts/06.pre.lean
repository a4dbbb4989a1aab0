/-! rows with places as natural numbers; small facts -/
def gb (b : Bool) : Int32 := if b then 1 else 0
theorem gb01 (b : Bool) : gb b = 0 ∨ gb b = 1 := by cases b <;> simp [gb]
theorem gb_t : gb true = 1 := rfl
theorem gb_f : gb false = 0 := rfl
theorem gb_0 {b : Bool} : gb b = 0 ↔ b = false := by cases b <;> simp [gb]
theorem gb_n0 {b : Bool} : ¬ gb b = 0 ↔ b = true := by cases b <;> simp [gb]
theorem gz0 : (0 : Int32) = 0 ∨ (0 : Int32) = 1 := Or.inl rfl
theorem gz1 : (1 : Int32) = 0 ∨ (1 : Int32) = 1 := Or.inr rfl
theorem gUp_s {M : gM} {a : Nat} {c : gE} : (gUp M a c).1 a = some c := if_pos rfl
theorem gUp_n {M : gM} {a b : Nat} {c : gE} {x : Option gE} (h : M.1 b = x) (hn : b ≠ a) : (gUp M a c).1 b = x := (if_neg hn).trans h
theorem gNew_s {M : gM} {c : gE} : (gNew M c).1 M.2 = some c := if_pos rfl
theorem gNew_n {M : gM} {b : Nat} {c : gE} {x : Option gE} (h : M.1 b = x) (hn : b ≠ M.2) : (gNew M c).1 b = x := (if_neg hn).trans h
theorem gUp_up {M : gM} {a : Nat} {c e : gE} : gUp (gUp M a c) a e = gUp M a e := by
  unfold gUp
  congr 1
  funext q
  by_cases h : q = a <;> simp [h]
theorem gUp_id {M : gM} {a : Nat} {c : gE} (h : M.1 a = some c) : gUp M a c = M := by
  unfold gUp
  obtain ⟨m1, m2⟩ := M
  congr 1
  funext q
  by_cases e : q = a
  · subst e; simp only [if_true]; exact h.symm
  · simp [e]
theorem gUp_cm {M : gM} {a b : Nat} {c e : gE} (h : a ≠ b) : gUp (gUp M a c) b e = gUp (gUp M b e) a c := by
  unfold gUp
  congr 1
  funext q
  by_cases h1 : q = a
  · subst h1; simp [h]
  · simp [h1]
section GN
variable {G : gG} {k : gMd} {d nc ns : Nat} {M : gM} {pc : Nat} {lv lv2 : List (Nat × Value)} {st : List Value} {Q : gP}
theorem gJ_ialdN {a n j : Nat} {f : Nat → Int32} {i : Int32} (hd : decode k.2.1 pc = .ok (.iaload, 1)) (hM : M.1 a = some (gI n f)) (hj : i = nI j) (hlt : j < n) (hn : n < 2 ^ 31) (kk : gJ G k d nc ns M (pc + 1) lv (.int (f j) :: st) Q) : gJ G k d nc ns M pc lv (.int i :: .ref a :: st) Q := by
  subst hj
  exact gJ_iald hd hM (vp_in_nI hlt hn) (by rw [nI_clamp (Nat.lt_trans hlt hn)]; exact kk)
theorem gJ_zaldN {a n j : Nat} {f : Nat → Int32} {i : Int32} (hd : decode k.2.1 pc = .ok (.baload, 1)) (hM : M.1 a = some (gZ n f)) (hj : i = nI j) (hlt : j < n) (hn : n < 2 ^ 31) (kk : gJ G k d nc ns M (pc + 1) lv (.int (f j) :: st) Q) : gJ G k d nc ns M pc lv (.int i :: .ref a :: st) Q := by
  subst hj
  exact gJ_zald hd hM (vp_in_nI hlt hn) (by rw [nI_clamp (Nat.lt_trans hlt hn)]; exact kk)
theorem gJ_laldN {a n j : Nat} {f : Nat → Int64} {i : Int32} (hd : decode k.2.1 pc = .ok (.laload, 1)) (hM : M.1 a = some (gL n f)) (hj : i = nI j) (hlt : j < n) (hn : n < 2 ^ 31) (kk : gJ G k d nc ns M (pc + 1) lv (.long (f j) :: st) Q) : gJ G k d nc ns M pc lv (.int i :: .ref a :: st) Q := by
  subst hj
  exact gJ_lald hd hM (vp_in_nI hlt hn) (by rw [nI_clamp (Nat.lt_trans hlt hn)]; exact kk)
theorem gJ_taldN {q j : Nat} {i : Int32} (hd : decode k.2.1 pc = .ok (.iaload, 1)) (hq : q < 4) (hj : i = nI j) (hlt : j < (gSt q).2.1) (hn : (gSt q).2.1 < 2 ^ 31) (kk : gJ G k d nc ns M (pc + 1) lv (.int ((gSt q).2.2 j) :: st) Q) : gJ G k d nc ns M pc lv (.int i :: .ref (gS G q) :: st) Q := by
  subst hj
  exact gJ_tald hd hq (vp_in_nI hlt hn) (by rw [nI_clamp (Nat.lt_trans hlt hn)]; exact kk)
theorem gJ_aaldS {t a n j q : Nat} {f : Nat → Option Nat} {i : Int32} {Cn : String} (hd : decode k.2.1 pc = .ok (.aaload, 1)) (hM : M.1 a = some (gR t n f)) (ht : (gTys G)[t]? = some (G.2.2.1 t, .object Cn)) (hj : i = nI j) (hlt : j < n) (hn : n < 2 ^ 31) (hq : f j = some q) (kk : gJ G k d nc ns M (pc + 1) lv (.ref q :: st) Q) : gJ G k d nc ns M pc lv (.int i :: .ref a :: st) Q := by
  subst hj
  exact gJ_aald hd hM ht (vp_in_nI hlt hn) (by rw [nI_clamp (Nat.lt_trans hlt hn), hq]; exact kk)
theorem gJ_aaldN {t a n j : Nat} {f : Nat → Option Nat} {i : Int32} {Cn : String} (hd : decode k.2.1 pc = .ok (.aaload, 1)) (hM : M.1 a = some (gR t n f)) (ht : (gTys G)[t]? = some (G.2.2.1 t, .object Cn)) (hj : i = nI j) (hlt : j < n) (hn : n < 2 ^ 31) (hq : f j = none) (kk : gJ G k d nc ns M (pc + 1) lv (.null :: st) Q) : gJ G k d nc ns M pc lv (.int i :: .ref a :: st) Q := by
  subst hj
  exact gJ_aald hd hM ht (vp_in_nI hlt hn) (by rw [nI_clamp (Nat.lt_trans hlt hn), hq]; exact kk)
theorem gJ_iastN {a n j : Nat} {f : Nat → Int32} {i x : Int32} (hd : decode k.2.1 pc = .ok (.iastore, 1)) (hM : M.1 a = some (gI n f)) (hj : i = nI j) (hlt : j < n) (hn : n < 2 ^ 31) (kk : gJ G k d nc ns (gUp M a (gI n (upd f j x))) (pc + 1) lv st Q) : gJ G k d nc ns M pc lv (.int x :: .int i :: .ref a :: st) Q := by
  subst hj
  exact gJ_iast hd hM (vp_in_nI hlt hn) (by rw [nI_clamp (Nat.lt_trans hlt hn)]; exact kk)
theorem gJ_zastN {a n j : Nat} {f : Nat → Int32} {i x : Int32} (hd : decode k.2.1 pc = .ok (.bastore, 1)) (hM : M.1 a = some (gZ n f)) (hj : i = nI j) (hlt : j < n) (hn : n < 2 ^ 31) (hx : x = 0 ∨ x = 1) (kk : gJ G k d nc ns (gUp M a (gZ n (upd f j x))) (pc + 1) lv st Q) : gJ G k d nc ns M pc lv (.int x :: .int i :: .ref a :: st) Q := by
  subst hj
  exact gJ_zast hd hM (vp_in_nI hlt hn) hx (by rw [nI_clamp (Nat.lt_trans hlt hn)]; exact kk)
theorem gJ_lastN {a n j : Nat} {f : Nat → Int64} {i : Int32} {x : Int64} (hd : decode k.2.1 pc = .ok (.lastore, 1)) (hM : M.1 a = some (gL n f)) (hj : i = nI j) (hlt : j < n) (hn : n < 2 ^ 31) (kk : gJ G k d nc ns (gUp M a (gL n (vp_updL f j x))) (pc + 1) lv st Q) : gJ G k d nc ns M pc lv (.long x :: .int i :: .ref a :: st) Q := by
  subst hj
  exact gJ_last hd hM (vp_in_nI hlt hn) (by rw [nI_clamp (Nat.lt_trans hlt hn)]; exact kk)
theorem gJ_aastNN {t a n j : Nat} {f : Nat → Option Nat} {i : Int32} {Cn : String} (hd : decode k.2.1 pc = .ok (.aastore, 1)) (hM : M.1 a = some (gR t n f)) (ht : (gTys G)[t]? = some (G.2.2.1 t, .object Cn)) (hj : i = nI j) (hlt : j < n) (hn : n < 2 ^ 31) (kk : gJ G k d nc ns (gUp M a (gR t n (va_up f j none))) (pc + 1) lv st Q) : gJ G k d nc ns M pc lv (.null :: .int i :: .ref a :: st) Q := by
  subst hj
  exact gJ_aastN hd hM ht (vp_in_nI hlt hn) (by rw [nI_clamp (Nat.lt_trans hlt hn)]; exact kk)
theorem gJ_aastN_ {t a n v ci j : Nat} {r : vw_C} {vs : List Value} {f : Nat → Option Nat} {i : Int32} (hd : decode k.2.1 pc = .ok (.aastore, 1)) (hM : M.1 a = some (gR t n f)) (ht : (gTys G)[t]? = some (G.2.2.1 t, .object r.1)) (hv : M.1 v = some (gO ci vs)) (hc : vwCl[ci]? = some r) (hj : i = nI j) (hlt : j < n) (hn : n < 2 ^ 31) (kk : gJ G k d nc ns (gUp M a (gR t n (va_up f j (some v)))) (pc + 1) lv st Q) : gJ G k d nc ns M pc lv (.ref v :: .int i :: .ref a :: st) Q := by
  subst hj
  exact gJ_aast hd hM ht hv hc (vp_in_nI hlt hn) (by rw [nI_clamp (Nat.lt_trans hlt hn)]; exact kk)
theorem gJ_idivN {a b : Nat} {x y : Int32} (hd : decode k.2.1 pc = .ok (.idiv, 1)) (hx : x = nI a) (hy : y = nI b) (ha : a < 2 ^ 31) (hb : 0 < b ∧ b < 2 ^ 31) (kk : gJ G k d nc ns M (pc + 1) lv (.int (nI (a / b)) :: st) Q) : gJ G k d nc ns M pc lv (.int y :: .int x :: st) Q := by
  subst hx
  subst hy
  exact gJ_idiv hd (nI_ne0 hb.1 hb.2) (by rw [pk_div ha hb.1 hb.2]; exact kk)
theorem gJ_iremN {a b : Nat} {x y : Int32} (hd : decode k.2.1 pc = .ok (.irem, 1)) (hx : x = nI a) (hy : y = nI b) (ha : a < 2 ^ 31) (hb : 0 < b ∧ b < 2 ^ 31) (kk : gJ G k d nc ns M (pc + 1) lv (.int (nI (a % b)) :: st) Q) : gJ G k d nc ns M pc lv (.int y :: .int x :: st) Q := by
  subst hx
  subst hy
  exact gJ_irem hd (nI_ne0 hb.1 hb.2) (by rw [pk_rem ha hb.1 hb.2]; exact kk)
theorem gJ_iincN {i a b : Nat} {n : Int} (hd : decode k.2.1 pc = .ok (.iinc i n, 3)) (hg : gAt lv i = some (.int (nI a))) (hv : Int32.ofInt n = nI b) (hn : decide (i < k.2.2.1) = true) (h2 : (i, .int (nI (a + b))) :: gF1 i lv = lv2) (kk : gJ G k d nc ns M (pc + 3) lv2 st Q) : gJ G k d nc ns M pc lv st Q :=
  gJ_iinc (v := nI (a + b)) hd hg (by rw [hv, nI_add]) hn h2 kk
theorem gJ_if_eqB {b : Bool} {off : Int} {tgt : Nat} (hd : decode k.2.1 pc = .ok (.ifCond .eq off, 3)) (ht : (pc : Int) + off = (tgt : Int)) (kt : b = false → gJ G k d nc ns M tgt lv st Q) (kf : b = true → gJ G k d nc ns M (pc + 3) lv st Q) : gJ G k d nc ns M pc lv (.int (gb b) :: st) Q :=
  gJ_if_eq hd ht (fun h => kt (gb_0.mp h)) (fun h => kf (gb_n0.mp h))
theorem gJ_if_neB {b : Bool} {off : Int} {tgt : Nat} (hd : decode k.2.1 pc = .ok (.ifCond .ne off, 3)) (ht : (pc : Int) + off = (tgt : Int)) (kt : b = true → gJ G k d nc ns M tgt lv st Q) (kf : b = false → gJ G k d nc ns M (pc + 3) lv st Q) : gJ G k d nc ns M pc lv (.int (gb b) :: st) Q :=
  gJ_if_ne hd ht (fun h => kt (gb_n0.mp h)) (fun h => kf (gb_0.mp h))
theorem gJ_iaddN {a b : Nat} {x y : Int32} (hd : decode k.2.1 pc = .ok (.iadd, 1)) (hx : x = nI a) (hy : y = nI b) (kk : gJ G k d nc ns M (pc + 1) lv (.int (nI (a + b)) :: st) Q) : gJ G k d nc ns M pc lv (.int y :: .int x :: st) Q :=
  gJ_iadd hd (by rw [hx, hy, nI_add]; exact kk)
theorem gJ_imulN {a b : Nat} {x y : Int32} (hd : decode k.2.1 pc = .ok (.imul, 1)) (hx : x = nI a) (hy : y = nI b) (kk : gJ G k d nc ns M (pc + 1) lv (.int (nI (a * b)) :: st) Q) : gJ G k d nc ns M pc lv (.int y :: .int x :: st) Q :=
  gJ_imul hd (by rw [hx, hy, pk_mul]; exact kk)
theorem gJ_isubN {a b : Nat} {x y : Int32} (hd : decode k.2.1 pc = .ok (.isub, 1)) (hx : x = nI a) (hy : y = nI b) (hab : b ≤ a) (kk : gJ G k d nc ns M (pc + 1) lv (.int (nI (a - b)) :: st) Q) : gJ G k d nc ns M pc lv (.int y :: .int x :: st) Q :=
  gJ_isub hd (by rw [hx, hy, pk_sub hab]; exact kk)
/-- the locals in another order, or fewer -/
def gSub (lv : List (Nat × Value)) (lv' : List (Nat × Value)) : Prop := match lv' with
  | [] => True
  | q :: r => gAt lv q.1 = some q.2 ∧ gSub lv r
theorem gSub_mem {lv lv' : List (Nat × Value)} (h : gSub lv lv') : ∀ q ∈ lv', q ∈ lv := by
  induction lv' with
  | nil => intro q hq; cases hq
  | cons x r ih =>
    intro q hq
    rcases List.mem_cons.mp hq with rfl | hq
    · exact gAt_mem h.1
    · exact ih h.2 q hq
theorem gJ_ls {lv' : List (Nat × Value)} (h : gJ G k d nc ns M pc lv' st Q) (hs : gSub lv lv') : gJ G k d nc ns M pc lv st Q := gJ_lv (gSub_mem hs) h
theorem gJ_icmp_eqN {a b : Nat} {x y : Int32} {off : Int} {tgt : Nat} (hx : x = nI a) (hy : y = nI b) (ha : a < 2 ^ 31) (hb : b < 2 ^ 31) (hd : decode k.2.1 pc = .ok (.if_icmp .eq off, 3)) (ht : (pc : Int) + off = (tgt : Int)) (kt : a = b → gJ G k d nc ns M tgt lv st Q) (kf : ¬ a = b → gJ G k d nc ns M (pc + 3) lv st Q) : gJ G k d nc ns M pc lv (.int y :: .int x :: st) Q := by
  subst hx
  subst hy
  exact gJ_icmp_eq hd ht (fun h => kt ((nI_eq ha hb).mp h)) (fun h => kf (mt (nI_eq ha hb).mpr h))
theorem gJ_if_eqN {a : Nat} {x : Int32} {off : Int} {tgt : Nat} (hx : x = nI a) (ha : a < 2 ^ 31) (hd : decode k.2.1 pc = .ok (.ifCond .eq off, 3)) (ht : (pc : Int) + off = (tgt : Int)) (kt : a = 0 → gJ G k d nc ns M tgt lv st Q) (kf : ¬ a = 0 → gJ G k d nc ns M (pc + 3) lv st Q) : gJ G k d nc ns M pc lv (.int x :: st) Q := by
  subst hx
  exact gJ_if_eq hd ht (fun h => kt ((nI_eq ha (by decide : 0 < 2 ^ 31)).mp h)) (fun h => kf (mt (nI_eq ha (by decide : 0 < 2 ^ 31)).mpr h))
theorem gJ_icmp_neN {a b : Nat} {x y : Int32} {off : Int} {tgt : Nat} (hx : x = nI a) (hy : y = nI b) (ha : a < 2 ^ 31) (hb : b < 2 ^ 31) (hd : decode k.2.1 pc = .ok (.if_icmp .ne off, 3)) (ht : (pc : Int) + off = (tgt : Int)) (kt : ¬ a = b → gJ G k d nc ns M tgt lv st Q) (kf : a = b → gJ G k d nc ns M (pc + 3) lv st Q) : gJ G k d nc ns M pc lv (.int y :: .int x :: st) Q := by
  subst hx
  subst hy
  exact gJ_icmp_ne hd ht (fun h => kt ((not_congr (nI_eq ha hb)).mp h)) (fun h => kf ((nI_eq ha hb).mp h))
theorem gJ_if_neN {a : Nat} {x : Int32} {off : Int} {tgt : Nat} (hx : x = nI a) (ha : a < 2 ^ 31) (hd : decode k.2.1 pc = .ok (.ifCond .ne off, 3)) (ht : (pc : Int) + off = (tgt : Int)) (kt : ¬ a = 0 → gJ G k d nc ns M tgt lv st Q) (kf : a = 0 → gJ G k d nc ns M (pc + 3) lv st Q) : gJ G k d nc ns M pc lv (.int x :: st) Q := by
  subst hx
  exact gJ_if_ne hd ht (fun h => kt ((not_congr (nI_eq ha (by decide : 0 < 2 ^ 31))).mp h)) (fun h => kf ((nI_eq ha (by decide : 0 < 2 ^ 31)).mp h))
theorem gJ_icmp_ltN {a b : Nat} {x y : Int32} {off : Int} {tgt : Nat} (hx : x = nI a) (hy : y = nI b) (ha : a < 2 ^ 31) (hb : b < 2 ^ 31) (hd : decode k.2.1 pc = .ok (.if_icmp .lt off, 3)) (ht : (pc : Int) + off = (tgt : Int)) (kt : a < b → gJ G k d nc ns M tgt lv st Q) (kf : ¬ a < b → gJ G k d nc ns M (pc + 3) lv st Q) : gJ G k d nc ns M pc lv (.int y :: .int x :: st) Q := by
  subst hx
  subst hy
  exact gJ_icmp_lt hd ht (fun h => kt ((nI_ltI ha hb).mp h)) (fun h => kf (mt (nI_ltI ha hb).mpr h))
theorem gJ_if_ltN {a : Nat} {x : Int32} {off : Int} {tgt : Nat} (hx : x = nI a) (ha : a < 2 ^ 31) (hd : decode k.2.1 pc = .ok (.ifCond .lt off, 3)) (ht : (pc : Int) + off = (tgt : Int)) (kt : a < 0 → gJ G k d nc ns M tgt lv st Q) (kf : ¬ a < 0 → gJ G k d nc ns M (pc + 3) lv st Q) : gJ G k d nc ns M pc lv (.int x :: st) Q := by
  subst hx
  exact gJ_if_lt hd ht (fun h => kt ((nI_ltI ha (by decide : 0 < 2 ^ 31)).mp h)) (fun h => kf (mt (nI_ltI ha (by decide : 0 < 2 ^ 31)).mpr h))
theorem gJ_icmp_geN {a b : Nat} {x y : Int32} {off : Int} {tgt : Nat} (hx : x = nI a) (hy : y = nI b) (ha : a < 2 ^ 31) (hb : b < 2 ^ 31) (hd : decode k.2.1 pc = .ok (.if_icmp .ge off, 3)) (ht : (pc : Int) + off = (tgt : Int)) (kt : b ≤ a → gJ G k d nc ns M tgt lv st Q) (kf : ¬ b ≤ a → gJ G k d nc ns M (pc + 3) lv st Q) : gJ G k d nc ns M pc lv (.int y :: .int x :: st) Q := by
  subst hx
  subst hy
  exact gJ_icmp_ge hd ht (fun h => kt ((nI_leI hb ha).mp h)) (fun h => kf (mt (nI_leI hb ha).mpr h))
theorem gJ_if_geN {a : Nat} {x : Int32} {off : Int} {tgt : Nat} (hx : x = nI a) (ha : a < 2 ^ 31) (hd : decode k.2.1 pc = .ok (.ifCond .ge off, 3)) (ht : (pc : Int) + off = (tgt : Int)) (kt : 0 ≤ a → gJ G k d nc ns M tgt lv st Q) (kf : ¬ 0 ≤ a → gJ G k d nc ns M (pc + 3) lv st Q) : gJ G k d nc ns M pc lv (.int x :: st) Q := by
  subst hx
  exact gJ_if_ge hd ht (fun h => kt ((nI_leI (by decide : 0 < 2 ^ 31) ha).mp h)) (fun h => kf (mt (nI_leI (by decide : 0 < 2 ^ 31) ha).mpr h))
theorem gJ_icmp_gtN {a b : Nat} {x y : Int32} {off : Int} {tgt : Nat} (hx : x = nI a) (hy : y = nI b) (ha : a < 2 ^ 31) (hb : b < 2 ^ 31) (hd : decode k.2.1 pc = .ok (.if_icmp .gt off, 3)) (ht : (pc : Int) + off = (tgt : Int)) (kt : b < a → gJ G k d nc ns M tgt lv st Q) (kf : ¬ b < a → gJ G k d nc ns M (pc + 3) lv st Q) : gJ G k d nc ns M pc lv (.int y :: .int x :: st) Q := by
  subst hx
  subst hy
  exact gJ_icmp_gt hd ht (fun h => kt ((nI_ltI hb ha).mp h)) (fun h => kf (mt (nI_ltI hb ha).mpr h))
theorem gJ_if_gtN {a : Nat} {x : Int32} {off : Int} {tgt : Nat} (hx : x = nI a) (ha : a < 2 ^ 31) (hd : decode k.2.1 pc = .ok (.ifCond .gt off, 3)) (ht : (pc : Int) + off = (tgt : Int)) (kt : 0 < a → gJ G k d nc ns M tgt lv st Q) (kf : ¬ 0 < a → gJ G k d nc ns M (pc + 3) lv st Q) : gJ G k d nc ns M pc lv (.int x :: st) Q := by
  subst hx
  exact gJ_if_gt hd ht (fun h => kt ((nI_ltI (by decide : 0 < 2 ^ 31) ha).mp h)) (fun h => kf (mt (nI_ltI (by decide : 0 < 2 ^ 31) ha).mpr h))
theorem gJ_icmp_leN {a b : Nat} {x y : Int32} {off : Int} {tgt : Nat} (hx : x = nI a) (hy : y = nI b) (ha : a < 2 ^ 31) (hb : b < 2 ^ 31) (hd : decode k.2.1 pc = .ok (.if_icmp .le off, 3)) (ht : (pc : Int) + off = (tgt : Int)) (kt : a ≤ b → gJ G k d nc ns M tgt lv st Q) (kf : ¬ a ≤ b → gJ G k d nc ns M (pc + 3) lv st Q) : gJ G k d nc ns M pc lv (.int y :: .int x :: st) Q := by
  subst hx
  subst hy
  exact gJ_icmp_le hd ht (fun h => kt ((nI_leI ha hb).mp h)) (fun h => kf (mt (nI_leI ha hb).mpr h))
theorem gJ_if_leN {a : Nat} {x : Int32} {off : Int} {tgt : Nat} (hx : x = nI a) (ha : a < 2 ^ 31) (hd : decode k.2.1 pc = .ok (.ifCond .le off, 3)) (ht : (pc : Int) + off = (tgt : Int)) (kt : a ≤ 0 → gJ G k d nc ns M tgt lv st Q) (kf : ¬ a ≤ 0 → gJ G k d nc ns M (pc + 3) lv st Q) : gJ G k d nc ns M pc lv (.int x :: st) Q := by
  subst hx
  exact gJ_if_le hd ht (fun h => kt ((nI_leI ha (by decide : 0 < 2 ^ 31)).mp h)) (fun h => kf (mt (nI_leI ha (by decide : 0 < 2 ^ 31)).mpr h))
end GN
theorem all_t {n : Nat} {p : Nat → Bool} (h : ∀ j, j < n → p j = true) : (List.range n).all p = true := List.all_eq_true.mpr (fun x hx => h x (List.mem_range.mp hx))
theorem all_f {n j : Nat} {p : Nat → Bool} (hj : j < n) (h : p j = false) : (List.range n).all p = false := by
  rw [← Bool.not_eq_true]
  intro hh
  have := List.all_eq_true.mp hh j (List.mem_range.mpr hj)
  rw [h] at this
  cases this
theorem any_t {n j : Nat} {p : Nat → Bool} (hj : j < n) (h : p j = true) : (List.range n).any p = true := List.any_eq_true.mpr ⟨j, List.mem_range.mpr hj, h⟩
theorem any_f {n : Nat} {p : Nat → Bool} (h : ∀ j, j < n → p j = false) : (List.range n).any p = false := by
  rw [← Bool.not_eq_true]
  intro hh
  obtain ⟨x, hx, h2⟩ := List.any_eq_true.mp hh
  rw [h x (List.mem_range.mp hx)] at h2
  cases h2
/-- the first place that fits, else -5 -/
def mFind (n : Nat) (p : Nat → Bool) : Int32 := match (List.range n).find? p with
  | some j => nI j
  | none => -5
theorem mFind_hit {n j : Nat} {p : Nat → Bool} (hj : j < n) (h : p j = true) (hb : ∀ i, i < j → p i = false) : mFind n p = nI j := by
  have : (List.range n).find? p = some j := by
    rw [List.find?_range_eq_some]
    exact ⟨h, List.mem_range.mpr hj, fun i hi => by simp [hb i hi]⟩
  simp [mFind, this]
theorem mFind_none {n : Nat} {p : Nat → Bool} (hb : ∀ i, i < n → p i = false) : mFind n p = -5 := by
  have : (List.range n).find? p = none := by
    rw [List.find?_eq_none]
    intro x hx
    simp [hb x (List.mem_range.mp hx)]
  simp [mFind, this]
