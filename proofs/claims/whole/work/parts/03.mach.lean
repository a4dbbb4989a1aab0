/-! THE MACHINE MADE SMALL. A memory is a partial map from addresses to objects and arrays, with the next free address; 'gJ' says: from this memory, at this place of this method, with these locals and this stack, the machine comes to a place where Q holds. One rule for each instruction; all that the kit wants of frames, rooms and words is inside. -/
/-- the words of the tables that a call hands on -/
def gW0 : List Cond := lw_tbl.filter goodWord
theorem gw_in {w : Cond} (h : w ∈ lw_tbl) (hg : goodWord w = true) : w ∈ gW0 := List.mem_filter.mpr ⟨h, hg⟩
theorem gw_sub {w : Cond} (h : w ∈ gW0) : w ∈ lw_tbl := (List.mem_filter.mp h).1
theorem gw_good {w : Cond} (h : w ∈ gW0) : goodWord w = true := (List.mem_filter.mp h).2
/-- the links to private members of nest mates -/
def gNest : List Cond := [(Jvm.Cond.methodLinkNest "AlertEngine" (11 : Nat) ({ cls := "AlertEngine$Tape", name := "<init>", desc := "()V" } : Jvm.MethodName) "AlertEngine"), (Jvm.Cond.methodLinkNest "AlertEngine" (18 : Nat) ({ cls := "AlertEngine$State", name := "<init>", desc := "()V" } : Jvm.MethodName) "AlertEngine"), (Jvm.Cond.fieldLinkNest "AlertEngine$Setup" (56 : Nat) "AlertEngine" "FIRST_SET" "[I" "AlertEngine"), (Jvm.Cond.methodLinkNest "AlertEngine$State" (20 : Nat) ({ cls := "AlertEngine$AlertStates", name := "<init>", desc := "()V" } : Jvm.MethodName) "AlertEngine"), (Jvm.Cond.methodLinkNest "AlertEngine$State" (27 : Nat) ({ cls := "AlertEngine$Groups", name := "<init>", desc := "()V" } : Jvm.MethodName) "AlertEngine"), (Jvm.Cond.methodLinkNest "AlertEngine$State" (34 : Nat) ({ cls := "AlertEngine$Log", name := "<init>", desc := "()V" } : Jvm.MethodName) "AlertEngine"), (Jvm.Cond.methodLinkNest "AlertEngine$Tape" (32 : Nat) ({ cls := "AlertEngine$Matchers", name := "<init>", desc := "()V" } : Jvm.MethodName) "AlertEngine"), (Jvm.Cond.fieldLinkNest "AlertEngine$Tape" (52 : Nat) "AlertEngine" "GREATEST_OF_LABEL" "[I" "AlertEngine"), (Jvm.Cond.fieldLinkNest "AlertEngine$Tape" (94 : Nat) "AlertEngine" "FIRST_SET" "[I" "AlertEngine"), (Jvm.Cond.methodLinkNest "AlertEngine$Rule" (1 : Nat) ({ cls := "AlertEngine$Entry", name := "<init>", desc := "()V" } : Jvm.MethodName) "AlertEngine"), (Jvm.Cond.methodLinkNest "AlertEngine$Silence" (1 : Nat) ({ cls := "AlertEngine$Entry", name := "<init>", desc := "()V" } : Jvm.MethodName) "AlertEngine"), (Jvm.Cond.methodLinkNest "AlertEngine$Inhibition" (1 : Nat) ({ cls := "AlertEngine$Entry", name := "<init>", desc := "()V" } : Jvm.MethodName) "AlertEngine"), (Jvm.Cond.methodLinkNest "AlertEngine$AlertStates" (34 : Nat) ({ cls := "AlertEngine", name := "has", desc := "(JI)Z" } : Jvm.MethodName) "AlertEngine"), (Jvm.Cond.fieldLinkNest "AlertEngine$Setup" (100 : Nat) "AlertEngine" "GREATEST_OF_LABEL" "[I" "AlertEngine"), (Jvm.Cond.methodLinkNest "AlertEngine$State" (142 : Nat) ({ cls := "AlertEngine", name := "has", desc := "(JI)Z" } : Jvm.MethodName) "AlertEngine")]
def gNw (U : State) : Prop := (∀ w ∈ gNest, va_Nw w U) ∧ va_AO RX6 U ∧ va_AO RX8 U ∧ va_AO RX3 U
theorem gNest_is : ∀ w ∈ gNest, (∃ a i b n d h, w = Cond.fieldLinkNest a i b n d h) ∨ (∃ a i x h, w = Cond.methodLinkNest a i x h) := by
  intro w hw
  simp only [gNest, List.mem_cons, List.not_mem_nil, or_false] at hw
  rcases hw with rfl | rfl | rfl | rfl | rfl | rfl | rfl | rfl | rfl | rfl | rfl | rfl | rfl | rfl | rfl <;> first | exact Or.inl ⟨_, _, _, _, _, _, rfl⟩ | exact Or.inr ⟨_, _, _, _, rfl⟩
theorem gNw_warm {s U : State} (hW : s.WarmedH U.vm) (h : gNw s) : gNw U := by
  refine ⟨fun w hw => ?_, h.2.1.moved hW.alike, h.2.2.1.moved hW.alike, h.2.2.2.moved hW.alike⟩
  have h1 := h.1 w hw
  rcases gNest_is w hw with ⟨_, _, _, _, _, _, rfl⟩ | ⟨_, _, _, _, rfl⟩
  · exact va_Nw.warmF hW h1
  · exact va_Nw.warmM hW h1
theorem gNw_same {s U : State} (hv : s.vm = U.vm) (h : gNw s) : gNw U := by
  have ha : s.vm.Alike U.vm := hv ▸ Vm.Alike.refl s.vm
  refine ⟨fun w hw => ?_, h.2.1.moved ha, h.2.2.1.moved ha, h.2.2.2.moved ha⟩
  have h1 := h.1 w hw
  rcases gNest_is w hw with ⟨_, _, _, _, _, _, rfl⟩ | ⟨_, _, _, _, rfl⟩ <;> exact va_Nw.same rfl hv h1
theorem gw_len : (k2_sels lw_privs).length = 53 := by decide +kernel
theorem gw_oi1 : Cond.instanceMethod objectInit ∈ gW0 := gw_in (List.mem_of_getElem? (i := 77) (by decide +kernel)) rfl
theorem gw_oi2 : Cond.code objectInit ⟨#[0xb1]⟩ 1 none ∈ gW0 := gw_in (List.mem_of_getElem? (i := 78) (by decide +kernel)) rfl
theorem gw_aI : Cond.arrayClass .int ∈ gW0 := gw_in (List.mem_of_getElem? (i := 101) (by decide +kernel)) rfl
theorem gw_aZ : Cond.arrayClass .boolean ∈ gW0 := gw_in (List.mem_of_getElem? (i := 163) (by decide +kernel)) rfl
theorem gw_aJ : Cond.arrayClass .long ∈ gW0 := gw_in (List.mem_of_getElem? (i := 164) (by decide +kernel)) rfl
theorem gw_ac1 : Cond.static arraycopyName ∈ gW0 := gw_in (List.mem_of_getElem? (i := 746) (by decide +kernel)) rfl
theorem gw_ac2 : Cond.native arraycopyName ∈ gW0 := gw_in (List.mem_of_getElem? (i := 747) (by decide +kernel)) rfl
theorem gw_ac3 : Cond.initialized "java/lang/System" ∈ gW0 := gw_in (List.mem_of_getElem? (i := 70) (by decide +kernel)) rfl
abbrev gE : Type := (Nat × vp_A) ⊕ (Nat × List Value)
abbrev gM : Type := (Nat → Option gE) × Nat
abbrev gG : Type := (Nat → ClassId) × (Nat → Nat → Nat) × (Nat → ClassId) × Nat × (Nat → Nat) × Nat × (Nat → Int32)
def gD (G : gG) : va_G := (G.1, G.2.1)
def gB (G : gG) : Nat := G.2.2.2.1
def gS (G : gG) : Nat → Nat := G.2.2.2.2.1
/-- the script: its length and its ints (its address: gS G 4) -/
def gSL (G : gG) : Nat := G.2.2.2.2.2.1
def gSX (G : gG) : Nat → Int32 := G.2.2.2.2.2.2
abbrev gTys (G : gG) : List (ClassId × FieldType) := [(G.2.2.1 0, .int), (G.2.2.1 1, .boolean), (G.2.2.1 2, .long), (G.2.2.1 3, .object RX6), (G.2.2.1 4, .object RX8), (G.2.2.1 5, .object RX3)]
def gCv (G : gG) (c : gE) : va_E := match c with
  | .inl x => .inl (G.2.2.1 x.1, x.2)
  | .inr o => .inr o
def gA (G : gG) : Nat → Prop := fun q => gB G ≤ q
abbrev gI (n : Nat) (f : Nat → Int32) : gE := .inl (0, n, .inl f)
abbrev gZ (n : Nat) (f : Nat → Int32) : gE := .inl (1, n, .inl f)
abbrev gL (n : Nat) (f : Nat → Int64) : gE := .inl (2, n, .inr (.inl f))
abbrev gR (t n : Nat) (f : Nat → Option Nat) : gE := .inl (t, n, .inr (.inr (.inr (.inr f))))
abbrev gO (ci : Nat) (fs : List Value) : gE := .inr (ci, fs)
def gW (G : gG) (M : gM) (H : Heap) : Prop := (∀ (q : Nat) (c : gE), M.1 q = some c → gB G ≤ q ∧ va_at (gD G) vwCl (q, gCv G c) H) ∧ gB G ≤ H.size ∧ H.size = M.2
def gUp (M : gM) (a : Nat) (c : gE) : gM := (fun q => if q = a then some c else M.1 q, M.2)
def gNew (M : gM) (c : gE) : gM := (fun q => if q = M.2 then some c else M.1 q, M.2 + 1)
theorem gW_lt {G : gG} {M : gM} {H : Heap} (h : gW G M H) {q : Nat} {c : gE} (hq : M.1 q = some c) : q < H.size := (h.1 q c hq).2.lt
theorem gW_up {G : gG} {M : gM} {H H1 : Heap} {a : Nat} {c0 c : gE} (h : gW G M H) (h0 : M.1 a = some c0) (hc : va_at (gD G) vwCl (a, gCv G c) H1) (z : H1.size = H.size) (oq : ∀ q : Nat, q ≠ a → H1[q]? = H[q]?) : gW G (gUp M a c) H1 := by
  refine ⟨fun q c1 hq => ?_, by rw [z]; exact h.2.1, by rw [z]; exact h.2.2⟩
  by_cases e : q = a
  · subst e
    simp only [gUp, if_true] at hq
    cases hq
    exact ⟨(h.1 q c0 h0).1, hc⟩
  · simp only [gUp, if_neg e] at hq
    exact ⟨(h.1 q c1 hq).1, (h.1 q c1 hq).2.kept (oq q e)⟩
theorem gW_new {G : gG} {M : gM} {H H1 : Heap} {c : gE} (h : gW G M H) (hc : va_at (gD G) vwCl (H.size, gCv G c) H1) (z : H1.size = H.size + 1) (oq : ∀ q : Nat, q < H.size → H1[q]? = H[q]?) : gW G (gNew M c) H1 := by
  refine ⟨fun q c1 hq => ?_, by rw [z]; exact Nat.le_succ_of_le h.2.1, by rw [z, h.2.2]; rfl⟩
  by_cases e : q = M.2
  · subst e
    simp only [gNew, if_true] at hq
    cases hq
    rw [← h.2.2]
    exact ⟨h.2.1, hc⟩
  · simp only [gNew, if_neg e] at hq
    exact ⟨(h.1 q c1 hq).1, (h.1 q c1 hq).2.kept (oq q (gW_lt h hq))⟩
theorem gW_one {G : gG} {M : gM} {H : Heap} (h : gW G M H) {a : Nat} {c : gE} (hc : M.1 a = some c) : va_P (gD G) vwCl [(a, gCv G c)] H := by
  intro k q hk
  have hz : k < 1 := (List.getElem?_eq_some_iff.mp hk).1
  rw [show k = 0 by omega] at hk
  cases hk
  exact (h.1 a c hc).2
/-- the static arrays: their names, lengths and values -/
def gSt (i : Nat) : String × Nat × (Nat → Int32) := match i with
  | 0 => ("FIRST_SET", 4, fun j => match j with | 0 => 0 | 1 => 4 | 2 => 12 | _ => 16)
  | 1 => ("GREATEST_OF_LABEL", 4, fun j => match j with | 0 => 3 | 1 => 7 | 2 => 3 | _ => 3)
  | 2 => ("LEAST", 5, fun j => match j with | 0 => 1 | 1 => 1 | 2 => 1 | 3 => 2 | _ => 0)
  | _ => ("GREATEST", 5, fun j => match j with | 0 => 60 | 1 => 999 | 2 => 999 | 3 => 20 | _ => 7)
def gStat (G : gG) (U : State) (H : Heap) : Prop := va_T .int (gS G 4) (gSL G) (fun j => .int (gSX G j)) (gA G) U H ∧ ∀ i : Nat, i < 4 → va_Z RX11 (gSt i).1 "[I" (.ref (gS G i)) (gA G) U H ∧ va_T .int (gS G i) (gSt i).2.1 (fun j => .int ((gSt i).2.2 j)) (gA G) U H
def gCtx (G : gG) (k : gMd) (p : Program) (s : State) (m : MethodId) (args : Array Value) (meth : Method) (c : Code) : Prop :=
  p.tables.exec = Jvm.exec ∧ c.code = k.2.1 ∧ c.maxLocals = k.2.2.1 ∧ s.vm.findClass k.1.cls = some m.cls ∧ (∀ w ∈ gW0, w.before args s = true) ∧ va_K (gD G) vwCl (gTys G) s ∧ gStat G s s.heap ∧ gB G ≤ s.heap.size ∧ meth.name = k.1.name ∧ gNw s
abbrev gP : Type := gM → Nat → List (Nat × Value) → List Value → Prop
def gJ (G : gG) (k : gMd) (d nc ns : Nat) (M : gM) (pc : Nat) (lv : List (Nat × Value)) (st : List Value) (Q : gP) : Prop :=
  ∀ (p : Program) (l : Launch) (e : Env) (R : Room) (s : State) (m : MethodId) (args : Array Value) (below : List Frame) (meth : Method) (c : Code) (H : Heap) (locs : List Loc) (cells slots : Nat) (Z : State → Prop) (ls : Array Slot),
    gCtx G k p s m args meth c → gW G M H → va_S (gA G) s.heap H locs → lv_has ls k.2.2.1 lv → d ≤ R.frames → 39 * d ≤ R.locals → cells + nc ≤ R.cells → slots + ns ≤ R.slots →
    (∀ (M' : gM) (pc' : Nat) (lv' : List (Nat × Value)) (st' : List Value) (H' : Heap) (locs' : List Loc) (cells' slots' : Nat) (ls' : Array Slot), Q M' pc' lv' st' → gW G M' H' → va_S (gA G) s.heap H' locs' → lv_has ls' k.2.2.1 lv' → cells' ≤ cells + nc → slots' ≤ slots + ns →
      W p l e R s m args below meth c H' locs' cells' slots' Z (F0 m pc' ls' st')) →
    W p l e R s m args below meth c H locs cells slots Z (F0 m pc ls st)
theorem gJ_done {G : gG} {k : gMd} {d nc ns : Nat} {M : gM} {pc : Nat} {lv : List (Nat × Value)} {st : List Value} {Q : gP} (h : Q M pc lv st) : gJ G k d nc ns M pc lv st Q := by
  intro p l e R s m args below meth c H locs cells slots Z ls C hw hs hl h1 h2 h3 h4 K
  exact K M pc lv st H locs cells slots ls h hw hs hl (Nat.le_add_right _ _) (Nat.le_add_right _ _)
theorem gJ_cut {G : gG} {k : gMd} {d a1 a2 b1 b2 : Nat} {M : gM} {pc : Nat} {lv : List (Nat × Value)} {st : List Value} {Q1 Q : gP} (h : gJ G k d a1 a2 M pc lv st Q1) (h2 : ∀ M' pc' lv' st', Q1 M' pc' lv' st' → gJ G k d b1 b2 M' pc' lv' st' Q) : gJ G k d (a1 + b1) (a2 + b2) M pc lv st Q := by
  intro p l e R s m args below meth c H locs cells slots Z ls C hw hs hl h3 h4 h5 h6 K
  refine h p l e R s m args below meth c H locs cells slots Z ls C hw hs hl h3 h4 (by omega) (by omega) ?_
  intro M' pc' lv' st' H' locs' cells' slots' ls' q1 q2 q3 q4 q5 q6
  refine h2 M' pc' lv' st' q1 p l e R s m args below meth c H' locs' cells' slots' Z ls' C q2 q3 q4 h3 h4 (by omega) (by omega) ?_
  intro M'' pc'' lv'' st'' H'' locs'' cells'' slots'' ls'' r1 r2 r3 r4 r5 r6
  exact K M'' pc'' lv'' st'' H'' locs'' cells'' slots'' ls'' r1 r2 r3 r4 (by omega) (by omega)
theorem gJ_mono {G : gG} {k : gMd} {d d' nc ns nc' ns' : Nat} {M : gM} {pc : Nat} {lv : List (Nat × Value)} {st : List Value} {Q : gP} (h : gJ G k d nc ns M pc lv st Q) (hd : d ≤ d') (h1 : nc ≤ nc') (h2 : ns ≤ ns') : gJ G k d' nc' ns' M pc lv st Q := by
  intro p l e R s m args below meth c H locs cells slots Z ls C hw hs hl h3 h4 h5 h6 K
  refine h p l e R s m args below meth c H locs cells slots Z ls C hw hs hl (by omega) (by omega) (by omega) (by omega) ?_
  intro M' pc' lv' st' H' locs' cells' slots' ls' q1 q2 q3 q4 q5 q6
  exact K M' pc' lv' st' H' locs' cells' slots' ls' q1 q2 q3 q4 (by omega) (by omega)
/-- fewer locals -/
theorem gJ_lv {G : gG} {k : gMd} {d nc ns : Nat} {M : gM} {pc : Nat} {lv lv' : List (Nat × Value)} {st : List Value} {Q : gP} (hl : ∀ q ∈ lv', q ∈ lv) (h : gJ G k d nc ns M pc lv' st Q) : gJ G k d nc ns M pc lv st Q := by
  intro p l e R s m args below meth c H locs cells slots Z ls C hw hs hl' h1 h2 h3 h4 K
  exact h p l e R s m args below meth c H locs cells slots Z ls C hw hs ⟨hl'.1, hl'.2.1, fun q hq => hl'.2.2 q (hl q hq)⟩ h1 h2 h3 h4 K
/-- locals: what place i holds -/
def gAt (lv : List (Nat × Value)) (i : Nat) : Option Value := match lv with
  | [] => none
  | q :: r => if q.1 = i then some q.2 else gAt r i
theorem gAt_mem {lv : List (Nat × Value)} {i : Nat} {v : Value} (h : gAt lv i = some v) : (i, v) ∈ lv := by
  induction lv with
  | nil => cases h
  | cons q r ih =>
    unfold gAt at h
    by_cases e : q.1 = i
    · rw [if_pos e] at h
      cases h
      subst e
      exact List.mem_cons_self
    · rw [if_neg e] at h
      exact List.mem_cons_of_mem _ (ih h)
def gF1 (i : Nat) (lv : List (Nat × Value)) : List (Nat × Value) := lv.filter (fun q => !(q.1 == i) && !(q.1 + 1 == i && q.2.category == 2))
def gF2 (i : Nat) (lv : List (Nat × Value)) : List (Nat × Value) := lv.filter (fun q => !(q.1 == i) && (!(q.1 == i + 1) && !(q.1 + 1 == i && q.2.category == 2)))
section GJ
variable {G : gG} {k : gMd} {d nc ns : Nat} {M : gM} {pc : Nat} {lv lv2 : List (Nat × Value)} {st : List Value} {Q : gP}
theorem gJ_iconst {n : Int} {v : Int32} (hd : decode k.2.1 pc = .ok (.iconst n, 1)) (hv : Int32.ofInt n = v) (kk : gJ G k d nc ns M (pc + 1) lv (.int v :: st) Q) : gJ G k d nc ns M pc lv (st) Q := by
  intro p l e R s m args below meth c H locs cells slots Z ls C hw hs hl h1 h2 h3 h4 K
  exact lv_iconst C.1 C.2.1 hd hv (kk p l e R s m args below meth c H locs cells slots Z ls C hw hs hl h1 h2 h3 h4 K)
theorem gJ_bipush {n : Int} {v : Int32} (hd : decode k.2.1 pc = .ok (.bipush n, 2)) (hv : (Int8.ofInt n).toInt32 = v) (kk : gJ G k d nc ns M (pc + 2) lv (.int v :: st) Q) : gJ G k d nc ns M pc lv (st) Q := by
  intro p l e R s m args below meth c H locs cells slots Z ls C hw hs hl h1 h2 h3 h4 K
  exact lv_bipush C.1 C.2.1 hd hv (kk p l e R s m args below meth c H locs cells slots Z ls C hw hs hl h1 h2 h3 h4 K)
theorem gJ_sipush {n : Int} {v : Int32} (hd : decode k.2.1 pc = .ok (.sipush n, 3)) (hv : (Int16.ofInt n).toInt32 = v) (kk : gJ G k d nc ns M (pc + 3) lv (.int v :: st) Q) : gJ G k d nc ns M pc lv (st) Q := by
  intro p l e R s m args below meth c H locs cells slots Z ls C hw hs hl h1 h2 h3 h4 K
  exact lv_sipush C.1 C.2.1 hd hv (kk p l e R s m args below meth c H locs cells slots Z ls C hw hs hl h1 h2 h3 h4 K)
theorem gJ_lconst {n : Fin 2} {v : Int64} (hd : decode k.2.1 pc = .ok (.lconst n, 1)) (hv : Int64.ofNat (n : Nat) = v) (kk : gJ G k d nc ns M (pc + 1) lv (.long v :: st) Q) : gJ G k d nc ns M pc lv (st) Q := by
  intro p l e R s m args below meth c H locs cells slots Z ls C hw hs hl h1 h2 h3 h4 K
  exact lv_lconst C.1 C.2.1 hd hv (kk p l e R s m args below meth c H locs cells slots Z ls C hw hs hl h1 h2 h3 h4 K)
theorem gJ_null (hd : decode k.2.1 pc = .ok (.aconst_null, 1)) (kk : gJ G k d nc ns M (pc + 1) lv (.null :: st) Q) : gJ G k d nc ns M pc lv (st) Q := by
  intro p l e R s m args below meth c H locs cells slots Z ls C hw hs hl h1 h2 h3 h4 K
  exact lv_null C.1 C.2.1 hd (kk p l e R s m args below meth c H locs cells slots Z ls C hw hs hl h1 h2 h3 h4 K)
theorem gJ_ldc {i : Nat} {v : Int32} (hd : decode k.2.1 pc = .ok (.ldc i, 2)) (hc : Cond.constant k.1.cls i v ∈ gW0) (kk : gJ G k d nc ns M (pc + 2) lv (.int v :: st) Q) : gJ G k d nc ns M pc lv (st) Q := by
  intro p l e R s m args below meth c H locs cells slots Z ls C hw hs hl h1 h2 h3 h4 K
  exact lv_ldc C.1 C.2.1 C.2.2.2.1 (C.2.2.2.2.1 _ hc) hd (kk p l e R s m args below meth c H locs cells slots Z ls C hw hs hl h1 h2 h3 h4 K)
theorem gJ_ldcw {i : Nat} {v : Int32} (hd : decode k.2.1 pc = .ok (.ldc_w i, 3)) (hc : Cond.constant k.1.cls i v ∈ gW0) (kk : gJ G k d nc ns M (pc + 3) lv (.int v :: st) Q) : gJ G k d nc ns M pc lv (st) Q := by
  intro p l e R s m args below meth c H locs cells slots Z ls C hw hs hl h1 h2 h3 h4 K
  exact lv_ldcw C.1 C.2.1 C.2.2.2.1 (C.2.2.2.2.1 _ hc) hd (kk p l e R s m args below meth c H locs cells slots Z ls C hw hs hl h1 h2 h3 h4 K)
theorem gJ_ldc2 {i : Nat} {v : Int64} (hd : decode k.2.1 pc = .ok (.ldc2_w i, 3)) (hc : Cond.constantLong k.1.cls i v ∈ gW0) (kk : gJ G k d nc ns M (pc + 3) lv (.long v :: st) Q) : gJ G k d nc ns M pc lv (st) Q := by
  intro p l e R s m args below meth c H locs cells slots Z ls C hw hs hl h1 h2 h3 h4 K
  exact lv_ldc2 C.1 C.2.1 C.2.2.2.1 (C.2.2.2.2.1 _ hc) hd (kk p l e R s m args below meth c H locs cells slots Z ls C hw hs hl h1 h2 h3 h4 K)
theorem gJ_iload_n {j : Fin 4} {i : Nat} {x : Int32} (hd : decode k.2.1 pc = .ok (.iload_n j, 1)) (hi : (j : Nat) = i) (hg : gAt lv i = some (.int x)) (kk : gJ G k d nc ns M (pc + 1) lv (.int x :: st) Q) : gJ G k d nc ns M pc lv (st) Q := by
  intro p l e R s m args below meth c H locs cells slots Z ls C hw hs hl h1 h2 h3 h4 K
  exact lv_iload_n C.1 C.2.1 hd hi (hl.2.2 _ (gAt_mem hg)) (kk p l e R s m args below meth c H locs cells slots Z ls C hw hs hl h1 h2 h3 h4 K)
theorem gJ_iload {i : Nat} {x : Int32} (hd : decode k.2.1 pc = .ok (.iload i, 2)) (hg : gAt lv i = some (.int x)) (kk : gJ G k d nc ns M (pc + 2) lv (.int x :: st) Q) : gJ G k d nc ns M pc lv (st) Q := by
  intro p l e R s m args below meth c H locs cells slots Z ls C hw hs hl h1 h2 h3 h4 K
  exact lv_iload C.1 C.2.1 hd (hl.2.2 _ (gAt_mem hg)) (kk p l e R s m args below meth c H locs cells slots Z ls C hw hs hl h1 h2 h3 h4 K)
theorem gJ_lload_n {j : Fin 4} {i : Nat} {x : Int64} (hd : decode k.2.1 pc = .ok (.lload_n j, 1)) (hi : (j : Nat) = i) (hg : gAt lv i = some (.long x)) (kk : gJ G k d nc ns M (pc + 1) lv (.long x :: st) Q) : gJ G k d nc ns M pc lv (st) Q := by
  intro p l e R s m args below meth c H locs cells slots Z ls C hw hs hl h1 h2 h3 h4 K
  exact lv_lload_n C.1 C.2.1 hd hi (hl.2.2 _ (gAt_mem hg)) (kk p l e R s m args below meth c H locs cells slots Z ls C hw hs hl h1 h2 h3 h4 K)
theorem gJ_lload {i : Nat} {x : Int64} (hd : decode k.2.1 pc = .ok (.lload i, 2)) (hg : gAt lv i = some (.long x)) (kk : gJ G k d nc ns M (pc + 2) lv (.long x :: st) Q) : gJ G k d nc ns M pc lv (st) Q := by
  intro p l e R s m args below meth c H locs cells slots Z ls C hw hs hl h1 h2 h3 h4 K
  exact lv_lload C.1 C.2.1 hd (hl.2.2 _ (gAt_mem hg)) (kk p l e R s m args below meth c H locs cells slots Z ls C hw hs hl h1 h2 h3 h4 K)
theorem gJ_aload_n {j : Fin 4} {i : Nat} {x : Nat} (hd : decode k.2.1 pc = .ok (.aload_n j, 1)) (hi : (j : Nat) = i) (hg : gAt lv i = some (.ref x)) (kk : gJ G k d nc ns M (pc + 1) lv (.ref x :: st) Q) : gJ G k d nc ns M pc lv (st) Q := by
  intro p l e R s m args below meth c H locs cells slots Z ls C hw hs hl h1 h2 h3 h4 K
  exact lv_aload_n C.1 C.2.1 hd hi (hl.2.2 _ (gAt_mem hg)) (kk p l e R s m args below meth c H locs cells slots Z ls C hw hs hl h1 h2 h3 h4 K)
theorem gJ_aload {i : Nat} {x : Nat} (hd : decode k.2.1 pc = .ok (.aload i, 2)) (hg : gAt lv i = some (.ref x)) (kk : gJ G k d nc ns M (pc + 2) lv (.ref x :: st) Q) : gJ G k d nc ns M pc lv (st) Q := by
  intro p l e R s m args below meth c H locs cells slots Z ls C hw hs hl h1 h2 h3 h4 K
  exact lv_aload C.1 C.2.1 hd (hl.2.2 _ (gAt_mem hg)) (kk p l e R s m args below meth c H locs cells slots Z ls C hw hs hl h1 h2 h3 h4 K)
theorem gJ_aload_nN {j : Fin 4} {i : Nat} (hd : decode k.2.1 pc = .ok (.aload_n j, 1)) (hi : (j : Nat) = i) (hg : gAt lv i = some .null) (kk : gJ G k d nc ns M (pc + 1) lv (.null :: st) Q) : gJ G k d nc ns M pc lv (st) Q := by
  intro p l e R s m args below meth c H locs cells slots Z ls C hw hs hl h1 h2 h3 h4 K
  exact lv_aload_nN C.1 C.2.1 hd hi (hl.2.2 _ (gAt_mem hg)) (kk p l e R s m args below meth c H locs cells slots Z ls C hw hs hl h1 h2 h3 h4 K)
theorem gJ_aloadN {i : Nat} (hd : decode k.2.1 pc = .ok (.aload i, 2)) (hg : gAt lv i = some .null) (kk : gJ G k d nc ns M (pc + 2) lv (.null :: st) Q) : gJ G k d nc ns M pc lv (st) Q := by
  intro p l e R s m args below meth c H locs cells slots Z ls C hw hs hl h1 h2 h3 h4 K
  exact lv_aloadN C.1 C.2.1 hd (hl.2.2 _ (gAt_mem hg)) (kk p l e R s m args below meth c H locs cells slots Z ls C hw hs hl h1 h2 h3 h4 K)
theorem gJ_istore_n {j : Fin 4} {i : Nat} {x : Int32} (hd : decode k.2.1 pc = .ok (.istore_n j, 1)) (hi : (j : Nat) = i) (hn : decide (i < k.2.2.1) = true) (h2 : (i, .int x) :: gF1 i lv = lv2) (kk : gJ G k d nc ns M (pc + 1) lv2 st Q) : gJ G k d nc ns M pc lv (.int x :: st) Q := by
  intro p l e R s m args below meth c H locs cells slots Z ls C hw hs hl h1 h2_ h3 h4 K
  exact lv_istore_n C.1 C.2.1 hd hi hl (of_decide_eq_true hn) h2 (fun ls hl => kk p l e R s m args below meth c H locs cells slots Z ls C hw hs hl h1 h2_ h3 h4 K)
theorem gJ_istore {i : Nat} {x : Int32} (hd : decode k.2.1 pc = .ok (.istore i, 2)) (hn : decide (i < k.2.2.1) = true) (h2 : (i, .int x) :: gF1 i lv = lv2) (kk : gJ G k d nc ns M (pc + 2) lv2 st Q) : gJ G k d nc ns M pc lv (.int x :: st) Q := by
  intro p l e R s m args below meth c H locs cells slots Z ls C hw hs hl h1 h2_ h3 h4 K
  exact lv_istore C.1 C.2.1 hd hl (of_decide_eq_true hn) h2 (fun ls hl => kk p l e R s m args below meth c H locs cells slots Z ls C hw hs hl h1 h2_ h3 h4 K)
theorem gJ_lstore_n {j : Fin 4} {i : Nat} {x : Int64} (hd : decode k.2.1 pc = .ok (.lstore_n j, 1)) (hi : (j : Nat) = i) (hn : decide (i + 1 < k.2.2.1) = true) (h2 : (i, .long x) :: gF2 i lv = lv2) (kk : gJ G k d nc ns M (pc + 1) lv2 st Q) : gJ G k d nc ns M pc lv (.long x :: st) Q := by
  intro p l e R s m args below meth c H locs cells slots Z ls C hw hs hl h1 h2_ h3 h4 K
  exact lv_lstore_n C.1 C.2.1 hd hi hl (of_decide_eq_true hn) h2 (fun ls hl => kk p l e R s m args below meth c H locs cells slots Z ls C hw hs hl h1 h2_ h3 h4 K)
theorem gJ_lstore {i : Nat} {x : Int64} (hd : decode k.2.1 pc = .ok (.lstore i, 2)) (hn : decide (i + 1 < k.2.2.1) = true) (h2 : (i, .long x) :: gF2 i lv = lv2) (kk : gJ G k d nc ns M (pc + 2) lv2 st Q) : gJ G k d nc ns M pc lv (.long x :: st) Q := by
  intro p l e R s m args below meth c H locs cells slots Z ls C hw hs hl h1 h2_ h3 h4 K
  exact lv_lstore C.1 C.2.1 hd hl (of_decide_eq_true hn) h2 (fun ls hl => kk p l e R s m args below meth c H locs cells slots Z ls C hw hs hl h1 h2_ h3 h4 K)
theorem gJ_astore_n {j : Fin 4} {i : Nat} {x : Nat} (hd : decode k.2.1 pc = .ok (.astore_n j, 1)) (hi : (j : Nat) = i) (hn : decide (i < k.2.2.1) = true) (h2 : (i, .ref x) :: gF1 i lv = lv2) (kk : gJ G k d nc ns M (pc + 1) lv2 st Q) : gJ G k d nc ns M pc lv (.ref x :: st) Q := by
  intro p l e R s m args below meth c H locs cells slots Z ls C hw hs hl h1 h2_ h3 h4 K
  exact lv_astore_n C.1 C.2.1 hd hi hl (of_decide_eq_true hn) h2 (fun ls hl => kk p l e R s m args below meth c H locs cells slots Z ls C hw hs hl h1 h2_ h3 h4 K)
theorem gJ_astore {i : Nat} {x : Nat} (hd : decode k.2.1 pc = .ok (.astore i, 2)) (hn : decide (i < k.2.2.1) = true) (h2 : (i, .ref x) :: gF1 i lv = lv2) (kk : gJ G k d nc ns M (pc + 2) lv2 st Q) : gJ G k d nc ns M pc lv (.ref x :: st) Q := by
  intro p l e R s m args below meth c H locs cells slots Z ls C hw hs hl h1 h2_ h3 h4 K
  exact lv_astore C.1 C.2.1 hd hl (of_decide_eq_true hn) h2 (fun ls hl => kk p l e R s m args below meth c H locs cells slots Z ls C hw hs hl h1 h2_ h3 h4 K)
theorem gJ_astore_nN {j : Fin 4} {i : Nat} (hd : decode k.2.1 pc = .ok (.astore_n j, 1)) (hi : (j : Nat) = i) (hn : decide (i < k.2.2.1) = true) (h2 : (i, Value.null) :: gF1 i lv = lv2) (kk : gJ G k d nc ns M (pc + 1) lv2 st Q) : gJ G k d nc ns M pc lv (Value.null :: st) Q := by
  intro p l e R s m args below meth c H locs cells slots Z ls C hw hs hl h1 h2_ h3 h4 K
  exact lv_astore_nN C.1 C.2.1 hd hi hl (of_decide_eq_true hn) h2 (fun ls hl => kk p l e R s m args below meth c H locs cells slots Z ls C hw hs hl h1 h2_ h3 h4 K)
theorem gJ_astoreN {i : Nat} (hd : decode k.2.1 pc = .ok (.astore i, 2)) (hn : decide (i < k.2.2.1) = true) (h2 : (i, Value.null) :: gF1 i lv = lv2) (kk : gJ G k d nc ns M (pc + 2) lv2 st Q) : gJ G k d nc ns M pc lv (Value.null :: st) Q := by
  intro p l e R s m args below meth c H locs cells slots Z ls C hw hs hl h1 h2_ h3 h4 K
  exact lv_astoreN C.1 C.2.1 hd hl (of_decide_eq_true hn) h2 (fun ls hl => kk p l e R s m args below meth c H locs cells slots Z ls C hw hs hl h1 h2_ h3 h4 K)
theorem gJ_iinc {i : Nat} {n : Int} {x v : Int32} (hd : decode k.2.1 pc = .ok (.iinc i n, 3)) (hg : gAt lv i = some (.int x)) (hv : x + Int32.ofInt n = v) (hn : decide (i < k.2.2.1) = true) (h2 : (i, .int v) :: gF1 i lv = lv2) (kk : gJ G k d nc ns M (pc + 3) lv2 st Q) : gJ G k d nc ns M pc lv (st) Q := by
  intro p l e R s m args below meth c H locs cells slots Z ls C hw hs hl h1 h2_ h3 h4 K
  obtain ⟨j, hj⟩ := List.getElem?_of_mem (gAt_mem hg)
  exact lv_iinc C.1 C.2.1 hd hl hj hv (of_decide_eq_true hn) h2 (fun ls hl => kk p l e R s m args below meth c H locs cells slots Z ls C hw hs hl h1 h2_ h3 h4 K)
theorem gJ_iadd {x y : Int32} (hd : decode k.2.1 pc = .ok (.iadd, 1)) (kk : gJ G k d nc ns M (pc + 1) lv (.int (x + y) :: st) Q) : gJ G k d nc ns M pc lv (.int y :: .int x :: st) Q := by
  intro p l e R s m args below meth c H locs cells slots Z ls C hw hs hl h1 h2 h3 h4 K
  exact lv_iadd C.1 C.2.1 hd (kk p l e R s m args below meth c H locs cells slots Z ls C hw hs hl h1 h2 h3 h4 K)
theorem gJ_isub {x y : Int32} (hd : decode k.2.1 pc = .ok (.isub, 1)) (kk : gJ G k d nc ns M (pc + 1) lv (.int (x - y) :: st) Q) : gJ G k d nc ns M pc lv (.int y :: .int x :: st) Q := by
  intro p l e R s m args below meth c H locs cells slots Z ls C hw hs hl h1 h2 h3 h4 K
  exact lv_isub C.1 C.2.1 hd (kk p l e R s m args below meth c H locs cells slots Z ls C hw hs hl h1 h2 h3 h4 K)
theorem gJ_imul {x y : Int32} (hd : decode k.2.1 pc = .ok (.imul, 1)) (kk : gJ G k d nc ns M (pc + 1) lv (.int (x * y) :: st) Q) : gJ G k d nc ns M pc lv (.int y :: .int x :: st) Q := by
  intro p l e R s m args below meth c H locs cells slots Z ls C hw hs hl h1 h2 h3 h4 K
  exact lv_imul C.1 C.2.1 hd (kk p l e R s m args below meth c H locs cells slots Z ls C hw hs hl h1 h2 h3 h4 K)
theorem gJ_iand {x y : Int32} (hd : decode k.2.1 pc = .ok (.iand, 1)) (kk : gJ G k d nc ns M (pc + 1) lv (.int (x &&& y) :: st) Q) : gJ G k d nc ns M pc lv (.int y :: .int x :: st) Q := by
  intro p l e R s m args below meth c H locs cells slots Z ls C hw hs hl h1 h2 h3 h4 K
  exact lv_iand C.1 C.2.1 hd (kk p l e R s m args below meth c H locs cells slots Z ls C hw hs hl h1 h2 h3 h4 K)
theorem gJ_ior {x y : Int32} (hd : decode k.2.1 pc = .ok (.ior, 1)) (kk : gJ G k d nc ns M (pc + 1) lv (.int (x ||| y) :: st) Q) : gJ G k d nc ns M pc lv (.int y :: .int x :: st) Q := by
  intro p l e R s m args below meth c H locs cells slots Z ls C hw hs hl h1 h2 h3 h4 K
  exact lv_ior C.1 C.2.1 hd (kk p l e R s m args below meth c H locs cells slots Z ls C hw hs hl h1 h2 h3 h4 K)
theorem gJ_ixor {x y : Int32} (hd : decode k.2.1 pc = .ok (.ixor, 1)) (kk : gJ G k d nc ns M (pc + 1) lv (.int (x ^^^ y) :: st) Q) : gJ G k d nc ns M pc lv (.int y :: .int x :: st) Q := by
  intro p l e R s m args below meth c H locs cells slots Z ls C hw hs hl h1 h2 h3 h4 K
  exact lv_ixor C.1 C.2.1 hd (kk p l e R s m args below meth c H locs cells slots Z ls C hw hs hl h1 h2 h3 h4 K)
theorem gJ_idiv {x y : Int32} (hd : decode k.2.1 pc = .ok (.idiv, 1)) (hy : ¬ y = 0) (kk : gJ G k d nc ns M (pc + 1) lv (.int (x / y) :: st) Q) : gJ G k d nc ns M pc lv (.int y :: .int x :: st) Q := by
  intro p l e R s m args below meth c H locs cells slots Z ls C hw hs hl h1 h2 h3 h4 K
  exact lv_idiv C.1 C.2.1 hd hy (kk p l e R s m args below meth c H locs cells slots Z ls C hw hs hl h1 h2 h3 h4 K)
theorem gJ_irem {x y : Int32} (hd : decode k.2.1 pc = .ok (.irem, 1)) (hy : ¬ y = 0) (kk : gJ G k d nc ns M (pc + 1) lv (.int (x - x / y * y) :: st) Q) : gJ G k d nc ns M pc lv (.int y :: .int x :: st) Q := by
  intro p l e R s m args below meth c H locs cells slots Z ls C hw hs hl h1 h2 h3 h4 K
  exact lv_irem C.1 C.2.1 hd hy (kk p l e R s m args below meth c H locs cells slots Z ls C hw hs hl h1 h2 h3 h4 K)
theorem gJ_ineg {x : Int32} (hd : decode k.2.1 pc = .ok (.ineg, 1)) (kk : gJ G k d nc ns M (pc + 1) lv (.int (-x) :: st) Q) : gJ G k d nc ns M pc lv (.int x :: st) Q := by
  intro p l e R s m args below meth c H locs cells slots Z ls C hw hs hl h1 h2 h3 h4 K
  exact lv_ineg C.1 C.2.1 hd (kk p l e R s m args below meth c H locs cells slots Z ls C hw hs hl h1 h2 h3 h4 K)
theorem gJ_ladd {x y : Int64} (hd : decode k.2.1 pc = .ok (.ladd, 1)) (kk : gJ G k d nc ns M (pc + 1) lv (.long (x + y) :: st) Q) : gJ G k d nc ns M pc lv (.long y :: .long x :: st) Q := by
  intro p l e R s m args below meth c H locs cells slots Z ls C hw hs hl h1 h2 h3 h4 K
  exact lv_ladd C.1 C.2.1 hd (kk p l e R s m args below meth c H locs cells slots Z ls C hw hs hl h1 h2 h3 h4 K)
theorem gJ_lsub {x y : Int64} (hd : decode k.2.1 pc = .ok (.lsub, 1)) (kk : gJ G k d nc ns M (pc + 1) lv (.long (x - y) :: st) Q) : gJ G k d nc ns M pc lv (.long y :: .long x :: st) Q := by
  intro p l e R s m args below meth c H locs cells slots Z ls C hw hs hl h1 h2 h3 h4 K
  exact lv_lsub C.1 C.2.1 hd (kk p l e R s m args below meth c H locs cells slots Z ls C hw hs hl h1 h2 h3 h4 K)
theorem gJ_land {x y : Int64} (hd : decode k.2.1 pc = .ok (.land, 1)) (kk : gJ G k d nc ns M (pc + 1) lv (.long (x &&& y) :: st) Q) : gJ G k d nc ns M pc lv (.long y :: .long x :: st) Q := by
  intro p l e R s m args below meth c H locs cells slots Z ls C hw hs hl h1 h2 h3 h4 K
  exact lv_land C.1 C.2.1 hd (kk p l e R s m args below meth c H locs cells slots Z ls C hw hs hl h1 h2 h3 h4 K)
theorem gJ_lor {x y : Int64} (hd : decode k.2.1 pc = .ok (.lor, 1)) (kk : gJ G k d nc ns M (pc + 1) lv (.long (x ||| y) :: st) Q) : gJ G k d nc ns M pc lv (.long y :: .long x :: st) Q := by
  intro p l e R s m args below meth c H locs cells slots Z ls C hw hs hl h1 h2 h3 h4 K
  exact lv_lor C.1 C.2.1 hd (kk p l e R s m args below meth c H locs cells slots Z ls C hw hs hl h1 h2 h3 h4 K)
theorem gJ_lxor {x y : Int64} (hd : decode k.2.1 pc = .ok (.lxor, 1)) (kk : gJ G k d nc ns M (pc + 1) lv (.long (x ^^^ y) :: st) Q) : gJ G k d nc ns M pc lv (.long y :: .long x :: st) Q := by
  intro p l e R s m args below meth c H locs cells slots Z ls C hw hs hl h1 h2 h3 h4 K
  exact lv_lxor C.1 C.2.1 hd (kk p l e R s m args below meth c H locs cells slots Z ls C hw hs hl h1 h2 h3 h4 K)
theorem gJ_ishl {x y : Int32} (hd : decode k.2.1 pc = .ok (.ishl, 1)) (kk : gJ G k d nc ns M (pc + 1) lv (.int (x <<< (y &&& 31)) :: st) Q) : gJ G k d nc ns M pc lv (.int y :: .int x :: st) Q := by
  intro p l e R s m args below meth c H locs cells slots Z ls C hw hs hl h1 h2 h3 h4 K
  exact lv_ishl C.1 C.2.1 hd (kk p l e R s m args below meth c H locs cells slots Z ls C hw hs hl h1 h2 h3 h4 K)
theorem gJ_ishr {x y : Int32} (hd : decode k.2.1 pc = .ok (.ishr, 1)) (kk : gJ G k d nc ns M (pc + 1) lv (.int (x >>> (y &&& 31)) :: st) Q) : gJ G k d nc ns M pc lv (.int y :: .int x :: st) Q := by
  intro p l e R s m args below meth c H locs cells slots Z ls C hw hs hl h1 h2 h3 h4 K
  exact lv_ishr C.1 C.2.1 hd (kk p l e R s m args below meth c H locs cells slots Z ls C hw hs hl h1 h2 h3 h4 K)
theorem gJ_iushr {x y : Int32} (hd : decode k.2.1 pc = .ok (.iushr, 1)) (kk : gJ G k d nc ns M (pc + 1) lv (.int (x.toUInt32 >>> (y.toUInt32 &&& Int32.toUInt32 31)).toInt32 :: st) Q) : gJ G k d nc ns M pc lv (.int y :: .int x :: st) Q := by
  intro p l e R s m args below meth c H locs cells slots Z ls C hw hs hl h1 h2 h3 h4 K
  exact lv_iushr C.1 C.2.1 hd rfl (kk p l e R s m args below meth c H locs cells slots Z ls C hw hs hl h1 h2 h3 h4 K)
theorem gJ_lushr {x : Int64} {y : Int32} (hd : decode k.2.1 pc = .ok (.lushr, 1)) (kk : gJ G k d nc ns M (pc + 1) lv (.long (x.toUInt64 >>> (y.toInt64.toUInt64 &&& Int64.toUInt64 63)).toInt64 :: st) Q) : gJ G k d nc ns M pc lv (.int y :: .long x :: st) Q := by
  intro p l e R s m args below meth c H locs cells slots Z ls C hw hs hl h1 h2 h3 h4 K
  exact lv_lushr C.1 C.2.1 hd rfl (kk p l e R s m args below meth c H locs cells slots Z ls C hw hs hl h1 h2 h3 h4 K)
theorem gJ_lshl {x : Int64} {y : Int32} (hd : decode k.2.1 pc = .ok (.lshl, 1)) (kk : gJ G k d nc ns M (pc + 1) lv (.long (x <<< (y.toInt64 &&& 63)) :: st) Q) : gJ G k d nc ns M pc lv (.int y :: .long x :: st) Q := by
  intro p l e R s m args below meth c H locs cells slots Z ls C hw hs hl h1 h2 h3 h4 K
  exact lv_lshl C.1 C.2.1 hd rfl (kk p l e R s m args below meth c H locs cells slots Z ls C hw hs hl h1 h2 h3 h4 K)
theorem gJ_lshr {x : Int64} {y : Int32} (hd : decode k.2.1 pc = .ok (.lshr, 1)) (kk : gJ G k d nc ns M (pc + 1) lv (.long (x >>> (y.toInt64 &&& 63)) :: st) Q) : gJ G k d nc ns M pc lv (.int y :: .long x :: st) Q := by
  intro p l e R s m args below meth c H locs cells slots Z ls C hw hs hl h1 h2 h3 h4 K
  exact lv_lshr C.1 C.2.1 hd rfl (kk p l e R s m args below meth c H locs cells slots Z ls C hw hs hl h1 h2 h3 h4 K)
theorem gJ_l2i {x : Int64} (hd : decode k.2.1 pc = .ok (.l2i, 1)) (kk : gJ G k d nc ns M (pc + 1) lv (.int x.toInt32 :: st) Q) : gJ G k d nc ns M pc lv (.long x :: st) Q := by
  intro p l e R s m args below meth c H locs cells slots Z ls C hw hs hl h1 h2 h3 h4 K
  exact lv_l2i C.1 C.2.1 hd rfl (kk p l e R s m args below meth c H locs cells slots Z ls C hw hs hl h1 h2 h3 h4 K)
theorem gJ_lcmp {x y : Int64} (hd : decode k.2.1 pc = .ok (.lcmp, 1)) (kk : gJ G k d nc ns M (pc + 1) lv (.int (lg_cmp x y) :: st) Q) : gJ G k d nc ns M pc lv (.long y :: .long x :: st) Q := by
  intro p l e R s m args below meth c H locs cells slots Z ls C hw hs hl h1 h2 h3 h4 K
  exact W.lcmp C.1 C.2.1 hd (kk p l e R s m args below meth c H locs cells slots Z ls C hw hs hl h1 h2 h3 h4 K)
theorem gJ_dup {a : Value} (hd : decode k.2.1 pc = .ok (.dup, 1)) (ha : a.category = 1) (kk : gJ G k d nc ns M (pc + 1) lv (a :: a :: st) Q) : gJ G k d nc ns M pc lv (a :: st) Q := by
  intro p l e R s m args below meth c H locs cells slots Z ls C hw hs hl h1 h2 h3 h4 K
  exact lv_dup C.1 C.2.1 hd ha (kk p l e R s m args below meth c H locs cells slots Z ls C hw hs hl h1 h2 h3 h4 K)
theorem gJ_pop {a : Value} (hd : decode k.2.1 pc = .ok (.pop, 1)) (ha : a.category = 1) (kk : gJ G k d nc ns M (pc + 1) lv st Q) : gJ G k d nc ns M pc lv (a :: st) Q := by
  intro p l e R s m args below meth c H locs cells slots Z ls C hw hs hl h1 h2 h3 h4 K
  exact lv_pop C.1 C.2.1 hd ha (kk p l e R s m args below meth c H locs cells slots Z ls C hw hs hl h1 h2 h3 h4 K)
theorem gJ_dup_x1 {a b : Value} (hd : decode k.2.1 pc = .ok (.dup_x1, 1)) (ha : a.category = 1) (hb : b.category = 1) (kk : gJ G k d nc ns M (pc + 1) lv (a :: b :: a :: st) Q) : gJ G k d nc ns M pc lv (a :: b :: st) Q := by
  intro p l e R s m args below meth c H locs cells slots Z ls C hw hs hl h1 h2 h3 h4 K
  exact lv_dup_x1 C.1 C.2.1 hd ha hb (kk p l e R s m args below meth c H locs cells slots Z ls C hw hs hl h1 h2 h3 h4 K)
theorem gJ_dup2 {a b : Value} (hd : decode k.2.1 pc = .ok (.dup2, 1)) (ha : a.category = 1) (hb : b.category = 1) (kk : gJ G k d nc ns M (pc + 1) lv (a :: b :: a :: b :: st) Q) : gJ G k d nc ns M pc lv (a :: b :: st) Q := by
  intro p l e R s m args below meth c H locs cells slots Z ls C hw hs hl h1 h2 h3 h4 K
  exact lv_dup2_11 C.1 C.2.1 hd ha hb (kk p l e R s m args below meth c H locs cells slots Z ls C hw hs hl h1 h2 h3 h4 K)
theorem gJ_if_eq {x : Int32} {off : Int} {tgt : Nat} (hd : decode k.2.1 pc = .ok (.ifCond .eq off, 3)) (ht : (pc : Int) + off = (tgt : Int)) (kt : x = 0 → gJ G k d nc ns M tgt lv st Q) (kf : ¬ x = 0 → gJ G k d nc ns M (pc + 3) lv st Q) : gJ G k d nc ns M pc lv (.int x :: st) Q := by
  intro p l e R s m args below meth c H locs cells slots Z ls C hw hs hl h1 h2 h3 h4 K
  exact lv_if_eq C.1 C.2.1 hd ht (fun hc => kt hc p l e R s m args below meth c H locs cells slots Z ls C hw hs hl h1 h2 h3 h4 K) (fun hc => kf hc p l e R s m args below meth c H locs cells slots Z ls C hw hs hl h1 h2 h3 h4 K)
theorem gJ_icmp_eq {x y : Int32} {off : Int} {tgt : Nat} (hd : decode k.2.1 pc = .ok (.if_icmp .eq off, 3)) (ht : (pc : Int) + off = (tgt : Int)) (kt : x = y → gJ G k d nc ns M tgt lv st Q) (kf : ¬ x = y → gJ G k d nc ns M (pc + 3) lv st Q) : gJ G k d nc ns M pc lv (.int y :: .int x :: st) Q := by
  intro p l e R s m args below meth c H locs cells slots Z ls C hw hs hl h1 h2 h3 h4 K
  exact lv_icmp_eq C.1 C.2.1 hd ht (fun hc => kt hc p l e R s m args below meth c H locs cells slots Z ls C hw hs hl h1 h2 h3 h4 K) (fun hc => kf hc p l e R s m args below meth c H locs cells slots Z ls C hw hs hl h1 h2 h3 h4 K)
theorem gJ_if_ne {x : Int32} {off : Int} {tgt : Nat} (hd : decode k.2.1 pc = .ok (.ifCond .ne off, 3)) (ht : (pc : Int) + off = (tgt : Int)) (kt : ¬ x = 0 → gJ G k d nc ns M tgt lv st Q) (kf : x = 0 → gJ G k d nc ns M (pc + 3) lv st Q) : gJ G k d nc ns M pc lv (.int x :: st) Q := by
  intro p l e R s m args below meth c H locs cells slots Z ls C hw hs hl h1 h2 h3 h4 K
  exact lv_if_ne C.1 C.2.1 hd ht (fun hc => kt hc p l e R s m args below meth c H locs cells slots Z ls C hw hs hl h1 h2 h3 h4 K) (fun hc => kf hc p l e R s m args below meth c H locs cells slots Z ls C hw hs hl h1 h2 h3 h4 K)
theorem gJ_icmp_ne {x y : Int32} {off : Int} {tgt : Nat} (hd : decode k.2.1 pc = .ok (.if_icmp .ne off, 3)) (ht : (pc : Int) + off = (tgt : Int)) (kt : ¬ x = y → gJ G k d nc ns M tgt lv st Q) (kf : x = y → gJ G k d nc ns M (pc + 3) lv st Q) : gJ G k d nc ns M pc lv (.int y :: .int x :: st) Q := by
  intro p l e R s m args below meth c H locs cells slots Z ls C hw hs hl h1 h2 h3 h4 K
  exact lv_icmp_ne C.1 C.2.1 hd ht (fun hc => kt hc p l e R s m args below meth c H locs cells slots Z ls C hw hs hl h1 h2 h3 h4 K) (fun hc => kf hc p l e R s m args below meth c H locs cells slots Z ls C hw hs hl h1 h2 h3 h4 K)
theorem gJ_if_lt {x : Int32} {off : Int} {tgt : Nat} (hd : decode k.2.1 pc = .ok (.ifCond .lt off, 3)) (ht : (pc : Int) + off = (tgt : Int)) (kt : x < 0 → gJ G k d nc ns M tgt lv st Q) (kf : ¬ x < 0 → gJ G k d nc ns M (pc + 3) lv st Q) : gJ G k d nc ns M pc lv (.int x :: st) Q := by
  intro p l e R s m args below meth c H locs cells slots Z ls C hw hs hl h1 h2 h3 h4 K
  exact lv_if_lt C.1 C.2.1 hd ht (fun hc => kt hc p l e R s m args below meth c H locs cells slots Z ls C hw hs hl h1 h2 h3 h4 K) (fun hc => kf hc p l e R s m args below meth c H locs cells slots Z ls C hw hs hl h1 h2 h3 h4 K)
theorem gJ_icmp_lt {x y : Int32} {off : Int} {tgt : Nat} (hd : decode k.2.1 pc = .ok (.if_icmp .lt off, 3)) (ht : (pc : Int) + off = (tgt : Int)) (kt : x < y → gJ G k d nc ns M tgt lv st Q) (kf : ¬ x < y → gJ G k d nc ns M (pc + 3) lv st Q) : gJ G k d nc ns M pc lv (.int y :: .int x :: st) Q := by
  intro p l e R s m args below meth c H locs cells slots Z ls C hw hs hl h1 h2 h3 h4 K
  exact lv_icmp_lt C.1 C.2.1 hd ht (fun hc => kt hc p l e R s m args below meth c H locs cells slots Z ls C hw hs hl h1 h2 h3 h4 K) (fun hc => kf hc p l e R s m args below meth c H locs cells slots Z ls C hw hs hl h1 h2 h3 h4 K)
theorem gJ_if_ge {x : Int32} {off : Int} {tgt : Nat} (hd : decode k.2.1 pc = .ok (.ifCond .ge off, 3)) (ht : (pc : Int) + off = (tgt : Int)) (kt : 0 ≤ x → gJ G k d nc ns M tgt lv st Q) (kf : ¬ 0 ≤ x → gJ G k d nc ns M (pc + 3) lv st Q) : gJ G k d nc ns M pc lv (.int x :: st) Q := by
  intro p l e R s m args below meth c H locs cells slots Z ls C hw hs hl h1 h2 h3 h4 K
  exact lv_if_ge C.1 C.2.1 hd ht (fun hc => kt hc p l e R s m args below meth c H locs cells slots Z ls C hw hs hl h1 h2 h3 h4 K) (fun hc => kf hc p l e R s m args below meth c H locs cells slots Z ls C hw hs hl h1 h2 h3 h4 K)
theorem gJ_icmp_ge {x y : Int32} {off : Int} {tgt : Nat} (hd : decode k.2.1 pc = .ok (.if_icmp .ge off, 3)) (ht : (pc : Int) + off = (tgt : Int)) (kt : y ≤ x → gJ G k d nc ns M tgt lv st Q) (kf : ¬ y ≤ x → gJ G k d nc ns M (pc + 3) lv st Q) : gJ G k d nc ns M pc lv (.int y :: .int x :: st) Q := by
  intro p l e R s m args below meth c H locs cells slots Z ls C hw hs hl h1 h2 h3 h4 K
  exact lv_icmp_ge C.1 C.2.1 hd ht (fun hc => kt hc p l e R s m args below meth c H locs cells slots Z ls C hw hs hl h1 h2 h3 h4 K) (fun hc => kf hc p l e R s m args below meth c H locs cells slots Z ls C hw hs hl h1 h2 h3 h4 K)
theorem gJ_if_gt {x : Int32} {off : Int} {tgt : Nat} (hd : decode k.2.1 pc = .ok (.ifCond .gt off, 3)) (ht : (pc : Int) + off = (tgt : Int)) (kt : 0 < x → gJ G k d nc ns M tgt lv st Q) (kf : ¬ 0 < x → gJ G k d nc ns M (pc + 3) lv st Q) : gJ G k d nc ns M pc lv (.int x :: st) Q := by
  intro p l e R s m args below meth c H locs cells slots Z ls C hw hs hl h1 h2 h3 h4 K
  exact lv_if_gt C.1 C.2.1 hd ht (fun hc => kt hc p l e R s m args below meth c H locs cells slots Z ls C hw hs hl h1 h2 h3 h4 K) (fun hc => kf hc p l e R s m args below meth c H locs cells slots Z ls C hw hs hl h1 h2 h3 h4 K)
theorem gJ_icmp_gt {x y : Int32} {off : Int} {tgt : Nat} (hd : decode k.2.1 pc = .ok (.if_icmp .gt off, 3)) (ht : (pc : Int) + off = (tgt : Int)) (kt : y < x → gJ G k d nc ns M tgt lv st Q) (kf : ¬ y < x → gJ G k d nc ns M (pc + 3) lv st Q) : gJ G k d nc ns M pc lv (.int y :: .int x :: st) Q := by
  intro p l e R s m args below meth c H locs cells slots Z ls C hw hs hl h1 h2 h3 h4 K
  exact lv_icmp_gt C.1 C.2.1 hd ht (fun hc => kt hc p l e R s m args below meth c H locs cells slots Z ls C hw hs hl h1 h2 h3 h4 K) (fun hc => kf hc p l e R s m args below meth c H locs cells slots Z ls C hw hs hl h1 h2 h3 h4 K)
theorem gJ_if_le {x : Int32} {off : Int} {tgt : Nat} (hd : decode k.2.1 pc = .ok (.ifCond .le off, 3)) (ht : (pc : Int) + off = (tgt : Int)) (kt : x ≤ 0 → gJ G k d nc ns M tgt lv st Q) (kf : ¬ x ≤ 0 → gJ G k d nc ns M (pc + 3) lv st Q) : gJ G k d nc ns M pc lv (.int x :: st) Q := by
  intro p l e R s m args below meth c H locs cells slots Z ls C hw hs hl h1 h2 h3 h4 K
  exact lv_if_le C.1 C.2.1 hd ht (fun hc => kt hc p l e R s m args below meth c H locs cells slots Z ls C hw hs hl h1 h2 h3 h4 K) (fun hc => kf hc p l e R s m args below meth c H locs cells slots Z ls C hw hs hl h1 h2 h3 h4 K)
theorem gJ_icmp_le {x y : Int32} {off : Int} {tgt : Nat} (hd : decode k.2.1 pc = .ok (.if_icmp .le off, 3)) (ht : (pc : Int) + off = (tgt : Int)) (kt : x ≤ y → gJ G k d nc ns M tgt lv st Q) (kf : ¬ x ≤ y → gJ G k d nc ns M (pc + 3) lv st Q) : gJ G k d nc ns M pc lv (.int y :: .int x :: st) Q := by
  intro p l e R s m args below meth c H locs cells slots Z ls C hw hs hl h1 h2 h3 h4 K
  exact lv_icmp_le C.1 C.2.1 hd ht (fun hc => kt hc p l e R s m args below meth c H locs cells slots Z ls C hw hs hl h1 h2 h3 h4 K) (fun hc => kf hc p l e R s m args below meth c H locs cells slots Z ls C hw hs hl h1 h2 h3 h4 K)
theorem gJ_goto {off : Int} {tgt : Nat} (hd : decode k.2.1 pc = .ok (.goto off, 3)) (ht : (pc : Int) + off = (tgt : Int)) (kk : gJ G k d nc ns M tgt lv st Q) : gJ G k d nc ns M pc lv (st) Q := by
  intro p l e R s m args below meth c H locs cells slots Z ls C hw hs hl h1 h2 h3 h4 K
  exact lv_goto C.1 C.2.1 hd ht (kk p l e R s m args below meth c H locs cells slots Z ls C hw hs hl h1 h2 h3 h4 K)
theorem gJ_ifnonnull {x : Nat} {off : Int} {tgt : Nat} (hd : decode k.2.1 pc = .ok (.ifnonnull off, 3)) (ht : (pc : Int) + off = (tgt : Int)) (kk : gJ G k d nc ns M tgt lv st Q) : gJ G k d nc ns M pc lv (.ref x :: st) Q := by
  intro p l e R s m args below meth c H locs cells slots Z ls C hw hs hl h1 h2 h3 h4 K
  exact lv_ifnonnull C.1 C.2.1 hd ht (kk p l e R s m args below meth c H locs cells slots Z ls C hw hs hl h1 h2 h3 h4 K)
theorem gJ_ifnull {x : Nat} {off : Int} (hd : decode k.2.1 pc = .ok (.ifnull off, 3)) (kk : gJ G k d nc ns M (pc + 3) lv st Q) : gJ G k d nc ns M pc lv (.ref x :: st) Q := by
  intro p l e R s m args below meth c H locs cells slots Z ls C hw hs hl h1 h2 h3 h4 K
  exact lv_ifnull C.1 C.2.1 hd (kk p l e R s m args below meth c H locs cells slots Z ls C hw hs hl h1 h2 h3 h4 K)
theorem gJ_ifnullN {off : Int} {tgt : Nat} (hd : decode k.2.1 pc = .ok (.ifnull off, 3)) (ht : (pc : Int) + off = (tgt : Int)) (kk : gJ G k d nc ns M tgt lv st Q) : gJ G k d nc ns M pc lv (.null :: st) Q := by
  intro p l e R s m args below meth c H locs cells slots Z ls C hw hs hl h1 h2 h3 h4 K
  exact lv_ifnullN C.1 C.2.1 hd ht (kk p l e R s m args below meth c H locs cells slots Z ls C hw hs hl h1 h2 h3 h4 K)
theorem gJ_ifnonnullN {off : Int} (hd : decode k.2.1 pc = .ok (.ifnonnull off, 3)) (kk : gJ G k d nc ns M (pc + 3) lv st Q) : gJ G k d nc ns M pc lv (.null :: st) Q := by
  intro p l e R s m args below meth c H locs cells slots Z ls C hw hs hl h1 h2 h3 h4 K
  exact lv_ifnonnullN C.1 C.2.1 hd (kk p l e R s m args below meth c H locs cells slots Z ls C hw hs hl h1 h2 h3 h4 K)
theorem gJ_tableOut {dflt lo hi : Int} {offs : Array Int} {len : Nat} {x : Int32} {tgt : Nat} (hd : decode k.2.1 pc = .ok (.tableswitch dflt lo hi offs, len)) (h : x.toInt < lo ∨ hi < x.toInt) (ht : (pc : Int) + dflt = (tgt : Int)) (kk : gJ G k d nc ns M tgt lv st Q) : gJ G k d nc ns M pc lv (.int x :: st) Q := by
  intro p l e R s m args below meth c H locs cells slots Z ls C hw hs hl h1 h2 h3 h4 K
  exact lv_tableOut C.1 C.2.1 hd h ht (kk p l e R s m args below meth c H locs cells slots Z ls C hw hs hl h1 h2 h3 h4 K)
theorem gJ_tableIn {dflt lo hi : Int} {offs : Array Int} {len : Nat} {x : Int32} {off : Int} {tgt : Nat} (hd : decode k.2.1 pc = .ok (.tableswitch dflt lo hi offs, len)) (ha : ¬ x.toInt < lo) (hb : ¬ hi < x.toInt) (ho : offs[(x.toInt - lo).toNat]? = some off) (ht : (pc : Int) + off = (tgt : Int)) (kk : gJ G k d nc ns M tgt lv st Q) : gJ G k d nc ns M pc lv (.int x :: st) Q := by
  intro p l e R s m args below meth c H locs cells slots Z ls C hw hs hl h1 h2 h3 h4 K
  exact lv_tableIn C.1 C.2.1 hd ha hb ho ht (kk p l e R s m args below meth c H locs cells slots Z ls C hw hs hl h1 h2 h3 h4 K)
theorem gJ_lookup {dflt : Int} {ps : Array (Int × Int)} {len : Nat} {x : Int32} {off : Int} {tgt : Nat} (hd : decode k.2.1 pc = .ok (.lookupswitch dflt ps, len)) (hp : (ps.toList.zip (ps.toList.drop 1)).all (fun (a, next) => a.1 < next.1) = true) (ho : Op.lookupswitch.offset ps.toList dflt x.toInt = off) (ht : (pc : Int) + off = (tgt : Int)) (kk : gJ G k d nc ns M tgt lv st Q) : gJ G k d nc ns M pc lv (.int x :: st) Q := by
  intro p l e R s m args below meth c H locs cells slots Z ls C hw hs hl h1 h2 h3 h4 K
  exact lv_lookup C.1 C.2.1 hd hp ho ht (kk p l e R s m args below meth c H locs cells slots Z ls C hw hs hl h1 h2 h3 h4 K)
theorem gJ_iald {a n : Nat} {f : Nat → Int32} {i : Int32} (hd : decode k.2.1 pc = .ok (.iaload, 1)) (hM : M.1 a = some (gI n f)) (hin : vp_in i n) (kk : gJ G k d nc ns M (pc + 1) lv (.int (f i.toNatClampNeg) :: st) Q) : gJ G k d nc ns M pc lv (.int i :: .ref a :: st) Q := by
  intro p l e R s m args below meth c H locs cells slots Z ls C hw hs hl h1 h2 h3 h4 K
  exact va_iald C.1 C.2.1 C.2.2.2.2.2.1 (gW_one hw hM) 0 0 rfl rfl hin hd (kk p l e R s m args below meth c H locs cells slots Z ls C hw hs hl h1 h2 h3 h4 K)
theorem gJ_zald {a n : Nat} {f : Nat → Int32} {i : Int32} (hd : decode k.2.1 pc = .ok (.baload, 1)) (hM : M.1 a = some (gZ n f)) (hin : vp_in i n) (kk : gJ G k d nc ns M (pc + 1) lv (.int (f i.toNatClampNeg) :: st) Q) : gJ G k d nc ns M pc lv (.int i :: .ref a :: st) Q := by
  intro p l e R s m args below meth c H locs cells slots Z ls C hw hs hl h1 h2 h3 h4 K
  exact va_zald C.1 C.2.1 C.2.2.2.2.2.1 (gW_one hw hM) 0 1 rfl rfl hin hd (kk p l e R s m args below meth c H locs cells slots Z ls C hw hs hl h1 h2 h3 h4 K)
theorem gJ_lald {a n : Nat} {f : Nat → Int64} {i : Int32} (hd : decode k.2.1 pc = .ok (.laload, 1)) (hM : M.1 a = some (gL n f)) (hin : vp_in i n) (kk : gJ G k d nc ns M (pc + 1) lv (.long (f i.toNatClampNeg) :: st) Q) : gJ G k d nc ns M pc lv (.int i :: .ref a :: st) Q := by
  intro p l e R s m args below meth c H locs cells slots Z ls C hw hs hl h1 h2 h3 h4 K
  exact va_lald C.1 C.2.1 C.2.2.2.2.2.1 (gW_one hw hM) 0 2 rfl rfl hin hd (kk p l e R s m args below meth c H locs cells slots Z ls C hw hs hl h1 h2 h3 h4 K)
theorem gJ_aald {t a n : Nat} {f : Nat → Option Nat} {i : Int32} {Cn : String} (hd : decode k.2.1 pc = .ok (.aaload, 1)) (hM : M.1 a = some (gR t n f)) (ht : (gTys G)[t]? = some (G.2.2.1 t, .object Cn)) (hin : vp_in i n) (kk : gJ G k d nc ns M (pc + 1) lv (va_rf (f i.toNatClampNeg) :: st) Q) : gJ G k d nc ns M pc lv (.int i :: .ref a :: st) Q := by
  intro p l e R s m args below meth c H locs cells slots Z ls C hw hs hl h1 h2 h3 h4 K
  exact va_aldq C.1 C.2.1 C.2.2.2.2.2.1 (gW_one hw hM) 0 t rfl ht hin hd (kk p l e R s m args below meth c H locs cells slots Z ls C hw hs hl h1 h2 h3 h4 K)
theorem gJ_alen {t a : Nat} {x : vp_A} {ty : FieldType} {v : Int32} (hd : decode k.2.1 pc = .ok (.arraylength, 1)) (hM : M.1 a = some (.inl (t, x))) (ht : (gTys G)[t]? = some (G.2.2.1 t, ty)) (hv : Int32.ofNat x.1 = v) (kk : gJ G k d nc ns M (pc + 1) lv (.int v :: st) Q) : gJ G k d nc ns M pc lv (.ref a :: st) Q := by
  intro p l e R s m args below meth c H locs cells slots Z ls C hw hs hl h1 h2 h3 h4 K
  exact va_alen C.1 C.2.1 C.2.2.2.2.2.1 (gW_one hw hM) 0 t rfl ht hv hd (kk p l e R s m args below meth c H locs cells slots Z ls C hw hs hl h1 h2 h3 h4 K)
theorem gJ_tald {q : Nat} {i : Int32} (hd : decode k.2.1 pc = .ok (.iaload, 1)) (hq : q < 4) (hin : vp_in i (gSt q).2.1) (kk : gJ G k d nc ns M (pc + 1) lv (.int ((gSt q).2.2 i.toNatClampNeg) :: st) Q) : gJ G k d nc ns M pc lv (.int i :: .ref (gS G q) :: st) Q := by
  intro p l e R s m args below meth c H locs cells slots Z ls C hw hs hl h1 h2 h3 h4 K
  exact va_ti C.1 C.2.1 (C.2.2.2.2.2.2.1.2 q hq).2 hs hin rfl hd (kk p l e R s m args below meth c H locs cells slots Z ls C hw hs hl h1 h2 h3 h4 K)
theorem gJ_sld {i : Int32} (hd : decode k.2.1 pc = .ok (.iaload, 1)) (hin : vp_in i (gSL G)) (kk : gJ G k d nc ns M (pc + 1) lv (.int (gSX G i.toNatClampNeg) :: st) Q) : gJ G k d nc ns M pc lv (.int i :: .ref (gS G 4) :: st) Q := by
  intro p l e R s m args below meth c H locs cells slots Z ls C hw hs hl h1 h2 h3 h4 K
  exact va_ti C.1 C.2.1 C.2.2.2.2.2.2.1.1 hs hin rfl hd (kk p l e R s m args below meth c H locs cells slots Z ls C hw hs hl h1 h2 h3 h4 K)
theorem gJ_slen (hd : decode k.2.1 pc = .ok (.arraylength, 1)) (kk : gJ G k d nc ns M (pc + 1) lv (.int (Int32.ofNat (gSL G)) :: st) Q) : gJ G k d nc ns M pc lv (.ref (gS G 4) :: st) Q := by
  intro p l e R s m args below meth c H locs cells slots Z ls C hw hs hl h1 h2 h3 h4 K
  exact va_tlen C.1 C.2.1 C.2.2.2.2.2.2.1.1 hs rfl hd (kk p l e R s m args below meth c H locs cells slots Z ls C hw hs hl h1 h2 h3 h4 K)
theorem gJ_iast {a n : Nat} {f : Nat → Int32} {i : Int32} {x : Int32} (hd : decode k.2.1 pc = .ok (.iastore, 1)) (hM : M.1 a = some (gI n f)) (hin : vp_in i n) (kk : gJ G k d nc ns (gUp M a (gI n (upd f i.toNatClampNeg x))) (pc + 1) lv st Q) : gJ G k d nc ns M pc lv (.int x :: .int i :: .ref a :: st) Q := by
  intro p l e R s m args below meth c H locs cells slots Z ls C hw hs hl h1 h2 h3 h4 K
  refine W.iast C.1 C.2.1 ((hw.1 a _ hM).2) ((C.2.2.2.2.2.1.2 0 _ rfl).1 n (fun j => .int (f j))) (fun q => by cases q) (by show ¬ (i < 0 ∨ (arrV _ _ _).slots.size ≤ _); rw [arrV_size]; exact hin) rfl rfl hd fun H1 e0 z oq => ?_
  refine kk p l e R s m args below meth c H1 _ cells slots Z ls C (gW_up hw hM ?_ z oq) (hs.put z oq (hw.1 a _ hM).1) hl h1 h2 h3 h4 K
  show H1[a]? = some (vp_cell _ _)
  rw [e0]
  show some ((vp_cell _ _).setSlot _ _) = _
  rw [vp_cell_i, vp_cell_i, arrV_store]
  congr 2
  funext q
  by_cases hq : q = i.toNatClampNeg
  · subst hq
    simp [updV, upd]
  · simp [updV, upd, hq]
theorem gJ_zast {a n : Nat} {f : Nat → Int32} {i : Int32} {x : Int32} (hd : decode k.2.1 pc = .ok (.bastore, 1)) (hM : M.1 a = some (gZ n f)) (hin : vp_in i n) (hx01 : x = 0 ∨ x = 1) (kk : gJ G k d nc ns (gUp M a (gZ n (upd f i.toNatClampNeg x))) (pc + 1) lv st Q) : gJ G k d nc ns M pc lv (.int x :: .int i :: .ref a :: st) Q := by
  intro p l e R s m args below meth c H locs cells slots Z ls C hw hs hl h1 h2 h3 h4 K
  refine W.zast C.1 C.2.1 ((hw.1 a _ hM).2) ((C.2.2.2.2.2.1.2 1 _ rfl).1 n (fun j => .int (f j))) (fun q => by cases q) (by show ¬ (i < 0 ∨ (arrV _ _ _).slots.size ≤ _); rw [arrV_size]; exact hin) rfl rfl hd fun H1 e0 z oq => ?_
  refine kk p l e R s m args below meth c H1 _ cells slots Z ls C (gW_up hw hM ?_ z oq) (hs.put z oq (hw.1 a _ hM).1) hl h1 h2 h3 h4 K
  show H1[a]? = some (vp_cell _ _)
  rw [e0]
  show some ((vp_cell _ _).setSlot _ _) = _
  rw [vp_cell_i, vp_cell_i, arrV_store]
  congr 2
  funext q
  by_cases hq : q = i.toNatClampNeg
  · subst hq
    simp [updV, upd, vp_nar]
    try (show narrow _ _ = _; rcases hx01 with rfl | rfl <;> rfl)
  · simp [updV, upd, hq]
theorem gJ_last {a n : Nat} {f : Nat → Int64} {i : Int32} {x : Int64} (hd : decode k.2.1 pc = .ok (.lastore, 1)) (hM : M.1 a = some (gL n f)) (hin : vp_in i n) (kk : gJ G k d nc ns (gUp M a (gL n (vp_updL f i.toNatClampNeg x))) (pc + 1) lv st Q) : gJ G k d nc ns M pc lv (.long x :: .int i :: .ref a :: st) Q := by
  intro p l e R s m args below meth c H locs cells slots Z ls C hw hs hl h1 h2 h3 h4 K
  refine W.last C.1 C.2.1 ((hw.1 a _ hM).2) ((C.2.2.2.2.2.1.2 2 _ rfl).1 n (fun j => .long (f j))) (fun q => by cases q) (by show ¬ (i < 0 ∨ (arrV _ _ _).slots.size ≤ _); rw [arrV_size]; exact hin) rfl rfl hd fun H1 e0 z oq => ?_
  refine kk p l e R s m args below meth c H1 _ cells slots Z ls C (gW_up hw hM ?_ z oq) (hs.put z oq (hw.1 a _ hM).1) hl h1 h2 h3 h4 K
  show H1[a]? = some (vp_cell _ _)
  rw [e0]
  show some ((vp_cell _ _).setSlot _ _) = _
  rw [vp_cell_l, vp_cell_l, arrV_store]
  congr 2
  funext q
  by_cases hq : q = i.toNatClampNeg
  · subst hq
    simp [updV, vp_updL]
  · simp [updV, vp_updL, hq]
theorem gJ_aastN {t a n : Nat} {f : Nat → Option Nat} {i : Int32} {Cn : String} (hd : decode k.2.1 pc = .ok (.aastore, 1)) (hM : M.1 a = some (gR t n f)) (ht : (gTys G)[t]? = some (G.2.2.1 t, .object Cn)) (hin : vp_in i n) (kk : gJ G k d nc ns (gUp M a (gR t n (va_up f i.toNatClampNeg none))) (pc + 1) lv st Q) : gJ G k d nc ns M pc lv (.null :: .int i :: .ref a :: st) Q := by
  intro p l e R s m args below meth c H locs cells slots Z ls C hw hs hl h1 h2 h3 h4 K
  refine va_WaastN (C := Cn) C.1 C.2.1 ((hw.1 a _ hM).2) ((C.2.2.2.2.2.1.2 t _ ht).1 n (fun j => va_rf (f j))) (fun h => by cases h) (by show ¬ (i < 0 ∨ (arrV _ _ _).slots.size ≤ _); rw [arrV_size]; exact hin) rfl rfl hd fun H1 e0 z oq => ?_
  refine kk p l e R s m args below meth c H1 _ cells slots Z ls C (gW_up hw hM ?_ z oq) (hs.put z oq (hw.1 a _ hM).1) hl h1 h2 h3 h4 K
  show H1[a]? = some (vp_cell _ _)
  rw [e0]
  show some ((vp_cell _ _).setSlot _ _) = _
  rw [vp_cell_q, vp_cell_q, arrV_store]
  congr 2
  funext q
  by_cases hq : q = i.toNatClampNeg
  · subst hq
    simp [updV, va_up, va_rf]
  · simp [updV, va_up, hq]
theorem gJ_aast {t a n v ci : Nat} {r : vw_C} {vs : List Value} {f : Nat → Option Nat} {i : Int32} (hd : decode k.2.1 pc = .ok (.aastore, 1)) (hM : M.1 a = some (gR t n f)) (ht : (gTys G)[t]? = some (G.2.2.1 t, .object r.1)) (hv : M.1 v = some (gO ci vs)) (hc : vwCl[ci]? = some r) (hin : vp_in i n) (kk : gJ G k d nc ns (gUp M a (gR t n (va_up f i.toNatClampNeg (some v)))) (pc + 1) lv st Q) : gJ G k d nc ns M pc lv (.ref v :: .int i :: .ref a :: st) Q := by
  intro p l e R s m args below meth c H locs cells slots Z ls C hw hs hl h1 h2 h3 h4 K
  have hlt : i.toNatClampNeg < n := Nat.not_le.mp fun q => hin (Or.inr q)
  have h0 : ¬ i < 0 := fun q => hin (Or.inl q)
  obtain ⟨r2, hr2, cellV, g1, g2, g3, -⟩ := (hw.1 v _ hv).2
  have hcls := (C.2.2.2.2.2.1.1 ci r hc).2
  obtain ⟨kA, comp, k1, k2, k3, -⟩ := (C.2.2.2.2.2.1.2 t _ ht).2
  have hcomp : comp = (gD G).1 ci := Option.some.inj (k3.symm.trans hcls.1)
  subst hcomp
  obtain ⟨kC, hkC, -⟩ := hcls.2
  refine W.aast C.1 C.2.1 ((hw.1 a _ hM).2) (fun q h => by cases h) (fun h => by cases h) k1 k2 rfl hkC ⟨h0, by show _ < (arrV _ _ _).slots.size; rw [arrV_size]; exact hlt⟩ g1 (fun q h => by rw [g3] at h; cases h) (by rw [g2]; exact hkC) (by rw [g2]; exact va_assign hcls) rfl rfl hd fun H1 e0 z oq => ?_
  refine kk p l e R s m args below meth c H1 _ cells slots Z ls C (gW_up hw hM ?_ z oq) (hs.put z oq (hw.1 a _ hM).1) hl h1 h2 h3 h4 K
  show H1[a]? = some (vp_cell _ _)
  rw [e0]
  show some ((vp_cell _ _).setSlot _ _) = _
  rw [vp_cell_q, vp_cell_q, arrV_store]
  congr 2
  funext q
  by_cases hq : q = i.toNatClampNeg
  · subst hq
    simp [updV, va_up, va_rf]
  · simp [updV, va_up, hq]
end GJ
section GF
variable {G : gG} {k : gMd} {d nc ns : Nat} {M : gM} {pc : Nat} {lv lv2 : List (Nat × Value)} {st : List Value} {Q : gP}
/-- a field that an instruction of a class names: kind and place, its type, whether it is final -/
def gFld (own : String) (idx ci j : Nat) (ty : FieldType) (fin : Bool) : Prop := ∃ (C : String) (T : u_T) (N : Nat) (ty0 : Nat → FieldType), vwCl[ci]? = some (C, T, N) ∧ (∀ w ∈ u_ws C T N, w ∈ gW0) ∧ (∀ q, q < N → parseFieldDescriptor (T q).2.2.1 = some (ty0 q)) ∧ (∀ a, a < N → ∀ b, b < N → a ≠ b → (T a).2.1 ≠ (T b).2.1) ∧ j < N ∧ Cond.fieldLink own idx C (T j).2.1 (T j).2.2.1 ∈ gW0 ∧ (T j).1 = C ∧ (T j).2.2.2 = fin ∧ ty0 j = ty
theorem gJ_get {i ci j a : Nat} {fs : List Value} {v : Value} {ty : FieldType} {fin : Bool} (hf : gFld k.1.cls i ci j ty fin) (hd : decode k.2.1 pc = .ok (.getfield i, 3)) (ho : M.1 a = some (gO ci fs)) (hv : fs[j]? = some v) (kk : gJ G k d nc ns M (pc + 3) lv (v :: st) Q) : gJ G k d nc ns M pc lv (.ref a :: st) Q := by
  intro p l e R s m args below meth c H locs cells slots Z ls C hw hs hl h1 h2 h3 h4 K
  obtain ⟨Cn, T, N, ty0, f1, f2, f3, f4, f5, f6, f7, f8, f9⟩ := hf
  exact va_get C.1 C.2.1 C.2.2.2.2.1 f2 C.2.2.2.1 C.2.2.2.2.2.1 (gW_one hw ho) 0 rfl f1 j f5 (C.2.2.2.2.1 _ f6) (fun x hx => by rw [f7] at hx; exact hx) hv hd (kk p l e R s m args below meth c H locs cells slots Z ls C hw hs hl h1 h2 h3 h4 K)
theorem gJ_put {i ci j a : Nat} {fs : List Value} {v : Value} {ty : FieldType} (hf : gFld k.1.cls i ci j ty false) (hd : decode k.2.1 pc = .ok (.putfield i, 3)) (ho : M.1 a = some (gO ci fs)) (hn : narrow ty v = v) (hfit : fits ty v = true) (hlen : j < fs.length) (kk : gJ G k d nc ns (gUp M a (gO ci (fs.set j v))) (pc + 3) lv st Q) : gJ G k d nc ns M pc lv (v :: .ref a :: st) Q := by
  intro p l e R s m args below meth c H locs cells slots Z ls C hw hs hl h1 h2 h3 h4 K
  obtain ⟨Cn, T, N, ty0, f1, f2, f3, f4, f5, f6, f7, f8, f9⟩ := hf
  have hts := C.2.2.2.2.1
  have hap := va_apart (own := k.1.cls) hts f2 ty0 f3 f4 C.2.2.2.2.2.1 f1
  obtain ⟨r, e1, cell, q1, q2, q3, q4⟩ := (hw.1 a _ ho).2
  have hr : r = (Cn, T, N) := Option.some.inj (e1.symm.trans f1)
  subst hr
  obtain ⟨hS, hfc, kC, hkC, hkind⟩ := C.2.2.2.2.2.1.1 ci _ f1
  obtain ⟨cf, kf, fi, f, hi, hsl⟩ := hS j f5
  have hlay := hts _ (f2 _ (u_in_lay f5))
  unfold u_lay at hlay
  rw [if_neg (by rw [f8]; decide)] at hlay
  have hst := (u_facts hfc hkC (u_lays hts f2 f5) hi).1
  have h6 := u_store hfc hkC hkind hlay hi (by rw [f3 j f5, f9]) hn hfit
  refine W.putK C.1 C.2.1 (f := f) ⟨C.2.2.2.1, hts _ f6, ⟨_, _, _, by rw [f7] at hi; exact hi⟩, hst⟩ (by rw [q2]; exact h6) q1 q3 (by rw [hsl]; exact k2_hasslot (q4 j f5)) rfl rfl hd fun H1 e1 z oq => ?_
  rw [hsl] at e1 ⊢
  refine kk p l e R s m args below meth c H1 _ cells slots Z ls C (gW_up hw ho ?_ z oq) (hs.put z oq (hw.1 a _ ho).1) hl h1 h2 h3 h4 K
  exact ⟨_, f1, t_OB.to (V := updV (vp_V fs) j v) ⟨_, e1, q2, q3, t_set q4 hap f5 v⟩ (fun q _ => vp_updV_set hlen v q)⟩
theorem gJ_putF {i ci j a : Nat} {fs : List Value} {v : Value} {ty : FieldType} (hf : gFld k.1.cls i ci j ty true) (hci : vwCl[ci]?.map (fun r => r.1) = some k.1.cls) (hini : k.1.name = "<init>") (hd : decode k.2.1 pc = .ok (.putfield i, 3)) (ho : M.1 a = some (gO ci fs)) (hn : narrow ty v = v) (hfit : fits ty v = true) (hlen : j < fs.length) (kk : gJ G k d nc ns (gUp M a (gO ci (fs.set j v))) (pc + 3) lv st Q) : gJ G k d nc ns M pc lv (v :: .ref a :: st) Q := by
  intro p l e R s m args below meth c H locs cells slots Z ls C hw hs hl h1 h2 h3 h4 K
  obtain ⟨Cn, T, N, ty0, f1, f2, f3, f4, f5, f6, f7, f8, f9⟩ := hf
  have hts := C.2.2.2.2.1
  have hap := va_apart (own := k.1.cls) hts f2 ty0 f3 f4 C.2.2.2.2.2.1 f1
  obtain ⟨r, e1, cell, q1, q2, q3, q4⟩ := (hw.1 a _ ho).2
  have hr : r = (Cn, T, N) := Option.some.inj (e1.symm.trans f1)
  subst hr
  have hCn : Cn = k.1.cls := by rw [f1] at hci; exact Option.some.inj hci
  obtain ⟨hS, hfc, kC, hkC, hkind⟩ := C.2.2.2.2.2.1.1 ci _ f1
  obtain ⟨cf, kf, fi, f, hi, hsl⟩ := hS j f5
  have hlay := hts _ (f2 _ (u_in_lay f5))
  unfold u_lay at hlay
  rw [if_pos f8] at hlay
  have hst := (u_facts hfc hkC (u_lays hts f2 f5) hi).1
  have hcf : m.cls = cf := by
    obtain ⟨_, _, c2, _, _, _, -, -, hf2, -, -, -, hown2, -⟩ := Cond.laysFinal_spec hlay
    have e1 : c2 = cf := by have := hi.symm.trans hf2; simp at this; exact this.1.symm
    rw [f7, hCn] at hown2
    rw [← e1]; exact Option.some.inj (C.2.2.2.1.symm.trans hown2)
  have h6 := u_fits hfc hkC hkind (Or.inr hlay) hi (by rw [f3 j f5, f9]) hn hfit
  refine W.putFinK C.1 C.2.1 C.2.2.2.1 (hts _ f6) (by rw [f7] at hi; exact hi) hst hcf (by rw [C.2.2.2.2.2.2.2.2.1]; exact hini) (by rw [q2]; exact h6) q1 q3 (by rw [hsl]; exact k2_hasslot (q4 j f5)) rfl rfl hd fun H1 e1 z oq => ?_
  rw [hsl] at e1 ⊢
  refine kk p l e R s m args below meth c H1 _ cells slots Z ls C (gW_up hw ho ?_ z oq) (hs.put z oq (hw.1 a _ ho).1) hl h1 h2 h3 h4 K
  exact ⟨_, f1, t_OB.to (V := updV (vp_V fs) j v) ⟨_, e1, q2, q3, t_set q4 hap f5 v⟩ (fun q _ => vp_updV_set hlen v q)⟩
/-- a class that an instruction makes an object of -/
def gCls (own : String) (idx ci N : Nat) (fs : List Value) : Prop := ∃ (C : String) (T : u_T) (ty0 : Nat → FieldType), vwCl[ci]? = some (C, T, N) ∧ (∀ w ∈ u_ws C T N, w ∈ gW0) ∧ (∀ q, q < N → parseFieldDescriptor (T q).2.2.1 = some (ty0 q)) ∧ Cond.classLink own idx C ∈ gW0 ∧ Cond.instantiable C N ∈ gW0 ∧ Cond.initialized C ∈ gW0 ∧ ∀ j, j < N → defaultValue (ty0 j) = vp_V fs j
theorem gJ_new {i ci N : Nat} {fs : List Value} (hf : gCls k.1.cls i ci N fs) (hd : decode k.2.1 pc = .ok (.new i, 3)) (kk : gJ G k d nc ns (gNew M (gO ci fs)) (pc + 3) lv (.ref M.2 :: st) Q) : gJ G k d (nc + 1) (ns + N) M pc lv st Q := by
  intro p l e R s m args below meth c H locs cells slots Z ls C hw hs hl h1 h2 h3 h4 K
  obtain ⟨Cn, T, ty0, f1, f2, f3, f4, f5, f6, f7⟩ := hf
  have hts := C.2.2.2.2.1
  have hKn := C.2.2.2.2.2.1.1 ci _ f1
  refine W.newcK C.1 C.2.1 C.2.2.2.1 (hts _ f4) (hts _ f5) (hts _ f6) rfl hd (by omega) (by omega) hKn.2.1 hw.2.2 fun H1 kC hkC e1 z1 o1 => ?_
  have hz := hw.2.2
  refine kk p l e R s m args below meth c H1 _ (cells + 1) (slots + N) Z ls C (gW_new hw ?_ (by rw [z1, hz]) (fun q hq => o1 q (by rw [← hz]; exact hq))) ⟨Nat.le_trans hs.1 (by omega), fun x g1 g2 => (o1 x (by have := hs.1; omega)).trans (hs.2.1 x g1 g2), hs.2.2⟩ hl h1 h2 (by omega) (by omega) ?_
  · rw [hz]
    exact ⟨_, f1, (u_born ty0 hts f2 hKn hkC e1 f3).to f7⟩
  · intro M' pc' lv' st' H' locs' cells' slots' ls' q1 q2 q3 q4 q5 q6
    exact K M' pc' lv' st' H' locs' cells' slots' ls' q1 q2 q3 q4 (by omega) (by omega)
theorem gJ_objInit {i a : Nat} (hf : Cond.methodLink k.1.cls i objectInit ∈ gW0) (hd : decode k.2.1 pc = .ok (.invokespecial i, 3)) (hst : (st.map fun v => v.category).sum ≤ 8) (hdp : 1 ≤ d) (kk : gJ G k d nc ns M (pc + 3) lv st Q) : gJ G k d nc ns M pc lv (.ref a :: st) Q := by
  intro p l e R s m args below meth c H locs cells slots Z ls C hw hs hl h1 h2 h3 h4 K
  have hts := C.2.2.2.2.1
  refine W.objInit C.1 C.2.1 C.2.2.2.1 (hts _ hf) (hts _ gw_oi1) (hts _ gw_oi2) rfl (by rw [C.2.2.1]; exact hl.1) rfl hd (by omega) ?_ (kk p l e R s m args below meth c H locs cells slots Z ls C hw hs hl h1 h2 h3 h4 K)
  show 2 * 0 + _ + 12 ≤ _
  omega
theorem gJ_gets {i q : Nat} (hq : q < 4) (hf : Cond.fieldLink k.1.cls i RX11 (gSt q).1 "[I" ∈ gW0) (hd : decode k.2.1 pc = .ok (.getstatic i, 3)) (kk : gJ G k d nc ns M (pc + 3) lv (.ref (gS G q) :: st) Q) : gJ G k d nc ns M pc lv st Q := by
  intro p l e R s m args below meth c H locs cells slots Z ls C hw hs hl h1 h2 h3 h4 K
  exact va_gets C.1 C.2.1 (C.2.2.2.2.2.2.1.2 q hq).1 hs C.2.2.2.1 (C.2.2.2.2.1 _ hf) (fun _ h => h) hd (kk p l e R s m args below meth c H locs cells slots Z ls C hw hs hl h1 h2 h3 h4 K)
theorem gJ_getsN {i q : Nat} (hq : q < 4) (hf : Cond.fieldLinkNest k.1.cls i RX11 (gSt q).1 "[I" RX11 ∈ gNest) (hd : decode k.2.1 pc = .ok (.getstatic i, 3)) (kk : gJ G k d nc ns M (pc + 3) lv (.ref (gS G q) :: st) Q) : gJ G k d nc ns M pc lv st Q := by
  intro p l e R s m args below meth c H locs cells slots Z ls C hw hs hl h1 h2 h3 h4 K
  exact va_getsN C.1 C.2.1 (C.2.2.2.2.2.2.1.2 q hq).1 hs C.2.2.2.1 (va_Nw.use rfl (C.2.2.2.2.2.2.2.2.2.1 _ hf)) (fun _ h => h) hd (kk p l e R s m args below meth c H locs cells slots Z ls C hw hs hl h1 h2 h3 h4 K)
/-- arrays made -/
theorem gJ_newa {at_ : ArrayType} {t N : Nat} {ty : FieldType} {a0 : vp_A} {n : Int32} (hty : newarray.typeOf at_ = ty) (ht : (gTys G)[t]? = some (G.2.2.1 t, ty)) (hcA : ∀ U : State, va_RA U (G.2.2.1 t) ty → U.vm.findClass ("[" ++ ty.toString) = some (G.2.2.1 t)) (harr : Cond.arrayClass ty ∈ gW0) (ha : ∀ cA : ClassId, vp_cell cA a0 = arrV cA N (fun _ => defaultValue ty)) (hn : ¬ n < 0) (hN : n.toNatClampNeg = N) (hby : N * componentBytes ty ≤ 536870912) (hd : decode k.2.1 pc = .ok (.newarray at_, 2)) (kk : gJ G k d nc ns (gNew M (.inl (t, a0))) (pc + 2) lv (.ref M.2 :: st) Q) : gJ G k d (nc + 1) (ns + N) M pc lv (.int n :: st) Q := by
  intro p l e R s m args below meth c H locs cells slots Z ls C hw hs hl h1 h2 h3 h4 K
  have hts := C.2.2.2.2.1
  subst hty
  have hz := hw.2.2
  refine va_newaK C.1 C.2.1 (hts _ harr) rfl hd rfl hn hN hby (by omega) (by omega) hz fun H1 cA e1 z1 o1 hAr hNm => ?_
  have hc := hcA s ((C.2.2.2.2.2.1.2 t _ ht).2)
  have hcc : cA = G.2.2.1 t := Option.some.inj (hNm.symm.trans hc)
  subst hcc
  refine kk p l e R s m args below meth c H1 _ (cells + 1) (slots + N) Z ls C (gW_new hw ?_ (by rw [z1, hz]) (fun q hq => o1 q (by rw [← hz]; exact hq))) ⟨Nat.le_trans hs.1 (by omega), fun x g1 g2 => (o1 x (by have := hs.1; omega)).trans (hs.2.1 x g1 g2), hs.2.2⟩ hl h1 h2 (by omega) (by omega) ?_
  · rw [hz]
    show H1[M.2]? = some (vp_cell _ _)
    rw [ha]
    exact e1
  · intro M' pc' lv' st' H' locs' cells' slots' ls' q1 q2 q3 q4 q5 q6
    exact K M' pc' lv' st' H' locs' cells' slots' ls' q1 q2 q3 q4 (by omega) (by omega)
theorem gJ_newI {N : Nat} {n : Int32} (hn : ¬ n < 0) (hN : n.toNatClampNeg = N) (hby : N * 4 ≤ 536870912) (hd : decode k.2.1 pc = .ok (.newarray .int, 2)) (kk : gJ G k d nc ns (gNew M (gI N (fun _ => 0))) (pc + 2) lv (.ref M.2 :: st) Q) : gJ G k d (nc + 1) (ns + N) M pc lv (.int n :: st) Q :=
  gJ_newa (ty := .int) (t := 0) rfl rfl (fun U h => h) gw_aI (fun cA => rfl) hn hN hby hd kk
theorem gJ_newZ {N : Nat} {n : Int32} (hn : ¬ n < 0) (hN : n.toNatClampNeg = N) (hby : N * 1 ≤ 536870912) (hd : decode k.2.1 pc = .ok (.newarray .boolean, 2)) (kk : gJ G k d nc ns (gNew M (gZ N (fun _ => 0))) (pc + 2) lv (.ref M.2 :: st) Q) : gJ G k d (nc + 1) (ns + N) M pc lv (.int n :: st) Q :=
  gJ_newa (ty := .boolean) (t := 1) rfl rfl (fun U h => h) gw_aZ (fun cA => rfl) hn hN hby hd kk
theorem gJ_newL {N : Nat} {n : Int32} (hn : ¬ n < 0) (hN : n.toNatClampNeg = N) (hby : N * 8 ≤ 536870912) (hd : decode k.2.1 pc = .ok (.newarray .long, 2)) (kk : gJ G k d nc ns (gNew M (gL N (fun _ => 0))) (pc + 2) lv (.ref M.2 :: st) Q) : gJ G k d (nc + 1) (ns + N) M pc lv (.int n :: st) Q :=
  gJ_newa (ty := .long) (t := 2) rfl rfl (fun U h => h) gw_aJ (fun cA => rfl) hn hN hby hd kk
theorem gJ_newR {i t N : Nat} {Cn : String} {n : Int32} (ht : (gTys G)[t]? = some (G.2.2.1 t, .object Cn)) (hcl : Cond.classLink k.1.cls i Cn ∈ gW0) (hov : ∀ U : State, gNw U → va_AO Cn U) (hn : ¬ n < 0) (hN : n.toNatClampNeg = N) (hby : N * 4 ≤ 536870912) (hd : decode k.2.1 pc = .ok (.anewarray i, 3)) (kk : gJ G k d nc ns (gNew M (gR t N (fun _ => none))) (pc + 3) lv (.ref M.2 :: st) Q) : gJ G k d (nc + 1) (ns + N) M pc lv (.int n :: st) Q := by
  intro p l e R s m args below meth c H locs cells slots Z ls C hw hs hl h1 h2 h3 h4 K
  have hts := C.2.2.2.2.1
  have hz := hw.2.2
  subst hN
  refine W.anew C.1 C.2.1 C.2.2.2.1 (hts _ hcl) (va_AO.use (hov s C.2.2.2.2.2.2.2.2.2)) rfl hd rfl hn hby (by omega) (by omega) fun cA kA comp f1 f2 f3 f4 => ?_
  obtain ⟨kB, cB, -, -, -, f5⟩ := (C.2.2.2.2.2.1.2 t _ ht).2
  have hcc : cA = G.2.2.1 t := Option.some.inj (f1.symm.trans f5)
  subst hcc
  generalize hH1 : H.push ({ cls := G.2.2.1 t, slots := Array.replicate n.toNatClampNeg .null, vm := .none } : Cell) = H1
  have z1 : H1.size = H.size + 1 := by rw [← hH1, Array.size_push]
  have e1 : H1[H.size]? = some (arrV (G.2.2.1 t) n.toNatClampNeg (fun _ => .null)) := by rw [← hH1, Array.getElem?_push_size, ← arrV_new]
  have o1 : ∀ q : Nat, q < H.size → H1[q]? = H[q]? := fun q hq => by rw [← hH1, Array.getElem?_push, if_neg (Nat.ne_of_lt hq)]
  rw [hz]
  refine kk p l e R s m args below meth c H1 _ (cells + 1) (slots + n.toNatClampNeg) Z ls C (gW_new hw ?_ z1 o1) ⟨Nat.le_trans hs.1 (by omega), fun x g1 g2 => (o1 x (by have := hs.1; omega)).trans (hs.2.1 x g1 g2), hs.2.2⟩ hl h1 h2 (by omega) (by omega) ?_
  · show H1[H.size]? = some (vp_cell _ _)
    rw [vp_cell_q]
    exact e1
  · intro M' pc' lv' st' H' locs' cells' slots' ls' q1 q2 q3 q4 q5 q6
    exact K M' pc' lv' st' H' locs' cells' slots' ls' q1 q2 q3 q4 (by omega) (by omega)
end GF
