/-! CONTRACTS over the small machine, and the calls. -/
def gRt (k : gMd) (pc : Nat) (st : List Value) (v : Option Value) : Prop :=
  (∃ (x : Int32) (ty : FieldType), st = [.int x] ∧ v = some (.int x) ∧ decode k.2.1 pc = .ok (.ireturn, 1) ∧ k.2.2.2 = some ty ∧ narrow ty (.int x) = .int x) ∨
  (∃ x : Int64, st = [.long x] ∧ v = some (.long x) ∧ decode k.2.1 pc = .ok (.lreturn, 1) ∧ k.2.2.2 = some .long) ∨
  (st = [] ∧ v = none ∧ decode k.2.1 pc = .ok (.return_, 1) ∧ k.2.2.2 = none) ∨
  (∃ (w : Value) (rt : FieldType), st = [w] ∧ v = some w ∧ decode k.2.1 pc = .ok (.areturn, 1) ∧ k.2.2.2 = some rt ∧ ((∃ n, rt = .object n) ∨ ∃ t, rt = .array t) ∧ (w = .null ∨ ∃ a, w = .ref a))
abbrev gPq : Type := gM → Option Value → Prop
abbrev gQ (k : gMd) (Qr : gPq) : gP := fun M' pc' _ st' => ∃ v, gRt k pc' st' v ∧ Qr M' v
def gPre (G : gG) (M : gM) : State → Prop := fun U => gW G M U.heap ∧ va_K (gD G) vwCl (gTys G) U ∧ gStat G U U.heap ∧ gNw U
def gPost (G : gG) (Qr : gPq) : Array Value → State → Outcome → State → Prop := fun _ st o t => (∃ (v : Option Value) (M' : gM), o = .returned v ∧ Qr M' v ∧ gW G M' t.heap) ∧ va_F (gA G) st t
abbrev gWs (k : gMd) : List Cond := .code k.1 k.2.1 k.2.2.1 k.2.2.2 :: gW0
def gCon (G : gG) (k : gMd) (d nc ns : Nat) (M : gM) (As : List Value) (Qr : gPq) : Prop := ∀ l : Launch, Met l k.1 (gWs k) ({ frames := d, cells := nc, slots := ns, locals := 39 * d } : Room) (va_Pc As (gPre G M)) (gPost G Qr) nc ns (gA G)
theorem gStat_moved {G : gG} {u U : State} {H : Heap} (hvm : u.vm.Alike U.vm) (h : gStat G u H) : gStat G U H := ⟨h.1.moved hvm, fun i hi => ⟨(h.2 i hi).1.moved hvm, (h.2 i hi).2.moved hvm⟩⟩
theorem gStat_kept {G : gG} {U : State} {H H1 : Heap} (h : gStat G U H) (hq : ∀ a : Nat, a < H.size → ¬ gA G a → H1[a]? = H[a]?) : gStat G U H1 := ⟨h.1.kept hq, fun i hi => ⟨(h.2 i hi).1.kept hq, (h.2 i hi).2.kept hq⟩⟩
theorem gPre_blind (G : gG) (M : gM) (As : List Value) : FrameBlind (va_Pc As (gPre G M)) := by
  intro a U g mk q
  obtain ⟨q0, q1, q2, q3, q4⟩ := q
  exact ⟨q0, q1, va_K.moved (u := U) (U := U.calling g mk a) (Vm.Alike.refl U.vm) q2, gStat_moved (u := U) (U := U.calling g mk a) (Vm.Alike.refl U.vm) q3, gNw_same (s := U) (U := U.calling g mk a) rfl q4⟩
set_option maxHeartbeats 1000000 in
theorem gCon_of {G : gG} {k : gMd} {d nc ns : Nat} {M : gM} {As : List Value} {Qr : gPq} (hp : plainName k.1.cls = true) (hA : (lg_sl As).length ≤ k.2.2.1) (h : gJ G k d nc ns M 0 (lv_args 0 As) [] (gQ k Qr)) : gCon G k d nc ns M As Qr := by
  intro l
  refine Met.ofW (cc := k.2.1) (maxL := k.2.2.1) (ret := k.2.2.2) hp rfl ?_
  intro p e s m args below meth c s₁ B hml hv
  obtain ⟨rfl, hW, hK, hSt, hNw⟩ := hv
  have hx := B.exec
  have hb := B.bytes
  have hr := B.returns
  have hts0 := atoms_spec (ws := gWs k) B.pre
  have hown : s.vm.findClass k.1.cls = some m.cls := findClass_of_methodNamed B.named
  have hlocks := B.notSynchronized
  have hin : meth.name = k.1.name := (name_of_methodNamed B.named B.method).1
  have hl := lv_entry As (n := k.2.2.1) hA
  rw [lg_entry_eq]
  generalize (lg_sl As ++ List.replicate (k.2.2.1 - (lg_sl As).length) Slot.unset).toArray = ls at hl ⊢
  refine h p l e _ s m _ below meth c s.heap [] 0 0 _ ls ⟨hx, hb, hml, hown, fun w hw => hts0 w (List.mem_cons_of_mem _ hw), hK, hSt, hW.2.1, hin, hNw⟩ hW va_S.rf hl (Nat.le_refl _) (Nat.le_refl _) (Nat.le_of_eq (Nat.zero_add _)) (Nat.le_of_eq (Nat.zero_add _)) ?_
  intro M' pc' lv' st' H' locs' cells' slots' ls' hq q2 q3 q4 q5 q6
  obtain ⟨v, hv, hQ⟩ := hq
  refine W.widen (k := nc) (n := ns) (by omega) (by omega) ?_
  rcases hv with ⟨x, ty, rfl, rfl, hd, hr2, hn⟩ | ⟨x, rfl, rfl, hd, hr2⟩ | ⟨rfl, rfl, hd, hr2⟩ | ⟨w, rt, rfl, rfl, hd, hr2, hrt, hw⟩
  · exact W.zret hx hb (hr.trans hr2) hn (fun t ht hWt => ⟨⟨_, M', rfl, hQ, by rw [ht]; exact q2⟩, q3.F ht⟩) q3.2.2 hd hlocks
  · exact W.lret hx hb (hr.trans hr2) (fun t ht hWt => ⟨⟨_, M', rfl, hQ, by rw [ht]; exact q2⟩, q3.F ht⟩) q3.2.2 hd hlocks
  · exact W.vret hx hb (hr.trans hr2) (fun t ht hWt => ⟨⟨_, M', rfl, hQ, by rw [ht]; exact q2⟩, q3.F ht⟩) q3.2.2 hd hlocks
  · exact W.aret hx hb (hr.trans hr2) hrt hw (fun t ht hWt => ⟨⟨_, M', rfl, hQ, by rw [ht]; exact q2⟩, q3.F ht⟩) q3.2.2 hd hlocks
theorem gCon_mono {G : gG} {k : gMd} {d nc ns : Nat} {M : gM} {As : List Value} {Qr Qr2 : gPq} (h : gCon G k d nc ns M As Qr) (hq : ∀ M' v, Qr M' v → Qr2 M' v) : gCon G k d nc ns M As Qr2 := by
  intro l
  intro p e ha hc hk s m args below hf happ hP ht
  obtain ⟨n, o, h1, h2, h3, ⟨⟨v, M', e1, e2, e3⟩, h4⟩, h5⟩ := h l p e ha hc hk s m args below hf happ hP ht
  exact ⟨n, o, h1, h2, h3, ⟨⟨v, M', e1, hq M' v e2, e3⟩, h4⟩, h5⟩
section GK
variable {G : gG} {k : gMd} {d nc ns : Nat} {M : gM} {pc : Nat} {lv lv2 : List (Nat × Value)} {st : List Value} {Q : gP}
theorem gJ_iret {x : Int32} {Qr : gPq} (hd : decode k.2.1 pc = .ok (.ireturn, 1)) (hr : k.2.2.2 = some .int) (h : Qr M (some (.int x))) : gJ G k d nc ns M pc lv [.int x] (gQ k Qr) :=
  gJ_done ⟨_, Or.inl ⟨x, .int, rfl, rfl, hd, hr, rfl⟩, h⟩
theorem gJ_zret {x : Int32} {Qr : gPq} (hd : decode k.2.1 pc = .ok (.ireturn, 1)) (hr : k.2.2.2 = some .boolean) (hx : x = 0 ∨ x = 1) (h : Qr M (some (.int x))) : gJ G k d nc ns M pc lv [.int x] (gQ k Qr) :=
  gJ_done ⟨_, Or.inl ⟨x, .boolean, rfl, rfl, hd, hr, by rcases hx with rfl | rfl <;> rfl⟩, h⟩
theorem gJ_lret {x : Int64} {Qr : gPq} (hd : decode k.2.1 pc = .ok (.lreturn, 1)) (hr : k.2.2.2 = some .long) (h : Qr M (some (.long x))) : gJ G k d nc ns M pc lv [.long x] (gQ k Qr) :=
  gJ_done ⟨_, Or.inr (Or.inl ⟨x, rfl, rfl, hd, hr⟩), h⟩
theorem gJ_vret {Qr : gPq} (hd : decode k.2.1 pc = .ok (.return_, 1)) (hr : k.2.2.2 = none) (h : Qr M none) : gJ G k d nc ns M pc lv [] (gQ k Qr) :=
  gJ_done ⟨_, Or.inr (Or.inr (Or.inl ⟨rfl, rfl, hd, hr⟩)), h⟩
theorem gJ_aret {a : Nat} {rt : FieldType} {Qr : gPq} (hd : decode k.2.1 pc = .ok (.areturn, 1)) (hr : k.2.2.2 = some rt) (hrt : (∃ n, rt = .object n) ∨ ∃ t, rt = .array t) (h : Qr M (some (.ref a))) : gJ G k d nc ns M pc lv [.ref a] (gQ k Qr) :=
  gJ_done ⟨_, Or.inr (Or.inr (Or.inr ⟨_, rt, rfl, rfl, hd, hr, hrt, Or.inr ⟨a, rfl⟩⟩)), h⟩
theorem gJ_aretN {rt : FieldType} {Qr : gPq} (hd : decode k.2.1 pc = .ok (.areturn, 1)) (hr : k.2.2.2 = some rt) (hrt : (∃ n, rt = .object n) ∨ ∃ t, rt = .array t) (h : Qr M (some .null)) : gJ G k d nc ns M pc lv [.null] (gQ k Qr) :=
  gJ_done ⟨_, Or.inr (Or.inr (Or.inr ⟨_, rt, rfl, rfl, hd, hr, hrt, Or.inl rfl⟩)), h⟩
/-- the words of a call: the method's own, and its link -/
def gLkB (y : gMd) (n : Nat) : Prop := Cond.code y.1 y.2.1 y.2.2.1 y.2.2.2 ∈ gW0 ∧ Cond.initialized y.1.cls ∈ gW0 ∧ (y.1.cls ≠ "java/lang/invoke/MethodHandle" ∧ y.1.cls ≠ "java/lang/invoke/VarHandle" ∧ (parseMethodDescriptor y.1.desc).map (fun d => d.parameters.length) = some n) ∧ y.2.2.1 ≤ 20
theorem gLk_good {y : gMd} {n : Nat} (h : gLkB y n) : GoodIn gW0 (gWs y) := by
  intro w hw
  have hm : w ∈ gW0 := (List.mem_cons.mp hw).elim (fun e => e ▸ h.1) id
  exact ⟨hm, good_of_word (gw_good hm)⟩
section GRUN
variable {p : Program} {l : Launch} {e : Env} {R : Room} {s : State} {m : MethodId} {args : Array Value} {below : List Frame} {meth : Method} {c : Code} {H : Heap} {locs : List Loc} {cells slots : Nat} {Z : State → Prop} {ls : Array Slot}
theorem gPre_call {As : List Value} (C : gCtx G k p s m args meth c) (hw : gW G M H) (hs : va_S (gA G) s.heap H locs) : ∀ U : State, U.heap = H → s.WarmedH U.vm → va_Pc As (gPre G M) As.toArray U := by
  intro U hU hW
  refine ⟨rfl, by rw [hU]; exact hw, va_K.moved hW.alike C.2.2.2.2.2.1, ?_, gNw_warm hW C.2.2.2.2.2.2.2.2.2⟩
  rw [hU]
  exact gStat_moved hW.alike (gStat_kept C.2.2.2.2.2.2.1 hs.2.1)
theorem gRun_on {a : Array Value} {rest st0 : List Value} {mc ms : Nat} {Qr : gPq} (hr : va_Run p l e R s m args below meth c H locs cells slots mc ms (F0 m pc ls st0) rest (gPost G Qr a) (gA G))
    (C : gCtx G k p s m args meth c) (hs : va_S (gA G) s.heap H locs) (hl : lv_has ls k.2.2.1 lv) (h1 : d ≤ R.frames) (h2 : 39 * d ≤ R.locals) (h3 : cells + (nc + mc) ≤ R.cells) (h4 : slots + (ns + ms) ≤ R.slots)
    (K : ∀ (M' : gM) (pc' : Nat) (lv' : List (Nat × Value)) (st' : List Value) (H' : Heap) (locs' : List Loc) (cells' slots' : Nat) (ls' : Array Slot), Q M' pc' lv' st' → gW G M' H' → va_S (gA G) s.heap H' locs' → lv_has ls' k.2.2.1 lv' → cells' ≤ cells + (nc + mc) → slots' ≤ slots + (ns + ms) →
      W p l e R s m args below meth c H' locs' cells' slots' Z (F0 m pc' ls' st'))
    (kk : ∀ (M' : gM) (v : Option Value), Qr M' v → gJ G k d nc ns M' (pc + 3) lv (v.toList ++ rest) Q) : W p l e R s m args below meth c H locs cells slots Z (F0 m pc ls st0) := by
  intro T hT X
  obtain ⟨v, st₀, t, T', L, h0, X', hL, e1, e2, ⟨⟨v2, M', hv, hq, hw2⟩, hF⟩, st⟩ := hr T hT X
  cases hv
  obtain ⟨z1, z2⟩ := hF
  rw [h0] at z1 z2
  obtain ⟨t2, a1, b1⟩ := kk M' v hq p l e R s m args below meth c T'.heap (locs ++ L) (cells + mc) (slots + ms) Z ls C (by rw [e1]; exact hw2)
    ⟨Nat.le_trans hs.1 (by rw [e1]; exact z1), fun q g1 g2 => by rw [e1, z2 q (Nat.lt_of_lt_of_le g1 hs.1) g2]; exact hs.2.1 q g1 g2, fun q hq => by
      rcases List.mem_append.mp hq with h | h
      · exact hs.2.2 q h
      · exact hL q h⟩ hl h1 h2 (by omega) (by omega)
    (fun M'' pc'' lv'' st'' H'' locs'' cells'' slots'' ls'' r1 r2 r3 r4 r5 r6 => K M'' pc'' lv'' st'' H'' locs'' cells'' slots'' ls'' r1 r2 r3 r4 (by omega) (by omega)) T' rfl X'
  exact ⟨t2, st t2 a1, b1⟩
end GRUN
theorem gRecv {U : State} {H : Heap} {b ci : Nat} {fs : List Value} {Cn : String} (hK : va_K (gD G) vwCl (gTys G) U) (hw : gW G M H) (ho : M.1 b = some (gO ci fs)) (hci : vwCl[ci]?.map (fun r => r.1) = some Cn) : ∃ cell : Cell, H[b]? = some cell ∧ cell.vm.isStatics = false ∧ U.vm.findClass Cn = some cell.cls := by
  cases hq : vwCl[ci]? with
  | none => rw [hq] at hci; cases hci
  | some q =>
    rw [hq] at hci
    have e : q.1 = Cn := Option.some.inj hci
    rw [← e]
    exact va_recv hK (gW_one hw ho) (q0 := 0) hq rfl
theorem gJ_callV {i n d2 mc ms : Nat} {y : gMd} {As rest stk : List Value} {b ci : Nat} {fs : List Value} {Qr : gPq} (hB : gLkB y n) (hL : Cond.methodLink k.1.cls i y.1 ∈ gW0) (hI : Cond.instanceMethod y.1 ∈ gW0) (hS : Cond.selects y.1.cls y.1 y.1 ∈ gW0) (hd : decode k.2.1 pc = .ok (.invokevirtual i, 3)) (hC : gCon G y d2 mc ms M (.ref b :: As) Qr) (ho : M.1 b = some (gO ci fs)) (hci : vwCl[ci]?.map (fun r => r.1) = some y.1.cls) (hst : stk = As.reverse ++ .ref b :: rest) (hcat : (rest.map fun v => v.category).sum ≤ 8) (hn : As.length = n) (hd2 : d2 + 1 ≤ d) (kk : ∀ (M2 : gM) (v : Option Value), Qr M2 v → gJ G k d nc ns M2 (pc + 3) lv (v.toList ++ rest) Q) : gJ G k d (nc + mc) (ns + ms) M pc lv stk Q := by
  intro p l e R s m args below meth c H locs cells slots Z ls C hw hs hl h1 h2 h3 h4 K
  subst hst
  have hts := C.2.2.2.2.1
  have hR : d2 + 1 ≤ R.frames ∧ 8 + (y.2.2.1 + 11) + 39 * d2 ≤ R.locals := by have := hB.2.2.2; (try dsimp only at this); omega
  have cb := (And.intro (callB_of (rm := ({ frames := d2, cells := mc, slots := ms, locals := 39 * d2 } : Room)) (own := k.1.cls) (index := i) n hts (gLk_good hB) rfl rfl rfl (hts _ hB.2.1) (hts _ hL) hB.2.2.1 hR) (And.intro (hts _ hI) (hts _ hS)))
  refine gRun_on (va_runV (As := As) (rest := rest) ⟨C.1, C.2.1, C.2.2.1, C.2.2.2.1, hts⟩ (hC l) cb ⟨gPre_blind G M _, gRecv C.2.2.2.2.2.1 hw ho hci, gPre_call C hw hs⟩ rfl hn hl.1 rfl (lv_room hcat) hd ⟨by omega, by omega⟩) C hs hl h1 h2 h3 h4 K kk
theorem gJ_callS {i n d2 mc ms : Nat} {y : gMd} {As rest stk : List Value} {Qr : gPq} (hB : gLkB y n) (hL : Cond.methodLink k.1.cls i y.1 ∈ gW0) (hI : Cond.static y.1 ∈ gW0) (hd : decode k.2.1 pc = .ok (.invokestatic i, 3)) (hC : gCon G y d2 mc ms M As Qr) (hst : stk = As.reverse ++ rest) (hcat : (rest.map fun v => v.category).sum ≤ 8) (hn : As.length = n) (hd2 : d2 + 1 ≤ d) (kk : ∀ (M2 : gM) (v : Option Value), Qr M2 v → gJ G k d nc ns M2 (pc + 3) lv (v.toList ++ rest) Q) : gJ G k d (nc + mc) (ns + ms) M pc lv stk Q := by
  intro p l e R s m args below meth c H locs cells slots Z ls C hw hs hl h1 h2 h3 h4 K
  subst hst
  have hts := C.2.2.2.2.1
  have hR : d2 + 1 ≤ R.frames ∧ 8 + (y.2.2.1 + 11) + 39 * d2 ≤ R.locals := by have := hB.2.2.2; (try dsimp only at this); omega
  have cb := (And.intro (callB_of (rm := ({ frames := d2, cells := mc, slots := ms, locals := 39 * d2 } : Room)) (own := k.1.cls) (index := i) n hts (gLk_good hB) rfl rfl rfl (hts _ hB.2.1) (hts _ hL) hB.2.2.1 hR) (hts _ hI))
  refine gRun_on (va_runS (As := As) (rest := rest) ⟨C.1, C.2.1, C.2.2.1, C.2.2.2.1, hts⟩ (hC l) cb ⟨gPre_blind G M _, gPre_call C hw hs⟩ rfl hn hl.1 rfl (lv_room hcat) hd ⟨by omega, by omega⟩) C hs hl h1 h2 h3 h4 K kk
theorem gJ_callSN {i n d2 mc ms : Nat} {y : gMd} {As rest stk : List Value} {Qr : gPq} (hB : gLkB y n) (hL : Cond.methodLinkNest k.1.cls i y.1 RX11 ∈ gNest) (hI : Cond.static y.1 ∈ gW0) (hd : decode k.2.1 pc = .ok (.invokestatic i, 3)) (hC : gCon G y d2 mc ms M As Qr) (hst : stk = As.reverse ++ rest) (hcat : (rest.map fun v => v.category).sum ≤ 8) (hn : As.length = n) (hd2 : d2 + 1 ≤ d) (kk : ∀ (M2 : gM) (v : Option Value), Qr M2 v → gJ G k d nc ns M2 (pc + 3) lv (v.toList ++ rest) Q) : gJ G k d (nc + mc) (ns + ms) M pc lv stk Q := by
  intro p l e R s m args below meth c H locs cells slots Z ls C hw hs hl h1 h2 h3 h4 K
  subst hst
  have hts := C.2.2.2.2.1
  have hR : d2 + 1 ≤ R.frames ∧ 8 + (y.2.2.1 + 11) + 39 * d2 ≤ R.locals := by have := hB.2.2.2; (try dsimp only at this); omega
  have cb := (And.intro (va_cnB (rm := ({ frames := d2, cells := mc, slots := ms, locals := 39 * d2 } : Room)) (own := k.1.cls) (index := i) (host := RX11) n hts (gLk_good hB) rfl rfl rfl (C.2.2.2.2.2.2.2.2.2.1 _ hL) (hts _ hB.2.1) hB.2.2.1 hR) (And.intro (hts _ hI) trivial))
  refine gRun_on (va_runSN (As := As) (rest := rest) ⟨C.1, C.2.1, C.2.2.1, C.2.2.2.1, hts⟩ (hC l) cb ⟨gPre_blind G M _, gPre_call C hw hs⟩ rfl hn hl.1 rfl (lv_room hcat) hd ⟨by omega, by omega⟩) C hs hl h1 h2 h3 h4 K kk
theorem gJ_callI {i n d2 mc ms : Nat} {y : gMd} {As rest stk : List Value} {b : Nat} {Qr : gPq} (hB : gLkB y n) (hL : Cond.methodLink k.1.cls i y.1 ∈ gW0) (hI : Cond.instanceMethod y.1 ∈ gW0) (hnm : y.1.name = "<init>") (hrt : y.2.2.2 = none) (hd : decode k.2.1 pc = .ok (.invokespecial i, 3)) (hC : gCon G y d2 mc ms M (.ref b :: As) Qr) (hst : stk = As.reverse ++ .ref b :: rest) (hcat : (rest.map fun v => v.category).sum ≤ 8) (hn : As.length = n) (hd2 : d2 + 1 ≤ d) (kk : ∀ (M2 : gM) (v : Option Value), Qr M2 v → gJ G k d nc ns M2 (pc + 3) lv (v.toList ++ rest) Q) : gJ G k d (nc + mc) (ns + ms) M pc lv stk Q := by
  intro p l e R s m args below meth c H locs cells slots Z ls C hw hs hl h1 h2 h3 h4 K
  subst hst
  have hts := C.2.2.2.2.1
  obtain ⟨y1, y2, y3, y4⟩ := y
  have hrt : y4 = none := hrt
  subst hrt
  have hR : d2 + 1 ≤ R.frames ∧ 8 + (y3 + 11) + 39 * d2 ≤ R.locals := by have := hB.2.2.2; (try dsimp only at this); omega
  have cb := (And.intro (callB_of (rm := ({ frames := d2, cells := mc, slots := ms, locals := 39 * d2 } : Room)) (own := k.1.cls) (index := i) n hts (gLk_good hB) rfl rfl rfl (hts _ hB.2.1) (hts _ hL) hB.2.2.1 hR) (And.intro hnm (hts _ hI)))
  refine gRun_on (va_runI (As := As) (rest := rest) ⟨C.1, C.2.1, C.2.2.1, C.2.2.2.1, hts⟩ (hC l) cb ⟨gPre_blind G M _, gPre_call C hw hs⟩ rfl hn hl.1 rfl (lv_room hcat) hd ⟨by omega, by omega⟩) C hs hl h1 h2 h3 h4 K kk
theorem gJ_callIN {i n d2 mc ms : Nat} {y : gMd} {As rest stk : List Value} {b : Nat} {Qr : gPq} (hB : gLkB y n) (hL : Cond.methodLinkNest k.1.cls i y.1 RX11 ∈ gNest) (hI : Cond.instanceMethod y.1 ∈ gW0) (hnm : y.1.name = "<init>") (hrt : y.2.2.2 = none) (hd : decode k.2.1 pc = .ok (.invokespecial i, 3)) (hC : gCon G y d2 mc ms M (.ref b :: As) Qr) (hst : stk = As.reverse ++ .ref b :: rest) (hcat : (rest.map fun v => v.category).sum ≤ 8) (hn : As.length = n) (hd2 : d2 + 1 ≤ d) (kk : ∀ (M2 : gM) (v : Option Value), Qr M2 v → gJ G k d nc ns M2 (pc + 3) lv (v.toList ++ rest) Q) : gJ G k d (nc + mc) (ns + ms) M pc lv stk Q := by
  intro p l e R s m args below meth c H locs cells slots Z ls C hw hs hl h1 h2 h3 h4 K
  subst hst
  have hts := C.2.2.2.2.1
  obtain ⟨y1, y2, y3, y4⟩ := y
  have hrt : y4 = none := hrt
  subst hrt
  have hR : d2 + 1 ≤ R.frames ∧ 8 + (y3 + 11) + 39 * d2 ≤ R.locals := by have := hB.2.2.2; (try dsimp only at this); omega
  have cb := (And.intro (va_cnB (rm := ({ frames := d2, cells := mc, slots := ms, locals := 39 * d2 } : Room)) (own := k.1.cls) (index := i) (host := RX11) n hts (gLk_good hB) rfl rfl rfl (C.2.2.2.2.2.2.2.2.2.1 _ hL) (hts _ hB.2.1) hB.2.2.1 hR) (And.intro hnm (hts _ hI)))
  refine gRun_on (va_runIN (As := As) (rest := rest) ⟨C.1, C.2.1, C.2.2.1, C.2.2.2.1, hts⟩ (hC l) cb ⟨gPre_blind G M _, gPre_call C hw hs⟩ rfl hn hl.1 rfl (lv_room hcat) hd ⟨by omega, by omega⟩) C hs hl h1 h2 h3 h4 K kk
theorem gJ_copyi {a0 a n0 n1 : Nat} {f g : Nat → Int32} {sp dp n : Int32} {i : Nat} (hL : Cond.methodLink k.1.cls i arraycopyName ∈ gW0) (hd : decode k.2.1 pc = .ok (.invokestatic i, 3)) (ha0 : M.1 a0 = some (gI n0 f)) (ha1 : M.1 a = some (gI n1 g)) (k1 : ¬ sp < 0) (k2 : ¬ dp < 0) (k3 : ¬ n < 0) (k4 : sp.toNatClampNeg + n.toNatClampNeg ≤ n0) (k5 : dp.toNatClampNeg + n.toNatClampNeg ≤ n1) (hcat : (st.map fun v => v.category).sum + (nativeFrameWords "java/lang/System" "arraycopy" 5 + 11) ≤ 39) (hdp : 1 ≤ d) (kk : gJ G k d nc ns (gUp M a (gI n1 (va_cpy f g sp.toNatClampNeg dp.toNatClampNeg n.toNatClampNeg))) (pc + 3) lv st Q) : gJ G k d nc ns M pc lv (.int n :: .int dp :: .ref a :: .int sp :: .ref a0 :: st) Q := by
  intro p l e R s m args below meth c H locs cells slots Z ls C hw hs hl h1 h2 h3 h4 K
  have hts := C.2.2.2.2.1
  have nn : ∀ z : Int32, ¬ z < 0 → z.toInt = (z.toNatClampNeg : Int) := by
    intro z hz
    have hz0 : (0 : Int) ≤ z.toInt := by
      have := Int32.not_lt.mp hz
      simpa using Int32.le_iff_toInt_le.mp this
    show z.toInt = ((z.toInt.toNat : Nat) : Int)
    omega
  intro T hT X
  have hc0 : H[a0]? = some (vp_cell (G.2.2.1 0) (n0, .inl f)) := (hw.1 a0 _ ha0).2
  have hc1 : H[a]? = some (vp_cell (G.2.2.1 0) (n1, .inl g)) := (hw.1 a _ ha1).2
  obtain ⟨-, kc0, hk0, cm0, hkk0⟩ := (C.2.2.2.2.2.1.2 0 _ rfl).1 n0 (fun j => .int (f j))
  obtain ⟨-, kc1, hk1, cm1, hkk1⟩ := (C.2.2.2.2.2.1.2 0 _ rfl).1 n1 (fun j => .int (g j))
  obtain ⟨vm', X', step⟩ := X.arraycopy C.1 C.2.2.2.1 (hts _ hL) (hts _ gw_ac2) (hts _ gw_ac1) (hts _ gw_ac3) (src := a0) (dst := a) (cs := vp_cell (G.2.2.1 0) (n0, .inl f)) (cd := vp_cell (G.2.2.1 0) (n1, .inl g)) (srcPos := sp) (destPos := dp) (n := n) (by rw [hT]; exact hc0) (by rw [hT]; exact hc1)
    (fun _ h => by cases h) (fun _ h => by cases h) (fun h => by cases h) (fun h => by cases h) hk0 hk1 hkk0 hkk1 (by simp [refKind]) k1 k2 k3
    (by rw [nn sp k1, nn n k3]; show ¬ _ > ((arrV (G.2.2.1 0) n0 (fun j => .int (f j))).slots.size : Int); rw [arrV_size]; omega)
    (by rw [nn dp k2, nn n k3]; show ¬ _ > ((arrV (G.2.2.1 0) n1 (fun j => .int (g j))).slots.size : Int); rw [arrV_size]; omega)
    (fun vm₁ _ i hi => by
      have e : (vp_cell (G.2.2.1 0) (n0, .inl f)).slots.getD (sp.toNatClampNeg + i) .null = .int (f (sp.toNatClampNeg + i)) := by
        show (arrV (G.2.2.1 0) n0 (fun j => .int (f j))).slots.getD _ _ = _
        rw [Array.getD_eq_getD_getElem?, arrV_read _ _ (by omega)]
        rfl
      rw [e]
      exact ⟨rfl, trivial⟩)
    (g := F0 m pc ls (.int n :: .int dp :: .ref a :: .int sp :: .ref a0 :: st)) rfl (by rw [C.2.2.1]; exact hl.1) (rest := st) rfl (by rw [C.2.1]; exact hd) (by omega) (by show 2 * 0 + _ + _ ≤ _; omega)
  have e1 : copied (vp_cell (G.2.2.1 0) (n0, .inl f)) (vp_cell (G.2.2.1 0) (n1, .inl g)) sp dp n = vp_cell (G.2.2.1 0) (n1, .inl (va_cpy f g sp.toNatClampNeg dp.toNatClampNeg n.toNatClampNeg)) := va_copied (fun z => .int z) (G.2.2.1 0) (G.2.2.1 0) f g k4
  rw [e1] at X' step
  have hlt : a < H.size := (Array.getElem?_eq_some_iff.mp hc1).1
  have hheap : ((T.setVm vm').setCell a (vp_cell (G.2.2.1 0) (n1, .inl (va_cpy f g sp.toNatClampNeg dp.toNatClampNeg n.toNatClampNeg)))).heap = H.setIfInBounds a (vp_cell (G.2.2.1 0) (n1, .inl (va_cpy f g sp.toNatClampNeg dp.toNatClampNeg n.toNatClampNeg))) := by rw [← hT]; rfl
  have oq : ∀ q : Nat, q ≠ a → (H.setIfInBounds a (vp_cell (G.2.2.1 0) (n1, .inl (va_cpy f g sp.toNatClampNeg dp.toNatClampNeg n.toNatClampNeg))))[q]? = H[q]? := fun q hq => by simp [Array.getElem?_setIfInBounds, Ne.symm hq]
  obtain ⟨t, a1, b1⟩ := kk p l e R s m args below meth c _ _ cells slots Z ls C (gW_up hw ha1 (show (H.setIfInBounds a _)[a]? = some _ by simp [Array.getElem?_setIfInBounds, hlt]) (by simp) oq) ⟨by simp; exact hs.1, fun q g1 g2 => by
      rw [oq q (fun e => g2 (by rw [e]; exact (hw.1 a _ ha1).1))]
      exact hs.2.1 q g1 g2, fun q hq => by
      rcases List.mem_append.mp hq with h | h
      · exact hs.2.2 q h
      · obtain ⟨z, -, hz⟩ := List.mem_map.mp h
        rw [← hz]
        exact (hw.1 a _ ha1).1⟩ hl h1 h2 h3 h4 K _ hheap X'
  exact ⟨t, step t a1, b1⟩
theorem gJ_copyl {a0 a n0 n1 : Nat} {f g : Nat → Int64} {sp dp n : Int32} {i : Nat} (hL : Cond.methodLink k.1.cls i arraycopyName ∈ gW0) (hd : decode k.2.1 pc = .ok (.invokestatic i, 3)) (ha0 : M.1 a0 = some (gL n0 f)) (ha1 : M.1 a = some (gL n1 g)) (k1 : ¬ sp < 0) (k2 : ¬ dp < 0) (k3 : ¬ n < 0) (k4 : sp.toNatClampNeg + n.toNatClampNeg ≤ n0) (k5 : dp.toNatClampNeg + n.toNatClampNeg ≤ n1) (hcat : (st.map fun v => v.category).sum + (nativeFrameWords "java/lang/System" "arraycopy" 5 + 11) ≤ 39) (hdp : 1 ≤ d) (kk : gJ G k d nc ns (gUp M a (gL n1 (va_cpy f g sp.toNatClampNeg dp.toNatClampNeg n.toNatClampNeg))) (pc + 3) lv st Q) : gJ G k d nc ns M pc lv (.int n :: .int dp :: .ref a :: .int sp :: .ref a0 :: st) Q := by
  intro p l e R s m args below meth c H locs cells slots Z ls C hw hs hl h1 h2 h3 h4 K
  have hts := C.2.2.2.2.1
  have nn : ∀ z : Int32, ¬ z < 0 → z.toInt = (z.toNatClampNeg : Int) := by
    intro z hz
    have hz0 : (0 : Int) ≤ z.toInt := by
      have := Int32.not_lt.mp hz
      simpa using Int32.le_iff_toInt_le.mp this
    show z.toInt = ((z.toInt.toNat : Nat) : Int)
    omega
  intro T hT X
  have hc0 : H[a0]? = some (vp_cell (G.2.2.1 2) (n0, .inr (.inl f))) := (hw.1 a0 _ ha0).2
  have hc1 : H[a]? = some (vp_cell (G.2.2.1 2) (n1, .inr (.inl g))) := (hw.1 a _ ha1).2
  obtain ⟨-, kc0, hk0, cm0, hkk0⟩ := (C.2.2.2.2.2.1.2 2 _ rfl).1 n0 (fun j => .long (f j))
  obtain ⟨-, kc1, hk1, cm1, hkk1⟩ := (C.2.2.2.2.2.1.2 2 _ rfl).1 n1 (fun j => .long (g j))
  obtain ⟨vm', X', step⟩ := X.arraycopy C.1 C.2.2.2.1 (hts _ hL) (hts _ gw_ac2) (hts _ gw_ac1) (hts _ gw_ac3) (src := a0) (dst := a) (cs := vp_cell (G.2.2.1 2) (n0, .inr (.inl f))) (cd := vp_cell (G.2.2.1 2) (n1, .inr (.inl g))) (srcPos := sp) (destPos := dp) (n := n) (by rw [hT]; exact hc0) (by rw [hT]; exact hc1)
    (fun _ h => by cases h) (fun _ h => by cases h) (fun h => by cases h) (fun h => by cases h) hk0 hk1 hkk0 hkk1 (by simp [refKind]) k1 k2 k3
    (by rw [nn sp k1, nn n k3]; show ¬ _ > ((arrV (G.2.2.1 2) n0 (fun j => .long (f j))).slots.size : Int); rw [arrV_size]; omega)
    (by rw [nn dp k2, nn n k3]; show ¬ _ > ((arrV (G.2.2.1 2) n1 (fun j => .long (g j))).slots.size : Int); rw [arrV_size]; omega)
    (fun vm₁ _ i hi => by
      have e : (vp_cell (G.2.2.1 2) (n0, .inr (.inl f))).slots.getD (sp.toNatClampNeg + i) .null = .long (f (sp.toNatClampNeg + i)) := by
        show (arrV (G.2.2.1 2) n0 (fun j => .long (f j))).slots.getD _ _ = _
        rw [Array.getD_eq_getD_getElem?, arrV_read _ _ (by omega)]
        rfl
      rw [e]
      exact ⟨rfl, trivial⟩)
    (g := F0 m pc ls (.int n :: .int dp :: .ref a :: .int sp :: .ref a0 :: st)) rfl (by rw [C.2.2.1]; exact hl.1) (rest := st) rfl (by rw [C.2.1]; exact hd) (by omega) (by show 2 * 0 + _ + _ ≤ _; omega)
  have e1 : copied (vp_cell (G.2.2.1 2) (n0, .inr (.inl f))) (vp_cell (G.2.2.1 2) (n1, .inr (.inl g))) sp dp n = vp_cell (G.2.2.1 2) (n1, .inr (.inl (va_cpy f g sp.toNatClampNeg dp.toNatClampNeg n.toNatClampNeg))) := va_copied (fun z => .long z) (G.2.2.1 2) (G.2.2.1 2) f g k4
  rw [e1] at X' step
  have hlt : a < H.size := (Array.getElem?_eq_some_iff.mp hc1).1
  have hheap : ((T.setVm vm').setCell a (vp_cell (G.2.2.1 2) (n1, .inr (.inl (va_cpy f g sp.toNatClampNeg dp.toNatClampNeg n.toNatClampNeg))))).heap = H.setIfInBounds a (vp_cell (G.2.2.1 2) (n1, .inr (.inl (va_cpy f g sp.toNatClampNeg dp.toNatClampNeg n.toNatClampNeg)))) := by rw [← hT]; rfl
  have oq : ∀ q : Nat, q ≠ a → (H.setIfInBounds a (vp_cell (G.2.2.1 2) (n1, .inr (.inl (va_cpy f g sp.toNatClampNeg dp.toNatClampNeg n.toNatClampNeg)))))[q]? = H[q]? := fun q hq => by simp [Array.getElem?_setIfInBounds, Ne.symm hq]
  obtain ⟨t, a1, b1⟩ := kk p l e R s m args below meth c _ _ cells slots Z ls C (gW_up hw ha1 (show (H.setIfInBounds a _)[a]? = some _ by simp [Array.getElem?_setIfInBounds, hlt]) (by simp) oq) ⟨by simp; exact hs.1, fun q g1 g2 => by
      rw [oq q (fun e => g2 (by rw [e]; exact (hw.1 a _ ha1).1))]
      exact hs.2.1 q g1 g2, fun q hq => by
      rcases List.mem_append.mp hq with h | h
      · exact hs.2.2 q h
      · obtain ⟨z, -, hz⟩ := List.mem_map.mp h
        rw [← hz]
        exact (hw.1 a _ ha1).1⟩ hl h1 h2 h3 h4 K _ hheap X'
  exact ⟨t, step t a1, b1⟩
end GK
