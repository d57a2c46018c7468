/-! calls and ends -/
def QPre (Γ : GT) (M : QM) (U : State) : Prop := go Γ ≤ U.heap.size ∧ KK Γ U ∧ OO Γ U U.heap ∧ RM Γ M U.heap
def QPost (Γ : GT) (M' : QM) (v : Option Value) (st : State) (o : Outcome) (t : State) : Prop := o = .returned v ∧ RM Γ M' t.heap ∧ st.heap.size ≤ t.heap.size ∧ ∀ q : Nat, q < go Γ → t.heap[q]? = st.heap[q]?
/-- a method's contract: at these arguments and this memory it answers v and leaves the memory M' -/
def CT (Γ : GT) (l : Launch) (y : MethodName) (cc : ByteArray) (maxL : Nat) (ret : Option FieldType) (rm : Room) (As : List Value) (M : QM) (v : Option Value) (M' : QM) : Prop :=
  Met l y (Cond.code y cc maxL ret :: AW) rm (fun a U => a = As.toArray ∧ QPre Γ M U) (fun _ st o t => QPost Γ M' v st o t) rm.cells rm.slots (gFr Γ)
theorem lg_sl_ok {As : List Value} {n : Nat} (h : (lg_sl As).length ≤ n) : (lg_sl As).length ≤ n := h
section QC
variable {p : Program} {l : Launch} {e : Env} {R : Room} {s : State} {m : MethodId} {args : Array Value} {below : List Frame} {meth : Method} {c : Code} {Q : State → Prop}
variable {Γ : GT} {own : String} {cc : ByteArray} {nL kc ks pc pc' : Nat} {ret : Option FieldType} {L L' : List (Nat × Value)} {S : List Value} {M M' : QM}
theorem ct_intro {y : MethodName} {maxL : Nat} {rm : Room} {As : List Value} {v : Option Value} (hy : plainName y.cls = true) (hown : y.cls = own) (hsz : (lg_sl As).length ≤ maxL) (hL : lv_args 0 As = L)
    (body : ∀ (p : Program) (e : Env) (s : State) (m : MethodId) (args : Array Value) (below : List Frame) (meth : Method) (c : Code) (Q : State → Prop), Q = MQ below (fun _ st o t => QPost Γ M' v st o t) args s rm.cells rm.slots (gFr Γ) → CX Γ p s m args meth c own cc maxL ret → meth.name = y.name → EE p l e rm s m args below meth c Q Γ maxL 0 0 0 L [] M) : CT Γ l y cc maxL ret rm As M v M' := by
  subst hL
  refine Met.ofW (cc := cc) (maxL := maxL) (ret := ret) hy rfl ?_
  intro p e s m args below meth c s₁ B hml hv
  obtain ⟨rfl, hgo, hK, hO, hR⟩ := hv
  have hts : ∀ w ∈ (Cond.code y cc maxL ret :: AW), w.before As.toArray s = true := atoms_spec (ws := Cond.code y cc maxL ret :: AW) B.pre
  have hE := body p e s m As.toArray below meth c _ rfl ⟨B.exec, B.bytes, hml, hown ▸ findClass_of_methodNamed B.named, fun w hw => hts w (List.mem_cons_of_mem _ hw), hK, hO, B.notSynchronized, B.returns, hgo⟩ (name_of_methodNamed B.named B.method).1
  rw [lg_entry_eq]
  exact hE s.heap [] _ hR va_S.rf (lv_entry As hsz)
theorem q_end {v : Option Value} {H : Heap} {locs : List Loc} (h1 : RM Γ M H) (h2 : va_S (gFr Γ) s.heap H locs) (hg : go Γ ≤ s.heap.size) (t : State) (ht : t.heap = H) : QPost Γ M v s (.returned v) t :=
  ⟨rfl, by rw [ht]; exact h1, by rw [ht]; exact h2.1, fun q hq => by rw [ht]; exact h2.2.1 q (Nat.lt_of_lt_of_le hq hg) (Nat.not_le.mpr hq)⟩
theorem q_iret (cx : CX Γ p s m args meth c own cc nL (some .int)) {x : Int32} (hd : decode cc pc = .ok (.ireturn, 1)) : EE p l e R s m args below meth c (MQ below (fun _ st o t => QPost Γ M (some (.int x)) st o t) args s kc ks (gFr Γ)) Γ nL kc ks pc L [.int x] M :=
  fun H locs ls h1 h2 h3 => W.iret cx.x cx.b cx.rt (fun t ht _ => q_end h1 h2 cx.go t ht) h2.2.2 hd cx.lk
theorem W.zretN {cc : ByteArray} {H : Heap} {locs : List Loc} {Qc : Array Value → State → Outcome → State → Prop} {free : Addr → Prop} {v v' : Int32} {ty : FieldType} (hexec : p.tables.exec = Jvm.exec) (hb : c.code = cc) (hr : meth.sig.returnType = some ty) (hn : narrow ty (.int v) = .int v')
    (hq : ∀ t : State, t.heap = H → s.WarmedH t.vm → Qc args s (.returned (some (.int v'))) t) (hf : ∀ q ∈ locs, free q.base)
    {pc : Nat} {ls : Array Slot} (hdg : decode cc pc = .ok (.ireturn, 1)) (hlocks : meth.locks = false) : W p l e R s m args below meth c H locs kc ks (MQ below Qc args s kc ks free) (F0 m pc ls [.int v]) := by
  intro T hT X
  obtain ⟨fs, hret, hrun, hended, hW, hframe⟩ := X.leave (v := some (.int v')) (fun h => by rw [hr] at h; cases h)
  have hmeth' : T.vm.method? m = some meth := X.method'
  refine ⟨T.setFrames fs, ?_, .returned (some (.int v')), hrun, hended, hq _ hT hW, locs, ⟨⟨_, rfl⟩, hW, hframe⟩, hf⟩
  jvm_step X.here [X.here.top, hexec, hb, hdg, hmeth', hr, hn]
  (try refine ⟨rfl, ?_⟩); (try refine ⟨rfl, ?_⟩)
  first | (intro acts; rw [hret _ acts rfl rfl rfl]) | rw [hret _ _ rfl rfl rfl]
  exact Steps.refl _
theorem q_nret {ty : FieldType} (cx : CX Γ p s m args meth c own cc nL (some ty)) {x x' : Int32} (hn : narrow ty (.int x) = .int x') (hd : decode cc pc = .ok (.ireturn, 1)) : EE p l e R s m args below meth c (MQ below (fun _ st o t => QPost Γ M (some (.int x')) st o t) args s kc ks (gFr Γ)) Γ nL kc ks pc L [.int x] M :=
  fun H locs ls h1 h2 h3 => W.zretN cx.x cx.b cx.rt hn (fun t ht _ => q_end h1 h2 cx.go t ht) h2.2.2 hd cx.lk
theorem q_lret (cx : CX Γ p s m args meth c own cc nL (some .long)) {x : Int64} (hd : decode cc pc = .ok (.lreturn, 1)) : EE p l e R s m args below meth c (MQ below (fun _ st o t => QPost Γ M (some (.long x)) st o t) args s kc ks (gFr Γ)) Γ nL kc ks pc L [.long x] M :=
  fun H locs ls h1 h2 h3 => W.lret cx.x cx.b cx.rt (fun t ht _ => q_end h1 h2 cx.go t ht) h2.2.2 hd cx.lk
theorem q_vret (cx : CX Γ p s m args meth c own cc nL none) (hd : decode cc pc = .ok (.return_, 1)) : EE p l e R s m args below meth c (MQ below (fun _ st o t => QPost Γ M none st o t) args s kc ks (gFr Γ)) Γ nL kc ks pc L [] M :=
  fun H locs ls h1 h2 h3 => W.vret cx.x cx.b cx.rt (fun t ht _ => q_end h1 h2 cx.go t ht) h2.2.2 hd cx.lk
theorem q_aret {n : String} (cx : CX Γ p s m args meth c own cc nL (some (.object n))) {x : Nat} (hd : decode cc pc = .ok (.areturn, 1)) : EE p l e R s m args below meth c (MQ below (fun _ st o t => QPost Γ M (some (.ref x)) st o t) args s kc ks (gFr Γ)) Γ nL kc ks pc L [.ref x] M :=
  fun H locs ls h1 h2 h3 => W.aret cx.x cx.b cx.rt (Or.inl ⟨n, rfl⟩) (Or.inr ⟨x, rfl⟩) (fun t ht _ => q_end h1 h2 cx.go t ht) h2.2.2 hd cx.lk
theorem q_aretN {n : String} (cx : CX Γ p s m args meth c own cc nL (some (.object n))) (hd : decode cc pc = .ok (.areturn, 1)) : EE p l e R s m args below meth c (MQ below (fun _ st o t => QPost Γ M (some .null) st o t) args s kc ks (gFr Γ)) Γ nL kc ks pc L [.null] M :=
  fun H locs ls h1 h2 h3 => W.aret cx.x cx.b cx.rt (Or.inl ⟨n, rfl⟩) (Or.inl rfl) (fun t ht _ => q_end h1 h2 cx.go t ht) h2.2.2 hd cx.lk
theorem q_after (cx : CX Γ p s m args meth c own cc nL ret) {H : Heap} {locs : List Loc} {ls : Array Slot} {mc ms : Nat} {v : Option Value} {S0 S1 : List Value} {M1 : QM} (h2 : va_S (gFr Γ) s.heap H locs) (h3 : lv_has ls nL L) (hr : va_Run p l e R s m args below meth c H locs kc ks mc ms (F0 m pc ls S0) S (fun st o t => QPost Γ M1 v st o t) (gFr Γ))
    (hS1 : v.toList ++ S = S1) (k : EE p l e R s m args below meth c Q Γ nL (kc + mc) (ks + ms) (pc + 3) L S1 M1) : W p l e R s m args below meth c H locs kc ks Q (F0 m pc ls S0) := by
  subst hS1
  intro T hT X
  obtain ⟨v', st₀, t, T', Lc, h0, X', hL, e1, e2, ⟨hv, hRM, hz, hfr⟩, st⟩ := hr T hT X
  cases hv
  have hS' : va_S (gFr Γ) s.heap T'.heap (locs ++ Lc) := ⟨Nat.le_trans h2.1 (by rw [e1]; rw [h0] at hz; exact hz), fun q hq hn => by rw [e1, hfr q (Nat.not_le.mp hn), h0]; exact h2.2.1 q hq hn, fun q hq => by
    rcases List.mem_append.mp hq with h | h
    · exact h2.2.2 q h
    · exact hL q h⟩
  obtain ⟨t2, a1, b1⟩ := k T'.heap (locs ++ Lc) ls (by rw [e1]; exact hRM) hS' h3 T' rfl X'
  exact ⟨t2, st t2 a1, b1⟩
theorem q_blind {As : List Value} : FrameBlind (fun a U => a = As.toArray ∧ QPre Γ M U) := fun a U g mk h => ⟨h.1, h.2.1, KK.same (u := U) (U := U.calling g mk a) rfl h.2.2.1, OO.moved (u := U) (U := U.calling g mk a) (Vm.Alike.refl U.vm) h.2.2.2.1, h.2.2.2.2⟩
theorem q_pre (cx : CX Γ p s m args meth c own cc nL ret) {H : Heap} {locs : List Loc} (h1 : RM Γ M H) (h2 : va_S (gFr Γ) s.heap H locs) (As : List Value) : ∀ U : State, U.heap = H → s.WarmedH U.vm → (As.toArray = As.toArray ∧ QPre Γ M U) := fun U hU hW =>
  ⟨rfl, by rw [hU]; exact Nat.le_trans cx.go h2.1, KK.warm hW cx.k, by rw [hU]; exact OO.moved hW.alike (OO.kept cx.old (fun a g1 g2 => h2.2.1 a g1 g2)), by rw [hU]; exact h1⟩
theorem q_recv (cx : CX Γ p s m args meth c own cc nL ret) {H : Heap} {b ci : Nat} {r : vw_C} (h1 : RM Γ M H) (ht : mt M b = ci) (hci : ci < 10) (hr : vwCl[ci]? = some r) : ∃ cellB : Cell, H[b]? = some cellB ∧ cellB.vm.isStatics = false ∧ s.vm.findClass r.1 = some cellB.cls := by
  have hok := (h1.2.2 b (by omega)).2.1 (by omega)
  rw [ht] at hok
  obtain ⟨r', hr', cell, q1, q2, q3, q4⟩ := hok
  cases hr.symm.trans hr'
  exact ⟨cell, q1, by rw [q3]; rfl, by rw [q2]; exact (cx.k.1.1 ci r hr).2.1⟩
theorem q_words (cx : CX Γ p s m args meth c own cc nL ret) {y : MethodName} {bytes : ByteArray} {maxL : Nat} {rt : Option FieldType} (h : Cond.code y bytes maxL rt ∈ AW) : ∀ w ∈ (Cond.code y bytes maxL rt :: AW), ∀ (a' : Array Value) (U : State), s.WarmedH U.vm → w.before a' U = true :=
  pay_in (big := AW) (fun w hw => cx.w hw) (fun w hw => AW_good w (by rcases List.mem_cons.mp hw with rfl | h1 <;> assumption))
theorem q_len {y : MethodName} {n : Nat} (h2 : (parseMethodDescriptor y.desc).map (fun d => d.parameters.length) = some n) : ∀ sig, parseMethodDescriptor y.desc = some sig → n = sig.parameters.length := fun sig h => by
  rw [h] at h2
  exact (Option.some.inj h2).symm
theorem q_callV (cx : CX Γ p s m args meth c own cc nL ret) {index : Nat} {y : MethodName} {bytes : ByteArray} {maxL : Nat} {rt : Option FieldType} {rm : Room} {b : Nat} {As : List Value} {v : Option Value} {M1 : QM} {S0 S1 : List Value} {kc' ks' : Nat} (ci : Nat) (hC : CT Γ l y bytes maxL rt rm (.ref b :: As) M v M1) (lk : LKI y bytes maxL rt As.length) (lv : LKV y) (lc : LKC own index y) (ht : mt M b = ci) {r : vw_C} (hr : vwCl[ci]? = some r ∧ ci < 10 ∧ r.1 = y.cls) (hS0 : As.reverse ++ .ref b :: S = S0) (hS1 : v.toList ++ S = S1) (hcat : (S.map fun v => v.category).sum ≤ 8)
    (hroom : rm.frames + 1 ≤ R.frames ∧ 8 + (maxL + 11) + rm.locals ≤ R.locals) (hf : kc + rm.cells ≤ R.cells ∧ ks + rm.slots ≤ R.slots) (hd : decode cc pc = .ok (.invokevirtual index, 3)) (hp : pc + 3 = pc') (hk : kc + rm.cells = kc') (hs : ks + rm.slots = ks') (k : EE p l e R s m args below meth c Q Γ nL kc' ks' pc' L S1 M1) : EE p l e R s m args below meth c Q Γ nL kc ks pc L S0 M := by
  subst hp; subst hS0; subst hk; subst hs
  intro H locs ls h1 h2 h3
  obtain ⟨hr1, hci, hrn⟩ := hr
  obtain ⟨hcode, hini, hy, hlen⟩ := lk
  have hrec := q_recv cx h1 ht hci hr1
  rw [hrn] at hrec
  have hpv : PreV s H y.cls b (fun a U => a = (Value.ref b :: As).toArray ∧ QPre Γ M U) As := ⟨q_blind, hrec, q_pre cx h1 h2 _⟩
  rcases lc with lc | ⟨host, lc⟩
  · exact q_after cx h2 h3 (va_runV (As := As) (rest := S) (Ts := AW) ⟨cx.x, cx.b, cx.ml, cx.o, fun w hw => cx.w hw⟩ hC ⟨⟨rfl, rfl, hroom.1, hroom.2, q_words cx hcode, List.mem_cons_self, cx.w hcode, cx.w hini, hy, q_len hlen, cx.w lc⟩, cx.w lv.1, cx.w lv.2⟩ hpv rfl rfl h3.1 rfl (lv_room hcat) hd hf) hS1 k
  · exact q_after cx h2 h3 (va_runVN (As := As) (rest := S) (Ts := AW) ⟨cx.x, cx.b, cx.ml, cx.o, fun w hw => cx.w hw⟩ hC ⟨⟨⟨rfl, rfl, hroom.1, hroom.2, q_words cx hcode, List.mem_cons_self⟩, cx.w hcode, cx.w hini, hy, q_len hlen, va_Nw.use rfl (cx.k.2.1 _ lc)⟩, cx.w lv.1, cx.w lv.2⟩ hpv rfl rfl h3.1 rfl (lv_room hcat) hd hf) hS1 k
theorem q_callS (cx : CX Γ p s m args meth c own cc nL ret) {index : Nat} {y : MethodName} {bytes : ByteArray} {maxL : Nat} {rt : Option FieldType} {rm : Room} {As : List Value} {v : Option Value} {M1 : QM} {S0 S1 : List Value} {kc' ks' : Nat} (hC : CT Γ l y bytes maxL rt rm As M v M1) (lk : LKI y bytes maxL rt As.length) (lv : Cond.static y ∈ AW) (lc : LKC own index y) (hS0 : As.reverse ++ S = S0) (hS1 : v.toList ++ S = S1) (hcat : (S.map fun v => v.category).sum ≤ 8)
    (hroom : rm.frames + 1 ≤ R.frames ∧ 8 + (maxL + 11) + rm.locals ≤ R.locals) (hf : kc + rm.cells ≤ R.cells ∧ ks + rm.slots ≤ R.slots) (hd : decode cc pc = .ok (.invokestatic index, 3)) (hp : pc + 3 = pc') (hk : kc + rm.cells = kc') (hs : ks + rm.slots = ks') (k : EE p l e R s m args below meth c Q Γ nL kc' ks' pc' L S1 M1) : EE p l e R s m args below meth c Q Γ nL kc ks pc L S0 M := by
  subst hp; subst hS0; subst hk; subst hs
  intro H locs ls h1 h2 h3
  obtain ⟨hcode, hini, hy, hlen⟩ := lk
  have hpv : PreS s H (fun a U => a = As.toArray ∧ QPre Γ M U) As := ⟨q_blind, q_pre cx h1 h2 _⟩
  rcases lc with lc | ⟨host, lc⟩
  · exact q_after cx h2 h3 (va_runS (As := As) (rest := S) (Ts := AW) ⟨cx.x, cx.b, cx.ml, cx.o, fun w hw => cx.w hw⟩ hC ⟨⟨rfl, rfl, hroom.1, hroom.2, q_words cx hcode, List.mem_cons_self, cx.w hcode, cx.w hini, hy, q_len hlen, cx.w lc⟩, cx.w lv⟩ hpv rfl rfl h3.1 rfl (lv_room hcat) hd hf) hS1 k
  · exact q_after cx h2 h3 (va_runSN (As := As) (rest := S) (Ts := AW) ⟨cx.x, cx.b, cx.ml, cx.o, fun w hw => cx.w hw⟩ hC ⟨⟨⟨rfl, rfl, hroom.1, hroom.2, q_words cx hcode, List.mem_cons_self⟩, cx.w hcode, cx.w hini, hy, q_len hlen, va_Nw.use rfl (cx.k.2.1 _ lc)⟩, cx.w lv, trivial⟩ hpv rfl rfl h3.1 rfl (lv_room hcat) hd hf) hS1 k
theorem q_callI (cx : CX Γ p s m args meth c own cc nL ret) {index : Nat} {y : MethodName} {bytes : ByteArray} {maxL : Nat} {rm : Room} {b : Nat} {As : List Value} {M1 : QM} {S0 : List Value} {kc' ks' : Nat} (hC : CT Γ l y bytes maxL none rm (.ref b :: As) M none M1) (lk : LKI y bytes maxL none As.length) (lv : Cond.instanceMethod y ∈ AW ∧ y.name = "<init>") (lc : LKC own index y) (hS0 : As.reverse ++ .ref b :: S = S0) (hcat : (S.map fun v => v.category).sum ≤ 8)
    (hroom : rm.frames + 1 ≤ R.frames ∧ 8 + (maxL + 11) + rm.locals ≤ R.locals) (hf : kc + rm.cells ≤ R.cells ∧ ks + rm.slots ≤ R.slots) (hd : decode cc pc = .ok (.invokespecial index, 3)) (hp : pc + 3 = pc') (hk : kc + rm.cells = kc') (hs : ks + rm.slots = ks') (k : EE p l e R s m args below meth c Q Γ nL kc' ks' pc' L S M1) : EE p l e R s m args below meth c Q Γ nL kc ks pc L S0 M := by
  subst hp; subst hS0; subst hk; subst hs
  intro H locs ls h1 h2 h3
  obtain ⟨hcode, hini, hy, hlen⟩ := lk
  have hpv : PreS s H (fun a U => a = (Value.ref b :: As).toArray ∧ QPre Γ M U) (.ref b :: As) := ⟨q_blind, q_pre cx h1 h2 _⟩
  rcases lc with lc | ⟨host, lc⟩
  · exact q_after cx h2 h3 (va_runI (As := As) (rest := S) (Ts := AW) ⟨cx.x, cx.b, cx.ml, cx.o, fun w hw => cx.w hw⟩ hC ⟨⟨rfl, rfl, hroom.1, hroom.2, q_words cx hcode, List.mem_cons_self, cx.w hcode, cx.w hini, hy, q_len hlen, cx.w lc⟩, lv.2, cx.w lv.1⟩ hpv rfl rfl h3.1 rfl (lv_room hcat) hd hf) rfl k
  · exact q_after cx h2 h3 (va_runIN (As := As) (rest := S) (Ts := AW) ⟨cx.x, cx.b, cx.ml, cx.o, fun w hw => cx.w hw⟩ hC ⟨⟨⟨rfl, rfl, hroom.1, hroom.2, q_words cx hcode, List.mem_cons_self⟩, cx.w hcode, cx.w hini, hy, q_len hlen, va_Nw.use rfl (cx.k.2.1 _ lc)⟩, lv.2, cx.w lv.1⟩ hpv rfl rfl h3.1 rfl (lv_room hcat) hd hf) rfl k
theorem q_objInit (cx : CX Γ p s m args meth c own cc nL ret) {index b : Nat} (hlink : Cond.methodLink own index Lib.objectInit ∈ AW) (hi : Cond.instanceMethod Lib.objectInit ∈ AW ∧ Cond.code Lib.objectInit ⟨#[0xb1]⟩ 1 none ∈ AW) (hroom : 1 ≤ R.frames ∧ 20 ≤ R.locals) (hcat : (S.map fun v => v.category).sum ≤ 8) (hd : decode cc pc = .ok (.invokespecial index, 3)) (hp : pc + 3 = pc') (k : EE p l e R s m args below meth c Q Γ nL kc ks pc' L S M) : EE p l e R s m args below meth c Q Γ nL kc ks pc L (.ref b :: S) M := by
  subst hp
  exact fun H locs ls h1 h2 h3 => W.objInit cx.x cx.b cx.o (cx.w hlink) (cx.w hi.1) (cx.w hi.2) rfl (h3.1.trans cx.ml.symm) rfl hd hroom.1 (by show 2 * 0 + _ + 12 ≤ R.locals; omega) (k H locs ls h1 h2 h3)
end QC
