-- ===== end of PART A; then your names; then what follows =====
/-! THE CLAIM OUT OF ONE WALK OF THE LAW'S BODY. Your part is whole_start (and what it stands on); all else here is the same for every law, but numbers. -/
def R_law : String := "BearMouseLaw"
def lw_P (b : Addr) (xs : List Int32) (args : Array Value) (s : State) : Prop := args = #[.ref b] ∧ s.IntsAt b xs ∧ xs.length ≤ 3072 ∧ (Jvm.Cond.and given_1 narrow_1).before args s = true
def lw_Q (_ : Array Value) (s : State) (o : Outcome) (t : State) : Prop := o = .returned (some (.int 1)) ∧ Framed s o t [] 600000 7302250
def lw_Z (below : List Frame) (a : Array Value) (s : State) : State → Prop := fun t => ∃ o, t.status = .running ∧ Ended t below o ∧ lw_Q a s o t
/-- the law's own end, with 1 on the stack, nothing written that was there before, its room as the claim has it -/
theorem lw_ret {p : Program} {l : Launch} {e : Env} {s : State} {m : MethodId} {below : List Frame} {meth : Method} {c : Code} {b : Nat} (hx : p.tables.exec = Jvm.exec) (hb : c.code = code) (hr : meth.sig.returnType = ret) (hlocks : meth.locks = false) {pc : Nat} {H : Heap} {ls : Array Slot} (hdg : decode code pc = .ok (.ireturn, 1)) : W p l e room_1 s m #[Value.ref b] below meth c H [] 600000 7302250 (lw_Z below #[Value.ref b] s) (F0 m pc ls [.int 1]) := by
  intro T hT X
  obtain ⟨fs, hret, hrun, hended, hW, hframe⟩ := X.leave (v := some (.int 1)) (hlocks := hlocks) (fun h => by rw [hr] at h; cases h)
  have hmeth' : T.vm.method? m = some meth := X.method'
  refine ⟨T.setFrames fs, ?_, .returned (some (.int 1)), hrun, hended, rfl, ⟨_, rfl⟩, hW, hframe⟩
  jvm_step X.here [X.here.top, hx, hb, hdg, hmeth', hr, ret, narrow_b1]
  (try refine ⟨rfl, ?_⟩); (try refine ⟨rfl, ?_⟩)
  first | (intro acts; rw [hret _ acts rfl rfl rfl]) | rw [hret _ _ rfl rfl rfl]
  exact Steps.refl _
/-- what holds at the law's entry: the machine, the code, the tables' words (any of lw_tbl by 'hts w (by decide +kernel)'), the script of L ints xs at the cell b, what the Statement gives of the start (any of its parts by flat_of_before) -/
def lw_At (p : Program) (s : State) (m : MethodId) (meth : Method) (c : Code) (b L : Nat) (xs : Nat → Int32) : Prop :=
  p.tables.exec = Jvm.exec ∧ c.code = code ∧ meth.sig.returnType = ret ∧ c.maxLocals = 4 ∧ s.vm.findClass R_law = some m.cls ∧ (∀ w ∈ lw_tbl, w.before #[Value.ref b] s = true) ∧ va_X b L xs s s.heap ∧ b < s.heap.size ∧ meth.locks = false ∧ (Jvm.Cond.and given_1 narrow_1).before #[Value.ref b] s = true
section QL
variable {p : Program} {l : Launch} {e : Env} {R : Room} {s : State} {m : MethodId} {args : Array Value} {below : List Frame} {meth : Method} {c : Code} {Q : State → Prop}
variable {Γ : GT} {own : String} {cc : ByteArray} {nL kc ks pc pc' : Nat} {rt : Option FieldType} {L L' : List (Nat × Value)} {S : List Value} {M M' : QM}
theorem q_sld (cx : CX Γ p s m args meth c own cc nL rt) {b NL : Nat} {xs : Nat → Int32} {i x : Int32} (hX : va_X b NL xs s s.heap ∧ b < s.heap.size ∧ ¬ gFr Γ b) (hi : ¬ (i < 0 ∨ NL ≤ i.toNatClampNeg)) (hx : x = xs i.toNatClampNeg) (hd : decode cc pc = .ok (.iaload, 1)) (hp : pc + 1 = pc') (k : EE p l e R s m args below meth c Q Γ nL kc ks pc' L (.int x :: S) M) : EE p l e R s m args below meth c Q Γ nL kc ks pc L (.int i :: .ref b :: S) M := by
  subst hp; subst hx
  exact fun H locs ls h1 h2 h3 => va_sld cx.x cx.b hX.1 hX.2.1 hX.2.2 h2 hi hd (k H locs ls h1 h2 h3)
theorem q_slen (cx : CX Γ p s m args meth c own cc nL rt) {b NL : Nat} {xs : Nat → Int32} (hX : va_X b NL xs s s.heap ∧ b < s.heap.size ∧ ¬ gFr Γ b) (hd : decode cc pc = .ok (.arraylength, 1)) (hp : pc + 1 = pc') (k : EE p l e R s m args below meth c Q Γ nL kc ks pc' L (.int (Int32.ofNat NL) :: S) M) : EE p l e R s m args below meth c Q Γ nL kc ks pc L (.ref b :: S) M := by
  subst hp
  exact fun H locs ls h1 h2 h3 => va_slen cx.x cx.b hX.1 hX.2.1 hX.2.2 h2 hd (k H locs ls h1 h2 h3)
theorem q_lawret {b : Nat} (cx : CX Γ p s m args meth c own code nL ret) (hargs : args = #[Value.ref b]) (hQ : Q = lw_Z below #[Value.ref b] s) (hgo : go Γ = s.heap.size) (hk : kc ≤ 600000) (hs : ks ≤ 7302250) (hd : decode code pc = .ok (.ireturn, 1)) : EE p l e room_1 s m args below meth c Q Γ nL kc ks pc L [.int 1] M := by
  subst hargs; subst hQ
  intro H locs ls h1 h2 h3
  refine va_forget (fun q hq => ?_) ?_
  · have h := h2.2.2 q hq
    rw [← hgo]; exact h
  · exact W.widen hk hs (lw_ret cx.x cx.b cx.rt cx.lk hd)
end QL
