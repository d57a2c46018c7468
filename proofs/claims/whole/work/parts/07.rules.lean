def ushr (x y : Int32) : Int32 := (x.toUInt32 >>> (y.toUInt32 &&& Int32.toUInt32 31)).toInt32
def i2ch (x : Int32) : Int32 := (x.toUInt32 % 65536).toInt32
def zb (x : Int32) : Int32 := x &&& 1
/-! ===== THE WALK OVER THE TYPED MEMORY: a judgement EE that hides heap, frame and locals; a row an instruction ===== -/
def OOs (Γ : GT) (s : State) : Prop := OO Γ s s.heap
def CX (Γ : GT) (p : Program) (s : State) (m : MethodId) (args : Array Value) (meth : Method) (c : Code) (own : String) (cc : ByteArray) (nL : Nat) (ret : Option FieldType) : Prop :=
  p.tables.exec = Jvm.exec ∧ c.code = cc ∧ c.maxLocals = nL ∧ s.vm.findClass own = some m.cls ∧ (∀ w ∈ AW, w.before args s = true) ∧ KK Γ s ∧ OOs Γ s ∧ meth.locks = false ∧ meth.sig.returnType = ret ∧ go Γ ≤ s.heap.size
def EE (p : Program) (l : Launch) (e : Env) (R : Room) (s : State) (m : MethodId) (args : Array Value) (below : List Frame) (meth : Method) (c : Code) (Q : State → Prop) (Γ : GT) (nL kc ks pc : Nat) (L : List (Nat × Value)) (S : List Value) (M : QM) : Prop :=
  ∀ (H : Heap) (locs : List Loc) (ls : Array Slot), RM Γ M H → va_S (gFr Γ) s.heap H locs → lv_has ls nL L → W p l e R s m args below meth c H locs kc ks Q (F0 m pc ls S)
section QR
variable {p : Program} {l : Launch} {e : Env} {R : Room} {s : State} {m : MethodId} {args : Array Value} {below : List Frame} {meth : Method} {c : Code} {Q : State → Prop}
variable {Γ : GT} {own : String} {cc : ByteArray} {nL kc ks pc pc' : Nat} {ret : Option FieldType} {L L' : List (Nat × Value)} {S : List Value} {M M' : QM}
theorem CX.x (h : CX Γ p s m args meth c own cc nL ret) : p.tables.exec = Jvm.exec := h.1
theorem CX.b (h : CX Γ p s m args meth c own cc nL ret) : c.code = cc := h.2.1
theorem CX.ml (h : CX Γ p s m args meth c own cc nL ret) : c.maxLocals = nL := h.2.2.1
theorem CX.o (h : CX Γ p s m args meth c own cc nL ret) : s.vm.findClass own = some m.cls := h.2.2.2.1
theorem CX.w (h : CX Γ p s m args meth c own cc nL ret) {w : Cond} (hw : w ∈ AW) : w.before args s = true := h.2.2.2.2.1 w hw
theorem CX.k (h : CX Γ p s m args meth c own cc nL ret) : KK Γ s := h.2.2.2.2.2.1
theorem CX.old (h : CX Γ p s m args meth c own cc nL ret) : OO Γ s s.heap := h.2.2.2.2.2.2.1
theorem CX.lk (h : CX Γ p s m args meth c own cc nL ret) : meth.locks = false := h.2.2.2.2.2.2.2.1
theorem CX.rt (h : CX Γ p s m args meth c own cc nL ret) : meth.sig.returnType = ret := h.2.2.2.2.2.2.2.2.1
theorem CX.go (h : CX Γ p s m args meth c own cc nL ret) : go Γ ≤ s.heap.size := h.2.2.2.2.2.2.2.2.2
theorem q_iconst (cx : CX Γ p s m args meth c own cc nL ret) {n : Int} {v : Int32} (hv : Int32.ofInt n = v) (hd : decode cc pc = .ok (.iconst n, 1)) (hp : pc + 1 = pc') (k : EE p l e R s m args below meth c Q Γ nL kc ks pc' L (.int v :: S) M) : EE p l e R s m args below meth c Q Γ nL kc ks pc L (S) M := by
  subst hp
  exact fun H locs ls h1 h2 h3 => lv_iconst cx.x cx.b hd hv (k H locs ls h1 h2 h3)
theorem q_bipush (cx : CX Γ p s m args meth c own cc nL ret) {n : Int} {v : Int32} (hv : (Int8.ofInt n).toInt32 = v) (hd : decode cc pc = .ok (.bipush n, 2)) (hp : pc + 2 = pc') (k : EE p l e R s m args below meth c Q Γ nL kc ks pc' L (.int v :: S) M) : EE p l e R s m args below meth c Q Γ nL kc ks pc L (S) M := by
  subst hp
  exact fun H locs ls h1 h2 h3 => lv_bipush cx.x cx.b hd hv (k H locs ls h1 h2 h3)
theorem q_sipush (cx : CX Γ p s m args meth c own cc nL ret) {n : Int} {v : Int32} (hv : (Int16.ofInt n).toInt32 = v) (hd : decode cc pc = .ok (.sipush n, 3)) (hp : pc + 3 = pc') (k : EE p l e R s m args below meth c Q Γ nL kc ks pc' L (.int v :: S) M) : EE p l e R s m args below meth c Q Γ nL kc ks pc L (S) M := by
  subst hp
  exact fun H locs ls h1 h2 h3 => lv_sipush cx.x cx.b hd hv (k H locs ls h1 h2 h3)
theorem q_ldc (cx : CX Γ p s m args meth c own cc nL ret) {index : Nat} {v : Int32} (hw : Cond.constant own index v ∈ AW) (hd : decode cc pc = .ok (.ldc index, 2)) (hp : pc + 2 = pc') (k : EE p l e R s m args below meth c Q Γ nL kc ks pc' L (.int v :: S) M) : EE p l e R s m args below meth c Q Γ nL kc ks pc L (S) M := by
  subst hp
  exact fun H locs ls h1 h2 h3 => lv_ldc cx.x cx.b cx.o (cx.w hw) hd (k H locs ls h1 h2 h3)
theorem q_ldcw (cx : CX Γ p s m args meth c own cc nL ret) {index : Nat} {v : Int32} (hw : Cond.constant own index v ∈ AW) (hd : decode cc pc = .ok (.ldc_w index, 3)) (hp : pc + 3 = pc') (k : EE p l e R s m args below meth c Q Γ nL kc ks pc' L (.int v :: S) M) : EE p l e R s m args below meth c Q Γ nL kc ks pc L (S) M := by
  subst hp
  exact fun H locs ls h1 h2 h3 => lv_ldcw cx.x cx.b cx.o (cx.w hw) hd (k H locs ls h1 h2 h3)
theorem q_ldc2 (cx : CX Γ p s m args meth c own cc nL ret) {index : Nat} {v : Int64} (hw : Cond.constantLong own index v ∈ AW) (hd : decode cc pc = .ok (.ldc2_w index, 3)) (hp : pc + 3 = pc') (k : EE p l e R s m args below meth c Q Γ nL kc ks pc' L (.long v :: S) M) : EE p l e R s m args below meth c Q Γ nL kc ks pc L (S) M := by
  subst hp
  exact fun H locs ls h1 h2 h3 => lv_ldc2 cx.x cx.b cx.o (cx.w hw) hd (k H locs ls h1 h2 h3)
theorem q_lconst0 (cx : CX Γ p s m args meth c own cc nL ret)  (hd : decode cc pc = .ok (.lconst 0, 1)) (hp : pc + 1 = pc') (k : EE p l e R s m args below meth c Q Γ nL kc ks pc' L (.long 0 :: S) M) : EE p l e R s m args below meth c Q Γ nL kc ks pc L (S) M := by
  subst hp
  exact fun H locs ls h1 h2 h3 => lv_lconst cx.x cx.b hd (by decide) (k H locs ls h1 h2 h3)
theorem q_lconst1 (cx : CX Γ p s m args meth c own cc nL ret)  (hd : decode cc pc = .ok (.lconst 1, 1)) (hp : pc + 1 = pc') (k : EE p l e R s m args below meth c Q Γ nL kc ks pc' L (.long 1 :: S) M) : EE p l e R s m args below meth c Q Γ nL kc ks pc L (S) M := by
  subst hp
  exact fun H locs ls h1 h2 h3 => lv_lconst cx.x cx.b hd (by decide) (k H locs ls h1 h2 h3)
theorem q_ldcS (cx : CX Γ p s m args meth c own cc nL ret) {index i : Nat} (hown : own = "BearMouse$Reader") (hi : i < 8) (hx : (sKeys.getD i (0, "")).1 = index) (hd : decode cc pc = .ok (.ldc index, 2)) (hp : pc + 2 = pc') (k : EE p l e R s m args below meth c Q Γ nL kc ks pc' L (.ref (gS Γ (2 + i)) :: S) M) : EE p l e R s m args below meth c Q Γ nL kc ks pc L (S) M := by
  subst hp
  exact fun H locs ls h1 h2 h3 => by subst hown; subst hx; exact va_ldcS cx.x cx.b cx.o (cx.k.2.2.2 i hi) hd (k H locs ls h1 h2 h3)
theorem q_null (cx : CX Γ p s m args meth c own cc nL ret)  (hd : decode cc pc = .ok (.aconst_null, 1)) (hp : pc + 1 = pc') (k : EE p l e R s m args below meth c Q Γ nL kc ks pc' L (.null :: S) M) : EE p l e R s m args below meth c Q Γ nL kc ks pc L (S) M := by
  subst hp
  exact fun H locs ls h1 h2 h3 => lv_null cx.x cx.b hd (k H locs ls h1 h2 h3)
theorem q_iload_n (cx : CX Γ p s m args meth c own cc nL ret) {i : Fin 4} {x : Int32} (kk : Nat) (hl : L[kk]? = some ((i : Nat), .int x)) (hd : decode cc pc = .ok (.iload_n i, 1)) (hp : pc + 1 = pc') (k : EE p l e R s m args below meth c Q Γ nL kc ks pc' L (.int x :: S) M) : EE p l e R s m args below meth c Q Γ nL kc ks pc L (S) M := by
  subst hp
  exact fun H locs ls h1 h2 h3 => lv_iload_n cx.x cx.b hd rfl (lv_at h3 kk hl) (k H locs ls h1 h2 h3)
theorem q_iload (cx : CX Γ p s m args meth c own cc nL ret) {i : Nat} {x : Int32} (kk : Nat) (hl : L[kk]? = some (i, .int x)) (hd : decode cc pc = .ok (.iload i, 2)) (hp : pc + 2 = pc') (k : EE p l e R s m args below meth c Q Γ nL kc ks pc' L (.int x :: S) M) : EE p l e R s m args below meth c Q Γ nL kc ks pc L (S) M := by
  subst hp
  exact fun H locs ls h1 h2 h3 => lv_iload cx.x cx.b hd (lv_at h3 kk hl) (k H locs ls h1 h2 h3)
theorem q_lload_n (cx : CX Γ p s m args meth c own cc nL ret) {i : Fin 4} {x : Int64} (kk : Nat) (hl : L[kk]? = some ((i : Nat), .long x)) (hd : decode cc pc = .ok (.lload_n i, 1)) (hp : pc + 1 = pc') (k : EE p l e R s m args below meth c Q Γ nL kc ks pc' L (.long x :: S) M) : EE p l e R s m args below meth c Q Γ nL kc ks pc L (S) M := by
  subst hp
  exact fun H locs ls h1 h2 h3 => lv_lload_n cx.x cx.b hd rfl (lv_at h3 kk hl) (k H locs ls h1 h2 h3)
theorem q_lload (cx : CX Γ p s m args meth c own cc nL ret) {i : Nat} {x : Int64} (kk : Nat) (hl : L[kk]? = some (i, .long x)) (hd : decode cc pc = .ok (.lload i, 2)) (hp : pc + 2 = pc') (k : EE p l e R s m args below meth c Q Γ nL kc ks pc' L (.long x :: S) M) : EE p l e R s m args below meth c Q Γ nL kc ks pc L (S) M := by
  subst hp
  exact fun H locs ls h1 h2 h3 => lv_lload cx.x cx.b hd (lv_at h3 kk hl) (k H locs ls h1 h2 h3)
theorem q_aload_n (cx : CX Γ p s m args meth c own cc nL ret) {i : Fin 4} {x : Nat} (kk : Nat) (hl : L[kk]? = some ((i : Nat), .ref x)) (hd : decode cc pc = .ok (.aload_n i, 1)) (hp : pc + 1 = pc') (k : EE p l e R s m args below meth c Q Γ nL kc ks pc' L (.ref x :: S) M) : EE p l e R s m args below meth c Q Γ nL kc ks pc L (S) M := by
  subst hp
  exact fun H locs ls h1 h2 h3 => lv_aload_n cx.x cx.b hd rfl (lv_at h3 kk hl) (k H locs ls h1 h2 h3)
theorem q_aload (cx : CX Γ p s m args meth c own cc nL ret) {i : Nat} {x : Nat} (kk : Nat) (hl : L[kk]? = some (i, .ref x)) (hd : decode cc pc = .ok (.aload i, 2)) (hp : pc + 2 = pc') (k : EE p l e R s m args below meth c Q Γ nL kc ks pc' L (.ref x :: S) M) : EE p l e R s m args below meth c Q Γ nL kc ks pc L (S) M := by
  subst hp
  exact fun H locs ls h1 h2 h3 => lv_aload cx.x cx.b hd (lv_at h3 kk hl) (k H locs ls h1 h2 h3)
theorem q_aload_nN (cx : CX Γ p s m args meth c own cc nL ret) {i : Fin 4} (kk : Nat) (hl : L[kk]? = some ((i : Nat), .null)) (hd : decode cc pc = .ok (.aload_n i, 1)) (hp : pc + 1 = pc') (k : EE p l e R s m args below meth c Q Γ nL kc ks pc' L (.null :: S) M) : EE p l e R s m args below meth c Q Γ nL kc ks pc L (S) M := by
  subst hp
  exact fun H locs ls h1 h2 h3 => lv_aload_nN cx.x cx.b hd rfl (lv_at h3 kk hl) (k H locs ls h1 h2 h3)
theorem q_istore_n (cx : CX Γ p s m args meth c own cc nL ret) {j : Fin 4} {i : Nat} (hj : (j : Nat) = i) {v x : Int32} (hx : x = v) (hn : i < nL) (hl : (i, Value.int x) :: L.filter (fun q => !(q.1 == i) && !(q.1 + 1 == i && q.2.category == 2)) = L') (hd : decode cc pc = .ok (.istore_n j, 1)) (hp : pc + 1 = pc') (k : EE p l e R s m args below meth c Q Γ nL kc ks pc' L' S M) : EE p l e R s m args below meth c Q Γ nL kc ks pc L (.int v :: S) M := by
  subst hp; subst hx; subst hj; subst hl
  exact fun H locs ls h1 h2 h3 => lv_istore_n cx.x cx.b hd rfl h3 hn rfl (fun ls' h3' => k H locs ls' h1 h2 h3')
theorem q_istore (cx : CX Γ p s m args meth c own cc nL ret) {i : Nat} {v x : Int32} (hx : x = v) (hn : i < nL) (hl : (i, Value.int x) :: L.filter (fun q => !(q.1 == i) && !(q.1 + 1 == i && q.2.category == 2)) = L') (hd : decode cc pc = .ok (.istore i, 2)) (hp : pc + 2 = pc') (k : EE p l e R s m args below meth c Q Γ nL kc ks pc' L' S M) : EE p l e R s m args below meth c Q Γ nL kc ks pc L (.int v :: S) M := by
  subst hp; subst hx; subst hl
  exact fun H locs ls h1 h2 h3 => lv_istore cx.x cx.b hd h3 hn rfl (fun ls' h3' => k H locs ls' h1 h2 h3')
theorem q_lstore_n (cx : CX Γ p s m args meth c own cc nL ret) {j : Fin 4} {i : Nat} (hj : (j : Nat) = i) {v x : Int64} (hx : x = v) (hn : i + 1 < nL) (hl : (i, Value.long x) :: L.filter (fun q => !(q.1 == i) && (!(q.1 == i + 1) && !(q.1 + 1 == i && q.2.category == 2))) = L') (hd : decode cc pc = .ok (.lstore_n j, 1)) (hp : pc + 1 = pc') (k : EE p l e R s m args below meth c Q Γ nL kc ks pc' L' S M) : EE p l e R s m args below meth c Q Γ nL kc ks pc L (.long v :: S) M := by
  subst hp; subst hx; subst hj; subst hl
  exact fun H locs ls h1 h2 h3 => lv_lstore_n cx.x cx.b hd rfl h3 hn rfl (fun ls' h3' => k H locs ls' h1 h2 h3')
theorem q_lstore (cx : CX Γ p s m args meth c own cc nL ret) {i : Nat} {v x : Int64} (hx : x = v) (hn : i + 1 < nL) (hl : (i, Value.long x) :: L.filter (fun q => !(q.1 == i) && (!(q.1 == i + 1) && !(q.1 + 1 == i && q.2.category == 2))) = L') (hd : decode cc pc = .ok (.lstore i, 2)) (hp : pc + 2 = pc') (k : EE p l e R s m args below meth c Q Γ nL kc ks pc' L' S M) : EE p l e R s m args below meth c Q Γ nL kc ks pc L (.long v :: S) M := by
  subst hp; subst hx; subst hl
  exact fun H locs ls h1 h2 h3 => lv_lstore cx.x cx.b hd h3 hn rfl (fun ls' h3' => k H locs ls' h1 h2 h3')
theorem q_astore_n (cx : CX Γ p s m args meth c own cc nL ret) {j : Fin 4} {i : Nat} (hj : (j : Nat) = i) {v x : Nat} (hx : x = v) (hn : i < nL) (hl : (i, Value.ref x) :: L.filter (fun q => !(q.1 == i) && !(q.1 + 1 == i && q.2.category == 2)) = L') (hd : decode cc pc = .ok (.astore_n j, 1)) (hp : pc + 1 = pc') (k : EE p l e R s m args below meth c Q Γ nL kc ks pc' L' S M) : EE p l e R s m args below meth c Q Γ nL kc ks pc L (.ref v :: S) M := by
  subst hp; subst hx; subst hj; subst hl
  exact fun H locs ls h1 h2 h3 => lv_astore_n cx.x cx.b hd rfl h3 hn rfl (fun ls' h3' => k H locs ls' h1 h2 h3')
theorem q_astore (cx : CX Γ p s m args meth c own cc nL ret) {i : Nat} {v x : Nat} (hx : x = v) (hn : i < nL) (hl : (i, Value.ref x) :: L.filter (fun q => !(q.1 == i) && !(q.1 + 1 == i && q.2.category == 2)) = L') (hd : decode cc pc = .ok (.astore i, 2)) (hp : pc + 2 = pc') (k : EE p l e R s m args below meth c Q Γ nL kc ks pc' L' S M) : EE p l e R s m args below meth c Q Γ nL kc ks pc L (.ref v :: S) M := by
  subst hp; subst hx; subst hl
  exact fun H locs ls h1 h2 h3 => lv_astore cx.x cx.b hd h3 hn rfl (fun ls' h3' => k H locs ls' h1 h2 h3')
theorem q_astore_nN (cx : CX Γ p s m args meth c own cc nL ret) {j : Fin 4} {i : Nat} (hj : (j : Nat) = i) (hn : i < nL) (hl : (i, Value.null) :: L.filter (fun q => !(q.1 == i) && !(q.1 + 1 == i && q.2.category == 2)) = L') (hd : decode cc pc = .ok (.astore_n j, 1)) (hp : pc + 1 = pc') (k : EE p l e R s m args below meth c Q Γ nL kc ks pc' L' S M) : EE p l e R s m args below meth c Q Γ nL kc ks pc L (.null :: S) M := by
  subst hp; subst hj; subst hl
  exact fun H locs ls h1 h2 h3 => lv_astore_nN cx.x cx.b hd rfl h3 hn rfl (fun ls' h3' => k H locs ls' h1 h2 h3')
theorem q_iinc (cx : CX Γ p s m args meth c own cc nL ret) {i : Nat} {n : Int} {v x y : Int32} (kk : Nat) (hk : L[kk]? = some (i, .int x)) (hv : Int32.ofInt n = v) (hy : y = x + v) (hn : i < nL) (hl : (i, Value.int y) :: L.filter (fun q => !(q.1 == i) && !(q.1 + 1 == i && q.2.category == 2)) = L') (hd : decode cc pc = .ok (.iinc i n, 3)) (hp : pc + 3 = pc') (k : EE p l e R s m args below meth c Q Γ nL kc ks pc' L' S M) : EE p l e R s m args below meth c Q Γ nL kc ks pc L S M := by
  subst hp; subst hl; subst hy; subst hv
  exact fun H locs ls h1 h2 h3 => lv_iinc cx.x cx.b hd h3 hk rfl hn rfl (fun ls' h3' => k H locs ls' h1 h2 h3')
theorem q_iadd (cx : CX Γ p s m args meth c own cc nL ret) {x y : Int32} (hd : decode cc pc = .ok (.iadd, 1)) (hp : pc + 1 = pc') (k : EE p l e R s m args below meth c Q Γ nL kc ks pc' L (.int (x + y) :: S) M) : EE p l e R s m args below meth c Q Γ nL kc ks pc L (.int y :: .int x :: S) M := by
  subst hp
  exact fun H locs ls h1 h2 h3 => lv_iadd cx.x cx.b hd (k H locs ls h1 h2 h3)
theorem q_isub (cx : CX Γ p s m args meth c own cc nL ret) {x y : Int32} (hd : decode cc pc = .ok (.isub, 1)) (hp : pc + 1 = pc') (k : EE p l e R s m args below meth c Q Γ nL kc ks pc' L (.int (x - y) :: S) M) : EE p l e R s m args below meth c Q Γ nL kc ks pc L (.int y :: .int x :: S) M := by
  subst hp
  exact fun H locs ls h1 h2 h3 => lv_isub cx.x cx.b hd (k H locs ls h1 h2 h3)
theorem q_imul (cx : CX Γ p s m args meth c own cc nL ret) {x y : Int32} (hd : decode cc pc = .ok (.imul, 1)) (hp : pc + 1 = pc') (k : EE p l e R s m args below meth c Q Γ nL kc ks pc' L (.int (x * y) :: S) M) : EE p l e R s m args below meth c Q Γ nL kc ks pc L (.int y :: .int x :: S) M := by
  subst hp
  exact fun H locs ls h1 h2 h3 => lv_imul cx.x cx.b hd (k H locs ls h1 h2 h3)
theorem q_iand (cx : CX Γ p s m args meth c own cc nL ret) {x y : Int32} (hd : decode cc pc = .ok (.iand, 1)) (hp : pc + 1 = pc') (k : EE p l e R s m args below meth c Q Γ nL kc ks pc' L (.int (x &&& y) :: S) M) : EE p l e R s m args below meth c Q Γ nL kc ks pc L (.int y :: .int x :: S) M := by
  subst hp
  exact fun H locs ls h1 h2 h3 => lv_iand cx.x cx.b hd (k H locs ls h1 h2 h3)
theorem q_ior (cx : CX Γ p s m args meth c own cc nL ret) {x y : Int32} (hd : decode cc pc = .ok (.ior, 1)) (hp : pc + 1 = pc') (k : EE p l e R s m args below meth c Q Γ nL kc ks pc' L (.int (x ||| y) :: S) M) : EE p l e R s m args below meth c Q Γ nL kc ks pc L (.int y :: .int x :: S) M := by
  subst hp
  exact fun H locs ls h1 h2 h3 => lv_ior cx.x cx.b hd (k H locs ls h1 h2 h3)
theorem q_ixor (cx : CX Γ p s m args meth c own cc nL ret) {x y : Int32} (hd : decode cc pc = .ok (.ixor, 1)) (hp : pc + 1 = pc') (k : EE p l e R s m args below meth c Q Γ nL kc ks pc' L (.int (x ^^^ y) :: S) M) : EE p l e R s m args below meth c Q Γ nL kc ks pc L (.int y :: .int x :: S) M := by
  subst hp
  exact fun H locs ls h1 h2 h3 => lv_ixor cx.x cx.b hd (k H locs ls h1 h2 h3)
theorem q_idiv (cx : CX Γ p s m args meth c own cc nL ret) {x y : Int32} (hne : ¬ y = 0) (hd : decode cc pc = .ok (.idiv, 1)) (hp : pc + 1 = pc') (k : EE p l e R s m args below meth c Q Γ nL kc ks pc' L (.int (x / y) :: S) M) : EE p l e R s m args below meth c Q Γ nL kc ks pc L (.int y :: .int x :: S) M := by
  subst hp
  exact fun H locs ls h1 h2 h3 => lv_idiv cx.x cx.b hd hne (k H locs ls h1 h2 h3)
theorem q_irem (cx : CX Γ p s m args meth c own cc nL ret) {x y : Int32} (hne : ¬ y = 0) (hd : decode cc pc = .ok (.irem, 1)) (hp : pc + 1 = pc') (k : EE p l e R s m args below meth c Q Γ nL kc ks pc' L (.int (x - x / y * y) :: S) M) : EE p l e R s m args below meth c Q Γ nL kc ks pc L (.int y :: .int x :: S) M := by
  subst hp
  exact fun H locs ls h1 h2 h3 => lv_irem cx.x cx.b hd hne (k H locs ls h1 h2 h3)

theorem q_ineg (cx : CX Γ p s m args meth c own cc nL ret) {x : Int32} (hd : decode cc pc = .ok (.ineg, 1)) (hp : pc + 1 = pc') (k : EE p l e R s m args below meth c Q Γ nL kc ks pc' L (.int (-x) :: S) M) : EE p l e R s m args below meth c Q Γ nL kc ks pc L (.int x :: S) M := by
  subst hp
  exact fun H locs ls h1 h2 h3 => lv_ineg cx.x cx.b hd (k H locs ls h1 h2 h3)
theorem q_ishl (cx : CX Γ p s m args meth c own cc nL ret) {x y : Int32} (hd : decode cc pc = .ok (.ishl, 1)) (hp : pc + 1 = pc') (k : EE p l e R s m args below meth c Q Γ nL kc ks pc' L (.int (x <<< (y &&& 31)) :: S) M) : EE p l e R s m args below meth c Q Γ nL kc ks pc L (.int y :: .int x :: S) M := by
  subst hp
  exact fun H locs ls h1 h2 h3 => lv_ishl cx.x cx.b hd (k H locs ls h1 h2 h3)
theorem q_ishr (cx : CX Γ p s m args meth c own cc nL ret) {x y : Int32} (hd : decode cc pc = .ok (.ishr, 1)) (hp : pc + 1 = pc') (k : EE p l e R s m args below meth c Q Γ nL kc ks pc' L (.int (x >>> (y &&& 31)) :: S) M) : EE p l e R s m args below meth c Q Γ nL kc ks pc L (.int y :: .int x :: S) M := by
  subst hp
  exact fun H locs ls h1 h2 h3 => lv_ishr cx.x cx.b hd (k H locs ls h1 h2 h3)
theorem q_iushr (cx : CX Γ p s m args meth c own cc nL ret) {x y : Int32} (hd : decode cc pc = .ok (.iushr, 1)) (hp : pc + 1 = pc') (k : EE p l e R s m args below meth c Q Γ nL kc ks pc' L (.int (ushr x y) :: S) M) : EE p l e R s m args below meth c Q Γ nL kc ks pc L (.int y :: .int x :: S) M := by
  subst hp
  exact fun H locs ls h1 h2 h3 => lv_iushr cx.x cx.b hd rfl (k H locs ls h1 h2 h3)
theorem q_i2l (cx : CX Γ p s m args meth c own cc nL ret) {x : Int32} (hd : decode cc pc = .ok (.i2l, 1)) (hp : pc + 1 = pc') (k : EE p l e R s m args below meth c Q Γ nL kc ks pc' L (.long x.toInt64 :: S) M) : EE p l e R s m args below meth c Q Γ nL kc ks pc L (.int x :: S) M := by
  subst hp
  exact fun H locs ls h1 h2 h3 => lv_i2l cx.x cx.b hd rfl (k H locs ls h1 h2 h3)
theorem q_l2i (cx : CX Γ p s m args meth c own cc nL ret) {x : Int64} (hd : decode cc pc = .ok (.l2i, 1)) (hp : pc + 1 = pc') (k : EE p l e R s m args below meth c Q Γ nL kc ks pc' L (.int x.toInt32 :: S) M) : EE p l e R s m args below meth c Q Γ nL kc ks pc L (.long x :: S) M := by
  subst hp
  exact fun H locs ls h1 h2 h3 => lv_l2i cx.x cx.b hd rfl (k H locs ls h1 h2 h3)
theorem q_i2b (cx : CX Γ p s m args meth c own cc nL ret) {x : Int32} (hd : decode cc pc = .ok (.i2b, 1)) (hp : pc + 1 = pc') (k : EE p l e R s m args below meth c Q Γ nL kc ks pc' L (.int x.toInt8.toInt32 :: S) M) : EE p l e R s m args below meth c Q Γ nL kc ks pc L (.int x :: S) M := by
  subst hp
  exact fun H locs ls h1 h2 h3 => lv_i2b cx.x cx.b hd rfl (k H locs ls h1 h2 h3)
theorem q_i2s (cx : CX Γ p s m args meth c own cc nL ret) {x : Int32} (hd : decode cc pc = .ok (.i2s, 1)) (hp : pc + 1 = pc') (k : EE p l e R s m args below meth c Q Γ nL kc ks pc' L (.int x.toInt16.toInt32 :: S) M) : EE p l e R s m args below meth c Q Γ nL kc ks pc L (.int x :: S) M := by
  subst hp
  exact fun H locs ls h1 h2 h3 => lv_i2s cx.x cx.b hd rfl (k H locs ls h1 h2 h3)
theorem q_i2c (cx : CX Γ p s m args meth c own cc nL ret) {x : Int32} (hd : decode cc pc = .ok (.i2c, 1)) (hp : pc + 1 = pc') (k : EE p l e R s m args below meth c Q Γ nL kc ks pc' L (.int (i2ch x) :: S) M) : EE p l e R s m args below meth c Q Γ nL kc ks pc L (.int x :: S) M := by
  subst hp
  exact fun H locs ls h1 h2 h3 => lv_i2c cx.x cx.b hd rfl (k H locs ls h1 h2 h3)
theorem q_lshl (cx : CX Γ p s m args meth c own cc nL ret) {x : Int64} {y : Int32} (hd : decode cc pc = .ok (.lshl, 1)) (hp : pc + 1 = pc') (k : EE p l e R s m args below meth c Q Γ nL kc ks pc' L (.long (x <<< (y.toInt64 &&& 63)) :: S) M) : EE p l e R s m args below meth c Q Γ nL kc ks pc L (.int y :: .long x :: S) M := by
  subst hp
  exact fun H locs ls h1 h2 h3 => lv_lshl cx.x cx.b hd rfl (k H locs ls h1 h2 h3)
theorem q_land (cx : CX Γ p s m args meth c own cc nL ret) {x y : Int64} (hd : decode cc pc = .ok (.land, 1)) (hp : pc + 1 = pc') (k : EE p l e R s m args below meth c Q Γ nL kc ks pc' L (.long (x &&& y) :: S) M) : EE p l e R s m args below meth c Q Γ nL kc ks pc L (.long y :: .long x :: S) M := by
  subst hp
  exact fun H locs ls h1 h2 h3 => lv_land cx.x cx.b hd (k H locs ls h1 h2 h3)
theorem q_lor (cx : CX Γ p s m args meth c own cc nL ret) {x y : Int64} (hd : decode cc pc = .ok (.lor, 1)) (hp : pc + 1 = pc') (k : EE p l e R s m args below meth c Q Γ nL kc ks pc' L (.long (x ||| y) :: S) M) : EE p l e R s m args below meth c Q Γ nL kc ks pc L (.long y :: .long x :: S) M := by
  subst hp
  exact fun H locs ls h1 h2 h3 => lv_lor cx.x cx.b hd (k H locs ls h1 h2 h3)
theorem q_lcmp (cx : CX Γ p s m args meth c own cc nL ret) {x y : Int64} (hd : decode cc pc = .ok (.lcmp, 1)) (hp : pc + 1 = pc') (k : EE p l e R s m args below meth c Q Γ nL kc ks pc' L (.int (lg_cmp x y) :: S) M) : EE p l e R s m args below meth c Q Γ nL kc ks pc L (.long y :: .long x :: S) M := by
  subst hp
  exact fun H locs ls h1 h2 h3 => W.lcmp cx.x cx.b hd (k H locs ls h1 h2 h3)
theorem q_dup (cx : CX Γ p s m args meth c own cc nL ret) {v : Value} (hv : v.category = 1) (hd : decode cc pc = .ok (.dup, 1)) (hp : pc + 1 = pc') (k : EE p l e R s m args below meth c Q Γ nL kc ks pc' L (v :: v :: S) M) : EE p l e R s m args below meth c Q Γ nL kc ks pc L (v :: S) M := by
  subst hp
  exact fun H locs ls h1 h2 h3 => lv_dup cx.x cx.b hd hv (k H locs ls h1 h2 h3)
theorem q_dup2 (cx : CX Γ p s m args meth c own cc nL ret) {v w : Value} (hv : v.category = 1) (hw : w.category = 1) (hd : decode cc pc = .ok (.dup2, 1)) (hp : pc + 1 = pc') (k : EE p l e R s m args below meth c Q Γ nL kc ks pc' L (v :: w :: v :: w :: S) M) : EE p l e R s m args below meth c Q Γ nL kc ks pc L (v :: w :: S) M := by
  subst hp
  exact fun H locs ls h1 h2 h3 => lv_dup2_11 cx.x cx.b hd hv hw (k H locs ls h1 h2 h3)
theorem q_pop (cx : CX Γ p s m args meth c own cc nL ret) {v : Value} (hv : v.category = 1) (hd : decode cc pc = .ok (.pop, 1)) (hp : pc + 1 = pc') (k : EE p l e R s m args below meth c Q Γ nL kc ks pc' L (S) M) : EE p l e R s m args below meth c Q Γ nL kc ks pc L (v :: S) M := by
  subst hp
  exact fun H locs ls h1 h2 h3 => lv_pop cx.x cx.b hd hv (k H locs ls h1 h2 h3)
theorem q_goto (cx : CX Γ p s m args meth c own cc nL ret) {off : Int} {tgt : Nat} (hd : decode cc pc = .ok (.goto off, 3)) (ht : (pc : Int) + off = (tgt : Int)) (k : EE p l e R s m args below meth c Q Γ nL kc ks tgt L S M) : EE p l e R s m args below meth c Q Γ nL kc ks pc L S M := fun H locs ls h1 h2 h3 => lv_goto cx.x cx.b hd ht (k H locs ls h1 h2 h3)
theorem q_if_eq (cx : CX Γ p s m args meth c own cc nL ret) {x : Int32} {off : Int} {tgt : Nat} (hd : decode cc pc = .ok (.ifCond .eq off, 3)) (ht : (pc : Int) + off = (tgt : Int)) (hp : pc + 3 = pc') (kt : x = 0 → EE p l e R s m args below meth c Q Γ nL kc ks tgt L S M) (kf : ¬ (x = 0) → EE p l e R s m args below meth c Q Γ nL kc ks pc' L S M) : EE p l e R s m args below meth c Q Γ nL kc ks pc L (.int x :: S) M := by
  subst hp
  exact fun H locs ls h1 h2 h3 => lv_if_eq cx.x cx.b hd ht (fun q => kt q H locs ls h1 h2 h3) (fun q => kf q H locs ls h1 h2 h3)
theorem q_icmp_eq (cx : CX Γ p s m args meth c own cc nL ret) {x y : Int32} {off : Int} {tgt : Nat} (hd : decode cc pc = .ok (.if_icmp .eq off, 3)) (ht : (pc : Int) + off = (tgt : Int)) (hp : pc + 3 = pc') (kt : x = y → EE p l e R s m args below meth c Q Γ nL kc ks tgt L S M) (kf : ¬ (x = y) → EE p l e R s m args below meth c Q Γ nL kc ks pc' L S M) : EE p l e R s m args below meth c Q Γ nL kc ks pc L (.int y :: .int x :: S) M := by
  subst hp
  exact fun H locs ls h1 h2 h3 => lv_icmp_eq cx.x cx.b hd ht (fun q => kt q H locs ls h1 h2 h3) (fun q => kf q H locs ls h1 h2 h3)
theorem q_if_ne (cx : CX Γ p s m args meth c own cc nL ret) {x : Int32} {off : Int} {tgt : Nat} (hd : decode cc pc = .ok (.ifCond .ne off, 3)) (ht : (pc : Int) + off = (tgt : Int)) (hp : pc + 3 = pc') (kt : ¬ x = 0 → EE p l e R s m args below meth c Q Γ nL kc ks tgt L S M) (kf : x = 0 → EE p l e R s m args below meth c Q Γ nL kc ks pc' L S M) : EE p l e R s m args below meth c Q Γ nL kc ks pc L (.int x :: S) M := by
  subst hp
  exact fun H locs ls h1 h2 h3 => lv_if_ne cx.x cx.b hd ht (fun q => kt q H locs ls h1 h2 h3) (fun q => kf q H locs ls h1 h2 h3)
theorem q_icmp_ne (cx : CX Γ p s m args meth c own cc nL ret) {x y : Int32} {off : Int} {tgt : Nat} (hd : decode cc pc = .ok (.if_icmp .ne off, 3)) (ht : (pc : Int) + off = (tgt : Int)) (hp : pc + 3 = pc') (kt : ¬ x = y → EE p l e R s m args below meth c Q Γ nL kc ks tgt L S M) (kf : x = y → EE p l e R s m args below meth c Q Γ nL kc ks pc' L S M) : EE p l e R s m args below meth c Q Γ nL kc ks pc L (.int y :: .int x :: S) M := by
  subst hp
  exact fun H locs ls h1 h2 h3 => lv_icmp_ne cx.x cx.b hd ht (fun q => kt q H locs ls h1 h2 h3) (fun q => kf q H locs ls h1 h2 h3)
theorem q_if_lt (cx : CX Γ p s m args meth c own cc nL ret) {x : Int32} {off : Int} {tgt : Nat} (hd : decode cc pc = .ok (.ifCond .lt off, 3)) (ht : (pc : Int) + off = (tgt : Int)) (hp : pc + 3 = pc') (kt : x < 0 → EE p l e R s m args below meth c Q Γ nL kc ks tgt L S M) (kf : ¬ (x < 0) → EE p l e R s m args below meth c Q Γ nL kc ks pc' L S M) : EE p l e R s m args below meth c Q Γ nL kc ks pc L (.int x :: S) M := by
  subst hp
  exact fun H locs ls h1 h2 h3 => lv_if_lt cx.x cx.b hd ht (fun q => kt q H locs ls h1 h2 h3) (fun q => kf q H locs ls h1 h2 h3)
theorem q_icmp_lt (cx : CX Γ p s m args meth c own cc nL ret) {x y : Int32} {off : Int} {tgt : Nat} (hd : decode cc pc = .ok (.if_icmp .lt off, 3)) (ht : (pc : Int) + off = (tgt : Int)) (hp : pc + 3 = pc') (kt : x < y → EE p l e R s m args below meth c Q Γ nL kc ks tgt L S M) (kf : ¬ (x < y) → EE p l e R s m args below meth c Q Γ nL kc ks pc' L S M) : EE p l e R s m args below meth c Q Γ nL kc ks pc L (.int y :: .int x :: S) M := by
  subst hp
  exact fun H locs ls h1 h2 h3 => lv_icmp_lt cx.x cx.b hd ht (fun q => kt q H locs ls h1 h2 h3) (fun q => kf q H locs ls h1 h2 h3)
theorem q_if_ge (cx : CX Γ p s m args meth c own cc nL ret) {x : Int32} {off : Int} {tgt : Nat} (hd : decode cc pc = .ok (.ifCond .ge off, 3)) (ht : (pc : Int) + off = (tgt : Int)) (hp : pc + 3 = pc') (kt : 0 ≤ x → EE p l e R s m args below meth c Q Γ nL kc ks tgt L S M) (kf : ¬ (0 ≤ x) → EE p l e R s m args below meth c Q Γ nL kc ks pc' L S M) : EE p l e R s m args below meth c Q Γ nL kc ks pc L (.int x :: S) M := by
  subst hp
  exact fun H locs ls h1 h2 h3 => lv_if_ge cx.x cx.b hd ht (fun q => kt q H locs ls h1 h2 h3) (fun q => kf q H locs ls h1 h2 h3)
theorem q_icmp_ge (cx : CX Γ p s m args meth c own cc nL ret) {x y : Int32} {off : Int} {tgt : Nat} (hd : decode cc pc = .ok (.if_icmp .ge off, 3)) (ht : (pc : Int) + off = (tgt : Int)) (hp : pc + 3 = pc') (kt : y ≤ x → EE p l e R s m args below meth c Q Γ nL kc ks tgt L S M) (kf : ¬ (y ≤ x) → EE p l e R s m args below meth c Q Γ nL kc ks pc' L S M) : EE p l e R s m args below meth c Q Γ nL kc ks pc L (.int y :: .int x :: S) M := by
  subst hp
  exact fun H locs ls h1 h2 h3 => lv_icmp_ge cx.x cx.b hd ht (fun q => kt q H locs ls h1 h2 h3) (fun q => kf q H locs ls h1 h2 h3)
theorem q_if_gt (cx : CX Γ p s m args meth c own cc nL ret) {x : Int32} {off : Int} {tgt : Nat} (hd : decode cc pc = .ok (.ifCond .gt off, 3)) (ht : (pc : Int) + off = (tgt : Int)) (hp : pc + 3 = pc') (kt : 0 < x → EE p l e R s m args below meth c Q Γ nL kc ks tgt L S M) (kf : ¬ (0 < x) → EE p l e R s m args below meth c Q Γ nL kc ks pc' L S M) : EE p l e R s m args below meth c Q Γ nL kc ks pc L (.int x :: S) M := by
  subst hp
  exact fun H locs ls h1 h2 h3 => lv_if_gt cx.x cx.b hd ht (fun q => kt q H locs ls h1 h2 h3) (fun q => kf q H locs ls h1 h2 h3)
theorem q_icmp_gt (cx : CX Γ p s m args meth c own cc nL ret) {x y : Int32} {off : Int} {tgt : Nat} (hd : decode cc pc = .ok (.if_icmp .gt off, 3)) (ht : (pc : Int) + off = (tgt : Int)) (hp : pc + 3 = pc') (kt : y < x → EE p l e R s m args below meth c Q Γ nL kc ks tgt L S M) (kf : ¬ (y < x) → EE p l e R s m args below meth c Q Γ nL kc ks pc' L S M) : EE p l e R s m args below meth c Q Γ nL kc ks pc L (.int y :: .int x :: S) M := by
  subst hp
  exact fun H locs ls h1 h2 h3 => lv_icmp_gt cx.x cx.b hd ht (fun q => kt q H locs ls h1 h2 h3) (fun q => kf q H locs ls h1 h2 h3)
theorem q_if_le (cx : CX Γ p s m args meth c own cc nL ret) {x : Int32} {off : Int} {tgt : Nat} (hd : decode cc pc = .ok (.ifCond .le off, 3)) (ht : (pc : Int) + off = (tgt : Int)) (hp : pc + 3 = pc') (kt : x ≤ 0 → EE p l e R s m args below meth c Q Γ nL kc ks tgt L S M) (kf : ¬ (x ≤ 0) → EE p l e R s m args below meth c Q Γ nL kc ks pc' L S M) : EE p l e R s m args below meth c Q Γ nL kc ks pc L (.int x :: S) M := by
  subst hp
  exact fun H locs ls h1 h2 h3 => lv_if_le cx.x cx.b hd ht (fun q => kt q H locs ls h1 h2 h3) (fun q => kf q H locs ls h1 h2 h3)
theorem q_icmp_le (cx : CX Γ p s m args meth c own cc nL ret) {x y : Int32} {off : Int} {tgt : Nat} (hd : decode cc pc = .ok (.if_icmp .le off, 3)) (ht : (pc : Int) + off = (tgt : Int)) (hp : pc + 3 = pc') (kt : x ≤ y → EE p l e R s m args below meth c Q Γ nL kc ks tgt L S M) (kf : ¬ (x ≤ y) → EE p l e R s m args below meth c Q Γ nL kc ks pc' L S M) : EE p l e R s m args below meth c Q Γ nL kc ks pc L (.int y :: .int x :: S) M := by
  subst hp
  exact fun H locs ls h1 h2 h3 => lv_icmp_le cx.x cx.b hd ht (fun q => kt q H locs ls h1 h2 h3) (fun q => kf q H locs ls h1 h2 h3)
theorem q_ifnull_ref (cx : CX Γ p s m args meth c own cc nL ret) {x : Nat} {off : Int} (hd : decode cc pc = .ok (.ifnull off, 3)) (hp : pc + 3 = pc') (k : EE p l e R s m args below meth c Q Γ nL kc ks pc' L S M) : EE p l e R s m args below meth c Q Γ nL kc ks pc L (.ref x :: S) M := by
  subst hp
  exact fun H locs ls h1 h2 h3 => lv_ifnull cx.x cx.b hd (k H locs ls h1 h2 h3)
theorem q_ifnull_null (cx : CX Γ p s m args meth c own cc nL ret)  {off : Int} {tgt : Nat} (hd : decode cc pc = .ok (.ifnull off, 3)) (ht : (pc : Int) + off = (tgt : Int)) (k : EE p l e R s m args below meth c Q Γ nL kc ks tgt L S M) : EE p l e R s m args below meth c Q Γ nL kc ks pc L (.null :: S) M := fun H locs ls h1 h2 h3 => lv_ifnullN cx.x cx.b hd ht (k H locs ls h1 h2 h3)
theorem q_ifnonnull_ref (cx : CX Γ p s m args meth c own cc nL ret) {x : Nat} {off : Int} {tgt : Nat} (hd : decode cc pc = .ok (.ifnonnull off, 3)) (ht : (pc : Int) + off = (tgt : Int)) (k : EE p l e R s m args below meth c Q Γ nL kc ks tgt L S M) : EE p l e R s m args below meth c Q Γ nL kc ks pc L (.ref x :: S) M := fun H locs ls h1 h2 h3 => lv_ifnonnull cx.x cx.b hd ht (k H locs ls h1 h2 h3)
theorem q_ifnonnull_null (cx : CX Γ p s m args meth c own cc nL ret)  {off : Int} (hd : decode cc pc = .ok (.ifnonnull off, 3)) (hp : pc + 3 = pc') (k : EE p l e R s m args below meth c Q Γ nL kc ks pc' L S M) : EE p l e R s m args below meth c Q Γ nL kc ks pc L (.null :: S) M := by
  subst hp
  exact fun H locs ls h1 h2 h3 => lv_ifnonnullN cx.x cx.b hd (k H locs ls h1 h2 h3)
theorem q_lookup (cx : CX Γ p s m args meth c own cc nL ret) {dflt : Int} {ps : Array (Int × Int)} {len : Nat} {x : Int32} {off : Int} {tgt : Nat} (hd : decode cc pc = .ok (.lookupswitch dflt ps, len)) (hq : (ps.toList.zip (ps.toList.drop 1)).all (fun (a, next) => a.1 < next.1) = true) (ho : Op.lookupswitch.offset ps.toList dflt x.toInt = off) (ht : (pc : Int) + off = (tgt : Int)) (k : EE p l e R s m args below meth c Q Γ nL kc ks tgt L S M) : EE p l e R s m args below meth c Q Γ nL kc ks pc L (.int x :: S) M := fun H locs ls h1 h2 h3 => lv_lookup cx.x cx.b hd hq ho ht (k H locs ls h1 h2 h3)
theorem q_tabOut (cx : CX Γ p s m args meth c own cc nL ret) {dflt lo hi : Int} {offs : Array Int} {len : Nat} {x : Int32} {tgt : Nat} (hd : decode cc pc = .ok (.tableswitch dflt lo hi offs, len)) (h : x.toInt < lo ∨ hi < x.toInt) (ht : (pc : Int) + dflt = (tgt : Int)) (k : EE p l e R s m args below meth c Q Γ nL kc ks tgt L S M) : EE p l e R s m args below meth c Q Γ nL kc ks pc L (.int x :: S) M := fun H locs ls h1 h2 h3 => lv_tableOut cx.x cx.b hd h ht (k H locs ls h1 h2 h3)
theorem q_tabIn (cx : CX Γ p s m args meth c own cc nL ret) {dflt lo hi : Int} {offs : Array Int} {len : Nat} {x v : Int32} {off : Int} {tgt : Nat} (hx : x = v) (hd : decode cc pc = .ok (.tableswitch dflt lo hi offs, len)) (hv : ¬ v.toInt < lo ∧ ¬ hi < v.toInt ∧ offs[(v.toInt - lo).toNat]? = some off) (ht : (pc : Int) + off = (tgt : Int)) (k : EE p l e R s m args below meth c Q Γ nL kc ks tgt L S M) : EE p l e R s m args below meth c Q Γ nL kc ks pc L (.int x :: S) M := by
  subst hx
  exact fun H locs ls h1 h2 h3 => lv_tableIn cx.x cx.b hd hv.1 hv.2.1 hv.2.2 ht (k H locs ls h1 h2 h3)
theorem q_sub (cx : CX Γ p s m args meth c own cc nL ret) (is : List Nat) (hl : lv_pick L is = L') (k : EE p l e R s m args below meth c Q Γ nL kc ks pc L' S M) : EE p l e R s m args below meth c Q Γ nL kc ks pc L S M := fun H locs ls h1 h2 h3 => k H locs ls h1 h2 (lv_sub h3 is hl)
theorem q_widen {k2 s2 : Nat} (h1 : kc ≤ k2) (h2 : ks ≤ s2) (k : EE p l e R s m args below meth c Q Γ nL k2 s2 pc L S M) : EE p l e R s m args below meth c Q Γ nL kc ks pc L S M := fun H locs ls g1 g2 g3 => W.widen h1 h2 (k H locs ls g1 g2 g3)
/-! fields -/
def CLk (ci : Nat) : Prop := ∃ (r : vw_C) (ty : Nat → FieldType), vwCl[ci]? = some r ∧ (∀ w ∈ u_ws r.1 r.2.1 r.2.2, w ∈ AW) ∧ (∀ k, k < r.2.2 → parseFieldDescriptor (r.2.1 k).2.2.1 = some (ty k)) ∧ (∀ a, a < r.2.2 → ∀ b, b < r.2.2 → a ≠ b → (r.2.1 a).2.1 ≠ (r.2.1 b).2.1) ∧ (∀ k, k < r.2.2 → defaultValue (ty k) = if KD ci k = true then .null else .int 0) ∧ ∀ k, k < r.2.2 → (r.2.1 k).1 = r.1
theorem cl_0 : CLk 0 := ⟨(RX0, TX0, 5), tyX0, rfl, inA0, tyX0_ok, nmX0, by decide +kernel, by decide +kernel⟩
theorem cl_1 : CLk 1 := ⟨(RX1, TX1, 3), tyX1, rfl, inA1, tyX1_ok, nmX1, by decide +kernel, by decide +kernel⟩
theorem cl_2 : CLk 2 := ⟨(RX2, TX2, 2), tyX2, rfl, inA2, tyX2_ok, nmX2, by decide +kernel, by decide +kernel⟩
theorem cl_3 : CLk 3 := ⟨(RX3, TX3, 9), tyX3, rfl, inA3, tyX3_ok, nmX3, by decide +kernel, by decide +kernel⟩
theorem cl_4 : CLk 4 := ⟨(RX4, TX4, 5), tyX4, rfl, inA4, tyX4_ok, nmX4, by decide +kernel, by decide +kernel⟩
theorem cl_5 : CLk 5 := ⟨(RX5, TX5, 8), tyX5, rfl, inA5, tyX5_ok, nmX5, by decide +kernel, by decide +kernel⟩
theorem cl_6 : CLk 6 := ⟨(RX6, TX6, 3), tyX6, rfl, inA6, tyX6_ok, nmX6, by decide +kernel, by decide +kernel⟩
theorem cl_7 : CLk 7 := ⟨(RX7, TX7, 4), tyX7, rfl, inA7, tyX7_ok, nmX7, by decide +kernel, by decide +kernel⟩
theorem cl_8 : CLk 8 := ⟨(RX8, TX8, 10), tyX8, rfl, inA8, tyX8_ok, nmX8, by decide +kernel, by decide +kernel⟩
theorem cl_9 : CLk 9 := ⟨(RX9, TX9, 70), tyX9, rfl, inA9, tyX9_ok, nmX9, by decide +kernel, by decide +kernel⟩
theorem cl_all : ∀ ci, ci < 10 → CLk ci := fun ci h => by
  match ci, h with
  | 0, _ => exact cl_0
  | 1, _ => exact cl_1
  | 2, _ => exact cl_2
  | 3, _ => exact cl_3
  | 4, _ => exact cl_4
  | 5, _ => exact cl_5
  | 6, _ => exact cl_6
  | 7, _ => exact cl_7
  | 8, _ => exact cl_8
  | 9, _ => exact cl_9
theorem q_getV (cx : CX Γ p s m args meth c own cc nL ret) {index a : Nat} (ci kf : Nat) (hl : FLk own index ci kf) (ht : mt M a = ci) {v : Value} (hv : vfld ci M a kf = v) (hd : decode cc pc = .ok (.getfield index, 3)) (hp : pc + 3 = pc') (k : EE p l e R s m args below meth c Q Γ nL kc ks pc' L (v :: S) M) : EE p l e R s m args below meth c Q Γ nL kc ks pc L (.ref a :: S) M := by
  subst hp
  obtain ⟨hci, r, hr, hk, hlink⟩ := hl
  obtain ⟨r', ty, hr', hin, hty, hnm, hdf, hdc⟩ := cl_all ci hci
  cases hr.symm.trans hr'
  intro H locs ls h1 h2 h3
  have hok := (h1.2.2 a (by omega)).2.1 (by omega)
  rw [ht] at hok
  obtain ⟨r', hr', cell, q1, q2, q3, q4⟩ := hok
  cases hr.symm.trans hr'
  obtain ⟨hSl, hfc, kC, hkC, hkind⟩ := cx.k.1.1 ci r hr
  obtain ⟨cf, kf', fi, f, hi, hsl⟩ := hSl kf hk
  have hst := (u_facts hfc hkC (u_lays (fun w hw => cx.w (hin w hw)) (fun w hw => hw) hk) hi).1
  have hvm : cell.vm ≠ .unknown := by rw [q3]; exact fun h => by cases h
  have hslot : cell.slots[f.slot]? = some v := by rw [hsl, q4 kf hk, hv]
  rw [hdc kf hk] at hi
  rcases hlink with hlink | ⟨host, hlink⟩
  · exact W.getf cx.x cx.b cx.o (cx.w hlink) hi hst q1 hvm hslot rfl rfl hd (k H locs ls h1 h2 h3)
  · exact va_Wgetf cx.x cx.b cx.o (va_Nw.use rfl (cx.k.2.1 _ hlink)) hi hst q1 hvm hslot rfl rfl hd (k H locs ls h1 h2 h3)
theorem q_gI (cx : CX Γ p s m args meth c own cc nL ret) {index a : Nat} {x : Int32} (ci kf : Nat) (hl : FLk own index ci kf) (hk : KD ci kf = false) (ht : mt M a = ci) (hx : x = mI M a kf) (hd : decode cc pc = .ok (.getfield index, 3)) (hp : pc + 3 = pc') (k : EE p l e R s m args below meth c Q Γ nL kc ks pc' L (.int x :: S) M) : EE p l e R s m args below meth c Q Γ nL kc ks pc L (.ref a :: S) M :=
  q_getV cx ci kf hl ht (by unfold vfld; rw [hk, hx]; rfl) hd hp k
theorem q_gR (cx : CX Γ p s m args meth c own cc nL ret) {index a b : Nat} (ci kf : Nat) (hl : FLk own index ci kf) (hk : KD ci kf = true) (ht : mt M a = ci) (hx : mP M a kf = some b) (hd : decode cc pc = .ok (.getfield index, 3)) (hp : pc + 3 = pc') (k : EE p l e R s m args below meth c Q Γ nL kc ks pc' L (.ref b :: S) M) : EE p l e R s m args below meth c Q Γ nL kc ks pc L (.ref a :: S) M :=
  q_getV cx ci kf hl ht (by unfold vfld; rw [hk, hx]; rfl) hd hp k
theorem RM.ob {H : Heap} {a ci kf : Nat} {v : Value} {r : vw_C} {cell cell' : Cell} (h : RM Γ M H) (hci : ci < 10) (ht : mt M a = ci) (hr : vwCl[ci]? = some r) (hk : kf < r.2.2) {H1 : Heap} (e1 : H1[a]? = some (cell.setSlot ((gD Γ).2 ci kf) v)) (e2 : H1.size = H.size) (e3 : ∀ q : Nat, q ≠ a → H1[q]? = H[q]?) (q2 : cell.cls = (gD Γ).1 ci) (q3 : cell.vm = .none) (q4 : ∀ j, j < r.2.2 → cell.slots[(gD Γ).2 ci j]? = some (vfld ci M a j)) (hap : ∀ x y, x < r.2.2 → y < r.2.2 → x ≠ y → (gD Γ).2 ci x ≠ (gD Γ).2 ci y)
    (hz : mz M' = mz M) (hs : M'.2.1 = M.2.1) (ho : ∀ b, b ≠ a → cEq M M' b) (hv : ∀ j, vfld ci M' a j = if j = kf then v else vfld ci M a j) : RM Γ M' H1 := by
  refine h.put hz hs ho e2 e3 fun _ => ?_
  have ht' : mt M' a = ci := by unfold mt; rw [hs]; exact ht
  unfold cOK
  rw [ht']
  refine ⟨fun _ => ⟨r, hr, cell.setSlot ((gD Γ).2 ci kf) v, e1, q2, q3, fun j hj => ?_⟩, fun h => absurd (show ci < 16 by omega) h⟩
  rw [t_set q4 hap hk v j hj, hv]
  rfl
theorem q_putV (cx : CX Γ p s m args meth c own cc nL ret) {index a : Nat} (ci kf : Nat) (hl : FLk own index ci kf) (ht : mt M a = ci) {v : Value} {ty : FieldType} (hpf : ∃ r : vw_C, vwCl[ci]? = some r ∧ parseFieldDescriptor (r.2.1 kf).2.2.1 = some ty ∧ ((r.2.1 kf).2.2.2 = false ∨ (meth.name = "<init>" ∧ r.1 = own ∧ Cond.fieldLink own index r.1 (r.2.1 kf).2.1 (r.2.1 kf).2.2.1 ∈ AW))) (hn : narrow ty v = v) (hfit : fits ty v = true)
    (hz : mz M' = mz M) (hs : M'.2.1 = M.2.1) (ho : ∀ b, b ≠ a → cEq M M' b) (hv : ∀ j, vfld ci M' a j = if j = kf then v else vfld ci M a j) (hd : decode cc pc = .ok (.putfield index, 3)) (hp : pc + 3 = pc') (k : EE p l e R s m args below meth c Q Γ nL kc ks pc' L S M') : EE p l e R s m args below meth c Q Γ nL kc ks pc L (v :: .ref a :: S) M := by
  subst hp
  obtain ⟨hci, r, hr, hk, hlink⟩ := hl
  obtain ⟨r', hr', hpd, hfin⟩ := hpf
  cases hr.symm.trans hr'
  obtain ⟨r', tyf, hr', hin, hty, hnm, hdf, hdc⟩ := cl_all ci hci
  cases hr.symm.trans hr'
  intro H locs ls h1 h2 h3
  have hga := h1.2.2 a (by omega)
  have hok := hga.2.1 (by omega)
  rw [ht] at hok
  obtain ⟨r', hr', cell, q1, q2, q3, q4⟩ := hok
  cases hr.symm.trans hr'
  have hts : ∀ w ∈ u_ws r.1 r.2.1 r.2.2, w.before args s = true := fun w hw => cx.w (hin w hw)
  have hap : ∀ x y, x < r.2.2 → y < r.2.2 → x ≠ y → (gD Γ).2 ci x ≠ (gD Γ).2 ci y := va_apart (own := own) hts (fun w hw => hw) tyf hty hnm cx.k.1 (show vwCl[ci]? = some (r.1, r.2.1, r.2.2) from hr)
  obtain ⟨hSl, hfc, kC, hkC, hkind⟩ := cx.k.1.1 ci r hr
  obtain ⟨cf, kf', fi, f, hi, hsl⟩ := hSl kf hk
  have hst := (u_facts hfc hkC (u_lays hts (fun w hw => hw) hk) hi).1
  have hlay := hts _ (u_in_lay hk)
  unfold u_lay at hlay
  have fin : ∀ (H1 : Heap), H1[a]? = some (cell.setSlot f.slot v) → H1.size = H.size → (∀ q : Nat, q ≠ a → H1[q]? = H[q]?) → W p l e R s m args below meth c H1 (locs ++ [⟨a, f.slot⟩]) kc ks Q (F0 m (pc + 3) ls S) := fun H1 e1 e2 e3 => by
    rw [hsl] at e1
    exact k H1 _ ls (h1.ob (cell' := cell) hci ht hr hk e1 e2 e3 q2 q3 q4 hap hz hs ho hv) (h2.put e2 e3 hga.1.1) h3
  have hslt : f.slot < cell.slots.size := by rw [hsl]; exact k2_hasslot (q4 kf hk)
  have hi' := hi
  rw [hdc kf hk] at hi'
  by_cases hf : (r.2.1 kf).2.2.2 = true
  · rcases hfin with hfin | ⟨hin2, hown, hlk⟩
    · rw [hf] at hfin; cases hfin
    rw [if_pos hf] at hlay
    have hcf : m.cls = cf := by
      obtain ⟨_, _, c', _, _, _, -, -, hf', -, -, -, hown2, -⟩ := Cond.laysFinal_spec hlay
      have e1 : c' = cf := by have := hi.symm.trans hf'; simp at this; exact this.1.symm
      rw [hdc kf hk, hown] at hown2
      rw [← e1]; exact Option.some.inj (cx.o.symm.trans hown2)
    have h6 := u_fits hfc hkC hkind (Or.inr hlay) hi hpd hn hfit
    exact W.putFinK cx.x cx.b cx.o (cx.w hlk) hi' hst hcf hin2 (by rw [q2]; exact h6) q1 q3 hslt rfl rfl hd fin
  · rw [if_neg hf] at hlay
    have h6 := u_store hfc hkC hkind hlay hi hpd hn hfit
    rcases hlink with hlink | ⟨host, hlink⟩
    · exact W.putK cx.x cx.b (f := f) ⟨cx.o, cx.w hlink, ⟨_, _, _, hi'⟩, hst⟩ (by rw [q2]; exact h6) q1 q3 hslt rfl rfl hd fin
    · exact va_WputK cx.x cx.b (f := f) cx.o (va_Nw.use rfl (cx.k.2.1 _ hlink)) hi' hst (by rw [q2]; exact h6) q1 q3 hslt rfl rfl hd fin
theorem q_pI (cx : CX Γ p s m args meth c own cc nL ret) {index a : Nat} {x : Int32} (ci kf : Nat) (hl : FLk own index ci kf) (hk : KD ci kf = false) (ht : mt M a = ci) {ty : FieldType} (hpf : ∃ r : vw_C, vwCl[ci]? = some r ∧ parseFieldDescriptor (r.2.1 kf).2.2.1 = some ty ∧ ((r.2.1 kf).2.2.2 = false ∨ (meth.name = "<init>" ∧ r.1 = own ∧ Cond.fieldLink own index r.1 (r.2.1 kf).2.1 (r.2.1 kf).2.2.1 ∈ AW))) (hn : narrow ty (.int x) = .int x) (hfit : fits ty (.int x) = true) (hM : M' = sI M a kf x) (hd : decode cc pc = .ok (.putfield index, 3)) (hp : pc + 3 = pc') (k : EE p l e R s m args below meth c Q Γ nL kc ks pc' L S M') : EE p l e R s m args below meth c Q Γ nL kc ks pc L (.int x :: .ref a :: S) M := by
  subst hM
  refine q_putV (M' := sI M a kf x) cx ci kf hl ht hpf hn hfit rfl rfl (fun b hb => cEq_sI hb) (fun j => ?_) hd hp k
  unfold vfld
  by_cases hj : j = kf
  · subst hj
    rw [if_pos rfl, if_neg (by rw [hk]; decide)]
    exact congrArg Value.int (if_pos ⟨rfl, rfl⟩)
  · rw [if_neg hj]
    have e : mI (sI M a kf x) a j = mI M a j := if_neg fun q => hj q.2
    rw [e]
    rfl
theorem q_pR (cx : CX Γ p s m args meth c own cc nL ret) {index a b : Nat} (ci kf : Nat) (hl : FLk own index ci kf) (hk : KD ci kf = true) (ht : mt M a = ci) {ty : FieldType} (hpf : ∃ r : vw_C, vwCl[ci]? = some r ∧ parseFieldDescriptor (r.2.1 kf).2.2.1 = some ty ∧ ((r.2.1 kf).2.2.2 = false ∨ (meth.name = "<init>" ∧ r.1 = own ∧ Cond.fieldLink own index r.1 (r.2.1 kf).2.1 (r.2.1 kf).2.2.1 ∈ AW))) (hn : narrow ty (.ref b) = .ref b) (hfit : fits ty (.ref b) = true) (hM : M' = sP M a kf (some b)) (hd : decode cc pc = .ok (.putfield index, 3)) (hp : pc + 3 = pc') (k : EE p l e R s m args below meth c Q Γ nL kc ks pc' L S M') : EE p l e R s m args below meth c Q Γ nL kc ks pc L (.ref b :: .ref a :: S) M := by
  subst hM
  refine q_putV (M' := sP M a kf (some b)) cx ci kf hl ht hpf hn hfit rfl rfl (fun b hb => cEq_sP hb) (fun j => ?_) hd hp k
  unfold vfld
  by_cases hj : j = kf
  · subst hj
    rw [if_pos rfl, if_pos hk]
    exact congrArg va_rf (if_pos ⟨rfl, rfl⟩)
  · rw [if_neg hj]
    have e : mP (sP M a kf (some b)) a j = mP M a j := if_neg fun q => hj q.2
    rw [e]
    rfl
end QR
