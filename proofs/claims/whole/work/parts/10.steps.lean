def imm_max (x y : Int32) : Int32 := if x < y then y else x
def imm_min (x y : Int32) : Int32 := if y < x then y else x
/-! copying, Math, statics -/
section QM1
variable {p : Program} {l : Launch} {e : Env} {R : Room} {s : State} {m : MethodId} {args : Array Value} {below : List Frame} {meth : Method} {c : Code} {Q : State → Prop}
variable {Γ : GT} {own : String} {cc : ByteArray} {nL kc ks pc pc' : Nat} {ret : Option FieldType} {L L' : List (Nat × Value)} {S : List Value} {M M' : QM}
theorem W_copy {cc : ByteArray} {H : Heap} {locs : List Loc} {ls : Array Slot} {rest : List Value} {α : Type} (mk : α → Value) (hexec : p.tables.exec = Jvm.exec) (hb : c.code = cc) (hml : c.maxLocals = ls.size) {own : String} {index : Nat} (hown : s.vm.findClass own = some m.cls) (hlink : (Cond.methodLink own index arraycopyName).before args s = true) (hnat : (Cond.native arraycopyName).before args s = true) (hstat : (Cond.static arraycopyName).before args s = true) (hini : (Cond.initialized "java/lang/System").before args s = true)
    {a0 a : Nat} {c0 c1 : ClassId} {n0 n1 : Nat} {f g : Nat → α} {ty : FieldType} (hc0 : H[a0]? = some (arrV c0 n0 (fun j => mk (f j)))) (hc1 : H[a]? = some (arrV c1 n1 (fun j => mk (g j)))) (ht0 : ArrOfT s c0 ty) (ht1 : ArrOfT s c1 ty) (hprim : refKind ty = false)
    {sp dp n : Int32} (h1 : ¬ sp < 0) (h2 : ¬ dp < 0) (h3 : ¬ n < 0) (h4 : sp.toNatClampNeg + n.toNatClampNeg ≤ n0) (h5 : dp.toNatClampNeg + n.toNatClampNeg ≤ n1) (hfit : ∀ x : α, fits ty (mk x) = true) (hnr : ∀ x : α, (match mk x with | .ref _ => False | _ => True) )
    (hframes : 1 ≤ R.frames) (hlocals : (rest.map fun v => v.category).sum + (nativeFrameWords "java/lang/System" "arraycopy" 5 + 11) ≤ R.locals) (hdg : decode cc pc = .ok (.invokestatic index, 3))
    (kk : ∀ (H1 : Heap) (Lc : List Loc), H1[a]? = some (arrV c1 n1 (fun j => mk (va_cpy f g sp.toNatClampNeg dp.toNatClampNeg n.toNatClampNeg j))) → H1.size = H.size → (∀ q : Nat, q ≠ a → H1[q]? = H[q]?) → (∀ z ∈ Lc, z.base = a) → W p l e R s m args below meth c H1 (locs ++ Lc) kc ks Q (F0 m (pc + 3) ls rest)) : W p l e R s m args below meth c H locs kc ks Q (F0 m pc ls (.int n :: .int dp :: .ref a :: .int sp :: .ref a0 :: rest)) := by
  have nn : ∀ z : Int32, ¬ z < 0 → z.toInt = (z.toNatClampNeg : Int) := by
    intro z hz
    have hz0 : (0 : Int) ≤ z.toInt := by
      have := Int32.not_lt.mp hz
      simpa using Int32.le_iff_toInt_le.mp this
    show z.toInt = ((z.toInt.toNat : Nat) : Int)
    omega
  intro T hT X
  obtain ⟨-, k0, hk0, cm0, hkk0⟩ := ht0 n0 (fun j => mk (f j))
  obtain ⟨-, k1, hk1, cm1, hkk1⟩ := ht1 n1 (fun j => mk (g j))
  obtain ⟨vm', X', step⟩ := X.arraycopy hexec hown hlink hnat hstat hini (src := a0) (dst := a) (cs := arrV c0 n0 (fun j => mk (f j))) (cd := arrV c1 n1 (fun j => mk (g j))) (srcPos := sp) (destPos := dp) (n := n) (by rw [hT]; exact hc0) (by rw [hT]; exact hc1)
    (fun _ h => by cases h) (fun _ h => by cases h) (fun h => by cases h) (fun h => by cases h) hk0 hk1 hkk0 hkk1 (by simp [hprim]) h1 h2 h3
    (by rw [nn sp h1, nn n h3, arrV_size]; omega)
    (by rw [nn dp h2, nn n h3, arrV_size]; omega)
    (fun vm₁ _ i hi => by
      have e : (arrV c0 n0 (fun j => mk (f j))).slots.getD (sp.toNatClampNeg + i) .null = mk (f (sp.toNatClampNeg + i)) := by
        rw [Array.getD_eq_getD_getElem?, arrV_read _ _ (by omega)]
        rfl
      refine ⟨?_, ?_⟩
      · rw [e]
        exact hfit _
      · rw [e]
        have := hnr (f (sp.toNatClampNeg + i))
        revert this
        cases mk (f (sp.toNatClampNeg + i)) <;> intro this <;> first | exact trivial | exact this.elim)
    (g := F0 m pc ls (.int n :: .int dp :: .ref a :: .int sp :: .ref a0 :: rest)) rfl (by rw [hml]) (rest := rest) rfl (by rw [hb]; exact hdg) hframes (by show 2 * 0 + _ + _ ≤ _; omega)
  have e1 : copied (arrV c0 n0 (fun j => mk (f j))) (arrV c1 n1 (fun j => mk (g j))) sp dp n = arrV c1 n1 (fun j => mk (va_cpy f g sp.toNatClampNeg dp.toNatClampNeg n.toNatClampNeg j)) := va_copied mk c0 c1 f g h4
  rw [e1] at X' step
  have hl : a < H.size := (Array.getElem?_eq_some_iff.mp hc1).1
  have hheap : ((T.setVm vm').setCell a (arrV c1 n1 (fun j => mk (va_cpy f g sp.toNatClampNeg dp.toNatClampNeg n.toNatClampNeg j)))).heap = H.setIfInBounds a (arrV c1 n1 (fun j => mk (va_cpy f g sp.toNatClampNeg dp.toNatClampNeg n.toNatClampNeg j))) := by rw [← hT]; rfl
  obtain ⟨t, a1, b1⟩ := kk _ _ (by simp [Array.getElem?_setIfInBounds, hl]) (by simp) (fun q hq => by simp [Array.getElem?_setIfInBounds, Ne.symm hq]) (fun q hq => by
      obtain ⟨z, -, hz⟩ := List.mem_map.mp hq
      rw [← hz]) _ hheap X'
  exact ⟨t, step t a1, b1⟩
theorem q_cpyI (cx : CX Γ p s m args meth c own cc nL ret) {index a b : Nat} {sp dp n : Int32} (hlink : Cond.methodLink own index arraycopyName ∈ AW) (hw : Cond.native arraycopyName ∈ AW ∧ Cond.static arraycopyName ∈ AW ∧ Cond.initialized "java/lang/System" ∈ AW) (ha : mt M a = 20) (hb : mt M b = 20) (hq : ¬ sp < 0 ∧ ¬ dp < 0 ∧ ¬ n < 0 ∧ sp.toNatClampNeg + n.toNatClampNeg ≤ ml M a ∧ dp.toNatClampNeg + n.toNatClampNeg ≤ ml M b) (hM : M' = rI M b (va_cpy (mI M a) (mI M b) sp.toNatClampNeg dp.toNatClampNeg n.toNatClampNeg)) (hroom : 1 ≤ R.frames ∧ 8 + (nativeFrameWords "java/lang/System" "arraycopy" 5 + 11) ≤ R.locals) (hcat : (S.map fun v => v.category).sum ≤ 8) (hd : decode cc pc = .ok (.invokestatic index, 3)) (hp : pc + 3 = pc') (k : EE p l e R s m args below meth c Q Γ nL kc ks pc' L S M') : EE p l e R s m args below meth c Q Γ nL kc ks pc L (.int n :: .int dp :: .ref b :: .int sp :: .ref a :: S) M := by
  subst hp; subst hM
  intro H locs ls h1 h2 h3
  have ga := h1.arr ha (by decide) (by decide)
  have gb := h1.arr hb (by decide) (by decide)
  have hTT := (gTys_at (Γ := Γ) (t := 20) 0 rfl cx.k).1
  refine W_copy Value.int cx.x cx.b (cx.ml.trans h3.1.symm) cx.o (cx.w hlink) (cx.w hw.1) (cx.w hw.2.1) (cx.w hw.2.2) ga.2 gb.2 hTT hTT rfl hq.1 hq.2.1 hq.2.2.1 hq.2.2.2.1 hq.2.2.2.2 (fun _ => rfl) (fun _ => trivial) hroom.1 (by omega) hd (fun H1 Lc e1 e2 e3 e4 => k H1 _ ls (h1.put rfl rfl (fun b hb => cEq_rI hb) e2 e3 (fun _ => ?_)) ⟨by rw [e2]; exact h2.1, fun q g1 g2 => (e3 q (fun z => g2 (by rw [z]; exact gb.1.1))).trans (h2.2.1 q g1 g2), fun q g => ?_⟩ h3)
  · unfold cOK
    rw [show mt (rI M b (va_cpy (mI M a) (mI M b) sp.toNatClampNeg dp.toNatClampNeg n.toNatClampNeg)) b = 20 from hb]
    refine ⟨fun h => absurd h (by decide), fun _ => ?_⟩
    rw [e1]
    congr 2
    funext j
    exact congrArg Value.int (if_pos rfl : (if b = b then _ else _) = _).symm
  · rcases List.mem_append.mp g with g | g
    · exact h2.2.2 q g
    · rw [e4 q g]; exact gb.1.1
theorem q_cpyJ (cx : CX Γ p s m args meth c own cc nL ret) {index a b : Nat} {sp dp n : Int32} (hlink : Cond.methodLink own index arraycopyName ∈ AW) (hw : Cond.native arraycopyName ∈ AW ∧ Cond.static arraycopyName ∈ AW ∧ Cond.initialized "java/lang/System" ∈ AW) (ha : mt M a = 24) (hb : mt M b = 24) (hq : ¬ sp < 0 ∧ ¬ dp < 0 ∧ ¬ n < 0 ∧ sp.toNatClampNeg + n.toNatClampNeg ≤ ml M a ∧ dp.toNatClampNeg + n.toNatClampNeg ≤ ml M b) (hM : M' = rJ M b (va_cpy (mJ M a) (mJ M b) sp.toNatClampNeg dp.toNatClampNeg n.toNatClampNeg)) (hroom : 1 ≤ R.frames ∧ 8 + (nativeFrameWords "java/lang/System" "arraycopy" 5 + 11) ≤ R.locals) (hcat : (S.map fun v => v.category).sum ≤ 8) (hd : decode cc pc = .ok (.invokestatic index, 3)) (hp : pc + 3 = pc') (k : EE p l e R s m args below meth c Q Γ nL kc ks pc' L S M') : EE p l e R s m args below meth c Q Γ nL kc ks pc L (.int n :: .int dp :: .ref b :: .int sp :: .ref a :: S) M := by
  subst hp; subst hM
  intro H locs ls h1 h2 h3
  have ga := h1.arr ha (by decide) (by decide)
  have gb := h1.arr hb (by decide) (by decide)
  have hTT := (gTys_at (Γ := Γ) (t := 24) 3 rfl cx.k).1
  refine W_copy Value.long cx.x cx.b (cx.ml.trans h3.1.symm) cx.o (cx.w hlink) (cx.w hw.1) (cx.w hw.2.1) (cx.w hw.2.2) ga.2 gb.2 hTT hTT rfl hq.1 hq.2.1 hq.2.2.1 hq.2.2.2.1 hq.2.2.2.2 (fun _ => rfl) (fun _ => trivial) hroom.1 (by omega) hd (fun H1 Lc e1 e2 e3 e4 => k H1 _ ls (h1.put rfl rfl (fun b hb => cEq_rJ hb) e2 e3 (fun _ => ?_)) ⟨by rw [e2]; exact h2.1, fun q g1 g2 => (e3 q (fun z => g2 (by rw [z]; exact gb.1.1))).trans (h2.2.1 q g1 g2), fun q g => ?_⟩ h3)
  · unfold cOK
    rw [show mt (rJ M b (va_cpy (mJ M a) (mJ M b) sp.toNatClampNeg dp.toNatClampNeg n.toNatClampNeg)) b = 24 from hb]
    refine ⟨fun h => absurd h (by decide), fun _ => ?_⟩
    rw [e1]
    congr 2
    funext j
    exact congrArg Value.long (if_pos rfl : (if b = b then _ else _) = _).symm
  · rcases List.mem_append.mp g with g | g
    · exact h2.2.2 q g
    · rw [e4 q g]; exact gb.1.1
theorem q_mmax (cx : CX Γ p s m args meth c own cc nL ret) {index : Nat} {x y : Int32} (hlink : Cond.methodLink own index Lib.Math.max.name ∈ AW) (hw : Cond.static Lib.Math.max.name ∈ AW ∧ Cond.initialized "java/lang/Math" ∈ AW ∧ Cond.code Lib.Math.max.name Lib.Math.max.code 2 (some .int) ∈ AW) (hroom : 1 ≤ R.frames ∧ 21 ≤ R.locals ∧ kc ≤ R.cells ∧ ks ≤ R.slots) (hcat : (S.map fun v => v.category).sum ≤ 8) (hd : decode cc pc = .ok (.invokestatic index, 3)) (hp : pc + 3 = pc') (k : EE p l e R s m args below meth c Q Γ nL kc ks pc' L (.int (imm_max x y) :: S) M) : EE p l e R s m args below meth c Q Γ nL kc ks pc L (.int y :: .int x :: S) M := by
  subst hp
  exact fun H locs ls h1 h2 h3 => va_mmax cx.x cx.b (cx.ml.trans h3.1.symm) cx.o (cx.w hlink) (cx.w hw.1) (cx.w hw.2.1) (cx.w hw.2.2) hroom.1 (by omega) hroom.2.2.1 hroom.2.2.2 hd (k H locs ls h1 h2 h3)
theorem q_mmin (cx : CX Γ p s m args meth c own cc nL ret) {index : Nat} {x y : Int32} (hlink : Cond.methodLink own index Lib.Math.min.name ∈ AW) (hw : Cond.static Lib.Math.min.name ∈ AW ∧ Cond.initialized "java/lang/Math" ∈ AW ∧ Cond.code Lib.Math.min.name Lib.Math.min.code 2 (some .int) ∈ AW) (hroom : 1 ≤ R.frames ∧ 21 ≤ R.locals ∧ kc ≤ R.cells ∧ ks ≤ R.slots) (hcat : (S.map fun v => v.category).sum ≤ 8) (hd : decode cc pc = .ok (.invokestatic index, 3)) (hp : pc + 3 = pc') (k : EE p l e R s m args below meth c Q Γ nL kc ks pc' L (.int (imm_min x y) :: S) M) : EE p l e R s m args below meth c Q Γ nL kc ks pc L (.int y :: .int x :: S) M := by
  subst hp
  exact fun H locs ls h1 h2 h3 => va_mmin cx.x cx.b (cx.ml.trans h3.1.symm) cx.o (cx.w hlink) (cx.w hw.1) (cx.w hw.2.1) (cx.w hw.2.2) hroom.1 (by omega) hroom.2.2.1 hroom.2.2.2 hd (k H locs ls h1 h2 h3)
theorem q_getsKA (cx : CX Γ p s m args meth c own cc nL ret) {index : Nat} (hlink : Cond.fieldLink own index "BearMouse" "KIND_ABOVE" "[I" ∈ AW ∨ ∃ host : String, Cond.fieldLinkNest own index "BearMouse" "KIND_ABOVE" "[I" host ∈ NW) (hd : decode cc pc = .ok (.getstatic index, 3)) (hp : pc + 3 = pc') (k : EE p l e R s m args below meth c Q Γ nL kc ks pc' L (.ref (gS Γ 0) :: S) M) : EE p l e R s m args below meth c Q Γ nL kc ks pc L S M := by
  subst hp
  rcases hlink with hlink | ⟨host, hlink⟩
  · exact fun H locs ls h1 h2 h3 => va_gets cx.x cx.b cx.old.2.1.1 h2 cx.o (cx.w hlink) (fun _ h => h) hd (k H locs ls h1 h2 h3)
  · exact fun H locs ls h1 h2 h3 => va_getsN cx.x cx.b cx.old.2.1.1 h2 cx.o (va_Nw.use rfl (cx.k.2.1 _ hlink)) (fun _ h => h) hd (k H locs ls h1 h2 h3)
theorem q_ildKA (cx : CX Γ p s m args meth c own cc nL ret) {i x : Int32} (hi : ¬ (i < 0 ∨ 7 ≤ i.toNatClampNeg)) (hx : x = tKA.getD i.toNatClampNeg 0) (hd : decode cc pc = .ok (.iaload, 1)) (hp : pc + 1 = pc') (k : EE p l e R s m args below meth c Q Γ nL kc ks pc' L (.int x :: S) M) : EE p l e R s m args below meth c Q Γ nL kc ks pc L (.int i :: .ref (gS Γ 0) :: S) M := by
  subst hp; subst hx
  exact fun H locs ls h1 h2 h3 => va_ti cx.x cx.b cx.old.2.1.2 h2 hi rfl hd (k H locs ls h1 h2 h3)
theorem q_getsBO (cx : CX Γ p s m args meth c own cc nL ret) {index : Nat} (hlink : Cond.fieldLink own index "BearMouse$Acts" "BODY_OF" "[I" ∈ AW ∨ ∃ host : String, Cond.fieldLinkNest own index "BearMouse$Acts" "BODY_OF" "[I" host ∈ NW) (hd : decode cc pc = .ok (.getstatic index, 3)) (hp : pc + 3 = pc') (k : EE p l e R s m args below meth c Q Γ nL kc ks pc' L (.ref (gS Γ 1) :: S) M) : EE p l e R s m args below meth c Q Γ nL kc ks pc L S M := by
  subst hp
  rcases hlink with hlink | ⟨host, hlink⟩
  · exact fun H locs ls h1 h2 h3 => va_gets cx.x cx.b cx.old.2.2.1.1 h2 cx.o (cx.w hlink) (fun _ h => h) hd (k H locs ls h1 h2 h3)
  · exact fun H locs ls h1 h2 h3 => va_getsN cx.x cx.b cx.old.2.2.1.1 h2 cx.o (va_Nw.use rfl (cx.k.2.1 _ hlink)) (fun _ h => h) hd (k H locs ls h1 h2 h3)
theorem q_ildBO (cx : CX Γ p s m args meth c own cc nL ret) {i x : Int32} (hi : ¬ (i < 0 ∨ 21 ≤ i.toNatClampNeg)) (hx : x = tBO.getD i.toNatClampNeg 0) (hd : decode cc pc = .ok (.iaload, 1)) (hp : pc + 1 = pc') (k : EE p l e R s m args below meth c Q Γ nL kc ks pc' L (.int x :: S) M) : EE p l e R s m args below meth c Q Γ nL kc ks pc L (.int i :: .ref (gS Γ 1) :: S) M := by
  subst hp; subst hx
  exact fun H locs ls h1 h2 h3 => va_ti cx.x cx.b cx.old.2.2.1.2 h2 hi rfl hd (k H locs ls h1 h2 h3)
theorem q_astore_nO (cx : CX Γ p s m args meth c own cc nL ret) {j : Fin 4} {i : Nat} (hj : (j : Nat) = i) {v x : Option Nat} (hx : x = v) (hn : i < nL) (hl : (i, va_rf x) :: L.filter (fun q => !(q.1 == i) && !(q.1 + 1 == i && q.2.category == 2)) = L') (hd : decode cc pc = .ok (.astore_n j, 1)) (hp : pc + 1 = pc') (k : EE p l e R s m args below meth c Q Γ nL kc ks pc' L' S M) : EE p l e R s m args below meth c Q Γ nL kc ks pc L (va_rf v :: S) M := by
  subst hx
  cases x with
  | none => subst hp; subst hj; subst hl; exact fun H locs ls h1 h2 h3 => lv_astore_nN cx.x cx.b hd rfl h3 hn rfl (fun ls' h3' => k H locs ls' h1 h2 h3')
  | some a => exact q_astore_n cx hj rfl hn hl hd hp k
theorem q_astoreO (cx : CX Γ p s m args meth c own cc nL ret) {i : Nat} {v x : Option Nat} (hx : x = v) (hn : i < nL) (hl : (i, va_rf x) :: L.filter (fun q => !(q.1 == i) && !(q.1 + 1 == i && q.2.category == 2)) = L') (hd : decode cc pc = .ok (.astore i, 2)) (hp : pc + 2 = pc') (k : EE p l e R s m args below meth c Q Γ nL kc ks pc' L' S M) : EE p l e R s m args below meth c Q Γ nL kc ks pc L (va_rf v :: S) M := by
  subst hx
  cases x with
  | none => subst hp; subst hl; exact fun H locs ls h1 h2 h3 => lv_astoreN cx.x cx.b hd h3 hn rfl (fun ls' h3' => k H locs ls' h1 h2 h3')
  | some a => exact q_astore cx rfl hn hl hd hp k
theorem q_aload_nO (cx : CX Γ p s m args meth c own cc nL ret) {i : Fin 4} {x : Option Nat} (kk : Nat) (hl : L[kk]? = some ((i : Nat), va_rf x)) (hd : decode cc pc = .ok (.aload_n i, 1)) (hp : pc + 1 = pc') (k : EE p l e R s m args below meth c Q Γ nL kc ks pc' L (va_rf x :: S) M) : EE p l e R s m args below meth c Q Γ nL kc ks pc L S M := by
  cases x with
  | none => subst hp; exact fun H locs ls h1 h2 h3 => lv_aload_nN cx.x cx.b hd rfl (lv_at h3 kk hl) (k H locs ls h1 h2 h3)
  | some a => exact q_aload_n cx kk hl hd hp k
theorem q_aloadO (cx : CX Γ p s m args meth c own cc nL ret) {i : Nat} {x : Option Nat} (kk : Nat) (hl : L[kk]? = some (i, va_rf x)) (hd : decode cc pc = .ok (.aload i, 2)) (hp : pc + 2 = pc') (k : EE p l e R s m args below meth c Q Γ nL kc ks pc' L (va_rf x :: S) M) : EE p l e R s m args below meth c Q Γ nL kc ks pc L S M := by
  cases x with
  | none => subst hp; exact fun H locs ls h1 h2 h3 => lv_aloadN cx.x cx.b hd (lv_at h3 kk hl) (k H locs ls h1 h2 h3)
  | some a => exact q_aload cx kk hl hd hp k
end QM1
/-! ===== what a method does, as a function: the steps of such functions ===== -/
def gI {α : Type} (M : QM) (a ci k : Nat) (f : Int32 → Option α) : Option α := if mt M a = ci then f (mI M a k) else none
def gR {α : Type} (M : QM) (a ci k : Nat) (f : Nat → Option α) : Option α := if mt M a = ci then (match mP M a k with | some b => f b | none => none) else none
def pI {α : Type} (M : QM) (a ci k : Nat) (v : Int32) (f : QM → Option α) : Option α := if mt M a = ci then f (sI M a k v) else none
def pR {α : Type} (M : QM) (a ci k b : Nat) (f : QM → Option α) : Option α := if mt M a = ci then f (sP M a k (some b)) else none
def aI {α : Type} (M : QM) (t a : Nat) (i : Int32) (f : Int32 → Option α) : Option α := if mt M a = t ∧ ¬ (i < 0 ∨ ml M a ≤ i.toNatClampNeg) then f (mI M a i.toNatClampNeg) else none
def aJ {α : Type} (M : QM) (a : Nat) (i : Int32) (f : Int64 → Option α) : Option α := if mt M a = 24 ∧ ¬ (i < 0 ∨ ml M a ≤ i.toNatClampNeg) then f (mJ M a i.toNatClampNeg) else none
def aR {α : Type} (M : QM) (t a : Nat) (i : Int32) (f : Nat → Option α) : Option α := if mt M a = t ∧ ¬ (i < 0 ∨ ml M a ≤ i.toNatClampNeg) then (match mP M a i.toNatClampNeg with | some b => f b | none => none) else none
def wI {α : Type} (M : QM) (t a : Nat) (i v : Int32) (f : QM → Option α) : Option α := if mt M a = t ∧ ¬ (i < 0 ∨ ml M a ≤ i.toNatClampNeg) then f (sI M a i.toNatClampNeg v) else none
def wJ {α : Type} (M : QM) (a : Nat) (i : Int32) (v : Int64) (f : QM → Option α) : Option α := if mt M a = 24 ∧ ¬ (i < 0 ∨ ml M a ≤ i.toNatClampNeg) then f (sJ M a i.toNatClampNeg v) else none
def wR {α : Type} (M : QM) (t a : Nat) (i : Int32) (ci b : Nat) (f : QM → Option α) : Option α := if mt M a = t ∧ ¬ (i < 0 ∨ ml M a ≤ i.toNatClampNeg) ∧ mt M b = ci then f (sP M a i.toNatClampNeg (some b)) else none
def nO {α : Type} (M : QM) (ci : Nat) (f : QM → Nat → Option α) : Option α := f (nw M ci 0) (mz M)
def nA {α : Type} (M : QM) (t : Nat) (n : Int32) (B : Nat) (f : QM → Nat → Option α) : Option α := if ¬ n < 0 ∧ n.toNatClampNeg ≤ B then f (nw M t n.toNatClampNeg) (mz M) else none
def ck {α : Type} (M : QM) (b ci : Nat) (f : Option α) : Option α := if mt M b = ci then f else none
def bnd {α β : Type} (x : Option α) (f : α → Option β) : Option β := match x with | some r => f r | none => none
def drf {α : Type} (r : Option Nat) (f : Nat → Option α) : Option α := match r with | some b => f b | none => none
def cnul {α : Type} (r : Option Nat) (g : α) (f : Nat → α) : α := match r with | some b => f b | none => g
def nm {α β : Type} (x : α) (f : α → β) : β := f x
def dv {α : Type} (y : Int32) (f : Option α) : Option α := if y = 0 then none else f
def cpI {α : Type} (M : QM) (a b : Nat) (sp dp n : Int32) (f : QM → Option α) : Option α := if (mt M a = 20 ∧ mt M b = 20) ∧ ¬ sp < 0 ∧ ¬ dp < 0 ∧ ¬ n < 0 ∧ sp.toNatClampNeg + n.toNatClampNeg ≤ ml M a ∧ dp.toNatClampNeg + n.toNatClampNeg ≤ ml M b then f (rI M b (va_cpy (mI M a) (mI M b) sp.toNatClampNeg dp.toNatClampNeg n.toNatClampNeg)) else none
def cpJ {α : Type} (M : QM) (a b : Nat) (sp dp n : Int32) (f : QM → Option α) : Option α := if (mt M a = 24 ∧ mt M b = 24) ∧ ¬ sp < 0 ∧ ¬ dp < 0 ∧ ¬ n < 0 ∧ sp.toNatClampNeg + n.toNatClampNeg ≤ ml M a ∧ dp.toNatClampNeg + n.toNatClampNeg ≤ ml M b then f (rJ M b (va_cpy (mJ M a) (mJ M b) sp.toNatClampNeg dp.toNatClampNeg n.toNatClampNeg)) else none
def sA {α : Type} (tab : List Int32) (N : Nat) (i : Int32) (f : Int32 → Option α) : Option α := if ¬ (i < 0 ∨ N ≤ i.toNatClampNeg) then f (tab.getD i.toNatClampNeg 0) else none
def itr {σ ρ : Type} (f : σ → Option (σ ⊕ ρ)) : Nat → σ → Option ρ
  | 0, _ => none
  | n + 1, s => match f s with | none => none | some (.inl s') => itr f n s' | some (.inr r) => some r
def FU : Nat := 2048
/-! .. and back: what their answer says -/
theorem gI_i {α : Type} {M : QM} {a ci k : Nat} {f : Int32 → Option α} {z : α} (h : gI M a ci k f = some z) : mt M a = ci ∧ ∃ x, x = mI M a k ∧ f x = some z := by
  unfold gI at h; split at h
  · exact ⟨by assumption, _, rfl, h⟩
  · cases h
theorem gR_i {α : Type} {M : QM} {a ci k : Nat} {f : Nat → Option α} {z : α} (h : gR M a ci k f = some z) : mt M a = ci ∧ ∃ b, mP M a k = some b ∧ f b = some z := by
  unfold gR at h; split at h
  · split at h
    · exact ⟨by assumption, _, by assumption, h⟩
    · cases h
  · cases h
theorem pI_i {α : Type} {M : QM} {a ci k : Nat} {v : Int32} {f : QM → Option α} {z : α} (h : pI M a ci k v f = some z) : mt M a = ci ∧ ∃ M1, M1 = sI M a k v ∧ f M1 = some z := by
  unfold pI at h; split at h
  · exact ⟨by assumption, _, rfl, h⟩
  · cases h
theorem pR_i {α : Type} {M : QM} {a ci k b : Nat} {f : QM → Option α} {z : α} (h : pR M a ci k b f = some z) : mt M a = ci ∧ ∃ M1, M1 = sP M a k (some b) ∧ f M1 = some z := by
  unfold pR at h; split at h
  · exact ⟨by assumption, _, rfl, h⟩
  · cases h
theorem aI_i {α : Type} {M : QM} {t a : Nat} {i : Int32} {f : Int32 → Option α} {z : α} (h : aI M t a i f = some z) : mt M a = t ∧ ¬ (i < 0 ∨ ml M a ≤ i.toNatClampNeg) ∧ ∃ x, x = mI M a i.toNatClampNeg ∧ f x = some z := by
  unfold aI at h; split at h
  · rename_i q; exact ⟨q.1, q.2, _, rfl, h⟩
  · cases h
theorem aJ_i {α : Type} {M : QM} {a : Nat} {i : Int32} {f : Int64 → Option α} {z : α} (h : aJ M a i f = some z) : mt M a = 24 ∧ ¬ (i < 0 ∨ ml M a ≤ i.toNatClampNeg) ∧ ∃ x, x = mJ M a i.toNatClampNeg ∧ f x = some z := by
  unfold aJ at h; split at h
  · rename_i q; exact ⟨q.1, q.2, _, rfl, h⟩
  · cases h
theorem aR_i {α : Type} {M : QM} {t a : Nat} {i : Int32} {f : Nat → Option α} {z : α} (h : aR M t a i f = some z) : mt M a = t ∧ ¬ (i < 0 ∨ ml M a ≤ i.toNatClampNeg) ∧ ∃ b, mP M a i.toNatClampNeg = some b ∧ f b = some z := by
  unfold aR at h; split at h
  · rename_i q; split at h
    · exact ⟨q.1, q.2, _, by assumption, h⟩
    · cases h
  · cases h
theorem wI_i {α : Type} {M : QM} {t a : Nat} {i v : Int32} {f : QM → Option α} {z : α} (h : wI M t a i v f = some z) : mt M a = t ∧ ¬ (i < 0 ∨ ml M a ≤ i.toNatClampNeg) ∧ ∃ M1, M1 = sI M a i.toNatClampNeg v ∧ f M1 = some z := by
  unfold wI at h; split at h
  · rename_i q; exact ⟨q.1, q.2, _, rfl, h⟩
  · cases h
theorem wJ_i {α : Type} {M : QM} {a : Nat} {i : Int32} {v : Int64} {f : QM → Option α} {z : α} (h : wJ M a i v f = some z) : mt M a = 24 ∧ ¬ (i < 0 ∨ ml M a ≤ i.toNatClampNeg) ∧ ∃ M1, M1 = sJ M a i.toNatClampNeg v ∧ f M1 = some z := by
  unfold wJ at h; split at h
  · rename_i q; exact ⟨q.1, q.2, _, rfl, h⟩
  · cases h
theorem wR_i {α : Type} {M : QM} {t a : Nat} {i : Int32} {ci b : Nat} {f : QM → Option α} {z : α} (h : wR M t a i ci b f = some z) : mt M a = t ∧ ¬ (i < 0 ∨ ml M a ≤ i.toNatClampNeg) ∧ mt M b = ci ∧ ∃ M1, M1 = sP M a i.toNatClampNeg (some b) ∧ f M1 = some z := by
  unfold wR at h; split at h
  · rename_i q; exact ⟨q.1, q.2.1, q.2.2, _, rfl, h⟩
  · cases h
theorem nO_i {α : Type} {M : QM} {ci : Nat} {f : QM → Nat → Option α} {z : α} (h : nO M ci f = some z) : ∃ M1 a, M1 = nw M ci 0 ∧ a = mz M ∧ f M1 a = some z := ⟨_, _, rfl, rfl, h⟩
theorem nA_i {α : Type} {M : QM} {t : Nat} {n : Int32} {B : Nat} {f : QM → Nat → Option α} {z : α} (h : nA M t n B f = some z) : ¬ n < 0 ∧ n.toNatClampNeg ≤ B ∧ ∃ M1 a, M1 = nw M t n.toNatClampNeg ∧ a = mz M ∧ f M1 a = some z := by
  unfold nA at h; split at h
  · rename_i q; exact ⟨q.1, q.2, _, _, rfl, rfl, h⟩
  · cases h
theorem ck_i {α : Type} {M : QM} {b ci : Nat} {f : Option α} {z : α} (h : ck M b ci f = some z) : mt M b = ci ∧ f = some z := by
  unfold ck at h; split at h
  · exact ⟨by assumption, h⟩
  · cases h
theorem bnd_i {α β : Type} {x : Option α} {f : α → Option β} {z : β} (h : bnd x f = some z) : ∃ r, x = some r ∧ f r = some z := by
  unfold bnd at h; split at h
  · exact ⟨_, rfl, h⟩
  · cases h
theorem drf_i {α : Type} {r : Option Nat} {f : Nat → Option α} {z : α} (h : drf r f = some z) : ∃ b, r = some b ∧ f b = some z := by
  unfold drf at h; split at h
  · exact ⟨_, rfl, h⟩
  · cases h
theorem dv_i {α : Type} {y : Int32} {f : Option α} {z : α} (h : dv y f = some z) : ¬ y = 0 ∧ f = some z := by
  unfold dv at h; split at h
  · cases h
  · exact ⟨by assumption, h⟩
theorem nm_i {α β : Type} {x : α} {f : α → β} {z : β} (h : nm x f = z) : ∃ y, y = x ∧ f y = z := ⟨x, rfl, h⟩
theorem cpI_i {α : Type} {M : QM} {a b : Nat} {sp dp n : Int32} {f : QM → Option α} {z : α} (h : cpI M a b sp dp n f = some z) : mt M a = 20 ∧ mt M b = 20 ∧ (¬ sp < 0 ∧ ¬ dp < 0 ∧ ¬ n < 0 ∧ sp.toNatClampNeg + n.toNatClampNeg ≤ ml M a ∧ dp.toNatClampNeg + n.toNatClampNeg ≤ ml M b) ∧ ∃ M1, M1 = rI M b (va_cpy (mI M a) (mI M b) sp.toNatClampNeg dp.toNatClampNeg n.toNatClampNeg) ∧ f M1 = some z := by
  unfold cpI at h; split at h
  · rename_i q; exact ⟨q.1.1, q.1.2, q.2, _, rfl, h⟩
  · cases h
theorem cpJ_i {α : Type} {M : QM} {a b : Nat} {sp dp n : Int32} {f : QM → Option α} {z : α} (h : cpJ M a b sp dp n f = some z) : mt M a = 24 ∧ mt M b = 24 ∧ (¬ sp < 0 ∧ ¬ dp < 0 ∧ ¬ n < 0 ∧ sp.toNatClampNeg + n.toNatClampNeg ≤ ml M a ∧ dp.toNatClampNeg + n.toNatClampNeg ≤ ml M b) ∧ ∃ M1, M1 = rJ M b (va_cpy (mJ M a) (mJ M b) sp.toNatClampNeg dp.toNatClampNeg n.toNatClampNeg) ∧ f M1 = some z := by
  unfold cpJ at h; split at h
  · rename_i q; exact ⟨q.1.1, q.1.2, q.2, _, rfl, h⟩
  · cases h
theorem sA_i {α : Type} {tab : List Int32} {N : Nat} {i : Int32} {f : Int32 → Option α} {z : α} (h : sA tab N i f = some z) : ¬ (i < 0 ∨ N ≤ i.toNatClampNeg) ∧ ∃ x, x = tab.getD i.toNatClampNeg 0 ∧ f x = some z := by
  unfold sA at h; split at h
  · exact ⟨by assumption, _, rfl, h⟩
  · cases h
theorem itr_i {σ ρ : Type} {f : σ → Option (σ ⊕ ρ)} {n : Nat} {s : σ} {r : ρ} (h : itr f (n + 1) s = some r) : ∃ z, f s = some z ∧ (∀ s', some (.inl s') = some z → itr f n s' = some r) ∧ ∀ r', some (.inr r') = some z → r' = r := by
  unfold itr at h; split at h
  · cases h
  · rename_i s' hs; exact ⟨_, hs, (fun q hq => by cases hq; exact h), (fun q hq => by cases hq)⟩
  · rename_i r' hs; exact ⟨_, hs, (fun q hq => by cases hq), (fun q hq => by cases hq; cases h; rfl)⟩
def i2by (x : Int32) : Int32 := x.toInt8.toInt32
def sm {α β γ : Type} (r : α ⊕ β) (f : α → γ) (g : β → γ) : γ := match r with | .inl a => f a | .inr b => g b
theorem sm_l {α β γ : Type} {a : α} {f : α → γ} {g : β → γ} {z : γ} (h : sm (.inl a) f g = z) : f a = z := h
theorem sm_r {α β γ : Type} {b : β} {f : α → γ} {g : β → γ} {z : γ} (h : sm (.inr b) f g = z) : g b = z := h
def pr2 {α β δ : Type} (r : α × β) (f : α → β → δ) : δ := f r.1 r.2
def pr3 {α β γ δ : Type} (r : α × β × γ) (f : α → β → γ → δ) : δ := f r.1 r.2.1 r.2.2
def pr4 {α β γ ε δ : Type} (r : α × β × γ × ε) (f : α → β → γ → ε → δ) : δ := f r.1 r.2.1 r.2.2.1 r.2.2.2
def pr5 {α β γ ε ζ δ : Type} (r : α × β × γ × ε × ζ) (f : α → β → γ → ε → ζ → δ) : δ := f r.1 r.2.1 r.2.2.1 r.2.2.2.1 r.2.2.2.2
theorem pr2_i {α β δ : Type} {a : α} {b : β} {f : α → β → δ} {z : δ} (h : pr2 (a, b) f = z) : f a b = z := h
theorem pr3_i {α β γ δ : Type} {a : α} {b : β} {c : γ} {f : α → β → γ → δ} {z : δ} (h : pr3 (a, b, c) f = z) : f a b c = z := h
theorem pr4_i {α β γ ε δ : Type} {a : α} {b : β} {c : γ} {d : ε} {f : α → β → γ → ε → δ} {z : δ} (h : pr4 (a, b, c, d) f = z) : f a b c d = z := h
theorem pr5_i {α β γ ε ζ δ : Type} {a : α} {b : β} {c : γ} {d : ε} {e : ζ} {f : α → β → γ → ε → ζ → δ} {z : δ} (h : pr5 (a, b, c, d, e) f = z) : f a b c d e = z := h
theorem nm_t {α β : Type} {x : α} {f : α → β} {z : β} (h : nm x f = z) : f x = z := h
theorem itr_0 {σ ρ : Type} {f : σ → Option (σ ⊕ ρ)} {s : σ} {r : ρ} (h : itr f 0 s = some r) : False := by cases h
theorem cnul_n {α : Type} {g z : α} {f : Nat → α} (h : cnul none g f = z) : g = z := h
theorem cnul_s {α : Type} {b : Nat} {g z : α} {f : Nat → α} (h : cnul (some b) g f = z) : f b = z := h
theorem o1_i {α : Type} {a z : α} (h : some a = some z) : z = a := (Option.some.inj h).symm
theorem o2_i {α β : Type} {a z : α} {b w : β} (h : some (a, b) = some (z, w)) : z = a ∧ w = b := by
  have h1 := Option.some.inj h
  exact ⟨(congrArg Prod.fst h1).symm, (congrArg Prod.snd h1).symm⟩
theorem ip {c : Prop} [Decidable c] {α : Type} {A B z : α} (hc : c) (h : ite c A B = z) : A = z := by rw [if_pos hc] at h; exact h
theorem ine {c : Prop} [Decidable c] {α : Type} {A B z : α} (hc : ¬ c) (h : ite c A B = z) : B = z := by rw [if_neg hc] at h; exact h
