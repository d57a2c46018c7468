/-! texts, the length of a row, the script -/
def aL {α : Type} (M : QM) (t a : Nat) (f : Int32 → Option α) : Option α := if mt M a = t then f (Int32.ofNat (ml M a)) else none
theorem aL_i {α : Type} {M : QM} {t a : Nat} {f : Int32 → Option α} {z : α} (h : aL M t a f = some z) : mt M a = t ∧ ∃ x, x = Int32.ofNat (ml M a) ∧ f x = some z := by
  unfold aL at h; split at h
  · exact ⟨by assumption, _, rfl, h⟩
  · cases h
def sk {α : Type} (i : Nat) (f : Option α) : Option α := if i < 8 then f else none
theorem sk_i {α : Type} {i : Nat} {f : Option α} {z : α} (h : sk i f = some z) : i < 8 ∧ f = some z := by
  unfold sk at h; split at h
  · exact ⟨by assumption, h⟩
  · cases h
def bL {α : Type} (i : Nat) (f : Option α) : Option α := if i < 8 then f else none
theorem bL_i {α : Type} {i : Nat} {f : Option α} {z : α} (h : bL i f = some z) : i < 8 ∧ f = some z := by
  unfold bL at h; split at h
  · exact ⟨by assumption, h⟩
  · cases h
def bA {α : Type} (k : Nat) (i : Int32) (f : Int32 → Option α) : Option α := if k < 8 ∧ ¬ (i < 0 ∨ sLen.getD k 0 ≤ i.toNatClampNeg) then f ((sByt.getD k []).getD i.toNatClampNeg 0) else none
theorem bA_i {α : Type} {k : Nat} {i : Int32} {f : Int32 → Option α} {z : α} (h : bA k i f = some z) : k < 8 ∧ ¬ (i < 0 ∨ sLen.getD k 0 ≤ i.toNatClampNeg) ∧ ∃ x, x = (sByt.getD k []).getD i.toNatClampNeg 0 ∧ f x = some z := by
  unfold bA at h; split at h
  · rename_i q; exact ⟨q.1, q.2, _, rfl, h⟩
  · cases h
def scA {α : Type} (NL : Nat) (xs : Nat → Int32) (i : Int32) (f : Int32 → Option α) : Option α := if ¬ (i < 0 ∨ NL ≤ i.toNatClampNeg) then f (xs i.toNatClampNeg) else none
theorem scA_i {α : Type} {NL : Nat} {xs : Nat → Int32} {i : Int32} {f : Int32 → Option α} {z : α} (h : scA NL xs i f = some z) : ¬ (i < 0 ∨ NL ≤ i.toNatClampNeg) ∧ ∃ x, x = xs i.toNatClampNeg ∧ f x = some z := by
  unfold scA at h; split at h
  · exact ⟨by assumption, _, rfl, h⟩
  · cases h
theorem lg_gV (Γ : GT) (x y : Int32) : (lg_sl [.int x, .int y, gV Γ]).length ≤ 3 := by
  have h : gV Γ = .null ∨ gV Γ = .ref (gS Γ 19) := by unfold gV; split <;> simp
  rcases h with h | h <;> rw [h] <;> exact Nat.le_of_ble_eq_true rfl
section QT
variable {p : Program} {l : Launch} {e : Env} {R : Room} {s : State} {m : MethodId} {args : Array Value} {below : List Frame} {meth : Method} {c : Code} {Q : State → Prop}
variable {Γ : GT} {own : String} {cc : ByteArray} {nL kc ks pc pc' : Nat} {ret : Option FieldType} {L L' : List (Nat × Value)} {S : List Value} {M M' : QM}
theorem q_alen (cx : CX Γ p s m args meth c own cc nL ret) {a : Nat} {x : Int32} (ht : mt M a = 20) (hx : x = Int32.ofNat (ml M a)) (hd : decode cc pc = .ok (.arraylength, 1)) (hp : pc + 1 = pc') (k : EE p l e R s m args below meth c Q Γ nL kc ks pc' L (.int x :: S) M) : EE p l e R s m args below meth c Q Γ nL kc ks pc L (.ref a :: S) M := by
  subst hp; subst hx
  intro H locs ls h1 h2 h3
  exact W.alen (n := Int32.ofNat (ml M a)) cx.x cx.b (h1.arr ht (by decide) (by decide)).2 ((gTys_at 0 rfl cx.k).1 _ _) (by rw [arrV_size] <;> rfl) rfl rfl hd (k H locs ls h1 h2 h3)
theorem q_strV (cx : CX Γ p s m args meth c own cc nL ret) {index i : Nat} (hi : i < 8) (hlink : Cond.fieldLink own index "java/lang/String" "value" "[B" ∈ AW) (hd : decode cc pc = .ok (.getfield index, 3)) (hp : pc + 3 = pc') (k : EE p l e R s m args below meth c Q Γ nL kc ks pc' L (.ref (gS Γ (10 + i)) :: S) M) : EE p l e R s m args below meth c Q Γ nL kc ks pc L (.ref (gS Γ (2 + i)) :: S) M := by
  subst hp
  exact fun H locs ls h1 h2 h3 => vk_getf cx.x cx.b (cx.old.2.2.2.2.1 i hi).2.2.1 h2 cx.o (cx.w hlink) (fun _ h => h) hd (k H locs ls h1 h2 h3)
theorem q_strC (cx : CX Γ p s m args meth c own cc nL ret) {index i : Nat} (hi : i < 8) (hlink : Cond.fieldLink own index "java/lang/String" "coder" "B" ∈ AW) (hd : decode cc pc = .ok (.getfield index, 3)) (hp : pc + 3 = pc') (k : EE p l e R s m args below meth c Q Γ nL kc ks pc' L (.int 0 :: S) M) : EE p l e R s m args below meth c Q Γ nL kc ks pc L (.ref (gS Γ (2 + i)) :: S) M := by
  subst hp
  exact fun H locs ls h1 h2 h3 => vk_getf cx.x cx.b (cx.old.2.2.2.2.1 i hi).2.1 h2 cx.o (cx.w hlink) (fun _ h => h) hd (k H locs ls h1 h2 h3)
theorem q_strB (cx : CX Γ p s m args meth c own cc nL ret) {i : Nat} {j x : Int32} (hi : i < 8) (hj : ¬ (j < 0 ∨ sLen.getD i 0 ≤ j.toNatClampNeg)) (hx : x = (sByt.getD i []).getD j.toNatClampNeg 0) (hd : decode cc pc = .ok (.baload, 1)) (hp : pc + 1 = pc') (k : EE p l e R s m args below meth c Q Γ nL kc ks pc' L (.int x :: S) M) : EE p l e R s m args below meth c Q Γ nL kc ks pc L (.int j :: .ref (gS Γ (10 + i)) :: S) M := by
  subst hp; subst hx
  exact fun H locs ls h1 h2 h3 => va_tb cx.x cx.b (cx.old.2.2.2.2.1 i hi).2.2.2 h2 hj rfl hd (k H locs ls h1 h2 h3)
theorem q_strL (cx : CX Γ p s m args meth c own cc nL ret) {i : Nat} (hi : i < 8) (hd : decode cc pc = .ok (.arraylength, 1)) (hp : pc + 1 = pc') (k : EE p l e R s m args below meth c Q Γ nL kc ks pc' L (.int (nI (sLen.getD i 0)) :: S) M) : EE p l e R s m args below meth c Q Γ nL kc ks pc L (.ref (gS Γ (10 + i)) :: S) M := by
  subst hp
  exact fun H locs ls h1 h2 h3 => va_tlen cx.x cx.b (cx.old.2.2.2.2.1 i hi).2.2.2 h2 rfl hd (k H locs ls h1 h2 h3)
theorem q_getsCS (cx : CX Γ p s m args meth c own cc nL ret) {index : Nat} (hlink : Cond.fieldLink own index "java/lang/String" "COMPACT_STRINGS" "Z" ∈ AW) (hd : decode cc pc = .ok (.getstatic index, 3)) (hp : pc + 3 = pc') (k : EE p l e R s m args below meth c Q Γ nL kc ks pc' L (.int 1 :: S) M) : EE p l e R s m args below meth c Q Γ nL kc ks pc L S M := by
  subst hp
  exact fun H locs ls h1 h2 h3 => va_gets cx.x cx.b cx.old.2.2.2.1 h2 cx.o (cx.w hlink) (fun _ h => h) hd (k H locs ls h1 h2 h3)
theorem q_getsFm (cx : CX Γ p s m args meth c own cc nL ret) {index : Nat} (hlink : Cond.fieldLink own index "jdk/internal/util/Preconditions" "SIOOBE_FORMATTER" "Ljava/util/function/BiFunction;" ∈ AW) (hd : decode cc pc = .ok (.getstatic index, 3)) (hp : pc + 3 = pc') (k : EE p l e R s m args below meth c Q Γ nL kc ks pc' L (gV Γ :: S) M) : EE p l e R s m args below meth c Q Γ nL kc ks pc L S M := by
  subst hp
  exact fun H locs ls h1 h2 h3 => va_gets cx.x cx.b cx.old.1 h2 cx.o (cx.w hlink) (fun _ h => h) hd (k H locs ls h1 h2 h3)
theorem q_callStr (cx : CX Γ p s m args meth c own cc nL ret) {index i : Nat} {y : MethodName} {bytes : ByteArray} {maxL : Nat} {rt : Option FieldType} {rm : Room} {As : List Value} {v : Option Value} {M1 : QM} {S0 S1 : List Value} {kc' ks' : Nat} (hi : i < 8) (hC : CT Γ l y bytes maxL rt rm (.ref (gS Γ (2 + i)) :: As) M v M1) (lk : LKI y bytes maxL rt As.length) (lv : LKV y) (lc : LKC own index y) (hcn : y.cls = "java/lang/String") (hS0 : As.reverse ++ .ref (gS Γ (2 + i)) :: S = S0) (hS1 : v.toList ++ S = S1) (hcat : (S.map fun v => v.category).sum ≤ 8)
    (hroom : rm.frames + 1 ≤ R.frames ∧ 8 + (maxL + 11) + rm.locals ≤ R.locals) (hf : kc + rm.cells ≤ R.cells ∧ ks + rm.slots ≤ R.slots) (hd : decode cc pc = .ok (.invokevirtual index, 3)) (hp : pc + 3 = pc') (hk : kc + rm.cells = kc') (hs : ks + rm.slots = ks') (k : EE p l e R s m args below meth c Q Γ nL kc' ks' pc' L S1 M1) : EE p l e R s m args below meth c Q Γ nL kc ks pc L S0 M := by
  subst hp; subst hS0; subst hk; subst hs
  intro H locs ls h1 h2 h3
  obtain ⟨hcode, hini, hy, hlen⟩ := lk
  have hrec := vk_recv cx.old.2.2.2.2 hi h2
  rw [← hcn] at hrec
  have hpv : PreV s H y.cls (gS Γ (2 + i)) (fun a U => a = (Value.ref (gS Γ (2 + i)) :: As).toArray ∧ QPre Γ M U) As := ⟨q_blind, hrec, q_pre cx h1 h2 _⟩
  rcases lc with lc | ⟨host, lc⟩
  · exact q_after cx h2 h3 (va_runV (As := As) (rest := S) (Ts := AW) ⟨cx.x, cx.b, cx.ml, cx.o, fun w hw => cx.w hw⟩ hC ⟨⟨rfl, rfl, hroom.1, hroom.2, q_words cx hcode, List.mem_cons_self, cx.w hcode, cx.w hini, hy, q_len hlen, cx.w lc⟩, cx.w lv.1, cx.w lv.2⟩ hpv rfl rfl h3.1 rfl (lv_room hcat) hd hf) hS1 k
  · exact q_after cx h2 h3 (va_runVN (As := As) (rest := S) (Ts := AW) ⟨cx.x, cx.b, cx.ml, cx.o, fun w hw => cx.w hw⟩ hC ⟨⟨⟨rfl, rfl, hroom.1, hroom.2, q_words cx hcode, List.mem_cons_self⟩, cx.w hcode, cx.w hini, hy, q_len hlen, va_Nw.use rfl (cx.k.2.1 _ lc)⟩, cx.w lv.1, cx.w lv.2⟩ hpv rfl rfl h3.1 rfl (lv_room hcat) hd hf) hS1 k
end QT
