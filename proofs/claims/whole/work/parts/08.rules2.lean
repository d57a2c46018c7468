section QA
variable {p : Program} {l : Launch} {e : Env} {R : Room} {s : State} {m : MethodId} {args : Array Value} {below : List Frame} {meth : Method} {c : Code} {Q : State → Prop}
variable {Γ : GT} {own : String} {cc : ByteArray} {nL kc ks pc pc' : Nat} {ret : Option FieldType} {L L' : List (Nat × Value)} {S : List Value} {M M' : QM}
theorem RM.arr {H : Heap} {a t : Nat} (h : RM Γ M H) (ht : mt M a = t) (h16 : ¬ t < 16) (h99 : ¬ t = 99) : (go Γ ≤ a ∧ a < mz M) ∧ H[a]? = some (arrV (gA Γ t) (ml M a) (aval t M a)) := by
  obtain ⟨h1, h2⟩ := h.2.2 a (by omega)
  refine ⟨h1, ?_⟩
  have h3 := h2.2 (by omega)
  rw [ht] at h3
  exact h3
theorem gTys_at {t : Nat} (k : Nat) (hk : (gTys Γ)[k]? = some (gA Γ t, ety t)) (h : KK Γ s) : ArrOfT s (gA Γ t) (ety t) ∧ va_RA s (gA Γ t) (ety t) := h.1.2 k _ hk
theorem q_iald (cx : CX Γ p s m args meth c own cc nL ret) {a : Nat} {i : Int32} {x : Int32} (ht : mt M a = 20) (hi : ¬ (i < 0 ∨ ml M a ≤ i.toNatClampNeg)) (hx : x = mI M a i.toNatClampNeg) (hd : decode cc pc = .ok (.iaload, 1)) (hp : pc + 1 = pc') (k : EE p l e R s m args below meth c Q Γ nL kc ks pc' L (.int x :: S) M) : EE p l e R s m args below meth c Q Γ nL kc ks pc L (.int i :: .ref a :: S) M := by
  subst hp; subst hx
  intro H locs ls h1 h2 h3
  have hlt : i.toNatClampNeg < ml M a := Nat.not_le.mp fun q => hi (Or.inr q)
  exact W.iald cx.x cx.b (h1.arr ht (by decide) (by decide)).2 ((gTys_at 0 rfl cx.k).1 _ _) (fun q => by cases q) (by rw [arrV_size]; exact hi) (by rw [arrV_read _ _ hlt]; rfl) rfl rfl hd (k H locs ls h1 h2 h3)
theorem q_zald (cx : CX Γ p s m args meth c own cc nL ret) {a : Nat} {i : Int32} {x : Int32} (ht : mt M a = 21) (hi : ¬ (i < 0 ∨ ml M a ≤ i.toNatClampNeg)) (hx : x = mI M a i.toNatClampNeg) (hd : decode cc pc = .ok (.baload, 1)) (hp : pc + 1 = pc') (k : EE p l e R s m args below meth c Q Γ nL kc ks pc' L (.int x :: S) M) : EE p l e R s m args below meth c Q Γ nL kc ks pc L (.int i :: .ref a :: S) M := by
  subst hp; subst hx
  intro H locs ls h1 h2 h3
  have hlt : i.toNatClampNeg < ml M a := Nat.not_le.mp fun q => hi (Or.inr q)
  exact W.zald cx.x cx.b (h1.arr ht (by decide) (by decide)).2 ((gTys_at 1 rfl cx.k).1 _ _) (fun q => by cases q) (by rw [arrV_size]; exact hi) (by rw [arrV_read _ _ hlt]; rfl) rfl rfl hd (k H locs ls h1 h2 h3)
theorem q_cald (cx : CX Γ p s m args meth c own cc nL ret) {a : Nat} {i : Int32} {x : Int32} (ht : mt M a = 22) (hi : ¬ (i < 0 ∨ ml M a ≤ i.toNatClampNeg)) (hx : x = mI M a i.toNatClampNeg) (hd : decode cc pc = .ok (.caload, 1)) (hp : pc + 1 = pc') (k : EE p l e R s m args below meth c Q Γ nL kc ks pc' L (.int x :: S) M) : EE p l e R s m args below meth c Q Γ nL kc ks pc L (.int i :: .ref a :: S) M := by
  subst hp; subst hx
  intro H locs ls h1 h2 h3
  have hlt : i.toNatClampNeg < ml M a := Nat.not_le.mp fun q => hi (Or.inr q)
  exact W.cald cx.x cx.b (h1.arr ht (by decide) (by decide)).2 ((gTys_at 2 rfl cx.k).1 _ _) (fun q => by cases q) (by rw [arrV_size]; exact hi) (by rw [arrV_read _ _ hlt]; rfl) rfl rfl hd (k H locs ls h1 h2 h3)
theorem q_lald (cx : CX Γ p s m args meth c own cc nL ret) {a : Nat} {i : Int32} {x : Int64} (ht : mt M a = 24) (hi : ¬ (i < 0 ∨ ml M a ≤ i.toNatClampNeg)) (hx : x = mJ M a i.toNatClampNeg) (hd : decode cc pc = .ok (.laload, 1)) (hp : pc + 1 = pc') (k : EE p l e R s m args below meth c Q Γ nL kc ks pc' L (.long x :: S) M) : EE p l e R s m args below meth c Q Γ nL kc ks pc L (.int i :: .ref a :: S) M := by
  subst hp; subst hx
  intro H locs ls h1 h2 h3
  have hlt : i.toNatClampNeg < ml M a := Nat.not_le.mp fun q => hi (Or.inr q)
  exact W.lald cx.x cx.b (h1.arr ht (by decide) (by decide)).2 ((gTys_at 3 rfl cx.k).1 _ _) (fun q => by cases q) (by rw [arrV_size]; exact hi) (by rw [arrV_read _ _ hlt]; rfl) rfl rfl hd (k H locs ls h1 h2 h3)
theorem q_aald5 (cx : CX Γ p s m args meth c own cc nL ret) {a b : Nat} {i : Int32} (ht : mt M a = 25) (hi : ¬ (i < 0 ∨ ml M a ≤ i.toNatClampNeg)) (hx : mP M a i.toNatClampNeg = some b) (hd : decode cc pc = .ok (.aaload, 1)) (hp : pc + 1 = pc') (k : EE p l e R s m args below meth c Q Γ nL kc ks pc' L (.ref b :: S) M) : EE p l e R s m args below meth c Q Γ nL kc ks pc L (.int i :: .ref a :: S) M := by
  subst hp
  intro H locs ls h1 h2 h3
  have hlt : i.toNatClampNeg < ml M a := Nat.not_le.mp fun q => hi (Or.inr q)
  exact W.aald (ty := ety 25) cx.x cx.b (h1.arr ht (by decide) (by decide)).2 ((gTys_at 4 rfl cx.k).1 _ _) rfl (fun q => by cases q) (by rw [arrV_size]; exact hi) (by rw [arrV_read _ _ hlt, show aval 25 M a i.toNatClampNeg = va_rf (mP M a i.toNatClampNeg) from rfl, hx]; rfl) rfl rfl hd (k H locs ls h1 h2 h3)
theorem q_aald6 (cx : CX Γ p s m args meth c own cc nL ret) {a b : Nat} {i : Int32} (ht : mt M a = 26) (hi : ¬ (i < 0 ∨ ml M a ≤ i.toNatClampNeg)) (hx : mP M a i.toNatClampNeg = some b) (hd : decode cc pc = .ok (.aaload, 1)) (hp : pc + 1 = pc') (k : EE p l e R s m args below meth c Q Γ nL kc ks pc' L (.ref b :: S) M) : EE p l e R s m args below meth c Q Γ nL kc ks pc L (.int i :: .ref a :: S) M := by
  subst hp
  intro H locs ls h1 h2 h3
  have hlt : i.toNatClampNeg < ml M a := Nat.not_le.mp fun q => hi (Or.inr q)
  exact W.aald (ty := ety 26) cx.x cx.b (h1.arr ht (by decide) (by decide)).2 ((gTys_at 5 rfl cx.k).1 _ _) rfl (fun q => by cases q) (by rw [arrV_size]; exact hi) (by rw [arrV_read _ _ hlt, show aval 26 M a i.toNatClampNeg = va_rf (mP M a i.toNatClampNeg) from rfl, hx]; rfl) rfl rfl hd (k H locs ls h1 h2 h3)
theorem RM.ast {H H1 : Heap} {a t n : Nat} {v : Value} (h : RM Γ M H) (ht : mt M a = t) (h16 : ¬ t < 16) (h99 : ¬ t = 99) (e1 : H1[a]? = some ((arrV (gA Γ t) (ml M a) (aval t M a)).setSlot n v)) (e2 : H1.size = H.size) (e3 : ∀ q : Nat, q ≠ a → H1[q]? = H[q]?)
    (hz : mz M' = mz M) (hs : M'.2.1 = M.2.1) (ho : ∀ b, b ≠ a → cEq M M' b) (hv : ∀ j, aval t M' a j = if j = n then v else aval t M a j) : RM Γ M' H1 := by
  refine h.put hz hs ho e2 e3 fun _ => ?_
  have ht' : mt M' a = t := by unfold mt; rw [hs]; exact ht
  have hl' : ml M' a = ml M a := by unfold ml; rw [hs]
  unfold cOK
  rw [ht', hl']
  refine ⟨fun h => absurd h h16, fun _ => ?_⟩
  rw [e1, arrV_store]
  congr 2
  funext j
  rw [hv]
  rfl
theorem q_iast (cx : CX Γ p s m args meth c own cc nL ret) {a : Nat} {i : Int32} {x : Int32} (ht : mt M a = 20) (hi : ¬ (i < 0 ∨ ml M a ≤ i.toNatClampNeg)) (hM : M' = sI M a i.toNatClampNeg x) (hd : decode cc pc = .ok (.iastore, 1)) (hp : pc + 1 = pc') (k : EE p l e R s m args below meth c Q Γ nL kc ks pc' L S M') : EE p l e R s m args below meth c Q Γ nL kc ks pc L (.int x :: .int i :: .ref a :: S) M := by
  subst hp; subst hM
  intro H locs ls h1 h2 h3
  have hlt : i.toNatClampNeg < ml M a := Nat.not_le.mp fun q => hi (Or.inr q)
  have ha := h1.arr ht (by decide) (by decide)
  refine W.iast cx.x cx.b ha.2 ((gTys_at 0 rfl cx.k).1 _ _) (fun q => by cases q) (by rw [arrV_size]; exact hi) rfl rfl hd (fun H1 e1 e2 e3 => k H1 _ ls (h1.ast ht (by decide) (by decide) e1 e2 e3 rfl rfl (fun b hb => cEq_sI hb) (fun j => ?_)) (h2.put e2 e3 ha.1.1) h3)
  by_cases hj : j = i.toNatClampNeg
  · subst hj
    rw [if_pos rfl]
    exact congrArg Value.int (if_pos ⟨rfl, rfl⟩)
  · rw [if_neg hj]
    exact congrArg Value.int (if_neg fun q => hj q.2)
theorem q_zast (cx : CX Γ p s m args meth c own cc nL ret) {a : Nat} {i : Int32} {x : Int32} (ht : mt M a = 21) (hi : ¬ (i < 0 ∨ ml M a ≤ i.toNatClampNeg)) (hM : M' = sI M a i.toNatClampNeg (zb x)) (hd : decode cc pc = .ok (.bastore, 1)) (hp : pc + 1 = pc') (k : EE p l e R s m args below meth c Q Γ nL kc ks pc' L S M') : EE p l e R s m args below meth c Q Γ nL kc ks pc L (.int x :: .int i :: .ref a :: S) M := by
  subst hp; subst hM
  intro H locs ls h1 h2 h3
  have hlt : i.toNatClampNeg < ml M a := Nat.not_le.mp fun q => hi (Or.inr q)
  have ha := h1.arr ht (by decide) (by decide)
  refine W.zast cx.x cx.b ha.2 ((gTys_at 1 rfl cx.k).1 _ _) (fun q => by cases q) (by rw [arrV_size]; exact hi) rfl rfl hd (fun H1 e1 e2 e3 => k H1 _ ls (h1.ast ht (by decide) (by decide) e1 e2 e3 rfl rfl (fun b hb => cEq_sI hb) (fun j => ?_)) (h2.put e2 e3 ha.1.1) h3)
  by_cases hj : j = i.toNatClampNeg
  · subst hj
    rw [if_pos rfl]
    exact congrArg Value.int (if_pos ⟨rfl, rfl⟩)
  · rw [if_neg hj]
    exact congrArg Value.int (if_neg fun q => hj q.2)
theorem q_cast (cx : CX Γ p s m args meth c own cc nL ret) {a : Nat} {i : Int32} {x : Int32} (ht : mt M a = 22) (hi : ¬ (i < 0 ∨ ml M a ≤ i.toNatClampNeg)) (hM : M' = sI M a i.toNatClampNeg (i2ch x)) (hd : decode cc pc = .ok (.castore, 1)) (hp : pc + 1 = pc') (k : EE p l e R s m args below meth c Q Γ nL kc ks pc' L S M') : EE p l e R s m args below meth c Q Γ nL kc ks pc L (.int x :: .int i :: .ref a :: S) M := by
  subst hp; subst hM
  intro H locs ls h1 h2 h3
  have hlt : i.toNatClampNeg < ml M a := Nat.not_le.mp fun q => hi (Or.inr q)
  have ha := h1.arr ht (by decide) (by decide)
  refine W.cast cx.x cx.b ha.2 ((gTys_at 2 rfl cx.k).1 _ _) (fun q => by cases q) (by rw [arrV_size]; exact hi) rfl rfl hd (fun H1 e1 e2 e3 => k H1 _ ls (h1.ast ht (by decide) (by decide) e1 e2 e3 rfl rfl (fun b hb => cEq_sI hb) (fun j => ?_)) (h2.put e2 e3 ha.1.1) h3)
  by_cases hj : j = i.toNatClampNeg
  · subst hj
    rw [if_pos rfl]
    exact congrArg Value.int (if_pos ⟨rfl, rfl⟩)
  · rw [if_neg hj]
    exact congrArg Value.int (if_neg fun q => hj q.2)
theorem q_last (cx : CX Γ p s m args meth c own cc nL ret) {a : Nat} {i : Int32} {x : Int64} (ht : mt M a = 24) (hi : ¬ (i < 0 ∨ ml M a ≤ i.toNatClampNeg)) (hM : M' = sJ M a i.toNatClampNeg x) (hd : decode cc pc = .ok (.lastore, 1)) (hp : pc + 1 = pc') (k : EE p l e R s m args below meth c Q Γ nL kc ks pc' L S M') : EE p l e R s m args below meth c Q Γ nL kc ks pc L (.long x :: .int i :: .ref a :: S) M := by
  subst hp; subst hM
  intro H locs ls h1 h2 h3
  have hlt : i.toNatClampNeg < ml M a := Nat.not_le.mp fun q => hi (Or.inr q)
  have ha := h1.arr ht (by decide) (by decide)
  refine W.last cx.x cx.b ha.2 ((gTys_at 3 rfl cx.k).1 _ _) (fun q => by cases q) (by rw [arrV_size]; exact hi) rfl rfl hd (fun H1 e1 e2 e3 => k H1 _ ls (h1.ast ht (by decide) (by decide) e1 e2 e3 rfl rfl (fun b hb => cEq_sJ hb) (fun j => ?_)) (h2.put e2 e3 ha.1.1) h3)
  by_cases hj : j = i.toNatClampNeg
  · subst hj
    rw [if_pos rfl]
    exact congrArg Value.long (if_pos ⟨rfl, rfl⟩)
  · rw [if_neg hj]
    exact congrArg Value.long (if_neg fun q => hj q.2)
theorem q_aast5 (cx : CX Γ p s m args meth c own cc nL ret) {a b : Nat} {i : Int32} (ht : mt M a = 25) (hi : ¬ (i < 0 ∨ ml M a ≤ i.toNatClampNeg)) (hb : mt M b = 6) (hM : M' = sP M a i.toNatClampNeg (some b)) (hd : decode cc pc = .ok (.aastore, 1)) (hp : pc + 1 = pc') (k : EE p l e R s m args below meth c Q Γ nL kc ks pc' L S M') : EE p l e R s m args below meth c Q Γ nL kc ks pc L (.ref b :: .int i :: .ref a :: S) M := by
  subst hp; subst hM
  intro H locs ls h1 h2 h3
  have hlt : i.toNatClampNeg < ml M a := Nat.not_le.mp fun q => hi (Or.inr q)
  have h0 : ¬ i < 0 := fun q => hi (Or.inl q)
  have ha := h1.arr ht (by decide) (by decide)
  obtain ⟨r', hr', cellV, g1, g2, g3, -⟩ := (h1.2.2 b (by rw [hb]; decide)).2.1 (by rw [hb]; decide)
  rw [hb] at hr' g2
  obtain rfl : r' = (RX6, TX6, 3) := Option.some.inj (hr'.symm.trans rfl)
  have hcls := (cx.k.1.1 6 _ hr').2
  obtain ⟨kA, comp, k1, k2, k3, -⟩ := (gTys_at (Γ := Γ) (t := 25) 4 rfl cx.k).2
  have hcomp : comp = (gD Γ).1 6 := Option.some.inj (k3.symm.trans hcls.1)
  subst hcomp
  obtain ⟨kC, hkC, -⟩ := hcls.2
  refine W.aast cx.x cx.b ha.2 (fun q h => by cases h) (fun h => by cases h) k1 k2 rfl hkC ⟨h0, by rw [arrV_size]; exact hlt⟩ g1 (fun q h => by rw [g3] at h; cases h) (by rw [g2]; exact hkC) (by rw [g2]; exact va_assign hcls) rfl rfl hd (fun H1 e1 e2 e3 => k H1 _ ls (h1.ast ht (by decide) (by decide) e1 e2 e3 rfl rfl (fun b hb => cEq_sP hb) (fun j => ?_)) (h2.put e2 e3 ha.1.1) h3)
  by_cases hj : j = i.toNatClampNeg
  · subst hj
    rw [if_pos rfl]
    exact congrArg va_rf (if_pos ⟨rfl, rfl⟩)
  · rw [if_neg hj]
    exact congrArg va_rf (if_neg fun q => hj q.2)
theorem q_aast6 (cx : CX Γ p s m args meth c own cc nL ret) {a b : Nat} {i : Int32} (ht : mt M a = 26) (hi : ¬ (i < 0 ∨ ml M a ≤ i.toNatClampNeg)) (hb : mt M b = 7) (hM : M' = sP M a i.toNatClampNeg (some b)) (hd : decode cc pc = .ok (.aastore, 1)) (hp : pc + 1 = pc') (k : EE p l e R s m args below meth c Q Γ nL kc ks pc' L S M') : EE p l e R s m args below meth c Q Γ nL kc ks pc L (.ref b :: .int i :: .ref a :: S) M := by
  subst hp; subst hM
  intro H locs ls h1 h2 h3
  have hlt : i.toNatClampNeg < ml M a := Nat.not_le.mp fun q => hi (Or.inr q)
  have h0 : ¬ i < 0 := fun q => hi (Or.inl q)
  have ha := h1.arr ht (by decide) (by decide)
  obtain ⟨r', hr', cellV, g1, g2, g3, -⟩ := (h1.2.2 b (by rw [hb]; decide)).2.1 (by rw [hb]; decide)
  rw [hb] at hr' g2
  obtain rfl : r' = (RX7, TX7, 4) := Option.some.inj (hr'.symm.trans rfl)
  have hcls := (cx.k.1.1 7 _ hr').2
  obtain ⟨kA, comp, k1, k2, k3, -⟩ := (gTys_at (Γ := Γ) (t := 26) 5 rfl cx.k).2
  have hcomp : comp = (gD Γ).1 7 := Option.some.inj (k3.symm.trans hcls.1)
  subst hcomp
  obtain ⟨kC, hkC, -⟩ := hcls.2
  refine W.aast cx.x cx.b ha.2 (fun q h => by cases h) (fun h => by cases h) k1 k2 rfl hkC ⟨h0, by rw [arrV_size]; exact hlt⟩ g1 (fun q h => by rw [g3] at h; cases h) (by rw [g2]; exact hkC) (by rw [g2]; exact va_assign hcls) rfl rfl hd (fun H1 e1 e2 e3 => k H1 _ ls (h1.ast ht (by decide) (by decide) e1 e2 e3 rfl rfl (fun b hb => cEq_sP hb) (fun j => ?_)) (h2.put e2 e3 ha.1.1) h3)
  by_cases hj : j = i.toNatClampNeg
  · subst hj
    rw [if_pos rfl]
    exact congrArg va_rf (if_pos ⟨rfl, rfl⟩)
  · rw [if_neg hj]
    exact congrArg va_rf (if_neg fun q => hj q.2)
theorem q_new (cx : CX Γ p s m args meth c own cc nL ret) {index : Nat} (ci : Nat) {N : Nat} (hci : ci < 10) {r : vw_C} (hr : vwCl[ci]? = some r) (hN : r.2.2 = N) (hcl : Cond.classLink own index r.1 ∈ AW) (hinst : Cond.instantiable r.1 N ∈ AW) (hini : Cond.initialized r.1 ∈ AW) (hcells : kc + 1 ≤ R.cells) (hslots : ks + N ≤ R.slots) (hM : M' = nw M ci 0) (hd : decode cc pc = .ok (.new index, 3)) (hp : pc + 3 = pc') (k : EE p l e R s m args below meth c Q Γ nL (kc + 1) (ks + N) pc' L (.ref (mz M) :: S) M') : EE p l e R s m args below meth c Q Γ nL kc ks pc L S M := by
  subst hp; subst hM; subst hN
  obtain ⟨r', ty, hr', hin, hty, hnm, hdf, hdc⟩ := cl_all ci hci
  cases hr.symm.trans hr'
  intro H locs ls h1 h2 h3
  have hKn := cx.k.1.1 ci r hr
  have htt : mt (nw M ci 0) (mz M) = ci := congrArg Prod.fst (if_pos (rfl : mz M = mz M) : (if mz M = mz M then ((ci, 0) : Nat × Nat) else M.2.1 (mz M)) = (ci, 0))
  refine W.newcK cx.x cx.b cx.o (cx.w hcl) (cx.w hinst) (cx.w hini) rfl hd hcells hslots hKn.2.1 h1.2.1 fun H1 kC hkC e1 z1 o1 => ?_
  refine k H1 locs ls (h1.new z1 o1 ?_) ⟨Nat.le_trans h2.1 (by rw [z1, h1.2.1]; exact Nat.le_succ _), fun x g1 g2 => (o1 x (by have := h2.1; rw [h1.2.1] at this; omega)).trans (h2.2.1 x g1 g2), h2.2.2⟩ h3
  unfold cOK
  rw [htt]
  refine ⟨fun _ => ⟨r, hr, (u_born ty (fun w hw => cx.w (hin w hw)) (fun w hw => hw) hKn hkC e1 hty).to fun j hj => ?_⟩, fun h => absurd (show ci < 16 by omega) h⟩
  rw [hdf j hj]
  unfold vfld
  have e2 : mI (nw M ci 0) (mz M) j = 0 := if_pos rfl
  have e3 : mP (nw M ci 0) (mz M) j = none := if_pos rfl
  rw [e2, e3]
  rfl
theorem q_newI (cx : CX Γ p s m args meth c own cc nL ret) {x : Int32} {N : Nat} (ha : Cond.arrayClass (newarray.typeOf .int) ∈ AW) (hn : ¬ x < 0) (hN : x.toNatClampNeg = N) (hby : N * 8 ≤ 536870912) (hcells : kc + 1 ≤ R.cells) (hslots : ks + N ≤ R.slots) (hM : M' = nw M 20 N) (hd : decode cc pc = .ok (.newarray .int, 2)) (hp : pc + 2 = pc') (k : EE p l e R s m args below meth c Q Γ nL (kc + 1) (ks + N) pc' L (.ref (mz M) :: S) M') : EE p l e R s m args below meth c Q Γ nL kc ks pc L (.int x :: S) M := by
  subst hp; subst hM
  intro H locs ls h1 h2 h3
  have htt : (nw M 20 N).2.1 (mz M) = (20, N) := if_pos rfl
  refine va_newaK (atype := .int) cx.x cx.b (cx.w ha) rfl hd rfl hn hN (by show N * 4 ≤ _; omega) hcells hslots h1.2.1 fun H1 cA e1 z1 o1 hAr hNm => ?_
  have hcA : cA = gA Γ 20 := Option.some.inj (hNm.symm.trans (gTys_at (Γ := Γ) (t := 20) 0 rfl cx.k).2)
  subst hcA
  refine k H1 locs ls (h1.new z1 o1 ?_) ⟨Nat.le_trans h2.1 (by rw [z1, h1.2.1]; exact Nat.le_succ _), fun x g1 g2 => (o1 x (by have := h2.1; rw [h1.2.1] at this; omega)).trans (h2.2.1 x g1 g2), h2.2.2⟩ h3
  unfold cOK
  rw [show mt (nw M 20 N) (mz M) = 20 from congrArg Prod.fst htt, show ml (nw M 20 N) (mz M) = N from congrArg Prod.snd htt]
  refine ⟨fun h => absurd h (by decide), fun _ => ?_⟩
  rw [e1]
  congr 2
  funext j
  have e2 : mI (nw M 20 N) (mz M) j = 0 := if_pos rfl
  have e3 : mJ (nw M 20 N) (mz M) j = 0 := if_pos rfl
  show _ = Value.int (mI _ _ _)
  rw [e2]
  rfl
theorem q_newZ (cx : CX Γ p s m args meth c own cc nL ret) {x : Int32} {N : Nat} (ha : Cond.arrayClass (newarray.typeOf .boolean) ∈ AW) (hn : ¬ x < 0) (hN : x.toNatClampNeg = N) (hby : N * 8 ≤ 536870912) (hcells : kc + 1 ≤ R.cells) (hslots : ks + N ≤ R.slots) (hM : M' = nw M 21 N) (hd : decode cc pc = .ok (.newarray .boolean, 2)) (hp : pc + 2 = pc') (k : EE p l e R s m args below meth c Q Γ nL (kc + 1) (ks + N) pc' L (.ref (mz M) :: S) M') : EE p l e R s m args below meth c Q Γ nL kc ks pc L (.int x :: S) M := by
  subst hp; subst hM
  intro H locs ls h1 h2 h3
  have htt : (nw M 21 N).2.1 (mz M) = (21, N) := if_pos rfl
  refine va_newaK (atype := .boolean) cx.x cx.b (cx.w ha) rfl hd rfl hn hN (by show N * 1 ≤ _; omega) hcells hslots h1.2.1 fun H1 cA e1 z1 o1 hAr hNm => ?_
  have hcA : cA = gA Γ 21 := Option.some.inj (hNm.symm.trans (gTys_at (Γ := Γ) (t := 21) 1 rfl cx.k).2)
  subst hcA
  refine k H1 locs ls (h1.new z1 o1 ?_) ⟨Nat.le_trans h2.1 (by rw [z1, h1.2.1]; exact Nat.le_succ _), fun x g1 g2 => (o1 x (by have := h2.1; rw [h1.2.1] at this; omega)).trans (h2.2.1 x g1 g2), h2.2.2⟩ h3
  unfold cOK
  rw [show mt (nw M 21 N) (mz M) = 21 from congrArg Prod.fst htt, show ml (nw M 21 N) (mz M) = N from congrArg Prod.snd htt]
  refine ⟨fun h => absurd h (by decide), fun _ => ?_⟩
  rw [e1]
  congr 2
  funext j
  have e2 : mI (nw M 21 N) (mz M) j = 0 := if_pos rfl
  have e3 : mJ (nw M 21 N) (mz M) j = 0 := if_pos rfl
  show _ = Value.int (mI _ _ _)
  rw [e2]
  rfl
theorem q_newC (cx : CX Γ p s m args meth c own cc nL ret) {x : Int32} {N : Nat} (ha : Cond.arrayClass (newarray.typeOf .char) ∈ AW) (hn : ¬ x < 0) (hN : x.toNatClampNeg = N) (hby : N * 8 ≤ 536870912) (hcells : kc + 1 ≤ R.cells) (hslots : ks + N ≤ R.slots) (hM : M' = nw M 22 N) (hd : decode cc pc = .ok (.newarray .char, 2)) (hp : pc + 2 = pc') (k : EE p l e R s m args below meth c Q Γ nL (kc + 1) (ks + N) pc' L (.ref (mz M) :: S) M') : EE p l e R s m args below meth c Q Γ nL kc ks pc L (.int x :: S) M := by
  subst hp; subst hM
  intro H locs ls h1 h2 h3
  have htt : (nw M 22 N).2.1 (mz M) = (22, N) := if_pos rfl
  refine va_newaK (atype := .char) cx.x cx.b (cx.w ha) rfl hd rfl hn hN (by show N * 2 ≤ _; omega) hcells hslots h1.2.1 fun H1 cA e1 z1 o1 hAr hNm => ?_
  have hcA : cA = gA Γ 22 := Option.some.inj (hNm.symm.trans (gTys_at (Γ := Γ) (t := 22) 2 rfl cx.k).2)
  subst hcA
  refine k H1 locs ls (h1.new z1 o1 ?_) ⟨Nat.le_trans h2.1 (by rw [z1, h1.2.1]; exact Nat.le_succ _), fun x g1 g2 => (o1 x (by have := h2.1; rw [h1.2.1] at this; omega)).trans (h2.2.1 x g1 g2), h2.2.2⟩ h3
  unfold cOK
  rw [show mt (nw M 22 N) (mz M) = 22 from congrArg Prod.fst htt, show ml (nw M 22 N) (mz M) = N from congrArg Prod.snd htt]
  refine ⟨fun h => absurd h (by decide), fun _ => ?_⟩
  rw [e1]
  congr 2
  funext j
  have e2 : mI (nw M 22 N) (mz M) j = 0 := if_pos rfl
  have e3 : mJ (nw M 22 N) (mz M) j = 0 := if_pos rfl
  show _ = Value.int (mI _ _ _)
  rw [e2]
  rfl
theorem q_newJ (cx : CX Γ p s m args meth c own cc nL ret) {x : Int32} {N : Nat} (ha : Cond.arrayClass (newarray.typeOf .long) ∈ AW) (hn : ¬ x < 0) (hN : x.toNatClampNeg = N) (hby : N * 8 ≤ 536870912) (hcells : kc + 1 ≤ R.cells) (hslots : ks + N ≤ R.slots) (hM : M' = nw M 24 N) (hd : decode cc pc = .ok (.newarray .long, 2)) (hp : pc + 2 = pc') (k : EE p l e R s m args below meth c Q Γ nL (kc + 1) (ks + N) pc' L (.ref (mz M) :: S) M') : EE p l e R s m args below meth c Q Γ nL kc ks pc L (.int x :: S) M := by
  subst hp; subst hM
  intro H locs ls h1 h2 h3
  have htt : (nw M 24 N).2.1 (mz M) = (24, N) := if_pos rfl
  refine va_newaK (atype := .long) cx.x cx.b (cx.w ha) rfl hd rfl hn hN (by show N * 8 ≤ _; omega) hcells hslots h1.2.1 fun H1 cA e1 z1 o1 hAr hNm => ?_
  have hcA : cA = gA Γ 24 := Option.some.inj (hNm.symm.trans (gTys_at (Γ := Γ) (t := 24) 3 rfl cx.k).2)
  subst hcA
  refine k H1 locs ls (h1.new z1 o1 ?_) ⟨Nat.le_trans h2.1 (by rw [z1, h1.2.1]; exact Nat.le_succ _), fun x g1 g2 => (o1 x (by have := h2.1; rw [h1.2.1] at this; omega)).trans (h2.2.1 x g1 g2), h2.2.2⟩ h3
  unfold cOK
  rw [show mt (nw M 24 N) (mz M) = 24 from congrArg Prod.fst htt, show ml (nw M 24 N) (mz M) = N from congrArg Prod.snd htt]
  refine ⟨fun h => absurd h (by decide), fun _ => ?_⟩
  rw [e1]
  congr 2
  funext j
  have e2 : mI (nw M 24 N) (mz M) j = 0 := if_pos rfl
  have e3 : mJ (nw M 24 N) (mz M) j = 0 := if_pos rfl
  show _ = Value.long (mJ _ _ _)
  rw [e3]
  rfl
theorem q_newT (cx : CX Γ p s m args meth c own cc nL ret) {index : Nat} {x : Int32} {N : Nat} (hcl : Cond.classLink own index "BearMouse$Tape" ∈ AW) (hn : ¬ x < 0) (hN : x.toNatClampNeg = N) (hby : N * 8 ≤ 536870912) (hcells : kc + 1 ≤ R.cells) (hslots : ks + N ≤ R.slots) (hM : M' = nw M 25 N) (hd : decode cc pc = .ok (.anewarray index, 3)) (hp : pc + 3 = pc') (k : EE p l e R s m args below meth c Q Γ nL (kc + 1) (ks + N) pc' L (.ref (mz M) :: S) M') : EE p l e R s m args below meth c Q Γ nL kc ks pc L (.int x :: S) M := by
  subst hp; subst hM; subst hN
  intro H locs ls h1 h2 h3
  have htt : (nw M 25 x.toNatClampNeg).2.1 (mz M) = (25, x.toNatClampNeg) := if_pos rfl
  refine W.anew cx.x cx.b cx.o (cx.w hcl) (va_AO.use cx.k.2.2.1.1) rfl hd rfl hn (by omega) hcells hslots fun cA kA comp f1 f2 f3 f4 => ?_
  obtain ⟨kA2, comp2, k1, k2, k3, k4⟩ := (gTys_at (Γ := Γ) (t := 25) 4 rfl cx.k).2
  have hcA : cA = gA Γ 25 := Option.some.inj (f1.symm.trans k4)
  subst hcA
  generalize hH1 : H.push ({ cls := gA Γ 25, slots := Array.replicate x.toNatClampNeg .null, vm := .none } : Cell) = H1
  have z1 : H1.size = mz M + 1 := by rw [← hH1, Array.size_push, h1.2.1]
  have e1 : H1[mz M]? = some (arrV (gA Γ 25) x.toNatClampNeg (fun _ => .null)) := by rw [← hH1, ← h1.2.1, Array.getElem?_push_size, ← arrV_new]
  have o1 : ∀ q : Nat, q < mz M → H1[q]? = H[q]? := fun q hq => by rw [← hH1, Array.getElem?_push, if_neg (by rw [h1.2.1]; exact Nat.ne_of_lt hq)]
  have k' := k H1 locs ls (h1.new z1 o1 ?_) ⟨Nat.le_trans h2.1 (by rw [z1, h1.2.1]; exact Nat.le_succ _), fun x g1 g2 => (o1 x (by have := h2.1; rw [h1.2.1] at this; omega)).trans (h2.2.1 x g1 g2), h2.2.2⟩ h3
  · rw [← h1.2.1] at k'
    exact k'
  unfold cOK
  rw [show mt (nw M 25 x.toNatClampNeg) (mz M) = 25 from congrArg Prod.fst htt, show ml (nw M 25 x.toNatClampNeg) (mz M) = x.toNatClampNeg from congrArg Prod.snd htt]
  refine ⟨fun h => absurd h (by decide), fun _ => ?_⟩
  rw [e1]
  congr 2
  funext j
  have e2 : mP (nw M 25 x.toNatClampNeg) (mz M) j = none := if_pos rfl
  show _ = va_rf (mP _ _ _)
  rw [e2]
  rfl
theorem q_newW (cx : CX Γ p s m args meth c own cc nL ret) {index : Nat} {x : Int32} {N : Nat} (hcl : Cond.classLink own index "BearMouse$Walker" ∈ AW) (hn : ¬ x < 0) (hN : x.toNatClampNeg = N) (hby : N * 8 ≤ 536870912) (hcells : kc + 1 ≤ R.cells) (hslots : ks + N ≤ R.slots) (hM : M' = nw M 26 N) (hd : decode cc pc = .ok (.anewarray index, 3)) (hp : pc + 3 = pc') (k : EE p l e R s m args below meth c Q Γ nL (kc + 1) (ks + N) pc' L (.ref (mz M) :: S) M') : EE p l e R s m args below meth c Q Γ nL kc ks pc L (.int x :: S) M := by
  subst hp; subst hM; subst hN
  intro H locs ls h1 h2 h3
  have htt : (nw M 26 x.toNatClampNeg).2.1 (mz M) = (26, x.toNatClampNeg) := if_pos rfl
  refine W.anew cx.x cx.b cx.o (cx.w hcl) (va_AO.use cx.k.2.2.1.2) rfl hd rfl hn (by omega) hcells hslots fun cA kA comp f1 f2 f3 f4 => ?_
  obtain ⟨kA2, comp2, k1, k2, k3, k4⟩ := (gTys_at (Γ := Γ) (t := 26) 5 rfl cx.k).2
  have hcA : cA = gA Γ 26 := Option.some.inj (f1.symm.trans k4)
  subst hcA
  generalize hH1 : H.push ({ cls := gA Γ 26, slots := Array.replicate x.toNatClampNeg .null, vm := .none } : Cell) = H1
  have z1 : H1.size = mz M + 1 := by rw [← hH1, Array.size_push, h1.2.1]
  have e1 : H1[mz M]? = some (arrV (gA Γ 26) x.toNatClampNeg (fun _ => .null)) := by rw [← hH1, ← h1.2.1, Array.getElem?_push_size, ← arrV_new]
  have o1 : ∀ q : Nat, q < mz M → H1[q]? = H[q]? := fun q hq => by rw [← hH1, Array.getElem?_push, if_neg (by rw [h1.2.1]; exact Nat.ne_of_lt hq)]
  have k' := k H1 locs ls (h1.new z1 o1 ?_) ⟨Nat.le_trans h2.1 (by rw [z1, h1.2.1]; exact Nat.le_succ _), fun x g1 g2 => (o1 x (by have := h2.1; rw [h1.2.1] at this; omega)).trans (h2.2.1 x g1 g2), h2.2.2⟩ h3
  · rw [← h1.2.1] at k'
    exact k'
  unfold cOK
  rw [show mt (nw M 26 x.toNatClampNeg) (mz M) = 26 from congrArg Prod.fst htt, show ml (nw M 26 x.toNatClampNeg) (mz M) = x.toNatClampNeg from congrArg Prod.snd htt]
  refine ⟨fun h => absurd h (by decide), fun _ => ?_⟩
  rw [e1]
  congr 2
  funext j
  have e2 : mP (nw M 26 x.toNatClampNeg) (mz M) j = none := if_pos rfl
  show _ = va_rf (mP _ _ _)
  rw [e2]
  rfl
end QA
