/-! ===== MEMORY: all cells that the law makes, as typed functions of the address ===== -/
abbrev QM : Type := Nat × (Nat → Nat × Nat) × (Nat → Nat → Int32) × (Nat → Nat → Int64) × (Nat → Nat → Option Nat)
def mz (M : QM) : Nat := M.1
def mt (M : QM) (a : Nat) : Nat := (M.2.1 a).1
def ml (M : QM) (a : Nat) : Nat := (M.2.1 a).2
def mI (M : QM) (a k : Nat) : Int32 := M.2.2.1 a k
def mJ (M : QM) (a k : Nat) : Int64 := M.2.2.2.1 a k
def mP (M : QM) (a k : Nat) : Option Nat := M.2.2.2.2 a k
def u2 {α : Type} (f : Nat → Nat → α) (a k : Nat) (v : α) : Nat → Nat → α := fun b j => if b = a ∧ j = k then v else f b j
def ur {α : Type} (f : Nat → Nat → α) (a : Nat) (r : Nat → α) : Nat → Nat → α := fun b j => if b = a then r j else f b j
def sI (M : QM) (a k : Nat) (v : Int32) : QM := (M.1, M.2.1, u2 M.2.2.1 a k v, M.2.2.2.1, M.2.2.2.2)
def sJ (M : QM) (a k : Nat) (v : Int64) : QM := (M.1, M.2.1, M.2.2.1, u2 M.2.2.2.1 a k v, M.2.2.2.2)
def sP (M : QM) (a k : Nat) (v : Option Nat) : QM := (M.1, M.2.1, M.2.2.1, M.2.2.2.1, u2 M.2.2.2.2 a k v)
def rI (M : QM) (a : Nat) (r : Nat → Int32) : QM := (M.1, M.2.1, ur M.2.2.1 a r, M.2.2.2.1, M.2.2.2.2)
def rJ (M : QM) (a : Nat) (r : Nat → Int64) : QM := (M.1, M.2.1, M.2.2.1, ur M.2.2.2.1 a r, M.2.2.2.2)
def nw (M : QM) (t n : Nat) : QM := (M.1 + 1, (fun b => if b = M.1 then (t, n) else M.2.1 b), (fun b k => if b = M.1 then 0 else M.2.2.1 b k), (fun b k => if b = M.1 then 0 else M.2.2.2.1 b k), (fun b k => if b = M.1 then none else M.2.2.2.2 b k))
/-- which fields of which class are references -/
def KDs : List (List Bool) := [[true, false, false, false, false], [true, false, false], [true, false], [true, false, false, false, false, false, true, false, false], [false, true, true, true, false], [true, true, false, false, true, true, true, true], [false, false, true], [false, false, false, true], [true, true, false, false, true, true, true, true, true, true], [false, false, true, true, true, true, true, false, false, false, false, false, true, true, true, true, true, true, true, true, false, false, false, true, true, false, true, true, true, false, false, true, true, false, true, true, true, true, false, false, true, true, true, true, false, false, false, false, false, false, false, false, true, true, true, true, true, true, true, true, true, true, true, true, false, true, true, true, true, true]]
def KD (c k : Nat) : Bool := (KDs.getD c []).getD k false
def vfld (c : Nat) (M : QM) (a k : Nat) : Value := if KD c k = true then va_rf (mP M a k) else .int (mI M a k)
def aval (t : Nat) (M : QM) (a j : Nat) : Value := if t = 24 then .long (mJ M a j) else if t = 25 ∨ t = 26 then va_rf (mP M a j) else .int (mI M a j)
def ety (t : Nat) : FieldType := if t = 20 then .int else if t = 21 then .boolean else if t = 22 then .char else if t = 24 then .long else if t = 25 then .object "BearMouse$Tape" else .object "BearMouse$Walker"
abbrev GT : Type := va_G × (Nat → ClassId) × (Nat → Nat) × Nat
def gD (Γ : GT) : va_G := Γ.1
def gA (Γ : GT) : Nat → ClassId := Γ.2.1
def gS (Γ : GT) : Nat → Nat := Γ.2.2.1
def go (Γ : GT) : Nat := Γ.2.2.2
/-- a cell of the memory, in the heap -/
def cOK (Γ : GT) (M : QM) (H : Heap) (a : Nat) : Prop := (mt M a < 16 → ∃ r : vw_C, vwCl[mt M a]? = some r ∧ t_OB a ((gD Γ).1 (mt M a)) r.2.2 ((gD Γ).2 (mt M a)) H (vfld (mt M a) M a)) ∧ (¬ mt M a < 16 → H[a]? = some (arrV (gA Γ (mt M a)) (ml M a) (aval (mt M a) M a)))
/-- the memory, in the heap: all from the base on -/
def RM (Γ : GT) (M : QM) (H : Heap) : Prop := go Γ ≤ mz M ∧ H.size = mz M ∧ ∀ a, ¬ mt M a = 99 → (go Γ ≤ a ∧ a < mz M) ∧ cOK Γ M H a
abbrev gFr (Γ : GT) : Nat → Prop := fun q => go Γ ≤ q
def gTys (Γ : GT) : List (ClassId × FieldType) := [(gA Γ 20, ety 20), (gA Γ 21, ety 21), (gA Γ 22, ety 22), (gA Γ 24, ety 24), (gA Γ 25, ety 25), (gA Γ 26, ety 26)]
/-! the words -/
def isNestW : Cond → Bool
  | .fieldLinkNest _ _ _ _ _ _ => true
  | .methodLinkNest _ _ _ _ => true
  | _ => false
theorem isNestW_warm {w : Cond} (h : isNestW w = true) {s U : State} (hW : s.WarmedH U.vm) (hz : va_Nw w s) : va_Nw w U := by
  cases w <;> first | exact va_Nw.warmF hW hz | exact va_Nw.warmM hW hz | cases h
theorem isNestW_tab {w : Cond} (h : isNestW w = true) : w.onTables = true := by
  cases w <;> first | rfl | cases h
def AW : List Cond := lw_tbl.filter goodWord
def NW : List Cond := lw_tbl.filter isNestW
theorem AW_in {w : Cond} (h1 : w ∈ lw_tbl) (h2 : goodWord w = true) : w ∈ AW := List.mem_filter.mpr ⟨h1, h2⟩
theorem NW_in {w : Cond} (h1 : w ∈ lw_tbl) (h2 : isNestW w = true) : w ∈ NW := List.mem_filter.mpr ⟨h1, h2⟩
theorem AW_good : GoodIn AW AW := fun w h => ⟨h, good_of_word (List.mem_filter.mp h).2⟩
theorem inA0 : ∀ w ∈ wsX00, w ∈ AW := fun w h => AW_in (inX0 w h) (List.all_eq_true.mp (by decide +kernel : wsX00.all goodWord = true) w h)
theorem inA1 : ∀ w ∈ wsX10, w ∈ AW := fun w h => AW_in (inX1 w h) (List.all_eq_true.mp (by decide +kernel : wsX10.all goodWord = true) w h)
theorem inA2 : ∀ w ∈ wsX20, w ∈ AW := fun w h => AW_in (inX2 w h) (List.all_eq_true.mp (by decide +kernel : wsX20.all goodWord = true) w h)
theorem inA3 : ∀ w ∈ wsX30, w ∈ AW := fun w h => AW_in (inX3 w h) (List.all_eq_true.mp (by decide +kernel : wsX30.all goodWord = true) w h)
theorem inA4 : ∀ w ∈ wsX40, w ∈ AW := fun w h => AW_in (inX4 w h) (List.all_eq_true.mp (by decide +kernel : wsX40.all goodWord = true) w h)
theorem inA5 : ∀ w ∈ wsX50, w ∈ AW := fun w h => AW_in (inX5 w h) (List.all_eq_true.mp (by decide +kernel : wsX50.all goodWord = true) w h)
theorem inA6 : ∀ w ∈ wsX60, w ∈ AW := fun w h => AW_in (inX6 w h) (List.all_eq_true.mp (by decide +kernel : wsX60.all goodWord = true) w h)
theorem inA7 : ∀ w ∈ wsX70, w ∈ AW := fun w h => AW_in (inX7 w h) (List.all_eq_true.mp (by decide +kernel : wsX70.all goodWord = true) w h)
theorem inA8 : ∀ w ∈ wsX80, w ∈ AW := fun w h => AW_in (inX8 w h) (List.all_eq_true.mp (by decide +kernel : wsX80.all goodWord = true) w h)
theorem inA9 : ∀ w ∈ wsX90, w ∈ AW := fun w h => AW_in (inX9 w h) (List.all_eq_true.mp (by decide +kernel : wsX90.all goodWord = true) w h)
/-! what is known of the tables, of the statics and of the String constants -/
def sKeys : List (Nat × String) := [(49, "poon "), (59, "ilk "), (61, "thi"), (63, " "), (65, "ck "), (75, ")"), (80, "crxsbm"), (86, "<=>")]
def sLen : List Nat := [5, 4, 3, 1, 3, 1, 6, 3]
def sByt : List (List Int32) := [[112, 111, 111, 110, 32], [105, 108, 107, 32], [116, 104, 105], [32], [99, 107, 32], [41], [99, 114, 120, 115, 98, 109], [60, 61, 62]]
def tKA : List Int32 := [-1, 0, 0, 0, 1, 2, 3]
def tBO : List Int32 := [10, 11, 12, -1, 20, -1, 30, -1, -1, -1, -1, 40, 50, 51, -1, -1, -1, 60, 71, 70, -1]
def KK (Γ : GT) (U : State) : Prop := va_K (gD Γ) vwCl (gTys Γ) U ∧ (∀ w ∈ NW, va_Nw w U) ∧ (va_AO "BearMouse$Tape" U ∧ va_AO "BearMouse$Walker" U) ∧ ∀ i : Nat, i < 8 → vk_R "BearMouse$Reader" (sKeys.getD i (0, "")).1 (sKeys.getD i (0, "")).2 (gS Γ (2 + i)) U
theorem KK.warm {Γ : GT} {s U : State} (hW : s.WarmedH U.vm) (h : KK Γ s) : KK Γ U :=
  ⟨h.1.moved hW.alike, fun w hw => isNestW_warm (List.mem_filter.mp hw).2 hW (h.2.1 w hw), ⟨h.2.2.1.1.moved hW.alike, h.2.2.1.2.moved hW.alike⟩, fun i hi => vk_R.warm hW (h.2.2.2 i hi)⟩
theorem KK.same {Γ : GT} {u U : State} (hv : U.vm = u.vm) (h : KK Γ u) : KK Γ U :=
  ⟨h.1.moved (by rw [hv]; exact Vm.Alike.refl _), fun w hw => va_Nw.same (isNestW_tab (List.mem_filter.mp hw).2) hv.symm (h.2.1 w hw), ⟨h.2.2.1.1.moved (by rw [hv]; exact Vm.Alike.refl _), h.2.2.1.2.moved (by rw [hv]; exact Vm.Alike.refl _)⟩, fun i hi => vk_R.same hv (h.2.2.2 i hi)⟩
/-- what the JDK's formatter static holds: nobody asks which -/
def gV (Γ : GT) : Value := if gS Γ 18 = 0 then .null else .ref (gS Γ 19)
theorem gV_cat (Γ : GT) : (gV Γ).category = 1 := by unfold gV; split <;> rfl
def OO (Γ : GT) (U : State) (H : Heap) : Prop := va_Z "jdk/internal/util/Preconditions" "SIOOBE_FORMATTER" "Ljava/util/function/BiFunction;" (gV Γ) (gFr Γ) U H ∧ (va_Z "BearMouse" "KIND_ABOVE" "[I" (.ref (gS Γ 0)) (gFr Γ) U H ∧ va_T .int (gS Γ 0) 7 (fun j => .int (tKA.getD j 0)) (gFr Γ) U H) ∧ (va_Z "BearMouse$Acts" "BODY_OF" "[I" (.ref (gS Γ 1)) (gFr Γ) U H ∧ va_T .int (gS Γ 1) 21 (fun j => .int (tBO.getD j 0)) (gFr Γ) U H) ∧ va_Z "java/lang/String" "COMPACT_STRINGS" "Z" (.int 1) (gFr Γ) U H ∧ vk_S 8 sLen sByt (fun i => gS Γ (2 + i)) (fun i => gS Γ (10 + i)) (gFr Γ) U H
theorem OO.moved {Γ : GT} {u U : State} {H : Heap} (hvm : u.vm.Alike U.vm) (h : OO Γ u H) : OO Γ U H :=
  ⟨h.1.moved hvm, ⟨h.2.1.1.moved hvm, h.2.1.2.moved hvm⟩, ⟨h.2.2.1.1.moved hvm, h.2.2.1.2.moved hvm⟩, h.2.2.2.1.moved hvm, h.2.2.2.2.moved hvm⟩
theorem OO.kept {Γ : GT} {U : State} {H H1 : Heap} (h : OO Γ U H) (hq : ∀ a : Nat, a < H.size → ¬ gFr Γ a → H1[a]? = H[a]?) : OO Γ U H1 :=
  ⟨h.1.kept hq, ⟨h.2.1.1.kept hq, h.2.1.2.kept hq⟩, ⟨h.2.2.1.1.kept hq, h.2.2.1.2.kept hq⟩, h.2.2.2.1.kept hq, h.2.2.2.2.kept hq⟩
/-! how a memory's cell is kept and changed -/
theorem cOK.kept {Γ : GT} {M : QM} {H H1 : Heap} {a : Nat} (h : cOK Γ M H a) (h1 : H1[a]? = H[a]?) : cOK Γ M H1 a := by
  refine ⟨fun ht => ?_, fun ht => ?_⟩
  · obtain ⟨r, e, q⟩ := h.1 ht
    exact ⟨r, e, q.kept h1⟩
  · rw [h1]; exact h.2 ht
/-- two memories that are alike at a cell -/
def cEq (M M' : QM) (a : Nat) : Prop := M'.2.1 a = M.2.1 a ∧ (∀ k, mI M' a k = mI M a k) ∧ (∀ k, mJ M' a k = mJ M a k) ∧ ∀ k, mP M' a k = mP M a k
theorem cEq_mt {M M' : QM} {a : Nat} (h : cEq M M' a) : mt M' a = mt M a := by unfold mt; rw [h.1]
theorem cEq_ml {M M' : QM} {a : Nat} (h : cEq M M' a) : ml M' a = ml M a := by unfold ml; rw [h.1]
theorem cOK.eqv {Γ : GT} {M M' : QM} {H : Heap} {a : Nat} (h : cOK Γ M H a) (e : cEq M M' a) : cOK Γ M' H a := by
  have hv : ∀ c, vfld c M' a = vfld c M a := fun c => funext fun k => by unfold vfld; rw [e.2.1 k, e.2.2.2 k]
  have ha : ∀ t, aval t M' a = aval t M a := fun t => funext fun k => by unfold aval; rw [e.2.1 k, e.2.2.1 k, e.2.2.2 k]
  unfold cOK at h ⊢
  rw [cEq_mt e, cEq_ml e, hv, ha]
  exact h
/-- one cell changes -/
theorem RM.put {Γ : GT} {M M' : QM} {H H1 : Heap} {a : Nat} (h : RM Γ M H) (hz : mz M' = mz M) (hs : M'.2.1 = M.2.1) (ho : ∀ b, b ≠ a → cEq M M' b) (e2 : H1.size = H.size) (e3 : ∀ q : Nat, q ≠ a → H1[q]? = H[q]?) (hc : ¬ mt M a = 99 → cOK Γ M' H1 a) : RM Γ M' H1 := by
  have ht : ∀ b, mt M' b = mt M b := fun b => by unfold mt; rw [hs]
  refine ⟨by rw [hz]; exact h.1, by rw [e2, hz]; exact h.2.1, fun b hb => ?_⟩
  rw [ht] at hb
  obtain ⟨h1, h2⟩ := h.2.2 b hb
  refine ⟨by rw [hz]; exact h1, ?_⟩
  by_cases hba : b = a
  · subst hba; exact hc hb
  · exact (h2.eqv (ho b hba)).kept (e3 b hba)
theorem cEq_sI {M : QM} {a k : Nat} {v : Int32} {b : Nat} (h : b ≠ a) : cEq M (sI M a k v) b := ⟨rfl, fun j => if_neg fun q => h q.1, fun _ => rfl, fun _ => rfl⟩
theorem cEq_sJ {M : QM} {a k : Nat} {v : Int64} {b : Nat} (h : b ≠ a) : cEq M (sJ M a k v) b := ⟨rfl, fun _ => rfl, fun j => if_neg fun q => h q.1, fun _ => rfl⟩
theorem cEq_sP {M : QM} {a k : Nat} {v : Option Nat} {b : Nat} (h : b ≠ a) : cEq M (sP M a k v) b := ⟨rfl, fun _ => rfl, fun _ => rfl, fun j => if_neg fun q => h q.1⟩
theorem cEq_rI {M : QM} {a : Nat} {r : Nat → Int32} {b : Nat} (h : b ≠ a) : cEq M (rI M a r) b := ⟨rfl, fun j => if_neg h, fun _ => rfl, fun _ => rfl⟩
theorem cEq_rJ {M : QM} {a : Nat} {r : Nat → Int64} {b : Nat} (h : b ≠ a) : cEq M (rJ M a r) b := ⟨rfl, fun _ => rfl, fun j => if_neg h, fun _ => rfl⟩
/-- a cell is made -/
theorem RM.new {Γ : GT} {M : QM} {H H1 : Heap} {t n : Nat} (h : RM Γ M H) (e2 : H1.size = mz M + 1) (e3 : ∀ q : Nat, q < mz M → H1[q]? = H[q]?) (hc : cOK Γ (nw M t n) H1 (mz M)) : RM Γ (nw M t n) H1 := by
  have hm : mz (nw M t n) = mz M + 1 := rfl
  refine ⟨by rw [hm]; exact Nat.le_succ_of_le h.1, by rw [hm]; exact e2, fun b hb => ?_⟩
  by_cases hbz : b = mz M
  · subst hbz
    exact ⟨⟨h.1, by rw [hm]; exact Nat.lt_succ_self _⟩, hc⟩
  · have hE : cEq M (nw M t n) b := ⟨if_neg hbz, fun k => if_neg hbz, fun k => if_neg hbz, fun k => if_neg hbz⟩
    rw [cEq_mt hE] at hb
    obtain ⟨h1, h2⟩ := h.2.2 b hb
    exact ⟨⟨h1.1, by rw [hm]; omega⟩, (h2.eqv hE).kept (e3 b h1.2)⟩
/-- the field access 'index' of class own is the field k of class ci -/
def FLk (own : String) (index ci k : Nat) : Prop := ci < 10 ∧ ∃ r : vw_C, vwCl[ci]? = some r ∧ k < r.2.2 ∧ (Cond.fieldLink own index r.1 (r.2.1 k).2.1 (r.2.1 k).2.2.1 ∈ AW ∨ ∃ host : String, Cond.fieldLinkNest own index r.1 (r.2.1 k).2.1 (r.2.1 k).2.2.1 host ∈ NW)
/-- what the tables say of a method, and of the call of it at an entry of own's pool -/
def LKI (y : MethodName) (cc : ByteArray) (maxL : Nat) (ret : Option FieldType) (n : Nat) : Prop := Cond.code y cc maxL ret ∈ AW ∧ Cond.initialized y.cls ∈ AW ∧ (y.cls ≠ "java/lang/invoke/MethodHandle" ∧ y.cls ≠ "java/lang/invoke/VarHandle") ∧ (parseMethodDescriptor y.desc).map (fun d => d.parameters.length) = some n
def LKV (y : MethodName) : Prop := Cond.instanceMethod y ∈ AW ∧ Cond.selects y.cls y y ∈ AW
def LKC (own : String) (index : Nat) (y : MethodName) : Prop := Cond.methodLink own index y ∈ AW ∨ ∃ host : String, Cond.methodLinkNest own index y host ∈ NW
