/-! the start: what the Statement gives, as tables, statics and texts; an empty memory -/
def QM0 (o : Nat) : QM := (o, fun _ => (99, 0), fun _ _ => 0, fun _ _ => 0, fun _ _ => none)
theorem st_arr {s : State} {args : Array Value} {ty : FieldType} (h : (Cond.arrayClass ty).before args s = true) (hp : ∀ C : String, ty ≠ .object C) : ∃ cA : ClassId, ArrOfT s cA ty ∧ va_RA s cA ty := by
  obtain ⟨c, k, comp, h1, h2, h3⟩ := Cond.arrayClass_spec h
  refine ⟨c, fun n z => ⟨fun k h => (by cases h), k, h2, comp, h3⟩, ?_⟩
  cases ty <;> first | exact h1 | exact absurd rfl (hp _)
theorem st_arrO {s : State} {args : Array Value} {C : String} (h : (Cond.arrayOver (.object C)).before args s = true) : ∃ cA : ClassId, ArrOfT s cA (.object C) ∧ va_RA s cA (.object C) := by
  obtain ⟨comp, c, k, h1, -, h3, h4, h5⟩ := Cond.arrayOver_spec h
  exact ⟨c, fun n z => ⟨fun k h => (by cases h), k, h3, comp, h4⟩, k, comp, h3, h4, h1, h5⟩
set_option maxHeartbeats 4000000 in
set_option maxRecDepth 100000 in
theorem whole_of_pure (HP : ∀ (o NL : Nat) (xs : Nat → Int32), NL ≤ 3072 → ∃ M' : QM, fn_L_law (QM0 o) NL xs = some (1, M')) {p : Program} {e : Env} {s : State} {m : MethodId} {below : List Frame} {meth : Method} {c : Code} (l : Launch) {b L : Nat} {xs : Nat → Int32} (hL : L ≤ 3072) (C0 : lw_At p s m meth c b L xs) : W p l e room_1 s m #[Value.ref b] below meth c s.heap [] 0 0 (lw_Z below #[Value.ref b] s) (entryFrame m ([Value.ref b] : List Value).toArray 4) := by
  obtain ⟨hx, hb, hr, hml, hown, hts, hX, hbl, hlocks, hgv⟩ := id C0
  have hgs := flat_of_before _ hgv
  have tw : ∀ {w : Cond}, w ∈ AW → w.before #[Value.ref b] s = true := fun h => hts _ (List.mem_filter.mp h).1
  -- the classes
  have hcl : ∀ k : Nat, ∃ q : ClassId × (Nat → Nat), ∀ r : vw_C, vwCl[k]? = some r → u_Kn s r.1 r.2.1 r.2.2 q.1 q.2 := by
    intro k
    by_cases hk : k < 10
    · obtain ⟨r, ty, hr1, hin, -⟩ := cl_all k hk
      have hin2 : ∃ n : Nat, Cond.instantiable r.1 n ∈ AW := by
        have h10 : ∀ j, j < 10 → ∃ q, vwCl[j]? = some q ∧ ∃ n : Nat, Cond.instantiable q.1 n ∈ AW := by
          intro j hj
          match j, hj with
          | 0, _ => exact ⟨_, rfl, 5, AW_in (List.mem_of_getElem? (i := 282) (by decide +kernel)) rfl⟩
          | 1, _ => exact ⟨_, rfl, 3, AW_in (List.mem_of_getElem? (i := 315) (by decide +kernel)) rfl⟩
          | 2, _ => exact ⟨_, rfl, 2, AW_in (List.mem_of_getElem? (i := 143) (by decide +kernel)) rfl⟩
          | 3, _ => exact ⟨_, rfl, 9, AW_in (List.mem_of_getElem? (i := 243) (by decide +kernel)) rfl⟩
          | 4, _ => exact ⟨_, rfl, 5, AW_in (List.mem_of_getElem? (i := 162) (by decide +kernel)) rfl⟩
          | 5, _ => exact ⟨_, rfl, 8, AW_in (List.mem_of_getElem? (i := 137) (by decide +kernel)) rfl⟩
          | 6, _ => exact ⟨_, rfl, 3, AW_in (List.mem_of_getElem? (i := 334) (by decide +kernel)) rfl⟩
          | 7, _ => exact ⟨_, rfl, 4, AW_in (List.mem_of_getElem? (i := 187) (by decide +kernel)) rfl⟩
          | 8, _ => exact ⟨_, rfl, 10, AW_in (List.mem_of_getElem? (i := 129) (by decide +kernel)) rfl⟩
          | 9, _ => exact ⟨_, rfl, 70, AW_in (List.mem_of_getElem? (i := 911) (by decide +kernel)) rfl⟩
        obtain ⟨q, hq, n, hn⟩ := h10 k hk
        cases hr1.symm.trans hq
        exact ⟨n, hn⟩
      obtain ⟨n, hn⟩ := hin2
      obtain ⟨cC, iS, hKn⟩ := u_known (C := r.1) (T := r.2.1) (N := r.2.2) (n := n) hts (fun w hw => (List.mem_filter.mp (hin w hw)).1) (tw hn)
      exact ⟨(cC, iS), fun r' hr' => by cases hr1.symm.trans hr'; exact hKn⟩
    · refine ⟨(0, fun _ => 0), fun r hr1 => ?_⟩
      have : vwCl[k]? = none := List.getElem?_eq_none (by show 10 ≤ k; omega)
      rw [this] at hr1; cases hr1
  obtain ⟨D, hD⟩ := Classical.axiomOfChoice hcl
  -- the array classes
  obtain ⟨c20, h20⟩ := st_arr (ty := .int) (tw (AW_in (List.mem_of_getElem? (i := 158) (by decide +kernel)) rfl)) (fun C h => by cases h)
  obtain ⟨c21, h21⟩ := st_arr (ty := .boolean) (tw (AW_in (List.mem_of_getElem? (i := 333) (by decide +kernel)) rfl)) (fun C h => by cases h)
  obtain ⟨c22, h22⟩ := st_arr (ty := .char) (tw (AW_in (List.mem_of_getElem? (i := 280) (by decide +kernel)) rfl)) (fun C h => by cases h)
  obtain ⟨c24, h24⟩ := st_arr (ty := .long) (tw (AW_in (List.mem_of_getElem? (i := 352) (by decide +kernel)) rfl)) (fun C h => by cases h)
  have o25 : (Cond.arrayOver (.object "BearMouse$Tape")).before #[Value.ref b] s = true := hts _ (List.mem_of_getElem? (i := 309) (by decide +kernel))
  have o26 : (Cond.arrayOver (.object "BearMouse$Walker")).before #[Value.ref b] s = true := hts _ (List.mem_of_getElem? (i := 160) (by decide +kernel))
  obtain ⟨c25, h25⟩ := st_arrO o25
  obtain ⟨c26, h26⟩ := st_arrO o26
  -- the statics
  have hA : ∀ a : Nat, a < s.heap.size → ¬ (s.heap.size ≤ a) := fun a h => Nat.not_le.mpr h
  have iBM : (Cond.initialized "BearMouse").before #[Value.ref b] s = true := tw (AW_in (List.mem_of_getElem? (i := 110) (by decide +kernel)) rfl)
  have iAc : (Cond.initialized "BearMouse$Acts").before #[Value.ref b] s = true := tw (AW_in (List.mem_of_getElem? (i := 116) (by decide +kernel)) rfl)
  obtain ⟨tk, etk, hTK⟩ := va_Tof (tm := .static "BearMouse" "KIND_ABOVE" "[I") (ty := .int) (N := 7) (f := fun j => .int (tKA.getD j 0)) (A := fun q => s.heap.size ≤ q) (by decide) (hgs _ (by decide +kernel)) (va_eqt (z := 7) (hgs _ (by decide +kernel))) (fun j hj => va_eqt (hgs _ ((by decide +kernel : ∀ j, j < 7 → Cond.eq (.elem (.static "BearMouse" "KIND_ABOVE" "[I") (.int (Int32.ofNat j))) (.int (tKA.getD j 0)) ∈ flatC (Jvm.Cond.and given_1 narrow_1)) j hj))) hA
  obtain ⟨tb, etb, hTB⟩ := va_Tof (tm := .static "BearMouse$Acts" "BODY_OF" "[I") (ty := .int) (N := 21) (f := fun j => .int (tBO.getD j 0)) (A := fun q => s.heap.size ≤ q) (by decide) (hgs _ (by decide +kernel)) (va_eqt (z := 21) (hgs _ (by decide +kernel))) (fun j hj => va_eqt (hgs _ ((by decide +kernel : ∀ j, j < 21 → Cond.eq (.elem (.static "BearMouse$Acts" "BODY_OF" "[I") (.int (Int32.ofNat j))) (.int (tBO.getD j 0)) ∈ flatC (Jvm.Cond.and given_1 narrow_1)) j hj))) hA
  have zk := va_Zof (A := fun q => s.heap.size ≤ q) (hts (.laysStatic "BearMouse" "KIND_ABOVE" "[I") (List.mem_of_getElem? (i := 862) (by decide +kernel))) iBM etk hA
  have zb' := va_Zof (A := fun q => s.heap.size ≤ q) (hts (.laysStatic "BearMouse$Acts" "BODY_OF" "[I") (List.mem_of_getElem? (i := 860) (by decide +kernel))) iAc etb hA
  have zc := va_Zof (v := .int 1) (A := fun q => s.heap.size ≤ q) (hts (.laysStatic "java/lang/String" "COMPACT_STRINGS" "Z") (List.mem_of_getElem? (i := 517) (by decide +kernel))) (hts (.initialized "java/lang/String") (List.mem_of_getElem? (i := 121) (by decide +kernel))) (va_eqi (hgs _ (by decide +kernel))) hA
  have zf := va_Zqof (A := fun q => s.heap.size ≤ q) (hts (.laysStatic "jdk/internal/util/Preconditions" "SIOOBE_FORMATTER" "Ljava/util/function/BiFunction;") (List.mem_of_getElem? (i := 533) (by decide +kernel))) (hts (.initialized "jdk/internal/util/Preconditions") (List.mem_of_getElem? (i := 123) (by decide +kernel))) (hgs _ (by decide +kernel)) hA
  -- the texts
  obtain ⟨adK, adV, hST, heK⟩ := vk_Sof (N := 8) (tm := fun i => .string "BearMouse$Reader" ((sKeys.getD i (0, "")).1)) (len := sLen) (byt := sByt) (A := fun q => s.heap.size ≤ q)
    (by decide) (fun i hi => hgs _ ((by decide +kernel : ∀ i, i < 8 → Cond.exactly (.string "BearMouse$Reader" ((sKeys.getD i (0, "")).1)) "java/lang/String" ∈ flatC (Jvm.Cond.and given_1 narrow_1)) i hi))
    (fun i hi => hgs _ ((by decide +kernel : ∀ i, i < 8 → Cond.eq (.field (.string "BearMouse$Reader" ((sKeys.getD i (0, "")).1)) "java/lang/String" "coder" "B") (.int 0) ∈ flatC (Jvm.Cond.and given_1 narrow_1)) i hi))
    (fun i hi => hgs _ ((by decide +kernel : ∀ i, i < 8 → Cond.arrayOf (.field (.string "BearMouse$Reader" ((sKeys.getD i (0, "")).1)) "java/lang/String" "value" "[B") .byte ∈ flatC (Jvm.Cond.and given_1 narrow_1)) i hi))
    (fun i hi => hgs _ ((by decide +kernel : ∀ i, i < 8 → Cond.eq (.length (.field (.string "BearMouse$Reader" ((sKeys.getD i (0, "")).1)) "java/lang/String" "value" "[B")) (.int (Int32.ofNat (sLen.getD i 0))) ∈ flatC (Jvm.Cond.and given_1 narrow_1)) i hi))
    (fun i hi j hj => hgs _ ((by decide +kernel : ∀ i, i < 8 → ∀ j, j < sLen.getD i 0 → Cond.eq (.elem (.field (.string "BearMouse$Reader" ((sKeys.getD i (0, "")).1)) "java/lang/String" "value" "[B") (.int (Int32.ofNat j))) (.int ((sByt.getD i []).getD j 0)) ∈ flatC (Jvm.Cond.and given_1 narrow_1)) i hi j hj))
    (fun i j hi hj hij => by
      rcases (by decide +kernel : ∀ i, i < 8 → ∀ j, j < 8 → i ≠ j → Cond.not (.eq (.string "BearMouse$Reader" ((sKeys.getD i (0, "")).1)) (.string "BearMouse$Reader" ((sKeys.getD j (0, "")).1))) ∈ flatC (Jvm.Cond.and given_1 narrow_1) ∨ Cond.not (.eq (.string "BearMouse$Reader" ((sKeys.getD j (0, "")).1)) (.string "BearMouse$Reader" ((sKeys.getD i (0, "")).1))) ∈ flatC (Jvm.Cond.and given_1 narrow_1)) i hi j hj hij with h | h
      · exact Or.inl (hgs _ h)
      · exact Or.inr (hgs _ h)) hA
  obtain ⟨f18, f19, hf⟩ : ∃ f18 f19 : Nat, va_Z "jdk/internal/util/Preconditions" "SIOOBE_FORMATTER" "Ljava/util/function/BiFunction;" (if f18 = 0 then .null else .ref f19) (fun q => s.heap.size ≤ q) s s.heap := by
    rcases zf with h | ⟨t, h⟩
    · exact ⟨0, 0, by rw [if_pos rfl]; exact h⟩
    · exact ⟨1, t, by rw [if_neg (by decide)]; exact h⟩
  obtain ⟨Γ, hΓ⟩ : ∃ Γ : GT, Γ = ((fun k => (D k).1, fun k => (D k).2), (fun t => if t = 20 then c20 else if t = 21 then c21 else if t = 22 then c22 else if t = 24 then c24 else if t = 25 then c25 else c26), (fun i => if i = 0 then tk else if i = 1 then tb else if i < 10 then adK (i - 2) else if i < 18 then adV (i - 10) else if i = 18 then f18 else f19), s.heap.size) := ⟨_, rfl⟩
  have hgo : go Γ = s.heap.size := by rw [hΓ]; rfl
  have hFr : gFr Γ = fun q => s.heap.size ≤ q := by unfold gFr; rw [hgo]
  have hSK : ∀ i, i < 8 → gS Γ (2 + i) = adK i := fun i hi => by
    rw [hΓ]
    show (if 2 + i = 0 then tk else if 2 + i = 1 then tb else if 2 + i < 10 then adK (2 + i - 2) else _) = _
    rw [if_neg (by omega), if_neg (by omega), if_pos (by omega)]
    congr 1; omega
  have hSV : ∀ i, i < 8 → gS Γ (10 + i) = adV i := fun i hi => by
    rw [hΓ]
    show (if 10 + i = 0 then tk else if 10 + i = 1 then tb else if 10 + i < 10 then adK (10 + i - 2) else if 10 + i < 18 then adV (10 + i - 10) else _) = _
    rw [if_neg (by omega), if_neg (by omega), if_neg (by omega), if_pos (by omega)]
    congr 1; omega
  have hVK : va_K (gD Γ) vwCl (gTys Γ) s := by
    rw [hΓ]
    refine ⟨fun k r hr1 => hD k r hr1, fun k q hk => ?_⟩
    match k, hk with
    | 0, hk => cases hk; exact h20
    | 1, hk => cases hk; exact h21
    | 2, hk => cases hk; exact h22
    | 3, hk => cases hk; exact h24
    | 4, hk => cases hk; exact h25
    | 5, hk => cases hk; exact h26
    | k + 6, hk => simp [gTys] at hk
  have hKK : KK Γ s := by
    refine ⟨hVK, fun w hw => va_Nw.of (isNestW_tab (List.mem_filter.mp hw).2) (hts w (List.mem_filter.mp hw).1), ⟨va_AO.of o25, va_AO.of o26⟩, fun i hi => ?_⟩
    rw [hSK i hi]
    refine vk_R.of (A := #[Value.ref b]) ?_ ?_
    · exact hts _ ((by decide +kernel : ∀ i, i < 8 → Cond.stringRef "BearMouse$Reader" (sKeys.getD i (0, "")).1 (sKeys.getD i (0, "")).2 ∈ lw_tbl) i hi)
    · exact heK i hi
  have hOO : OO Γ s s.heap := by
    refine ⟨?_, ⟨?_, ?_⟩, ⟨?_, ?_⟩, ?_, ?_⟩
    · rw [hFr]; have : gV Γ = (if f18 = 0 then .null else .ref f19) := by rw [hΓ]; rfl
      rw [this]; exact hf
    · rw [hFr]; have : gS Γ 0 = tk := by rw [hΓ]; rfl
      rw [this]; exact zk
    · rw [hFr]; have : gS Γ 0 = tk := by rw [hΓ]; rfl
      rw [this]; exact hTK
    · rw [hFr]; have : gS Γ 1 = tb := by rw [hΓ]; rfl
      rw [this]; exact zb'
    · rw [hFr]; have : gS Γ 1 = tb := by rw [hΓ]; rfl
      rw [this]; exact hTB
    · rw [hFr]; exact zc
    · rw [hFr]
      refine ⟨fun i hi => ?_, fun i j hi hj h => ?_⟩
      · dsimp only; rw [hSK i hi, hSV i hi]; exact hST.1 i hi
      · dsimp only at h; rw [hSK i hi, hSK j hj] at h; exact hST.2 i j hi hj h
  have hRM : RM Γ (QM0 s.heap.size) s.heap := ⟨by rw [hgo]; exact Nat.le_refl _, rfl, fun a h => absurd rfl h⟩
  obtain ⟨M', hM'⟩ := HP s.heap.size L xs hL
  have cx : CX Γ p s m #[Value.ref b] meth c RL code 4 ret := ⟨hx, hb, hml, hown, fun w hw => tw hw, hKK, hOO, hlocks, hr, by rw [hgo]; exact Nat.le_refl _⟩
  have hE := ct_L_law (e := e) (below := below) (args := #[Value.ref b]) (Q := lw_Z below #[Value.ref b] s) Γ l (xs := xs) ⟨hX, hbl, by rw [hFr]; exact Nat.not_le.mpr hbl⟩ (QM0 s.heap.size) 1 M' rfl rfl cx hgo rfl hM'
  rw [lg_entry_eq]
  exact hE s.heap [] _ hRM va_S.rf (lv_entry [.ref b] (n := 4) (Nat.le_of_ble_eq_true rfl))
