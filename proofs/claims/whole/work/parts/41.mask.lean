/-! ===== sets of cells as bits ===== -/
def bt (x : Int32) (i : Nat) : Bool := x.toBitVec.getLsbD i
theorem bt_ext {x y : Int32} (h : ∀ i, i < 32 → bt x i = bt y i) : x = y :=
  Int32.toBitVec_inj.mp (BitVec.eq_of_getLsbD_eq (fun i hi => h i hi))
theorem bt_or (x y : Int32) (i : Nat) : bt (x ||| y) i = (bt x i || bt y i) := by
  unfold bt; rw [Int32.toBitVec_or, BitVec.getLsbD_or]
theorem bt_and (x y : Int32) (i : Nat) : bt (x &&& y) i = (bt x i && bt y i) := by
  unfold bt; rw [Int32.toBitVec_and, BitVec.getLsbD_and]
theorem bt_xor (x y : Int32) (i : Nat) : bt (x ^^^ y) i = (bt x i ^^ bt y i) := by
  unfold bt; rw [Int32.toBitVec_xor, BitVec.getLsbD_xor]
theorem bt_one : ∀ n, n < 32 → ∀ i, i < 32 → bt ((1 : Int32) <<< (nI n &&& 31)) i = decide (i = n) := by decide +kernel
theorem bt_m1 : ∀ i, i < 32 → bt (-1) i = true := by decide +kernel
theorem bt_zero : ∀ i, i < 32 → bt 0 i = false := by decide +kernel
theorem bt_shl {x : Int32} (k : Int32) (m : Nat) (hm : k.toBitVec.smod 32 = BitVec.ofNat 32 m) (hm2 : m < 32) (i : Nat) : bt (x <<< k) i = (decide (i < 32) && (!decide (i < m) && bt x (i - m))) := by
  unfold bt
  rw [Int32.toBitVec_shiftLeft, hm, BitVec.shiftLeft_eq', BitVec.getLsbD_shiftLeft, BitVec.toNat_ofNat, Nat.mod_eq_of_lt (by omega), Bool.and_assoc]
theorem bt_ushr {x : Int32} (k : Int32) (m : Nat) (hm : (k.toUInt32 &&& Int32.toUInt32 31).toBitVec % 32 = BitVec.ofNat 32 m) (hm2 : m < 32) (i : Nat) : bt (ushr x k) i = bt x (m + i) := by
  show (x.toUInt32 >>> (k.toUInt32 &&& Int32.toUInt32 31)).toBitVec.getLsbD i = x.toBitVec.getLsbD (m + i)
  rw [UInt32.toBitVec_shiftRight, hm, BitVec.ushiftRight_eq', BitVec.getLsbD_ushiftRight, BitVec.toNat_ofNat, Nat.mod_eq_of_lt (by omega)]
  rfl
def mkR (f : Nat → Bool) : Nat → Int32
  | 0 => 0
  | n + 1 => mkR f n ||| (if f n then (1 : Int32) <<< (nI n &&& 31) else 0)
def mkb (f : Nat → Bool) : Int32 := mkR f 16
theorem bt_mkR (f : Nat → Bool) : ∀ n, n ≤ 31 → ∀ i, i < 32 → bt (mkR f n) i = (decide (i < n) && f i) := by
  intro n
  induction n with
  | zero => intro _ i hi; show bt 0 i = _; rw [bt_zero i hi]; rfl
  | succ n ih =>
    intro hn i hi
    show bt (mkR f n ||| _) i = _
    rw [bt_or, ih (by omega) i hi]
    by_cases e : i = n
    · subst e
      rw [decide_eq_false (by omega), Bool.false_and, Bool.false_or, decide_eq_true (by omega), Bool.true_and]
      cases h : f i with
      | true => rw [if_pos rfl, bt_one i hi i hi, decide_eq_true rfl]
      | false => rw [if_neg (by decide), bt_zero i hi]
    · have h1 : bt (if f n = true then (1 : Int32) <<< (nI n &&& 31) else 0) i = false := by
        split
        · rw [bt_one n (by omega) i hi, decide_eq_false e]
        · rw [bt_zero i hi]
      rw [h1, Bool.or_false]
      congr 1
      exact decide_eq_decide.mpr (by omega)
theorem bt_mkb (f : Nat → Bool) {i : Nat} (hi : i < 32) : bt (mkb f) i = (decide (i < 16) && f i) := bt_mkR f 16 (by decide) i hi
theorem mkb_ext {f g : Nat → Bool} (h : ∀ c, c < 16 → f c = g c) : mkb f = mkb g := bt_ext fun i hi => by
  rw [bt_mkb f hi, bt_mkb g hi]
  by_cases e : i < 16
  · rw [h i e]
  · rw [decide_eq_false e, Bool.false_and, Bool.false_and]
theorem mkb_inj {f g : Nat → Bool} (h : mkb f = mkb g) {c : Nat} (hc : c < 16) : f c = g c := by
  have := bt_mkb f (i := c) (by omega)
  rw [h, bt_mkb g (by omega), decide_eq_true hc, Bool.true_and, Bool.true_and] at this
  exact this.symm
theorem mkb_or (f g : Nat → Bool) : mkb f ||| mkb g = mkb (fun c => f c || g c) := bt_ext fun i hi => by
  rw [bt_or, bt_mkb f hi, bt_mkb g hi, bt_mkb _ hi, Bool.and_or_distrib_left]
theorem mkb_and (f g : Nat → Bool) : mkb f &&& mkb g = mkb (fun c => f c && g c) := bt_ext fun i hi => by
  rw [bt_and, bt_mkb f hi, bt_mkb g hi, bt_mkb _ hi]
  cases decide (i < 16) <;> simp
theorem mkb_andn (f g : Nat → Bool) : mkb f &&& (mkb g ^^^ (-1)) = mkb (fun c => f c && !g c) := bt_ext fun i hi => by
  rw [bt_and, bt_xor, bt_m1 i hi, bt_mkb f hi, bt_mkb g hi, bt_mkb _ hi]
  cases decide (i < 16) <;> simp
theorem mkb_z : mkb (fun _ => false) = 0 := by decide +kernel
theorem mkb_0 {f : Nat → Bool} : mkb f = 0 ↔ ∀ c, c < 16 → f c = false := by
  rw [← mkb_z]
  exact ⟨fun h c hc => mkb_inj h hc, fun h => mkb_ext h⟩
theorem mkb_one : ∀ n, n < 16 → (1 : Int32) <<< (nI n &&& 31) = mkb (fun c => decide (c = n)) := by decide +kernel
theorem mkb_near : (4369 : Int32) = mkb (fun c => decide (c % 4 = 0)) := by decide +kernel
theorem mkb_far : (34952 : Int32) = mkb (fun c => decide (c % 4 = 3)) := by decide +kernel
/-! around, cell by cell -/
def lI (lp : Bool) : Int32 := if lp then 1 else 0
theorem around_or (x y p : Int32) : fn_X8_around (x ||| y) p = fn_X8_around x p ||| fn_X8_around y p := by
  unfold fn_X8_around nm
  split
  · apply bt_ext
    intro i hi
    simp only [bt_or, bt_and, bt_shl (4 &&& 31) 4 (by decide) (by decide), bt_shl (1 &&& 31) 1 (by decide) (by decide), bt_ushr 4 4 (by decide) (by decide), bt_ushr 1 1 (by decide) (by decide), Bool.and_or_distrib_left, Bool.and_or_distrib_right]
    ac_rfl
  · apply bt_ext
    intro i hi
    simp only [bt_or, bt_and, bt_shl (4 &&& 31) 4 (by decide) (by decide), bt_shl (1 &&& 31) 1 (by decide) (by decide), bt_ushr 4 4 (by decide) (by decide), bt_ushr 1 1 (by decide) (by decide), bt_shl (8 &&& 31) 8 (by decide) (by decide), bt_shl (2 &&& 31) 2 (by decide) (by decide), bt_ushr 8 8 (by decide) (by decide), bt_ushr 2 2 (by decide) (by decide), Bool.and_or_distrib_left, Bool.and_or_distrib_right]
    ac_rfl
theorem around_one : ∀ lp : Bool, ∀ n, n < 16 → fn_X8_around ((1 : Int32) <<< (nI n &&& 31)) (lI lp) = mkb (fun c => aj lp n c) := by decide +kernel
theorem around_zero : ∀ lp : Bool, fn_X8_around 0 (lI lp) = 0 := by decide +kernel
theorem around_mkR (f : Nat → Bool) (lp : Bool) : ∀ n, n ≤ 16 → fn_X8_around (mkR f n) (lI lp) = mkb (fun c => anyN (fun a => f a && aj lp a c) n) := by
  intro n
  induction n with
  | zero => intro _; show fn_X8_around 0 _ = _; rw [around_zero]; exact mkb_z.symm
  | succ n ih =>
    intro hn
    show fn_X8_around (mkR f n ||| _) _ = _
    rw [around_or, ih (by omega)]
    have : fn_X8_around (if f n = true then (1 : Int32) <<< (nI n &&& 31) else 0) (lI lp) = mkb (fun c => f n && aj lp n c) := by
      cases f n with
      | true => rw [if_pos rfl, around_one lp n (by omega)]; exact mkb_ext fun c _ => (Bool.true_and _).symm
      | false => rw [if_neg (by decide), around_zero, ← mkb_z]; exact mkb_ext fun c _ => (Bool.false_and _).symm
    rw [this, mkb_or]
    rfl
theorem around_mkb (f : Nat → Bool) (lp : Bool) : fn_X8_around (mkb f) (lI lp) = mkb (fun c => anyN (fun a => f a && aj lp a c) 16) := around_mkR f lp 16 (by decide)
/-! the least below n -/
def lst (P : Nat → Bool) : Nat → Option Nat
  | 0 => none
  | n + 1 => match lst P n with | some k => some k | none => if P n then some n else none
theorem lst_none {P : Nat → Bool} : ∀ {n : Nat}, (∀ j, j < n → P j = false) → lst P n = none
  | 0, _ => rfl
  | n + 1, h => by
    unfold lst
    rw [lst_none (n := n) (fun j hj => h j (by omega)), h n (by omega)]
    rfl
theorem lst_some {P : Nat → Bool} {k : Nat} (h1 : P k = true) (h2 : ∀ j, j < k → P j = false) : ∀ {n : Nat}, k < n → lst P n = some k
  | 0, h => absurd h (Nat.not_lt_zero _)
  | n + 1, h => by
    unfold lst
    by_cases e : k = n
    · subst e
      rw [lst_none (n := k) h2, h1]; rfl
    · rw [lst_some h1 h2 (n := n) (by omega)]
theorem lst_s {P : Nat → Bool} {k : Nat} : ∀ {n : Nat}, lst P n = some k → k < n ∧ P k = true ∧ ∀ j, j < k → P j = false
  | 0, h => by cases h
  | n + 1, h => by
    unfold lst at h
    cases e : lst P n with
    | some k' =>
      rw [e] at h
      cases h
      obtain ⟨a, b, c⟩ := lst_s (n := n) e
      exact ⟨by omega, b, c⟩
    | none =>
      rw [e] at h
      have h : (if P n = true then some n else none) = some k := h
      by_cases q : P n = true
      · rw [if_pos q] at h
        have hk : n = k := Option.some.inj h
        subst hk
        refine ⟨by omega, q, fun j hj => ?_⟩
        cases e2 : P j with
        | false => rfl
        | true =>
          exfalso
          have : ∀ m, j < m → ∃ i, lst P m = some i := by
            intro m
            induction m with
            | zero => intro h; omega
            | succ m ih =>
              intro hm
              unfold lst
              cases e3 : lst P m with
              | some i => exact ⟨i, rfl⟩
              | none =>
                by_cases e4 : j = m
                · subst e4; rw [e2]; exact ⟨j, rfl⟩
                · obtain ⟨i, hi⟩ := ih (by omega)
                  rw [e3] at hi; cases hi
          obtain ⟨i, hi⟩ := this n hj
          rw [e] at hi; cases hi
      · rw [if_neg q] at h; cases h
theorem lst_n {P : Nat → Bool} {n : Nat} (h : lst P n = none) : ∀ j, j < n → P j = false := by
  intro j hj
  cases e : P j with
  | false => rfl
  | true =>
    exfalso
    have : ∀ m, j < m → ∃ i, lst P m = some i := by
      intro m
      induction m with
      | zero => intro h; omega
      | succ m ih =>
        intro hm
        unfold lst
        cases e3 : lst P m with
        | some i => exact ⟨i, rfl⟩
        | none =>
          by_cases e4 : j = m
          · subst e4; rw [e]; exact ⟨j, rfl⟩
          · obtain ⟨i, hi⟩ := ih (by omega)
            rw [e3] at hi; cases hi
    obtain ⟨i, hi⟩ := this n hj
    rw [h] at hi; cases hi
theorem lst_congr {P Q : Nat → Bool} : ∀ {n : Nat}, (∀ j, j < n → P j = Q j) → lst P n = lst Q n
  | 0, _ => rfl
  | n + 1, h => by
    unfold lst
    rw [lst_congr (n := n) (fun j hj => h j (by omega)), h n (by omega)]
def iI : Option Nat → Int32
  | none => -5
  | some k => nI k
/-! ===== the class's search ===== -/
/-- a cell of t is reached within n steps -/
def hit (b : Nat → Bool) (lp : Bool) (s t : Nat → Bool) (n : Nat) : Bool := anyN (fun c => t c && Rc b lp s n c) 16
def fw (b : Nat → Bool) (lp : Bool) (s t : Nat → Bool) : Option Nat := lst (hit b lp s t) 16
/-- what is new in step n -/
def Ed (b : Nat → Bool) (lp : Bool) (s : Nat → Bool) : Nat → Nat → Bool
  | 0, c => Rc b lp s 0 c
  | n + 1, c => Rc b lp s (n + 1) c && !Rc b lp s n c
section FW1
variable {b : Nat → Bool} {lp : Bool} {s t : Nat → Bool}
theorem Rc_fix {k : Nat} (h : ∀ c, c < 16 → Rc b lp s (k + 1) c = Rc b lp s k c) : ∀ n, k ≤ n → ∀ c, c < 16 → Rc b lp s n c = Rc b lp s k c := by
  intro n
  induction n with
  | zero => intro hk c hc; have : k = 0 := by omega
            subst this; rfl
  | succ n ih =>
    intro hk c hc
    by_cases e : k = n + 1
    · subst e; rfl
    · have ih' := ih (by omega)
      show (Rc b lp s n c || (b c && anyN (fun a => Rc b lp s n a && aj lp a c) 16)) = _
      rw [ih' c hc, anyN_congr (g := fun a => Rc b lp s k a && aj lp a c) (fun a ha => by rw [ih' a ha])]
      exact h c hc
theorem Ed_0 {k : Nat} (h : ∀ c, c < 16 → Ed b lp s k c = false) : ∀ n, k ≤ n → ∀ c, c < 16 → Rc b lp s n c = Rc b lp s k c := by
  cases k with
  | zero =>
    refine Rc_fix fun c hc => ?_
    show (Rc b lp s 0 c || (b c && anyN (fun a => Rc b lp s 0 a && aj lp a c) 16)) = Rc b lp s 0 c
    rw [anyN_false.mpr (fun a ha => by rw [show Rc b lp s 0 a = false from h a ha]; rfl), Bool.and_false, Bool.or_false]
  | succ k =>
    have hk : ∀ c, c < 16 → Rc b lp s (k + 1) c = Rc b lp s k c := by
      intro c hc
      have h1 : (Rc b lp s (k + 1) c && !Rc b lp s k c) = false := h c hc
      cases e : Rc b lp s k c with
      | true => exact Rc_s e
      | false => rw [e, Bool.not_false, Bool.and_true] at h1; exact h1
    intro n hn c hc
    rw [Rc_fix hk n (by omega) c hc, hk c hc]
theorem Ed_in {k c : Nat} (h : Rc b lp s k c = true) : ∃ j, j ≤ k ∧ Ed b lp s j c = true := by
  induction k with
  | zero => exact ⟨0, by omega, h⟩
  | succ k ih =>
    cases e : Rc b lp s k c with
    | true => obtain ⟨j, h1, h2⟩ := ih e; exact ⟨j, by omega, h2⟩
    | false => exact ⟨k + 1, by omega, by show (_ && !_) = true; rw [h, e]; rfl⟩
theorem Ed_R {k c : Nat} (h : Ed b lp s k c = true) : Rc b lp s k c = true := by
  cases k with
  | zero => exact h
  | succ k => have h : (Rc b lp s (k + 1) c && !Rc b lp s k c) = true := h
              rw [Bool.and_eq_true] at h
              exact h.1
theorem Ed_next (k : Nat) : (mkb (fun c => anyN (fun a => Ed b lp s k a && aj lp a c) 16) &&& mkb b) &&& (mkb (Rc b lp s k) ^^^ (-1)) = mkb (Ed b lp s (k + 1)) := by
  rw [mkb_and, mkb_andn]
  refine mkb_ext fun c hc => ?_
  show ((anyN (fun a => Ed b lp s k a && aj lp a c) 16 && b c) && !Rc b lp s k c) = ((Rc b lp s k c || (b c && anyN (fun a => Rc b lp s k a && aj lp a c) 16)) && !Rc b lp s k c)
  cases e : Rc b lp s k c with
  | true => simp
  | false =>
    rw [Bool.false_or, Bool.not_false, Bool.and_true, Bool.and_true, Bool.and_comm]
    cases hb : b c with
    | false => rfl
    | true =>
      rw [Bool.true_and, Bool.true_and]
      refine anyN_congr fun a ha => ?_
      cases hj : aj lp a c with
      | false => rw [Bool.and_false, Bool.and_false]
      | true =>
        rw [Bool.and_true, Bool.and_true]
        cases k with
        | zero => rfl
        | succ k =>
          show (Rc b lp s (k + 1) a && !Rc b lp s k a) = Rc b lp s (k + 1) a
          cases e2 : Rc b lp s k a with
          | false => rw [Bool.not_false, Bool.and_true]
          | true => rw [Rc_step e2 ha hb hj] at e; cases e
theorem Ed_come (k : Nat) : mkb (Rc b lp s k) ||| mkb (Ed b lp s (k + 1)) = mkb (Rc b lp s (k + 1)) := by
  rw [mkb_or]
  refine mkb_ext fun c hc => ?_
  show (Rc b lp s k c || (Rc b lp s (k + 1) c && !Rc b lp s k c)) = Rc b lp s (k + 1) c
  cases e : Rc b lp s k c with
  | true => rw [Rc_s e]; rfl
  | false => rw [Bool.false_or, Bool.not_false, Bool.and_true]
set_option maxHeartbeats 1000000 in
theorem fewest_e : fn_X8_fewest (mkb s) (mkb t) (mkb b) (lI lp) = some (iI (fw b lp s t)) := by
  have h0 : mkb s &&& mkb b = mkb (Rc b lp s 0) := by rw [mkb_and]; rfl
  have loop := itr_J (f := fun s12 : Int32 × Int32 × Int32 => lp_X8_fewest_12 (mkb t) (mkb b) (lI lp) s12.1 s12.2.1 s12.2.2) (s0 := (mkb (Rc b lp s 0), mkb (Rc b lp s 0), 0)) (fun k z => k ≤ 16 ∧ z = (mkb (Rc b lp s k), mkb (Ed b lp s k), nI k) ∧ ∀ j, j < k → ∀ c, c < 16 → (t c && Ed b lp s j c) = false) (fun r => r = iI (fw b lp s t)) 16 ⟨by omega, rfl, fun j hj => absurd hj (by omega)⟩
    (fun k z hz => by
      obtain ⟨hk, rfl, hz⟩ := hz
      have key : (∀ c, c < 16 → Ed b lp s k c = false) ∨ k = 16 → fw b lp s t = none := by
        intro hh
        refine lst_none fun j hj => ?_
        refine anyN_false.mpr fun c hc => ?_
        cases e : Rc b lp s j c with
        | false => rw [Bool.and_false]
        | true =>
          have e' : ∃ i, i < k ∧ Ed b lp s i c = true := by
            obtain ⟨i, h1, h2⟩ := Ed_in e
            by_cases hik : i < k
            · exact ⟨i, hik, h2⟩
            · rcases hh with hh | hh
              · have : Rc b lp s k c = true := by rw [← Ed_0 hh j (by omega) c hc]; exact e
                obtain ⟨i', h3, h4⟩ := Ed_in this
                by_cases q : i' = k
                · subst q; rw [hh c hc] at h4; cases h4
                · exact ⟨i', by omega, h4⟩
              · omega
          obtain ⟨i, h1, h2⟩ := e'
          have := hz i h1 c hc
          rw [h2, Bool.and_true] at this
          rw [this]; rfl
      show (∃ r, lp_X8_fewest_12 (mkb t) (mkb b) (lI lp) (mkb (Rc b lp s k)) (mkb (Ed b lp s k)) (nI k) = some (.inr r) ∧ _) ∨ _ ∧ ∃ s', lp_X8_fewest_12 (mkb t) (mkb b) (lI lp) (mkb (Rc b lp s k)) (mkb (Ed b lp s k)) (nI k) = some (.inl s') ∧ _
      unfold lp_X8_fewest_12
      by_cases hk16 : k = 16
      · left
        subst hk16
        rw [if_pos (by decide)]
        exact ⟨-5, rfl, by rw [key (Or.inr rfl)]; rfl⟩
      · have hlt : ¬ (16 : Int32) ≤ nI k := by show ¬ nI 16 ≤ nI k; rw [nI_leI (by decide) (by omega)]; omega
        rw [if_neg hlt]
        by_cases hE : mkb (Ed b lp s k) = 0
        · left
          rw [if_pos hE]
          exact ⟨-5, rfl, by rw [key (Or.inl (mkb_0.mp hE))]; rfl⟩
        · rw [if_neg hE, mkb_and]
          by_cases hT : mkb (fun c => Ed b lp s k c && t c) = 0
          · right
            rw [if_pos hT, around_mkb]
            refine ⟨by omega, _, rfl, by omega, ?_, ?_⟩
            · rw [Ed_next, Ed_come, nI_1]
            · intro j hj c hc
              by_cases e : j = k
              · subst e
                rw [Bool.and_comm]
                exact mkb_0.mp hT c hc
              · exact hz j (by omega) c hc
          · left
            rw [if_neg hT]
            refine ⟨nI k, rfl, ?_⟩
            have h1 : hit b lp s t k = true := by
              cases e : hit b lp s t k with
              | true => rfl
              | false =>
                exfalso
                apply hT
                refine mkb_0.mpr fun c hc => ?_
                have := anyN_false.mp e c hc
                cases e2 : Ed b lp s k c with
                | false => rfl
                | true => rw [Ed_R e2, Bool.and_true] at this; rw [this]; rfl
            have h2 : ∀ j, j < k → hit b lp s t j = false := by
              intro j hj
              refine anyN_false.mpr fun c hc => ?_
              cases e : Rc b lp s j c with
              | false => rw [Bool.and_false]
              | true =>
                obtain ⟨i, h3, h4⟩ := Ed_in e
                have := hz i (by omega) c hc
                rw [h4, Bool.and_true] at this
                rw [this]; rfl
            unfold fw
            rw [lst_some h1 h2 (by omega)]
            rfl) (by decide)
  obtain ⟨r, h1, h2⟩ := loop
  unfold fn_X8_fewest
  rw [nm_eq, h0, bnd_e h1, h2]
end FW1
