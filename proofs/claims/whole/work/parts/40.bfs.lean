/-! ===== ways: how far cells are, step by step ===== -/
/-- is there one below n -/
def anyN (f : Nat → Bool) : Nat → Bool
  | 0 => false
  | n + 1 => anyN f n || f n
theorem anyN_iff {f : Nat → Bool} : ∀ {n : Nat}, anyN f n = true ↔ ∃ a, a < n ∧ f a = true
  | 0 => ⟨fun h => (Bool.false_ne_true h).elim, fun ⟨_, h, _⟩ => absurd h (Nat.not_lt_zero _)⟩
  | n + 1 => by
    show (anyN f n || f n) = true ↔ _
    rw [Bool.or_eq_true, anyN_iff (n := n)]
    constructor
    · intro h
      rcases h with ⟨a, h1, h2⟩ | h
      · exact ⟨a, by omega, h2⟩
      · exact ⟨n, by omega, h⟩
    · intro ⟨a, h1, h2⟩
      by_cases e : a = n
      · subst e; exact Or.inr h2
      · exact Or.inl ⟨a, by omega, h2⟩
theorem anyN_false {f : Nat → Bool} {n : Nat} : anyN f n = false ↔ ∀ a, a < n → f a = false := by
  rw [← Bool.not_eq_true, anyN_iff]
  constructor
  · intro h a ha
    cases e : f a with
    | false => rfl
    | true => exact absurd ⟨a, ha, e⟩ h
  · intro h ⟨a, ha, e⟩
    rw [h a ha] at e; cases e
theorem anyN_congr {f g : Nat → Bool} : ∀ {n : Nat}, (∀ a, a < n → f a = g a) → anyN f n = anyN g n
  | 0, _ => rfl
  | n + 1, h => by
    show (anyN f n || f n) = (anyN g n || g n)
    rw [anyN_congr (n := n) (fun a ha => h a (by omega)), h n (by omega)]
/-- one STEP from a to c -/
def aj (lp : Bool) (a c : Nat) : Bool := fn_X9_far (nI a) (nI c) == 1 || (lp && fn_X9_far (nI a) (nI c) == 2)
/-- reached within n steps -/
def Rc (b : Nat → Bool) (lp : Bool) (s : Nat → Bool) : Nat → Nat → Bool
  | 0, c => s c && b c
  | n + 1, c => Rc b lp s n c || (b c && anyN (fun a => Rc b lp s n a && aj lp a c) 16)
section BF1
variable {b : Nat → Bool} {lp : Bool} {s : Nat → Bool}
theorem Rc_s {n c : Nat} (h : Rc b lp s n c = true) : Rc b lp s (n + 1) c = true := by
  show (_ || _) = true
  rw [h]; rfl
theorem Rc_le {n m c : Nat} (h : Rc b lp s n c = true) (hm : n ≤ m) : Rc b lp s m c = true := by
  induction m with
  | zero => have : n = 0 := by omega
            subst this; exact h
  | succ m ih =>
    rcases Nat.lt_or_ge m n with e | e
    · have : n = m + 1 := by omega
      subst this; exact h
    · exact Rc_s (ih e)
theorem Rc_b {n c : Nat} (h : Rc b lp s n c = true) : b c = true := by
  induction n with
  | zero => have h : (s c && b c) = true := h
            rw [Bool.and_eq_true] at h; exact h.2
  | succ n ih =>
    have h : (Rc b lp s n c || (b c && _)) = true := h
    rw [Bool.or_eq_true, Bool.and_eq_true] at h
    rcases h with h | h
    · exact ih h
    · exact h.1
theorem Rc_step {n a c : Nat} (h : Rc b lp s n a = true) (ha : a < 16) (hb : b c = true) (hj : aj lp a c = true) : Rc b lp s (n + 1) c = true := by
  show (_ || (b c && anyN _ 16)) = true
  rw [Bool.or_eq_true]
  refine Or.inr ?_
  rw [hb, Bool.true_and, anyN_iff]
  exact ⟨a, ha, by rw [h, hj]; rfl⟩
theorem Rc_inv {n c : Nat} (h : Rc b lp s (n + 1) c = true) : Rc b lp s n c = true ∨ (b c = true ∧ ∃ a, a < 16 ∧ Rc b lp s n a = true ∧ aj lp a c = true) := by
  have h : (Rc b lp s n c || (b c && anyN (fun a => Rc b lp s n a && aj lp a c) 16)) = true := h
  rw [Bool.or_eq_true, Bool.and_eq_true, anyN_iff] at h
  rcases h with h | ⟨h1, a, h2, h3⟩
  · exact Or.inl h
  · rw [Bool.and_eq_true] at h3
    exact Or.inr ⟨h1, a, h2, h3.1, h3.2⟩
/-- a distance that says: q c = some n, n steps and no fewer -/
def isD (b : Nat → Bool) (lp : Bool) (s : Nat → Bool) (q : Nat → Option Nat) : Prop := ∀ c, c < 16 → (∀ n, q c = some n → Rc b lp s n c = true) ∧ ∀ n, Rc b lp s n c = true → ∃ m, q c = some m ∧ m ≤ n
/-- a closed marking is a distance -/
theorem isD_of {q : Nat → Option Nat} (h1 : ∀ c, c < 16 → ∀ n, q c = some n → Rc b lp s n c = true) (h2 : ∀ c, c < 16 → s c = true → b c = true → q c = some 0) (h3 : ∀ a c n, a < 16 → c < 16 → q a = some n → b c = true → aj lp a c = true → ∃ m, q c = some m ∧ m ≤ n + 1) : isD b lp s q := by
  intro c hc
  refine ⟨h1 c hc, ?_⟩
  intro n
  induction n generalizing c with
  | zero =>
    intro h
    have h : (s c && b c) = true := h
    rw [Bool.and_eq_true] at h
    exact ⟨0, h2 c hc h.1 h.2, Nat.le_refl _⟩
  | succ n ih =>
    intro h
    rcases Rc_inv h with h | ⟨hb, a, ha, h4, h5⟩
    · obtain ⟨m, e1, e2⟩ := ih c hc h
      exact ⟨m, e1, by omega⟩
    · obtain ⟨m, e1, e2⟩ := ih a ha h4
      obtain ⟨m', e3, e4⟩ := h3 a c m ha hc e1 hb h5
      exact ⟨m', e3, by omega⟩
theorem isD_u {q q' : Nat → Option Nat} (h : isD b lp s q) (h' : isD b lp s q') {c : Nat} (hc : c < 16) : q c = q' c := by
  cases e : q c with
  | none =>
    cases e' : q' c with
    | none => rfl
    | some n => obtain ⟨m, z, -⟩ := (h c hc).2 n ((h' c hc).1 n e'); rw [e] at z; cases z
  | some n =>
    obtain ⟨m, z, hz⟩ := (h' c hc).2 n ((h c hc).1 n e)
    obtain ⟨m2, z2, hz2⟩ := (h c hc).2 m ((h' c hc).1 m z)
    rw [e] at z2
    cases z2
    rw [z]
    congr 1
    omega
end BF1
/-! counting -/
def cnt (f : Nat → Bool) : Nat → Nat
  | 0 => 0
  | n + 1 => cnt f n + (if f n then 1 else 0)
theorem cnt_le (f : Nat → Bool) : ∀ n, cnt f n ≤ n
  | 0 => Nat.le_refl _
  | n + 1 => by
    have := cnt_le f n
    show cnt f n + _ ≤ n + 1
    split <;> omega
theorem cnt_mono {f g : Nat → Bool} : ∀ n, (∀ c, c < n → f c = true → g c = true) → cnt f n ≤ cnt g n
  | 0, _ => Nat.le_refl _
  | n + 1, h => by
    have := cnt_mono n (fun c hc => h c (by omega))
    have h2 := h n (by omega)
    show cnt f n + _ ≤ cnt g n + _
    by_cases e : f n = true
    · rw [if_pos e, if_pos (h2 e)]; omega
    · rw [if_neg e]; split <;> omega
theorem cnt_lt {f g : Nat → Bool} {a : Nat} : ∀ n, a < n → f a = false → g a = true → (∀ c, c < n → f c = true → g c = true) → cnt f n < cnt g n
  | 0, h, _, _, _ => by omega
  | n + 1, h, h1, h2, h3 => by
    show cnt f n + _ < cnt g n + _
    by_cases e : a = n
    · subst e
      have := cnt_mono (f := f) (g := g) a (fun c hc => h3 c (by omega))
      rw [h1, h2, if_neg (by decide), if_pos rfl]; omega
    · have := cnt_lt n (by omega) h1 h2 (fun c hc => h3 c (by omega))
      have h4 := h3 n (by omega)
      by_cases e2 : f n = true
      · rw [if_pos e2, if_pos (h4 e2)]; omega
      · rw [if_neg e2]; split <;> omega
section BF2
variable {b : Nat → Bool} {lp : Bool} {s : Nat → Bool}
/-- a cell reached in n steps and no fewer: n + 1 cells are reached by then -/
theorem Rc_cnt : ∀ n c, c < 16 → Rc b lp s n c = true → (∀ m, m < n → Rc b lp s m c = false) → n + 1 ≤ cnt (Rc b lp s n) 16 := by
  intro n
  induction n with
  | zero =>
    intro c hc h _
    have := cnt_lt (f := fun _ => false) (g := Rc b lp s 0) (a := c) 16 hc rfl h (fun _ _ q => by cases q)
    exact Nat.lt_of_le_of_lt (Nat.zero_le _) this
  | succ n ih =>
    intro c hc h hm
    have h0 := hm n (by omega)
    rcases Rc_inv h with h1 | ⟨hb, a, ha, h4, h5⟩
    · rw [h0] at h1; cases h1
    · have ham : ∀ m, m < n → Rc b lp s m a = false := by
        intro m hmn
        cases e : Rc b lp s m a with
        | false => rfl
        | true =>
          have := Rc_le (Rc_step e ha hb h5) (m := n) (by omega)
          rw [h0] at this; cases this
      have h6 := ih a ha h4 ham
      have := cnt_lt (f := Rc b lp s n) (g := Rc b lp s (n + 1)) 16 hc h0 h (fun c _ q => Rc_s q)
      exact Nat.lt_of_le_of_lt h6 this
theorem isD_lt {q : Nat → Option Nat} (h : isD b lp s q) {c n : Nat} (hc : c < 16) (e : q c = some n) : n < 16 := by
  have h1 := (h c hc).1 n e
  have h2 : ∀ m, m < n → Rc b lp s m c = false := by
    intro m hm
    cases e2 : Rc b lp s m c with
    | false => rfl
    | true =>
      obtain ⟨m', z, z2⟩ := (h c hc).2 m e2
      rw [e] at z; cases z
      omega
  have h3 := Rc_cnt n c hc h1 h2
  exact Nat.le_trans h3 (cnt_le (Rc b lp s n) 16)
end BF2
