/-! ===== how THE TEXT is read, with no memory ===== -/
def pW (P : Nat → Nat) : List Nat → Nat → Nat ⊕ Nat
  | [], p => .inr p
  | c :: r, p => if P p = c then pW P r (p + 1) else .inl p
def pN (P : Nat → Nat) (p : Nat) : Nat ⊕ (Nat × Nat) :=
  if 48 ≤ P p ∧ P p ≤ 57 then (if 48 ≤ P (p + 1) ∧ P (p + 1) ≤ 57 then .inr (p + 2, 10 * (P p - 48) + (P (p + 1) - 48)) else .inr (p + 1, P p - 48)) else .inl p
def fcl (c : Nat) : Nat := if c = 99 then 0 else if c = 114 then 1 else if c = 120 then 2 else if c = 115 then 3 else if c = 98 then 4 else if c = 109 then 5 else 6
def pT (P : Nat → Nat) (p : Nat) : Nat ⊕ (Nat × Nat) :=
  if fcl (P p) = 6 then .inl p else if 60 ≤ P (p + 1) ∧ P (p + 1) ≤ 62 then (match pN P (p + 2) with | .inl q => .inl q | .inr y => .inr (y.1, 1000 * fcl (P p) + 100 * (P (p + 1) - 60) + y.2)) else .inl (p + 1)
def eA (a : Bool) : List Nat := if a then [1] else []
def eO (b : Bool) : List Nat := if b then [2] else []
abbrev MD : Type := Option (Bool × Bool)
abbrev RP : Type := Nat ⊕ (Nat × List Nat)
/-- C is closed under the ways to read a factor (none) and what follows of an E (some, with what waits: an and, an or) -/
def PXC (P : Nat → Nat) (C : MD → Nat → Nat → RP → Prop) : Prop :=
  (∀ d p q, d < 4 → P p = 33 → C none (d + 1) (p + 1) (.inl q) → C none d p (.inl q)) ∧
  (∀ d p q l, d < 4 → P p = 33 → C none (d + 1) (p + 1) (.inr (q, l)) → C none d p (.inr (q, l ++ [0]))) ∧
  (∀ d p q, d < 4 → P p = 40 → C (some (false, false)) (d + 1) (p + 1) (.inl q) → C none d p (.inl q)) ∧
  (∀ d p q l, d < 4 → P p = 40 → C (some (false, false)) (d + 1) (p + 1) (.inr (q, l)) → ¬ P q = 41 → C none d p (.inl q)) ∧
  (∀ d p q l, d < 4 → P p = 40 → C (some (false, false)) (d + 1) (p + 1) (.inr (q, l)) → P q = 41 → C none d p (.inr (q + 1, l))) ∧
  (∀ d p q, ¬ (d < 4 ∧ (P p = 33 ∨ P p = 40)) → pT P p = .inl q → C none d p (.inl q)) ∧
  (∀ d p q k, ¬ (d < 4 ∧ (P p = 33 ∨ P p = 40)) → pT P p = .inr (q, k) → C none d p (.inr (q, [k + 3]))) ∧
  (∀ a b d p q, C none d p (.inl q) → C (some (a, b)) d p (.inl q)) ∧
  (∀ a b d p q l q2, C none d p (.inr (q, l)) → P q = 38 → C (some (true, b)) d (q + 1) (.inl q2) → C (some (a, b)) d p (.inl q2)) ∧
  (∀ a b d p q l q2 l2, C none d p (.inr (q, l)) → P q = 38 → C (some (true, b)) d (q + 1) (.inr (q2, l2)) → C (some (a, b)) d p (.inr (q2, l ++ (eA a ++ l2)))) ∧
  (∀ a b d p q l q2, C none d p (.inr (q, l)) → P q = 124 → C (some (false, true)) d (q + 1) (.inl q2) → C (some (a, b)) d p (.inl q2)) ∧
  (∀ a b d p q l q2 l2, C none d p (.inr (q, l)) → P q = 124 → C (some (false, true)) d (q + 1) (.inr (q2, l2)) → C (some (a, b)) d p (.inr (q2, l ++ (eA a ++ (eO b ++ l2))))) ∧
  (∀ a b d p q l, C none d p (.inr (q, l)) → ¬ P q = 38 → ¬ P q = 124 → C (some (a, b)) d p (.inr (q, l ++ (eA a ++ eO b))))
def PX (P : Nat → Nat) (m : MD) (d p : Nat) (r : RP) : Prop := ∀ C : MD → Nat → Nat → RP → Prop, PXC P C → C m d p r
theorem PX_c (P : Nat → Nat) : PXC P (PX P) := by
  refine ⟨?_, ?_, ?_, ?_, ?_, ?_, ?_, ?_, ?_, ?_, ?_, ?_, ?_⟩
  · exact fun d p q a b h C hC => hC.1 d p q a b (h C hC)
  · exact fun d p q l a b h C hC => hC.2.1 d p q l a b (h C hC)
  · exact fun d p q a b h C hC => hC.2.2.1 d p q a b (h C hC)
  · exact fun d p q l a b h e C hC => hC.2.2.2.1 d p q l a b (h C hC) e
  · exact fun d p q l a b h e C hC => hC.2.2.2.2.1 d p q l a b (h C hC) e
  · exact fun d p q a b C hC => hC.2.2.2.2.2.1 d p q a b
  · exact fun d p q k a b C hC => hC.2.2.2.2.2.2.1 d p q k a b
  · exact fun a b d p q h C hC => hC.2.2.2.2.2.2.2.1 a b d p q (h C hC)
  · exact fun a b d p q l q2 h e h2 C hC => hC.2.2.2.2.2.2.2.2.1 a b d p q l q2 (h C hC) e (h2 C hC)
  · exact fun a b d p q l q2 l2 h e h2 C hC => hC.2.2.2.2.2.2.2.2.2.1 a b d p q l q2 l2 (h C hC) e (h2 C hC)
  · exact fun a b d p q l q2 h e h2 C hC => hC.2.2.2.2.2.2.2.2.2.2.1 a b d p q l q2 (h C hC) e (h2 C hC)
  · exact fun a b d p q l q2 l2 h e h2 C hC => hC.2.2.2.2.2.2.2.2.2.2.2.1 a b d p q l q2 l2 (h C hC) e (h2 C hC)
  · exact fun a b d p q l h e f C hC => hC.2.2.2.2.2.2.2.2.2.2.2.2 a b d p q l (h C hC) e f
/-- nothing stands behind the last sign -/
def PL (P : Nat → Nat) (L : Nat) : Prop := L ≤ 100 ∧ (∀ i, i < L → P i < 128) ∧ ∀ i, L ≤ i → P i = 999
section PA1
variable {P : Nat → Nat} {L : Nat}
theorem PL.lt (h : PL P L) {i : Nat} (hi : P i < 999) : i < L := by
  by_cases e : i < L
  · exact e
  · have := h.2.2 i (by omega); omega
theorem pW_le (h : PL P L) : ∀ (w : List Nat), (∀ c ∈ w, c < 128) → ∀ p, p ≤ L → (∀ q, pW P w p = .inl q → p ≤ q ∧ q ≤ L) ∧ ∀ q, pW P w p = .inr q → q = p + w.length ∧ q ≤ L := by
  intro w
  induction w with
  | nil =>
    intro _ p hp
    refine ⟨fun q e => (by cases e), fun q e => ?_⟩
    cases e
    exact ⟨rfl, hp⟩
  | cons c r ih =>
    intro hw p hp
    by_cases e : P p = c
    · have hc := hw c (List.mem_cons_self ..)
      have hlt := h.lt (i := p) (by omega)
      obtain ⟨i1, i2⟩ := ih (fun x hx => hw x (List.mem_cons_of_mem _ hx)) (p + 1) (by omega)
      have u : pW P (c :: r) p = pW P r (p + 1) := by show (if P p = c then _ else _) = _; rw [if_pos e]
      rw [u]
      refine ⟨fun q hq => ?_, fun q hq => ?_⟩
      · have := i1 q hq; omega
      · have := i2 q hq
        exact ⟨by rw [this.1, List.length_cons]; omega, this.2⟩
    · have u : pW P (c :: r) p = .inl p := by show (if P p = c then _ else _) = _; rw [if_neg e]
      rw [u]
      refine ⟨fun q hq => ?_, fun q hq => by cases hq⟩
      cases hq
      exact ⟨Nat.le_refl _, hp⟩
theorem pN_l (h : PL P L) {p q : Nat} (hp : p ≤ L) (e : pN P p = .inl q) : q = p := by
  unfold pN at e
  by_cases c : 48 ≤ P p ∧ P p ≤ 57
  · rw [if_pos c] at e
    by_cases c2 : 48 ≤ P (p + 1) ∧ P (p + 1) ≤ 57
    · rw [if_pos c2] at e; cases e
    · rw [if_neg c2] at e; cases e
  · rw [if_neg c] at e; cases e; rfl
theorem pN_r (h : PL P L) {p q n : Nat} (e : pN P p = .inr (q, n)) : p < q ∧ q ≤ L ∧ n ≤ 99 := by
  unfold pN at e
  by_cases c : 48 ≤ P p ∧ P p ≤ 57
  · rw [if_pos c] at e
    have h1 := h.lt (i := p) (by omega)
    by_cases c2 : 48 ≤ P (p + 1) ∧ P (p + 1) ≤ 57
    · rw [if_pos c2] at e
      have h2 := h.lt (i := p + 1) (by omega)
      cases e; omega
    · rw [if_neg c2] at e
      cases e; omega
  · rw [if_neg c] at e; cases e
theorem fcl_lt {c : Nat} (h : ¬ fcl c = 6) : c < 128 ∧ fcl c ≤ 5 := by
  unfold fcl at h ⊢
  by_cases a : c = 99
  · rw [if_pos a]; omega
  rw [if_neg a] at h ⊢
  by_cases a : c = 114
  · rw [if_pos a]; omega
  rw [if_neg a] at h ⊢
  by_cases a : c = 120
  · rw [if_pos a]; omega
  rw [if_neg a] at h ⊢
  by_cases a : c = 115
  · rw [if_pos a]; omega
  rw [if_neg a] at h ⊢
  by_cases a : c = 98
  · rw [if_pos a]; omega
  rw [if_neg a] at h ⊢
  by_cases a : c = 109
  · rw [if_pos a]; omega
  rw [if_neg a] at h
  omega
theorem pT_l (h : PL P L) {p q : Nat} (hp : p ≤ L) (e : pT P p = .inl q) : p ≤ q ∧ q ≤ L := by
  unfold pT at e
  by_cases c : fcl (P p) = 6
  · rw [if_pos c] at e; cases e; omega
  · rw [if_neg c] at e
    have h1 := h.lt (i := p) (by have := (fcl_lt c).1; omega)
    by_cases c2 : 60 ≤ P (p + 1) ∧ P (p + 1) ≤ 62
    · rw [if_pos c2] at e
      have h2 := h.lt (i := p + 1) (by omega)
      cases z : pN P (p + 2) with
      | inl q2 => rw [z] at e; cases e; have := pN_l h (by omega) z; omega
      | inr y => rw [z] at e; cases e
    · rw [if_neg c2] at e; cases e; omega
theorem pT_r (h : PL P L) {p q k : Nat} (e : pT P p = .inr (q, k)) : ∃ n, ¬ fcl (P p) = 6 ∧ (60 ≤ P (p + 1) ∧ P (p + 1) ≤ 62) ∧ pN P (p + 2) = .inr (q, n) ∧ n ≤ 99 ∧ p + 2 < q ∧ q ≤ L ∧ k = 1000 * fcl (P p) + 100 * (P (p + 1) - 60) + n ∧ k ≤ 5999 := by
  unfold pT at e
  by_cases c : fcl (P p) = 6
  · rw [if_pos c] at e; cases e
  · rw [if_neg c] at e
    by_cases c2 : 60 ≤ P (p + 1) ∧ P (p + 1) ≤ 62
    · rw [if_pos c2] at e
      cases z : pN P (p + 2) with
      | inl q2 => rw [z] at e; cases e
      | inr y =>
        obtain ⟨y1, y2⟩ := y
        rw [z] at e
        have e : (Sum.inr (y1, 1000 * fcl (P p) + 100 * (P (p + 1) - 60) + y2) : Nat ⊕ (Nat × Nat)) = .inr (q, k) := e
        cases e
        obtain ⟨g1, g2, g3⟩ := pN_r h z
        have := (fcl_lt c).2
        exact ⟨y2, c, c2, rfl, g3, g1, g2, rfl, by omega⟩
    · rw [if_neg c2] at e; cases e
/-- where a reading ends -/
def PXs (L : Nat) (m : MD) (d p : Nat) (r : RP) : Prop := p ≤ L → match r with | .inl q => p ≤ q ∧ q ≤ L | .inr y => p < y.1 ∧ y.1 ≤ L
theorem PXs_c (h : PL P L) : PXC P (PXs L) := by
  refine ⟨?_, ?_, ?_, ?_, ?_, ?_, ?_, ?_, ?_, ?_, ?_, ?_, ?_⟩
  · intro d p q a b z hp
    have := h.lt (i := p) (by omega)
    have z : p + 1 ≤ q ∧ q ≤ L := z (by omega)
    exact ⟨by omega, z.2⟩
  · intro d p q l a b z hp
    have := h.lt (i := p) (by omega)
    have z : p + 1 < q ∧ q ≤ L := z (by omega)
    exact ⟨by show p < q; omega, z.2⟩
  · intro d p q a b z hp
    have := h.lt (i := p) (by omega)
    have z : p + 1 ≤ q ∧ q ≤ L := z (by omega)
    exact ⟨by omega, z.2⟩
  · intro d p q l a b z e hp
    have := h.lt (i := p) (by omega)
    have z : p + 1 < q ∧ q ≤ L := z (by omega)
    exact ⟨by omega, z.2⟩
  · intro d p q l a b z e hp
    have := h.lt (i := p) (by omega)
    have := h.lt (i := q) (by omega)
    have z : p + 1 < q ∧ q ≤ L := z (by omega)
    exact ⟨by show p < q + 1; omega, by show q + 1 ≤ L; omega⟩
  · intro d p q a b hp
    exact pT_l h hp b
  · intro d p q k a b hp
    obtain ⟨n, -, -, -, -, g1, g2, -⟩ := pT_r h b
    exact ⟨by show p < q; omega, g2⟩
  · intro a b d p q z hp
    exact z hp
  · intro a b d p q l q2 z e z2 hp
    have := h.lt (i := q) (by omega)
    have z : p < q ∧ q ≤ L := z hp
    have z2 : q + 1 ≤ q2 ∧ q2 ≤ L := z2 (by omega)
    exact ⟨by omega, z2.2⟩
  · intro a b d p q l q2 l2 z e z2 hp
    have := h.lt (i := q) (by omega)
    have z : p < q ∧ q ≤ L := z hp
    have z2 : q + 1 < q2 ∧ q2 ≤ L := z2 (by omega)
    exact ⟨by show p < q2; omega, z2.2⟩
  · intro a b d p q l q2 z e z2 hp
    have := h.lt (i := q) (by omega)
    have z : p < q ∧ q ≤ L := z hp
    have z2 : q + 1 ≤ q2 ∧ q2 ≤ L := z2 (by omega)
    exact ⟨by omega, z2.2⟩
  · intro a b d p q l q2 l2 z e z2 hp
    have := h.lt (i := q) (by omega)
    have z : p < q ∧ q ≤ L := z hp
    have z2 : q + 1 < q2 ∧ q2 ≤ L := z2 (by omega)
    exact ⟨by show p < q2; omega, z2.2⟩
  · intro a b d p q l z e f hp
    exact z hp
theorem PX_l (h : PL P L) {m : MD} {d p q : Nat} (x : PX P m d p (.inl q)) (hp : p ≤ L) : p ≤ q ∧ q ≤ L := x _ (PXs_c h) hp
theorem PX_r (h : PL P L) {m : MD} {d p q : Nat} {l : List Nat} (x : PX P m d p (.inr (q, l))) (hp : p ≤ L) : p < q ∧ q ≤ L := x _ (PXs_c h) hp
/-- whatever stands there, it is read in some way -/
theorem PX_tot (h : PL P L) : ∀ n, (∀ d p, p ≤ L → 2 * (L - p) < n → ∃ r, PX P none d p r) ∧ ∀ a b d p, p ≤ L → 2 * (L - p) + 1 < n → ∃ r, PX P (some (a, b)) d p r := by
  have K := PX_c P
  intro n
  induction n with
  | zero => exact ⟨fun d p _ e => by omega, fun a b d p _ e => by omega⟩
  | succ n ih =>
    refine ⟨fun d p hp hn => ?_, fun a b d p hp hn => ?_⟩
    · by_cases c : d < 4 ∧ (P p = 33 ∨ P p = 40)
      · have hl := h.lt (i := p) (by omega)
        obtain ⟨hd, c | c⟩ := c
        · obtain ⟨r, hr⟩ := ih.1 (d + 1) (p + 1) (by omega) (by omega)
          cases r with
          | inl q => exact ⟨_, K.1 d p q hd c hr⟩
          | inr y => exact ⟨_, K.2.1 d p y.1 y.2 hd c hr⟩
        · obtain ⟨r, hr⟩ := ih.2 false false (d + 1) (p + 1) (by omega) (by omega)
          cases r with
          | inl q => exact ⟨_, K.2.2.1 d p q hd c hr⟩
          | inr y =>
            by_cases e : P y.1 = 41
            · exact ⟨_, K.2.2.2.2.1 d p y.1 y.2 hd c hr e⟩
            · exact ⟨_, K.2.2.2.1 d p y.1 y.2 hd c hr e⟩
      · cases z : pT P p with
        | inl q => exact ⟨_, K.2.2.2.2.2.1 d p q c z⟩
        | inr y => exact ⟨_, K.2.2.2.2.2.2.1 d p y.1 y.2 c z⟩
    · obtain ⟨r, hr⟩ := ih.1 d p hp (by omega)
      cases r with
      | inl q => exact ⟨_, K.2.2.2.2.2.2.2.1 a b d p q hr⟩
      | inr y =>
        have hy := PX_r h (q := y.1) (l := y.2) hr hp
        by_cases e : P y.1 = 38
        · have hl := h.lt (i := y.1) (by omega)
          obtain ⟨r2, hr2⟩ := ih.2 true b d (y.1 + 1) (by omega) (by omega)
          cases r2 with
          | inl q => exact ⟨_, K.2.2.2.2.2.2.2.2.1 a b d p y.1 y.2 q hr e hr2⟩
          | inr z => exact ⟨_, K.2.2.2.2.2.2.2.2.2.1 a b d p y.1 y.2 z.1 z.2 hr e hr2⟩
        · by_cases f : P y.1 = 124
          · have hl := h.lt (i := y.1) (by omega)
            obtain ⟨r2, hr2⟩ := ih.2 false true d (y.1 + 1) (by omega) (by omega)
            cases r2 with
            | inl q => exact ⟨_, K.2.2.2.2.2.2.2.2.2.2.1 a b d p y.1 y.2 q hr f hr2⟩
            | inr z => exact ⟨_, K.2.2.2.2.2.2.2.2.2.2.2.1 a b d p y.1 y.2 z.1 z.2 hr f hr2⟩
          · exact ⟨_, K.2.2.2.2.2.2.2.2.2.2.2.2 a b d p y.1 y.2 hr e f⟩
theorem PX_ex (h : PL P L) (a b : Bool) (d p : Nat) (hp : p ≤ L) : ∃ r, PX P (some (a, b)) d p r := (PX_tot h (2 * (L - p) + 2)).2 a b d p hp (by omega)
end PA1
/-! clauses -/
/-- the head: its word, and the place behind it -/
def pH (P : Nat → Nat) (p : Nat) : Nat ⊕ (Nat × Nat) :=
  if P p = 115 then (match pW P [112, 111, 111, 110, 32] (p + 1) with | .inl q => .inl q | .inr q => .inr (2, q))
  else if P p = 109 then (match pW P [105, 108, 107, 32] (p + 1) with | .inl q => .inl q | .inr q => .inr (3, q))
  else match pW P [116, 104, 105] p with
    | .inl q => .inl q
    | .inr q => if P q = 110 then (match pW P [32] (q + 1) with | .inl q2 => .inl q2 | .inr q2 => .inr (1, q2)) else (match pW P [99, 107, 32] q with | .inl q2 => .inl q2 | .inr q2 => .inr (0, q2))
abbrev RQ : Type := Nat ⊕ (Nat × CLA)
def PC (P : Nat → Nat) (p : Nat) (r : RQ) : Prop :=
  (∃ q, pH P p = .inl q ∧ r = .inl q) ∨ ∃ w q, pH P p = .inr (w, q) ∧ ((∃ q2, pN P q = .inl q2 ∧ r = .inl q2) ∨ ∃ q2 n, pN P q = .inr (q2, n) ∧ ((2 ≤ w ∧ r = .inr (q2, (w, n, []))) ∨ (w < 2 ∧ ¬ P q2 = 32 ∧ r = .inl q2) ∨ (w < 2 ∧ P q2 = 32 ∧ ((∃ q3, PX P (some (false, false)) 0 (q2 + 1) (.inl q3) ∧ r = .inl q3) ∨ ∃ q3 l, PX P (some (false, false)) 0 (q2 + 1) (.inr (q3, l)) ∧ r = .inr (q3, (w, n, l))))))
/-- k more clauses may come behind this one -/
def PG (P : Nat → Nat) (L : Nat) : Nat → Nat → Nat ⊕ List CLA → Prop
  | 0, p, r => (∃ q, PC P p (.inl q) ∧ r = .inl q) ∨ ∃ q c, PC P p (.inr (q, c)) ∧ ((q = L ∧ r = .inr [c]) ∨ (¬ q = L ∧ r = .inl q))
  | k + 1, p, r => (∃ q, PC P p (.inl q) ∧ r = .inl q) ∨ ∃ q c, PC P p (.inr (q, c)) ∧ ((q = L ∧ r = .inr [c]) ∨ (¬ q = L ∧ ¬ P q = 59 ∧ r = .inl q) ∨ (¬ q = L ∧ P q = 59 ∧ ((∃ q2, PG P L k (q + 1) (.inl q2) ∧ r = .inl q2) ∨ ∃ cs, PG P L k (q + 1) (.inr cs) ∧ r = .inr (c :: cs))))
section PA2
variable {P : Nat → Nat} {L : Nat}
theorem pH_le (h : PL P L) {p : Nat} (hp : p ≤ L) : (∀ q, pH P p = .inl q → p ≤ q ∧ q ≤ L) ∧ ∀ w q, pH P p = .inr (w, q) → p < q ∧ q ≤ L ∧ w ≤ 3 := by
  unfold pH
  by_cases c : P p = 115
  · rw [if_pos c]
    have hl := h.lt (i := p) (by omega)
    obtain ⟨i1, i2⟩ := pW_le h [112, 111, 111, 110, 32] (by decide) (p + 1) (by omega)
    cases z : pW P [112, 111, 111, 110, 32] (p + 1) with
    | inl q => refine ⟨fun q2 e => ?_, fun w q2 e => by cases e⟩; cases e; have := i1 q z; omega
    | inr q => refine ⟨fun q2 e => (by cases e), fun w q2 e => ?_⟩; cases e; have := i2 q z; omega
  · rw [if_neg c]
    by_cases c2 : P p = 109
    · rw [if_pos c2]
      have hl := h.lt (i := p) (by omega)
      obtain ⟨i1, i2⟩ := pW_le h [105, 108, 107, 32] (by decide) (p + 1) (by omega)
      cases z : pW P [105, 108, 107, 32] (p + 1) with
      | inl q => refine ⟨fun q2 e => ?_, fun w q2 e => by cases e⟩; cases e; have := i1 q z; omega
      | inr q => refine ⟨fun q2 e => (by cases e), fun w q2 e => ?_⟩; cases e; have := i2 q z; omega
    · rw [if_neg c2]
      obtain ⟨i1, i2⟩ := pW_le h [116, 104, 105] (by decide) p hp
      cases z : pW P [116, 104, 105] p with
      | inl q => refine ⟨fun q2 e => ?_, fun w q2 e => by cases e⟩; cases e; exact i1 q z
      | inr q =>
        have j := i2 q z
        have jl : q = p + 3 := j.1
        by_cases c3 : P q = 110
        · have e0 : ∀ x : Nat ⊕ (Nat × Nat), (if P q = 110 then (match pW P [32] (q + 1) with | .inl q2 => .inl q2 | .inr q2 => .inr (1, q2)) else (match pW P [99, 107, 32] q with | .inl q2 => .inl q2 | .inr q2 => .inr (0, q2))) = x ↔ (match pW P [32] (q + 1) with | .inl q2 => .inl q2 | .inr q2 => .inr (1, q2)) = x := fun x => by rw [if_pos c3]
          have hl := h.lt (i := q) (by omega)
          obtain ⟨k1, k2⟩ := pW_le h [32] (by decide) (q + 1) (by omega)
          refine ⟨fun q2 e => ?_, fun w q2 e => ?_⟩
          · have e := (e0 _).mp e
            cases z2 : pW P [32] (q + 1) with
            | inl q3 => rw [z2] at e; cases e; have := k1 q2 z2; omega
            | inr q3 => rw [z2] at e; cases e
          · have e := (e0 _).mp e
            cases z2 : pW P [32] (q + 1) with
            | inl q3 => rw [z2] at e; cases e
            | inr q3 => rw [z2] at e; cases e; have := k2 q2 z2; omega
        · have e0 : ∀ x : Nat ⊕ (Nat × Nat), (if P q = 110 then (match pW P [32] (q + 1) with | .inl q2 => .inl q2 | .inr q2 => .inr (1, q2)) else (match pW P [99, 107, 32] q with | .inl q2 => .inl q2 | .inr q2 => .inr (0, q2))) = x ↔ (match pW P [99, 107, 32] q with | .inl q2 => .inl q2 | .inr q2 => .inr (0, q2)) = x := fun x => by rw [if_neg c3]
          obtain ⟨k1, k2⟩ := pW_le h [99, 107, 32] (by decide) q (by omega)
          refine ⟨fun q2 e => ?_, fun w q2 e => ?_⟩
          · have e := (e0 _).mp e
            cases z2 : pW P [99, 107, 32] q with
            | inl q3 => rw [z2] at e; cases e; have := k1 q2 z2; omega
            | inr q3 => rw [z2] at e; cases e
          · have e := (e0 _).mp e
            cases z2 : pW P [99, 107, 32] q with
            | inl q3 => rw [z2] at e; cases e
            | inr q3 => rw [z2] at e; cases e; have := k2 q2 z2; omega
theorem PC_ex (h : PL P L) {p : Nat} (hp : p ≤ L) : ∃ r, PC P p r := by
  cases z : pH P p with
  | inl q => exact ⟨_, Or.inl ⟨q, z, rfl⟩⟩
  | inr y =>
    obtain ⟨w, q⟩ := y
    cases z2 : pN P q with
    | inl q2 => exact ⟨_, Or.inr ⟨w, q, z, Or.inl ⟨q2, z2, rfl⟩⟩⟩
    | inr y2 =>
      obtain ⟨q2, n⟩ := y2
      by_cases c : 2 ≤ w
      · exact ⟨_, Or.inr ⟨w, q, z, Or.inr ⟨q2, n, z2, Or.inl ⟨c, rfl⟩⟩⟩⟩
      · by_cases c2 : P q2 = 32
        · have hl := h.lt (i := q2) (by omega)
          obtain ⟨x, hx⟩ := PX_ex h false false 0 (q2 + 1) (by omega)
          cases x with
          | inl q3 => exact ⟨_, Or.inr ⟨w, q, z, Or.inr ⟨q2, n, z2, Or.inr (Or.inr ⟨by omega, c2, Or.inl ⟨q3, hx, rfl⟩⟩)⟩⟩⟩
          | inr y3 => exact ⟨_, Or.inr ⟨w, q, z, Or.inr ⟨q2, n, z2, Or.inr (Or.inr ⟨by omega, c2, Or.inr ⟨y3.1, y3.2, hx, rfl⟩⟩)⟩⟩⟩
        · exact ⟨_, Or.inr ⟨w, q, z, Or.inr ⟨q2, n, z2, Or.inr (Or.inl ⟨by omega, c2, rfl⟩)⟩⟩⟩
theorem PC_l (h : PL P L) {p q : Nat} (hp : p ≤ L) (x : PC P p (.inl q)) : p ≤ q ∧ q ≤ L := by
  obtain ⟨g1, g2⟩ := pH_le h hp
  rcases x with ⟨q0, a, e⟩ | ⟨w, q0, a, ⟨q2, b, e⟩ | ⟨q2, n, b, ⟨c, e⟩ | ⟨c, d, e⟩ | ⟨c, d, ⟨q3, f, e⟩ | ⟨q3, l, f, e⟩⟩⟩⟩
  · cases e; exact g1 q a
  · cases e
    have k := g2 w q0 a
    have := pN_l h (by omega) b
    omega
  · cases e
  · cases e
    have k := g2 w q0 a
    have := pN_r h b
    omega
  · cases e
    have k := g2 w q0 a
    have k2 := pN_r h b
    have hl := h.lt (i := q2) (by omega)
    have := PX_l h f (by omega)
    omega
  · cases e
theorem PC_r (h : PL P L) {p q : Nat} {c : CLA} (hp : p ≤ L) (x : PC P p (.inr (q, c))) : p < q ∧ q ≤ L ∧ c.1 ≤ 3 ∧ c.2.1 ≤ 99 := by
  obtain ⟨g1, g2⟩ := pH_le h hp
  rcases x with ⟨q0, a, e⟩ | ⟨w, q0, a, ⟨q2, b, e⟩ | ⟨q2, n, b, ⟨c, e⟩ | ⟨c, d, e⟩ | ⟨c, d, ⟨q3, f, e⟩ | ⟨q3, l, f, e⟩⟩⟩⟩
  · cases e
  · cases e
  · cases e
    have k := g2 w q0 a
    have := pN_r h b
    exact ⟨by omega, by omega, k.2.2, this.2.2⟩
  · cases e
  · cases e
  · cases e
    have k := g2 w q0 a
    have k2 := pN_r h b
    have hl := h.lt (i := q2) (by omega)
    have := PX_r h f (by omega)
    exact ⟨by omega, by omega, k.2.2, k2.2.2⟩
theorem PG_ex (h : PL P L) : ∀ k p, p ≤ L → ∃ r, PG P L k p r := by
  intro k
  induction k with
  | zero =>
    intro p hp
    obtain ⟨x, hx⟩ := PC_ex h hp
    cases x with
    | inl q => exact ⟨_, Or.inl ⟨q, hx, rfl⟩⟩
    | inr y =>
      by_cases e : y.1 = L
      · exact ⟨_, Or.inr ⟨y.1, y.2, hx, Or.inl ⟨e, rfl⟩⟩⟩
      · exact ⟨_, Or.inr ⟨y.1, y.2, hx, Or.inr ⟨e, rfl⟩⟩⟩
  | succ k ih =>
    intro p hp
    obtain ⟨x, hx⟩ := PC_ex h hp
    cases x with
    | inl q => exact ⟨_, Or.inl ⟨q, hx, rfl⟩⟩
    | inr y =>
      by_cases e : y.1 = L
      · exact ⟨_, Or.inr ⟨y.1, y.2, hx, Or.inl ⟨e, rfl⟩⟩⟩
      · by_cases e2 : P y.1 = 59
        · have hl := h.lt (i := y.1) (by omega)
          obtain ⟨r, hr⟩ := ih (y.1 + 1) (by omega)
          cases r with
          | inl q2 => exact ⟨_, Or.inr ⟨y.1, y.2, hx, Or.inr (Or.inr ⟨e, e2, Or.inl ⟨q2, hr, rfl⟩⟩)⟩⟩
          | inr cs => exact ⟨_, Or.inr ⟨y.1, y.2, hx, Or.inr (Or.inr ⟨e, e2, Or.inr ⟨cs, hr, rfl⟩⟩)⟩⟩
        · exact ⟨_, Or.inr ⟨y.1, y.2, hx, Or.inr (Or.inl ⟨e, e2, rfl⟩)⟩⟩
end PA2
