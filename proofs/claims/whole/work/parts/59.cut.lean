/-! ===== cut ===== -/
/-- the set of three cells, as bits; how many it has -/
def tw (a b c : Nat) : Nat := if a = b then (if b = c then 2 ^ a else 2 ^ a + 2 ^ c) else if b = c then 2 ^ a + 2 ^ b else 2 ^ a + 2 ^ b + 2 ^ c
def tk (a b c : Nat) : Nat := if a = b then (if b = c then 1 else 2) else if b = c then 2 else 3
def ky (a b c : Nat) : Nat := tk a b c * 65536 + tw a b c
def TT (a b c : Nat) : Prop := a < 16 ∧ b ≤ a ∧ c ≤ b
theorem set_e : ∀ a, a < 16 → ∀ b, b < a + 1 → ∀ c, c < b + 1 → (((1 : Int32) <<< (nI a &&& 31)) ||| ((1 : Int32) <<< (nI b &&& 31)) ||| ((1 : Int32) <<< (nI c &&& 31))) = nI (tw a b c) ∧ fn_J6_bitCount_0f7a4 (nI (tw a b c)) = nI (tk a b c) ∧ tw a b c < 65536 := by decide +kernel
theorem tk_le (a b c : Nat) : 1 ≤ tk a b c ∧ tk a b c ≤ 3 := by
  unfold tk
  by_cases h : a = b
  · rw [if_pos h]
    by_cases h2 : b = c
    · rw [if_pos h2]; omega
    · rw [if_neg h2]; omega
  · rw [if_neg h]
    by_cases h2 : b = c
    · rw [if_pos h2]; omega
    · rw [if_neg h2]; omega
theorem sub3 : ∀ a, a < 4 → ∀ b, b < 4 → ((nI a - nI b < 0) = (a < b)) ∧ ((nI a - nI b = 0) = (a = b)) := by
  intro a ha b hb
  have := (by decide +kernel : ∀ a, a < 4 → ∀ b, b < 4 → ((nI a - nI b < 0) ↔ (a < b)) ∧ ((nI a - nI b = 0) ↔ (a = b))) a ha b hb
  exact ⟨propext this.1, propext this.2⟩
section CT1
variable {a b c x y z : Nat} {best : Int32} {K : Nat → Bool} {Pr Pr' : Nat → Nat → Nat → Prop}
theorem TT.e (h : TT a b c) : (((1 : Int32) <<< (nI a &&& 31)) ||| ((1 : Int32) <<< (nI b &&& 31)) ||| ((1 : Int32) <<< (nI c &&& 31))) = nI (tw a b c) ∧ fn_J6_bitCount_0f7a4 (nI (tw a b c)) = nI (tk a b c) ∧ tw a b c < 65536 :=
  set_e a h.1 b (by have := h.2.1; omega) c (by have := h.2.2; omega)
theorem less_e (h : TT a b c) (h2 : TT x y z) : fn_X8_isLess (nI (tw a b c)) (nI (tw x y z)) = if ky a b c < ky x y z then 1 else 0 := by
  obtain ⟨-, e2, e3⟩ := h.e
  obtain ⟨-, f2, f3⟩ := h2.e
  have k1 := tk_le a b c
  have k2 := tk_le x y z
  obtain ⟨s1, s2⟩ := sub3 (tk a b c) (by omega) (tk x y z) (by omega)
  unfold fn_X8_isLess
  rw [if_pos (nI_pos' (by omega)), e2, f2, nm_eq]
  by_cases q : tk a b c < tk x y z
  · rw [if_pos (by rw [s1]; exact q), if_pos (by unfold ky; omega)]
  · rw [if_neg (by rw [s1]; exact q)]
    by_cases q2 : tk a b c = tk x y z
    · rw [if_pos (by rw [s2]; exact q2)]
      by_cases q3 : tw x y z ≤ tw a b c
      · rw [if_pos (nI_le q3 (by omega)), if_neg (by unfold ky; omega)]
      · rw [if_neg (by rw [nI_leI (by omega) (by omega)]; exact q3), if_pos (by unfold ky; omega)]
    · rw [if_neg (by rw [s2]; exact q2), if_neg (by unfold ky; omega)]
/-- the best of those that Pr names -/
def BI (K : Nat → Bool) (Pr : Nat → Nat → Nat → Prop) (best : Int32) : Prop := (best = -5 ∧ ∀ x y z, TT x y z → Pr x y z → K (tw x y z) = false) ∨ ∃ a b c, TT a b c ∧ best = nI (tw a b c) ∧ K (tw a b c) = true ∧ ∀ x y z, TT x y z → Pr x y z → K (tw x y z) = true → ky a b c ≤ ky x y z
theorem BI.congr (h : BI K Pr best) (hp : ∀ x y z, TT x y z → Pr' x y z → Pr x y z) : BI K Pr' best := by
  rcases h with ⟨h1, h2⟩ | ⟨a, b, c, h1, h2, h3, h4⟩
  · exact Or.inl ⟨h1, fun x y z q1 q2 => h2 x y z q1 (hp x y z q1 q2)⟩
  · exact Or.inr ⟨a, b, c, h1, h2, h3, fun x y z q1 q2 => h4 x y z q1 (hp x y z q1 q2)⟩
/-- is one cut off by the set v -/
def kuP (b : Nat → Bool) (lp : Bool) (v : Nat) : Bool := (fw (fun c => b c && !v.testBit c) lp nearB farB).isNone
theorem fw_lt {b : Nat → Bool} {lp : Bool} {s t : Nat → Bool} : ∀ n, fw b lp s t = some n → n < 2 ^ 31 := fun n e => by
  have : n < 16 := (lst_s e).1
  omega
theorem cut_f {bb : Nat → Bool} {lp : Bool} {v : Nat} (hv : v < 65536) : ∃ r, fn_X8_fewest 4369 34952 (mkb bb &&& (nI v ^^^ (-1))) (lI lp) = some r ∧ (0 ≤ r ↔ kuP bb lp v = false) := by
  refine ⟨iI (fw (fun c => bb c && !v.testBit c) lp nearB farB), ?_, ?_⟩
  · rw [nI_mkb hv, mkb_andn, mkb_near, mkb_far, fewest_e]; rfl
  · rw [iI_pos fw_lt]
    unfold kuP
    cases fw (fun c => bb c && !v.testBit c) lp nearB farB with
    | none => exact ⟨fun h => absurd rfl h, fun h => by cases h⟩
    | some n => exact ⟨fun _ => rfl, fun _ h => by cases h⟩
set_option maxHeartbeats 1000000 in
theorem cut38_step {bb : Nat → Bool} {lp : Bool} (hT : TT a b c) (hB : BI (kuP bb lp) Pr best) : ∃ best', lp_X8_leastCut_38 (mkb bb) (lI lp) (nI a) (nI b) best (nI c) = some (.inl (best', nI (c + 1))) ∧ BI (kuP bb lp) (fun x y z => Pr x y z ∨ (x = a ∧ y = b ∧ z = c)) best' := by
  obtain ⟨e1, e2, e3⟩ := hT.e
  have hc := hT.2.2
  have ha := hT.1
  have hb := hT.2.1
  have f1 : ¬ nI b < nI c := nI_nlt (by omega) (by omega)
  obtain ⟨r, r1, r2⟩ := cut_f (bb := bb) (lp := lp) e3
  have keep : kuP bb lp (tw a b c) = false → BI (kuP bb lp) (fun x y z => Pr x y z ∨ (x = a ∧ y = b ∧ z = c)) best := by
    intro k
    rcases hB with ⟨h1, h2⟩ | ⟨a', b', c', h1, h2, h3, h4⟩
    · refine Or.inl ⟨h1, fun x y z q1 q2 => ?_⟩
      rcases q2 with q2 | ⟨rfl, rfl, rfl⟩
      · exact h2 x y z q1 q2
      · exact k
    · refine Or.inr ⟨a', b', c', h1, h2, h3, fun x y z q1 q2 q3 => ?_⟩
      rcases q2 with q2 | ⟨rfl, rfl, rfl⟩
      · exact h4 x y z q1 q2 q3
      · rw [k] at q3; cases q3
  unfold lp_X8_leastCut_38
  rw [if_neg f1, e1, nm_eq]
  rcases hB with ⟨h1, h2⟩ | ⟨a', b', c', h1, h2, h3, h4⟩
  · have l : ¬ fn_X8_isLess (nI (tw a b c)) best = 0 := by
      rw [h1]
      unfold fn_X8_isLess
      rw [if_neg (by decide)]
      decide
    rw [if_neg l, bnd_e r1]
    by_cases q : 0 ≤ r
    · rw [if_pos q, nm_eq, nI_1]
      exact ⟨best, rfl, keep (r2.mp q)⟩
    · rw [if_neg q, nm_eq, nI_1]
      have k : kuP bb lp (tw a b c) = true := by
        cases e : kuP bb lp (tw a b c) with
        | true => rfl
        | false => exact absurd (r2.mpr e) q
      refine ⟨_, rfl, Or.inr ⟨a, b, c, hT, rfl, k, fun x y z q1 q2 q3 => ?_⟩⟩
      rcases q2 with q2 | ⟨rfl, rfl, rfl⟩
      · rw [h2 x y z q1 q2] at q3; cases q3
      · exact Nat.le_refl _
  · have l := less_e hT h1
    rw [h2]
    by_cases q0 : ky a b c < ky a' b' c'
    · rw [if_pos q0] at l
      rw [if_neg (by rw [l]; decide), bnd_e r1]
      by_cases q : 0 ≤ r
      · rw [if_pos q, nm_eq, nI_1]
        rw [h2] at keep
        exact ⟨_, rfl, keep (r2.mp q)⟩
      · rw [if_neg q, nm_eq, nI_1]
        have k : kuP bb lp (tw a b c) = true := by
          cases e : kuP bb lp (tw a b c) with
          | true => rfl
          | false => exact absurd (r2.mpr e) q
        refine ⟨_, rfl, Or.inr ⟨a, b, c, hT, rfl, k, fun x y z q1 q2 q3 => ?_⟩⟩
        rcases q2 with q2 | ⟨rfl, rfl, rfl⟩
        · have := h4 x y z q1 q2 q3; omega
        · exact Nat.le_refl _
    · rw [if_neg q0] at l
      rw [if_pos l, nm_eq, nI_1]
      refine ⟨_, rfl, Or.inr ⟨a', b', c', h1, rfl, h3, fun x y z q1 q2 q3 => ?_⟩⟩
      rcases q2 with q2 | ⟨rfl, rfl, rfl⟩
      · exact h4 x y z q1 q2 q3
      · omega
def L3 (a b c x y z : Nat) : Prop := x < a ∨ (x = a ∧ (y < b ∨ (y = b ∧ z < c)))
def L2 (a b x y _z : Nat) : Prop := x < a ∨ (x = a ∧ y < b)
def L1 (a x _y _z : Nat) : Prop := x < a
theorem cut38_loop {bb : Nat → Bool} {lp : Bool} (ha : a < 16) (hb : b ≤ a) (hB : BI (kuP bb lp) (L2 a b) best) : ∃ best', itr (fun s38 : Int32 × Int32 => lp_X8_leastCut_38 (mkb bb) (lI lp) (nI a) (nI b) s38.1 s38.2) FU (best, 0) = some best' ∧ BI (kuP bb lp) (L2 a (b + 1)) best' := by
  have loop := itr_J (f := fun s38 : Int32 × Int32 => lp_X8_leastCut_38 (mkb bb) (lI lp) (nI a) (nI b) s38.1 s38.2) (s0 := (best, 0)) (fun c s => c ≤ b + 1 ∧ ∃ q, s = (q, nI c) ∧ BI (kuP bb lp) (L3 a b c) q) (fun r => BI (kuP bb lp) (L2 a (b + 1)) r) 17
    ⟨Nat.zero_le _, best, rfl, hB.congr fun x y z _ q => by unfold L3 at q; unfold L2; omega⟩
    (fun c s hs => by
      obtain ⟨hc, q, rfl, hq⟩ := hs
      show (∃ r, lp_X8_leastCut_38 (mkb bb) (lI lp) (nI a) (nI b) q (nI c) = some (.inr r) ∧ _) ∨ _ ∧ ∃ s', lp_X8_leastCut_38 (mkb bb) (lI lp) (nI a) (nI b) q (nI c) = some (.inl s') ∧ _
      by_cases e : c = b + 1
      · left
        subst e
        refine ⟨q, ?_, hq.congr fun x y z t p => by unfold L2 at p; unfold L3; have := t.2.2; omega⟩
        unfold lp_X8_leastCut_38
        rw [if_pos (nI_lt (by omega) (by omega))]
      · right
        obtain ⟨q', h1, h2⟩ := cut38_step (a := a) (b := b) (c := c) ⟨ha, hb, by omega⟩ hq
        exact ⟨by omega, _, h1, by omega, q', rfl, h2.congr fun x y z _ p => by unfold L3 at p ⊢; omega⟩) (by decide)
  obtain ⟨r, h1, h2⟩ := loop
  exact ⟨r, h1, h2⟩
theorem cut29_loop {bb : Nat → Bool} {lp : Bool} (ha : a < 16) (hB : BI (kuP bb lp) (L1 a) best) : ∃ best', itr (fun s29 : Int32 × Int32 => lp_X8_leastCut_29 (mkb bb) (lI lp) (nI a) s29.1 s29.2) FU (best, 0) = some best' ∧ BI (kuP bb lp) (L1 (a + 1)) best' := by
  have loop := itr_J (f := fun s29 : Int32 × Int32 => lp_X8_leastCut_29 (mkb bb) (lI lp) (nI a) s29.1 s29.2) (s0 := (best, 0)) (fun b s => b ≤ a + 1 ∧ ∃ q, s = (q, nI b) ∧ BI (kuP bb lp) (L2 a b) q) (fun r => BI (kuP bb lp) (L1 (a + 1)) r) 17
    ⟨Nat.zero_le _, best, rfl, hB.congr fun x y z _ q => by unfold L2 at q; unfold L1; omega⟩
    (fun b s hs => by
      obtain ⟨hb, q, rfl, hq⟩ := hs
      show (∃ r, lp_X8_leastCut_29 (mkb bb) (lI lp) (nI a) q (nI b) = some (.inr r) ∧ _) ∨ _ ∧ ∃ s', lp_X8_leastCut_29 (mkb bb) (lI lp) (nI a) q (nI b) = some (.inl s') ∧ _
      by_cases e : b = a + 1
      · left
        subst e
        refine ⟨q, ?_, hq.congr fun x y z t p => by unfold L1 at p; unfold L2; have := t.2.1; omega⟩
        unfold lp_X8_leastCut_29
        rw [if_pos (nI_lt (by omega) (by omega))]
      · right
        obtain ⟨q', h1, h2⟩ := cut38_loop (a := a) (b := b) ha (by omega) hq
        refine ⟨by omega, (q', nI (b + 1)), ?_, by omega, q', rfl, h2⟩
        unfold lp_X8_leastCut_29
        rw [if_neg (nI_nlt (by omega) (by omega)), bnd_e h1, nm_eq, nI_1]) (by decide)
  obtain ⟨r, h1, h2⟩ := loop
  exact ⟨r, h1, h2⟩
theorem cut20_loop {bb : Nat → Bool} {lp : Bool} : ∃ best', itr (fun s20 : Int32 × Int32 => lp_X8_leastCut_20 (mkb bb) (lI lp) s20.1 s20.2) FU ((-5), 0) = some best' ∧ BI (kuP bb lp) (fun _ _ _ => True) best' := by
  have loop := itr_J (f := fun s20 : Int32 × Int32 => lp_X8_leastCut_20 (mkb bb) (lI lp) s20.1 s20.2) (s0 := ((-5), 0)) (fun a s => a ≤ 16 ∧ ∃ q, s = (q, nI a) ∧ BI (kuP bb lp) (L1 a) q) (fun r => BI (kuP bb lp) (fun _ _ _ => True) r) 16
    ⟨Nat.zero_le _, -5, rfl, Or.inl ⟨rfl, fun x y z _ q => absurd q (Nat.not_lt_zero _)⟩⟩
    (fun a s hs => by
      obtain ⟨ha, q, rfl, hq⟩ := hs
      show (∃ r, lp_X8_leastCut_20 (mkb bb) (lI lp) q (nI a) = some (.inr r) ∧ _) ∨ _ ∧ ∃ s', lp_X8_leastCut_20 (mkb bb) (lI lp) q (nI a) = some (.inl s') ∧ _
      by_cases e : a = 16
      · left
        subst e
        refine ⟨q, ?_, hq.congr fun x y z t p => t.1⟩
        unfold lp_X8_leastCut_20
        rw [if_pos (by decide)]
      · right
        obtain ⟨q', h1, h2⟩ := cut29_loop (a := a) (by omega) hq
        refine ⟨by omega, (q', nI (a + 1)), ?_, by omega, q', rfl, h2⟩
        unfold lp_X8_leastCut_20
        rw [if_neg (n16 (by omega)), bnd_e h1, nm_eq, nI_1]) (by decide)
  obtain ⟨r, h1, h2⟩ := loop
  exact ⟨r, h1, h2⟩
/-! the reference -/
/-- sets of so many cells, each once -/
def CTu (u a b c : Nat) : Prop := a < 16 ∧ (if u ≤ 1 then b = a else b < a) ∧ (if u ≤ 2 then c = b else c < b)
theorem CTu.t {u : Nat} (h : CTu u a b c) : TT a b c := by
  obtain ⟨h1, h2, h3⟩ := h
  refine ⟨h1, ?_, ?_⟩
  · by_cases q : u ≤ 1
    · rw [if_pos q] at h2; omega
    · rw [if_neg q] at h2; omega
  · by_cases q : u ≤ 2
    · rw [if_pos q] at h3; omega
    · rw [if_neg q] at h3; omega
theorem CTu.k {u : Nat} (h : CTu u a b c) (hu : 1 ≤ u ∧ u ≤ 3) : tk a b c = u := by
  obtain ⟨h1, h2, h3⟩ := h
  unfold tk
  rcases (by omega : u = 1 ∨ u = 2 ∨ u = 3) with rfl | rfl | rfl
  · rw [if_pos (by decide)] at h2 h3
    rw [if_pos h2.symm, if_pos h3.symm]
  · rw [if_neg (by decide)] at h2
    rw [if_pos (by decide)] at h3
    rw [if_neg (by omega), if_pos h3.symm]
  · rw [if_neg (by decide)] at h2
    rw [if_neg (by decide)] at h3
    rw [if_neg (by omega), if_neg (by omega)]
/-- any set is one of them -/
theorem TT.ct (h : TT a b c) : ∃ x y z, CTu (tk a b c) x y z ∧ tw x y z = tw a b c := by
  obtain ⟨h1, h2, h3⟩ := h
  by_cases q : a = b
  · by_cases q2 : b = c
    · refine ⟨a, b, c, ⟨h1, ?_, ?_⟩, rfl⟩
      · unfold tk; rw [if_pos q, if_pos q2, if_pos (by decide)]; exact q.symm
      · unfold tk; rw [if_pos q, if_pos q2, if_pos (by decide)]; exact q2.symm
    · refine ⟨a, c, c, ⟨h1, ?_, ?_⟩, ?_⟩
      · unfold tk; rw [if_pos q, if_neg q2, if_neg (by decide)]; omega
      · unfold tk; rw [if_pos q, if_neg q2]; rfl
      · unfold tw; rw [if_pos q, if_neg q2, if_neg (by omega), if_pos rfl]
  · by_cases q2 : b = c
    · refine ⟨a, b, c, ⟨h1, ?_, ?_⟩, rfl⟩
      · unfold tk; rw [if_neg q, if_pos q2, if_neg (by decide)]; omega
      · unfold tk; rw [if_neg q, if_pos q2, if_pos (by decide)]; exact q2.symm
    · refine ⟨a, b, c, ⟨h1, ?_, ?_⟩, rfl⟩
      · unfold tk; rw [if_neg q, if_neg q2, if_neg (by decide)]; omega
      · unfold tk; rw [if_neg q, if_neg q2, if_neg (by decide)]; omega
theorem pow_lt {m n : Nat} (h : m < n) : 2 ^ m < 2 ^ n := Nat.pow_lt_pow_right (by decide) h
theorem pow_s (n : Nat) : 2 ^ (n + 1) = 2 ^ n + 2 ^ n := by rw [Nat.pow_succ]; omega
theorem pow_le2 {m n : Nat} (h : m < n) : 2 ^ m + 2 ^ m ≤ 2 ^ n := by
  rw [← pow_s]; exact Nat.pow_le_pow_right (by decide) h
/-- in the order of the loops they grow -/
theorem CTu.lt {u : Nat} (h : CTu u x y z) (h2 : CTu u a b c) (hu : 1 ≤ u ∧ u ≤ 3) (hl : L3 a b c x y z) : tw x y z < tw a b c := by
  obtain ⟨g1, g2, g3⟩ := h
  obtain ⟨f1, f2, f3⟩ := h2
  unfold L3 at hl
  rcases (by omega : u = 1 ∨ u = 2 ∨ u = 3) with rfl | rfl | rfl
  · rw [if_pos (by decide)] at g2 g3 f2 f3
    unfold tw
    rw [if_pos g2.symm, if_pos g3.symm, if_pos f2.symm, if_pos f3.symm]
    exact pow_lt (by omega)
  · rw [if_neg (by decide)] at g2 f2
    rw [if_pos (by decide)] at g3 f3
    unfold tw
    rw [if_neg (by omega), if_pos g3.symm, if_neg (by omega), if_pos f3.symm]
    have p1 := pow_lt g2
    have p2 := pow_lt f2
    by_cases q : x < a
    · have := pow_le2 q
      have := Nat.two_pow_pos b
      omega
    · have hx : x = a := by omega
      have := pow_lt (by omega : y < b)
      rw [hx]; omega
  · rw [if_neg (by decide)] at g2 f2 g3 f3
    unfold tw
    rw [if_neg (by omega), if_neg (by omega), if_neg (by omega), if_neg (by omega)]
    have p1 := pow_le2 g2
    have p2 := pow_le2 f2
    have p3 := pow_lt g3
    have p4 := pow_lt f3
    have z1 := Nat.two_pow_pos b
    have z2 := Nat.two_pow_pos c
    have z3 := Nat.two_pow_pos z
    by_cases q : x < a
    · have := pow_le2 q
      omega
    · have hx : x = a := by omega
      rw [hx]
      by_cases q2 : y < b
      · have := pow_le2 q2
        omega
      · have hy : y = b := by omega
        have := pow_lt (by omega : z < c)
        rw [hy]; omega
def MI (K : Nat → Bool) (u : Nat) (Pr : Nat → Nat → Nat → Prop) (found : Int32) : Prop := (found = -5 ∧ ∀ x y z, CTu u x y z → Pr x y z → K (tw x y z) = false) ∨ ∃ a b c, CTu u a b c ∧ found = nI (tw a b c) ∧ K (tw a b c) = true ∧ ∀ x y z, CTu u x y z → L3 a b c x y z → K (tw x y z) = false
theorem MI.congr {u : Nat} (h : MI K u Pr best) (hp : ∀ x y z, CTu u x y z → Pr' x y z → Pr x y z) : MI K u Pr' best := by
  rcases h with ⟨h1, h2⟩ | h
  · exact Or.inl ⟨h1, fun x y z q1 q2 => h2 x y z q1 (hp x y z q1 q2)⟩
  · exact Or.inr h
end CT1
section CT2
variable {M N Mw : QM} {o w m p a b c u : Nat} {G : GG} {S : Nat → Int32} {f : Int32}
/-- a number that only cut uses -/
theorem BRW.cu (h : BRW M o G) {v : Int32} : BRW (sI M (o + 78) 25 v) o G := by
  obtain ⟨nb, e, e2, a1, a2, a3, a4, a5, a6⟩ := h
  have un : ∀ a k, ¬ (a = 78 ∧ k = 25) → mI (sI M (o + 78) 25 v) (o + a) k = mI M (o + a) k := fun a k q => by rw [mI_sI, if_neg (by omega)]
  refine ⟨nb, e, e2, a1, a2, a3, a4, ?_, ?_⟩
  · rw [un 78 8 (by omega), un 78 45 (by omega)]; exact a5
  · intro x hx
    obtain ⟨b1, b2, cl, b3, b4, b5⟩ := a6 x hx
    have hh := hA_ge x
    refine ⟨b1, ⟨fun i hi => ?_, ?_, ?_⟩, cl, b3, b4, ?_⟩
    · rw [un _ _ (by omega)]; exact b2.1 i hi
    · rw [un _ _ (by omega)]; exact b2.2.1
    · rw [un _ _ (by omega)]; exact b2.2.2
    · intro b hb
      have e5 : ∀ r, 85 ≤ r → r ≤ 90 → mI (sI M (o + 78) 25 v) (o + r) = mI M (o + r) := fun r r1 r2 => funext fun k => un r k (by omega)
      rw [e5 85 (by omega) (by omega), e5 86 (by omega) (by omega), e5 87 (by omega) (by omega), e5 88 (by omega) (by omega), e5 89 (by omega) (by omega), e5 90 (by omega) (by omega)]
      exact b5 b hb
theorem MW.cu (h : MW M o G w) {v : Int32} : MW (sI M (o + 78) 25 v) o G w := by
  obtain ⟨h1, ⟨h2, h2'⟩, h3, h4⟩ := h
  have un : ∀ a k, ¬ (a = 78 ∧ k = 25) → mI (sI M (o + 78) 25 v) (o + a) k = mI M (o + a) k := fun a k q => by rw [mI_sI, if_neg (by omega)]
  refine ⟨h1, ⟨(un 78 0 (by omega)).trans h2, h2'⟩, fun p hp => ?_, h4.cu⟩
  obtain ⟨g1, g2, g3, g4⟩ := h3 p hp
  exact ⟨(un _ _ (by omega)).trans g1, (un _ _ (by omega)).trans g2, (un _ _ (by omega)).trans g3, fun r hr => (un _ _ (by omega)).trans (g4 r hr)⟩
set_option maxHeartbeats 1000000 in
theorem cutBy_m (h : MW M o G w) (hF : FV S m M o) (h0 : mI M (o + 78) 25 = 0) (hp : p < w) {v : Nat} (hv : v < 65536) : ∃ M1, fn_X9_isCutBy M (o + 78) (nI p) (nI v) = some (lI (kuP (brG G S p) (lpK (G 2 p)) v), M1) ∧ SQ M M1 o ZB := by
  have hS := h.1
  have hw := h.2.1
  have mw2 : MW (sI M (o + 78) 25 (nI v)) o G w := h.cu
  have hF2 : FV S m (sI M (o + 78) 25 (nI v)) o := hF.fr (fun c _ => by rw [mI_sI, if_neg (by omega)]) (by rw [mI_sI, if_neg (by omega)])
  have v2 : mI (sI M (o + 78) 25 (nI v)) (o + 78) 25 = nI v := by rw [mI_sI, if_pos ⟨rfl, rfl⟩]
  obtain ⟨M1, h1, h2⟩ := cross_e (b := fun c => brG G S p c && !v.testBit c) (kd := G 2 p) mw2.1 (by omega : p < 5) (mw2.2.2.1 p hp).1 (fun N hN c hc => bears_m0 (cm := fun c => v.testBit c) (mw2.sc (hN.mono ZB_scr)) (hF2.zb hN) (by rw [hN.2.2.2.2 78 25 (by unfold ZB; omega), v2, nI_mkb hv]; exact has_mkb hc) hp hc)
  have hS1 := h2.shp mw2.1
  refine ⟨sI M1 (o + 78) 25 0, ?_, ?_⟩
  · have e : fn_X9_canCross (sI M (o + 78) 25 (nI v)) (o + 78) (nI p) = some (lI (!kuP (brG G S p) (lpK (G 2 p)) v), M1) := by
      unfold fn_X9_canCross
      rw [bnd_e h1]
      show (if iI (fw (fun c => brG G S p c && !v.testBit c) (lpK (G 2 p)) nearB farB) < 0 then some (0, M1) else some (1, M1)) = _
      unfold kuP
      cases q : fw (fun c => brG G S p c && !v.testBit c) (lpK (G 2 p)) nearB farB with
      | none => rfl
      | some n => rw [if_neg (show ¬ iI (some n) < 0 from nI_pos (fw_lt n q))]; rfl
    cases q : kuP (brG G S p) (lpK (G 2 p)) v with
    | false =>
      rw [q] at e
      simp only [fn_X9_isCutBy, e, Bool.not_false, lI_t, lI_f, mt_sI, mt_sJ, mt_sP, mt_rI, mt_rJ, ml_sI, ml_sJ, ml_sP, ml_rI, ml_rJ, mP_sI, mP_sJ, mP_rI, mP_rJ, SHP_sI, SHP_sJ, SHP_rI, SHP_rJ, mI_sI, mI_rI, mI_sJ, mI_rJ, mI_sP, mJ_sI, mJ_rI, mJ_sP, mJ_sJ, mJ_rJ, gI_e, pI_e, ck_e, bnd_s, nm_eq, pr2_e, cnul_0, cnul_1, drf_1, sm_1, sm_2, aI_e, aJ_e, wI_e, wJ_e, aL_e, cpI_e, cpJ_e, Nat.reduceLeDiff, Nat.reduceEqDiff, Nat.add_left_cancel_iff, ad0, ad1, false_and, and_false, true_and, and_true, reduceIte, if_true, if_false, zb0, zb1, Int32.reduceLT, Int32.reduceLE, i10, nw1, nw2, nt1, nt2, not_true_eq_false, not_false_eq_true, mt_78, mt_79, ml_79, mt_80, ml_80, mt_81, ml_81, mt_82, ml_82, mt_83, ml_83, mt_84, ml_84, mt_85, ml_85, mt_86, ml_86, mt_87, ml_87, mt_88, ml_88, mt_89, ml_89, mt_90, ml_90, mt_91, ml_91, mt_92, ml_92, mt_93, ml_93, mt_94, ml_94, mt_95, ml_95, mt_96, ml_96, mt_97, ml_97, mt_98, ml_98, mt_99, ml_99, mt_100, ml_100, mt_101, ml_101, mt_102, ml_102, mt_103, ml_103, mt_104, ml_104, mt_105, ml_105, mt_106, ml_106, mt_107, ml_107, mt_108, ml_108, mt_109, ml_109, mt_110, ml_110, mt_111, ml_111, mt_112, ml_112, mt_113, ml_113, mt_114, ml_114, mt_115, ml_115, mt_116, ml_116, mt_117, ml_117, mt_118, ml_118, mt_119, ml_119, mt_120, ml_120, mt_121, ml_121, mt_122, ml_122, mt_123, ml_123, gP_78_2, gP_78_3, gP_78_4, gP_78_5, gP_78_6, gP_78_12, gP_78_13, gP_78_14, gP_78_15, gP_78_16, gP_78_17, gP_78_18, gP_78_19, gP_78_23, gP_78_24, gP_78_26, gP_78_27, gP_78_28, gP_78_31, gP_78_32, gP_78_34, gP_78_35, gP_78_36, gP_78_37, gP_78_40, gP_78_41, gP_78_42, gP_78_43, gP_78_52, gP_78_53, gP_78_54, gP_78_55, gP_78_56, gP_78_57, gP_78_58, gP_78_59, gP_78_60, gP_78_61, gP_78_62, gP_78_63, gP_78_65, gP_78_66, gP_78_67, gP_78_68, gP_78_69, hS, hS1]
    | true =>
      rw [q] at e
      simp only [fn_X9_isCutBy, e, Bool.not_true, lI_t, lI_f, mt_sI, mt_sJ, mt_sP, mt_rI, mt_rJ, ml_sI, ml_sJ, ml_sP, ml_rI, ml_rJ, mP_sI, mP_sJ, mP_rI, mP_rJ, SHP_sI, SHP_sJ, SHP_rI, SHP_rJ, mI_sI, mI_rI, mI_sJ, mI_rJ, mI_sP, mJ_sI, mJ_rI, mJ_sP, mJ_sJ, mJ_rJ, gI_e, pI_e, ck_e, bnd_s, nm_eq, pr2_e, cnul_0, cnul_1, drf_1, sm_1, sm_2, aI_e, aJ_e, wI_e, wJ_e, aL_e, cpI_e, cpJ_e, Nat.reduceLeDiff, Nat.reduceEqDiff, Nat.add_left_cancel_iff, ad0, ad1, false_and, and_false, true_and, and_true, reduceIte, if_true, if_false, zb0, zb1, Int32.reduceLT, Int32.reduceLE, i10, nw1, nw2, nt1, nt2, not_true_eq_false, not_false_eq_true, mt_78, mt_79, ml_79, mt_80, ml_80, mt_81, ml_81, mt_82, ml_82, mt_83, ml_83, mt_84, ml_84, mt_85, ml_85, mt_86, ml_86, mt_87, ml_87, mt_88, ml_88, mt_89, ml_89, mt_90, ml_90, mt_91, ml_91, mt_92, ml_92, mt_93, ml_93, mt_94, ml_94, mt_95, ml_95, mt_96, ml_96, mt_97, ml_97, mt_98, ml_98, mt_99, ml_99, mt_100, ml_100, mt_101, ml_101, mt_102, ml_102, mt_103, ml_103, mt_104, ml_104, mt_105, ml_105, mt_106, ml_106, mt_107, ml_107, mt_108, ml_108, mt_109, ml_109, mt_110, ml_110, mt_111, ml_111, mt_112, ml_112, mt_113, ml_113, mt_114, ml_114, mt_115, ml_115, mt_116, ml_116, mt_117, ml_117, mt_118, ml_118, mt_119, ml_119, mt_120, ml_120, mt_121, ml_121, mt_122, ml_122, mt_123, ml_123, gP_78_2, gP_78_3, gP_78_4, gP_78_5, gP_78_6, gP_78_12, gP_78_13, gP_78_14, gP_78_15, gP_78_16, gP_78_17, gP_78_18, gP_78_19, gP_78_23, gP_78_24, gP_78_26, gP_78_27, gP_78_28, gP_78_31, gP_78_32, gP_78_34, gP_78_35, gP_78_36, gP_78_37, gP_78_40, gP_78_41, gP_78_42, gP_78_43, gP_78_52, gP_78_53, gP_78_54, gP_78_55, gP_78_56, gP_78_57, gP_78_58, gP_78_59, gP_78_60, gP_78_61, gP_78_62, gP_78_63, gP_78_65, gP_78_66, gP_78_67, gP_78_68, gP_78_69, hS, hS1]
  · refine ⟨h2.1, h2.2.1, h2.2.2.1, h2.2.2.2.1, fun a k q => ?_⟩
    rw [mI_sI]
    by_cases e : a = 78 ∧ k = 25
    · rw [if_pos ⟨by rw [e.1], e.2⟩, e.1, e.2, h0]
    · rw [if_neg (by omega), h2.2.2.2.2 a k q, mI_sI, if_neg (by omega)]
theorem MW.zb (h : MW M o G w) (hs : SQ M N o ZB) : MW N o G w := h.sc (hs.mono ZB_scr)
set_option maxHeartbeats 1000000 in
theorem cut58_step (h : MW Mw o G w) (hF : FV S m Mw o) (h0 : mI Mw (o + 78) 25 = 0) (hp : p < w) (hu : 1 ≤ u ∧ u ≤ 3) (hT : CTu u a b c) (hM : MI (kuP (brG G S p) (lpK (G 2 p))) u (L3 a b c) f) : ∃ f' M1, lp_X9_leastCut_58 (o + 78) (nI p) (nI u) (nI a) (nI b) f (nI c) Mw = some (.inl (f', nI (c + 1), M1)) ∧ SQ Mw M1 o ZB ∧ MI (kuP (brG G S p) (lpK (G 2 p))) u (L3 a b (c + 1)) f' := by
  have hS := h.1
  obtain ⟨e1, e2, e3⟩ := hT.t.e
  have head : lp_X9_leastCut_58 (o + 78) (nI p) (nI u) (nI a) (nI b) f (nI c) Mw = if 0 ≤ f then some (.inl (f, nI (c + 1), Mw)) else bnd (fn_X9_isCutBy Mw (o + 78) (nI p) (nI (tw a b c))) fun y101 => pr2 y101 fun c101 M101 => if c101 = 0 then some (.inl (f, nI (c + 1), M101)) else some (.inl (nI (tw a b c), nI (c + 1), M101)) := by
    unfold lp_X9_leastCut_58 jn_X9_leastCut_74_58
    rw [e1]
    have tt := hT.t
    have h1 := tt.1
    have h2 := tt.2.1
    have h3 := tt.2.2
    by_cases q : u ≤ 2
    · have q1 : nI u ≤ 2 := nI_le (b := 2) q (by decide)
      have q2 : c = b := by have := hT.2.2; rw [if_pos q] at this; exact this
      have q3 : ¬ nI (b + 1) ≤ nI c := by rw [nI_leI (by omega) (by omega)]; omega
      simp only [q1, q3, nI_1, gI_e, pI_e, ck_e, bnd_s, nm_eq, pr2_e, cnul_0, cnul_1, drf_1, sm_1, sm_2, aI_e, aJ_e, wI_e, wJ_e, aL_e, cpI_e, cpJ_e, Nat.reduceLeDiff, Nat.reduceEqDiff, Nat.add_left_cancel_iff, ad0, ad1, false_and, and_false, true_and, and_true, reduceIte, if_true, if_false, zb0, zb1, Int32.reduceLT, Int32.reduceLE, i10, nw1, nw2, nt1, nt2, not_true_eq_false, not_false_eq_true, mt_78, mt_79, ml_79, mt_80, ml_80, mt_81, ml_81, mt_82, ml_82, mt_83, ml_83, mt_84, ml_84, mt_85, ml_85, mt_86, ml_86, mt_87, ml_87, mt_88, ml_88, mt_89, ml_89, mt_90, ml_90, mt_91, ml_91, mt_92, ml_92, mt_93, ml_93, mt_94, ml_94, mt_95, ml_95, mt_96, ml_96, mt_97, ml_97, mt_98, ml_98, mt_99, ml_99, mt_100, ml_100, mt_101, ml_101, mt_102, ml_102, mt_103, ml_103, mt_104, ml_104, mt_105, ml_105, mt_106, ml_106, mt_107, ml_107, mt_108, ml_108, mt_109, ml_109, mt_110, ml_110, mt_111, ml_111, mt_112, ml_112, mt_113, ml_113, mt_114, ml_114, mt_115, ml_115, mt_116, ml_116, mt_117, ml_117, mt_118, ml_118, mt_119, ml_119, mt_120, ml_120, mt_121, ml_121, mt_122, ml_122, mt_123, ml_123, gP_78_2, gP_78_3, gP_78_4, gP_78_5, gP_78_6, gP_78_12, gP_78_13, gP_78_14, gP_78_15, gP_78_16, gP_78_17, gP_78_18, gP_78_19, gP_78_23, gP_78_24, gP_78_26, gP_78_27, gP_78_28, gP_78_31, gP_78_32, gP_78_34, gP_78_35, gP_78_36, gP_78_37, gP_78_40, gP_78_41, gP_78_42, gP_78_43, gP_78_52, gP_78_53, gP_78_54, gP_78_55, gP_78_56, gP_78_57, gP_78_58, gP_78_59, gP_78_60, gP_78_61, gP_78_62, gP_78_63, gP_78_65, gP_78_66, gP_78_67, gP_78_68, gP_78_69, hS]
    · have q1 : ¬ nI u ≤ 2 := by show ¬ nI u ≤ nI 2; rw [nI_leI (by omega) (by decide)]; exact q
      have q2 : c < b := by have := hT.2.2; rw [if_neg q] at this; exact this
      have q3 : ¬ nI b ≤ nI c := by rw [nI_leI (by omega) (by omega)]; omega
      simp only [q1, q3, nI_1, gI_e, pI_e, ck_e, bnd_s, nm_eq, pr2_e, cnul_0, cnul_1, drf_1, sm_1, sm_2, aI_e, aJ_e, wI_e, wJ_e, aL_e, cpI_e, cpJ_e, Nat.reduceLeDiff, Nat.reduceEqDiff, Nat.add_left_cancel_iff, ad0, ad1, false_and, and_false, true_and, and_true, reduceIte, if_true, if_false, zb0, zb1, Int32.reduceLT, Int32.reduceLE, i10, nw1, nw2, nt1, nt2, not_true_eq_false, not_false_eq_true, mt_78, mt_79, ml_79, mt_80, ml_80, mt_81, ml_81, mt_82, ml_82, mt_83, ml_83, mt_84, ml_84, mt_85, ml_85, mt_86, ml_86, mt_87, ml_87, mt_88, ml_88, mt_89, ml_89, mt_90, ml_90, mt_91, ml_91, mt_92, ml_92, mt_93, ml_93, mt_94, ml_94, mt_95, ml_95, mt_96, ml_96, mt_97, ml_97, mt_98, ml_98, mt_99, ml_99, mt_100, ml_100, mt_101, ml_101, mt_102, ml_102, mt_103, ml_103, mt_104, ml_104, mt_105, ml_105, mt_106, ml_106, mt_107, ml_107, mt_108, ml_108, mt_109, ml_109, mt_110, ml_110, mt_111, ml_111, mt_112, ml_112, mt_113, ml_113, mt_114, ml_114, mt_115, ml_115, mt_116, ml_116, mt_117, ml_117, mt_118, ml_118, mt_119, ml_119, mt_120, ml_120, mt_121, ml_121, mt_122, ml_122, mt_123, ml_123, gP_78_2, gP_78_3, gP_78_4, gP_78_5, gP_78_6, gP_78_12, gP_78_13, gP_78_14, gP_78_15, gP_78_16, gP_78_17, gP_78_18, gP_78_19, gP_78_23, gP_78_24, gP_78_26, gP_78_27, gP_78_28, gP_78_31, gP_78_32, gP_78_34, gP_78_35, gP_78_36, gP_78_37, gP_78_40, gP_78_41, gP_78_42, gP_78_43, gP_78_52, gP_78_53, gP_78_54, gP_78_55, gP_78_56, gP_78_57, gP_78_58, gP_78_59, gP_78_60, gP_78_61, gP_78_62, gP_78_63, gP_78_65, gP_78_66, gP_78_67, gP_78_68, gP_78_69, hS]
  rw [head]
  rcases hM with ⟨h1, h2⟩ | ⟨a', b', c', h1, h2, h3, h4⟩
  · obtain ⟨M1, c1, c2⟩ := cutBy_m h hF h0 hp e3
    rw [if_neg (by rw [h1]; decide), bnd_e c1]
    cases q : kuP (brG G S p) (lpK (G 2 p)) (tw a b c) with
    | false =>
      refine ⟨f, M1, rfl, c2, Or.inl ⟨h1, fun x y z q1 q2 => ?_⟩⟩
      by_cases q3 : L3 a b c x y z
      · exact h2 x y z q1 q3
      · have : x = a ∧ y = b ∧ z = c := by unfold L3 at q2 q3; omega
        rw [this.1, this.2.1, this.2.2]; exact q
    | true => exact ⟨_, M1, rfl, c2, Or.inr ⟨a, b, c, hT, rfl, q, fun x y z q1 q2 => h2 x y z q1 q2⟩⟩
  · have := h1.t.e.2.2
    rw [if_pos (by rw [h2]; exact nI_pos' (by omega))]
    exact ⟨f, Mw, rfl, SQ.rfl, Or.inr ⟨a', b', c', h1, h2, h3, h4⟩⟩
/-- where b and c begin and end -/
def bS (u a : Nat) : Nat := if u ≤ 1 then a else 0
def bE (u a : Nat) : Nat := if u ≤ 1 then a + 1 else a
def cS (u b : Nat) : Nat := if u ≤ 2 then b else 0
def cE (u b : Nat) : Nat := if u ≤ 2 then b + 1 else b
theorem bSE (u a : Nat) : (bS u a = a ∧ bE u a = a + 1 ∧ u ≤ 1) ∨ (bS u a = 0 ∧ bE u a = a ∧ ¬ u ≤ 1) := by
  unfold bS bE
  by_cases q : u ≤ 1
  · rw [if_pos q, if_pos q]; exact Or.inl ⟨rfl, rfl, q⟩
  · rw [if_neg q, if_neg q]; exact Or.inr ⟨rfl, rfl, q⟩
theorem cSE (u b : Nat) : (cS u b = b ∧ cE u b = b + 1 ∧ u ≤ 2) ∨ (cS u b = 0 ∧ cE u b = b ∧ ¬ u ≤ 2) := by
  unfold cS cE
  by_cases q : u ≤ 2
  · rw [if_pos q, if_pos q]; exact Or.inl ⟨rfl, rfl, q⟩
  · rw [if_neg q, if_neg q]; exact Or.inr ⟨rfl, rfl, q⟩
theorem CTu.i : CTu u a b c ↔ a < 16 ∧ (bS u a ≤ b ∧ b < bE u a) ∧ (cS u b ≤ c ∧ c < cE u b) := by
  unfold CTu
  rcases bSE u a with ⟨q1, q2, q3⟩ | ⟨q1, q2, q3⟩ <;> rcases cSE u b with ⟨r1, r2, r3⟩ | ⟨r1, r2, r3⟩
  · rw [q1, q2, r1, r2, if_pos q3, if_pos r3]; omega
  · omega
  · rw [q1, q2, r1, r2, if_neg q3, if_pos r3]; omega
  · rw [q1, q2, r1, r2, if_neg q3, if_neg r3]; omega
theorem cut58_loop (h : MW M o G w) (hF : FV S m M o) (h0 : mI M (o + 78) 25 = 0) (hp : p < w) (hu : 1 ≤ u ∧ u ≤ 3) (ha : a < 16) (hb : bS u a ≤ b ∧ b < bE u a) (hM : MI (kuP (brG G S p) (lpK (G 2 p))) u (L2 a b) f) : ∃ f' M1, itr (fun s58 : Int32 × Int32 × QM => lp_X9_leastCut_58 (o + 78) (nI p) (nI u) (nI a) (nI b) s58.1 s58.2.1 s58.2.2) FU (f, nI (cS u b), M) = some (f', M1) ∧ SQ M M1 o ZB ∧ MI (kuP (brG G S p) (lpK (G 2 p))) u (L2 a (b + 1)) f' := by
  have hce := cSE u b
  have hbe := bSE u a
  have loop := itr_J (f := fun s58 : Int32 × Int32 × QM => lp_X9_leastCut_58 (o + 78) (nI p) (nI u) (nI a) (nI b) s58.1 s58.2.1 s58.2.2) (s0 := (f, nI (cS u b), M)) (fun k s => cS u b + k ≤ cE u b ∧ ∃ q Mw, s = (q, nI (cS u b + k), Mw) ∧ SQ M Mw o ZB ∧ MI (kuP (brG G S p) (lpK (G 2 p))) u (L3 a b (cS u b + k)) q) (fun r => ∃ f' M1, r = (f', M1) ∧ SQ M M1 o ZB ∧ MI (kuP (brG G S p) (lpK (G 2 p))) u (L2 a (b + 1)) f') 17
    ⟨by omega, f, M, rfl, SQ.rfl, hM.congr fun x y z ct q => by
      have ci := CTu.i.mp ct
      unfold L3 at q; unfold L2
      by_cases e : x = a ∧ y = b
      · obtain ⟨rfl, rfl⟩ := e
        omega
      · omega⟩
    (fun k s hs => by
      obtain ⟨hk, q, Mw, rfl, g1, hq⟩ := hs
      show (∃ r, lp_X9_leastCut_58 (o + 78) (nI p) (nI u) (nI a) (nI b) q (nI (cS u b + k)) Mw = some (.inr r) ∧ _) ∨ _ ∧ ∃ s', lp_X9_leastCut_58 (o + 78) (nI p) (nI u) (nI a) (nI b) q (nI (cS u b + k)) Mw = some (.inl s') ∧ _
      by_cases e : cS u b + k = cE u b
      · left
        rw [e] at hq ⊢
        refine ⟨(q, Mw), ?_, q, Mw, rfl, g1, hq.congr fun x y z ct t => by
          have ci := CTu.i.mp ct
          unfold L2 at t; unfold L3
          by_cases e : x = a ∧ y = b
          · obtain ⟨rfl, rfl⟩ := e
            omega
          · omega⟩
        unfold lp_X9_leastCut_58 jn_X9_leastCut_74_58
        rcases hce with ⟨r1, r2, r3⟩ | ⟨r1, r2, r3⟩
        · rw [if_pos (show nI u ≤ 2 from nI_le (b := 2) r3 (by decide)), r2, nI_1, if_pos (nI_le (Nat.le_refl _) (by omega))]
        · rw [if_neg (show ¬ nI u ≤ 2 from by show ¬ nI u ≤ nI 2; rw [nI_leI (by omega) (by decide)]; exact r3), r2, if_pos (nI_le (Nat.le_refl _) (by omega))]
      · right
        have ct : CTu u a b (cS u b + k) := CTu.i.mpr ⟨ha, hb, by omega, by omega⟩
        obtain ⟨q', M1, h1, h2, h3⟩ := cut58_step (h.zb g1) (hF.zb g1) ((g1.2.2.2.2 78 25 (by unfold ZB; omega)).trans h0) hp hu ct hq
        exact ⟨by omega, _, h1, by omega, q', M1, rfl, g1.trans h2, h3⟩) (by decide)
  obtain ⟨r, h1, f', M1, rfl, h2⟩ := loop
  exact ⟨f', M1, h1, h2⟩
theorem cut26_loop (h : MW M o G w) (hF : FV S m M o) (h0 : mI M (o + 78) 25 = 0) (hp : p < w) (hu : 1 ≤ u ∧ u ≤ 3) (ha : a < 16) (hM : MI (kuP (brG G S p) (lpK (G 2 p))) u (L1 a) f) : ∃ f' M1, itr (fun s26 : Int32 × Int32 × QM => lp_X9_leastCut_26 (o + 78) (nI p) (nI u) (nI a) s26.1 s26.2.1 s26.2.2) FU (f, nI (bS u a), M) = some (f', M1) ∧ SQ M M1 o ZB ∧ MI (kuP (brG G S p) (lpK (G 2 p))) u (L1 (a + 1)) f' := by
  have hbe := bSE u a
  have loop := itr_J (f := fun s26 : Int32 × Int32 × QM => lp_X9_leastCut_26 (o + 78) (nI p) (nI u) (nI a) s26.1 s26.2.1 s26.2.2) (s0 := (f, nI (bS u a), M)) (fun k s => bS u a + k ≤ bE u a ∧ ∃ q Mw, s = (q, nI (bS u a + k), Mw) ∧ SQ M Mw o ZB ∧ MI (kuP (brG G S p) (lpK (G 2 p))) u (L2 a (bS u a + k)) q) (fun r => ∃ f' M1, r = (f', M1) ∧ SQ M M1 o ZB ∧ MI (kuP (brG G S p) (lpK (G 2 p))) u (L1 (a + 1)) f') 17
    ⟨by omega, f, M, rfl, SQ.rfl, hM.congr fun x y z ct q => by
      have ci := CTu.i.mp ct
      unfold L2 at q; unfold L1
      by_cases e : x = a
      · subst e; omega
      · omega⟩
    (fun k s hs => by
      obtain ⟨hk, q, Mw, rfl, g1, hq⟩ := hs
      show (∃ r, lp_X9_leastCut_26 (o + 78) (nI p) (nI u) (nI a) q (nI (bS u a + k)) Mw = some (.inr r) ∧ _) ∨ _ ∧ ∃ s', lp_X9_leastCut_26 (o + 78) (nI p) (nI u) (nI a) q (nI (bS u a + k)) Mw = some (.inl s') ∧ _
      have i1 : nI u ≤ 1 ↔ u ≤ 1 := nI_leI (b := 1) (by omega) (by decide)
      have i2 : nI u ≤ 2 ↔ u ≤ 2 := nI_leI (b := 2) (by omega) (by decide)
      have head : lp_X9_leastCut_26 (o + 78) (nI p) (nI u) (nI a) q (nI (bS u a + k)) Mw = if nI (bE u a) ≤ nI (bS u a + k) then some (.inr (q, Mw)) else jn_X9_leastCut_56_26 (o + 78) (nI p) (nI u) (nI a) q (nI (bS u a + k)) (nI (cS u (bS u a + k))) Mw := by
        unfold lp_X9_leastCut_26 jn_X9_leastCut_42_26 cS
        rcases hbe with ⟨r1, r2, r3⟩ | ⟨r1, r2, r3⟩
        · rw [if_pos (i1.mpr r3), r2, nI_1]
          by_cases q2 : u ≤ 2
          · rw [if_pos (i2.mpr q2), if_pos q2]
          · omega
        · rw [if_neg (fun z => r3 (i1.mp z)), r2]
          by_cases q2 : u ≤ 2
          · rw [if_pos (i2.mpr q2), if_pos q2]
          · rw [if_neg (fun z => q2 (i2.mp z)), if_neg q2]; rfl
      by_cases e : bS u a + k = bE u a
      · left
        rw [head]
        rw [e] at hq ⊢
        refine ⟨(q, Mw), if_pos (nI_le (Nat.le_refl _) (by omega)), q, Mw, rfl, g1, hq.congr fun x y z ct t => by
          have ci := CTu.i.mp ct
          unfold L1 at t; unfold L2
          by_cases e : x = a
          · subst e; omega
          · omega⟩
      · right
        rw [head, if_neg (by rw [nI_leI (by omega) (by omega)]; omega)]
        obtain ⟨q', M1, h1, h2, h3⟩ := cut58_loop (h.zb g1) (hF.zb g1) ((g1.2.2.2.2 78 25 (by unfold ZB; omega)).trans h0) hp hu ha (b := bS u a + k) (by omega) hq
        refine ⟨by omega, (q', nI (bS u a + k + 1), M1), ?_, by omega, q', M1, rfl, g1.trans h2, h3⟩
        unfold jn_X9_leastCut_56_26
        rw [bnd_e h1]
        simp only [pr2, nm_eq, nI_1]) (by decide)
  obtain ⟨r, h1, f', M1, rfl, h2⟩ := loop
  exact ⟨f', M1, h1, h2⟩
theorem leastCut_m (h : MW M o G w) (hF : FV S m M o) (h0 : mI M (o + 78) 25 = 0) (hp : p < w) (hu : 1 ≤ u ∧ u ≤ 3) : ∃ f' M1, fn_X9_leastCut M (o + 78) (nI p) (nI u) = some (f', M1) ∧ SQ M M1 o ZB ∧ MI (kuP (brG G S p) (lpK (G 2 p))) u (fun _ _ _ => True) f' := by
  have loop := itr_J (f := fun s6 : Int32 × Int32 × QM => lp_X9_leastCut_6 (o + 78) (nI p) (nI u) s6.1 s6.2.1 s6.2.2) (s0 := ((-5), 0, M)) (fun a s => a ≤ 16 ∧ ∃ q Mw, s = (q, nI a, Mw) ∧ SQ M Mw o ZB ∧ MI (kuP (brG G S p) (lpK (G 2 p))) u (L1 a) q) (fun r => ∃ f' M1, r = (f', M1) ∧ SQ M M1 o ZB ∧ MI (kuP (brG G S p) (lpK (G 2 p))) u (fun _ _ _ => True) f') 16
    ⟨Nat.zero_le _, -5, M, rfl, SQ.rfl, Or.inl ⟨rfl, fun x y z _ q => absurd q (Nat.not_lt_zero _)⟩⟩
    (fun a s hs => by
      obtain ⟨ha, q, Mw, rfl, g1, hq⟩ := hs
      show (∃ r, lp_X9_leastCut_6 (o + 78) (nI p) (nI u) q (nI a) Mw = some (.inr r) ∧ _) ∨ _ ∧ ∃ s', lp_X9_leastCut_6 (o + 78) (nI p) (nI u) q (nI a) Mw = some (.inl s') ∧ _
      by_cases e : a = 16
      · left
        subst e
        refine ⟨(q, Mw), ?_, q, Mw, rfl, g1, hq.congr fun x y z t _ => t.1⟩
        unfold lp_X9_leastCut_6
        rw [if_pos (by decide)]
      · right
        obtain ⟨q', M1, h1, h2, h3⟩ := cut26_loop (h.zb g1) (hF.zb g1) ((g1.2.2.2.2 78 25 (by unfold ZB; omega)).trans h0) hp hu (a := a) (by omega) hq
        have i1 : nI u ≤ 1 ↔ u ≤ 1 := nI_leI (b := 1) (by omega) (by decide)
        have hd : lp_X9_leastCut_6 (o + 78) (nI p) (nI u) q (nI a) Mw = jn_X9_leastCut_24_6 (o + 78) (nI p) (nI u) q (nI a) (nI (bS u a)) Mw := by
          unfold lp_X9_leastCut_6 bS
          rw [if_neg (n16 (by omega))]
          by_cases q2 : u ≤ 1
          · rw [if_pos (i1.mpr q2), if_pos q2]
          · rw [if_neg (fun z => q2 (i1.mp z)), if_neg q2]; rfl
        refine ⟨by omega, (q', nI (a + 1), M1), ?_, by omega, q', M1, rfl, g1.trans h2, h3⟩
        rw [hd]
        unfold jn_X9_leastCut_24_6
        rw [bnd_e h1]
        simp only [pr2, nm_eq, nI_1]) (by decide)
  obtain ⟨r, h1, f', M1, rfl, h2⟩ := loop
  refine ⟨f', M1, ?_, h2⟩
  unfold fn_X9_leastCut
  rw [bnd_e h1]
  rfl
/-- what both come to -/
theorem cut_m (h : MW M o G w) (hF : FV S m M o) (h0 : mI M (o + 78) 25 = 0) (hp : p < w) : ∃ r M1, itr (fun s32 : Int32 × QM => lp_X9_cut_32 (o + 78) (nI p) s32.1 s32.2) FU (1, M) = some r ∧ SQ M M1 o ZB ∧ ((r = .inr (-5, M1) ∧ ∀ x y z, TT x y z → kuP (brG G S p) (lpK (G 2 p)) (tw x y z) = false) ∨ ∃ u a b c, (1 ≤ u ∧ u ≤ 3) ∧ CTu u a b c ∧ r = .inl (nI u, nI (tw a b c), M1) ∧ kuP (brG G S p) (lpK (G 2 p)) (tw a b c) = true ∧ ∀ x y z, TT x y z → kuP (brG G S p) (lpK (G 2 p)) (tw x y z) = true → ky a b c ≤ ky x y z) := by
  have loop := itr_J (f := fun s32 : Int32 × QM => lp_X9_cut_32 (o + 78) (nI p) s32.1 s32.2) (s0 := (1, M)) (fun k s => k ≤ 3 ∧ ∃ Mw, s = (nI (k + 1), Mw) ∧ SQ M Mw o ZB ∧ ∀ x y z, TT x y z → tk x y z ≤ k → kuP (brG G S p) (lpK (G 2 p)) (tw x y z) = false) (fun r => ∃ M1, SQ M M1 o ZB ∧ ((r = .inr (-5, M1) ∧ ∀ x y z, TT x y z → kuP (brG G S p) (lpK (G 2 p)) (tw x y z) = false) ∨ ∃ u a b c, (1 ≤ u ∧ u ≤ 3) ∧ CTu u a b c ∧ r = .inl (nI u, nI (tw a b c), M1) ∧ kuP (brG G S p) (lpK (G 2 p)) (tw a b c) = true ∧ ∀ x y z, TT x y z → kuP (brG G S p) (lpK (G 2 p)) (tw x y z) = true → ky a b c ≤ ky x y z)) 3
    ⟨by omega, M, rfl, SQ.rfl, fun x y z _ q => by have := tk_le x y z; omega⟩
    (fun k s hs => by
      obtain ⟨hk, Mw, rfl, g1, hq⟩ := hs
      show (∃ r, lp_X9_cut_32 (o + 78) (nI p) (nI (k + 1)) Mw = some (.inr r) ∧ _) ∨ _ ∧ ∃ s', lp_X9_cut_32 (o + 78) (nI p) (nI (k + 1)) Mw = some (.inl s') ∧ _
      by_cases e : k = 3
      · left
        subst e
        refine ⟨.inr (-5, Mw), ?_, Mw, g1, Or.inl ⟨rfl, fun x y z t => hq x y z t (tk_le x y z).2⟩⟩
        unfold lp_X9_cut_32
        rw [if_pos (by decide)]
      · have hS := g1.shp h.1
        obtain ⟨f', M1, h1, h2, h3⟩ := leastCut_m (u := k + 1) (h.zb g1) (hF.zb g1) ((g1.2.2.2.2 78 25 (by unfold ZB; omega)).trans h0) hp (by omega)
        have f1 : ¬ (4 : Int32) ≤ nI (k + 1) := by show ¬ nI 4 ≤ nI (k + 1); rw [nI_leI (by decide) (by omega)]; omega
        rcases h3 with ⟨rfl, h4⟩ | ⟨a, b, c, h4, rfl, h5, h6⟩
        · right
          have f2 : (-5 : Int32) < 0 := by decide
          refine ⟨by omega, (nI (k + 1 + 1), M1), ?_, by omega, M1, rfl, g1.trans h2, fun x y z t q => ?_⟩
          · simp only [lp_X9_cut_32, f1, h1, f2, nI_1, mt_sI, mt_sJ, mt_sP, mt_rI, mt_rJ, ml_sI, ml_sJ, ml_sP, ml_rI, ml_rJ, mP_sI, mP_sJ, mP_rI, mP_rJ, SHP_sI, SHP_sJ, SHP_rI, SHP_rJ, mI_sI, mI_rI, mI_sJ, mI_rJ, mI_sP, mJ_sI, mJ_rI, mJ_sP, mJ_sJ, mJ_rJ, gI_e, pI_e, ck_e, bnd_s, nm_eq, pr2_e, cnul_0, cnul_1, drf_1, sm_1, sm_2, aI_e, aJ_e, wI_e, wJ_e, aL_e, cpI_e, cpJ_e, Nat.reduceLeDiff, Nat.reduceEqDiff, Nat.add_left_cancel_iff, ad0, ad1, false_and, and_false, true_and, and_true, reduceIte, if_true, if_false, zb0, zb1, Int32.reduceLT, Int32.reduceLE, i10, nw1, nw2, nt1, nt2, not_true_eq_false, not_false_eq_true, mt_78, mt_79, ml_79, mt_80, ml_80, mt_81, ml_81, mt_82, ml_82, mt_83, ml_83, mt_84, ml_84, mt_85, ml_85, mt_86, ml_86, mt_87, ml_87, mt_88, ml_88, mt_89, ml_89, mt_90, ml_90, mt_91, ml_91, mt_92, ml_92, mt_93, ml_93, mt_94, ml_94, mt_95, ml_95, mt_96, ml_96, mt_97, ml_97, mt_98, ml_98, mt_99, ml_99, mt_100, ml_100, mt_101, ml_101, mt_102, ml_102, mt_103, ml_103, mt_104, ml_104, mt_105, ml_105, mt_106, ml_106, mt_107, ml_107, mt_108, ml_108, mt_109, ml_109, mt_110, ml_110, mt_111, ml_111, mt_112, ml_112, mt_113, ml_113, mt_114, ml_114, mt_115, ml_115, mt_116, ml_116, mt_117, ml_117, mt_118, ml_118, mt_119, ml_119, mt_120, ml_120, mt_121, ml_121, mt_122, ml_122, mt_123, ml_123, gP_78_2, gP_78_3, gP_78_4, gP_78_5, gP_78_6, gP_78_12, gP_78_13, gP_78_14, gP_78_15, gP_78_16, gP_78_17, gP_78_18, gP_78_19, gP_78_23, gP_78_24, gP_78_26, gP_78_27, gP_78_28, gP_78_31, gP_78_32, gP_78_34, gP_78_35, gP_78_36, gP_78_37, gP_78_40, gP_78_41, gP_78_42, gP_78_43, gP_78_52, gP_78_53, gP_78_54, gP_78_55, gP_78_56, gP_78_57, gP_78_58, gP_78_59, gP_78_60, gP_78_61, gP_78_62, gP_78_63, gP_78_65, gP_78_66, gP_78_67, gP_78_68, gP_78_69, hS]
          · by_cases q2 : tk x y z ≤ k
            · exact hq x y z t q2
            · obtain ⟨x', y', z', c1, c2⟩ := t.ct
              rw [show tk x y z = k + 1 by omega] at c1
              rw [← c2]
              exact h4 x' y' z' c1 trivial
        · left
          have f2 : ¬ nI (tw a b c) < 0 := nI_pos (by have := h4.t.e.2.2; omega)
          refine ⟨.inl (nI (k + 1), nI (tw a b c), M1), ?_, M1, g1.trans h2, Or.inr ⟨k + 1, a, b, c, by omega, h4, rfl, h5, fun x y z t q => ?_⟩⟩
          · simp only [lp_X9_cut_32, f1, h1, f2, mt_sI, mt_sJ, mt_sP, mt_rI, mt_rJ, ml_sI, ml_sJ, ml_sP, ml_rI, ml_rJ, mP_sI, mP_sJ, mP_rI, mP_rJ, SHP_sI, SHP_sJ, SHP_rI, SHP_rJ, mI_sI, mI_rI, mI_sJ, mI_rJ, mI_sP, mJ_sI, mJ_rI, mJ_sP, mJ_sJ, mJ_rJ, gI_e, pI_e, ck_e, bnd_s, nm_eq, pr2_e, cnul_0, cnul_1, drf_1, sm_1, sm_2, aI_e, aJ_e, wI_e, wJ_e, aL_e, cpI_e, cpJ_e, Nat.reduceLeDiff, Nat.reduceEqDiff, Nat.add_left_cancel_iff, ad0, ad1, false_and, and_false, true_and, and_true, reduceIte, if_true, if_false, zb0, zb1, Int32.reduceLT, Int32.reduceLE, i10, nw1, nw2, nt1, nt2, not_true_eq_false, not_false_eq_true, mt_78, mt_79, ml_79, mt_80, ml_80, mt_81, ml_81, mt_82, ml_82, mt_83, ml_83, mt_84, ml_84, mt_85, ml_85, mt_86, ml_86, mt_87, ml_87, mt_88, ml_88, mt_89, ml_89, mt_90, ml_90, mt_91, ml_91, mt_92, ml_92, mt_93, ml_93, mt_94, ml_94, mt_95, ml_95, mt_96, ml_96, mt_97, ml_97, mt_98, ml_98, mt_99, ml_99, mt_100, ml_100, mt_101, ml_101, mt_102, ml_102, mt_103, ml_103, mt_104, ml_104, mt_105, ml_105, mt_106, ml_106, mt_107, ml_107, mt_108, ml_108, mt_109, ml_109, mt_110, ml_110, mt_111, ml_111, mt_112, ml_112, mt_113, ml_113, mt_114, ml_114, mt_115, ml_115, mt_116, ml_116, mt_117, ml_117, mt_118, ml_118, mt_119, ml_119, mt_120, ml_120, mt_121, ml_121, mt_122, ml_122, mt_123, ml_123, gP_78_2, gP_78_3, gP_78_4, gP_78_5, gP_78_6, gP_78_12, gP_78_13, gP_78_14, gP_78_15, gP_78_16, gP_78_17, gP_78_18, gP_78_19, gP_78_23, gP_78_24, gP_78_26, gP_78_27, gP_78_28, gP_78_31, gP_78_32, gP_78_34, gP_78_35, gP_78_36, gP_78_37, gP_78_40, gP_78_41, gP_78_42, gP_78_43, gP_78_52, gP_78_53, gP_78_54, gP_78_55, gP_78_56, gP_78_57, gP_78_58, gP_78_59, gP_78_60, gP_78_61, gP_78_62, gP_78_63, gP_78_65, gP_78_66, gP_78_67, gP_78_68, gP_78_69, hS]
          · have k1 := h4.k (by omega)
            have s1 := h4.t.e.2.2
            have s2 := t.e.2.2
            by_cases q2 : tk x y z ≤ k
            · rw [hq x y z t q2] at q; cases q
            · by_cases q3 : tk x y z = k + 1
              · obtain ⟨x', y', z', c1, c2⟩ := t.ct
                rw [q3] at c1
                have n3 : ¬ L3 a b c x' y' z' := fun q4 => by
                  have := h6 x' y' z' c1 q4
                  rw [c2, q] at this; cases this
                have : tw a b c ≤ tw x y z := by
                  by_cases e2 : x' = a ∧ y' = b ∧ z' = c
                  · rw [← c2, e2.1, e2.2.1, e2.2.2]; exact Nat.le_refl _
                  · have := h4.lt c1 (by omega) (by unfold L3 at n3 ⊢; omega)
                    rw [c2] at this; omega
                unfold ky
                rw [k1, q3]; omega
              · unfold ky
                rw [k1]; omega) (by decide)
  obtain ⟨r, h1, M1, h2, h3⟩ := loop
  exact ⟨r, M1, h1, h2, h3⟩
end CT2
set_option maxHeartbeats 2000000 in
theorem op_cut {M : QM} {o : Nat} {G : GG} (h : RR M o G) (p1 p2 : Int32) : ∃ v M2, fn_X8_cut M o p1 p2 = some v ∧ fn_X9_cut M (o + 78) p1 p2 = some (v, M2) ∧ RR M2 o G := by
  have hS := h.1.1
  obtain ⟨w, w1, w2, w3, w4, w5, w6⟩ := h.wk p1
  rcases w6 with ⟨c, hc, hc5, rfl, b1, b2⟩ | ⟨b1, b2⟩
  · rcases rng p2 2 2 1 rfl rfl (by decide) (by decide) with ⟨k, hk, rfl, d1, d2, d3⟩ | ⟨d1, d2, d3⟩
    · have cw := h.cw
      have mw := h.mw
      have hcw : c < gN G 1 1 := by rw [w3]; exact hc
      obtain ⟨m, m1, m2, m3, m4⟩ := h.fv
      have sp : ∀ {α : Type} (f : Int32 → Option α), (gR M (o + 1) 5 7 fun r => gI M r 1 1 f) = f (gw G 1600) := fun f => cw.spn
      have bc : fn_X7_bearers M (o + (17 + 2 * c)) (o + 2) (gw G 1600) = some (mkb (brG G (G 0) c)) := bearers_c (cw.wk hcw) h.cp
      have lc := leaps_c (cw.wk hcw)
      have fe : fn_X8_fewest 4369 34952 (mkb (brG G (G 0) c)) (lI (lpK (G 2 c))) = some (iI (crG G (G 0) c)) := by rw [mkb_near, mkb_far, fewest_e]; rfl
      obtain ⟨M1, c1, c2, c3⟩ := canCross_m mw m3 h.ct hcw
      have mw1 := mw.zb c3
      have hS1 := mw1.1
      have lt : ∀ n, crG G (G 0) c = some n → n < 2 ^ 31 := fun n e => by
        have := crG_lt (G := G) n e
        omega
      by_cases q : crG G (G 0) c = none
      · have f1 : ¬ 0 ≤ iI (crG G (G 0) c) := fun z => ((iI_pos lt).mp z) q
        have l0 : fn_X8_leastCut (mkb (brG G (G 0) c)) (lI (lpK (G 2 c))) = some 0 := by
          unfold fn_X8_leastCut
          rw [bnd_e fe, if_neg f1]
        rw [q] at c2
        have c2 : fn_X9_canCross M (o + 78) (nI c) = some (0, M1) := c2
        refine ⟨0, M1, ?_, ?_, h.scr (c3.mono ZB_scr)⟩
        · have b0 : fn_J6_bitCount_0f7a4 0 = 0 := by decide
          have z0 : ¬ (0 : Int32) < 0 := by decide
          by_cases q1 : nI k = 1
          · rw [q1] at d1 ⊢
            simp only [fn_X8_cut, fn_X5_walkerAt, w4, b1, d1, sp, bc, lc, l0, z0, mt_sI, mt_sJ, mt_sP, mt_rI, mt_rJ, ml_sI, ml_sJ, ml_sP, ml_rI, ml_rJ, mP_sI, mP_sJ, mP_rI, mP_rJ, SHP_sI, SHP_sJ, SHP_rI, SHP_rJ, mI_sI, mI_rI, mI_sJ, mI_rJ, mI_sP, mJ_sI, mJ_rI, mJ_sP, mJ_sJ, mJ_rJ, gI_e, pI_e, ck_e, bnd_s, nm_eq, pr2_e, cnul_0, cnul_1, drf_1, sm_1, sm_2, aI_e, aJ_e, wI_e, wJ_e, aL_e, cpI_e, cpJ_e, Nat.reduceLeDiff, Nat.reduceEqDiff, Nat.add_left_cancel_iff, ad0, ad1, false_and, and_false, true_and, and_true, reduceIte, if_true, if_false, zb0, zb1, Int32.reduceLT, Int32.reduceLE, i10, nw1, nw2, nt1, nt2, not_true_eq_false, not_false_eq_true, mt_0, mt_1, mt_2, mt_3, ml_3, mt_4, ml_4, mt_5, mt_6, ml_6, mt_7, ml_7, mt_8, ml_8, mt_9, mt_10, ml_10, mt_11, ml_11, mt_12, ml_12, mt_13, mt_14, ml_14, mt_15, ml_15, mt_16, ml_16, mt_17, mt_18, ml_18, mt_19, mt_20, ml_20, mt_21, mt_22, ml_22, mt_23, mt_24, ml_24, mt_25, mt_26, ml_26, mt_53, mt_54, ml_54, mt_55, ml_55, mt_56, mt_57, ml_57, mt_58, ml_58, mt_59, mt_60, ml_60, mt_61, mt_62, ml_62, mt_63, ml_63, mt_64, mt_65, ml_65, mt_66, mt_67, ml_67, mt_68, mt_69, ml_69, mt_70, mt_71, ml_71, mt_72, mt_73, ml_73, mt_74, mt_75, ml_75, mt_76, mt_77, ml_77, gP_0_0, gP_0_1, gP_0_4, gP_0_5, gP_0_6, gP_0_7, gP_0_8, gP_0_9, gP_1_0, gP_1_1, gP_1_4, gP_1_5, gP_1_6, gP_2_0, gP_5_1, gP_5_2, gP_5_3, gP_9_1, gP_9_2, gP_9_3, gP_13_1, gP_13_2, gP_13_3, gP_17_3, gP_19_3, gP_21_3, gP_23_3, gP_25_3, gP_53_0, gP_53_6, gP_56_0, gP_59_0, gP_61_3, gP_64_0, gP_66_2, gP_68_2, gP_70_2, gP_72_2, gP_74_2, gP_76_2, aP_4, mtw_4, mtl_4, mll_4, gPw_4, aP_58, mtw_58, mtl_58, mll_58, gPw_58, hS, hc5]
          · simp only [fn_X8_cut, fn_X5_walkerAt, w4, b1, d1, sp, bc, lc, l0, z0, b0, q1, mt_sI, mt_sJ, mt_sP, mt_rI, mt_rJ, ml_sI, ml_sJ, ml_sP, ml_rI, ml_rJ, mP_sI, mP_sJ, mP_rI, mP_rJ, SHP_sI, SHP_sJ, SHP_rI, SHP_rJ, mI_sI, mI_rI, mI_sJ, mI_rJ, mI_sP, mJ_sI, mJ_rI, mJ_sP, mJ_sJ, mJ_rJ, gI_e, pI_e, ck_e, bnd_s, nm_eq, pr2_e, cnul_0, cnul_1, drf_1, sm_1, sm_2, aI_e, aJ_e, wI_e, wJ_e, aL_e, cpI_e, cpJ_e, Nat.reduceLeDiff, Nat.reduceEqDiff, Nat.add_left_cancel_iff, ad0, ad1, false_and, and_false, true_and, and_true, reduceIte, if_true, if_false, zb0, zb1, Int32.reduceLT, Int32.reduceLE, i10, nw1, nw2, nt1, nt2, not_true_eq_false, not_false_eq_true, mt_0, mt_1, mt_2, mt_3, ml_3, mt_4, ml_4, mt_5, mt_6, ml_6, mt_7, ml_7, mt_8, ml_8, mt_9, mt_10, ml_10, mt_11, ml_11, mt_12, ml_12, mt_13, mt_14, ml_14, mt_15, ml_15, mt_16, ml_16, mt_17, mt_18, ml_18, mt_19, mt_20, ml_20, mt_21, mt_22, ml_22, mt_23, mt_24, ml_24, mt_25, mt_26, ml_26, mt_53, mt_54, ml_54, mt_55, ml_55, mt_56, mt_57, ml_57, mt_58, ml_58, mt_59, mt_60, ml_60, mt_61, mt_62, ml_62, mt_63, ml_63, mt_64, mt_65, ml_65, mt_66, mt_67, ml_67, mt_68, mt_69, ml_69, mt_70, mt_71, ml_71, mt_72, mt_73, ml_73, mt_74, mt_75, ml_75, mt_76, mt_77, ml_77, gP_0_0, gP_0_1, gP_0_4, gP_0_5, gP_0_6, gP_0_7, gP_0_8, gP_0_9, gP_1_0, gP_1_1, gP_1_4, gP_1_5, gP_1_6, gP_2_0, gP_5_1, gP_5_2, gP_5_3, gP_9_1, gP_9_2, gP_9_3, gP_13_1, gP_13_2, gP_13_3, gP_17_3, gP_19_3, gP_21_3, gP_23_3, gP_25_3, gP_53_0, gP_53_6, gP_56_0, gP_59_0, gP_61_3, gP_64_0, gP_66_2, gP_68_2, gP_70_2, gP_72_2, gP_74_2, gP_76_2, aP_4, mtw_4, mtl_4, mll_4, gPw_4, aP_58, mtw_58, mtl_58, mll_58, gPw_58, hS, hc5]
        · simp only [fn_X9_cut, fn_X9_isWalker, w5, b2, d2, c2, mt_sI, mt_sJ, mt_sP, mt_rI, mt_rJ, ml_sI, ml_sJ, ml_sP, ml_rI, ml_rJ, mP_sI, mP_sJ, mP_rI, mP_rJ, SHP_sI, SHP_sJ, SHP_rI, SHP_rJ, mI_sI, mI_rI, mI_sJ, mI_rJ, mI_sP, mJ_sI, mJ_rI, mJ_sP, mJ_sJ, mJ_rJ, gI_e, pI_e, ck_e, bnd_s, nm_eq, pr2_e, cnul_0, cnul_1, drf_1, sm_1, sm_2, aI_e, aJ_e, wI_e, wJ_e, aL_e, cpI_e, cpJ_e, Nat.reduceLeDiff, Nat.reduceEqDiff, Nat.add_left_cancel_iff, ad0, ad1, false_and, and_false, true_and, and_true, reduceIte, if_true, if_false, zb0, zb1, Int32.reduceLT, Int32.reduceLE, i10, nw1, nw2, nt1, nt2, not_true_eq_false, not_false_eq_true, mt_78, mt_79, ml_79, mt_80, ml_80, mt_81, ml_81, mt_82, ml_82, mt_83, ml_83, mt_84, ml_84, mt_85, ml_85, mt_86, ml_86, mt_87, ml_87, mt_88, ml_88, mt_89, ml_89, mt_90, ml_90, mt_91, ml_91, mt_92, ml_92, mt_93, ml_93, mt_94, ml_94, mt_95, ml_95, mt_96, ml_96, mt_97, ml_97, mt_98, ml_98, mt_99, ml_99, mt_100, ml_100, mt_101, ml_101, mt_102, ml_102, mt_103, ml_103, mt_104, ml_104, mt_105, ml_105, mt_106, ml_106, mt_107, ml_107, mt_108, ml_108, mt_109, ml_109, mt_110, ml_110, mt_111, ml_111, mt_112, ml_112, mt_113, ml_113, mt_114, ml_114, mt_115, ml_115, mt_116, ml_116, mt_117, ml_117, mt_118, ml_118, mt_119, ml_119, mt_120, ml_120, mt_121, ml_121, mt_122, ml_122, mt_123, ml_123, gP_78_2, gP_78_3, gP_78_4, gP_78_5, gP_78_6, gP_78_12, gP_78_13, gP_78_14, gP_78_15, gP_78_16, gP_78_17, gP_78_18, gP_78_19, gP_78_23, gP_78_24, gP_78_26, gP_78_27, gP_78_28, gP_78_31, gP_78_32, gP_78_34, gP_78_35, gP_78_36, gP_78_37, gP_78_40, gP_78_41, gP_78_42, gP_78_43, gP_78_52, gP_78_53, gP_78_54, gP_78_55, gP_78_56, gP_78_57, gP_78_58, gP_78_59, gP_78_60, gP_78_61, gP_78_62, gP_78_63, gP_78_65, gP_78_66, gP_78_67, gP_78_68, gP_78_69, hS]
      · have f1 : 0 ≤ iI (crG G (G 0) c) := (iI_pos lt).mpr q
        have c2' : fn_X9_canCross M (o + 78) (nI c) = some (1, M1) := by
          rw [c2]
          cases e : crG G (G 0) c with
          | none => exact absurd e q
          | some _ => rfl
        obtain ⟨best, e1, e2⟩ := cut20_loop (bb := brG G (G 0) c) (lp := lpK (G 2 c))
        have l1 : fn_X8_leastCut (mkb (brG G (G 0) c)) (lI (lpK (G 2 c))) = some best := by
          unfold fn_X8_leastCut
          rw [bnd_e fe, if_pos f1, bnd_e e1]
        obtain ⟨r, M2, g1, g2, g3⟩ := cut_m mw1 (m3.zb c3) ((c3.2.2.2.2 78 25 (by unfold ZB; omega)).trans h.ct) hcw
        have fin := h.scr ((c3.mono ZB_scr).trans (g2.mono ZB_scr))
        rcases g3 with ⟨rfl, g4⟩ | ⟨u, a, b, d, gu, g4, rfl, g5, g6⟩
        · have eb : best = -5 := by
            rcases e2 with ⟨e3, -⟩ | ⟨a, b, d, e3, -, e5, -⟩
            · exact e3
            · rw [g4 a b d e3] at e5; cases e5
          rw [eb] at l1
          have z0 : (-5 : Int32) < 0 := by decide
          refine ⟨-5, M2, ?_, ?_, fin⟩
          · simp only [fn_X8_cut, fn_X5_walkerAt, w4, b1, d1, sp, bc, lc, l1, z0, mt_sI, mt_sJ, mt_sP, mt_rI, mt_rJ, ml_sI, ml_sJ, ml_sP, ml_rI, ml_rJ, mP_sI, mP_sJ, mP_rI, mP_rJ, SHP_sI, SHP_sJ, SHP_rI, SHP_rJ, mI_sI, mI_rI, mI_sJ, mI_rJ, mI_sP, mJ_sI, mJ_rI, mJ_sP, mJ_sJ, mJ_rJ, gI_e, pI_e, ck_e, bnd_s, nm_eq, pr2_e, cnul_0, cnul_1, drf_1, sm_1, sm_2, aI_e, aJ_e, wI_e, wJ_e, aL_e, cpI_e, cpJ_e, Nat.reduceLeDiff, Nat.reduceEqDiff, Nat.add_left_cancel_iff, ad0, ad1, false_and, and_false, true_and, and_true, reduceIte, if_true, if_false, zb0, zb1, Int32.reduceLT, Int32.reduceLE, i10, nw1, nw2, nt1, nt2, not_true_eq_false, not_false_eq_true, mt_0, mt_1, mt_2, mt_3, ml_3, mt_4, ml_4, mt_5, mt_6, ml_6, mt_7, ml_7, mt_8, ml_8, mt_9, mt_10, ml_10, mt_11, ml_11, mt_12, ml_12, mt_13, mt_14, ml_14, mt_15, ml_15, mt_16, ml_16, mt_17, mt_18, ml_18, mt_19, mt_20, ml_20, mt_21, mt_22, ml_22, mt_23, mt_24, ml_24, mt_25, mt_26, ml_26, mt_53, mt_54, ml_54, mt_55, ml_55, mt_56, mt_57, ml_57, mt_58, ml_58, mt_59, mt_60, ml_60, mt_61, mt_62, ml_62, mt_63, ml_63, mt_64, mt_65, ml_65, mt_66, mt_67, ml_67, mt_68, mt_69, ml_69, mt_70, mt_71, ml_71, mt_72, mt_73, ml_73, mt_74, mt_75, ml_75, mt_76, mt_77, ml_77, gP_0_0, gP_0_1, gP_0_4, gP_0_5, gP_0_6, gP_0_7, gP_0_8, gP_0_9, gP_1_0, gP_1_1, gP_1_4, gP_1_5, gP_1_6, gP_2_0, gP_5_1, gP_5_2, gP_5_3, gP_9_1, gP_9_2, gP_9_3, gP_13_1, gP_13_2, gP_13_3, gP_17_3, gP_19_3, gP_21_3, gP_23_3, gP_25_3, gP_53_0, gP_53_6, gP_56_0, gP_59_0, gP_61_3, gP_64_0, gP_66_2, gP_68_2, gP_70_2, gP_72_2, gP_74_2, gP_76_2, aP_4, mtw_4, mtl_4, mll_4, gPw_4, aP_58, mtw_58, mtl_58, mll_58, gPw_58, hS, hc5]
          · simp only [fn_X9_cut, fn_X9_isWalker, w5, b2, d2, c2', g1, mt_sI, mt_sJ, mt_sP, mt_rI, mt_rJ, ml_sI, ml_sJ, ml_sP, ml_rI, ml_rJ, mP_sI, mP_sJ, mP_rI, mP_rJ, SHP_sI, SHP_sJ, SHP_rI, SHP_rJ, mI_sI, mI_rI, mI_sJ, mI_rJ, mI_sP, mJ_sI, mJ_rI, mJ_sP, mJ_sJ, mJ_rJ, gI_e, pI_e, ck_e, bnd_s, nm_eq, pr2_e, cnul_0, cnul_1, drf_1, sm_1, sm_2, aI_e, aJ_e, wI_e, wJ_e, aL_e, cpI_e, cpJ_e, Nat.reduceLeDiff, Nat.reduceEqDiff, Nat.add_left_cancel_iff, ad0, ad1, false_and, and_false, true_and, and_true, reduceIte, if_true, if_false, zb0, zb1, Int32.reduceLT, Int32.reduceLE, i10, nw1, nw2, nt1, nt2, not_true_eq_false, not_false_eq_true, mt_78, mt_79, ml_79, mt_80, ml_80, mt_81, ml_81, mt_82, ml_82, mt_83, ml_83, mt_84, ml_84, mt_85, ml_85, mt_86, ml_86, mt_87, ml_87, mt_88, ml_88, mt_89, ml_89, mt_90, ml_90, mt_91, ml_91, mt_92, ml_92, mt_93, ml_93, mt_94, ml_94, mt_95, ml_95, mt_96, ml_96, mt_97, ml_97, mt_98, ml_98, mt_99, ml_99, mt_100, ml_100, mt_101, ml_101, mt_102, ml_102, mt_103, ml_103, mt_104, ml_104, mt_105, ml_105, mt_106, ml_106, mt_107, ml_107, mt_108, ml_108, mt_109, ml_109, mt_110, ml_110, mt_111, ml_111, mt_112, ml_112, mt_113, ml_113, mt_114, ml_114, mt_115, ml_115, mt_116, ml_116, mt_117, ml_117, mt_118, ml_118, mt_119, ml_119, mt_120, ml_120, mt_121, ml_121, mt_122, ml_122, mt_123, ml_123, gP_78_2, gP_78_3, gP_78_4, gP_78_5, gP_78_6, gP_78_12, gP_78_13, gP_78_14, gP_78_15, gP_78_16, gP_78_17, gP_78_18, gP_78_19, gP_78_23, gP_78_24, gP_78_26, gP_78_27, gP_78_28, gP_78_31, gP_78_32, gP_78_34, gP_78_35, gP_78_36, gP_78_37, gP_78_40, gP_78_41, gP_78_42, gP_78_43, gP_78_52, gP_78_53, gP_78_54, gP_78_55, gP_78_56, gP_78_57, gP_78_58, gP_78_59, gP_78_60, gP_78_61, gP_78_62, gP_78_63, gP_78_65, gP_78_66, gP_78_67, gP_78_68, gP_78_69, hS]
        · have eb : best = nI (tw a b d) ∧ fn_J6_bitCount_0f7a4 best = nI u := by
            rcases e2 with ⟨-, e3⟩ | ⟨a', b', d', e3, e4, e5, e6⟩
            · rw [e3 a b d g4.t trivial] at g5; cases g5
            · have k1 := e6 a b d g4.t trivial g5
              have k2 := g6 a' b' d' e3 e5
              have s1 := g4.t.e.2.2
              have s2 := e3.e.2.2
              have u1 := g4.k gu
              unfold ky at k1 k2
              have u2 : tk a' b' d' = tk a b d := by omega
              have u3 : tw a' b' d' = tw a b d := by omega
              refine ⟨by rw [e4, u3], ?_⟩
              rw [e4, e3.e.2.1, u2, u1]
          have z0 : ¬ best < 0 := by rw [eb.1]; exact nI_pos (by have := g4.t.e.2.2; omega)
          rcases (by omega : k = 0 ∨ k = 1) with rfl | rfl
          · have z1 : ¬ nI 0 = 1 := by decide
            have z2 : nI 0 = 0 := nI_0
            refine ⟨nI u, M2, ?_, ?_, fin⟩
            · simp only [fn_X8_cut, fn_X5_walkerAt, w4, b1, d1, sp, bc, lc, l1, z0, z1, eb.2, mt_sI, mt_sJ, mt_sP, mt_rI, mt_rJ, ml_sI, ml_sJ, ml_sP, ml_rI, ml_rJ, mP_sI, mP_sJ, mP_rI, mP_rJ, SHP_sI, SHP_sJ, SHP_rI, SHP_rJ, mI_sI, mI_rI, mI_sJ, mI_rJ, mI_sP, mJ_sI, mJ_rI, mJ_sP, mJ_sJ, mJ_rJ, gI_e, pI_e, ck_e, bnd_s, nm_eq, pr2_e, cnul_0, cnul_1, drf_1, sm_1, sm_2, aI_e, aJ_e, wI_e, wJ_e, aL_e, cpI_e, cpJ_e, Nat.reduceLeDiff, Nat.reduceEqDiff, Nat.add_left_cancel_iff, ad0, ad1, false_and, and_false, true_and, and_true, reduceIte, if_true, if_false, zb0, zb1, Int32.reduceLT, Int32.reduceLE, i10, nw1, nw2, nt1, nt2, not_true_eq_false, not_false_eq_true, mt_0, mt_1, mt_2, mt_3, ml_3, mt_4, ml_4, mt_5, mt_6, ml_6, mt_7, ml_7, mt_8, ml_8, mt_9, mt_10, ml_10, mt_11, ml_11, mt_12, ml_12, mt_13, mt_14, ml_14, mt_15, ml_15, mt_16, ml_16, mt_17, mt_18, ml_18, mt_19, mt_20, ml_20, mt_21, mt_22, ml_22, mt_23, mt_24, ml_24, mt_25, mt_26, ml_26, mt_53, mt_54, ml_54, mt_55, ml_55, mt_56, mt_57, ml_57, mt_58, ml_58, mt_59, mt_60, ml_60, mt_61, mt_62, ml_62, mt_63, ml_63, mt_64, mt_65, ml_65, mt_66, mt_67, ml_67, mt_68, mt_69, ml_69, mt_70, mt_71, ml_71, mt_72, mt_73, ml_73, mt_74, mt_75, ml_75, mt_76, mt_77, ml_77, gP_0_0, gP_0_1, gP_0_4, gP_0_5, gP_0_6, gP_0_7, gP_0_8, gP_0_9, gP_1_0, gP_1_1, gP_1_4, gP_1_5, gP_1_6, gP_2_0, gP_5_1, gP_5_2, gP_5_3, gP_9_1, gP_9_2, gP_9_3, gP_13_1, gP_13_2, gP_13_3, gP_17_3, gP_19_3, gP_21_3, gP_23_3, gP_25_3, gP_53_0, gP_53_6, gP_56_0, gP_59_0, gP_61_3, gP_64_0, gP_66_2, gP_68_2, gP_70_2, gP_72_2, gP_74_2, gP_76_2, aP_4, mtw_4, mtl_4, mll_4, gPw_4, aP_58, mtw_58, mtl_58, mll_58, gPw_58, hS, hc5]
            · rw [z2] at d2 ⊢
              simp only [fn_X9_cut, fn_X9_isWalker, w5, b2, d2, c2', g1, pr3, mt_sI, mt_sJ, mt_sP, mt_rI, mt_rJ, ml_sI, ml_sJ, ml_sP, ml_rI, ml_rJ, mP_sI, mP_sJ, mP_rI, mP_rJ, SHP_sI, SHP_sJ, SHP_rI, SHP_rJ, mI_sI, mI_rI, mI_sJ, mI_rJ, mI_sP, mJ_sI, mJ_rI, mJ_sP, mJ_sJ, mJ_rJ, gI_e, pI_e, ck_e, bnd_s, nm_eq, pr2_e, cnul_0, cnul_1, drf_1, sm_1, sm_2, aI_e, aJ_e, wI_e, wJ_e, aL_e, cpI_e, cpJ_e, Nat.reduceLeDiff, Nat.reduceEqDiff, Nat.add_left_cancel_iff, ad0, ad1, false_and, and_false, true_and, and_true, reduceIte, if_true, if_false, zb0, zb1, Int32.reduceLT, Int32.reduceLE, i10, nw1, nw2, nt1, nt2, not_true_eq_false, not_false_eq_true, mt_78, mt_79, ml_79, mt_80, ml_80, mt_81, ml_81, mt_82, ml_82, mt_83, ml_83, mt_84, ml_84, mt_85, ml_85, mt_86, ml_86, mt_87, ml_87, mt_88, ml_88, mt_89, ml_89, mt_90, ml_90, mt_91, ml_91, mt_92, ml_92, mt_93, ml_93, mt_94, ml_94, mt_95, ml_95, mt_96, ml_96, mt_97, ml_97, mt_98, ml_98, mt_99, ml_99, mt_100, ml_100, mt_101, ml_101, mt_102, ml_102, mt_103, ml_103, mt_104, ml_104, mt_105, ml_105, mt_106, ml_106, mt_107, ml_107, mt_108, ml_108, mt_109, ml_109, mt_110, ml_110, mt_111, ml_111, mt_112, ml_112, mt_113, ml_113, mt_114, ml_114, mt_115, ml_115, mt_116, ml_116, mt_117, ml_117, mt_118, ml_118, mt_119, ml_119, mt_120, ml_120, mt_121, ml_121, mt_122, ml_122, mt_123, ml_123, gP_78_2, gP_78_3, gP_78_4, gP_78_5, gP_78_6, gP_78_12, gP_78_13, gP_78_14, gP_78_15, gP_78_16, gP_78_17, gP_78_18, gP_78_19, gP_78_23, gP_78_24, gP_78_26, gP_78_27, gP_78_28, gP_78_31, gP_78_32, gP_78_34, gP_78_35, gP_78_36, gP_78_37, gP_78_40, gP_78_41, gP_78_42, gP_78_43, gP_78_52, gP_78_53, gP_78_54, gP_78_55, gP_78_56, gP_78_57, gP_78_58, gP_78_59, gP_78_60, gP_78_61, gP_78_62, gP_78_63, gP_78_65, gP_78_66, gP_78_67, gP_78_68, gP_78_69, hS]
          · have z1 : nI 1 = 1 := by decide
            have z2 : ¬ (1 : Int32) = 0 := by decide
            rw [z1] at d1 d2 ⊢
            refine ⟨nI (tw a b d), M2, ?_, ?_, fin⟩
            · simp only [fn_X8_cut, fn_X5_walkerAt, w4, b1, d1, sp, bc, lc, l1, z0, mt_sI, mt_sJ, mt_sP, mt_rI, mt_rJ, ml_sI, ml_sJ, ml_sP, ml_rI, ml_rJ, mP_sI, mP_sJ, mP_rI, mP_rJ, SHP_sI, SHP_sJ, SHP_rI, SHP_rJ, mI_sI, mI_rI, mI_sJ, mI_rJ, mI_sP, mJ_sI, mJ_rI, mJ_sP, mJ_sJ, mJ_rJ, gI_e, pI_e, ck_e, bnd_s, nm_eq, pr2_e, cnul_0, cnul_1, drf_1, sm_1, sm_2, aI_e, aJ_e, wI_e, wJ_e, aL_e, cpI_e, cpJ_e, Nat.reduceLeDiff, Nat.reduceEqDiff, Nat.add_left_cancel_iff, ad0, ad1, false_and, and_false, true_and, and_true, reduceIte, if_true, if_false, zb0, zb1, Int32.reduceLT, Int32.reduceLE, i10, nw1, nw2, nt1, nt2, not_true_eq_false, not_false_eq_true, mt_0, mt_1, mt_2, mt_3, ml_3, mt_4, ml_4, mt_5, mt_6, ml_6, mt_7, ml_7, mt_8, ml_8, mt_9, mt_10, ml_10, mt_11, ml_11, mt_12, ml_12, mt_13, mt_14, ml_14, mt_15, ml_15, mt_16, ml_16, mt_17, mt_18, ml_18, mt_19, mt_20, ml_20, mt_21, mt_22, ml_22, mt_23, mt_24, ml_24, mt_25, mt_26, ml_26, mt_53, mt_54, ml_54, mt_55, ml_55, mt_56, mt_57, ml_57, mt_58, ml_58, mt_59, mt_60, ml_60, mt_61, mt_62, ml_62, mt_63, ml_63, mt_64, mt_65, ml_65, mt_66, mt_67, ml_67, mt_68, mt_69, ml_69, mt_70, mt_71, ml_71, mt_72, mt_73, ml_73, mt_74, mt_75, ml_75, mt_76, mt_77, ml_77, gP_0_0, gP_0_1, gP_0_4, gP_0_5, gP_0_6, gP_0_7, gP_0_8, gP_0_9, gP_1_0, gP_1_1, gP_1_4, gP_1_5, gP_1_6, gP_2_0, gP_5_1, gP_5_2, gP_5_3, gP_9_1, gP_9_2, gP_9_3, gP_13_1, gP_13_2, gP_13_3, gP_17_3, gP_19_3, gP_21_3, gP_23_3, gP_25_3, gP_53_0, gP_53_6, gP_56_0, gP_59_0, gP_61_3, gP_64_0, gP_66_2, gP_68_2, gP_70_2, gP_72_2, gP_74_2, gP_76_2, aP_4, mtw_4, mtl_4, mll_4, gPw_4, aP_58, mtw_58, mtl_58, mll_58, gPw_58, hS, hc5]
              rw [eb.1]
            · simp only [fn_X9_cut, fn_X9_isWalker, w5, b2, d2, c2', g1, z2, pr3, mt_sI, mt_sJ, mt_sP, mt_rI, mt_rJ, ml_sI, ml_sJ, ml_sP, ml_rI, ml_rJ, mP_sI, mP_sJ, mP_rI, mP_rJ, SHP_sI, SHP_sJ, SHP_rI, SHP_rJ, mI_sI, mI_rI, mI_sJ, mI_rJ, mI_sP, mJ_sI, mJ_rI, mJ_sP, mJ_sJ, mJ_rJ, gI_e, pI_e, ck_e, bnd_s, nm_eq, pr2_e, cnul_0, cnul_1, drf_1, sm_1, sm_2, aI_e, aJ_e, wI_e, wJ_e, aL_e, cpI_e, cpJ_e, Nat.reduceLeDiff, Nat.reduceEqDiff, Nat.add_left_cancel_iff, ad0, ad1, false_and, and_false, true_and, and_true, reduceIte, if_true, if_false, zb0, zb1, Int32.reduceLT, Int32.reduceLE, i10, nw1, nw2, nt1, nt2, not_true_eq_false, not_false_eq_true, mt_78, mt_79, ml_79, mt_80, ml_80, mt_81, ml_81, mt_82, ml_82, mt_83, ml_83, mt_84, ml_84, mt_85, ml_85, mt_86, ml_86, mt_87, ml_87, mt_88, ml_88, mt_89, ml_89, mt_90, ml_90, mt_91, ml_91, mt_92, ml_92, mt_93, ml_93, mt_94, ml_94, mt_95, ml_95, mt_96, ml_96, mt_97, ml_97, mt_98, ml_98, mt_99, ml_99, mt_100, ml_100, mt_101, ml_101, mt_102, ml_102, mt_103, ml_103, mt_104, ml_104, mt_105, ml_105, mt_106, ml_106, mt_107, ml_107, mt_108, ml_108, mt_109, ml_109, mt_110, ml_110, mt_111, ml_111, mt_112, ml_112, mt_113, ml_113, mt_114, ml_114, mt_115, ml_115, mt_116, ml_116, mt_117, ml_117, mt_118, ml_118, mt_119, ml_119, mt_120, ml_120, mt_121, ml_121, mt_122, ml_122, mt_123, ml_123, gP_78_2, gP_78_3, gP_78_4, gP_78_5, gP_78_6, gP_78_12, gP_78_13, gP_78_14, gP_78_15, gP_78_16, gP_78_17, gP_78_18, gP_78_19, gP_78_23, gP_78_24, gP_78_26, gP_78_27, gP_78_28, gP_78_31, gP_78_32, gP_78_34, gP_78_35, gP_78_36, gP_78_37, gP_78_40, gP_78_41, gP_78_42, gP_78_43, gP_78_52, gP_78_53, gP_78_54, gP_78_55, gP_78_56, gP_78_57, gP_78_58, gP_78_59, gP_78_60, gP_78_61, gP_78_62, gP_78_63, gP_78_65, gP_78_66, gP_78_67, gP_78_68, gP_78_69, hS]
    · refine ⟨-1, M, ?_, ?_, h⟩
      · simp only [fn_X8_cut, fn_X5_walkerAt, w4, b1, d1, mt_sI, mt_sJ, mt_sP, mt_rI, mt_rJ, ml_sI, ml_sJ, ml_sP, ml_rI, ml_rJ, mP_sI, mP_sJ, mP_rI, mP_rJ, SHP_sI, SHP_sJ, SHP_rI, SHP_rJ, mI_sI, mI_rI, mI_sJ, mI_rJ, mI_sP, mJ_sI, mJ_rI, mJ_sP, mJ_sJ, mJ_rJ, gI_e, pI_e, ck_e, bnd_s, nm_eq, pr2_e, cnul_0, cnul_1, drf_1, sm_1, sm_2, aI_e, aJ_e, wI_e, wJ_e, aL_e, cpI_e, cpJ_e, Nat.reduceLeDiff, Nat.reduceEqDiff, Nat.add_left_cancel_iff, ad0, ad1, false_and, and_false, true_and, and_true, reduceIte, if_true, if_false, zb0, zb1, Int32.reduceLT, Int32.reduceLE, i10, nw1, nw2, nt1, nt2, not_true_eq_false, not_false_eq_true, mt_0, mt_1, mt_2, mt_3, ml_3, mt_4, ml_4, mt_5, mt_6, ml_6, mt_7, ml_7, mt_8, ml_8, mt_9, mt_10, ml_10, mt_11, ml_11, mt_12, ml_12, mt_13, mt_14, ml_14, mt_15, ml_15, mt_16, ml_16, mt_17, mt_18, ml_18, mt_19, mt_20, ml_20, mt_21, mt_22, ml_22, mt_23, mt_24, ml_24, mt_25, mt_26, ml_26, mt_53, mt_54, ml_54, mt_55, ml_55, mt_56, mt_57, ml_57, mt_58, ml_58, mt_59, mt_60, ml_60, mt_61, mt_62, ml_62, mt_63, ml_63, mt_64, mt_65, ml_65, mt_66, mt_67, ml_67, mt_68, mt_69, ml_69, mt_70, mt_71, ml_71, mt_72, mt_73, ml_73, mt_74, mt_75, ml_75, mt_76, mt_77, ml_77, gP_0_0, gP_0_1, gP_0_4, gP_0_5, gP_0_6, gP_0_7, gP_0_8, gP_0_9, gP_1_0, gP_1_1, gP_1_4, gP_1_5, gP_1_6, gP_2_0, gP_5_1, gP_5_2, gP_5_3, gP_9_1, gP_9_2, gP_9_3, gP_13_1, gP_13_2, gP_13_3, gP_17_3, gP_19_3, gP_21_3, gP_23_3, gP_25_3, gP_53_0, gP_53_6, gP_56_0, gP_59_0, gP_61_3, gP_64_0, gP_66_2, gP_68_2, gP_70_2, gP_72_2, gP_74_2, gP_76_2, aP_4, mtw_4, mtl_4, mll_4, gPw_4, aP_58, mtw_58, mtl_58, mll_58, gPw_58, hS, hc5]
      · simp only [fn_X9_cut, fn_X9_isWalker, w5, b2, d2, mt_sI, mt_sJ, mt_sP, mt_rI, mt_rJ, ml_sI, ml_sJ, ml_sP, ml_rI, ml_rJ, mP_sI, mP_sJ, mP_rI, mP_rJ, SHP_sI, SHP_sJ, SHP_rI, SHP_rJ, mI_sI, mI_rI, mI_sJ, mI_rJ, mI_sP, mJ_sI, mJ_rI, mJ_sP, mJ_sJ, mJ_rJ, gI_e, pI_e, ck_e, bnd_s, nm_eq, pr2_e, cnul_0, cnul_1, drf_1, sm_1, sm_2, aI_e, aJ_e, wI_e, wJ_e, aL_e, cpI_e, cpJ_e, Nat.reduceLeDiff, Nat.reduceEqDiff, Nat.add_left_cancel_iff, ad0, ad1, false_and, and_false, true_and, and_true, reduceIte, if_true, if_false, zb0, zb1, Int32.reduceLT, Int32.reduceLE, i10, nw1, nw2, nt1, nt2, not_true_eq_false, not_false_eq_true, mt_78, mt_79, ml_79, mt_80, ml_80, mt_81, ml_81, mt_82, ml_82, mt_83, ml_83, mt_84, ml_84, mt_85, ml_85, mt_86, ml_86, mt_87, ml_87, mt_88, ml_88, mt_89, ml_89, mt_90, ml_90, mt_91, ml_91, mt_92, ml_92, mt_93, ml_93, mt_94, ml_94, mt_95, ml_95, mt_96, ml_96, mt_97, ml_97, mt_98, ml_98, mt_99, ml_99, mt_100, ml_100, mt_101, ml_101, mt_102, ml_102, mt_103, ml_103, mt_104, ml_104, mt_105, ml_105, mt_106, ml_106, mt_107, ml_107, mt_108, ml_108, mt_109, ml_109, mt_110, ml_110, mt_111, ml_111, mt_112, ml_112, mt_113, ml_113, mt_114, ml_114, mt_115, ml_115, mt_116, ml_116, mt_117, ml_117, mt_118, ml_118, mt_119, ml_119, mt_120, ml_120, mt_121, ml_121, mt_122, ml_122, mt_123, ml_123, gP_78_2, gP_78_3, gP_78_4, gP_78_5, gP_78_6, gP_78_12, gP_78_13, gP_78_14, gP_78_15, gP_78_16, gP_78_17, gP_78_18, gP_78_19, gP_78_23, gP_78_24, gP_78_26, gP_78_27, gP_78_28, gP_78_31, gP_78_32, gP_78_34, gP_78_35, gP_78_36, gP_78_37, gP_78_40, gP_78_41, gP_78_42, gP_78_43, gP_78_52, gP_78_53, gP_78_54, gP_78_55, gP_78_56, gP_78_57, gP_78_58, gP_78_59, gP_78_60, gP_78_61, gP_78_62, gP_78_63, gP_78_65, gP_78_66, gP_78_67, gP_78_68, gP_78_69, hS]
  · refine ⟨-1, M, ?_, ?_, h⟩
    · simp only [fn_X8_cut, fn_X5_walkerAt, w4, b1, mt_sI, mt_sJ, mt_sP, mt_rI, mt_rJ, ml_sI, ml_sJ, ml_sP, ml_rI, ml_rJ, mP_sI, mP_sJ, mP_rI, mP_rJ, SHP_sI, SHP_sJ, SHP_rI, SHP_rJ, mI_sI, mI_rI, mI_sJ, mI_rJ, mI_sP, mJ_sI, mJ_rI, mJ_sP, mJ_sJ, mJ_rJ, gI_e, pI_e, ck_e, bnd_s, nm_eq, pr2_e, cnul_0, cnul_1, drf_1, sm_1, sm_2, aI_e, aJ_e, wI_e, wJ_e, aL_e, cpI_e, cpJ_e, Nat.reduceLeDiff, Nat.reduceEqDiff, Nat.add_left_cancel_iff, ad0, ad1, false_and, and_false, true_and, and_true, reduceIte, if_true, if_false, zb0, zb1, Int32.reduceLT, Int32.reduceLE, i10, nw1, nw2, nt1, nt2, not_true_eq_false, not_false_eq_true, mt_0, mt_1, mt_2, mt_3, ml_3, mt_4, ml_4, mt_5, mt_6, ml_6, mt_7, ml_7, mt_8, ml_8, mt_9, mt_10, ml_10, mt_11, ml_11, mt_12, ml_12, mt_13, mt_14, ml_14, mt_15, ml_15, mt_16, ml_16, mt_17, mt_18, ml_18, mt_19, mt_20, ml_20, mt_21, mt_22, ml_22, mt_23, mt_24, ml_24, mt_25, mt_26, ml_26, mt_53, mt_54, ml_54, mt_55, ml_55, mt_56, mt_57, ml_57, mt_58, ml_58, mt_59, mt_60, ml_60, mt_61, mt_62, ml_62, mt_63, ml_63, mt_64, mt_65, ml_65, mt_66, mt_67, ml_67, mt_68, mt_69, ml_69, mt_70, mt_71, ml_71, mt_72, mt_73, ml_73, mt_74, mt_75, ml_75, mt_76, mt_77, ml_77, gP_0_0, gP_0_1, gP_0_4, gP_0_5, gP_0_6, gP_0_7, gP_0_8, gP_0_9, gP_1_0, gP_1_1, gP_1_4, gP_1_5, gP_1_6, gP_2_0, gP_5_1, gP_5_2, gP_5_3, gP_9_1, gP_9_2, gP_9_3, gP_13_1, gP_13_2, gP_13_3, gP_17_3, gP_19_3, gP_21_3, gP_23_3, gP_25_3, gP_53_0, gP_53_6, gP_56_0, gP_59_0, gP_61_3, gP_64_0, gP_66_2, gP_68_2, gP_70_2, gP_72_2, gP_74_2, gP_76_2, aP_4, mtw_4, mtl_4, mll_4, gPw_4, aP_58, mtw_58, mtl_58, mll_58, gPw_58, hS]
    · simp only [fn_X9_cut, fn_X9_isWalker, w5, b2, mt_sI, mt_sJ, mt_sP, mt_rI, mt_rJ, ml_sI, ml_sJ, ml_sP, ml_rI, ml_rJ, mP_sI, mP_sJ, mP_rI, mP_rJ, SHP_sI, SHP_sJ, SHP_rI, SHP_rJ, mI_sI, mI_rI, mI_sJ, mI_rJ, mI_sP, mJ_sI, mJ_rI, mJ_sP, mJ_sJ, mJ_rJ, gI_e, pI_e, ck_e, bnd_s, nm_eq, pr2_e, cnul_0, cnul_1, drf_1, sm_1, sm_2, aI_e, aJ_e, wI_e, wJ_e, aL_e, cpI_e, cpJ_e, Nat.reduceLeDiff, Nat.reduceEqDiff, Nat.add_left_cancel_iff, ad0, ad1, false_and, and_false, true_and, and_true, reduceIte, if_true, if_false, zb0, zb1, Int32.reduceLT, Int32.reduceLE, i10, nw1, nw2, nt1, nt2, not_true_eq_false, not_false_eq_true, mt_78, mt_79, ml_79, mt_80, ml_80, mt_81, ml_81, mt_82, ml_82, mt_83, ml_83, mt_84, ml_84, mt_85, ml_85, mt_86, ml_86, mt_87, ml_87, mt_88, ml_88, mt_89, ml_89, mt_90, ml_90, mt_91, ml_91, mt_92, ml_92, mt_93, ml_93, mt_94, ml_94, mt_95, ml_95, mt_96, ml_96, mt_97, ml_97, mt_98, ml_98, mt_99, ml_99, mt_100, ml_100, mt_101, ml_101, mt_102, ml_102, mt_103, ml_103, mt_104, ml_104, mt_105, ml_105, mt_106, ml_106, mt_107, ml_107, mt_108, ml_108, mt_109, ml_109, mt_110, ml_110, mt_111, ml_111, mt_112, ml_112, mt_113, ml_113, mt_114, ml_114, mt_115, ml_115, mt_116, ml_116, mt_117, ml_117, mt_118, ml_118, mt_119, ml_119, mt_120, ml_120, mt_121, ml_121, mt_122, ml_122, mt_123, ml_123, gP_78_2, gP_78_3, gP_78_4, gP_78_5, gP_78_6, gP_78_12, gP_78_13, gP_78_14, gP_78_15, gP_78_16, gP_78_17, gP_78_18, gP_78_19, gP_78_23, gP_78_24, gP_78_26, gP_78_27, gP_78_28, gP_78_31, gP_78_32, gP_78_34, gP_78_35, gP_78_36, gP_78_37, gP_78_40, gP_78_41, gP_78_42, gP_78_43, gP_78_52, gP_78_53, gP_78_54, gP_78_55, gP_78_56, gP_78_57, gP_78_58, gP_78_59, gP_78_60, gP_78_61, gP_78_62, gP_78_63, gP_78_65, gP_78_66, gP_78_67, gP_78_68, gP_78_69, hS]
