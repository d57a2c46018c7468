/-! ===== distances ===== -/
def ds (b : Nat → Bool) (lp : Bool) (s : Nat → Bool) (c : Nat) : Option Nat := lst (fun n => Rc b lp s n c) 16
def one (d : Nat) : Nat → Bool := fun i => decide (i = d)
def nearB : Nat → Bool := fun c => decide (c % 4 = 0)
def farB : Nat → Bool := fun c => decide (c % 4 = 3)
theorem aj_sym : ∀ lp : Bool, ∀ a, a < 16 → ∀ c, c < 16 → aj lp a c = aj lp c a := by decide +kernel
theorem lst_ex {P : Nat → Bool} {n : Nat} (h : P n = true) : ∃ k, k ≤ n ∧ P k = true ∧ ∀ j, j < k → P j = false := by
  cases e : lst P (n + 1) with
  | none => rw [lst_n e n (by omega)] at h; cases h
  | some k => obtain ⟨h1, h2, h3⟩ := lst_s e; exact ⟨k, by omega, h2, h3⟩
section DS1
variable {b : Nat → Bool} {lp : Bool} {s t : Nat → Bool}
theorem isD_ds : isD b lp s (ds b lp s) := by
  intro c hc
  refine ⟨fun n h => (lst_s h).2.1, fun n h => ?_⟩
  obtain ⟨k, h1, h2, h3⟩ := lst_ex (P := fun n => Rc b lp s n c) h
  have h4 := Rc_cnt k c hc h2 h3
  have h5 := cnt_le (Rc b lp s k) 16
  exact ⟨k, lst_some (P := fun n => Rc b lp s n c) h2 h3 (by omega), h1⟩
theorem Rc_mono {s' : Nat → Bool} (h : ∀ c, s c = true → s' c = true) {n c : Nat} (h1 : Rc b lp s n c = true) : Rc b lp s' n c = true := by
  induction n generalizing c with
  | zero =>
    have h1 : (s c && b c) = true := h1
    rw [Bool.and_eq_true] at h1
    show (s' c && b c) = true
    rw [h c h1.1, h1.2]; rfl
  | succ n ih =>
    rcases Rc_inv h1 with h2 | ⟨hb, a, ha, h3, h4⟩
    · exact Rc_s (ih h2)
    · exact Rc_step (ih h3) ha hb h4
theorem one_self {d : Nat} : one d d = true := decide_eq_true rfl
theorem one_eq {d c : Nat} (h : one d c = true) : c = d := of_decide_eq_true h
theorem Rc_un {n c : Nat} (hc : c < 16) : Rc b lp s n c = true ↔ ∃ d, d < 16 ∧ s d = true ∧ Rc b lp (one d) n c = true := by
  constructor
  · intro h
    induction n generalizing c with
    | zero =>
      have h : (s c && b c) = true := h
      rw [Bool.and_eq_true] at h
      exact ⟨c, hc, h.1, by show (one c c && b c) = true; rw [one_self, h.2]; rfl⟩
    | succ n ih =>
      rcases Rc_inv h with h2 | ⟨hb, a, ha, h3, h4⟩
      · obtain ⟨d, q1, q2, q3⟩ := ih hc h2
        exact ⟨d, q1, q2, Rc_s q3⟩
      · obtain ⟨d, q1, q2, q3⟩ := ih ha h3
        exact ⟨d, q1, q2, Rc_step q3 ha hb h4⟩
  · intro ⟨d, _, q2, q3⟩
    exact Rc_mono (fun c h => by rw [one_eq h]; exact q2) q3
theorem Rc_head {n c d e : Nat} (hd : d < 16) (he : e < 16) (hb : b d = true) (hj : aj lp d e = true) (h : Rc b lp (one e) n c = true) : Rc b lp (one d) (n + 1) c = true := by
  induction n generalizing c with
  | zero =>
    have h : (one e c && b c) = true := h
    rw [Bool.and_eq_true] at h
    have hce := one_eq h.1
    subst hce
    exact Rc_step (n := 0) (a := d) (by show (one d d && b d) = true; rw [one_self, hb]; rfl) hd h.2 hj
  | succ n ih =>
    rcases Rc_inv h with h2 | ⟨hb, a, ha, h3, h4⟩
    · exact Rc_s (ih h2)
    · exact Rc_step (ih h3) ha hb h4
theorem Rc_sym {n c d : Nat} (hc : c < 16) (hd : d < 16) (h : Rc b lp (one d) n c = true) : Rc b lp (one c) n d = true := by
  induction n generalizing c with
  | zero =>
    have h : (one d c && b c) = true := h
    rw [Bool.and_eq_true] at h
    have hce := one_eq h.1
    subst hce
    show (one c c && b c) = true
    rw [one_self, h.2]; rfl
  | succ n ih =>
    rcases Rc_inv h with h2 | ⟨hb, a, ha, h3, h4⟩
    · exact Rc_s (ih hc h2)
    · exact Rc_head hc ha hb (by rw [aj_sym lp c hc a ha]; exact h4) (ih ha h3)
theorem Bool_iff {x y : Bool} (h : x = true ↔ y = true) : x = y := Bool.eq_iff_iff.mpr h
/-- from a cell to t as far as from t to the cell -/
theorem fw_one {c : Nat} (hc : c < 16) : fw b lp (one c) t = ds b lp t c := by
  refine lst_congr fun n _ => Bool_iff ?_
  show anyN (fun d => t d && Rc b lp (one c) n d) 16 = true ↔ Rc b lp t n c = true
  rw [anyN_iff, Rc_un hc]
  constructor
  · intro ⟨d, h1, h2⟩
    rw [Bool.and_eq_true] at h2
    exact ⟨d, h1, h2.1, Rc_sym h1 hc h2.2⟩
  · intro ⟨d, h1, h2, h3⟩
    exact ⟨d, h1, by rw [h2, Rc_sym hc h1 h3]; rfl⟩
theorem fw_to {c : Nat} (hc : c < 16) : fw b lp s (one c) = ds b lp s c := by
  refine lst_congr fun n _ => Bool_iff ?_
  show anyN (fun d => one c d && Rc b lp s n d) 16 = true ↔ Rc b lp s n c = true
  rw [anyN_iff]
  constructor
  · intro ⟨d, h1, h2⟩
    rw [Bool.and_eq_true] at h2
    rw [← one_eq h2.1]; exact h2.2
  · intro h
    exact ⟨c, hc, by rw [one_self, h]; rfl⟩
/-- the least of two -/
def omin : Option Nat → Option Nat → Option Nat
  | none, y => y
  | x, none => x
  | some m, some n => if n < m then some n else some m
theorem lst_or {P Q : Nat → Bool} : ∀ {n : Nat}, lst (fun k => P k || Q k) n = omin (lst P n) (lst Q n) := by
  intro n
  cases e1 : lst P n with
  | none =>
    cases e2 : lst Q n with
    | none => exact lst_none fun j hj => by rw [lst_n e1 j hj, lst_n e2 j hj]; rfl
    | some m =>
      obtain ⟨h1, h2, h3⟩ := lst_s e2
      exact lst_some (by rw [h2, Bool.or_true]) (fun j hj => by rw [lst_n e1 j (by omega), h3 j hj]; rfl) h1
  | some m =>
    obtain ⟨h1, h2, h3⟩ := lst_s e1
    cases e2 : lst Q n with
    | none => exact lst_some (by rw [h2, Bool.true_or]) (fun j hj => by rw [lst_n e2 j (by omega), h3 j hj]; rfl) h1
    | some m' =>
      obtain ⟨h1', h2', h3'⟩ := lst_s e2
      show _ = if m' < m then some m' else some m
      by_cases q : m' < m
      · rw [if_pos q]
        exact lst_some (by rw [h2', Bool.or_true]) (fun j hj => by rw [h3 j (by omega), h3' j hj]; rfl) h1'
      · rw [if_neg q]
        exact lst_some (by rw [h2, Bool.true_or]) (fun j hj => by rw [h3 j hj, h3' j (by omega)]; rfl) h1
theorem fw_far : fw b lp s farB = omin (omin (omin (ds b lp s 3) (ds b lp s 7)) (ds b lp s 11)) (ds b lp s 15) := by
  unfold ds
  rw [← lst_or, ← lst_or, ← lst_or]
  refine lst_congr fun n _ => ?_
  show anyN (fun d => farB d && Rc b lp s n d) 16 = _
  have f : farB 0 = false ∧ farB 1 = false ∧ farB 2 = false ∧ farB 3 = true ∧ farB 4 = false ∧ farB 5 = false ∧ farB 6 = false ∧ farB 7 = true ∧ farB 8 = false ∧ farB 9 = false ∧ farB 10 = false ∧ farB 11 = true ∧ farB 12 = false ∧ farB 13 = false ∧ farB 14 = false ∧ farB 15 = true := by decide
  simp only [anyN, f, Bool.false_and, Bool.true_and, Bool.false_or, Bool.or_false]
theorem ds_lt {c n : Nat} (hc : c < 16) (h : ds b lp s c = some n) : n < 16 := (lst_s h).1
end DS1
theorem iI_neg {q : Option Nat} (hq : ∀ n, q = some n → n < 2 ^ 31) : iI q < 0 ↔ q = none := by
  cases q with
  | none => exact ⟨fun _ => rfl, fun _ => by decide⟩
  | some n => exact ⟨fun h => absurd h (nI_pos (hq n rfl)), fun h => by cases h⟩
theorem iI_pos {q : Option Nat} (hq : ∀ n, q = some n → n < 2 ^ 31) : 0 ≤ iI q ↔ ¬ q = none := by
  cases q with
  | none => exact ⟨fun h => absurd h (by decide), fun h => absurd rfl h⟩
  | some n => exact ⟨fun _ h => (by cases h), fun _ => nI_pos' (hq n rfl)⟩
/-! ===== a list of cells, none twice ===== -/
def udN (d : Nat → Nat) (c v x : Nat) : Nat := if x = c then v else d x
theorem udN_e {d : Nat → Nat} {c v x : Nat} (h : x = c) : udN d c v x = v := if_pos h
theorem udN_n {d : Nat → Nat} {c v x : Nat} (h : ¬ x = c) : udN d c v x = d x := if_neg h
def qw (ws : List Nat) (d : Nat → Nat) (c : Nat) : Option Nat := if c ∈ ws then some (d c) else none
theorem qw_t {ws : List Nat} {d : Nat → Nat} {c : Nat} (h : c ∈ ws) : qw ws d c = some (d c) := if_pos h
theorem qw_f {ws : List Nat} {d : Nat → Nat} {c : Nat} (h : ¬ c ∈ ws) : qw ws d c = none := if_neg h
theorem nd_len {ws : List Nat} (h : ws.Pairwise (fun a c => ¬ a = c)) (h2 : ∀ a, a ∈ ws → a < 16) : ws.length ≤ cnt (fun c => decide (c ∈ ws)) 16 := by
  induction ws with
  | nil => exact Nat.zero_le _
  | cons a ws ih =>
    rw [List.pairwise_cons] at h
    have h3 := ih h.2 (fun c hc => h2 c (List.mem_cons_of_mem _ hc))
    have h4 := cnt_lt (f := fun c => decide (c ∈ ws)) (g := fun c => decide (c ∈ a :: ws)) (a := a) 16 (h2 a List.mem_cons_self) (decide_eq_false fun q => h.1 a q rfl) (decide_eq_true List.mem_cons_self) (fun c _ q => decide_eq_true (List.mem_cons_of_mem _ (of_decide_eq_true q)))
    show ws.length + 1 ≤ _
    omega
/-- the search of the reference, midway: ws the wave, d how far, the first k are done -/
def Jv (b : Nat → Bool) (lp : Bool) (s : Nat → Bool) (ws : List Nat) (d : Nat → Nat) (k : Nat) : Prop :=
  (∀ a, a ∈ ws → a < 16 ∧ b a = true ∧ Rc b lp s (d a) a = true ∧ d a < ws.length) ∧ (∀ c, c < 16 → s c = true → b c = true → c ∈ ws ∧ d c = 0) ∧ (∀ i a, i < k → ws[i]? = some a → ∀ c, c < 16 → b c = true → aj lp a c = true → c ∈ ws ∧ d c ≤ d a + 1) ∧ ws.Pairwise (fun a c => d a ≤ d c) ∧ (∀ a0, ws[k]? = some a0 → ∀ a, a ∈ ws → d a ≤ d a0 + 1) ∧ ws.Pairwise (fun a c => ¬ a = c)
section JV1
variable {b : Nat → Bool} {lp : Bool} {s : Nat → Bool} {ws : List Nat} {d : Nat → Nat} {k : Nat}
theorem Jv.len (h : Jv b lp s ws d k) : ws.length ≤ 16 := Nat.le_trans (nd_len h.2.2.2.2.2 (fun a ha => (h.1 a ha).1)) (cnt_le _ 16)
theorem Jv.add (h : Jv b lp s ws d k) {a0 c : Nat} (ha : ws[k]? = some a0) (hc : c < 16) (hb : b c = true) (hj : aj lp a0 c = true) (hn : ¬ c ∈ ws) : Jv b lp s (ws ++ [c]) (udN d c (d a0 + 1)) k := by
  obtain ⟨h1, h2, h3, h4, h5, h6⟩ := h
  have ne : ∀ a, a ∈ ws → ¬ a = c := fun a q e => hn (e ▸ q)
  have ha0 : a0 ∈ ws := List.mem_of_getElem? ha
  have hk : k < ws.length := (List.getElem?_eq_some_iff.mp ha).1
  have lo : ∀ i a, i ≤ k → (ws ++ [c])[i]? = some a → ws[i]? = some a := fun i a hi q => by rw [List.getElem?_append_left (by omega)] at q; exact q
  refine ⟨fun a q => ?_, fun x q1 q2 q3 => ?_, fun i a q1 q2 x q3 q4 q5 => ?_, ?_, fun a1 q1 a q2 => ?_, ?_⟩
  · rw [List.mem_append, List.mem_singleton] at q
    rcases q with q | q
    · rw [udN_n (ne a q), List.length_append]
      obtain ⟨z1, z2, z3, z4⟩ := h1 a q
      exact ⟨z1, z2, z3, by omega⟩
    · rw [udN_e q, q, List.length_append]
      obtain ⟨z1, z2, z3, z4⟩ := h1 a0 ha0
      exact ⟨hc, hb, Rc_step z3 z1 hb hj, by show d a0 + 1 < ws.length + 1; omega⟩
  · obtain ⟨z1, z2⟩ := h2 x q1 q2 q3
    exact ⟨List.mem_append_left _ z1, by rw [udN_n (ne x z1)]; exact z2⟩
  · have q2' := lo i a (by omega) q2
    obtain ⟨z1, z2⟩ := h3 i a q1 q2' x q3 q4 q5
    exact ⟨List.mem_append_left _ z1, by rw [udN_n (ne x z1), udN_n (ne a (List.mem_of_getElem? q2'))]; exact z2⟩
  · rw [List.pairwise_append]
    refine ⟨List.Pairwise.imp_of_mem (fun {x y} hx hy q => by rw [udN_n (ne x hx), udN_n (ne y hy)]; exact q) h4, List.pairwise_singleton _ _, fun x hx y hy => ?_⟩
    rw [List.mem_singleton] at hy
    rw [udN_n (ne x hx), udN_e hy]
    exact h5 a0 ha x hx
  · have q1' := lo k a1 (by omega) q1
    rw [ha] at q1'
    cases q1'
    rw [udN_n (ne a0 ha0)]
    rw [List.mem_append, List.mem_singleton] at q2
    rcases q2 with q2 | q2
    · rw [udN_n (ne a q2)]; exact h5 a0 ha a q2
    · rw [udN_e q2]; exact Nat.le_refl _
  · rw [List.pairwise_append]
    exact ⟨h6, List.pairwise_singleton _ _, fun x hx y hy => by rw [List.mem_singleton] at hy; rw [hy]; exact ne x hx⟩
theorem Jv.next (h : Jv b lp s ws d k) {a0 : Nat} (ha : ws[k]? = some a0) (hd : ∀ c, c < 16 → b c = true → aj lp a0 c = true → c ∈ ws ∧ d c ≤ d a0 + 1) : Jv b lp s ws d (k + 1) := by
  obtain ⟨h1, h2, h3, h4, h5, h6⟩ := h
  refine ⟨h1, h2, fun i a q1 q2 => ?_, h4, fun a1 q1 a q2 => ?_, h6⟩
  · by_cases e : i = k
    · subst e
      rw [ha] at q2
      cases q2
      exact hd
    · exact h3 i a (by omega) q2
  · have h7 := h5 a0 ha a q2
    have : d a0 ≤ d a1 := by
      have hk := (List.getElem?_eq_some_iff.mp q1).1
      have := List.pairwise_iff_getElem.mp h4 k (k + 1) (by omega) hk (by omega)
      rw [(List.getElem?_eq_some_iff.mp q1).2, (List.getElem?_eq_some_iff.mp ha).2] at this
      exact this
    omega
theorem Jv.fin (h : Jv b lp s ws d k) (hk : ws.length ≤ k) {c : Nat} (hc : c < 16) : qw ws d c = ds b lp s c := by
  obtain ⟨h1, h2, h3, h4, h5, h6⟩ := h
  refine isD_u (q := qw ws d) (isD_of (fun x hx n q => ?_) (fun x hx q1 q2 => ?_) (fun a x n ha hx q1 q2 q3 => ?_)) isD_ds hc
  · by_cases e : x ∈ ws
    · rw [qw_t e] at q; cases q; exact (h1 x e).2.2.1
    · rw [qw_f e] at q; cases q
  · obtain ⟨z1, z2⟩ := h2 x hx q1 q2
    rw [qw_t z1, z2]
  · by_cases e : a ∈ ws
    · rw [qw_t e] at q1; cases q1
      obtain ⟨i, hi⟩ := List.getElem?_of_mem e
      have hil := (List.getElem?_eq_some_iff.mp hi).1
      obtain ⟨z1, z2⟩ := h3 i a (by omega) hi x hx q2 q3
      exact ⟨d x, qw_t z1, z2⟩
    · rw [qw_f e] at q1; cases q1
end JV1
