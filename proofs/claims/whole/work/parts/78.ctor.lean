/-! ===== what the constructors do, as a list of steps: printed by ctor.py ===== -/
abbrev OPQ : Type := Nat × Nat × Nat × Nat × Int32
def PRG0 : List OPQ := [(0, 8, 0, 0, 0), (0, 5, 0, 0, 0), (0, 2, 0, 0, 0), (0, 20, 16, 0, 0), (1, 2, 0, 3, 0), (1, 1, 0, 2, 0), (0, 26, 5, 0, 0), (1, 1, 1, 4, 0), (0, 4, 0, 0, 0), (2, 5, 0, 0, 5), (0, 20, 5, 0, 0), (1, 5, 1, 6, 0), (0, 20, 5, 0, 0), (1, 5, 2, 7, 0), (0, 20, 5, 0, 0), (1, 5, 3, 8, 0), (1, 1, 4, 5, 0), (0, 4, 0, 0, 0), (2, 9, 0, 0, 10), (0, 20, 10, 0, 0), (1, 9, 1, 10, 0), (0, 20, 10, 0, 0), (1, 9, 2, 11, 0), (0, 20, 10, 0, 0), (1, 9, 3, 12, 0), (1, 1, 5, 9, 0), (0, 4, 0, 0, 0), (2, 13, 0, 0, 8), (0, 20, 8, 0, 0), (1, 13, 1, 14, 0), (0, 20, 8, 0, 0), (1, 13, 2, 15, 0), (0, 20, 8, 0, 0), (1, 13, 3, 16, 0), (1, 1, 6, 13, 0), (0, 7, 0, 0, 0), (0, 20, 4, 0, 0), (1, 17, 3, 18, 0), (1, 4, 0, 17, 0), (0, 7, 0, 0, 0), (0, 20, 4, 0, 0), (1, 19, 3, 20, 0), (1, 4, 1, 19, 0), (0, 7, 0, 0, 0), (0, 20, 4, 0, 0), (1, 21, 3, 22, 0), (1, 4, 2, 21, 0), (0, 7, 0, 0, 0), (0, 20, 4, 0, 0), (1, 23, 3, 24, 0), (1, 4, 3, 23, 0), (0, 7, 0, 0, 0), (0, 20, 4, 0, 0), (1, 25, 3, 26, 0), (1, 4, 4, 25, 0), (1, 0, 0, 1, 0), (0, 5, 0, 0, 0), (0, 2, 0, 0, 0), (0, 20, 16, 0, 0), (1, 28, 0, 29, 0)]
def PRG1 : List OPQ := [(1, 27, 0, 28, 0), (0, 26, 5, 0, 0), (1, 27, 1, 30, 0), (0, 4, 0, 0, 0), (2, 31, 0, 0, 5), (0, 20, 5, 0, 0), (1, 31, 1, 32, 0), (0, 20, 5, 0, 0), (1, 31, 2, 33, 0), (0, 20, 5, 0, 0), (1, 31, 3, 34, 0), (1, 27, 4, 31, 0), (0, 4, 0, 0, 0), (2, 35, 0, 0, 10), (0, 20, 10, 0, 0), (1, 35, 1, 36, 0), (0, 20, 10, 0, 0), (1, 35, 2, 37, 0), (0, 20, 10, 0, 0), (1, 35, 3, 38, 0), (1, 27, 5, 35, 0), (0, 4, 0, 0, 0), (2, 39, 0, 0, 8), (0, 20, 8, 0, 0), (1, 39, 1, 40, 0), (0, 20, 8, 0, 0), (1, 39, 2, 41, 0), (0, 20, 8, 0, 0), (1, 39, 3, 42, 0), (1, 27, 6, 39, 0), (0, 7, 0, 0, 0), (0, 20, 4, 0, 0), (1, 43, 3, 44, 0), (1, 30, 0, 43, 0), (0, 7, 0, 0, 0), (0, 20, 4, 0, 0), (1, 45, 3, 46, 0), (1, 30, 1, 45, 0), (0, 7, 0, 0, 0), (0, 20, 4, 0, 0), (1, 47, 3, 48, 0), (1, 30, 2, 47, 0), (0, 7, 0, 0, 0), (0, 20, 4, 0, 0), (1, 49, 3, 50, 0), (1, 30, 3, 49, 0), (0, 7, 0, 0, 0), (0, 20, 4, 0, 0), (1, 51, 3, 52, 0), (1, 30, 4, 51, 0), (1, 0, 1, 27, 0), (0, 3, 0, 0, 0), (0, 22, 100, 0, 0), (1, 53, 0, 54, 0), (0, 20, 16, 0, 0), (1, 53, 6, 55, 0), (1, 0, 4, 53, 0), (0, 0, 0, 0, 0), (0, 20, 20, 0, 0), (1, 56, 0, 57, 0)]
def PRG2 : List OPQ := [(1, 0, 5, 56, 0), (0, 25, 6, 0, 0), (1, 0, 6, 58, 0), (0, 2, 0, 0, 0), (0, 20, 16, 0, 0), (1, 59, 0, 60, 0), (1, 0, 7, 59, 0), (0, 7, 0, 0, 0), (0, 20, 4, 0, 0), (1, 61, 3, 62, 0), (1, 0, 8, 61, 0), (0, 21, 100, 0, 0), (1, 0, 9, 63, 0), (0, 1, 0, 0, 0), (0, 20, 1600, 0, 0), (1, 64, 0, 65, 0), (2, 64, 1, 0, 99), (2, 64, 2, 0, 10), (3, 65, 1600, 0, 2), (1, 1, 7, 64, 0), (1, 27, 7, 64, 0), (0, 6, 0, 0, 0), (2, 66, 0, 0, -1), (0, 24, 60, 0, 0), (1, 66, 2, 67, 0), (1, 58, 0, 66, 0), (0, 6, 0, 0, 0), (2, 68, 0, 0, -1), (0, 24, 60, 0, 0), (1, 68, 2, 69, 0), (1, 58, 1, 68, 0), (0, 6, 0, 0, 0), (2, 70, 0, 0, -1), (0, 24, 60, 0, 0), (1, 70, 2, 71, 0), (1, 58, 2, 70, 0), (0, 6, 0, 0, 0), (2, 72, 0, 0, -1), (0, 24, 60, 0, 0), (1, 72, 2, 73, 0), (1, 58, 3, 72, 0), (0, 6, 0, 0, 0), (2, 74, 0, 0, -1), (0, 24, 60, 0, 0), (1, 74, 2, 75, 0), (1, 58, 4, 74, 0), (0, 6, 0, 0, 0), (2, 76, 0, 0, -1), (0, 24, 60, 0, 0), (1, 76, 2, 77, 0), (1, 58, 5, 76, 0), (0, 9, 0, 0, 0), (2, 78, 0, 0, 0), (2, 78, 1, 0, 0), (0, 20, 16, 0, 0), (1, 78, 2, 79, 0), (0, 20, 5, 0, 0), (1, 78, 3, 80, 0), (0, 20, 5, 0, 0), (1, 78, 4, 81, 0)]
def PRG3 : List OPQ := [(0, 20, 5, 0, 0), (1, 78, 5, 82, 0), (0, 20, 20, 0, 0), (1, 78, 6, 83, 0), (2, 78, 7, 0, 0), (2, 78, 8, 0, -1), (2, 78, 9, 0, 0), (2, 78, 10, 0, 0), (2, 78, 11, 0, 0), (0, 20, 100, 0, 0), (1, 78, 12, 84, 0), (0, 20, 6, 0, 0), (1, 78, 13, 85, 0), (0, 20, 60, 0, 0), (1, 78, 14, 86, 0), (0, 20, 60, 0, 0), (1, 78, 15, 87, 0), (0, 20, 60, 0, 0), (1, 78, 16, 88, 0), (0, 20, 60, 0, 0), (1, 78, 17, 89, 0), (0, 20, 600, 0, 0), (1, 78, 18, 90, 0), (0, 20, 101, 0, 0), (1, 78, 19, 91, 0), (2, 78, 20, 0, 0), (2, 78, 21, 0, 0), (2, 78, 22, 0, 0), (0, 20, 18, 0, 0), (2, 92, 0, 0, 116), (2, 92, 1, 0, 104), (2, 92, 2, 0, 105), (2, 92, 3, 0, 99), (2, 92, 4, 0, 107), (2, 92, 5, 0, 116), (2, 92, 6, 0, 104), (2, 92, 7, 0, 105), (2, 92, 8, 0, 110), (2, 92, 9, 0, 115), (2, 92, 10, 0, 112), (2, 92, 11, 0, 111), (2, 92, 12, 0, 111), (2, 92, 13, 0, 110), (2, 92, 14, 0, 109), (2, 92, 15, 0, 105), (2, 92, 16, 0, 108), (2, 92, 17, 0, 107), (1, 78, 23, 92, 0), (0, 21, 100, 0, 0), (1, 78, 24, 93, 0), (2, 78, 25, 0, 0), (0, 20, 16, 0, 0), (1, 78, 26, 94, 0), (0, 20, 16, 0, 0), (1, 78, 27, 95, 0), (0, 21, 16, 0, 0), (1, 78, 28, 96, 0), (2, 78, 29, 0, 0), (2, 78, 30, 0, 0), (0, 20, 16, 0, 0)]
def PRG4 : List OPQ := [(1, 78, 31, 97, 0), (0, 20, 16, 0, 0), (1, 78, 32, 98, 0), (2, 78, 33, 0, 0), (0, 20, 5, 0, 0), (1, 78, 34, 99, 0), (0, 20, 5, 0, 0), (1, 78, 35, 100, 0), (0, 20, 80, 0, 0), (1, 78, 36, 101, 0), (0, 21, 5, 0, 0), (1, 78, 37, 102, 0), (2, 78, 38, 0, 0), (2, 78, 39, 0, 0), (0, 20, 10, 0, 0), (1, 78, 40, 103, 0), (0, 20, 10, 0, 0), (1, 78, 41, 104, 0), (0, 20, 8, 0, 0), (1, 78, 42, 105, 0), (0, 20, 8, 0, 0), (1, 78, 43, 106, 0), (2, 78, 44, 0, 0), (2, 78, 45, 0, -1), (2, 78, 46, 0, 0), (2, 78, 47, 0, 0), (2, 78, 48, 0, 0), (2, 78, 49, 0, 0), (2, 78, 50, 0, 0), (2, 78, 51, 0, 0), (0, 20, 16, 0, 0), (1, 78, 52, 107, 0), (0, 20, 5, 0, 0), (1, 78, 53, 108, 0), (0, 20, 5, 0, 0), (1, 78, 54, 109, 0), (0, 20, 5, 0, 0), (1, 78, 55, 110, 0), (0, 20, 20, 0, 0), (1, 78, 56, 111, 0), (0, 20, 5, 0, 0), (1, 78, 57, 112, 0), (0, 20, 5, 0, 0), (1, 78, 58, 113, 0), (0, 20, 10, 0, 0), (1, 78, 59, 114, 0), (0, 20, 10, 0, 0), (1, 78, 60, 115, 0), (0, 20, 8, 0, 0), (1, 78, 61, 116, 0), (0, 20, 8, 0, 0), (1, 78, 62, 117, 0), (0, 21, 5, 0, 0), (1, 78, 63, 118, 0), (2, 78, 64, 0, 0), (0, 20, 20, 0, 0), (1, 78, 65, 119, 0), (0, 20, 6, 0, 0), (2, 120, 0, 0, -1), (2, 120, 1, 0, -1)]
def PRG5 : List OPQ := [(2, 120, 2, 0, -1), (2, 120, 3, 0, -1), (2, 120, 4, 0, -1), (2, 120, 5, 0, -1), (1, 78, 66, 120, 0), (0, 20, 6, 0, 0), (1, 78, 67, 121, 0), (0, 24, 360, 0, 0), (1, 78, 68, 122, 0), (0, 24, 60, 0, 0), (1, 78, 69, 123, 0)]
def PRG : List OPQ := PRG0 ++ PRG1 ++ PRG2 ++ PRG3 ++ PRG4 ++ PRG5
def stQ (o : Nat) (M : QM) (p : OPQ) : QM := if p.1 = 0 then nw M p.2.1 p.2.2.1 else if p.1 = 1 then sP M (o + p.2.1) p.2.2.1 (some (o + p.2.2.2.1)) else if p.1 = 2 then sI M (o + p.2.1) p.2.2.1 p.2.2.2.2 else rI M (o + p.2.1) (fun i => if i < p.2.2.1 then p.2.2.2.2 else 0)
def cSt (o i : Nat) : QM := (PRG.take i).foldl (stQ o) (QM0 o)
def nal : List OPQ → Nat
  | [] => 0
  | p :: ps => (if p.1 = 0 then 1 else 0) + nal ps
def AN (i : Nat) : Nat := nal (PRG.take i)
def okT : List OPQ → Nat → Bool
  | [], _ => true
  | p :: ps, n => if p.1 = 0 then (decide (shT.getD n (99, 0) = (p.2.1, p.2.2.1)) && okT ps (n + 1)) else okT ps n
def rdP (a k : Nat) : List OPQ → Nat → Option Nat → Option Nat
  | [], _, x => x
  | p :: ps, n, x => if p.1 = 0 then rdP a k ps (n + 1) (if a = n then none else x) else if p.1 = 1 then rdP a k ps n (if a = p.2.1 ∧ k = p.2.2.1 then some p.2.2.2.1 else x) else rdP a k ps n x
def rdI (a k : Nat) : List OPQ → Nat → Int32 → Int32
  | [], _, x => x
  | p :: ps, n, x => if p.1 = 0 then rdI a k ps (n + 1) (if a = n then 0 else x) else if p.1 = 1 then rdI a k ps n x else if p.1 = 2 then rdI a k ps n (if a = p.2.1 ∧ k = p.2.2.1 then p.2.2.2.2 else x) else rdI a k ps n (if a = p.2.1 then (if k < p.2.2.1 then p.2.2.2.2 else 0) else x)
section CT1
variable {o : Nat}
theorem st_mz (M : QM) (p : OPQ) : mz (stQ o M p) = mz M + (if p.1 = 0 then 1 else 0) := by
  unfold stQ
  by_cases h0 : p.1 = 0
  · rw [if_pos h0, if_pos h0]; rfl
  · rw [if_neg h0, if_neg h0]
    by_cases h1 : p.1 = 1
    · rw [if_pos h1]; rfl
    · rw [if_neg h1]
      by_cases h2 : p.1 = 2
      · rw [if_pos h2]; rfl
      · rw [if_neg h2]; rfl
theorem fo_mz : ∀ (ps : List OPQ) (M : QM), mz (ps.foldl (stQ o) M) = mz M + nal ps
  | [], _ => rfl
  | p :: ps, M => by
    show mz (ps.foldl (stQ o) (stQ o M p)) = mz M + ((if p.1 = 0 then 1 else 0) + nal ps)
    rw [fo_mz ps, st_mz, Nat.add_assoc]
theorem fo_tg : ∀ (ps : List OPQ) (M : QM) (n : Nat), mz M = o + n → (∀ a, a < n → M.2.1 (o + a) = shT.getD a (99, 0)) → okT ps n = true → ∀ a, a < n + nal ps → (ps.foldl (stQ o) M).2.1 (o + a) = shT.getD a (99, 0)
  | [], _, _, _, h, _ => h
  | p :: ps, M, n, hz, h, ok => by
    have ok : (if p.1 = 0 then (decide (shT.getD n (99, 0) = (p.2.1, p.2.2.1)) && okT ps (n + 1)) else okT ps n) = true := ok
    intro a ha
    have ha : a < n + ((if p.1 = 0 then 1 else 0) + nal ps) := ha
    show (ps.foldl (stQ o) (stQ o M p)).2.1 (o + a) = _
    by_cases h0 : p.1 = 0
    · rw [if_pos h0] at ok ha
      rw [Bool.and_eq_true, decide_eq_true_eq] at ok
      refine fo_tg ps _ (n + 1) (by rw [st_mz, hz, if_pos h0]; rfl) (fun b hb => ?_) ok.2 a (by omega)
      have e : (stQ o M p).2.1 (o + b) = if o + b = mz M then (p.2.1, p.2.2.1) else M.2.1 (o + b) := by
        unfold stQ
        rw [if_pos h0]; rfl
      rw [e, hz]
      by_cases hb2 : b = n
      · rw [if_pos (by omega), hb2, ok.1]
      · rw [if_neg (by omega)]; exact h b (by omega)
    · rw [if_neg h0] at ok ha
      refine fo_tg ps _ n (by rw [st_mz, hz, if_neg h0]; rfl) (fun b hb => ?_) ok a (by omega)
      have e : (stQ o M p).2.1 = M.2.1 := by
        unfold stQ
        rw [if_neg h0]
        by_cases h1 : p.1 = 1
        · rw [if_pos h1]; rfl
        · rw [if_neg h1]
          by_cases h2 : p.1 = 2
          · rw [if_pos h2]; rfl
          · rw [if_neg h2]; rfl
      rw [e]; exact h b hb
theorem okT_take : ∀ (i : Nat) (ps : List OPQ) (n : Nat), okT ps n = true → okT (ps.take i) n = true
  | 0, _, _, _ => rfl
  | _ + 1, [], _, _ => rfl
  | i + 1, p :: ps, n, h => by
    have h : (if p.1 = 0 then (decide (shT.getD n (99, 0) = (p.2.1, p.2.2.1)) && okT ps (n + 1)) else okT ps n) = true := h
    show (if p.1 = 0 then (decide (shT.getD n (99, 0) = (p.2.1, p.2.2.1)) && okT (ps.take i) (n + 1)) else okT (ps.take i) n) = true
    by_cases h0 : p.1 = 0
    · rw [if_pos h0] at h ⊢
      rw [Bool.and_eq_true] at h ⊢
      exact ⟨h.1, okT_take i ps (n + 1) h.2⟩
    · rw [if_neg h0] at h ⊢
      exact okT_take i ps n h
theorem fo_P {a k : Nat} : ∀ (ps : List OPQ) (M : QM) (n : Nat) (x : Option Nat), mz M = o + n → mP M (o + a) k = x.map (o + ·) → mP (ps.foldl (stQ o) M) (o + a) k = (rdP a k ps n x).map (o + ·)
  | [], _, _, _, _, h => h
  | p :: ps, M, n, x, hz, h => by
    show mP (ps.foldl (stQ o) (stQ o M p)) (o + a) k = Option.map (o + ·) (if p.1 = 0 then rdP a k ps (n + 1) (if a = n then none else x) else if p.1 = 1 then rdP a k ps n (if a = p.2.1 ∧ k = p.2.2.1 then some p.2.2.2.1 else x) else rdP a k ps n x)
    have hz2 := st_mz (o := o) M p
    by_cases h0 : p.1 = 0
    · rw [if_pos h0] at hz2 ⊢
      refine fo_P ps _ (n + 1) _ (by rw [hz2, hz]; rfl) ?_
      have e : mP (stQ o M p) (o + a) k = if o + a = mz M then none else mP M (o + a) k := by
        unfold stQ
        rw [if_pos h0]; rfl
      rw [e, hz]
      by_cases ha : a = n
      · rw [if_pos (by omega), if_pos ha]; rfl
      · rw [if_neg (by omega), if_neg ha]; exact h
    · rw [if_neg h0] at hz2 ⊢
      by_cases h1 : p.1 = 1
      · rw [if_pos h1]
        refine fo_P ps _ n _ (by rw [hz2, hz]; rfl) ?_
        have e : mP (stQ o M p) (o + a) k = if o + a = o + p.2.1 ∧ k = p.2.2.1 then some (o + p.2.2.2.1) else mP M (o + a) k := by
          unfold stQ
          rw [if_neg h0, if_pos h1]; rfl
        rw [e]
        by_cases ha : a = p.2.1 ∧ k = p.2.2.1
        · rw [if_pos ⟨by rw [ha.1], ha.2⟩, if_pos ha]; rfl
        · rw [if_neg (fun q => ha ⟨by have := q.1; omega, q.2⟩), if_neg ha]; exact h
      · rw [if_neg h1]
        refine fo_P ps _ n _ (by rw [hz2, hz]; rfl) ?_
        have e : mP (stQ o M p) (o + a) k = mP M (o + a) k := by
          unfold stQ
          rw [if_neg h0, if_neg h1]
          by_cases h2 : p.1 = 2
          · rw [if_pos h2]; rfl
          · rw [if_neg h2]; rfl
        rw [e]; exact h
theorem fo_I {a k : Nat} : ∀ (ps : List OPQ) (M : QM) (n : Nat) (x : Int32), mz M = o + n → mI M (o + a) k = x → mI (ps.foldl (stQ o) M) (o + a) k = rdI a k ps n x
  | [], _, _, _, _, h => h
  | p :: ps, M, n, x, hz, h => by
    show mI (ps.foldl (stQ o) (stQ o M p)) (o + a) k = if p.1 = 0 then rdI a k ps (n + 1) (if a = n then 0 else x) else if p.1 = 1 then rdI a k ps n x else if p.1 = 2 then rdI a k ps n (if a = p.2.1 ∧ k = p.2.2.1 then p.2.2.2.2 else x) else rdI a k ps n (if a = p.2.1 then (if k < p.2.2.1 then p.2.2.2.2 else 0) else x)
    have hz2 := st_mz (o := o) M p
    by_cases h0 : p.1 = 0
    · rw [if_pos h0] at hz2 ⊢
      refine fo_I ps _ (n + 1) _ (by rw [hz2, hz]; rfl) ?_
      have e : mI (stQ o M p) (o + a) k = if o + a = mz M then 0 else mI M (o + a) k := by
        unfold stQ
        rw [if_pos h0]; rfl
      rw [e, hz]
      by_cases ha : a = n
      · rw [if_pos (by omega), if_pos ha]
      · rw [if_neg (by omega), if_neg ha]; exact h
    · rw [if_neg h0] at hz2 ⊢
      by_cases h1 : p.1 = 1
      · rw [if_pos h1]
        refine fo_I ps _ n _ (by rw [hz2, hz]; rfl) ?_
        have e : mI (stQ o M p) (o + a) k = mI M (o + a) k := by
          unfold stQ
          rw [if_neg h0, if_pos h1]; rfl
        rw [e]; exact h
      · rw [if_neg h1]
        by_cases h2 : p.1 = 2
        · rw [if_pos h2]
          refine fo_I ps _ n _ (by rw [hz2, hz]; rfl) ?_
          have e : mI (stQ o M p) (o + a) k = if o + a = o + p.2.1 ∧ k = p.2.2.1 then p.2.2.2.2 else mI M (o + a) k := by
            unfold stQ
            rw [if_neg h0, if_neg h1, if_pos h2]; rfl
          rw [e]
          by_cases ha : a = p.2.1 ∧ k = p.2.2.1
          · rw [if_pos ⟨by rw [ha.1], ha.2⟩, if_pos ha]
          · rw [if_neg (fun q => ha ⟨by have := q.1; omega, q.2⟩), if_neg ha]; exact h
        · rw [if_neg h2]
          refine fo_I ps _ n _ (by rw [hz2, hz]; rfl) ?_
          have e : mI (stQ o M p) (o + a) k = if o + a = o + p.2.1 then (if k < p.2.2.1 then p.2.2.2.2 else 0) else mI M (o + a) k := by
            unfold stQ
            rw [if_neg h0, if_neg h1, if_neg h2]; rfl
          rw [e]
          by_cases ha : a = p.2.1
          · rw [if_pos (by omega), if_pos ha]
          · rw [if_neg (by omega), if_neg ha]; exact h
theorem fo_J {b k : Nat} : ∀ (ps : List OPQ) (M : QM), (∀ b, mJ M b k = 0) → mJ (ps.foldl (stQ o) M) b k = 0
  | [], _, h => h b
  | p :: ps, M, h => by
    show mJ (ps.foldl (stQ o) (stQ o M p)) b k = 0
    refine fo_J ps _ fun b => ?_
    unfold stQ
    by_cases h0 : p.1 = 0
    · rw [if_pos h0, mJ_nw]
      by_cases hb : b = mz M
      · rw [if_pos hb]
      · rw [if_neg hb]; exact h b
    · rw [if_neg h0]
      by_cases h1 : p.1 = 1
      · rw [if_pos h1]; exact h b
      · rw [if_neg h1]
        by_cases h2 : p.1 = 2
        · rw [if_pos h2]; exact h b
        · rw [if_neg h2]; exact h b
theorem PRG_ok : okT PRG 0 = true := by decide +kernel
theorem cSt_mz {i : Nat} : mz (cSt o i) = o + AN i := fo_mz _ _
theorem cSt_mz' {i n : Nat} (h : AN i = n) : mz (cSt o i) = o + n := by rw [cSt_mz, h]
theorem cSt_tg {i a : Nat} (h : a < AN i) : (cSt o i).2.1 (o + a) = shT.getD a (99, 0) := fo_tg _ (QM0 o) 0 rfl (fun _ h => absurd h (Nat.not_lt_zero _)) (okT_take i _ _ PRG_ok) a (by rw [Nat.zero_add]; exact h)
theorem cSt_P {i a k : Nat} : mP (cSt o i) (o + a) k = (rdP a k (PRG.take i) 0 none).map (o + ·) := fo_P _ (QM0 o) 0 none rfl rfl
theorem cSt_I {i a k : Nat} : mI (cSt o i) (o + a) k = rdI a k (PRG.take i) 0 0 := fo_I _ (QM0 o) 0 0 rfl rfl
theorem cSt_J {i b k : Nat} : mJ (cSt o i) b k = 0 := fo_J _ (QM0 o) fun _ => rfl
def dOP : OPQ := (9, 0, 0, 0, 0)
theorem cSt_s {i : Nat} {p : OPQ} (h : PRG.getD i dOP = p) (hi : i < PRG.length) : cSt o (i + 1) = stQ o (cSt o i) p := by
  have e : PRG.take (i + 1) = PRG.take i ++ [p] := by
    rw [List.take_succ, List.getElem?_eq_getElem hi]
    rw [List.getD_eq_getElem?_getD, List.getElem?_eq_getElem hi] at h
    have h : PRG[i] = p := h
    rw [h]; rfl
  unfold cSt
  rw [e, List.foldl_append]; rfl
def kS (i : Nat) (p : OPQ) : Bool := decide (PRG.getD i dOP = p) && decide (i < PRG.length)
theorem kS_e {i : Nat} {p : OPQ} (h : kS i p = true) : cSt o (i + 1) = stQ o (cSt o i) p := by
  unfold kS at h
  rw [Bool.and_eq_true, decide_eq_true_eq, decide_eq_true_eq] at h
  exact cSt_s h.1 h.2
def kT (i a ci : Nat) : Bool := decide (a < AN i) && decide ((shT.getD a (99, 0)).1 = ci)
theorem kT_e {i a ci : Nat} (h : kT i a ci = true) : mt (cSt o i) (o + a) = ci := by
  unfold kT at h
  rw [Bool.and_eq_true, decide_eq_true_eq, decide_eq_true_eq] at h
  show ((cSt o i).2.1 (o + a)).1 = ci
  rw [cSt_tg h.1]; exact h.2
theorem cSt_mt {i a ci : Nat} (h : kT i a ci = true) : mt (cSt o i) (o + a) = ci := kT_e h
def kL (i a k : Nat) : Bool := decide (a < AN i) && decide (k < (shT.getD a (99, 0)).2 ∧ (shT.getD a (99, 0)).2 ≤ 2000)
theorem kL_e {i a k : Nat} (h : kL i a k = true) : k < ml (cSt o i) (o + a) ∧ ml (cSt o i) (o + a) ≤ 2000 := by
  unfold kL at h
  rw [Bool.and_eq_true, decide_eq_true_eq, decide_eq_true_eq] at h
  have e : ml (cSt o i) (o + a) = (shT.getD a (99, 0)).2 := by
    show ((cSt o i).2.1 (o + a)).2 = _
    rw [cSt_tg h.1]
  rw [e]; exact h.2
variable {α : Type} {i n a b k ci t ln B : Nat} {x v : Int32}
def kO (i n ci : Nat) : Bool := kS i (0, ci, 0, 0, 0) && decide (AN i = n)
theorem cSt_nO {f : QM → Nat → Option α} (h : kO i n ci = true) : nO (cSt o i) ci f = f (cSt o (i + 1)) (o + n) := by
  unfold kO at h
  rw [Bool.and_eq_true, decide_eq_true_eq] at h
  rw [nO_e, cSt_mz' h.2, kS_e h.1]; rfl
def kA (i n t ln B : Nat) : Bool := kS i (0, t, ln, 0, 0) && decide (AN i = n ∧ ln ≤ B ∧ B ≤ 2000)
theorem cSt_nA {f : QM → Nat → Option α} (hx : x = nI ln) (h : kA i n t ln B = true) : nA (cSt o i) t x B f = f (cSt o (i + 1)) (o + n) := by
  unfold kA at h
  rw [Bool.and_eq_true, decide_eq_true_eq] at h
  rw [hx, nA_e h.2.2.1 h.2.2.2, cSt_mz' h.2.1, kS_e h.1]; rfl
def kC (i a ci : Nat) : Bool := kT i a ci
theorem cSt_ck {f : Option α} (h : kC i a ci = true) : ck (cSt o i) (o + a) ci f = f := ck_e (kT_e h)
def kP (i a ci k b : Nat) : Bool := kS i (1, a, k, b, 0) && kT i a ci
theorem cSt_pR {f : QM → Option α} (h : kP i a ci k b = true) : pR (cSt o i) (o + a) ci k (o + b) f = f (cSt o (i + 1)) := by
  unfold kP at h
  rw [Bool.and_eq_true] at h
  rw [pR_e (kT_e h.2), kS_e h.1]; rfl
def kW (i t a k ci b : Nat) : Bool := (kS i (1, a, k, b, 0) && kT i a t) && (kL i a k && kT i b ci)
theorem cSt_wR {f : QM → Option α} (hx : x = nI k) (h : kW i t a k ci b = true) : wR (cSt o i) t (o + a) x ci (o + b) f = f (cSt o (i + 1)) := by
  unfold kW at h
  rw [Bool.and_eq_true, Bool.and_eq_true, Bool.and_eq_true] at h
  have q := kL_e (o := o) h.2.1
  rw [hx, wR_e (kT_e h.1.2) q.1 q.2 (kT_e h.2.2), kS_e h.1.1]; rfl
def kI (i a ci k : Nat) (v : Int32) : Bool := kS i (2, a, k, 0, v) && kT i a ci
theorem cSt_pI {f : QM → Option α} (h : kI i a ci k v = true) : pI (cSt o i) (o + a) ci k v f = f (cSt o (i + 1)) := by
  unfold kI at h
  rw [Bool.and_eq_true] at h
  rw [pI_e (kT_e h.2), kS_e h.1]; rfl
def kJ (i t a k : Nat) (v : Int32) : Bool := (kS i (2, a, k, 0, v) && kT i a t) && kL i a k
theorem cSt_wI {f : QM → Option α} (hx : x = nI k) (h : kJ i t a k v = true) : wI (cSt o i) t (o + a) x v f = f (cSt o (i + 1)) := by
  unfold kJ at h
  rw [Bool.and_eq_true, Bool.and_eq_true] at h
  have q := kL_e (o := o) h.2
  rw [hx, wI_e (kT_e h.1.2) q.1 q.2, kS_e h.1.1]; rfl
def kG (i a ci k b : Nat) : Bool := decide (rdP a k (PRG.take i) 0 none = some b) && kT i a ci
theorem cSt_gR {f : Nat → Option α} (h : kG i a ci k b = true) : gR (cSt o i) (o + a) ci k f = f (o + b) := by
  unfold kG at h
  rw [Bool.and_eq_true, decide_eq_true_eq] at h
  exact gR_e (kT_e h.2) (by rw [cSt_P, h.1]; rfl)
/-- the first BREW -/
theorem cSt_bw : bwI (cSt o (134)) o 64 99 10 = cSt o (139) := by
  have e0 := kS_e (o := o) (i := 134) (p := (0, 20, 1600, 0, 0)) (by decide +kernel)
  have e1 := kS_e (o := o) (i := 135) (p := (1, 64, 0, 65, 0)) (by decide +kernel)
  have e2 := kS_e (o := o) (i := 136) (p := (2, 64, 1, 0, 99)) (by decide +kernel)
  have e3 := kS_e (o := o) (i := 137) (p := (2, 64, 2, 0, 10)) (by decide +kernel)
  have e4 := kS_e (o := o) (i := 138) (p := (3, 65, 1600, 0, 2)) (by decide +kernel)
  have e0 : cSt o (135) = nw (cSt o (134)) 20 1600 := e0
  have e1 : cSt o (136) = sP (cSt o (135)) (o + 64) 0 (some (o + 65)) := e1
  have e2 : cSt o (137) = sI (cSt o (136)) (o + 64) 1 99 := e2
  have e3 : cSt o 138 = sI (cSt o (137)) (o + 64) 2 10 := e3
  have e4 : cSt o (139) = rI (cSt o 138) (o + 65) (fun i => if i < 1600 then 2 else 0) := e4
  rw [e4, e3, e2, e1, e0]; rfl
/-! what stands at the end -/
theorem cSt_fix : AN 311 = 124 ∧ (∀ q ∈ ptT, rdP q.1 q.2.1 (PRG.take 311) 0 none = some q.2.2) ∧ (rdP 1 7 (PRG.take 311) 0 none = some 64 ∧ rdP 27 7 (PRG.take 311) 0 none = some 64 ∧ rdP 64 0 (PRG.take 311) 0 none = some 65) ∧ (rdI 78 25 (PRG.take 311) 0 0 = 0 ∧ rdI 78 8 (PRG.take 311) 0 0 = -1 ∧ rdI 78 45 (PRG.take 311) 0 0 = -1) ∧ (∀ k, k < 18 → rdI 92 k (PRG.take 311) 0 0 = letT.getD k 0) ∧ (rdI 5 0 (PRG.take 311) 0 0 = 5 ∧ rdI 9 0 (PRG.take 311) 0 0 = 10 ∧ rdI 13 0 (PRG.take 311) 0 0 = 8) ∧ (rdI 31 0 (PRG.take 311) 0 0 = 5 ∧ rdI 35 0 (PRG.take 311) 0 0 = 10 ∧ rdI 39 0 (PRG.take 311) 0 0 = 8) ∧ (rdI 64 1 (PRG.take 311) 0 0 = 99 ∧ rdI 64 2 (PRG.take 311) 0 0 = 10) := by decide +kernel
def g50 (i : Nat) : Int32 := if i < 1600 then 2 else if i = 1600 then 99 else 10
/-- what class and reference hold in common at first -/
def G00 : GG := fun j k => if j = 15 then -1 else if j = 50 then g50 k else 0
theorem cSt_val : ∀ j ∈ [0, 1, 15, 16, 20, 21], ∀ k, k < dm j → rdI (cL j k).1 (cL j k).2 (PRG.take 311) 0 0 = G00 j k ∧ rdI (mL j k).1 (mL j k).2 (PRG.take 311) 0 0 = G00 j k := by decide +kernel
end CT1
