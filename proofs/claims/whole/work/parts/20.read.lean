/-! ===== pure part: reading what was written ===== -/
section RD1
variable {M : QM} {a k b j t n : Nat} {v : Int32} {w : Int64} {q : Option Nat} {r : Nat → Int32} {s : Nat → Int64}
theorem mt_sI : mt (sI M a k v) b = mt M b := id rfl
theorem mt_sJ : mt (sJ M a k w) b = mt M b := id rfl
theorem mt_sP : mt (sP M a k q) b = mt M b := id rfl
theorem mt_rI : mt (rI M a r) b = mt M b := id rfl
theorem mt_rJ : mt (rJ M a s) b = mt M b := id rfl
theorem ml_sI : ml (sI M a k v) b = ml M b := id rfl
theorem ml_sJ : ml (sJ M a k w) b = ml M b := id rfl
theorem ml_sP : ml (sP M a k q) b = ml M b := id rfl
theorem ml_rI : ml (rI M a r) b = ml M b := id rfl
theorem ml_rJ : ml (rJ M a s) b = ml M b := id rfl
theorem mP_sI : mP (sI M a k v) b j = mP M b j := id rfl
theorem mP_sJ : mP (sJ M a k w) b j = mP M b j := id rfl
theorem mP_rI : mP (rI M a r) b j = mP M b j := id rfl
theorem mP_rJ : mP (rJ M a s) b j = mP M b j := id rfl
theorem mP_sP : mP (sP M a k q) b j = if b = a ∧ j = k then q else mP M b j := id rfl
theorem mJ_sI : mJ (sI M a k v) b j = mJ M b j := id rfl
theorem mJ_sP : mJ (sP M a k q) b j = mJ M b j := id rfl
theorem mJ_rI : mJ (rI M a r) b j = mJ M b j := id rfl
theorem mJ_sJ : mJ (sJ M a k w) b j = if b = a ∧ j = k then w else mJ M b j := id rfl
theorem mJ_rJ : mJ (rJ M a s) b j = if b = a then s j else mJ M b j := id rfl
theorem mI_sJ : mI (sJ M a k w) b j = mI M b j := id rfl
theorem mI_sP : mI (sP M a k q) b j = mI M b j := id rfl
theorem mI_rJ : mI (rJ M a s) b j = mI M b j := id rfl
theorem mI_sI : mI (sI M a k v) b j = if b = a ∧ j = k then v else mI M b j := id rfl
theorem mI_rI : mI (rI M a r) b j = if b = a then r j else mI M b j := id rfl
theorem mz_sI : mz (sI M a k v) = mz M := id rfl
theorem mz_sJ : mz (sJ M a k w) = mz M := id rfl
theorem mz_sP : mz (sP M a k q) = mz M := id rfl
theorem mz_rI : mz (rI M a r) = mz M := id rfl
theorem mz_rJ : mz (rJ M a s) = mz M := id rfl
theorem mz_nw : mz (nw M t n) = mz M + 1 := id rfl
theorem mt_nw : mt (nw M t n) b = if b = mz M then t else mt M b := by unfold mt nw mz; dsimp only; split <;> rfl
theorem ml_nw : ml (nw M t n) b = if b = mz M then n else ml M b := by unfold ml nw mz; dsimp only; split <;> rfl
theorem mI_nw : mI (nw M t n) b j = if b = mz M then 0 else mI M b j := id rfl
theorem mJ_nw : mJ (nw M t n) b j = if b = mz M then 0 else mJ M b j := id rfl
theorem mP_nw : mP (nw M t n) b j = if b = mz M then none else mP M b j := id rfl
/-! rows: writes come together -/
theorem qm_ext {M M' : QM} (h1 : M.1 = M'.1) (h2 : M.2.1 = M'.2.1) (h3 : M.2.2.1 = M'.2.2.1) (h4 : M.2.2.2.1 = M'.2.2.2.1) (h5 : M.2.2.2.2 = M'.2.2.2.2) : M = M' := by
  obtain ⟨a, b, c, d, e⟩ := M
  obtain ⟨a', b', c', d', e'⟩ := M'
  dsimp only at h1 h2 h3 h4 h5
  subst h1 h2 h3 h4 h5
  rfl
theorem sI_row : sI M a k v = rI M a (fun i => if i = k then v else mI M a i) := by
  refine qm_ext rfl rfl ?_ rfl rfl
  funext b j
  show (if b = a ∧ j = k then v else M.2.2.1 b j) = (if b = a then (if j = k then v else M.2.2.1 a j) else M.2.2.1 b j)
  by_cases h : b = a
  · subst h; by_cases h2 : j = k
    · rw [if_pos ⟨rfl, h2⟩, if_pos rfl, if_pos h2]
    · rw [if_neg (fun q => h2 q.2), if_pos rfl, if_neg h2]
  · rw [if_neg (fun q => h q.1), if_neg h]
theorem rI_rI {r' : Nat → Int32} : rI (rI M a r) a r' = rI M a r' := by
  refine qm_ext rfl rfl ?_ rfl rfl
  funext b j
  show (if b = a then r' j else if b = a then r j else M.2.2.1 b j) = (if b = a then r' j else M.2.2.1 b j)
  by_cases h : b = a
  · rw [if_pos h, if_pos h]
  · rw [if_neg h, if_neg h, if_neg h]
theorem sI_rI : sI (rI M a r) a k v = rI M a (fun i => if i = k then v else r i) := by
  rw [sI_row, rI_rI]
  congr 1
  funext i
  rw [mI_rI, if_pos rfl]
theorem rI_self : rI M a (fun i => mI M a i) = M := by
  refine qm_ext rfl rfl ?_ rfl rfl
  funext b j
  show (if b = a then M.2.2.1 a j else M.2.2.1 b j) = M.2.2.1 b j
  by_cases h : b = a
  · subst h; rw [if_pos rfl]
  · rw [if_neg h]
theorem rI_comm {r' : Nat → Int32} (h : a ≠ b) : rI (rI M a r) b r' = rI (rI M b r') a r := by
  refine qm_ext rfl rfl ?_ rfl rfl
  funext c i
  show (if c = b then r' i else if c = a then r i else M.2.2.1 c i) = (if c = a then r i else if c = b then r' i else M.2.2.1 c i)
  by_cases h1 : c = b
  · subst h1; rw [if_pos rfl, if_neg (fun q => h q.symm), if_pos rfl]
  · rw [if_neg h1, if_neg h1]
theorem sI_sI {v' : Int32} : sI (sI M a k v) a k v' = sI M a k v' := by
  rw [sI_row (M := M) (v := v), sI_rI, sI_row]
  congr 1
  funext i
  by_cases h : i = k
  · rw [if_pos h, if_pos h]
  · rw [if_neg h, if_neg h, if_neg h]
theorem sI_self : sI M a k (mI M a k) = M := by
  rw [sI_row]
  refine Eq.trans ?_ (rI_self (M := M) (a := a))
  congr 1
  funext i
  by_cases h : i = k
  · rw [if_pos h, h]
  · rw [if_neg h]
end RD1
/-! ===== steps, when what they ask for is there ===== -/
section ST1
variable {α β : Type} {M : QM} {a k b ci t i : Nat}
theorem gI_e {f : Int32 → Option α} (h : mt M a = ci) : gI M a ci k f = f (mI M a k) := if_pos h
theorem pI_e {v : Int32} {f : QM → Option α} (h : mt M a = ci) : pI M a ci k v f = f (sI M a k v) := if_pos h
theorem pR_e {f : QM → Option α} (h : mt M a = ci) : pR M a ci k b f = f (sP M a k (some b)) := if_pos h
theorem gR_e {f : Nat → Option α} (h : mt M a = ci) (h2 : mP M a k = some b) : gR M a ci k f = f b := by unfold gR; rw [if_pos h, h2]
theorem ck_e {f : Option α} (h : mt M b = ci) : ck M b ci f = f := if_pos h
theorem bnd_s {x : α} {f : α → Option β} : bnd (some x) f = f x := rfl
theorem bnd_e {x : α} {y : Option α} {f : α → Option β} (h : y = some x) : bnd y f = f x := by rw [h]; rfl
theorem nm_eq {x : α} {f : α → β} : nm x f = f x := rfl
theorem pr2_e {γ : Type} {x : α} {y : β} {f : α → β → γ} : pr2 (x, y) f = f x y := rfl
theorem cnul_0 {g : α} {f : Nat → α} : cnul none g f = g := rfl
theorem cnul_1 {g : α} {f : Nat → α} : cnul (some b) g f = f b := rfl
theorem drf_1 {f : Nat → Option α} : drf (some b) f = f b := rfl
theorem sm_1 {γ : Type} {x : α} {f : α → γ} {g : β → γ} : sm (.inl x) f g = f x := rfl
theorem sm_2 {γ : Type} {x : β} {f : α → γ} {g : β → γ} : sm (.inr x) f g = g x := rfl
theorem inb {n : Nat} (h : i < n) (h2 : n ≤ 2000) : ¬ (nI i < 0 ∨ n ≤ (nI i).toNatClampNeg) := nI_in h (by omega)
theorem aI_e {f : Int32 → Option α} (h : mt M a = t) (h1 : i < ml M a) (h2 : ml M a ≤ 2000) : aI M t a (nI i) f = f (mI M a i) := by
  unfold aI; rw [if_pos ⟨h, inb h1 h2⟩, nI_clamp (by omega)]
theorem aJ_e {f : Int64 → Option α} (h : mt M a = 24) (h1 : i < ml M a) (h2 : ml M a ≤ 2000) : aJ M a (nI i) f = f (mJ M a i) := by
  unfold aJ; rw [if_pos ⟨h, inb h1 h2⟩, nI_clamp (by omega)]
theorem aR_e {f : Nat → Option α} (h : mt M a = t) (h1 : i < ml M a) (h2 : ml M a ≤ 2000) (h3 : mP M a i = some b) : aR M t a (nI i) f = f b := by
  unfold aR; rw [if_pos ⟨h, inb h1 h2⟩, nI_clamp (by omega), h3]
theorem wI_e {v : Int32} {f : QM → Option α} (h : mt M a = t) (h1 : i < ml M a) (h2 : ml M a ≤ 2000) : wI M t a (nI i) v f = f (sI M a i v) := by
  unfold wI; rw [if_pos ⟨h, inb h1 h2⟩, nI_clamp (by omega)]
theorem wJ_e {v : Int64} {f : QM → Option α} (h : mt M a = 24) (h1 : i < ml M a) (h2 : ml M a ≤ 2000) : wJ M a (nI i) v f = f (sJ M a i v) := by
  unfold wJ; rw [if_pos ⟨h, inb h1 h2⟩, nI_clamp (by omega)]
theorem wR_e {f : QM → Option α} (h : mt M a = t) (h1 : i < ml M a) (h2 : ml M a ≤ 2000) (h3 : mt M b = ci) : wR M t a (nI i) ci b f = f (sP M a i (some b)) := by
  unfold wR; rw [if_pos ⟨h, inb h1 h2, h3⟩, nI_clamp (by omega)]
theorem aL_e {f : Int32 → Option α} (h : mt M a = t) : aL M t a f = f (nI (ml M a)) := if_pos h
theorem dv_e {y : Int32} {f : Option α} (h : ¬ y = 0) : dv y f = f := if_neg h
theorem cpI_e {sp dp n : Nat} {f : QM → Option α} (h1 : mt M a = 20) (h2 : mt M b = 20) (h3 : sp + n ≤ ml M a) (h4 : dp + n ≤ ml M b) (h5 : ml M a ≤ 2000) (h6 : ml M b ≤ 2000) : cpI M a b (nI sp) (nI dp) (nI n) f = f (rI M b (va_cpy (mI M a) (mI M b) sp dp n)) := by
  unfold cpI
  rw [if_pos ⟨⟨h1, h2⟩, nI_pos (by omega), nI_pos (by omega), nI_pos (by omega), by rw [nI_clamp (by omega), nI_clamp (by omega)]; exact h3, by rw [nI_clamp (by omega), nI_clamp (by omega)]; exact h4⟩, nI_clamp (by omega), nI_clamp (by omega), nI_clamp (by omega)]
theorem cpJ_e {sp dp n : Nat} {f : QM → Option α} (h1 : mt M a = 24) (h2 : mt M b = 24) (h3 : sp + n ≤ ml M a) (h4 : dp + n ≤ ml M b) (h5 : ml M a ≤ 2000) (h6 : ml M b ≤ 2000) : cpJ M a b (nI sp) (nI dp) (nI n) f = f (rJ M b (va_cpy (mJ M a) (mJ M b) sp dp n)) := by
  unfold cpJ
  rw [if_pos ⟨⟨h1, h2⟩, nI_pos (by omega), nI_pos (by omega), nI_pos (by omega), by rw [nI_clamp (by omega), nI_clamp (by omega)]; exact h3, by rw [nI_clamp (by omega), nI_clamp (by omega)]; exact h4⟩, nI_clamp (by omega), nI_clamp (by omega), nI_clamp (by omega)]
theorem nO_e {f : QM → Nat → Option α} : nO M ci f = f (nw M ci 0) (mz M) := rfl
theorem nA_e {n B : Nat} {f : QM → Nat → Option α} (h : n ≤ B) (h2 : B ≤ 2000) : nA M t (nI n) B f = f (nw M t n) (mz M) := by
  unfold nA; rw [nI_clamp (by omega), if_pos ⟨nI_pos (by omega), h⟩]
end ST1
/-! ===== loops ===== -/
theorem itr_exit {σ ρ : Type} {f : σ → Option (σ ⊕ ρ)} {n : Nat} {s : σ} {r : ρ} (h : f s = some (.inr r)) : itr f (n + 1) s = some r := by
  unfold itr; rw [h]
theorem itr_go {σ ρ : Type} {f : σ → Option (σ ⊕ ρ)} {n : Nat} {s s' : σ} (h : f s = some (.inl s')) : itr f (n + 1) s = itr f n s' := by
  rw [itr, h]
/-- a counted loop: the state at k is G k -/
theorem itr_c {σ ρ : Type} {f : σ → Option (σ ⊕ ρ)} {r : ρ} (G : Nat → σ) (e : Nat) (hs : ∀ k, k < e → f (G k) = some (.inl (G (k + 1)))) (hx : f (G e) = some (.inr r)) : ∀ n k : Nat, k ≤ e → e < n + k → itr f n (G k) = some r := by
  intro n
  induction n with
  | zero => intro k h1 h2; omega
  | succ n ih =>
    intro k h1 h2
    by_cases hk : k = e
    · subst hk; exact itr_exit hx
    · rw [itr_go (hs k (by omega))]
      exact ih (k + 1) (by omega) (by omega)
theorem itr_k {σ ρ : Type} {f : σ → Option (σ ⊕ ρ)} {r : ρ} (G : Nat → σ) (e : Nat) {s0 : σ} (h0 : s0 = G 0) (hs : ∀ k, k < e → f (G k) = some (.inl (G (k + 1)))) (hx : f (G e) = some (.inr r)) (he : e < 2048) : itr f FU s0 = some r := by
  rw [h0]; exact itr_c G e hs hx FU 0 (by omega) (by show e < 2048 + 0; omega)
/-- a loop with an invariant: it ends after at most e rounds -/
theorem itr_I {σ ρ : Type} {f : σ → Option (σ ⊕ ρ)} (I : Nat → σ → Prop) (P : ρ → Prop) (e : Nat) (hs : ∀ k s, I k s → (∃ r, f s = some (.inr r) ∧ P r) ∨ (k < e ∧ ∃ s', f s = some (.inl s') ∧ I (k + 1) s')) : ∀ (n k : Nat) (s : σ), k ≤ e → e < n + k → I k s → ∃ r, itr f n s = some r ∧ P r := by
  intro n
  induction n with
  | zero => intro k s h0 h1 h2; omega
  | succ n ih =>
    intro k s h0 h1 h2
    rcases hs k s h2 with ⟨r, h, hp⟩ | ⟨h, s', h3, h4⟩
    · exact ⟨r, itr_exit h, hp⟩
    · rw [itr_go h3]
      exact ih (k + 1) s' (by omega) (by omega) h4
theorem itr_J {σ ρ : Type} {f : σ → Option (σ ⊕ ρ)} (I : Nat → σ → Prop) (P : ρ → Prop) (e : Nat) {s0 : σ} (h0 : I 0 s0) (hs : ∀ k s, I k s → (∃ r, f s = some (.inr r) ∧ P r) ∨ (k < e ∧ ∃ s', f s = some (.inl s') ∧ I (k + 1) s')) (he : e < 2047) : ∃ r, itr f FU s0 = some r ∧ P r :=
  itr_I I P e hs FU 0 s0 (by omega) (by show e < 2048 + 0; omega) h0
/-! ===== whole numbers as nI ===== -/
def bd (x : Int32) (n : Nat) : Prop := ∃ k : Nat, k ≤ n ∧ x = nI k
theorem bd_le {x : Int32} {n m : Nat} (h : bd x n) (hm : n ≤ m) : bd x m := by
  obtain ⟨k, h1, h2⟩ := h
  exact ⟨k, by omega, h2⟩
theorem bd_nI {k n : Nat} (h : k ≤ n) : bd (nI k) n := ⟨k, h, rfl⟩
theorem nI_mul (a b : Nat) : nI a * nI b = nI (a * b) := (Int32.ofNat_mul a b).symm
theorem nI_sub {a b : Nat} (h : b ≤ a) : nI a - nI b = nI (a - b) := by
  have : nI a = nI (a - b) + nI b := by rw [nI_add]; congr 1; omega
  rw [this, Int32.add_sub_cancel]
