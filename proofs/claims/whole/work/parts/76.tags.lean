/-! ===== tags stay: printed by tags.py ===== -/
def TG {β : Type} (T : Nat → Nat × Nat) (π : β → QM) (x : Option β) : Prop := ∀ z, x = some z → (π z).2.1 = T
section TG1
variable {α β γ ε : Type} {T : Nat → Nat × Nat} {π : β → QM} {M : QM} {a b ci k t : Nat} {i v sp dp n : Int32} {j : Int64}
theorem TG_some {z : β} (h : (π z).2.1 = T) : TG T π (some z) := fun w e => by cases e; exact h
theorem TG_none : TG T π none := fun w e => by cases e
theorem TG_gI {f : Int32 → Option β} (h : ∀ x, TG T π (f x)) : TG T π (gI M a ci k f) := fun z e => by
  obtain ⟨-, x, -, e⟩ := gI_i e
  exact h x z e
theorem TG_gR {f : Nat → Option β} (h : ∀ x, TG T π (f x)) : TG T π (gR M a ci k f) := fun z e => by
  obtain ⟨-, x, -, e⟩ := gR_i e
  exact h x z e
theorem TG_pI {f : QM → Option β} (hM : M.2.1 = T) (h : ∀ N, N.2.1 = T → TG T π (f N)) : TG T π (pI M a ci k v f) := fun z e => by
  obtain ⟨-, N, rfl, e⟩ := pI_i e
  exact h _ (by exact hM) z e
theorem TG_pR {f : QM → Option β} (hM : M.2.1 = T) (h : ∀ N, N.2.1 = T → TG T π (f N)) : TG T π (pR M a ci k b f) := fun z e => by
  obtain ⟨-, N, rfl, e⟩ := pR_i e
  exact h _ (by exact hM) z e
theorem TG_aI {f : Int32 → Option β} (h : ∀ x, TG T π (f x)) : TG T π (aI M t a i f) := fun z e => by
  obtain ⟨-, -, x, -, e⟩ := aI_i e
  exact h x z e
theorem TG_aJ {f : Int64 → Option β} (h : ∀ x, TG T π (f x)) : TG T π (aJ M a i f) := fun z e => by
  obtain ⟨-, -, x, -, e⟩ := aJ_i e
  exact h x z e
theorem TG_aR {f : Nat → Option β} (h : ∀ x, TG T π (f x)) : TG T π (aR M t a i f) := fun z e => by
  obtain ⟨-, -, x, -, e⟩ := aR_i e
  exact h x z e
theorem TG_aL {f : Int32 → Option β} (h : ∀ x, TG T π (f x)) : TG T π (aL M t a f) := fun z e => by
  obtain ⟨-, x, -, e⟩ := aL_i e
  exact h x z e
theorem TG_sA {l : List Int32} {N : Nat} {f : Int32 → Option β} (h : ∀ x, TG T π (f x)) : TG T π (sA l N i f) := fun z e => by
  obtain ⟨-, x, -, e⟩ := sA_i e
  exact h x z e
theorem TG_wI {f : QM → Option β} (hM : M.2.1 = T) (h : ∀ N, N.2.1 = T → TG T π (f N)) : TG T π (wI M t a i v f) := fun z e => by
  obtain ⟨-, -, N, rfl, e⟩ := wI_i e
  exact h _ (by exact hM) z e
theorem TG_wJ {f : QM → Option β} (hM : M.2.1 = T) (h : ∀ N, N.2.1 = T → TG T π (f N)) : TG T π (wJ M a i j f) := fun z e => by
  obtain ⟨-, -, N, rfl, e⟩ := wJ_i e
  exact h _ (by exact hM) z e
theorem TG_cpI {f : QM → Option β} (hM : M.2.1 = T) (h : ∀ N, N.2.1 = T → TG T π (f N)) : TG T π (cpI M a b sp dp n f) := fun z e => by
  unfold cpI at e
  split at e
  · exact h _ (by exact hM) z e
  · cases e
theorem TG_cpJ {f : QM → Option β} (hM : M.2.1 = T) (h : ∀ N, N.2.1 = T → TG T π (f N)) : TG T π (cpJ M a b sp dp n f) := fun z e => by
  unfold cpJ at e
  split at e
  · exact h _ (by exact hM) z e
  · cases e
theorem TG_ck {f : Option β} (h : TG T π f) : TG T π (ck M b ci f) := fun z e => h z (ck_i e).2
theorem TG_dv {f : Option β} (h : TG T π f) : TG T π (dv v f) := fun z e => h z (dv_i e).2
theorem TG_drf {r : Option Nat} {f : Nat → Option β} (h : ∀ x, TG T π (f x)) : TG T π (drf r f) := fun z e => by
  obtain ⟨x, -, e⟩ := drf_i e
  exact h x z e
theorem TG_cnul {r : Option Nat} {g : Option β} {f : Nat → Option β} (h1 : TG T π g) (h : ∀ x, TG T π (f x)) : TG T π (cnul r g f) := by
  cases r with
  | none => exact h1
  | some x => exact h x
theorem TG_nm {x : α} {f : α → Option β} (h : TG T π (f x)) : TG T π (nm x f) := h
theorem TG_if {c : Prop} {d : Decidable c} {x y : Option β} (h1 : TG T π x) (h2 : TG T π y) : TG T π (@ite (Option β) c d x y) := by
  by_cases h : c
  · rw [if_pos h]; exact h1
  · rw [if_neg h]; exact h2
theorem TG_bnd {ρ : α → QM} {x : Option α} {f : α → Option β} (h1 : TG T ρ x) (h : ∀ z, (ρ z).2.1 = T → TG T π (f z)) : TG T π (bnd x f) := fun z e => by
  obtain ⟨w, e1, e2⟩ := bnd_i e
  exact h w (h1 w e1) z e2
theorem TG_bnd0 {x : Option α} {f : α → Option β} (h : ∀ z, TG T π (f z)) : TG T π (bnd x f) := fun z e => by
  obtain ⟨w, e1, e2⟩ := bnd_i e
  exact h w z e2
theorem TG_pr2 {y : α × γ} {f : α → γ → Option β} (h : TG T π (f y.1 y.2)) : TG T π (pr2 y f) := h
theorem TG_pr3 {y : α × γ × ε} {f : α → γ → ε → Option β} (h : TG T π (f y.1 y.2.1 y.2.2)) : TG T π (pr3 y f) := h
theorem TG_sm {ρ1 : α → QM} {ρ2 : γ → QM} {r : α ⊕ γ} {f : α → Option β} {g : γ → Option β} (hr : (Sum.elim ρ1 ρ2 r).2.1 = T) (h1 : ∀ x, (ρ1 x).2.1 = T → TG T π (f x)) (h2 : ∀ x, (ρ2 x).2.1 = T → TG T π (g x)) : TG T π (sm r f g) := by
  cases r with
  | inl x => exact h1 x hr
  | inr x => exact h2 x hr
theorem TG_itr {σ ρ : Type} {f : σ → Option (σ ⊕ ρ)} (p1 : σ → QM) (p2 : ρ → QM) (h : ∀ s, (p1 s).2.1 = T → TG T (Sum.elim p1 p2) (f s)) : ∀ n s, (p1 s).2.1 = T → TG T p2 (itr f n s) := by
  intro n
  induction n with
  | zero => intro s hs z e; cases e
  | succ n ih =>
    intro s hs z e
    obtain ⟨w, e1, e2, e3⟩ := itr_i e
    have hw := h s hs w e1
    cases w with
    | inl s' => exact ih s' hw z (e2 s' rfl)
    | inr r' => rw [← e3 r' rfl]; exact hw
end TG1
theorem tg_lp_X7_become_18 {T : Nat → Nat × Nat} (ths : Nat) (w4_18 : Int32) (Mw_18 : QM) (hM : Mw_18.2.1 = T) : TG T (Sum.elim (fun s : Int32 × QM => s.2) (fun s : QM => s)) (lp_X7_become_18 ths w4_18 Mw_18) := by
  unfold lp_X7_become_18
  repeat' (first
    | assumption
    | with_reducible exact TG_none
    | with_reducible refine TG_some ?_
    | with_reducible refine TG_gR (fun _ => ?_)
    | with_reducible refine TG_wI ?_ (fun N hN => ?_)
    | with_reducible refine TG_nm ?_
    | with_reducible refine TG_if ?_ ?_)
theorem tg_fn_X7_become {T : Nat → Nat × Nat} (M : QM) (ths : Nat) (p1 : Int32) (p2 : Int32) (p3 : Int32) (hM : M.2.1 = T) : TG T (fun s : QM => s) (fn_X7_become M ths p1 p2 p3) := by
  unfold fn_X7_become
  repeat' (first
    | assumption
    | with_reducible exact TG_none
    | with_reducible refine TG_some ?_
    | with_reducible refine TG_pI ?_ (fun N hN => ?_)
    | with_reducible refine TG_bnd (TG_itr (fun s : Int32 × QM => s.2) (fun s : QM => s) (fun s hs => tg_lp_X7_become_18 _ _ _ hs) _ _ ?_) (fun z hz => ?_)
    | with_reducible refine TG_bnd0 (fun z => ?_))
theorem tg_fn_X8_walker {T : Nat → Nat × Nat} (M : QM) (ths : Nat) (p1 : Int32) (p2 : Int32) (p3 : Int32) (hM : M.2.1 = T) : TG T (fun s : Int32 × QM => s.2) (fn_X8_walker M ths p1 p2 p3) := by
  unfold fn_X8_walker
  repeat' (first
    | assumption
    | with_reducible exact TG_none
    | with_reducible refine TG_some ?_
    | with_reducible refine TG_gI (fun _ => ?_)
    | with_reducible refine TG_gR (fun _ => ?_)
    | with_reducible refine TG_ck ?_
    | with_reducible refine TG_pI ?_ (fun N hN => ?_)
    | with_reducible refine TG_aR (fun _ => ?_)
    | with_reducible refine TG_if ?_ ?_
    | with_reducible refine tg_fn_X7_become _ _ _ _ _ ?_
    | with_reducible refine TG_bnd (tg_fn_X7_become _ _ _ _ _ ?_) (fun z hz => ?_)
    | with_reducible refine TG_bnd0 (fun z => ?_))
theorem tg_fn_X8_set {T : Nat → Nat × Nat} (M : QM) (ths : Nat) (p1 : Int32) (p2 : Int32) (hM : M.2.1 = T) : TG T (fun s : Int32 × QM => s.2) (fn_X8_set M ths p1 p2) := by
  unfold fn_X8_set
  repeat' (first
    | assumption
    | with_reducible exact TG_none
    | with_reducible refine TG_some ?_
    | with_reducible refine TG_gR (fun _ => ?_)
    | with_reducible refine TG_wI ?_ (fun N hN => ?_)
    | with_reducible refine TG_aI (fun _ => ?_)
    | with_reducible refine TG_if ?_ ?_)
theorem tg_fn_X8_weigh {T : Nat → Nat × Nat} (M : QM) (ths : Nat) (p1 : Int32) (p2 : Int32) (hM : M.2.1 = T) : TG T (fun s : Int32 × QM => s.2) (fn_X8_weigh M ths p1 p2) := by
  unfold fn_X8_weigh
  repeat' (first
    | assumption
    | with_reducible exact TG_none
    | with_reducible refine TG_some ?_
    | with_reducible refine TG_gI (fun _ => ?_)
    | with_reducible refine TG_gR (fun _ => ?_)
    | with_reducible refine TG_ck ?_
    | with_reducible refine TG_pI ?_ (fun N hN => ?_)
    | with_reducible refine TG_cnul ?_ (fun _ => ?_)
    | with_reducible refine TG_if ?_ ?_
    | with_reducible refine TG_bnd0 (fun z => ?_))
theorem tg_fn_X8_line {T : Nat → Nat × Nat} (M : QM) (ths : Nat) (p1 : Int32) (p2 : Int32) (p3 : Int32) (hM : M.2.1 = T) : TG T (fun s : Int32 × QM => s.2) (fn_X8_line M ths p1 p2 p3) := by
  unfold fn_X8_line
  repeat' (first
    | assumption
    | with_reducible exact TG_none
    | with_reducible refine TG_some ?_
    | with_reducible refine TG_gI (fun _ => ?_)
    | with_reducible refine TG_gR (fun _ => ?_)
    | with_reducible refine TG_ck ?_
    | with_reducible refine TG_wI ?_ (fun N hN => ?_)
    | with_reducible refine TG_aI (fun _ => ?_)
    | with_reducible refine TG_cnul ?_ (fun _ => ?_)
    | with_reducible refine TG_if ?_ ?_
    | with_reducible refine TG_bnd0 (fun z => ?_))
theorem tg_fn_X2_pour {T : Nat → Nat × Nat} (M : QM) (ths : Nat) (p1 : Int32) (p2 : Int32) (hM : M.2.1 = T) : TG T (fun s : QM => s) (fn_X2_pour M ths p1 p2) := by
  unfold fn_X2_pour
  repeat' (first
    | assumption
    | with_reducible exact TG_none
    | with_reducible refine TG_some ?_
    | with_reducible refine TG_gR (fun _ => ?_)
    | with_reducible refine TG_wI ?_ (fun N hN => ?_)
    | with_reducible refine TG_aI (fun _ => ?_))
theorem tg_fn_X8_milk {T : Nat → Nat × Nat} (M : QM) (ths : Nat) (p1 : Int32) (hM : M.2.1 = T) : TG T (fun s : Int32 × QM => s.2) (fn_X8_milk M ths p1) := by
  unfold fn_X8_milk
  repeat' (first
    | assumption
    | with_reducible exact TG_none
    | with_reducible refine TG_some ?_
    | with_reducible refine TG_gI (fun _ => ?_)
    | with_reducible refine TG_gR (fun _ => ?_)
    | with_reducible refine TG_ck ?_
    | with_reducible refine TG_aI (fun _ => ?_)
    | with_reducible refine TG_if ?_ ?_
    | with_reducible refine tg_fn_X2_pour _ _ _ _ ?_
    | with_reducible refine TG_bnd (tg_fn_X2_pour _ _ _ _ ?_) (fun z hz => ?_)
    | with_reducible refine TG_bnd0 (fun z => ?_))
theorem tg_fn_X2_swap {T : Nat → Nat × Nat} (M : QM) (ths : Nat) (p1 : Int32) (p2 : Int32) (hM : M.2.1 = T) : TG T (fun s : QM => s) (fn_X2_swap M ths p1 p2) := by
  unfold fn_X2_swap
  repeat' (first
    | assumption
    | with_reducible exact TG_none
    | with_reducible refine TG_some ?_
    | with_reducible refine TG_gR (fun _ => ?_)
    | with_reducible refine TG_wI ?_ (fun N hN => ?_)
    | with_reducible refine TG_aI (fun _ => ?_))
theorem tg_fn_X8_stir {T : Nat → Nat × Nat} (M : QM) (ths : Nat) (p1 : Int32) (p2 : Int32) (hM : M.2.1 = T) : TG T (fun s : Int32 × QM => s.2) (fn_X8_stir M ths p1 p2) := by
  unfold fn_X8_stir
  repeat' (first
    | assumption
    | with_reducible exact TG_none
    | with_reducible refine TG_some ?_
    | with_reducible refine TG_gR (fun _ => ?_)
    | with_reducible refine TG_ck ?_
    | with_reducible refine TG_aI (fun _ => ?_)
    | with_reducible refine TG_if ?_ ?_
    | with_reducible refine tg_fn_X2_swap _ _ _ _ ?_
    | with_reducible refine TG_bnd (tg_fn_X2_swap _ _ _ _ ?_) (fun z hz => ?_)
    | with_reducible refine TG_bnd0 (fun z => ?_))
theorem tg_fn_X3_append {T : Nat → Nat × Nat} (M : QM) (ths : Nat) (p1 : Int32) (hM : M.2.1 = T) : TG T (fun s : Int32 × QM => s.2) (fn_X3_append M ths p1) := by
  unfold fn_X3_append
  repeat' (first
    | assumption
    | with_reducible exact TG_none
    | with_reducible refine TG_some ?_
    | with_reducible refine TG_gI (fun _ => ?_)
    | with_reducible refine TG_gR (fun _ => ?_)
    | with_reducible refine TG_pI ?_ (fun N hN => ?_)
    | with_reducible refine TG_wI ?_ (fun N hN => ?_)
    | with_reducible refine TG_if ?_ ?_)
theorem tg_fn_X8_feed {T : Nat → Nat × Nat} (M : QM) (ths : Nat) (p1 : Int32) (hM : M.2.1 = T) : TG T (fun s : Int32 × QM => s.2) (fn_X8_feed M ths p1) := by
  unfold fn_X8_feed
  repeat' (first
    | assumption
    | with_reducible exact TG_none
    | with_reducible refine TG_some ?_
    | with_reducible refine TG_gI (fun _ => ?_)
    | with_reducible refine TG_gR (fun _ => ?_)
    | with_reducible refine TG_ck ?_
    | with_reducible refine TG_if ?_ ?_
    | with_reducible refine TG_pr2 ?_
    | with_reducible refine tg_fn_X3_append _ _ _ ?_
    | with_reducible refine TG_bnd (tg_fn_X3_append _ _ _ ?_) (fun z hz => ?_)
    | with_reducible refine TG_bnd0 (fun z => ?_))
theorem tg_lp_X2_ripen_10 {T : Nat → Nat × Nat} (ths : Nat) (p2 : Nat) (w4_10 : Int32) (Mw_10 : QM) (hM : Mw_10.2.1 = T) : TG T (Sum.elim (fun s : Int32 × QM => s.2) (fun s : QM => s)) (lp_X2_ripen_10 ths p2 w4_10 Mw_10) := by
  unfold lp_X2_ripen_10
  repeat' (first
    | assumption
    | with_reducible exact TG_none
    | with_reducible refine TG_some ?_
    | with_reducible refine TG_gI (fun _ => ?_)
    | with_reducible refine TG_gR (fun _ => ?_)
    | with_reducible refine TG_ck ?_
    | with_reducible refine TG_wI ?_ (fun N hN => ?_)
    | with_reducible refine TG_aI (fun _ => ?_)
    | with_reducible refine TG_nm ?_
    | with_reducible refine TG_if ?_ ?_
    | with_reducible refine TG_bnd0 (fun z => ?_))
theorem tg_lp_X2_ripen_2 {T : Nat → Nat × Nat} (ths : Nat) (p1 : Int32) (p2 : Nat) (w3_2 : Int32) (Mw_2 : QM) (hM : Mw_2.2.1 = T) : TG T (Sum.elim (fun s : Int32 × QM => s.2) (fun s : QM => s)) (lp_X2_ripen_2 ths p1 p2 w3_2 Mw_2) := by
  unfold lp_X2_ripen_2
  repeat' (first
    | assumption
    | with_reducible exact TG_none
    | with_reducible refine TG_some ?_
    | with_reducible refine TG_gI (fun _ => ?_)
    | with_reducible refine TG_pI ?_ (fun N hN => ?_)
    | with_reducible refine TG_nm ?_
    | with_reducible refine TG_if ?_ ?_
    | with_reducible refine TG_bnd (TG_itr (fun s : Int32 × QM => s.2) (fun s : QM => s) (fun s hs => tg_lp_X2_ripen_10 _ _ _ _ hs) _ _ ?_) (fun z hz => ?_)
    | with_reducible refine TG_bnd0 (fun z => ?_))
theorem tg_fn_X2_ripen {T : Nat → Nat × Nat} (M : QM) (ths : Nat) (p1 : Int32) (p2 : Nat) (hM : M.2.1 = T) : TG T (fun s : QM => s) (fn_X2_ripen M ths p1 p2) := by
  unfold fn_X2_ripen
  repeat' (first
    | assumption
    | with_reducible exact TG_none
    | with_reducible refine TG_some ?_
    | with_reducible refine TG_bnd (TG_itr (fun s : Int32 × QM => s.2) (fun s : QM => s) (fun s hs => tg_lp_X2_ripen_2 _ _ _ _ _ hs) _ _ ?_) (fun z hz => ?_)
    | with_reducible refine TG_bnd0 (fun z => ?_))
theorem tg_fn_X8_pass {T : Nat → Nat × Nat} (M : QM) (ths : Nat) (p1 : Int32) (hM : M.2.1 = T) : TG T (fun s : Int32 × QM => s.2) (fn_X8_pass M ths p1) := by
  unfold fn_X8_pass
  repeat' (first
    | assumption
    | with_reducible exact TG_none
    | with_reducible refine TG_some ?_
    | with_reducible refine TG_gI (fun _ => ?_)
    | with_reducible refine TG_gR (fun _ => ?_)
    | with_reducible refine TG_ck ?_
    | with_reducible refine TG_if ?_ ?_
    | with_reducible refine tg_fn_X2_ripen _ _ _ _ ?_
    | with_reducible refine TG_bnd (tg_fn_X2_ripen _ _ _ _ ?_) (fun z hz => ?_)
    | with_reducible refine TG_bnd0 (fun z => ?_))
theorem tg_fn_X2_become {T : Nat → Nat × Nat} (M : QM) (ths : Nat) (p1 : Nat) (hM : M.2.1 = T) : TG T (fun s : QM => s) (fn_X2_become M ths p1) := by
  unfold fn_X2_become
  repeat' (first
    | assumption
    | with_reducible exact TG_none
    | with_reducible refine TG_some ?_
    | with_reducible refine TG_gI (fun _ => ?_)
    | with_reducible refine TG_gR (fun _ => ?_)
    | with_reducible refine TG_pI ?_ (fun N hN => ?_)
    | with_reducible refine TG_cpI ?_ (fun N hN => ?_))
theorem tg_fn_X8_askBehind {T : Nat → Nat × Nat} (M : QM) (ths : Nat) (p1 : Int32) (hM : M.2.1 = T) : TG T (fun s : QM => s) (fn_X8_askBehind M ths p1) := by
  unfold fn_X8_askBehind
  repeat' (first
    | assumption
    | with_reducible exact TG_none
    | with_reducible refine TG_some ?_
    | with_reducible refine TG_gR (fun _ => ?_)
    | with_reducible refine TG_ck ?_
    | with_reducible refine tg_fn_X2_become _ _ _ ?_
    | with_reducible refine TG_bnd (tg_fn_X2_become _ _ _ ?_) (fun z hz => ?_)
    | with_reducible refine tg_fn_X2_ripen _ _ _ _ ?_
    | with_reducible refine TG_bnd (tg_fn_X2_ripen _ _ _ _ ?_) (fun z hz => ?_)
    | with_reducible refine TG_bnd0 (fun z => ?_))
theorem tg_jn_X8_on_18 {T : Nat → Nat × Nat} (ths : Nat) (p1 : Int32) (p2 : Int32) (Mj_18 : QM) (hM : Mj_18.2.1 = T) : TG T (fun s : Int32 × QM => s.2) (jn_X8_on_18 ths p1 p2 Mj_18) := by
  unfold jn_X8_on_18
  repeat' (first
    | assumption
    | with_reducible exact TG_none
    | with_reducible refine TG_some ?_
    | with_reducible refine TG_gR (fun _ => ?_)
    | with_reducible refine TG_ck ?_
    | with_reducible refine TG_aI (fun _ => ?_)
    | with_reducible refine TG_if ?_ ?_
    | with_reducible refine tg_fn_X8_askBehind _ _ _ ?_
    | with_reducible refine TG_bnd (tg_fn_X8_askBehind _ _ _ ?_) (fun z hz => ?_)
    | with_reducible refine TG_bnd0 (fun z => ?_))
theorem tg_fn_X8_on {T : Nat → Nat × Nat} (M : QM) (ths : Nat) (p1 : Int32) (p2 : Int32) (hM : M.2.1 = T) : TG T (fun s : Int32 × QM => s.2) (fn_X8_on M ths p1 p2) := by
  unfold fn_X8_on
  repeat' (first
    | assumption
    | with_reducible exact TG_none
    | with_reducible refine TG_some ?_
    | with_reducible refine TG_if ?_ ?_
    | with_reducible refine tg_jn_X8_on_18 _ _ _ _ ?_)
theorem tg_lp_X8_soon_31 {T : Nat → Nat × Nat} (ths : Nat) (r10 : Nat) (w3_31 : Int32) (Mw_31 : QM) (hM : Mw_31.2.1 = T) : TG T (Sum.elim (fun s : Int32 × QM => s.2) (fun s : Int32 × QM => s.2)) (lp_X8_soon_31 ths r10 w3_31 Mw_31) := by
  unfold lp_X8_soon_31
  repeat' (first
    | assumption
    | with_reducible exact TG_none
    | with_reducible refine TG_some ?_
    | with_reducible refine TG_gI (fun _ => ?_)
    | with_reducible refine TG_gR (fun _ => ?_)
    | with_reducible refine TG_ck ?_
    | with_reducible refine TG_nm ?_
    | with_reducible refine TG_if ?_ ?_
    | with_reducible refine tg_fn_X2_ripen _ _ _ _ ?_
    | with_reducible refine TG_bnd (tg_fn_X2_ripen _ _ _ _ ?_) (fun z hz => ?_)
    | with_reducible refine TG_bnd0 (fun z => ?_))
theorem tg_fn_X8_soon {T : Nat → Nat × Nat} (M : QM) (ths : Nat) (p1 : Int32) (hM : M.2.1 = T) : TG T (fun s : Int32 × QM => s.2) (fn_X8_soon M ths p1) := by
  unfold fn_X8_soon
  repeat' (first
    | assumption
    | with_reducible exact TG_none
    | with_reducible refine TG_some ?_
    | with_reducible refine TG_gR (fun _ => ?_)
    | with_reducible refine TG_ck ?_
    | with_reducible refine TG_cnul ?_ (fun _ => ?_)
    | with_reducible refine TG_pr2 ?_
    | with_reducible refine TG_bnd (TG_itr (fun s : Int32 × QM => s.2) (fun s : Int32 × QM => s.2) (fun s hs => tg_lp_X8_soon_31 _ _ _ _ hs) _ _ ?_) (fun z hz => ?_)
    | with_reducible refine tg_fn_X2_become _ _ _ ?_
    | with_reducible refine TG_bnd (tg_fn_X2_become _ _ _ ?_) (fun z hz => ?_)
    | with_reducible refine TG_bnd0 (fun z => ?_))
theorem tg_fn_X7_copy {T : Nat → Nat × Nat} (M : QM) (ths : Nat) (p1 : Nat) (hM : M.2.1 = T) : TG T (fun s : QM => s) (fn_X7_copy M ths p1) := by
  unfold fn_X7_copy
  repeat' (first
    | assumption
    | with_reducible exact TG_none
    | with_reducible refine TG_some ?_
    | with_reducible refine TG_gI (fun _ => ?_)
    | with_reducible refine TG_gR (fun _ => ?_)
    | with_reducible refine TG_pI ?_ (fun N hN => ?_)
    | with_reducible refine TG_cpI ?_ (fun N hN => ?_))
theorem tg_lp_X8_heaviest_26 {T : Nat → Nat × Nat} (ths : Nat) (w3_26 : Int32) (Mw_26 : QM) (hM : Mw_26.2.1 = T) : TG T (Sum.elim (fun s : Int32 × QM => s.2) (fun s : Int32 × QM => s.2)) (lp_X8_heaviest_26 ths w3_26 Mw_26) := by
  unfold lp_X8_heaviest_26
  repeat' (first
    | assumption
    | with_reducible exact TG_none
    | with_reducible refine TG_some ?_
    | with_reducible refine TG_gI (fun _ => ?_)
    | with_reducible refine TG_gR (fun _ => ?_)
    | with_reducible refine TG_ck ?_
    | with_reducible refine TG_pI ?_ (fun N hN => ?_)
    | with_reducible refine TG_nm ?_
    | with_reducible refine TG_if ?_ ?_
    | with_reducible refine TG_bnd0 (fun z => ?_))
theorem tg_fn_X8_heaviest {T : Nat → Nat × Nat} (M : QM) (ths : Nat) (p1 : Int32) (hM : M.2.1 = T) : TG T (fun s : Int32 × QM => s.2) (fn_X8_heaviest M ths p1) := by
  unfold fn_X8_heaviest
  repeat' (first
    | assumption
    | with_reducible exact TG_none
    | with_reducible refine TG_some ?_
    | with_reducible refine TG_gR (fun _ => ?_)
    | with_reducible refine TG_ck ?_
    | with_reducible refine TG_cnul ?_ (fun _ => ?_)
    | with_reducible refine TG_pr2 ?_
    | with_reducible refine TG_bnd (TG_itr (fun s : Int32 × QM => s.2) (fun s : Int32 × QM => s.2) (fun s hs => tg_lp_X8_heaviest_26 _ _ _ hs) _ _ ?_) (fun z hz => ?_)
    | with_reducible refine tg_fn_X7_copy _ _ _ ?_
    | with_reducible refine TG_bnd (tg_fn_X7_copy _ _ _ ?_) (fun z hz => ?_)
    | with_reducible refine TG_bnd0 (fun z => ?_))
theorem tg_jn_X8_stirred_152_78 {T : Nat → Nat × Nat} (w5_55 : Int32) (j7_152 : Int32) (j8_152 : Int32) (Mj_152 : QM) (hM : Mj_152.2.1 = T) : TG T (Sum.elim (fun s : Int32 × Int32 × Int32 × QM => s.2.2.2) (fun s : Int32 × Int32 × QM => s.2.2)) (jn_X8_stirred_152_78 w5_55 j7_152 j8_152 Mj_152) := by
  unfold jn_X8_stirred_152_78
  repeat' (first
    | assumption
    | with_reducible exact TG_none
    | with_reducible refine TG_some ?_
    | with_reducible refine TG_nm ?_)
theorem tg_lp_X8_stirred_78 {T : Nat → Nat × Nat} (ths : Nat) (r10 : Nat) (v6_70 : Int32) (w5_55 : Int32) (w3_78 : Int32) (w4_78 : Int32) (w7_78 : Int32) (Mw_78 : QM) (hM : Mw_78.2.1 = T) : TG T (Sum.elim (fun s : Int32 × Int32 × Int32 × QM => s.2.2.2) (fun s : Int32 × Int32 × QM => s.2.2)) (lp_X8_stirred_78 ths r10 v6_70 w5_55 w3_78 w4_78 w7_78 Mw_78) := by
  unfold lp_X8_stirred_78
  repeat' (first
    | assumption
    | with_reducible exact TG_none
    | with_reducible refine TG_some ?_
    | with_reducible refine TG_gI (fun _ => ?_)
    | with_reducible refine TG_gR (fun _ => ?_)
    | with_reducible refine TG_ck ?_
    | with_reducible refine TG_nm ?_
    | with_reducible refine TG_if ?_ ?_
    | with_reducible refine tg_fn_X2_swap _ _ _ _ ?_
    | with_reducible refine TG_bnd (tg_fn_X2_swap _ _ _ _ ?_) (fun z hz => ?_)
    | with_reducible refine tg_jn_X8_stirred_152_78 _ _ _ _ ?_
    | with_reducible refine TG_bnd0 (fun z => ?_))
theorem tg_lp_X8_stirred_55 {T : Nat → Nat × Nat} (ths : Nat) (r10 : Nat) (w3_55 : Int32) (w4_55 : Int32) (w5_55 : Int32) (Mw_55 : QM) (hM : Mw_55.2.1 = T) : TG T (Sum.elim (fun s : Int32 × Int32 × Int32 × QM => s.2.2.2) (fun s : Int32 × QM => s.2)) (lp_X8_stirred_55 ths r10 w3_55 w4_55 w5_55 Mw_55) := by
  unfold lp_X8_stirred_55
  repeat' (first
    | assumption
    | with_reducible exact TG_none
    | with_reducible refine TG_some ?_
    | with_reducible refine TG_nm ?_
    | with_reducible refine TG_if ?_ ?_
    | with_reducible refine TG_pr3 ?_
    | with_reducible refine TG_bnd (TG_itr (fun s : Int32 × Int32 × Int32 × QM => s.2.2.2) (fun s : Int32 × Int32 × QM => s.2.2) (fun s hs => tg_lp_X8_stirred_78 _ _ _ _ _ _ _ _ hs) _ _ ?_) (fun z hz => ?_)
    | with_reducible refine TG_bnd0 (fun z => ?_))
theorem tg_fn_X8_stirred {T : Nat → Nat × Nat} (M : QM) (ths : Nat) (p1 : Int32) (hM : M.2.1 = T) : TG T (fun s : Int32 × QM => s.2) (fn_X8_stirred M ths p1) := by
  unfold fn_X8_stirred
  repeat' (first
    | assumption
    | with_reducible exact TG_none
    | with_reducible refine TG_some ?_
    | with_reducible refine TG_gI (fun _ => ?_)
    | with_reducible refine TG_gR (fun _ => ?_)
    | with_reducible refine TG_ck ?_
    | with_reducible refine TG_cnul ?_ (fun _ => ?_)
    | with_reducible refine TG_pr2 ?_
    | with_reducible refine TG_bnd (TG_itr (fun s : Int32 × Int32 × Int32 × QM => s.2.2.2) (fun s : Int32 × QM => s.2) (fun s hs => tg_lp_X8_stirred_55 _ _ _ _ _ _ hs) _ _ ?_) (fun z hz => ?_)
    | with_reducible refine tg_fn_X2_become _ _ _ ?_
    | with_reducible refine TG_bnd (tg_fn_X2_become _ _ _ ?_) (fun z hz => ?_)
    | with_reducible refine TG_bnd0 (fun z => ?_))
theorem tg_fn_X8_print {T : Nat → Nat × Nat} (M : QM) (ths : Nat) (p1 : Int32) (hM : M.2.1 = T) : TG T (fun s : Int32 × QM => s.2) (fn_X8_print M ths p1) := by
  unfold fn_X8_print
  repeat' (first
    | assumption
    | with_reducible exact TG_none
    | with_reducible refine TG_some ?_
    | with_reducible refine TG_gI (fun _ => ?_)
    | with_reducible refine TG_gR (fun _ => ?_)
    | with_reducible refine TG_pI ?_ (fun N hN => ?_)
    | with_reducible refine TG_if ?_ ?_)
theorem tg_fn_X4_empty {T : Nat → Nat × Nat} (M : QM) (ths : Nat) (hM : M.2.1 = T) : TG T (fun s : Int32 × QM => s.2) (fn_X4_empty M ths) := by
  unfold fn_X4_empty
  repeat' (first
    | assumption
    | with_reducible exact TG_none
    | with_reducible refine TG_some ?_
    | with_reducible refine TG_pI ?_ (fun N hN => ?_))
theorem tg_fn_X4_append {T : Nat → Nat × Nat} (M : QM) (ths : Nat) (p1 : Int32) (p2 : Int32) (p3 : Int32) (hM : M.2.1 = T) : TG T (fun s : Int32 × QM => s.2) (fn_X4_append M ths p1 p2 p3) := by
  unfold fn_X4_append
  repeat' (first
    | assumption
    | with_reducible exact TG_none
    | with_reducible refine TG_some ?_
    | with_reducible refine TG_gI (fun _ => ?_)
    | with_reducible refine TG_gR (fun _ => ?_)
    | with_reducible refine TG_pI ?_ (fun N hN => ?_)
    | with_reducible refine TG_wI ?_ (fun N hN => ?_)
    | with_reducible refine TG_if ?_ ?_)
theorem tg_fn_X8_see {T : Nat → Nat × Nat} (M : QM) (ths : Nat) (p1 : Int32) (p2 : Int32) (p3 : Int32) (hM : M.2.1 = T) : TG T (fun s : Int32 × QM => s.2) (fn_X8_see M ths p1 p2 p3) := by
  unfold fn_X8_see
  repeat' (first
    | assumption
    | with_reducible exact TG_none
    | with_reducible refine TG_some ?_
    | with_reducible refine TG_gR (fun _ => ?_)
    | with_reducible refine TG_ck ?_
    | with_reducible refine TG_cnul ?_ (fun _ => ?_)
    | with_reducible refine TG_if ?_ ?_
    | with_reducible refine TG_pr2 ?_
    | with_reducible refine tg_fn_X4_empty _ _ ?_
    | with_reducible refine TG_bnd (tg_fn_X4_empty _ _ ?_) (fun z hz => ?_)
    | with_reducible refine tg_fn_X4_append _ _ _ _ _ ?_
    | with_reducible refine TG_bnd (tg_fn_X4_append _ _ _ _ _ ?_) (fun z hz => ?_)
    | with_reducible refine TG_bnd0 (fun z => ?_))
theorem tg_lp_X8_fitAll_2 {T : Nat → Nat × Nat} (ths : Nat) (p1 : Int32) (w2_2 : Int32) (Mw_2 : QM) (hM : Mw_2.2.1 = T) : TG T (Sum.elim (fun s : Int32 × QM => s.2) (fun s : QM => s)) (lp_X8_fitAll_2 ths p1 w2_2 Mw_2) := by
  unfold lp_X8_fitAll_2
  repeat' (first
    | assumption
    | with_reducible exact TG_none
    | with_reducible refine TG_some ?_
    | with_reducible refine TG_gR (fun _ => ?_)
    | with_reducible refine TG_wI ?_ (fun N hN => ?_)
    | with_reducible refine TG_nm ?_
    | with_reducible refine TG_if ?_ ?_)
theorem tg_fn_X8_fitAll {T : Nat → Nat × Nat} (M : QM) (ths : Nat) (p1 : Int32) (hM : M.2.1 = T) : TG T (fun s : QM => s) (fn_X8_fitAll M ths p1) := by
  unfold fn_X8_fitAll
  repeat' (first
    | assumption
    | with_reducible exact TG_none
    | with_reducible refine TG_some ?_
    | with_reducible refine TG_bnd (TG_itr (fun s : Int32 × QM => s.2) (fun s : QM => s) (fun s hs => tg_lp_X8_fitAll_2 _ _ _ _ hs) _ _ ?_) (fun z hz => ?_)
    | with_reducible refine TG_bnd0 (fun z => ?_))
theorem tg_lp_X8_heft_75 {T : Nat → Nat × Nat} (ths : Nat) (p1 : Int32) (w4_32 : Int32) (w5_75 : Int32) (Mw_75 : QM) (hM : Mw_75.2.1 = T) : TG T (Sum.elim (fun s : Int32 × QM => s.2) (fun s : QM => s)) (lp_X8_heft_75 ths p1 w4_32 w5_75 Mw_75) := by
  unfold lp_X8_heft_75
  repeat' (first
    | assumption
    | with_reducible exact TG_none
    | with_reducible refine TG_some ?_
    | with_reducible refine TG_gR (fun _ => ?_)
    | with_reducible refine TG_ck ?_
    | with_reducible refine TG_pI ?_ (fun N hN => ?_)
    | with_reducible refine TG_wI ?_ (fun N hN => ?_)
    | with_reducible refine TG_aI (fun _ => ?_)
    | with_reducible refine TG_nm ?_
    | with_reducible refine TG_if ?_ ?_
    | with_reducible refine TG_bnd0 (fun z => ?_))
theorem tg_lp_X8_heft_32 {T : Nat → Nat × Nat} (ths : Nat) (p1 : Int32) (r10 : Nat) (w4_32 : Int32) (Mw_32 : QM) (hM : Mw_32.2.1 = T) : TG T (Sum.elim (fun s : Int32 × QM => s.2) (fun s : QM => s)) (lp_X8_heft_32 ths p1 r10 w4_32 Mw_32) := by
  unfold lp_X8_heft_32
  repeat' (first
    | assumption
    | with_reducible exact TG_none
    | with_reducible refine TG_some ?_
    | with_reducible refine TG_gI (fun _ => ?_)
    | with_reducible refine TG_gR (fun _ => ?_)
    | with_reducible refine TG_ck ?_
    | with_reducible refine TG_aI (fun _ => ?_)
    | with_reducible refine TG_nm ?_
    | with_reducible refine TG_if ?_ ?_
    | with_reducible refine TG_bnd (TG_itr (fun s : Int32 × QM => s.2) (fun s : QM => s) (fun s hs => tg_lp_X8_heft_75 _ _ _ _ _ hs) _ _ ?_) (fun z hz => ?_)
    | with_reducible refine tg_fn_X8_askBehind _ _ _ ?_
    | with_reducible refine TG_bnd (tg_fn_X8_askBehind _ _ _ ?_) (fun z hz => ?_)
    | with_reducible refine tg_fn_X7_copy _ _ _ ?_
    | with_reducible refine TG_bnd (tg_fn_X7_copy _ _ _ ?_) (fun z hz => ?_)
    | with_reducible refine TG_bnd0 (fun z => ?_))
theorem tg_fn_X8_heft {T : Nat → Nat × Nat} (M : QM) (ths : Nat) (p1 : Int32) (p2 : Int32) (hM : M.2.1 = T) : TG T (fun s : Int32 × QM => s.2) (fn_X8_heft M ths p1 p2) := by
  unfold fn_X8_heft
  repeat' (first
    | assumption
    | with_reducible exact TG_none
    | with_reducible refine TG_some ?_
    | with_reducible refine TG_gR (fun _ => ?_)
    | with_reducible refine TG_ck ?_
    | with_reducible refine TG_cnul ?_ (fun _ => ?_)
    | with_reducible refine TG_if ?_ ?_
    | with_reducible refine TG_bnd (TG_itr (fun s : Int32 × QM => s.2) (fun s : QM => s) (fun s hs => tg_lp_X8_heft_32 _ _ _ _ _ hs) _ _ ?_) (fun z hz => ?_)
    | with_reducible refine tg_fn_X8_fitAll _ _ _ ?_
    | with_reducible refine TG_bnd (tg_fn_X8_fitAll _ _ _ ?_) (fun z hz => ?_)
    | with_reducible refine TG_bnd0 (fun z => ?_))
theorem tg_lp_X8_can_75 {T : Nat → Nat × Nat} (ths : Nat) (p1 : Int32) (w4_32 : Int32) (w5_75 : Int32) (Mw_75 : QM) (hM : Mw_75.2.1 = T) : TG T (Sum.elim (fun s : Int32 × QM => s.2) (fun s : QM => s)) (lp_X8_can_75 ths p1 w4_32 w5_75 Mw_75) := by
  unfold lp_X8_can_75
  repeat' (first
    | assumption
    | with_reducible exact TG_none
    | with_reducible refine TG_some ?_
    | with_reducible refine TG_gR (fun _ => ?_)
    | with_reducible refine TG_ck ?_
    | with_reducible refine TG_pI ?_ (fun N hN => ?_)
    | with_reducible refine TG_wI ?_ (fun N hN => ?_)
    | with_reducible refine TG_aI (fun _ => ?_)
    | with_reducible refine TG_nm ?_
    | with_reducible refine TG_if ?_ ?_
    | with_reducible refine TG_bnd0 (fun z => ?_))
theorem tg_lp_X8_can_32 {T : Nat → Nat × Nat} (ths : Nat) (p1 : Int32) (r10 : Nat) (w4_32 : Int32) (Mw_32 : QM) (hM : Mw_32.2.1 = T) : TG T (Sum.elim (fun s : Int32 × QM => s.2) (fun s : QM => s)) (lp_X8_can_32 ths p1 r10 w4_32 Mw_32) := by
  unfold lp_X8_can_32
  repeat' (first
    | assumption
    | with_reducible exact TG_none
    | with_reducible refine TG_some ?_
    | with_reducible refine TG_gI (fun _ => ?_)
    | with_reducible refine TG_gR (fun _ => ?_)
    | with_reducible refine TG_ck ?_
    | with_reducible refine TG_aI (fun _ => ?_)
    | with_reducible refine TG_nm ?_
    | with_reducible refine TG_if ?_ ?_
    | with_reducible refine TG_bnd (TG_itr (fun s : Int32 × QM => s.2) (fun s : QM => s) (fun s hs => tg_lp_X8_can_75 _ _ _ _ _ hs) _ _ ?_) (fun z hz => ?_)
    | with_reducible refine tg_fn_X8_askBehind _ _ _ ?_
    | with_reducible refine TG_bnd (tg_fn_X8_askBehind _ _ _ ?_) (fun z hz => ?_)
    | with_reducible refine tg_fn_X7_copy _ _ _ ?_
    | with_reducible refine TG_bnd (tg_fn_X7_copy _ _ _ ?_) (fun z hz => ?_)
    | with_reducible refine TG_bnd0 (fun z => ?_))
theorem tg_fn_X8_can {T : Nat → Nat × Nat} (M : QM) (ths : Nat) (p1 : Int32) (p2 : Int32) (hM : M.2.1 = T) : TG T (fun s : Int32 × QM => s.2) (fn_X8_can M ths p1 p2) := by
  unfold fn_X8_can
  repeat' (first
    | assumption
    | with_reducible exact TG_none
    | with_reducible refine TG_some ?_
    | with_reducible refine TG_gR (fun _ => ?_)
    | with_reducible refine TG_ck ?_
    | with_reducible refine TG_cnul ?_ (fun _ => ?_)
    | with_reducible refine TG_if ?_ ?_
    | with_reducible refine TG_bnd (TG_itr (fun s : Int32 × QM => s.2) (fun s : QM => s) (fun s hs => tg_lp_X8_can_32 _ _ _ _ _ hs) _ _ ?_) (fun z hz => ?_)
    | with_reducible refine tg_fn_X8_fitAll _ _ _ ?_
    | with_reducible refine TG_bnd (tg_fn_X8_fitAll _ _ _ ?_) (fun z hz => ?_)
    | with_reducible refine TG_bnd0 (fun z => ?_))
theorem tg_lp_X8_was_44 {T : Nat → Nat × Nat} (ths : Nat) (p1 : Int32) (p2 : Int32) (p3 : Int32) (w5_44 : Int32) (Mw_44 : QM) (hM : Mw_44.2.1 = T) : TG T (Sum.elim (fun s : Int32 × QM => s.2) (fun s : QM => s)) (lp_X8_was_44 ths p1 p2 p3 w5_44 Mw_44) := by
  unfold lp_X8_was_44
  repeat' (first
    | assumption
    | with_reducible exact TG_none
    | with_reducible refine TG_some ?_
    | with_reducible refine TG_gR (fun _ => ?_)
    | with_reducible refine TG_wI ?_ (fun N hN => ?_)
    | with_reducible refine TG_nm ?_
    | with_reducible refine TG_if ?_ ?_
    | with_reducible refine TG_bnd0 (fun z => ?_))
theorem tg_fn_X8_was {T : Nat → Nat × Nat} (M : QM) (ths : Nat) (p1 : Int32) (p2 : Int32) (p3 : Int32) (p4 : Int32) (hM : M.2.1 = T) : TG T (fun s : Int32 × QM => s.2) (fn_X8_was M ths p1 p2 p3 p4) := by
  unfold fn_X8_was
  repeat' (first
    | assumption
    | with_reducible exact TG_none
    | with_reducible refine TG_some ?_
    | with_reducible refine TG_ck ?_
    | with_reducible refine TG_if ?_ ?_
    | with_reducible refine TG_bnd (TG_itr (fun s : Int32 × QM => s.2) (fun s : QM => s) (fun s hs => tg_lp_X8_was_44 _ _ _ _ _ _ hs) _ _ ?_) (fun z hz => ?_)
    | with_reducible refine TG_bnd0 (fun z => ?_))
theorem tg_lp_X8_odds_31 {T : Nat → Nat × Nat} (ths : Nat) (r10 : Nat) (w4_31 : Int32) (w5_31 : Int32) (Mw_31 : QM) (hM : Mw_31.2.1 = T) : TG T (Sum.elim (fun s : Int32 × Int32 × QM => s.2.2) (fun s : Int32 × QM => s.2)) (lp_X8_odds_31 ths r10 w4_31 w5_31 Mw_31) := by
  unfold lp_X8_odds_31
  repeat' (first
    | assumption
    | with_reducible exact TG_none
    | with_reducible refine TG_some ?_
    | with_reducible refine TG_gI (fun _ => ?_)
    | with_reducible refine TG_gR (fun _ => ?_)
    | with_reducible refine TG_ck ?_
    | with_reducible refine TG_nm ?_
    | with_reducible refine TG_if ?_ ?_
    | with_reducible refine tg_fn_X2_become _ _ _ ?_
    | with_reducible refine TG_bnd (tg_fn_X2_become _ _ _ ?_) (fun z hz => ?_)
    | with_reducible refine tg_fn_X2_pour _ _ _ _ ?_
    | with_reducible refine TG_bnd (tg_fn_X2_pour _ _ _ _ ?_) (fun z hz => ?_)
    | with_reducible refine TG_bnd0 (fun z => ?_))
theorem tg_fn_X8_odds {T : Nat → Nat × Nat} (M : QM) (ths : Nat) (p1 : Int32) (p2 : Int32) (hM : M.2.1 = T) : TG T (fun s : Int64 × QM => s.2) (fn_X8_odds M ths p1 p2) := by
  unfold fn_X8_odds
  repeat' (first
    | assumption
    | with_reducible exact TG_none
    | with_reducible refine TG_some ?_
    | with_reducible refine TG_gR (fun _ => ?_)
    | with_reducible refine TG_ck ?_
    | with_reducible refine TG_cnul ?_ (fun _ => ?_)
    | with_reducible refine TG_if ?_ ?_
    | with_reducible refine TG_pr2 ?_
    | with_reducible refine TG_bnd (TG_itr (fun s : Int32 × Int32 × QM => s.2.2) (fun s : Int32 × QM => s.2) (fun s hs => tg_lp_X8_odds_31 _ _ _ _ _ hs) _ _ ?_) (fun z hz => ?_)
    | with_reducible refine TG_bnd0 (fun z => ?_))
theorem tg_fn_X8_mean {T : Nat → Nat × Nat} (M : QM) (ths : Nat) (p1 : Int32) (p2 : Int32) (hM : M.2.1 = T) : TG T (fun s : Int64 × QM => s.2) (fn_X8_mean M ths p1 p2) := by
  unfold fn_X8_mean
  repeat' (first
    | assumption
    | with_reducible exact TG_none
    | with_reducible refine TG_some ?_
    | with_reducible refine TG_gR (fun _ => ?_)
    | with_reducible refine TG_ck ?_
    | with_reducible refine TG_if ?_ ?_
    | with_reducible refine tg_fn_X8_askBehind _ _ _ ?_
    | with_reducible refine TG_bnd (tg_fn_X8_askBehind _ _ _ ?_) (fun z hz => ?_)
    | with_reducible refine TG_bnd0 (fun z => ?_))
theorem tg_jn_X8_afternoon_39 {T : Nat → Nat × Nat} (ths : Nat) (p1 : Int32) (p2 : Int32) (Mj_39 : QM) (hM : Mj_39.2.1 = T) : TG T (fun s : Int32 × QM => s.2) (jn_X8_afternoon_39 ths p1 p2 Mj_39) := by
  unfold jn_X8_afternoon_39
  repeat' (first
    | assumption
    | with_reducible exact TG_none
    | with_reducible refine TG_some ?_
    | with_reducible refine TG_gR (fun _ => ?_)
    | with_reducible refine TG_ck ?_
    | with_reducible refine TG_pr2 ?_
    | with_reducible refine tg_fn_X4_append _ _ _ _ _ ?_
    | with_reducible refine TG_bnd (tg_fn_X4_append _ _ _ _ _ ?_) (fun z hz => ?_)
    | with_reducible refine TG_bnd0 (fun z => ?_))
theorem tg_fn_X8_afternoon {T : Nat → Nat × Nat} (M : QM) (ths : Nat) (p1 : Int32) (p2 : Int32) (hM : M.2.1 = T) : TG T (fun s : Int32 × QM => s.2) (fn_X8_afternoon M ths p1 p2) := by
  unfold fn_X8_afternoon
  repeat' (first
    | assumption
    | with_reducible exact TG_none
    | with_reducible refine TG_some ?_
    | with_reducible refine TG_gR (fun _ => ?_)
    | with_reducible refine TG_ck ?_
    | with_reducible refine TG_if ?_ ?_
    | with_reducible refine TG_pr2 ?_
    | with_reducible refine tg_fn_X4_empty _ _ ?_
    | with_reducible refine TG_bnd (tg_fn_X4_empty _ _ ?_) (fun z hz => ?_)
    | with_reducible refine tg_jn_X8_afternoon_39 _ _ _ _ ?_
    | with_reducible refine TG_bnd0 (fun z => ?_))
theorem tg_lp_X8_ends_26 {T : Nat → Nat × Nat} (ths : Nat) (w2_26 : Int32) (Mw_26 : QM) (hM : Mw_26.2.1 = T) : TG T (Sum.elim (fun s : Int32 × QM => s.2) (fun s : QM => s)) (lp_X8_ends_26 ths w2_26 Mw_26) := by
  unfold lp_X8_ends_26
  repeat' (first
    | assumption
    | with_reducible exact TG_none
    | with_reducible refine TG_some ?_
    | with_reducible refine TG_gI (fun _ => ?_)
    | with_reducible refine TG_gR (fun _ => ?_)
    | with_reducible refine TG_ck ?_
    | with_reducible refine TG_aI (fun _ => ?_)
    | with_reducible refine TG_nm ?_
    | with_reducible refine TG_if ?_ ?_
    | with_reducible refine tg_fn_X2_ripen _ _ _ _ ?_
    | with_reducible refine TG_bnd (tg_fn_X2_ripen _ _ _ _ ?_) (fun z hz => ?_)
    | with_reducible refine tg_fn_X2_pour _ _ _ _ ?_
    | with_reducible refine TG_bnd (tg_fn_X2_pour _ _ _ _ ?_) (fun z hz => ?_)
    | with_reducible refine tg_fn_X2_swap _ _ _ _ ?_
    | with_reducible refine TG_bnd (tg_fn_X2_swap _ _ _ _ ?_) (fun z hz => ?_)
    | with_reducible refine TG_bnd0 (fun z => ?_))
theorem tg_fn_X8_ends {T : Nat → Nat × Nat} (M : QM) (ths : Nat) (p1 : Int32) (hM : M.2.1 = T) : TG T (fun s : Int32 × QM => s.2) (fn_X8_ends M ths p1) := by
  unfold fn_X8_ends
  repeat' (first
    | assumption
    | with_reducible exact TG_none
    | with_reducible refine TG_some ?_
    | with_reducible refine TG_gR (fun _ => ?_)
    | with_reducible refine TG_ck ?_
    | with_reducible refine TG_if ?_ ?_
    | with_reducible refine TG_bnd (TG_itr (fun s : Int32 × QM => s.2) (fun s : QM => s) (fun s hs => tg_lp_X8_ends_26 _ _ _ hs) _ _ ?_) (fun z hz => ?_)
    | with_reducible refine tg_fn_X2_become _ _ _ ?_
    | with_reducible refine TG_bnd (tg_fn_X2_become _ _ _ ?_) (fun z hz => ?_)
    | with_reducible refine TG_bnd0 (fun z => ?_))
theorem tg_fn_X8_book {T : Nat → Nat × Nat} (M : QM) (ths : Nat) (p1 : Int32) (p2 : Int32) (hM : M.2.1 = T) : TG T (fun s : Int32 × QM => s.2) (fn_X8_book M ths p1 p2) := by
  unfold fn_X8_book
  repeat' (first
    | assumption
    | with_reducible exact TG_none
    | with_reducible refine TG_some ?_
    | with_reducible refine TG_gR (fun _ => ?_)
    | with_reducible refine TG_ck ?_
    | with_reducible refine TG_if ?_ ?_
    | with_reducible refine TG_pr2 ?_
    | with_reducible refine tg_fn_X4_empty _ _ ?_
    | with_reducible refine TG_bnd (tg_fn_X4_empty _ _ ?_) (fun z hz => ?_)
    | with_reducible refine tg_fn_X4_append _ _ _ _ _ ?_
    | with_reducible refine TG_bnd (tg_fn_X4_append _ _ _ _ _ ?_) (fun z hz => ?_)
    | with_reducible refine TG_bnd0 (fun z => ?_))
theorem tg_lp_X5_copy_21 {T : Nat → Nat × Nat} (ths : Nat) (p1 : Nat) (w2_21 : Int32) (Mw_21 : QM) (hM : Mw_21.2.1 = T) : TG T (Sum.elim (fun s : Int32 × QM => s.2) (fun s : QM => s)) (lp_X5_copy_21 ths p1 w2_21 Mw_21) := by
  unfold lp_X5_copy_21
  repeat' (first
    | assumption
    | with_reducible exact TG_none
    | with_reducible refine TG_some ?_
    | with_reducible refine TG_gI (fun _ => ?_)
    | with_reducible refine TG_gR (fun _ => ?_)
    | with_reducible refine TG_ck ?_
    | with_reducible refine TG_aR (fun _ => ?_)
    | with_reducible refine TG_nm ?_
    | with_reducible refine TG_if ?_ ?_
    | with_reducible refine tg_fn_X7_copy _ _ _ ?_
    | with_reducible refine TG_bnd (tg_fn_X7_copy _ _ _ ?_) (fun z hz => ?_)
    | with_reducible refine TG_bnd0 (fun z => ?_))
theorem tg_fn_X4_copy {T : Nat → Nat × Nat} (M : QM) (ths : Nat) (p1 : Nat) (hM : M.2.1 = T) : TG T (fun s : QM => s) (fn_X4_copy M ths p1) := by
  unfold fn_X4_copy
  repeat' (first
    | assumption
    | with_reducible exact TG_none
    | with_reducible refine TG_some ?_
    | with_reducible refine TG_gI (fun _ => ?_)
    | with_reducible refine TG_gR (fun _ => ?_)
    | with_reducible refine TG_pI ?_ (fun N hN => ?_)
    | with_reducible refine TG_cpI ?_ (fun N hN => ?_))
theorem tg_fn_X5_copy {T : Nat → Nat × Nat} (M : QM) (ths : Nat) (p1 : Nat) (hM : M.2.1 = T) : TG T (fun s : QM => s) (fn_X5_copy M ths p1) := by
  unfold fn_X5_copy
  repeat' (first
    | assumption
    | with_reducible exact TG_none
    | with_reducible refine TG_some ?_
    | with_reducible refine TG_gI (fun _ => ?_)
    | with_reducible refine TG_gR (fun _ => ?_)
    | with_reducible refine TG_ck ?_
    | with_reducible refine TG_pI ?_ (fun N hN => ?_)
    | with_reducible refine TG_pR ?_ (fun N hN => ?_)
    | with_reducible refine TG_bnd (TG_itr (fun s : Int32 × QM => s.2) (fun s : QM => s) (fun s hs => tg_lp_X5_copy_21 _ _ _ _ hs) _ _ ?_) (fun z hz => ?_)
    | with_reducible refine tg_fn_X2_become _ _ _ ?_
    | with_reducible refine TG_bnd (tg_fn_X2_become _ _ _ ?_) (fun z hz => ?_)
    | with_reducible refine tg_fn_X4_copy _ _ _ ?_
    | with_reducible refine TG_bnd (tg_fn_X4_copy _ _ _ ?_) (fun z hz => ?_)
    | with_reducible refine TG_bnd0 (fun z => ?_))
theorem tg_fn_X8_image {T : Nat → Nat × Nat} (M : QM) (ths : Nat) (hM : M.2.1 = T) : TG T (fun s : Int32 × QM => s.2) (fn_X8_image M ths) := by
  unfold fn_X8_image
  repeat' (first
    | assumption
    | with_reducible exact TG_none
    | with_reducible refine TG_some ?_
    | with_reducible refine TG_gI (fun _ => ?_)
    | with_reducible refine TG_gR (fun _ => ?_)
    | with_reducible refine TG_ck ?_
    | with_reducible refine TG_pI ?_ (fun N hN => ?_)
    | with_reducible refine tg_fn_X5_copy _ _ _ ?_
    | with_reducible refine TG_bnd (tg_fn_X5_copy _ _ _ ?_) (fun z hz => ?_)
    | with_reducible refine TG_bnd0 (fun z => ?_))
theorem tg_fn_X8_undo {T : Nat → Nat × Nat} (M : QM) (ths : Nat) (hM : M.2.1 = T) : TG T (fun s : Int32 × QM => s.2) (fn_X8_undo M ths) := by
  unfold fn_X8_undo
  repeat' (first
    | assumption
    | with_reducible exact TG_none
    | with_reducible refine TG_some ?_
    | with_reducible refine TG_gI (fun _ => ?_)
    | with_reducible refine TG_gR (fun _ => ?_)
    | with_reducible refine TG_ck ?_
    | with_reducible refine TG_if ?_ ?_
    | with_reducible refine tg_fn_X5_copy _ _ _ ?_
    | with_reducible refine TG_bnd (tg_fn_X5_copy _ _ _ ?_) (fun z hz => ?_)
    | with_reducible refine TG_bnd0 (fun z => ?_))
theorem tg_bd_X0_done {T : Nat → Nat × Nat} (F : Nat → QM → Nat → Int32 → Int32 → Int32 → Int32 → Option (Int32 × QM)) (M : QM) (ths : Nat) (p1 : Int32) (p2 : Int32) (p3 : Int32) (p4 : Int32) (hF : ∀ k (N : QM) ths p1 p2 p3 p4, N.2.1 = T → TG T (fun s : Int32 × QM => s.2) (F k N ths p1 p2 p3 p4)) (hM : M.2.1 = T) : TG T (fun s : Int32 × QM => s.2) (bd_X0_done F M ths p1 p2 p3 p4) := by
  unfold bd_X0_done
  repeat' (first
    | assumption
    | with_reducible exact TG_none
    | with_reducible refine TG_some ?_
    | with_reducible refine TG_gI (fun _ => ?_)
    | with_reducible refine TG_ck ?_
    | with_reducible refine TG_if ?_ ?_
    | with_reducible refine TG_pr2 ?_
    | with_reducible refine TG_bnd (hF _ _ _ _ _ _ _ ?_) (fun z hz => ?_)
    | with_reducible refine hF _ _ _ _ _ _ _ ?_
    | with_reducible refine TG_bnd0 (fun z => ?_))
theorem tg_jn_X0_note_19 {T : Nat → Nat × Nat} (ths : Nat) (Mj_19 : QM) (hM : Mj_19.2.1 = T) : TG T (fun s : QM => s) (jn_X0_note_19 ths Mj_19) := by
  unfold jn_X0_note_19
  repeat' (first
    | assumption
    | with_reducible exact TG_none
    | with_reducible refine TG_some ?_
    | with_reducible refine TG_gI (fun _ => ?_)
    | with_reducible refine TG_pI ?_ (fun N hN => ?_))
theorem tg_fn_X0_note {T : Nat → Nat × Nat} (M : QM) (ths : Nat) (p1 : Int32) (hM : M.2.1 = T) : TG T (fun s : QM => s) (fn_X0_note M ths p1) := by
  unfold fn_X0_note
  repeat' (first
    | assumption
    | with_reducible exact TG_none
    | with_reducible refine TG_some ?_
    | with_reducible refine TG_gI (fun _ => ?_)
    | with_reducible refine TG_gR (fun _ => ?_)
    | with_reducible refine TG_wI ?_ (fun N hN => ?_)
    | with_reducible refine TG_if ?_ ?_
    | with_reducible refine tg_jn_X0_note_19 _ _ ?_)
theorem tg_bd_X0_run {T : Nat → Nat × Nat} (F : Nat → QM → Nat → Int32 → Int32 → Int32 → Int32 → Option (Int32 × QM)) (M : QM) (ths : Nat) (p1 : Int32) (p2 : Int32) (p3 : Int32) (p4 : Int32) (hF : ∀ k (N : QM) ths p1 p2 p3 p4, N.2.1 = T → TG T (fun s : Int32 × QM => s.2) (F k N ths p1 p2 p3 p4)) (hM : M.2.1 = T) : TG T (fun s : Int32 × QM => s.2) (bd_X0_run F M ths p1 p2 p3 p4) := by
  unfold bd_X0_run
  repeat' (first
    | assumption
    | with_reducible exact TG_none
    | with_reducible refine TG_some ?_
    | with_reducible refine TG_ck ?_
    | with_reducible refine TG_sA (fun _ => ?_)
    | with_reducible refine TG_if ?_ ?_
    | with_reducible refine TG_pr2 ?_
    | with_reducible refine tg_fn_X0_note _ _ _ ?_
    | with_reducible refine TG_bnd (tg_fn_X0_note _ _ _ ?_) (fun z hz => ?_)
    | with_reducible refine TG_bnd (hF _ _ _ _ _ _ _ ?_) (fun z hz => ?_)
    | with_reducible refine hF _ _ _ _ _ _ _ ?_
    | with_reducible refine TG_bnd0 (fun z => ?_))
theorem tg_rd {T : Nat → Nat × Nat} : ∀ n k (N : QM) ths p1 p2 p3 p4, N.2.1 = T → TG T (fun s : Int32 × QM => s.2) (fn_rd n k N ths p1 p2 p3 p4) := by
  intro n
  induction n with
  | zero => intro k N ths p1 p2 p3 p4 hN; exact TG_none
  | succ n ih =>
    intro k N ths p1 p2 p3 p4 hN
    cases k with
    | zero => exact tg_bd_X0_run (fn_rd n) N ths p1 p2 p3 p4 ih hN
    | succ k => exact tg_bd_X0_done (fn_rd n) N ths p1 p2 p3 p4 ih hN
theorem tg_fn_X8_act {T : Nat → Nat × Nat} (M : QM) (ths : Nat) (p1 : Int32) (p2 : Int32) (p3 : Int32) (hM : M.2.1 = T) : TG T (fun s : Int32 × QM => s.2) (fn_X8_act M ths p1 p2 p3) := by
  unfold fn_X8_act
  repeat' (first
    | assumption
    | with_reducible exact TG_none
    | with_reducible refine TG_some ?_
    | with_reducible refine TG_gI (fun _ => ?_)
    | with_reducible refine TG_gR (fun _ => ?_)
    | with_reducible refine TG_ck ?_
    | with_reducible refine TG_pI ?_ (fun N hN => ?_)
    | with_reducible refine TG_cnul ?_ (fun _ => ?_)
    | with_reducible refine TG_if ?_ ?_
    | with_reducible refine TG_pr2 ?_
    | with_reducible refine TG_bnd (tg_rd _ _ _ _ _ _ _ _ ?_) (fun z hz => ?_)
    | with_reducible refine TG_bnd0 (fun z => ?_))
theorem tg_lp_X6_become_12 {T : Nat → Nat × Nat} (ths : Nat) (w3_12 : Int32) (Mw_12 : QM) (hM : Mw_12.2.1 = T) : TG T (Sum.elim (fun s : Int32 × QM => s.2) (fun s : QM => s)) (lp_X6_become_12 ths w3_12 Mw_12) := by
  unfold lp_X6_become_12
  repeat' (first
    | assumption
    | with_reducible exact TG_none
    | with_reducible refine TG_some ?_
    | with_reducible refine TG_gR (fun _ => ?_)
    | with_reducible refine TG_wJ ?_ (fun N hN => ?_)
    | with_reducible refine TG_nm ?_
    | with_reducible refine TG_if ?_ ?_)
theorem tg_fn_X6_become {T : Nat → Nat × Nat} (M : QM) (ths : Nat) (p1 : Int32) (p2 : Int32) (hM : M.2.1 = T) : TG T (fun s : QM => s) (fn_X6_become M ths p1 p2) := by
  unfold fn_X6_become
  repeat' (first
    | assumption
    | with_reducible exact TG_none
    | with_reducible refine TG_some ?_
    | with_reducible refine TG_pI ?_ (fun N hN => ?_)
    | with_reducible refine TG_bnd (TG_itr (fun s : Int32 × QM => s.2) (fun s : QM => s) (fun s hs => tg_lp_X6_become_12 _ _ _ hs) _ _ ?_) (fun z hz => ?_)
    | with_reducible refine TG_bnd0 (fun z => ?_))
theorem tg_fn_X8_tape {T : Nat → Nat × Nat} (M : QM) (ths : Nat) (p1 : Int32) (p2 : Int32) (p3 : Int32) (hM : M.2.1 = T) : TG T (fun s : Int32 × QM => s.2) (fn_X8_tape M ths p1 p2 p3) := by
  unfold fn_X8_tape
  repeat' (first
    | assumption
    | with_reducible exact TG_none
    | with_reducible refine TG_some ?_
    | with_reducible refine TG_gR (fun _ => ?_)
    | with_reducible refine TG_ck ?_
    | with_reducible refine TG_aR (fun _ => ?_)
    | with_reducible refine TG_if ?_ ?_
    | with_reducible refine tg_fn_X6_become _ _ _ _ ?_
    | with_reducible refine TG_bnd (tg_fn_X6_become _ _ _ _ ?_) (fun z hz => ?_)
    | with_reducible refine TG_bnd0 (fun z => ?_))
theorem tg_fn_X8_item {T : Nat → Nat × Nat} (M : QM) (ths : Nat) (p1 : Int32) (p2 : Int32) (p3 : Int64) (hM : M.2.1 = T) : TG T (fun s : Int32 × QM => s.2) (fn_X8_item M ths p1 p2 p3) := by
  unfold fn_X8_item
  repeat' (first
    | assumption
    | with_reducible exact TG_none
    | with_reducible refine TG_some ?_
    | with_reducible refine TG_gI (fun _ => ?_)
    | with_reducible refine TG_gR (fun _ => ?_)
    | with_reducible refine TG_ck ?_
    | with_reducible refine TG_wJ ?_ (fun N hN => ?_)
    | with_reducible refine TG_aR (fun _ => ?_)
    | with_reducible refine TG_if ?_ ?_
    | with_reducible refine TG_bnd0 (fun z => ?_))
theorem tg_fn_X8_shift {T : Nat → Nat × Nat} (M : QM) (ths : Nat) (p1 : Int32) (p2 : Int32) (p3 : Int32) (p4 : Int32) (p5 : Int32) (hM : M.2.1 = T) : TG T (fun s : Int32 × QM => s.2) (fn_X8_shift M ths p1 p2 p3 p4 p5) := by
  unfold fn_X8_shift
  repeat' (first
    | assumption
    | with_reducible exact TG_none
    | with_reducible refine TG_some ?_
    | with_reducible refine TG_gI (fun _ => ?_)
    | with_reducible refine TG_gR (fun _ => ?_)
    | with_reducible refine TG_ck ?_
    | with_reducible refine TG_aR (fun _ => ?_)
    | with_reducible refine TG_cpJ ?_ (fun N hN => ?_)
    | with_reducible refine TG_if ?_ ?_
    | with_reducible refine TG_bnd0 (fun z => ?_))
