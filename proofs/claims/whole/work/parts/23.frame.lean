/-! ===== what stays when cells are written ===== -/
section FR1
variable {M M' : QM} {o : Nat} {G G' : GG} {P : Nat → Nat → Prop}
theorem FIX.fr (h : FIX M o) (hf : ∀ a k, fx a k = true → mI M' (o + a) k = mI M (o + a) k) : FIX M' o :=
  ⟨(hf 78 25 rfl).trans h.1, fun k hk => (hf 92 k rfl).trans (h.2.1 k hk), ⟨(hf 5 0 rfl).trans h.2.2.1.1, (hf 9 0 rfl).trans h.2.2.1.2.1, (hf 13 0 rfl).trans h.2.2.1.2.2⟩, (hf 31 0 rfl).trans h.2.2.2.1, (hf 35 0 rfl).trans h.2.2.2.2.1, (hf 39 0 rfl).trans h.2.2.2.2.2⟩
theorem hA_ge (x : Nat) : hA x = 64 ∨ 124 ≤ hA x := by unfold hA; split <;> omega
theorem fx_hA (x k : Nat) : fx (hA x) k = true := by
  unfold fx
  rcases hA_ge x with h | h
  · rw [h]; simp
  · simp [h]
theorem fx_hA1 (x k : Nat) : fx (hA x + 1) k = true := by
  unfold fx
  rcases hA_ge x with h | h
  · rw [h]; simp
  · have : 124 ≤ hA x + 1 := by omega
    simp [this]
theorem BRW.fr (h : BRW M o G) (h1 : M'.1 = M.1) (h2 : M'.2.1 = M.2.1) (h3 : ∀ a k, mP M' a k = mP M a k) (hf : ∀ a k, fx a k = true → mI M' (o + a) k = mI M (o + a) k) (hg : G' 1 7 = G 1 7 ∧ G' 1 10 = G 1 10 ∧ G' 21 10 = G 21 10 ∧ ∀ x i, G' (50 + x) i = G (50 + x) i) : BRW M' o G' := by
  obtain ⟨nb, e, e2, a1, a2, a3, a4, a5, a6⟩ := h
  refine ⟨nb, e, e2, a1, ?_, ?_, ?_, ?_, ?_⟩
  · rw [hg.1, hg.2.1, hg.2.2.1]; exact a2
  · exact h1.trans a3
  · rw [h3, h3]; exact a4
  · rw [hf 78 8 rfl, hf 78 45 rfl]; exact a5
  · intro x hx
    obtain ⟨b1, b2, cl, b3, b4, b5⟩ := a6 x hx
    refine ⟨?_, ?_, cl, ?_, b4, ?_⟩
    · rw [h2, h3]; exact b1
    · refine ⟨fun i hi => ?_, ?_, ?_⟩
      · rw [hf _ i (fx_hA1 x i), hg.2.2.2]; exact b2.1 i hi
      · rw [hf _ _ (fx_hA x 1), hg.2.2.2]; exact b2.2.1
      · rw [hf _ _ (fx_hA x 2), hg.2.2.2]; exact b2.2.2
    · rw [show G' (50 + x) = G (50 + x) from funext fun i => hg.2.2.2 x i]; exact b3
    · intro b hb
      have e5 : ∀ r, 85 ≤ r → r ≤ 90 → mI M' (o + r) = mI M (o + r) := fun r r1 r2 => funext fun k => hf r k (by unfold fx; simp [r1, r2])
      rw [e5 85 (by omega) (by omega), e5 86 (by omega) (by omega), e5 87 (by omega) (by omega), e5 88 (by omega) (by omega), e5 89 (by omega) (by omega), e5 90 (by omega) (by omega)]
      exact b5 b hb
/-- nothing but cells that Z names has changed -/
def SQ (M M' : QM) (o : Nat) (Z : Nat → Nat → Prop) : Prop := M'.1 = M.1 ∧ M'.2.1 = M.2.1 ∧ (∀ a k, mP M' a k = mP M a k) ∧ (∀ a k, mJ M' a k = mJ M a k) ∧ ∀ a k, ¬ Z a k → mI M' (o + a) k = mI M (o + a) k
abbrev SC (M M' : QM) (o : Nat) : Prop := SQ M M' o (fun a k => scr a k = true)
theorem SQ.rfl {Z : Nat → Nat → Prop} : SQ M M o Z := ⟨Eq.refl _, Eq.refl _, fun _ _ => Eq.refl _, fun _ _ => Eq.refl _, fun _ _ _ => Eq.refl _⟩
theorem SQ.trans {M2 : QM} {Z : Nat → Nat → Prop} (h : SQ M M' o Z) (h2 : SQ M' M2 o Z) : SQ M M2 o Z := ⟨h2.1.trans h.1, h2.2.1.trans h.2.1, fun a k => (h2.2.2.1 a k).trans (h.2.2.1 a k), fun a k => (h2.2.2.2.1 a k).trans (h.2.2.2.1 a k), fun a k hz => (h2.2.2.2.2 a k hz).trans (h.2.2.2.2 a k hz)⟩
theorem SQ.mono {Z Z' : Nat → Nat → Prop} (h : SQ M M' o Z) (hz : ∀ a k, Z a k → Z' a k) : SQ M M' o Z' := ⟨h.1, h.2.1, h.2.2.1, h.2.2.2.1, fun a k q => h.2.2.2.2 a k (fun z => q (hz a k z))⟩
theorem SQ.shp {Z : Nat → Nat → Prop} (h : SQ M M' o Z) (h2 : SHP M o) : SHP M' o := h2.eq h.2.1 h.2.2.1
theorem SQ.sI {Z : Nat → Nat → Prop} (h : SQ M M' o Z) {a k : Nat} {v : Int32} (hz : Z a k) : SQ M (sI M' (o + a) k v) o Z := by
  refine ⟨h.1, h.2.1, h.2.2.1, h.2.2.2.1, fun b j q => ?_⟩
  rw [mI_sI, if_neg]
  · exact h.2.2.2.2 b j q
  · intro e
    have e1 : b = a := by have := e.1; omega
    rw [e1, e.2] at q
    exact q hz
theorem SQ.rI {Z : Nat → Nat → Prop} (h : SQ M M' o Z) {a : Nat} {r : Nat → Int32} (hz : ∀ k, ¬ r k = mI M' (o + a) k → Z a k) : SQ M (rI M' (o + a) r) o Z := ⟨h.1, h.2.1, h.2.2.1, h.2.2.2.1, fun b j q => by
    rw [mI_rI]
    by_cases e : o + b = o + a
    · have e1 : b = a := by omega
      subst e1
      rw [if_pos e]
      by_cases e2 : r j = mI M' (o + b) j
      · rw [e2]; exact h.2.2.2.2 b j q
      · exact absurd (hz j e2) q
    · rw [if_neg e]; exact h.2.2.2.2 b j q⟩
theorem nsc {a k : Nat} (h : scr a k = false) : ¬ scr a k = true := by rw [h]; exact Bool.false_ne_true
theorem RC.scr (h : RC P M o G) (hP : ∀ j k, P j k → k < dm j) (hs : SC M M' o) : RC P M' o G := by
  obtain ⟨h1, h2, h3, h4, h5, h6⟩ := h
  obtain ⟨s1, s2, s3, s4, s5⟩ := hs
  have hf : ∀ a k, fx a k = true → mI M' (o + a) k = mI M (o + a) k := fun a k q => s5 a k (nsc (fx_scr q))
  exact ⟨h1.eq s2 s3, RD_far h2 (fun j k p => s5 _ _ (nsc (cL_scr j (dm_lt (hP j k p)) k (hP j k p)))), RD_far h3 (fun j k p => s5 _ _ (nsc (mL_scr j (dm_lt (hP j k p)) k (hP j k p)))), fun t k a b => by rw [s4, s4]; exact h4 t k a b, h5.fr hf, h6.fr s1 s2 s3 hf ⟨rfl, rfl, rfl, fun _ _ => rfl⟩⟩
theorem Lv_dm {j k : Nat} (h : Lv G j k) : k < dm j := h.1
theorem RR.scr (h : RR M o G) (hs : SC M M' o) : RR M' o G := ⟨h.1.scr (fun _ _ q => q.1) hs, h.2⟩
/-! class and reference, each with what it holds by now -/
def RX (Pc : Nat → Nat → Prop) (Gc : GG) (Pm : Nat → Nat → Prop) (Gm : GG) (G : GG) (M : QM) (o : Nat) : Prop := SHP M o ∧ (RD cL M o Pc Gc ∧ ∀ j k, Pc j k → k < dm j) ∧ (RD mL M o Pm Gm ∧ ∀ j k, Pm j k → k < dm j) ∧ TAP M o ∧ FIX M o ∧ BRW M o G
theorem RR.rx (h : RR M o G) : RX (Lv G) G (Lv G) G G M o := ⟨h.1.1, ⟨h.1.2.1, fun _ _ q => q.1⟩, ⟨h.1.2.2.1, fun _ _ q => q.1⟩, h.1.2.2.2.1, h.1.2.2.2.2.1, h.1.2.2.2.2.2⟩
variable {Pc Pm : Nat → Nat → Prop} {Gc Gm : GG}
theorem Pu_dm {j0 k0 : Nat} (h : ∀ j k, P j k → k < dm j) (h0 : k0 < dm j0) : ∀ j k, Pu P j0 k0 j k → k < dm j := by
  intro j k q
  rcases q with ⟨q1, q2⟩ | q
  · rw [q1, q2]; exact h0
  · exact h j k q
theorem fx_at {a k b j : Nat} (h : fx a k = true) (h2 : fx b j = false) : ¬ (o + a = o + b ∧ k = j) := by
  intro q
  have e : a = b := by have := q.1; omega
  rw [e, q.2] at h
  rw [h] at h2
  cases h2
theorem RX.wc {j k a i : Nat} {v : Int32} (h : RX Pc Gc Pm Gm G M o) (e : cL j k = (a, i)) (h0 : k < dm j) : RX (Pu Pc j k) (Gu Gc j k v) Pm Gm G (sI M (o + a) i v) o := by
  obtain ⟨h1, h2, h3, h4, h5, h6⟩ := h
  have e1 : a = (cL j k).1 := by rw [e]
  have e2 : i = (cL j k).2 := by rw [e]
  subst e1 e2
  have ok := cL_ok j (dm_lt h0) k h0
  have hf : ∀ b n, fx b n = true → mI (sI M (o + (cL j k).1) (cL j k).2 v) (o + b) n = mI M (o + b) n := fun b n q => by rw [mI_sI, if_neg (fx_at q ok.2)]
  refine ⟨h1, ⟨RD_c h2.2 h0 h2.1, Pu_dm h2.2 h0⟩, ⟨RD_far h3.1 (fun j' k' q => ?_), h3.2⟩, h4, h5.fr hf, h6.fr rfl rfl (fun _ _ => rfl) hf ⟨rfl, rfl, rfl, fun _ _ => rfl⟩⟩
  rw [mI_sI, if_neg]
  intro z
  have := (mL_ok j' (dm_lt (h3.2 j' k' q)) k' (h3.2 j' k' q)).1.1
  have := z.1
  omega
theorem RX.wm {j k a i : Nat} {v : Int32} (h : RX Pc Gc Pm Gm G M o) (e : mL j k = (a, i)) (h0 : k < dm j) : RX Pc Gc (Pu Pm j k) (Gu Gm j k v) G (sI M (o + a) i v) o := by
  obtain ⟨h1, h2, h3, h4, h5, h6⟩ := h
  have e1 : a = (mL j k).1 := by rw [e]
  have e2 : i = (mL j k).2 := by rw [e]
  subst e1 e2
  have ok := mL_ok j (dm_lt h0) k h0
  have hf : ∀ b n, fx b n = true → mI (sI M (o + (mL j k).1) (mL j k).2 v) (o + b) n = mI M (o + b) n := fun b n q => by rw [mI_sI, if_neg (fx_at q ok.2)]
  refine ⟨h1, ⟨RD_far h2.1 (fun j' k' q => ?_), h2.2⟩, ⟨RD_m h3.2 h0 h3.1, Pu_dm h3.2 h0⟩, h4, h5.fr hf, h6.fr rfl rfl (fun _ _ => rfl) hf ⟨rfl, rfl, rfl, fun _ _ => rfl⟩⟩
  rw [mI_sI, if_neg]
  intro z
  have := (cL_ok j' (dm_lt (h2.2 j' k' q)) k' (h2.2 j' k' q)).1
  have := z.1
  omega
theorem RX.scr (h : RX Pc Gc Pm Gm G M o) (hs : SC M M' o) : RX Pc Gc Pm Gm G M' o := by
  obtain ⟨h1, h2, h3, h4, h5, h6⟩ := h
  obtain ⟨s1, s2, s3, s4, s5⟩ := hs
  have hf : ∀ a k, fx a k = true → mI M' (o + a) k = mI M (o + a) k := fun a k q => s5 a k (nsc (fx_scr q))
  exact ⟨h1.eq s2 s3, ⟨RD_far h2.1 (fun j k p => s5 _ _ (nsc (cL_scr j (dm_lt (h2.2 j k p)) k (h2.2 j k p)))), h2.2⟩, ⟨RD_far h3.1 (fun j k p => s5 _ _ (nsc (mL_scr j (dm_lt (h3.2 j k p)) k (h3.2 j k p)))), h3.2⟩, fun t k a b => by rw [s4, s4]; exact h4 t k a b, h5.fr hf, h6.fr s1 s2 s3 hf ⟨rfl, rfl, rfl, fun _ _ => rfl⟩⟩
theorem RX.fin (h : RX Pc Gc Pm Gm G M o) (hc : ∀ j k, Lv G' j k → Pc j k ∧ Gc j k = G' j k) (hm : ∀ j k, Lv G' j k → Pm j k ∧ Gm j k = G' j k) (hg : G' 1 7 = G 1 7 ∧ G' 1 10 = G 1 10 ∧ G' 21 10 = G 21 10 ∧ ∀ x i, G' (50 + x) i = G (50 + x) i) (hw : WF G') : RR M o G' :=
  ⟨⟨h.1, fun j k q => (h.2.1.1 j k (hc j k q).1).trans (hc j k q).2, fun j k q => (h.2.2.1.1 j k (hm j k q).1).trans (hm j k q).2, h.2.2.2.1, h.2.2.2.2.1, h.2.2.2.2.2.fr rfl rfl (fun _ _ => rfl) (fun _ _ _ => rfl) hg⟩, hw⟩
end FR1
/-! ===== guards ===== -/
theorem zb0 : zb 0 = 0 := by decide
theorem zb1 : zb 1 = 1 := by decide
theorem i10 : ¬ (1 : Int32) = 0 := by decide
theorem ad0 {o k : Nat} : (o + k = o) = (k = 0) := propext ⟨fun h => by omega, fun h => by omega⟩
theorem ad1 {o k : Nat} : (o = o + k) = (k = 0) := propext ⟨fun h => by omega, fun h => by omega⟩
theorem rng_lt {p : Int32} {n : Nat} (hn : n < 2 ^ 31) : (∃ c, c < n ∧ p = nI c ∧ fn_X8_isBelow p (nI n) = 1) ∨ (fn_X8_isBelow p (nI n) = 0 ∧ (p < 0 ∨ nI n ≤ p)) := by
  unfold fn_X8_isBelow
  by_cases h : p < 0
  · exact Or.inr ⟨if_pos h, Or.inl h⟩
  · by_cases h2 : nI n ≤ p
    · exact Or.inr ⟨by rw [if_neg h, if_pos h2], Or.inr h2⟩
    · obtain ⟨c, hc, rfl⟩ := nI_of h
      exact Or.inl ⟨c, by rw [nI_leI hn hc] at h2; omega, rfl, by rw [if_neg h, if_neg h2]⟩
theorem in_1 {c n : Nat} (h : c ≤ n) (hn : n < 2 ^ 31) : fn_X9_in (nI c) 0 (nI n) = 1 := by
  unfold fn_X9_in
  rw [if_neg (nI_pos (by omega)), if_neg (nI_nlt h hn)]
theorem upto_1 {c n : Nat} (h : c ≤ n) (hn : n < 2 ^ 31) : fn_X8_isUpTo (nI c) (nI n) = 1 := by
  unfold fn_X8_isUpTo
  rw [if_neg (nI_pos (by omega)), if_neg (nI_nlt h hn)]
theorem out_0 {p : Int32} {n : Nat} (hn : n < 2 ^ 31) (h : p < 0 ∨ nI n ≤ p) (hn0 : 0 < n) : fn_X9_in p 0 (nI (n - 1)) = 0 ∧ fn_X8_isUpTo p (nI (n - 1)) = 0 := by
  have h2 : p < 0 ∨ nI (n - 1) < p := by
    rcases h with h | h
    · exact Or.inl h
    · by_cases h0 : p < 0
      · exact Or.inl h0
      · obtain ⟨c, hc, rfl⟩ := nI_of h0
        rw [nI_leI hn hc] at h
        exact Or.inr (nI_lt (by omega) hc)
  unfold fn_X9_in fn_X8_isUpTo
  rcases h2 with h2 | h2
  · rw [if_pos h2]; exact ⟨rfl, rfl⟩
  · by_cases h3 : p < 0
    · rw [if_pos h3]; exact ⟨rfl, rfl⟩
    · rw [if_neg h3, if_pos h2]; exact ⟨rfl, rfl⟩
/-- p below n, or not: what the guards say -/
theorem rng (p : Int32) (n : Nat) (N N1 : Int32) (h1 : N = nI n) (h2 : N1 = nI (n - 1)) (hn0 : 0 < n) (hn : n < 2 ^ 31) : (∃ c, c < n ∧ p = nI c ∧ fn_X8_isBelow (nI c) N = 1 ∧ fn_X9_in (nI c) 0 N1 = 1 ∧ fn_X8_isUpTo (nI c) N1 = 1) ∨ (fn_X8_isBelow p N = 0 ∧ fn_X9_in p 0 N1 = 0 ∧ fn_X8_isUpTo p N1 = 0) := by
  subst h1 h2
  rcases rng_lt (p := p) hn with ⟨c, hc, rfl, h⟩ | ⟨h, h3⟩
  · exact Or.inl ⟨c, hc, rfl, h, in_1 (by omega) (by omega), upto_1 (by omega) (by omega)⟩
  · exact Or.inr ⟨h, (out_0 hn h3 hn0).1, (out_0 hn h3 hn0).2⟩
theorem rngw (p : Int32) (w : Nat) (hw : w ≤ 5) : (∃ c, c < w ∧ p = nI c ∧ fn_X8_isBelow (nI c) (nI w) = 1 ∧ fn_X9_in (nI c) 0 (nI w - 1) = 1) ∨ (fn_X8_isBelow p (nI w) = 0 ∧ fn_X9_in p 0 (nI w - 1) = 0) := by
  cases w with
  | zero =>
    refine Or.inr ⟨?_, ?_⟩
    · unfold fn_X8_isBelow
      split
      · rfl
      · rename_i h
        obtain ⟨c, hc, rfl⟩ := nI_of h
        rw [if_pos (nI_le (by omega) hc)]
    · unfold fn_X9_in
      split
      · rfl
      · rename_i h
        obtain ⟨c, hc, rfl⟩ := nI_of h
        rw [if_pos]
        show nI 0 - 1 < nI c
        rw [Int32.lt_iff_toInt_lt, nI_toInt hc]
        have : (nI 0 - 1).toInt = -1 := by decide
        omega
  | succ w =>
    rw [nI_pred]
    rcases rng p (w + 1) (nI (w + 1)) (nI w) rfl rfl (by omega) (by omega) with ⟨c, h1, h2, h3, h4, h5⟩ | ⟨h1, h2, h3⟩
    · exact Or.inl ⟨c, h1, h2, h3, h4⟩
    · exact Or.inr ⟨h1, h2⟩
/-! ===== what is in use, after a write ===== -/
section LV1
variable {M : QM} {o : Nat} {G : GG} {j0 k0 : Nat} {v : Int32}
theorem Gu_eq : Gu G j0 k0 v j0 k0 = v := if_pos ⟨rfl, rfl⟩
theorem Gu_ne {j k : Nat} (h : ¬ (j = j0 ∧ k = k0)) : Gu G j0 k0 v j k = G j k := if_neg h
theorem Gu_j {j k : Nat} (h : ¬ j = j0) : Gu G j0 k0 v j k = G j k := if_neg fun q => h q.1
theorem Gu_br (h : j0 < 33) (h2 : ¬ (j0 = 1 ∧ k0 = 7)) (h3 : k0 < dm j0) : Gu G j0 k0 v 1 7 = G 1 7 ∧ Gu G j0 k0 v 1 10 = G 1 10 ∧ Gu G j0 k0 v 21 10 = G 21 10 ∧ ∀ x i, Gu G j0 k0 v (50 + x) i = G (50 + x) i := by
  refine ⟨Gu_ne fun q => h2 ⟨q.1.symm, q.2.symm⟩, Gu_ne fun q => ?_, Gu_ne fun q => ?_, fun x i => Gu_j (by omega)⟩
  · rw [← q.1, ← q.2] at h3; exact absurd h3 (by decide)
  · rw [← q.1, ← q.2] at h3; exact absurd h3 (by decide)
theorem szv_u (h1 : ¬ j0 = 1) (h2 : ¬ j0 = 21) (j : Nat) : szv (Gu G j0 k0 v) j = szv G j := by
  unfold szv gN
  rw [Gu_j (fun q => h1 q.symm), Gu_j (fun q => h2 q.symm)]
/-- components whose values say nothing of what is in use -/
def pl (j : Nat) : Bool := !(j == 1 || j == 21 || j == 9 || j == 29 || j == 6 || j == 26 || j == 15 || j == 16)
theorem pl_n (h : pl j0 = true) : ¬ j0 = 1 ∧ ¬ j0 = 21 ∧ ¬ j0 = 9 ∧ ¬ j0 = 29 ∧ ¬ j0 = 6 ∧ ¬ j0 = 26 ∧ ¬ j0 = 15 ∧ ¬ j0 = 16 := by
  unfold pl at h
  simp only [Bool.not_eq_true', Bool.or_eq_false_iff, beq_eq_false_iff_ne] at h
  omega
theorem Lv_u {j k : Nat} (h : pl j0 = true) : Lv (Gu G j0 k0 v) j k ↔ Lv G j k := by
  have q := pl_n h
  unfold Lv
  rw [szv_u q.1 q.2.1, Gu_j (fun e => q.2.2.1 e.symm), Gu_j (fun e => q.2.2.2.1 e.symm)]
theorem WF_u (hw : WF G) (h : pl j0 = true) (hv : bd v (bo j0 k0)) : WF (Gu G j0 k0 v) := by
  have q := pl_n h
  refine ⟨fun j k hl hj => ?_, ⟨fun k hl => ?_, fun k hl => ?_⟩, fun t ht => ?_⟩
  · by_cases e : j = j0 ∧ k = k0
    · rw [e.1, e.2, Gu_eq]; exact hv
    · rw [Gu_ne e]; exact hw.1 j k ((Lv_u h).mp hl) hj
  · unfold gN
    rw [Gu_j (fun e => q.2.2.2.2.1 e.symm), Gu_j (fun e => q.1 e.symm)]; exact hw.2.1.1 k ((Lv_u h).mp hl)
  · unfold gN
    rw [Gu_j (fun e => q.2.2.2.2.2.1 e.symm), Gu_j (fun e => q.2.1 e.symm)]; exact hw.2.1.2 k ((Lv_u h).mp hl)
  · rw [Gu_j (fun e => q.2.2.2.2.2.2.1 e.symm), Gu_j (fun e => q.2.2.2.2.2.2.2 e.symm)]; exact hw.2.2 t ht
/-- one value written on both sides -/
theorem RR.put {M' : QM} (hw : WF G) (h : RX (Pu (Lv G) j0 k0) (Gu G j0 k0 v) (Pu (Lv G) j0 k0) (Gu G j0 k0 v) G M' o) (hp : pl j0 = true) (hk : k0 < dm j0) (hv : bd v (bo j0 k0)) : RR M' o (Gu G j0 k0 v) :=
  h.fin (fun j k q => ⟨Or.inr ((Lv_u hp).mp q), rfl⟩) (fun j k q => ⟨Or.inr ((Lv_u hp).mp q), rfl⟩) (Gu_br (dm_lt hk) (fun q => (pl_n hp).1 q.1) hk) (WF_u hw hp hv)
/-! reading -/
theorem RR.c {j k a i : Nat} (h : RR M o G) (hl : Lv G j k) (e : cL j k = (a, i)) : mI M (o + a) i = G j k := by
  have := h.1.2.1 j k hl
  rw [e] at this
  exact this
theorem RR.m {j k a i : Nat} (h : RR M o G) (hl : Lv G j k) (e : mL j k = (a, i)) : mI M (o + a) i = G j k := by
  have := h.1.2.2.1 j k hl
  rw [e] at this
  exact this
theorem Lv_0 {j k : Nat} (h : k < dm j) (h2 : szT.getD j 0 = 0) (h3 : k < 1000) (h4 : ¬ j = 5 ∧ ¬ j = 25 ∧ ¬ j = 10 ∧ ¬ j = 30) : Lv G j k := by
  refine ⟨h, ?_, fun e => absurd e h4.2.2.1, fun e => absurd e h4.2.2.2⟩
  unfold szv kk4
  rw [if_pos h2, if_neg (by omega)]; exact h3
theorem RR.walk (h : RR M o G) : ∃ w, w ≤ 5 ∧ G 1 1 = nI w ∧ gN G 1 1 = w := by
  obtain ⟨w, h1, h2⟩ := h.2.1 1 1 (Lv_0 (by decide) (by decide) (by decide) (by decide)) (by decide)
  have h1' : w ≤ 5 := h1
  exact ⟨w, h1', h2, by unfold gN; rw [h2, nI_clamp (by omega)]⟩
end LV1
