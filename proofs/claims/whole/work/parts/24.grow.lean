/-! ===== rows that grow, rows that are emptied ===== -/
section GR1
variable {M M' : QM} {o : Nat} {G Gk : GG}
theorem Lv_1 {i : Nat} (hi : i < 10) : Lv G 1 i := Lv_0 (by show i < 10; exact hi) (by decide) (by omega) (by decide)
theorem Lv_21 {i : Nat} (hi : i < 6) : Lv G 21 i := Lv_0 (by show i < 6; exact hi) (by decide) (by omega) (by decide)
theorem WF.sc (h : WF G) (i : Nat) (hi : i < 10) : ∃ n, n ≤ b1T.getD i 0 ∧ G 1 i = nI n ∧ gN G 1 i = n := by
  obtain ⟨n, h1, h2⟩ := h.1 1 i (Lv_1 hi) (by decide)
  have h3 : n ≤ b1T.getD i 0 := h1
  have h4 : b1T.getD i 0 ≤ 65535 := (by decide : ∀ i, i < 10 → b1T.getD i 0 ≤ 65535) i hi
  exact ⟨n, h3, h2, by unfold gN; rw [h2, nI_clamp (by omega)]⟩
theorem WF.sk (h : WF G) (i : Nat) (hi : i < 6) : ∃ n, n ≤ b1T.getD i 0 ∧ G 21 i = nI n ∧ gN G 21 i = n := by
  obtain ⟨n, h1, h2⟩ := h.1 21 i (Lv_21 hi) (by decide)
  have h3 : n ≤ b1T.getD i 0 := h1
  have h4 : b1T.getD i 0 ≤ 65535 := (by decide : ∀ i, i < 6 → b1T.getD i 0 ≤ 65535) i hi
  exact ⟨n, h3, h2, by unfold gN; rw [h2, nI_clamp (by omega)]⟩
/-- in use, in a row with a size of its own -/
theorem Lv_s {j k i n : Nat} (h : k < dm j) (h2 : szT.getD j 0 = i + 1) (hi : 1 ≤ i ∧ i < 10) (hn : gN G 1 i = n) (h3 : kk4 j k < n) (h4 : ¬ j = 10 ∧ ¬ j = 30) : Lv G j k := by
  refine ⟨h, ?_, fun e => absurd e h4.1, fun e => absurd e h4.2⟩
  unfold szv
  rw [h2, if_neg (by omega), if_pos (by omega), Nat.add_sub_cancel, hn]
  exact h3
theorem sz_u {i : Nat} {v : Int32} (hi : i < 10) (hk : ∀ x, ¬ x = i → x < 10 → Gk 1 x = G 1 x) (hk2 : ∀ x, x < 6 → Gk 21 x = G 21 x) (j : Nat) (hj : j < 33) : szv (Gu Gk 1 i v) j = if szT.getD j 0 = i + 1 then v.toNatClampNeg else szv G j := by
  have hs : szT.getD j 0 ≤ 16 ∧ ¬ szT.getD j 0 = 1 := (by decide : ∀ j, j < 33 → szT.getD j 0 ≤ 16 ∧ ¬ szT.getD j 0 = 1) j hj
  unfold szv gN
  by_cases h0 : szT.getD j 0 = 0
  · rw [if_pos h0, if_neg (by omega), if_pos h0]
  · rw [if_neg h0, if_neg h0]
    by_cases h1 : szT.getD j 0 = i + 1
    · rw [if_pos h1, if_pos (by omega), h1, Nat.add_sub_cancel, Gu_eq]
    · rw [if_neg h1]
      by_cases h2 : szT.getD j 0 ≤ 10
      · rw [if_pos h2, if_pos h2, Gu_ne (by omega), hk _ (by omega) (by omega)]
      · rw [if_neg h2, if_neg h2, Gu_j (by decide), hk2 _ (by omega)]
theorem szv_at {j i : Nat} (hi : 1 ≤ i ∧ i < 10) (h : szT.getD j 0 = i + 1) : szv G j = gN G 1 i := by
  unfold szv
  rw [h, if_neg (by omega), if_pos (by omega), Nat.add_sub_cancel]
theorem szv_at2 {j i : Nat} (hi : 1 ≤ i) (h : szT.getD j 0 = 11 + i) : szv G j = gN G 21 i := by
  unfold szv
  rw [h, if_neg (by omega), if_neg (by omega), Nat.add_sub_cancel_left]
/-- what is in use, after the size i has become v, if nothing in use has changed -/
theorem Lv_sz {i m : Nat} {v : Int32} (hi : 1 ≤ i ∧ i < 10) (hm : v.toNatClampNeg = m) (hk : ∀ j k, Lv G j k → Gk j k = G j k) {j k : Nat} (h : Lv (Gu Gk 1 i v) j k) : Lv G j k ∨ (szT.getD j 0 = i + 1 ∧ kk4 j k < m ∧ gN G 1 i ≤ kk4 j k ∧ (j = 10 → ¬ Gk 9 k = 0)) := by
  have hj := dm_lt h.1
  obtain ⟨h1, h2, h3, h4⟩ := h
  rw [sz_u (G := G) hi.2 (fun x _ hx => hk 1 x (Lv_1 hx)) (fun x hx => hk 21 x (Lv_21 hx)) j hj] at h2
  have e30 : j = 30 → kk4 j k < szv G j → ¬ G 29 k = 0 := by
    intro e hlt
    have h4' := h4 e
    subst e
    have hz : szv G 30 = gN G 21 4 := szv_at2 (by decide) (by decide)
    rw [hz] at hlt
    have : Lv G 29 k := ⟨h1, by rw [szv_at2 (i := 4) (by decide) (by decide)]; exact hlt, fun e => absurd e (by decide), fun e => absurd e (by decide)⟩
    rw [Gu_j (by decide), hk 29 k this] at h4'
    exact h4'
  have e10 : j = 10 → kk4 j k < gN G 1 4 → ¬ G 9 k = 0 := by
    intro e hlt
    have h3' := h3 e
    subst e
    have : Lv G 9 k := ⟨h1, by rw [szv_at (i := 4) (by decide) (by decide)]; exact hlt, fun e => absurd e (by decide), fun e => absurd e (by decide)⟩
    rw [Gu_j (by decide), hk 9 k this] at h3'
    exact h3'
  by_cases hs : szT.getD j 0 = i + 1
  · rw [if_pos hs, hm] at h2
    by_cases hl : kk4 j k < gN G 1 i
    · refine Or.inl ⟨h1, by rw [szv_at hi hs]; exact hl, fun e => e10 e ?_, fun e => e30 e (by rw [szv_at hi hs]; exact hl)⟩
      have : i = 4 := by subst e; have : szT.getD 10 0 = 5 := by decide
                         omega
      subst this; exact hl
    · exact Or.inr ⟨hs, h2, by omega, fun e => by have := h3 e; rw [Gu_j (by decide)] at this; exact this⟩
  · rw [if_neg hs] at h2
    refine Or.inl ⟨h1, h2, fun e => e10 e ?_, fun e => e30 e h2⟩
    have : szv G j = gN G 1 4 := by subst e; exact szv_at (by decide) (by decide)
    omega
theorem RR.app {i n : Nat} {Pk : Nat → Nat → Prop} (hw : WF G) (hi : (1 ≤ i ∧ i < 10) ∧ ¬ i = 7) (hn : G 1 i = nI n) (hn2 : n + 1 ≤ b1T.getD i 0) (hx : RX (Pu Pk 1 i) (Gu Gk 1 i (nI (n + 1))) (Pu Pk 1 i) (Gu Gk 1 i (nI (n + 1))) G M o) (hk : ∀ j k, Lv G j k → Pk j k ∧ Gk j k = G j k)
    (hnew : ∀ j k, szT.getD j 0 = i + 1 → k < dm j → kk4 j k = n → (j = 10 → ¬ Gk 9 k = 0) → Pk j k ∧ bd (Gk j k) (bo j k)) (h6 : i = 3 → gN Gk 6 n < gN G 1 1)
    (hbr : Gk 1 7 = G 1 7 ∧ Gk 1 10 = G 1 10 ∧ Gk 21 10 = G 21 10 ∧ ∀ x i, Gk (50 + x) i = G (50 + x) i) : RR M o (Gu Gk 1 i (nI (n + 1))) := by
  have hb : b1T.getD i 0 ≤ 65535 := (by decide : ∀ i, i < 10 → b1T.getD i 0 ≤ 65535) i hi.1.2
  have hm : (nI (n + 1)).toNatClampNeg = n + 1 := nI_clamp (by omega)
  have hgn : gN G 1 i = n := by unfold gN; rw [hn, nI_clamp (by omega)]
  have key : ∀ j k, Lv (Gu Gk 1 i (nI (n + 1))) j k → Lv G j k ∨ (szT.getD j 0 = i + 1 ∧ kk4 j k = n ∧ (j = 10 → ¬ Gk 9 k = 0)) := by
    intro j k h
    rcases Lv_sz hi.1 hm (fun j k q => (hk j k q).2) h with q | ⟨q1, q2, q3, q4⟩
    · exact Or.inl q
    · exact Or.inr ⟨q1, by omega, q4⟩
  have hP : ∀ j k, Lv (Gu Gk 1 i (nI (n + 1))) j k → Pu Pk 1 i j k ∧ Gu Gk 1 i (nI (n + 1)) j k = Gu Gk 1 i (nI (n + 1)) j k := by
    intro j k h
    refine ⟨?_, rfl⟩
    rcases key j k h with q | ⟨q1, q2, q3⟩
    · exact Or.inr (hk j k q).1
    · exact Or.inr (hnew j k q1 h.1 q2 q3).1
  refine hx.fin hP hP ?_ ?_
  · refine ⟨?_, ?_, ?_, ?_⟩
    · rw [Gu_ne (by omega)]; exact hbr.1
    · rw [Gu_ne (by omega)]; exact hbr.2.1
    · rw [Gu_j (by decide)]; exact hbr.2.2.1
    · intro x y; rw [Gu_j (by omega)]; exact hbr.2.2.2 x y
  · have h11 : gN G 1 1 ≤ gN (Gu Gk 1 i (nI (n + 1))) 1 1 := by
      by_cases e : i = 1
      · subst e
        rw [hgn]; unfold gN; rw [Gu_eq, hm]; omega
      · unfold gN; rw [Gu_ne (by omega), (hk 1 1 (Lv_1 (by decide))).2]; exact Nat.le_refl _
    refine ⟨fun j k h hj => ?_, ⟨fun k h => ?_, fun k h => ?_⟩, fun t ht => ?_⟩
    · by_cases e : j = 1 ∧ k = i
      · rw [e.1, e.2, Gu_eq]; exact bd_nI hn2
      · rw [Gu_ne e]
        rcases key j k h with q | ⟨q1, q2, q3⟩
        · rw [(hk j k q).2]; exact hw.1 j k q hj
        · exact (hnew j k q1 h.1 q2 q3).2
    · refine Nat.lt_of_lt_of_le ?_ h11
      have e6 : gN (Gu Gk 1 i (nI (n + 1))) 6 k = gN Gk 6 k := by unfold gN; rw [Gu_j (by decide)]
      rw [e6]
      rcases key 6 k h with q | ⟨q1, q2, q3⟩
      · unfold gN; rw [(hk 6 k q).2]; exact hw.2.1.1 k q
      · have e3 : i = 3 := by have : szT.getD 6 0 = 4 := by decide
                              omega
        have : k = n := q2
        subst this
        exact h6 e3
    · have e6 : gN (Gu Gk 1 i (nI (n + 1))) 26 k = gN Gk 26 k := by unfold gN; rw [Gu_j (by decide)]
      have e7 : gN (Gu Gk 1 i (nI (n + 1))) 21 1 = gN G 21 1 := by unfold gN; rw [Gu_j (by decide), (hk 21 1 (Lv_21 (by decide))).2]
      rw [e6, e7]
      rcases key 26 k h with q | ⟨q1, q2, q3⟩
      · unfold gN; rw [(hk 26 k q).2]; exact hw.2.1.2 k q
      · exfalso
        have : szT.getD 26 0 = 14 := by decide
        omega
    · have l15 : Lv G 15 t := Lv_0 ht (by decide) (by omega) (by decide)
      have l16 : Lv G 16 t := Lv_0 ht (by decide) (by omega) (by decide)
      rw [Gu_j (by decide), Gu_j (by decide), (hk 15 t l15).2, (hk 16 t l16).2]
      exact hw.2.2 t ht
/-- a row is emptied -/
theorem RR.emp {i : Nat} (hw : WF G) (hi : (1 ≤ i ∧ i < 10) ∧ ¬ i = 7 ∧ ¬ i = 1) (hx : RX (Pu (Lv G) 1 i) (Gu G 1 i 0) (Pu (Lv G) 1 i) (Gu G 1 i 0) G M o) : RR M o (Gu G 1 i 0) := by
  have key : ∀ j k, Lv (Gu G 1 i 0) j k → Lv G j k := by
    intro j k h
    rcases Lv_sz (m := 0) hi.1 (by decide) (fun j k q => rfl) h with q | ⟨q1, q2, q3, q4⟩
    · exact q
    · omega
  have hP : ∀ j k, Lv (Gu G 1 i 0) j k → Pu (Lv G) 1 i j k ∧ Gu G 1 i 0 j k = Gu G 1 i 0 j k := fun j k h => ⟨Or.inr (key j k h), rfl⟩
  refine hx.fin hP hP ?_ ?_
  · refine ⟨?_, ?_, ?_, ?_⟩
    · rw [Gu_ne (by omega)]
    · rw [Gu_ne (by omega)]
    · rw [Gu_j (by decide)]
    · intro x y; rw [Gu_j (by omega)]
  · refine ⟨fun j k h hj => ?_, ⟨fun k h => ?_, fun k h => ?_⟩, fun t ht => ?_⟩
    · by_cases e : j = 1 ∧ k = i
      · rw [e.1, e.2, Gu_eq]; exact bd_nI (k := 0) (by omega)
      · rw [Gu_ne e]; exact hw.1 j k (key j k h) hj
    · unfold gN; rw [Gu_j (by decide), Gu_ne (by omega)]; exact hw.2.1.1 k (key 6 k h)
    · unfold gN; rw [Gu_j (by decide), Gu_j (by decide)]; exact hw.2.1.2 k (key 26 k h)
    · rw [Gu_j (by decide), Gu_j (by decide)]; exact hw.2.2 t ht
end GR1
