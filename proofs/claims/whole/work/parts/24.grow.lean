/-! ===== rows that grow, rows that are emptied ===== -/
section GR1
variable {M M' : QM} {o : Nat} {G Gk : GG}
theorem Lv_1 {i : Nat} (hi : i < 10) : Lv G 1 i := Lv_0 (by show i < 10; exact hi) (by decide) (by omega) (by decide)
theorem Lv_21 {i : Nat} (hi : i < 6) : Lv G 21 i := Lv_0 (by show i < 6; exact hi) (by decide) (by omega) (by decide)
theorem WF.sc (h : WF G) (i : Nat) (hi : i < 10) : ∃ n, n ≤ b1T.getD i 0 ∧ G 1 i = nI n ∧ gN G 1 i = n := by
  obtain ⟨n, h1, h2⟩ := h.1 1 i (Lv_1 hi) (by decide)
  have h3 : n ≤ b1T.getD i 0 := h1
  have h4 : b1T.getD i 0 ≤ 65535 := (by decide : ∀ i, i < 10 → b1T.getD i 0 ≤ 65535) i hi
  exact ⟨n, h3, h2, by unfold gN; rw [h2, nI_clamp (by omega)]⟩
theorem WF.sk (h : WF G) (i : Nat) (hi : i < 6) : ∃ n, n ≤ b1T.getD i 0 ∧ G 21 i = nI n ∧ gN G 21 i = n := by
  obtain ⟨n, h1, h2⟩ := h.1 21 i (Lv_21 hi) (by decide)
  have h3 : n ≤ b1T.getD i 0 := h1
  have h4 : b1T.getD i 0 ≤ 65535 := (by decide : ∀ i, i < 6 → b1T.getD i 0 ≤ 65535) i hi
  exact ⟨n, h3, h2, by unfold gN; rw [h2, nI_clamp (by omega)]⟩
/-- in use, in a row with a size of its own -/
theorem Lv_s {j k i n : Nat} (h : k < dm j) (h2 : szT.getD j 0 = i + 1) (hi : 1 ≤ i ∧ i < 10) (hn : gN G 1 i = n) (h3 : kk4 j k < n) (h4 : ¬ j = 10 ∧ ¬ j = 30) : Lv G j k := by
  refine ⟨h, ?_, fun e => absurd e h4.1, fun e => absurd e h4.2⟩
  unfold szv
  rw [h2, if_neg (by omega), if_pos (by omega), Nat.add_sub_cancel, hn]
  exact h3
theorem sz_u {i : Nat} {v : Int32} (hi : i < 10) (hk : ∀ x, ¬ x = i → x < 10 → Gk 1 x = G 1 x) (hk2 : ∀ x, x < 6 → Gk 21 x = G 21 x) (j : Nat) (hj : j < 33) : szv (Gu Gk 1 i v) j = if szT.getD j 0 = i + 1 then v.toNatClampNeg else szv G j := by
  have hs : szT.getD j 0 ≤ 16 ∧ ¬ szT.getD j 0 = 1 := (by decide : ∀ j, j < 33 → szT.getD j 0 ≤ 16 ∧ ¬ szT.getD j 0 = 1) j hj
  unfold szv gN
  by_cases h0 : szT.getD j 0 = 0
  · rw [if_pos h0, if_neg (by omega), if_pos h0]
  · rw [if_neg h0, if_neg h0]
    by_cases h1 : szT.getD j 0 = i + 1
    · rw [if_pos h1, if_pos (by omega), h1, Nat.add_sub_cancel, Gu_eq]
    · rw [if_neg h1]
      by_cases h2 : szT.getD j 0 ≤ 10
      · rw [if_pos h2, if_pos h2, Gu_ne (by omega), hk _ (by omega) (by omega)]
      · rw [if_neg h2, if_neg h2, Gu_j (by decide), hk2 _ (by omega)]
theorem szv_at {j i : Nat} (hi : 1 ≤ i ∧ i < 10) (h : szT.getD j 0 = i + 1) : szv G j = gN G 1 i := by
  unfold szv
  rw [h, if_neg (by omega), if_pos (by omega), Nat.add_sub_cancel]
theorem szv_at2 {j i : Nat} (hi : 1 ≤ i) (h : szT.getD j 0 = 11 + i) : szv G j = gN G 21 i := by
  unfold szv
  rw [h, if_neg (by omega), if_neg (by omega), Nat.add_sub_cancel_left]
/-- what is in use, after the size i has become v, if nothing in use has changed -/
theorem Lv_sz {i m : Nat} {v : Int32} (hi : 1 ≤ i ∧ i < 10) (hm : v.toNatClampNeg = m) (hk : ∀ j k, Lv G j k → Gk j k = G j k) {j k : Nat} (h : Lv (Gu Gk 1 i v) j k) : Lv G j k ∨ (szT.getD j 0 = i + 1 ∧ kk4 j k < m ∧ gN G 1 i ≤ kk4 j k ∧ (j = 10 → ¬ Gk 9 k = 0)) := by
  have hj := dm_lt h.1
  obtain ⟨h1, h2, h3, h4⟩ := h
  rw [sz_u (G := G) hi.2 (fun x _ hx => hk 1 x (Lv_1 hx)) (fun x hx => hk 21 x (Lv_21 hx)) j hj] at h2
  have e30 : j = 30 → kk4 j k < szv G j → ¬ G 29 k = 0 := by
    intro e hlt
    have h4' := h4 e
    subst e
    have hz : szv G 30 = gN G 21 4 := szv_at2 (by decide) (by decide)
    rw [hz] at hlt
    have : Lv G 29 k := ⟨h1, by rw [szv_at2 (i := 4) (by decide) (by decide)]; exact hlt, fun e => absurd e (by decide), fun e => absurd e (by decide)⟩
    rw [Gu_j (by decide), hk 29 k this] at h4'
    exact h4'
  have e10 : j = 10 → kk4 j k < gN G 1 4 → ¬ G 9 k = 0 := by
    intro e hlt
    have h3' := h3 e
    subst e
    have : Lv G 9 k := ⟨h1, by rw [szv_at (i := 4) (by decide) (by decide)]; exact hlt, fun e => absurd e (by decide), fun e => absurd e (by decide)⟩
    rw [Gu_j (by decide), hk 9 k this] at h3'
    exact h3'
  by_cases hs : szT.getD j 0 = i + 1
  · rw [if_pos hs, hm] at h2
    by_cases hl : kk4 j k < gN G 1 i
    · refine Or.inl ⟨h1, by rw [szv_at hi hs]; exact hl, fun e => e10 e ?_, fun e => e30 e (by rw [szv_at hi hs]; exact hl)⟩
      have : i = 4 := by subst e; have : szT.getD 10 0 = 5 := by decide
                         omega
      subst this; exact hl
    · exact Or.inr ⟨hs, h2, by omega, fun e => by have := h3 e; rw [Gu_j (by decide)] at this; exact this⟩
  · rw [if_neg hs] at h2
    refine Or.inl ⟨h1, h2, fun e => e10 e ?_, fun e => e30 e h2⟩
    have : szv G j = gN G 1 4 := by subst e; exact szv_at (by decide) (by decide)
    omega
theorem RR.app {i n : Nat} {Pk : Nat → Nat → Prop} (hw : WF G) (hi : (1 ≤ i ∧ i < 10) ∧ ¬ i = 7) (hn : G 1 i = nI n) (hn2 : n + 1 ≤ b1T.getD i 0) (hx : RX (Pu Pk 1 i) (Gu Gk 1 i (nI (n + 1))) (Pu Pk 1 i) (Gu Gk 1 i (nI (n + 1))) G M o) (hk : ∀ j k, Lv G j k → Pk j k ∧ Gk j k = G j k)
    (hnew : ∀ j k, szT.getD j 0 = i + 1 → k < dm j → kk4 j k = n → (j = 10 → ¬ Gk 9 k = 0) → Pk j k ∧ bd (Gk j k) (bo j k)) (h6 : i = 3 → gN Gk 6 n < gN G 1 1)
    (hbr : Gk 1 7 = G 1 7 ∧ Gk 1 10 = G 1 10 ∧ Gk 21 10 = G 21 10 ∧ ∀ x i, Gk (50 + x) i = G (50 + x) i) : RR M o (Gu Gk 1 i (nI (n + 1))) := by
  have hb : b1T.getD i 0 ≤ 65535 := (by decide : ∀ i, i < 10 → b1T.getD i 0 ≤ 65535) i hi.1.2
  have hm : (nI (n + 1)).toNatClampNeg = n + 1 := nI_clamp (by omega)
  have hgn : gN G 1 i = n := by unfold gN; rw [hn, nI_clamp (by omega)]
  have key : ∀ j k, Lv (Gu Gk 1 i (nI (n + 1))) j k → Lv G j k ∨ (szT.getD j 0 = i + 1 ∧ kk4 j k = n ∧ (j = 10 → ¬ Gk 9 k = 0)) := by
    intro j k h
    rcases Lv_sz hi.1 hm (fun j k q => (hk j k q).2) h with q | ⟨q1, q2, q3, q4⟩
    · exact Or.inl q
    · exact Or.inr ⟨q1, by omega, q4⟩
  have hP : ∀ j k, Lv (Gu Gk 1 i (nI (n + 1))) j k → Pu Pk 1 i j k ∧ Gu Gk 1 i (nI (n + 1)) j k = Gu Gk 1 i (nI (n + 1)) j k := by
    intro j k h
    refine ⟨?_, rfl⟩
    rcases key j k h with q | ⟨q1, q2, q3⟩
    · exact Or.inr (hk j k q).1
    · exact Or.inr (hnew j k q1 h.1 q2 q3).1
  refine hx.fin hP hP ?_ ?_
  · refine ⟨?_, ?_, ?_, ?_⟩
    · rw [Gu_ne (by omega)]; exact hbr.1
    · rw [Gu_ne (by omega)]; exact hbr.2.1
    · rw [Gu_j (by decide)]; exact hbr.2.2.1
    · intro x y; rw [Gu_j (by omega)]; exact hbr.2.2.2 x y
  · have h11 : gN G 1 1 ≤ gN (Gu Gk 1 i (nI (n + 1))) 1 1 := by
      by_cases e : i = 1
      · subst e
        rw [hgn]; unfold gN; rw [Gu_eq, hm]; omega
      · unfold gN; rw [Gu_ne (by omega), (hk 1 1 (Lv_1 (by decide))).2]; exact Nat.le_refl _
    refine ⟨fun j k h hj => ?_, ⟨fun k h => ?_, fun k h => ?_⟩, fun t ht => ?_⟩
    · by_cases e : j = 1 ∧ k = i
      · rw [e.1, e.2, Gu_eq]; exact bd_nI hn2
      · rw [Gu_ne e]
        rcases key j k h with q | ⟨q1, q2, q3⟩
        · rw [(hk j k q).2]; exact hw.1 j k q hj
        · exact (hnew j k q1 h.1 q2 q3).2
    · refine Nat.lt_of_lt_of_le ?_ h11
      have e6 : gN (Gu Gk 1 i (nI (n + 1))) 6 k = gN Gk 6 k := by unfold gN; rw [Gu_j (by decide)]
      rw [e6]
      rcases key 6 k h with q | ⟨q1, q2, q3⟩
      · unfold gN; rw [(hk 6 k q).2]; exact hw.2.1.1 k q
      · have e3 : i = 3 := by have : szT.getD 6 0 = 4 := by decide
                              omega
        have : k = n := q2
        subst this
        exact h6 e3
    · have e6 : gN (Gu Gk 1 i (nI (n + 1))) 26 k = gN Gk 26 k := by unfold gN; rw [Gu_j (by decide)]
      have e7 : gN (Gu Gk 1 i (nI (n + 1))) 21 1 = gN G 21 1 := by unfold gN; rw [Gu_j (by decide), (hk 21 1 (Lv_21 (by decide))).2]
      rw [e6, e7]
      rcases key 26 k h with q | ⟨q1, q2, q3⟩
      · unfold gN; rw [(hk 26 k q).2]; exact hw.2.1.2 k q
      · exfalso
        have : szT.getD 26 0 = 14 := by decide
        omega
    · have l15 : Lv G 15 t := Lv_0 ht (by decide) (by omega) (by decide)
      have l16 : Lv G 16 t := Lv_0 ht (by decide) (by omega) (by decide)
      rw [Gu_j (by decide), Gu_j (by decide), (hk 15 t l15).2, (hk 16 t l16).2]
      exact hw.2.2 t ht
/-- a row is emptied -/
theorem RR.emp {i : Nat} (hw : WF G) (hi : (1 ≤ i ∧ i < 10) ∧ ¬ i = 7 ∧ ¬ i = 1) (hx : RX (Pu (Lv G) 1 i) (Gu G 1 i 0) (Pu (Lv G) 1 i) (Gu G 1 i 0) G M o) : RR M o (Gu G 1 i 0) := by
  have key : ∀ j k, Lv (Gu G 1 i 0) j k → Lv G j k := by
    intro j k h
    rcases Lv_sz (m := 0) hi.1 (by decide) (fun j k q => rfl) h with q | ⟨q1, q2, q3, q4⟩
    · exact q
    · omega
  have hP : ∀ j k, Lv (Gu G 1 i 0) j k → Pu (Lv G) 1 i j k ∧ Gu G 1 i 0 j k = Gu G 1 i 0 j k := fun j k h => ⟨Or.inr (key j k h), rfl⟩
  refine hx.fin hP hP ?_ ?_
  · refine ⟨?_, ?_, ?_, ?_⟩
    · rw [Gu_ne (by omega)]
    · rw [Gu_ne (by omega)]
    · rw [Gu_j (by decide)]
    · intro x y; rw [Gu_j (by omega)]
  · refine ⟨fun j k h hj => ?_, ⟨fun k h => ?_, fun k h => ?_⟩, fun t ht => ?_⟩
    · by_cases e : j = 1 ∧ k = i
      · rw [e.1, e.2, Gu_eq]; exact bd_nI (k := 0) (by omega)
      · rw [Gu_ne e]; exact hw.1 j k (key j k h) hj
    · unfold gN; rw [Gu_j (by decide), Gu_ne (by omega)]; exact hw.2.1.1 k (key 6 k h)
    · unfold gN; rw [Gu_j (by decide), Gu_j (by decide)]; exact hw.2.1.2 k (key 26 k h)
    · rw [Gu_j (by decide), Gu_j (by decide)]; exact hw.2.2 t ht
theorem Gu_comm {j k j' k' : Nat} {x y : Int32} (h : ¬ (j = j' ∧ k = k')) : Gu (Gu G j k x) j' k' y = Gu (Gu G j' k' y) j k x := by
  funext a b
  by_cases h1 : a = j ∧ b = k
  · rw [Gu_ne (fun e => h ⟨h1.1.symm.trans e.1, h1.2.symm.trans e.2⟩), h1.1, h1.2, Gu_eq, Gu_eq]
  · rw [Gu_ne (j0 := j) h1]
    by_cases h2 : a = j' ∧ b = k'
    · rw [h2.1, h2.2, Gu_eq, Gu_eq]
    · rw [Gu_ne h2, Gu_ne h2, Gu_ne h1]
theorem Pu_comm {P : Nat → Nat → Prop} {j k j' k' : Nat} : Pu (Pu P j k) j' k' = Pu (Pu P j' k') j k := by
  funext a b
  exact propext ⟨fun h => by rcases h with h | h | h; exact Or.inr (Or.inl h); exact Or.inl h; exact Or.inr (Or.inr h), fun h => by rcases h with h | h | h; exact Or.inr (Or.inl h); exact Or.inl h; exact Or.inr (Or.inr h)⟩
/-- a scalar that is no size -/
theorem RR.put1 {i : Nat} {v : Int32} (hw : WF G) (h : RX (Pu (Lv G) 1 i) (Gu G 1 i v) (Pu (Lv G) 1 i) (Gu G 1 i v) G M o) (hi : i = 0 ∨ i = 2 ∨ i = 6) (hv : bd v (bo 1 i)) : RR M o (Gu G 1 i v) := by
  have hs : ∀ j, j < 33 → ¬ szT.getD j 0 = i + 1 := by
    rcases hi with rfl | rfl | rfl <;> decide
  have hi7 : i < 10 ∧ ¬ i = 7 ∧ ¬ i = 1 := by omega
  have key : ∀ j k, Lv (Gu G 1 i v) j k → Lv G j k := by
    intro j k hl
    have hj := dm_lt hl.1
    obtain ⟨h1, h2, h3, h4⟩ := hl
    rw [sz_u (G := G) hi7.1 (fun _ _ _ => rfl) (fun _ _ => rfl) j hj, if_neg (hs j hj)] at h2
    exact ⟨h1, h2, fun e => by have := h3 e; rw [Gu_j (by decide)] at this; exact this, fun e => by have := h4 e; rw [Gu_j (by decide)] at this; exact this⟩
  have hP : ∀ j k, Lv (Gu G 1 i v) j k → Pu (Lv G) 1 i j k ∧ Gu G 1 i v j k = Gu G 1 i v j k := fun j k q => ⟨Or.inr (key j k q), rfl⟩
  refine h.fin hP hP (Gu_br (by decide) (by omega) hi7.1) ?_
  refine ⟨fun j k hl hj => ?_, ⟨fun k hl => ?_, fun k hl => ?_⟩, fun t ht => ?_⟩
  · by_cases e : j = 1 ∧ k = i
    · rw [e.1, e.2, Gu_eq]; exact hv
    · rw [Gu_ne e]; exact hw.1 j k (key j k hl) hj
  · unfold gN; rw [Gu_j (by decide), Gu_ne (by omega)]; exact hw.2.1.1 k (key 6 k hl)
  · unfold gN; rw [Gu_j (by decide), Gu_j (by decide)]; exact hw.2.1.2 k (key 26 k hl)
  · rw [Gu_j (by decide), Gu_j (by decide)]; exact hw.2.2 t ht
/-- a tape's sort and size -/
theorem RR.tp {t : Nat} {s v : Int32} (hw : WF G) (h : RX (Pu (Pu (Lv G) 15 t) 16 t) (Gu (Gu G 15 t s) 16 t v) (Pu (Pu (Lv G) 15 t) 16 t) (Gu (Gu G 15 t s) 16 t v) G M o) (ht : t < 6) (hs : (s = -1 ∧ v = 0) ∨ (¬ s = -1 ∧ bd s 4 ∧ bd v 60)) : RR M o (Gu (Gu G 15 t s) 16 t v) := by
  have key : ∀ j k, Lv (Gu (Gu G 15 t s) 16 t v) j k ↔ Lv G j k := by
    intro j k
    unfold Lv
    rw [szv_u (by decide) (by decide), szv_u (by decide) (by decide), Gu_j (by decide), Gu_j (by decide), Gu_j (by decide), Gu_j (by decide)]
  have hP : ∀ j k, Lv (Gu (Gu G 15 t s) 16 t v) j k → Pu (Pu (Lv G) 15 t) 16 t j k ∧ Gu (Gu G 15 t s) 16 t v j k = Gu (Gu G 15 t s) 16 t v j k := fun j k q => ⟨Or.inr (Or.inr ((key j k).mp q)), rfl⟩
  refine h.fin hP hP ⟨?_, ?_, ?_, fun x i => ?_⟩ ?_
  · rw [Gu_j (by decide), Gu_j (by decide)]
  · rw [Gu_j (by decide), Gu_j (by decide)]
  · rw [Gu_j (by decide), Gu_j (by decide)]
  · rw [Gu_j (by omega), Gu_j (by omega)]
  refine ⟨fun j k hl hj => ?_, ⟨fun k hl => ?_, fun k hl => ?_⟩, fun t' ht' => ?_⟩
  · by_cases e : j = 16 ∧ k = t
    · rw [e.1, e.2, Gu_eq]
      rcases hs with hs | hs
      · rw [hs.2]; exact bd_nI (k := 0) (by omega)
      · exact hs.2.2
    · rw [Gu_ne e, Gu_j hj]; exact hw.1 j k ((key j k).mp hl) hj
  · unfold gN; rw [Gu_j (by decide), Gu_j (by decide), Gu_j (by decide), Gu_j (by decide)]; exact hw.2.1.1 k ((key 6 k).mp hl)
  · unfold gN; rw [Gu_j (by decide), Gu_j (by decide), Gu_j (by decide), Gu_j (by decide)]; exact hw.2.1.2 k ((key 26 k).mp hl)
  · rw [Gu_j (j0 := 16) (by decide)]
    by_cases e : t' = t
    · subst e
      rw [Gu_eq, Gu_eq]
      rcases hs with ⟨hs, hv⟩ | ⟨hs, hs2, -⟩
      · exact ⟨Or.inl hs, fun _ => hv⟩
      · exact ⟨Or.inr hs2, fun e => absurd e hs⟩
    · rw [Gu_ne (fun q => e q.2), Gu_ne (fun q => e q.2), Gu_j (by decide)]
      exact hw.2.2 t' ht'
theorem RX.j {Pc Pm : Nat → Nat → Prop} {Gc Gm : GG} (h : RX Pc Gc Pm Gm G M o) (h1 : M'.1 = M.1) (h2 : M'.2.1 = M.2.1) (h3 : ∀ a k, mP M' a k = mP M a k) (h4 : ∀ a k, mI M' a k = mI M a k) (h5 : TAP M' o) : RX Pc Gc Pm Gm G M' o :=
  ⟨h.1.eq h2 h3, ⟨RD_far h.2.1.1 (fun j k _ => h4 _ _), h.2.1.2⟩, ⟨RD_far h.2.2.1.1 (fun j k _ => h4 _ _), h.2.2.1.2⟩, h5, h.2.2.2.2.1.fr (fun _ _ _ => h4 _ _), h.2.2.2.2.2.fr h1 h2 h3 (fun _ _ _ => h4 _ _) ⟨rfl, rfl, rfl, fun _ _ => rfl⟩⟩
theorem RR.j (h : RR M o G) (h1 : M'.1 = M.1) (h2 : M'.2.1 = M.2.1) (h3 : ∀ a k, mP M' a k = mP M a k) (h4 : ∀ a k, mI M' a k = mI M a k) (h5 : TAP M' o) : RR M' o G :=
  (h.rx.j h1 h2 h3 h4 h5).fin (fun _ _ q => ⟨q, rfl⟩) (fun _ _ q => ⟨q, rfl⟩) ⟨rfl, rfl, rfl, fun _ _ => rfl⟩ h.2
/-- who walks, and who doesn't -/
theorem RR.wk (h : RR M o G) (p : Int32) : ∃ w, w ≤ 5 ∧ G 1 1 = nI w ∧ gN G 1 1 = w ∧ mI M (o + 1) 2 = nI w ∧ mI M (o + 78) 0 = nI w ∧ ((∃ c, c < w ∧ c < 5 ∧ p = nI c ∧ fn_X8_isBelow (nI c) (nI w) = 1 ∧ fn_X9_in (nI c) 0 (nI w - 1) = 1) ∨ (fn_X8_isBelow p (nI w) = 0 ∧ fn_X9_in p 0 (nI w - 1) = 0)) := by
  obtain ⟨w, h1, h2, h3⟩ := h.2.sc 1 (by decide)
  have h1' : w ≤ 5 := h1
  refine ⟨w, h1', h2, h3, (h.c (Lv_1 (i := 1) (by decide)) rfl).trans h2, (h.m (Lv_1 (i := 1) (by decide)) rfl).trans h2, ?_⟩
  rcases rngw p w h1' with ⟨c, q1, q2, q3, q4⟩ | q
  · exact Or.inl ⟨c, q1, by omega, q2, q3, q4⟩
  · exact Or.inr q
theorem cl5 {w r : Nat} (h : r < 4) : cL 5 (4 * w + r) = (18 + 2 * w, r) := by
  show (18 + 2 * ((4 * w + r) / 4), (4 * w + r) % 4) = (18 + 2 * w, r)
  rw [show (4 * w + r) / 4 = w by omega, show (4 * w + r) % 4 = r by omega]
end GR1
theorem nw1 {a c : Nat} (h : c < 5) (h2 : 27 ≤ a) : (a = 17 + 2 * c) = False := propext ⟨fun e => by omega, fun e => e.elim⟩
theorem nw2 {a c : Nat} (h : c < 5) (h2 : 28 ≤ a) : (a = 18 + 2 * c) = False := propext ⟨fun e => by omega, fun e => e.elim⟩
theorem nt1 {a c : Nat} (h : c < 6) (h2 : 78 ≤ a) : (a = 66 + 2 * c) = False := propext ⟨fun e => by omega, fun e => e.elim⟩
theorem nt2 {a c : Nat} (h : c < 6) (h2 : 79 ≤ a) : (a = 67 + 2 * c) = False := propext ⟨fun e => by omega, fun e => e.elim⟩
