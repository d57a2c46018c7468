/-! ===== brew ===== -/
/-- brews counted, the text emptied, the one that holds, and the tables anew -/
def GB (G : GG) (n z : Int32) (T : Nat → Nat → Int32) : GG := fun j k => if j = 1 ∧ k = 7 then n else if j = 1 ∧ k = 8 then 0 else if j = 1 ∧ k = 10 then z else if 50 ≤ j then T j k else G j k
def Zrow (nb : Nat) : Nat → Nat → Prop := fun a k => (a = 85 ∧ nb ≤ k) ∨ ((86 ≤ a ∧ a ≤ 89) ∧ 10 * nb ≤ k) ∨ (a = 90 ∧ 100 * nb ≤ k)
def Zy (nb : Nat) : Nat → Nat → Prop := fun a k => scr a k = true ∨ (a = 53 ∧ k = 1) ∨ (a = 78 ∧ k = 9) ∨ Zrow nb a k ∨ (a = 0 ∧ k = 3) ∨ (a = 78 ∧ (k = 7 ∨ k = 8))
section OB1
variable {M N N1 N2 : QM} {o h nb : Nat} {G : GG} {n z : Int32} {T : Nat → Nat → Int32}
theorem GB_ne {j k : Nat} (h : ¬ j = 1) (h2 : j < 50) : GB G n z T j k = G j k := by
  unfold GB
  rw [if_neg (fun q => h q.1), if_neg (fun q => h q.1), if_neg (fun q => h q.1), if_neg (by omega)]
theorem GB_1 {k : Nat} (h7 : ¬ k = 7) (h8 : ¬ k = 8) (h10 : ¬ k = 10) : GB G n z T 1 k = G 1 k := by
  unfold GB
  rw [if_neg (fun q => h7 q.2), if_neg (fun q => h8 q.2), if_neg (fun q => h10 q.2), if_neg (by omega)]
theorem GB_50 {x k : Nat} : GB G n z T (50 + x) k = T (50 + x) k := by
  unfold GB
  rw [if_neg (by omega), if_neg (by omega), if_neg (by omega), if_pos (by omega)]
theorem szv_B {j : Nat} (hj : j < 33) : szv (GB G n z T) j = if szT.getD j 0 = 9 then 0 else szv G j := by
  have hs : szT.getD j 0 ≤ 16 ∧ ¬ szT.getD j 0 = 1 ∧ ¬ szT.getD j 0 = 8 := (by decide : ∀ j, j < 33 → szT.getD j 0 ≤ 16 ∧ ¬ szT.getD j 0 = 1 ∧ ¬ szT.getD j 0 = 8) j hj
  unfold szv gN
  by_cases h9 : szT.getD j 0 = 9
  · rw [if_pos h9, h9]; rfl
  · rw [if_neg h9]
    by_cases h0 : szT.getD j 0 = 0
    · rw [if_pos h0, if_pos h0]
    · rw [if_neg h0, if_neg h0]
      by_cases h2 : szT.getD j 0 ≤ 10
      · rw [if_pos h2, if_pos h2, GB_1 (by omega) (by omega) (by omega)]
      · rw [if_neg h2, if_neg h2, GB_ne (by decide) (by decide)]
theorem Lv_B {j k : Nat} (q : Lv (GB G n z T) j k) : Lv G j k := by
  have hj := dm_lt q.1
  obtain ⟨h1, h2, h3, h4⟩ := q
  rw [szv_B hj] at h2
  by_cases h9 : szT.getD j 0 = 9
  · rw [if_pos h9] at h2; omega
  · rw [if_neg h9] at h2
    exact ⟨h1, h2, fun e => by have := h3 e; rw [GB_ne (by decide) (by decide)] at this; exact this, fun e => by have := h4 e; rw [GB_ne (by decide) (by decide)] at this; exact this⟩
theorem WF_B (hw : WF G) (hn : bd n 6) : WF (GB G n z T) := by
  refine ⟨fun j k q hj => ?_, ⟨fun k q => ?_, fun k q => ?_⟩, fun t ht => ?_⟩
  · have q := Lv_B q
    have h33 := dm_lt q.1
    by_cases e1 : j = 1
    · subst e1
      have hk : k < 10 := q.1
      by_cases e7 : k = 7
      · subst e7; exact hn
      · by_cases e8 : k = 8
        · subst e8; exact bd_nI (k := 0) (Nat.zero_le _)
        · rw [GB_1 e7 e8 (by omega)]; exact hw.1 1 k q hj
    · rw [GB_ne e1 (by omega)]; exact hw.1 j k q hj
  · unfold gN
    rw [GB_ne (by decide) (by decide), GB_1 (by decide) (by decide) (by decide)]; exact hw.2.1.1 k (Lv_B q)
  · unfold gN
    rw [GB_ne (by decide) (by decide), GB_ne (by decide) (by decide)]; exact hw.2.1.2 k (Lv_B q)
  · rw [GB_ne (by decide) (by decide), GB_ne (by decide) (by decide)]; exact hw.2.2 t ht
theorem Zy_fx {a k : Nat} (h : fx a k = true) (h2 : ¬ (85 ≤ a ∧ a ≤ 90)) (h3 : ¬ (a = 78 ∧ k = 8)) : ¬ Zy nb a k := by
  intro q
  unfold Zy Zrow at q
  have h4 := fx_scr h
  have k1 : fx 53 1 = false := rfl
  have k2 : fx 78 9 = false := rfl
  have k3 : fx 0 3 = false := rfl
  have k4 : fx 78 7 = false := rfl
  rcases q with q | ⟨rfl, rfl⟩ | ⟨rfl, rfl⟩ | q | ⟨rfl, rfl⟩ | ⟨rfl, rfl | rfl⟩
  · rw [h4] at q; cases q
  · rw [k1] at h; cases h
  · rw [k2] at h; cases h
  · omega
  · rw [k3] at h; cases h
  · rw [k4] at h; cases h
  · exact h3 ⟨rfl, rfl⟩
theorem Zy_c {j k : Nat} (hk : k < dm j) (h1 : ¬ (j = 1 ∧ (k = 7 ∨ k = 8))) : ¬ Zy nb (cL j k).1 (cL j k).2 := by
  intro q
  have ok := cL_ok j (dm_lt hk) k hk
  unfold Zy Zrow at q
  rcases q with q | ⟨e, e2⟩ | ⟨e, e2⟩ | q | ⟨e, e2⟩ | ⟨e, e2⟩
  · rw [cL_scr j (dm_lt hk) k hk] at q; cases q
  · have := cL_inj j (dm_lt hk) k hk 1 (by decide) 8 (by decide) (Prod.ext e e2)
    exact h1 ⟨this.1, Or.inr this.2⟩
  · omega
  · omega
  · have := cL_inj j (dm_lt hk) k hk 1 (by decide) 7 (by decide) (Prod.ext e e2)
    exact h1 ⟨this.1, Or.inl this.2⟩
  · omega
theorem Zy_m {j k : Nat} (hk : k < dm j) (h1 : ¬ (j = 1 ∧ (k = 7 ∨ k = 8))) : ¬ Zy nb (mL j k).1 (mL j k).2 := by
  intro q
  have ok := mL_ok j (dm_lt hk) k hk
  unfold Zy Zrow at q
  have fr : 85 ≤ (mL j k).1 → (mL j k).1 ≤ 90 → False := fun a b => by
    have : fx (mL j k).1 (mL j k).2 = true := by
      unfold fx
      simp [a, b]
    rw [this] at ok
    cases ok.2
  rcases q with q | ⟨e, e2⟩ | ⟨e, e2⟩ | q | ⟨e, e2⟩ | ⟨e, e2 | e2⟩
  · rw [mL_scr j (dm_lt hk) k hk] at q; cases q
  · omega
  · have := mL_inj j (dm_lt hk) k hk 1 (by decide) 8 (by decide) (Prod.ext e e2)
    exact h1 ⟨this.1, Or.inr this.2⟩
  · exact fr (by omega) (by omega)
  · omega
  · have := mL_inj j (dm_lt hk) k hk 1 (by decide) 7 (by decide) (Prod.ext e e2)
    exact h1 ⟨this.1, Or.inl this.2⟩
  · have : fx (mL j k).1 (mL j k).2 = true := by rw [e, e2]; rfl
    rw [this] at ok
    cases ok.2
/-- all but the brews, behind a brew -/
theorem RR.bw (h : RR M o G) (s : BQ M N o 124 (Zy nb)) (c7 : mI N (o + 0) 3 = n) (c8 : mI N (o + 53) 1 = 0) (m7 : mI N (o + 78) 7 = n) (m8 : mI N (o + 78) 9 = 0) (hB : BRW N o (GB G n z T)) (hn : bd n 6) : RR N o (GB G n z T) := by
  have hf : ∀ a k, a < 124 → fx a k = true → ¬ (85 ≤ a ∧ a ≤ 90) → ¬ (a = 78 ∧ k = 8) → mI N (o + a) k = mI M (o + a) k := fun a k ha q q2 q3 => s.2.2.2 a k ha (Zy_fx q q2 q3)
  have hF := h.1.2.2.2.2.1
  refine ⟨⟨s.shp (Nat.le_refl _) h.1.1, fun j k q => ?_, fun j k q => ?_, fun t k a b => ?_, ⟨?_, fun k hk => ?_, ⟨?_, ?_, ?_⟩, ?_, ?_, ?_⟩, hB⟩, WF_B h.2 hn⟩
  · have q' := Lv_B q
    have ok := cL_ok j (dm_lt q'.1) k q'.1
    by_cases e : j = 1 ∧ (k = 7 ∨ k = 8)
    · obtain ⟨rfl, rfl | rfl⟩ := e
      · exact c7
      · exact c8
    · rw [s.2.2.2 _ _ (by omega) (Zy_c q'.1 e), h.1.2.1 j k q']
      by_cases e1 : j = 1
      · subst e1
        have hk : k < 10 := q'.1
        rw [GB_1 (fun z => e ⟨rfl, Or.inl z⟩) (fun z => e ⟨rfl, Or.inr z⟩) (by omega)]
      · rw [GB_ne e1 (by have := dm_lt q'.1; omega)]
  · have q' := Lv_B q
    have ok := mL_ok j (dm_lt q'.1) k q'.1
    by_cases e : j = 1 ∧ (k = 7 ∨ k = 8)
    · obtain ⟨rfl, rfl | rfl⟩ := e
      · exact m7
      · exact m8
    · rw [s.2.2.2 _ _ (by omega) (Zy_m q'.1 e), h.1.2.2.1 j k q']
      by_cases e1 : j = 1
      · subst e1
        have hk : k < 10 := q'.1
        rw [GB_1 (fun z => e ⟨rfl, Or.inl z⟩) (fun z => e ⟨rfl, Or.inr z⟩) (by omega)]
      · rw [GB_ne e1 (by have := dm_lt q'.1; omega)]
  · rw [s.2.2.1 _ _ (by omega), s.2.2.1 _ _ (by omega)]; exact h.1.2.2.2.1 t k a b
  · exact (hf 78 25 (by decide) rfl (by decide) (by decide)).trans hF.1
  · exact (hf 92 k (by decide) rfl (by decide) (by omega)).trans (hF.2.1 k hk)
  · exact (hf 5 0 (by decide) rfl (by decide) (by decide)).trans hF.2.2.1.1
  · exact (hf 9 0 (by decide) rfl (by decide) (by decide)).trans hF.2.2.1.2.1
  · exact (hf 13 0 (by decide) rfl (by decide) (by decide)).trans hF.2.2.1.2.2
  · exact (hf 31 0 (by decide) rfl (by decide) (by decide)).trans hF.2.2.2.1
  · exact (hf 35 0 (by decide) rfl (by decide) (by decide)).trans hF.2.2.2.2.1
  · exact (hf 39 0 (by decide) rfl (by decide) (by decide)).trans hF.2.2.2.2.2
/-- what a brew x is, in the memory -/
def BX (M : QM) (o x : Nat) (g : Nat → Int32) : Prop := (M.2.1 (o + hA x) = (1, 0) ∧ M.2.1 (o + (hA x + 1)) = (20, 1600) ∧ mP M (o + hA x) 0 = some (o + (hA x + 1))) ∧ ((∀ i, i < 1600 → mI M (o + (hA x + 1)) i = g i) ∧ mI M (o + hA x) 1 = g 1600 ∧ mI M (o + hA x) 2 = g 1601) ∧ ∃ cl : List CLA, CLV cl g ∧ (x = 0 → cl = []) ∧ ∀ b, x = b + 1 → CLR (mI M (o + 85)) (mI M (o + 86)) (mI M (o + 87)) (mI M (o + 88)) (mI M (o + 89)) (mI M (o + 90)) b cl
theorem BX.old {x : Nat} {g : Nat → Int32} (s : BQ M N o (124 + 2 * nb) (Zy nb)) (hx : x ≤ nb) (h : BX M o x g) : BX N o x g := by
  obtain ⟨⟨a1, a2, a3⟩, ⟨b1, b2, b3⟩, cl, c1, c2, c3⟩ := h
  have lt : hA x + 1 < 124 + 2 * nb := by unfold hA; split <;> omega
  have g0 := hA_ge x
  have nz : ∀ k, ¬ Zy nb (hA x) k := fun k => Zy_fx (fx_hA x k) (by omega) (by omega)
  have nz1 : ∀ k, ¬ Zy nb (hA x + 1) k := fun k => Zy_fx (fx_hA1 x k) (by omega) (by omega)
  refine ⟨⟨(s.1 _ (by omega)).trans a1, (s.1 _ lt).trans a2, (s.2.1 _ _ (by omega) (by omega)).trans a3⟩, ⟨fun i hi => (s.2.2.2 _ _ lt (nz1 i)).trans (b1 i hi), (s.2.2.2 _ _ (by omega) (nz 1)).trans b2, (s.2.2.2 _ _ (by omega) (nz 2)).trans b3⟩, cl, c1, c2, fun b hb => ?_⟩
  obtain ⟨d1, d2, d3⟩ := c3 b hb
  have row : ∀ a k, 85 ≤ a → a ≤ 90 → ¬ Zrow nb a k → mI N (o + a) k = mI M (o + a) k := fun a k h1 h2 h3 => s.2.2.2 a k (by omega) (by
    have f1 : fx a k = true := by
      unfold fx
      simp [h1, h2]
    intro q
    unfold Zy at q
    have := fx_scr f1
    rcases q with q | q | q | q | q | q
    · rw [this] at q; cases q
    · omega
    · omega
    · exact h3 q
    · omega
    · omega)
  refine ⟨d1, (row 85 b (by decide) (by decide) (by unfold Zrow; omega)).trans d2, fun i q hq => ?_⟩
  have hi : i < cl.length := (List.getElem?_eq_some_iff.mp hq).1
  obtain ⟨e1, e2, e3, e4, e5⟩ := d3 i q hq
  refine ⟨e1, e2, (row 86 _ (by decide) (by decide) (by unfold Zrow; omega)).trans e3, (row 87 _ (by decide) (by decide) (by unfold Zrow; omega)).trans e4, fun e => ?_⟩
  obtain ⟨f, f1, f2, f3, f4, f5⟩ := e5 e
  refine ⟨f, f1, f2, (row 88 _ (by decide) (by decide) (by unfold Zrow; omega)).trans f3, (row 89 _ (by decide) (by decide) (by unfold Zrow; omega)).trans f4, fun k x hx => ?_⟩
  have hk : k < q.2.2.length := (List.getElem?_eq_some_iff.mp hx).1
  exact ⟨(f5 k x hx).1, (row 90 _ (by decide) (by decide) (by unfold Zrow; omega)).trans (f5 k x hx).2⟩
theorem ff_scr (a k : Nat) (h : Zff a k) : scr a k = true := by
  unfold Zff at h
  unfold scr
  rcases h with ⟨rfl, h⟩ | rfl
  · simp [h]
  · simp
theorem bm_y (a k : Nat) (h : Zbm nb a k) : Zy nb a k := by
  unfold Zbm at h
  unfold Zy Zrow
  rcases h with ⟨rfl, h | h | h | h | h | h⟩ | h | h | h | rfl
  · exact Or.inr (Or.inr (Or.inl ⟨rfl, h⟩))
  · left; rw [h]; rfl
  · left; rw [h]; rfl
  · left; rw [h]; rfl
  · left; rw [h]; rfl
  · left; rw [h]; rfl
  · right; right; right; left; omega
  · right; right; right; left; omega
  · right; right; right; left; omega
  · left; unfold scr; simp
end OB1
set_option maxHeartbeats 4000000 in
theorem op_brew {M : QM} {o : Nat} {G : GG} (h : RR M o G) : ∃ v M1 M2 G', fn_X8_brew M o = some (v, M1) ∧ fn_X9_brew M1 (o + 78) = some (v, M2) ∧ RR M2 o G' ∧ mt M1 (o + 78) = 9 := by
  have hS := h.1.1
  obtain ⟨nb, e, e2, ⟨a0, a1, a2⟩, ⟨b0, b1, b2⟩, c0, ⟨d0, d1⟩, ⟨k0, k1⟩, hx⟩ := h.1.2.2.2.2.2
  have r7 : mI M o 3 = nI nb := (h.c (Lv_1 (i := 7) (by decide)) (a := 0) (i := 3) rfl).trans b0
  have r7m : mI M (o + 78) 7 = nI nb := (h.m (Lv_1 (i := 7) (by decide)) (a := 78) (i := 7) rfl).trans b0
  by_cases hn6 : nb = 6
  · subst hn6
    refine ⟨-4, M, M, G, ?_, ?_, h, mt_78 hS⟩
    · have f : ¬ nI 6 < 6 := by decide
      unfold fn_X8_brew
      rw [gI_e (mt_0 hS), r7, if_neg f]
    · have f : nI 6 = 6 := rfl
      unfold fn_X9_brew
      rw [gI_e (mt_78 hS), r7m, if_pos f]
  · have hb5 : nb ≤ 5 := by omega
    obtain ⟨L, l1, l2, l3⟩ := h.2.sc 8 (by decide)
    have hL : L ≤ 100 := l1
    obtain ⟨P, hP⟩ : ∃ P : Nat → Nat, P = fun i => if i < L then gN G 13 i else 999 := ⟨_, rfl⟩
    have lv : ∀ i, i < L → Lv G 13 i := fun i hi => Lv_s (j := 13) (i := 8) (n := L) (by show i < 100; omega) (by decide) (by decide) l3 hi (by decide)
    have pv : ∀ i, i < L → G 13 i = nI (P i) ∧ P i < 128 := fun i hi => by
      obtain ⟨k, q1, q2⟩ := h.2.1 13 i (lv i hi) (by decide)
      have q1 : k ≤ 127 := q1
      have : P i = k := by rw [hP]; show (if i < L then gN G 13 i else 999) = k; rw [if_pos hi]; unfold gN; rw [q2, nI_clamp (by omega)]
      rw [this]; exact ⟨q2, by omega⟩
    have hPL : PL P L := ⟨hL, fun i hi => (pv i hi).2, fun i hi => by rw [hP]; exact if_neg (by omega)⟩
    have hC : TC M o P L := ⟨hS, hPL, (h.c (Lv_1 (i := 8) (by decide)) (a := 53) (i := 1) rfl).trans l2, fun i hi => (h.c (lv i hi) (a := 54) (i := i) rfl).trans (pv i hi).1⟩
    have hTM : TM M o P L := ⟨hS, hPL, (h.m (Lv_1 (i := 8) (by decide)) (a := 78) (i := 9) rfl).trans l2, fun i hi => (h.m (lv i hi) (a := 84) (i := i) rfl).trans (pv i hi).1, h.1.2.2.2.2.1.2.1⟩
    obtain ⟨r, hr⟩ := PG_ex hPL 9 0 (Nat.zero_le _)
    obtain ⟨v, N1, f1, q1, fr⟩ := ff_e hC (t := 0) (m := 0) (by decide) (by decide) hr
    have f1 : fn_X3_faultFor M (o + 53) 0 0 = some (v, N1) := f1
    have hS1 := q1.shp hS
    have g6 : nI nb < 6 := nI_lt (b := 6) (by omega) (by decide)
    cases r with
    | inl q =>
      obtain ⟨rfl, hq⟩ := fr
      obtain ⟨M1, hM1⟩ : ∃ M1, M1 = sI N1 (o + 53) 1 0 := ⟨_, rfl⟩
      have s1 : SQ M M1 o (fun a k => Zff a k ∨ (a = 53 ∧ k = 1)) := by
        rw [hM1]; exact (q1.mono fun _ _ z => Or.inl z).sI (Or.inr ⟨rfl, rfl⟩)
      have hT1 : TM M1 o P L := ⟨s1.shp hS, hPL, (s1.2.2.2.2 78 9 (by unfold Zff; omega)).trans hTM.2.2.1, fun i hi => (s1.2.2.2.2 84 i (by unfold Zff; omega)).trans (hTM.2.2.2.1 i hi), fun i hi => (s1.2.2.2.2 92 i (by unfold Zff; omega)).trans (hTM.2.2.2.2 i hi)⟩
      have r7' : mI M1 (o + 78) 7 = nI nb := (s1.2.2.2.2 78 7 (by unfold Zff; omega)).trans r7m
      obtain ⟨N2, t1, t2, t3⟩ := mB_e hT1 hb5 r7' hr
      have sy : SQ M N2 o (Zy nb) := (s1.mono fun a k z => by
        rcases z with z | z
        · exact Or.inl (ff_scr a k z)
        · exact Or.inr (Or.inl z)).trans (t1.mono bm_y)
      refine ⟨_, M1, N2, GB G (G 1 7) (G 1 10) G, ?_, t3, RR.bw h sy.bq ?_ ?_ ?_ t2 ?_ ?_, mt_78 hT1.1⟩
      · have g1 : ¬ nI q < 0 := nI_pos (by omega)
        unfold fn_X8_brew
        rw [gI_e (mt_0 hS), r7, if_pos g6, gP_0_4 hS, ck_e (mt_53 hS), f1, bnd_s, pr2_e, if_neg g1, gP_0_4 hS1, pI_e (mt_53 hS1), ← hM1]
      · rw [b0]
        have e1 : mI N2 (o + 0) 3 = mI M1 (o + 0) 3 := t1.2.2.2.2 0 3 (by unfold Zbm; omega)
        have e2' : mI M1 (o + 0) 3 = mI M (o + 0) 3 := s1.2.2.2.2 0 3 (by unfold Zff; omega)
        rw [e1, e2']; exact r7
      · have e1 : mI N2 (o + 53) 1 = mI M1 (o + 53) 1 := t1.2.2.2.2 53 1 (by unfold Zbm; omega)
        rw [e1, hM1]; simp only [mt_sI, mt_sJ, mt_sP, mt_rI, mt_rJ, ml_sI, ml_sJ, ml_sP, ml_rI, ml_rJ, mP_sI, mP_sJ, mP_rI, mP_rJ, SHP_sI, SHP_sJ, SHP_rI, SHP_rJ, mI_sI, mI_rI, mI_sJ, mI_rJ, mI_sP, mJ_sI, mJ_rI, mJ_sP, mJ_sJ, mJ_rJ, gI_e, pI_e, ck_e, bnd_s, nm_eq, pr2_e, cnul_0, cnul_1, drf_1, sm_1, sm_2, aI_e, aJ_e, wI_e, wJ_e, aL_e, cpI_e, cpJ_e, Nat.reduceLeDiff, Nat.reduceEqDiff, Nat.add_left_cancel_iff, ad0, ad1, false_and, and_false, true_and, and_true, reduceIte, if_true, if_false, zb0, zb1, Int32.reduceLT, Int32.reduceLE, i10, nw1, nw2, nt1, nt2, not_true_eq_false, not_false_eq_true]
      · have e1 : mI N2 (o + 78) 7 = mI M1 (o + 78) 7 := t1.2.2.2.2 78 7 (by unfold Zbm; omega)
        rw [e1, b0]; exact r7'
      · refine ⟨nb, e, e2, ⟨a0, a1, a2⟩, ⟨b0, b1, (GB_ne (by decide) (by decide)).trans b2⟩, sy.1.trans c0, ⟨(sy.2.2.1 _ _).trans d0, (sy.2.2.1 _ _).trans d1⟩, ⟨?_, ?_⟩, fun x hxn => ?_⟩
        · have e1 : mI N2 (o + 78) 8 = mI M1 (o + 78) 8 := t1.2.2.2.2 78 8 (by unfold Zbm; omega)
          have e2' : mI M1 (o + 78) 8 = mI M (o + 78) 8 := s1.2.2.2.2 78 8 (by unfold Zff; omega)
          rw [e1, e2']; exact k0
        · rw [sy.2.2.2.2 78 45 (Zy_fx rfl (by decide) (by decide))]; exact k1
        · rw [show GB G (G 1 7) (G 1 10) G (50 + x) = G (50 + x) from funext fun i => GB_50]
          exact BX.old sy.bq hxn (hx x hxn)
      · rw [b0]; exact bd_nI a0
    | inr cs =>
      obtain ⟨rfl, v7, v8, -⟩ := fr
      obtain ⟨hh, hhe⟩ : ∃ hh, hh = 124 + 2 * nb := ⟨_, rfl⟩
      have hh2 : 124 ≤ hh := by omega
      have hz : mz N1 = o + hh := by
        have : mz N1 = mz M := q1.1
        rw [this, c0, hhe]
      obtain ⟨w1, w2, w3, w4, w5, w6, w7⟩ := bwI_q (p1 := nI (laV 2 cs 99)) (p2 := nI (laV 3 cs 10)) hz
      obtain ⟨A, hA'⟩ : ∃ A, A = bwI (nw N1 1 0) o hh (nI (laV 2 cs 99)) (nI (laV 3 cs 10)) := ⟨_, rfl⟩
      rw [← hA'] at w1 w2 w3 w4 w5 w6 w7
      have sA : BQ M A o hh Zff := q1.bq.trans (w1.mono fun _ _ _ z => z.elim)
      have hSA := sA.shp hh2 hS
      have nf : ∀ a k, ¬ a = 53 → ¬ a = 55 → ¬ Zff a k := fun a k z1 z2 z => by unfold Zff at z; omega
      have hCA : TC A o P L := ⟨hSA, hPL, (sA.2.2.2 53 1 (by omega) (by unfold Zff; omega)).trans hC.2.2.1, fun i hi => (sA.2.2.2 54 i (by omega) (nf 54 i (by decide) (by decide))).trans (hC.2.2.2 i hi)⟩
      have mA : ∀ a, mt A a = (A.2.1 a).1 := fun _ => rfl
      obtain ⟨F, j1, j2, j3⟩ := tb_3 hh2 hCA (by rw [mA, w3]) (by rw [mA, w4]) (by show (A.2.1 (o + (hh + 1))).2 = 1600; rw [w4]) w5 hr
      have hSF := j2.shp hSA
      have sF : BQ M F o hh Zff := sA.trans (j2.bq.mono fun a k ha z => by
        rcases z with z | z
        · exact z
        · omega)
      obtain ⟨F1, hF1⟩ : ∃ F1, F1 = sP F (o + 1) 7 (some (o + hh)) := ⟨_, rfl⟩
      have sF1 : BQ F F1 o hh (fun _ _ => False) := by
        rw [hF1]
        refine ⟨fun a _ => rfl, fun a k _ q => ?_, fun _ _ _ => rfl, fun _ _ _ _ => rfl⟩
        rw [mP_sP, if_neg (by omega)]
      have hSF1 := sF1.shp hh2 hSF
      obtain ⟨M1, hM1⟩ : ∃ M1, M1 = sI (sI F1 (o + 53) 1 0) o 3 (nI (nb + 1)) := ⟨_, rfl⟩
      have sM : SQ F1 M1 o (fun a k => (a = 53 ∧ k = 1) ∨ (a = 0 ∧ k = 3)) := by
        rw [hM1]
        exact ((SQ.rfl (M := F1) (o := o)).sI (a := 53) (Or.inl ⟨rfl, rfl⟩)).sI (a := 0) (Or.inr ⟨rfl, rfl⟩)
      have hSM := sM.shp hSF1
      have s1 : BQ M M1 o hh (fun a k => Zff a k ∨ (a = 53 ∧ k = 1) ∨ (a = 0 ∧ k = 3)) := ((sF.mono fun _ _ _ z => Or.inl z).trans (sF1.mono fun _ _ _ z => z.elim)).trans (sM.bq.mono fun _ _ _ z => Or.inr z)
      have hT1 : TM M1 o P L := ⟨hSM, hPL, (s1.2.2.2 78 9 (by omega) (by unfold Zff; omega)).trans hTM.2.2.1, fun i hi => (s1.2.2.2 84 i (by omega) (by unfold Zff; omega)).trans (hTM.2.2.2.1 i hi), fun i hi => (s1.2.2.2 92 i (by omega) (by unfold Zff; omega)).trans (hTM.2.2.2.2 i hi)⟩
      have r7' : mI M1 (o + 78) 7 = nI nb := (s1.2.2.2 78 7 (by omega) (by unfold Zff; omega)).trans r7m
      obtain ⟨N', t1, t2, t3, t4, t5, t6⟩ := mB_e hT1 hb5 r7' hr
      obtain ⟨N2, hN2⟩ : ∃ N2, N2 = sI (sI N' (o + 78) 8 (nI nb)) (o + 78) 7 (nI (nb + 1)) := ⟨_, rfl⟩
      rw [← hN2] at t3
      have sN : SQ N' N2 o (fun a k => a = 78 ∧ (k = 7 ∨ k = 8)) := by
        rw [hN2]
        exact (SQ.rfl.sI (by omega)).sI (by omega)
      have sL : SQ M1 N2 o (fun a k => Zbm nb a k ∨ (a = 78 ∧ (k = 7 ∨ k = 8))) := (t1.mono fun _ _ z => Or.inl z).trans (sN.mono fun _ _ z => Or.inr z)
      have sy : BQ M N2 o hh (Zy nb) := (s1.mono fun a k _ z => by
        rcases z with z | z | z
        · exact Or.inl (ff_scr a k z)
        · exact Or.inr (Or.inl z)
        · exact Or.inr (Or.inr (Or.inr (Or.inr (Or.inl z))))).trans (sL.bq.mono fun a k _ z => by
        rcases z with z | z
        · exact bm_y a k z
        · exact Or.inr (Or.inr (Or.inr (Or.inr (Or.inr z)))))
      have far : ∀ a k, 124 ≤ a → mI N2 (o + a) k = mI F (o + a) k := fun a k ha => by
        have e1 : mI N2 (o + a) k = mI M1 (o + a) k := sL.2.2.2.2 a k (by unfold Zbm; omega)
        have e2' : mI M1 (o + a) k = mI F1 (o + a) k := sM.2.2.2.2 a k (by omega)
        rw [e1, e2', hF1]; rfl
      have tgF : ∀ a, N2.2.1 a = A.2.1 a := fun a => by
        have e1 : N2.2.1 = M1.2.1 := sL.2.1
        have e2' : M1.2.1 = F1.2.1 := sM.2.1
        have e3 : F1.2.1 = F.2.1 := by rw [hF1]; rfl
        rw [e1, e2', e3, j2.2.1]
      obtain ⟨T, hT⟩ : ∃ T : Nat → Nat → Int32, T = fun j k => if j = 51 + nb then (if k < 1600 then mI F (o + (hh + 1)) k else if k = 1600 then nI (laV 2 cs 99) else nI (laV 3 cs 10)) else G j k := ⟨_, rfl⟩
      have To : ∀ x, x ≤ nb → GB G (nI (nb + 1)) (nI (nb + 1)) T (50 + x) = G (50 + x) := fun x hxn => funext fun i => by
        rw [GB_50, hT]
        exact if_neg (by omega)
      have Tn : GB G (nI (nb + 1)) (nI (nb + 1)) T (50 + (nb + 1)) = fun k => if k < 1600 then mI F (o + (hh + 1)) k else if k = 1600 then nI (laV 2 cs 99) else nI (laV 3 cs 10) := funext fun i => by
        rw [GB_50, hT]
        exact if_pos (by omega)
      have hAn : hA (nb + 1) = hh := by unfold hA; rw [if_neg (by omega)]; omega
      refine ⟨nI nb, M1, N2, GB G (nI (nb + 1)) (nI (nb + 1)) T, ?_, t3, RR.bw (z := nI (nb + 1)) (T := T) h (n := nI (nb + 1)) (N := N2) (nb := nb) ⟨fun a ha => sy.1 a (by omega), fun a k ha => sy.2.1 a k (by omega), fun a k ha => sy.2.2.1 a k (by omega), fun a k ha => sy.2.2.2 a k (by omega)⟩ ?_ ?_ ?_ ?_ ?_ (bd_nI (by omega)), mt_78 hT1.1⟩
      · have g1 : (-1 : Int32) < 0 := by decide
        have hSN : SHP (nw N1 1 0) o := by
          refine ⟨fun i hi => ?_, fun p hp => ?_⟩
          · show (if o + i = N1.1 then _ else _) = _
            have : N1.1 = o + hh := hz
            rw [this, if_neg (by omega)]; exact hS1.1 i hi
          · show (if o + p.1 = N1.1 then _ else _) = _
            have hz1 : N1.1 = o + hh := hz
            have := (ptT_lt p hp).1
            rw [hz1, if_neg (by omega)]; exact hS1.2 p hp
        have n7 : ∀ k, mI (nw N1 1 0) (o + 53) k = mI N1 (o + 53) k := fun k => by rw [mI_nw, hz, if_neg (by omega)]
        have nt : mt (nw N1 1 0) (o + hh) = 1 := by rw [mt_nw, hz, if_pos rfl]
        have nz : mz (nw N1 1 0) = o + (hh + 1) := by rw [mz_nw, hz]; rfl
        have x1 := x1_c (p1 := nI (laV 2 cs 99)) (p2 := nI (laV 3 cs 10)) nz nt
        rw [← hA'] at x1
        have h3 : mI (sI F1 (o + 53) 1 0) o 3 = nI nb := by
          have e1 : mI (sI F1 (o + 53) 1 0) o 3 = mI F o 3 := by rw [mI_sI, if_neg (by omega), hF1]; rfl
          have e2' : mI F (o + 0) 3 = mI M (o + 0) 3 := sF.2.2.2 0 3 (by omega) (by unfold Zff; omega)
          rw [e1]; exact e2'.trans r7
        have h3' : mI (sI (sI F1 (o + 53) 1 0) o 3 (nI (nb + 1))) o 3 = nI (nb + 1) := by rw [mI_sI, if_pos ⟨rfl, rfl⟩]
        have hS5 : SHP (sI F1 (o + 53) 1 0) o := hSF1
        have hS6 : SHP (sI (sI F1 (o + 53) 1 0) o 3 (nI (nb + 1))) o := hSF1
        unfold fn_X8_brew
        rw [gI_e (mt_0 hS), r7, if_pos g6, gP_0_4 hS, ck_e (mt_53 hS), f1, bnd_s, pr2_e, if_pos g1, nO_e, hz, gP_0_4 hSN, gI_e (mt_53 hSN), n7, v7, gP_0_4 hSN, gI_e (mt_53 hSN), n7, v8, ck_e nt, x1, bnd_s, j1, bnd_s, gP_0_0 hSF, pR_e (mt_1 hSF), ← hF1, gP_0_4 hSF1, pI_e (mt_53 hSF1), gI_e (mt_0 hS5), h3, nI_1, pI_e (mt_0 hS5), gI_e (mt_0 hS6), h3', nI_pred, ← hM1]
      · have e1 : mI N2 (o + 0) 3 = mI M1 (o + 0) 3 := sL.2.2.2.2 0 3 (by unfold Zbm; omega)
        rw [e1, hM1, mI_sI]
        exact if_pos ⟨rfl, rfl⟩
      · have e1 : mI N2 (o + 53) 1 = mI M1 (o + 53) 1 := sL.2.2.2.2 53 1 (by unfold Zbm; omega)
        rw [e1, hM1, mI_sI, if_neg (by omega), mI_sI, if_pos ⟨rfl, rfl⟩]
      · rw [hN2, mI_sI, if_pos ⟨rfl, rfl⟩]
      · have e1 : mI N2 (o + 78) 9 = mI N' (o + 78) 9 := sN.2.2.2.2 78 9 (by omega)
        rw [e1]; exact t2
      · refine ⟨nb + 1, nb + 1, e2, ⟨by omega, Nat.le_refl _, by omega⟩, ⟨rfl, rfl, (GB_ne (by decide) (by decide)).trans b2⟩, ?_, ⟨?_, ?_⟩, ⟨?_, ?_⟩, fun x hxn => ?_⟩
        · have e1 : N2.1 = M1.1 := sL.1
          have e2' : M1.1 = F1.1 := sM.1
          have e3 : F1.1 = F.1 := by rw [hF1]; rfl
          show N2.1 = _
          rw [e1, e2', e3, j2.1]
          show mz A = _
          rw [w2]; omega
        · have e1 : mP N2 (o + 1) 7 = mP M1 (o + 1) 7 := sL.2.2.1 _ _
          have e2' : mP M1 (o + 1) 7 = mP F1 (o + 1) 7 := sM.2.2.1 _ _
          rw [e1, e2', hF1, mP_sP, if_pos ⟨rfl, rfl⟩, hAn]
        · rw [sy.2.1 27 7 (by omega) (by omega)]; exact d1
        · rw [hN2, mI_sI, if_neg (by omega), mI_sI, if_pos ⟨rfl, rfl⟩, nI_pred]
        · rw [sy.2.2.2 78 45 (by omega) (Zy_fx rfl (by decide) (by decide))]; exact k1
        · by_cases hxe : x ≤ nb
          · rw [To x hxe]
            refine BX.old ?_ hxe (hx x hxe)
            rw [← hhe]; exact sy
          · have : x = nb + 1 := by omega
            subst this
            rw [Tn]
            show BX N2 o (nb + 1) _
            unfold BX
            rw [hAn]
            refine ⟨⟨(tgF _).trans w3, (tgF _).trans w4, ?_⟩, ⟨fun i hi => ?_, ?_, ?_⟩, cs, ⟨fun c t m hc ht hm => ?_, rfl, rfl⟩, fun z => absurd z (by omega), fun b hb => ?_⟩
            · have e1 : mP N2 (o + hh) 0 = mP M1 (o + hh) 0 := sL.2.2.1 _ _
              have e2' : mP M1 (o + hh) 0 = mP F1 (o + hh) 0 := sM.2.2.1 _ _
              rw [e1, e2', hF1, mP_sP, if_neg (by omega), j2.2.2.1]; exact w5
            · rw [far _ _ (by omega)]; exact (if_pos hi).symm
            · rw [far _ _ hh2, j2.2.2.2.2 hh 1 (by unfold Zbt Zff; omega)]; exact w6
            · rw [far _ _ hh2, j2.2.2.2.2 hh 2 (by unfold Zbt Zff; omega)]; exact w7
            · exact (j3 c t m hc ht hm (by omega)).trans (congrArg some (if_pos (by omega)).symm)
            · have : b = nb := by omega
              subst this
              refine ⟨t5, (sN.2.2.2.2 85 b (by omega)).trans t4, fun i q hq => ?_⟩
              exact (t6 i q hq).fr sN (fun a z1 z2 z => by omega) (fun k z1 z => by omega) (Nat.le_refl _)
