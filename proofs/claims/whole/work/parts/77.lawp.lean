/-! ===== the law, call by call: printed by lawp.py ===== -/
theorem lg_cmp_0 (x : Int64) : lg_cmp x x = 0 := by
  unfold lg_cmp
  rw [if_neg Int64.lt_irrefl, if_pos rfl]
theorem scA_0 {α : Type} {NL n : Nat} {xs : Nat → Int32} (h : n < NL) (hN : NL ≤ 3072) (f : Int32 → Option α) : scA NL xs (nI n) f = f (xs n) := by
  unfold scA
  rw [if_pos (nI_in h (by omega)), nI_clamp (by omega)]
theorem law_go {NL k : Nat} (h : 6 * k + 6 ≤ NL) (hN : NL ≤ 3072) : ¬ Int32.ofNat NL - 6 < nI (6 * k) := by
  have e : Int32.ofNat NL - 6 = nI (NL - 6) := nI_sub (a := NL) (b := 6) (by omega)
  rw [e, nI_ltI (by omega) (by omega)]
  omega
theorem law_end {NL k : Nat} (h : NL < 6 * k + 6) (hk : k ≤ 512) : Int32.ofNat NL - 6 < nI (6 * k) := by
  by_cases h6 : 6 ≤ NL
  · have e : Int32.ofNat NL - 6 = nI (NL - 6) := nI_sub (a := NL) (b := 6) h6
    rw [e]
    exact nI_lt (by omega) (by omega)
  · have e : Int32.ofNat NL - 6 < 0 := (by decide : ∀ n, n < 6 → Int32.ofNat n - 6 < 0) NL (by omega)
    rw [Int32.lt_iff_toInt_lt] at e ⊢
    rw [nI_toInt (by omega)]
    have z : (0 : Int32).toInt = 0 := by decide
    omega
set_option maxHeartbeats 8000000 in
theorem law_step {NL k : Nat} {xs : Nat → Int32} {M : QM} {o : Nat} {G : GG} (hN : NL ≤ 3072) (hk : 6 * k + 6 ≤ NL) (h : RR M o G) : ∃ M' G', lp_L_law_18 NL xs o (o + 78) (nI (6 * k)) M = some (.inl (nI (6 * (k + 1)), M')) ∧ RR M' o G' := by
  have hS := h.1.1
  have u0 := mt_0 hS
  have u78 := mt_78 hS
  have e6 : nI (6 * k) + 6 = nI (6 * (k + 1)) := nI_add (6 * k) 6
  have s0 : ∀ f : Int32 → Option ((Int32 × QM) ⊕ (Int32 × QM)), scA NL xs (nI (6 * k)) f = f (xs (6 * k)) := fun f => scA_0 (by omega) hN f
  have s1 : ∀ f : Int32 → Option ((Int32 × QM) ⊕ (Int32 × QM)), scA NL xs (nI (6 * k) + 1) f = f (xs (6 * k + 1)) := fun f => by
    have e : nI (6 * k) + 1 = nI (6 * k + 1) := nI_add (6 * k) 1
    rw [e]; exact scA_0 (by omega) hN f
  have s2 : ∀ f : Int32 → Option ((Int32 × QM) ⊕ (Int32 × QM)), scA NL xs (nI (6 * k) + 2) f = f (xs (6 * k + 2)) := fun f => by
    have e : nI (6 * k) + 2 = nI (6 * k + 2) := nI_add (6 * k) 2
    rw [e]; exact scA_0 (by omega) hN f
  have s3 : ∀ f : Int32 → Option ((Int32 × QM) ⊕ (Int32 × QM)), scA NL xs (nI (6 * k) + 3) f = f (xs (6 * k + 3)) := fun f => by
    have e : nI (6 * k) + 3 = nI (6 * k + 3) := nI_add (6 * k) 3
    rw [e]; exact scA_0 (by omega) hN f
  have s4 : ∀ f : Int32 → Option ((Int32 × QM) ⊕ (Int32 × QM)), scA NL xs (nI (6 * k) + 4) f = f (xs (6 * k + 4)) := fun f => by
    have e : nI (6 * k) + 4 = nI (6 * k + 4) := nI_add (6 * k) 4
    rw [e]; exact scA_0 (by omega) hN f
  have s5 : ∀ f : Int32 → Option ((Int32 × QM) ⊕ (Int32 × QM)), scA NL xs (nI (6 * k) + 5) f = f (xs (6 * k + 5)) := fun f => by
    have e : nI (6 * k) + 5 = nI (6 * k + 5) := nI_add (6 * k) 5
    rw [e]; exact scA_0 (by omega) hN f
  have hx := law_go hk hN
  unfold lp_L_law_18
  rw [if_neg hx, s0, nm_eq]
  by_cases c0 : xs (6 * k) &&& 63 = 0
  · rw [if_pos c0]
    obtain ⟨v, M1, M2, G', r1, r2, r3⟩ := op_walker h (xs (6 * k + 1)) (xs (6 * k + 2)) (xs (6 * k + 3))
    have t1 : mt M1 (o + 78) = 9 := (congrArg Prod.fst (congrFun (tg_fn_X8_walker M o _ _ _ rfl _ r1) (o + 78))).trans u78
    refine ⟨M2, G', ?_, r3⟩
    rw [s1, s2, s3, ck_e u0, r1, bnd_s, pr2_e, s1, s2, s3, ck_e t1, r2, bnd_s, pr2_e, if_pos rfl, nm_eq, e6]
  rw [if_neg c0]
  by_cases c1 : xs (6 * k) &&& 63 = 1
  · rw [if_pos c1]
    obtain ⟨v, M2, r1, r2, r3⟩ := op_of h (xs (6 * k + 1)) (xs (6 * k + 2))
    refine ⟨M2, G, ?_, r3⟩
    rw [s1, s2, ck_e u0, r1, bnd_s, s1, s2, ck_e u78, r2, bnd_s, pr2_e, if_pos rfl, nm_eq, e6]
  rw [if_neg c1]
  by_cases c2 : xs (6 * k) &&& 63 = 2
  · rw [if_pos c2]
    obtain ⟨v, M2, r1, r2, r3⟩ := op_at h (xs (6 * k + 1)) (xs (6 * k + 2))
    refine ⟨M2, G, ?_, r3⟩
    rw [s1, s2, ck_e u0, r1, bnd_s, s1, s2, ck_e u78, r2, bnd_s, pr2_e, if_pos rfl, nm_eq, e6]
  rw [if_neg c2]
  by_cases c3 : xs (6 * k) &&& 63 = 3
  · rw [if_pos c3]
    obtain ⟨v, M1, M2, G', r1, r2, r3⟩ := op_set h (xs (6 * k + 1)) (xs (6 * k + 2))
    have t1 : mt M1 (o + 78) = 9 := (congrArg Prod.fst (congrFun (tg_fn_X8_set M o _ _ rfl _ r1) (o + 78))).trans u78
    refine ⟨M2, G', ?_, r3⟩
    rw [s1, s2, ck_e u0, r1, bnd_s, pr2_e, s1, s2, ck_e t1, r2, bnd_s, pr2_e, if_pos rfl, nm_eq, e6]
  rw [if_neg c3]
  by_cases c4 : xs (6 * k) &&& 63 = 4
  · rw [if_pos c4]
    obtain ⟨v, M1, M2, G', r1, r2, r3⟩ := op_weigh h (xs (6 * k + 1)) (xs (6 * k + 2))
    have t1 : mt M1 (o + 78) = 9 := (congrArg Prod.fst (congrFun (tg_fn_X8_weigh M o _ _ rfl _ r1) (o + 78))).trans u78
    refine ⟨M2, G', ?_, r3⟩
    rw [s1, s2, ck_e u0, r1, bnd_s, pr2_e, s1, s2, ck_e t1, r2, bnd_s, pr2_e, if_pos rfl, nm_eq, e6]
  rw [if_neg c4]
  by_cases c5 : xs (6 * k) &&& 63 = 5
  · rw [if_pos c5]
    obtain ⟨v, M1, M2, G', r1, r2, r3⟩ := op_line h (xs (6 * k + 1)) (xs (6 * k + 2)) (xs (6 * k + 3))
    have t1 : mt M1 (o + 78) = 9 := (congrArg Prod.fst (congrFun (tg_fn_X8_line M o _ _ _ rfl _ r1) (o + 78))).trans u78
    refine ⟨M2, G', ?_, r3⟩
    rw [s1, s2, s3, ck_e u0, r1, bnd_s, pr2_e, s1, s2, s3, ck_e t1, r2, bnd_s, pr2_e, if_pos rfl, nm_eq, e6]
  rw [if_neg c5]
  by_cases c6 : xs (6 * k) &&& 63 = 6
  · rw [if_pos c6]
    obtain ⟨v, M1, M2, G', r1, r2, r3⟩ := op_milk h (xs (6 * k + 1))
    have t1 : mt M1 (o + 78) = 9 := (congrArg Prod.fst (congrFun (tg_fn_X8_milk M o _ rfl _ r1) (o + 78))).trans u78
    refine ⟨M2, G', ?_, r3⟩
    rw [s1, ck_e u0, r1, bnd_s, pr2_e, s1, ck_e t1, r2, bnd_s, pr2_e, if_pos rfl, nm_eq, e6]
  rw [if_neg c6]
  by_cases c7 : xs (6 * k) &&& 63 = 7
  · rw [if_pos c7]
    obtain ⟨v, M1, M2, G', r1, r2, r3⟩ := op_stir h (xs (6 * k + 1)) (xs (6 * k + 2))
    have t1 : mt M1 (o + 78) = 9 := (congrArg Prod.fst (congrFun (tg_fn_X8_stir M o _ _ rfl _ r1) (o + 78))).trans u78
    refine ⟨M2, G', ?_, r3⟩
    rw [s1, s2, ck_e u0, r1, bnd_s, pr2_e, s1, s2, ck_e t1, r2, bnd_s, pr2_e, if_pos rfl, nm_eq, e6]
  rw [if_neg c7]
  by_cases c8 : xs (6 * k) &&& 63 = 8
  · rw [if_pos c8]
    obtain ⟨v, M1, M2, G', r1, r2, r3⟩ := op_feed h (xs (6 * k + 1))
    have t1 : mt M1 (o + 78) = 9 := (congrArg Prod.fst (congrFun (tg_fn_X8_feed M o _ rfl _ r1) (o + 78))).trans u78
    refine ⟨M2, G', ?_, r3⟩
    rw [s1, ck_e u0, r1, bnd_s, pr2_e, s1, ck_e t1, r2, bnd_s, pr2_e, if_pos rfl, nm_eq, e6]
  rw [if_neg c8]
  by_cases c9 : xs (6 * k) &&& 63 = 9
  · rw [if_pos c9]
    obtain ⟨v, M1, M2, G', r1, r2, r3, t1⟩ := op_brew h
    refine ⟨M2, G', ?_, r3⟩
    rw [ck_e u0, r1, bnd_s, pr2_e, ck_e t1, r2, bnd_s, pr2_e, if_pos rfl, nm_eq, e6]
  rw [if_neg c9]
  by_cases c10 : xs (6 * k) &&& 63 = 10
  · rw [if_pos c10]
    obtain ⟨v, M2, r1, r2, r3⟩ := op_told h (xs (6 * k + 1))
    refine ⟨M2, G, ?_, r3⟩
    rw [s1, ck_e u0, r1, bnd_s, s1, ck_e u78, r2, bnd_s, pr2_e, if_pos rfl, nm_eq, e6]
  rw [if_neg c10]
  by_cases c11 : xs (6 * k) &&& 63 = 11
  · rw [if_pos c11]
    obtain ⟨v, M1, M2, G', r1, r2, r3⟩ := op_pass h (xs (6 * k + 1))
    have t1 : mt M1 (o + 78) = 9 := (congrArg Prod.fst (congrFun (tg_fn_X8_pass M o _ rfl _ r1) (o + 78))).trans u78
    refine ⟨M2, G', ?_, r3⟩
    rw [s1, ck_e u0, r1, bnd_s, pr2_e, s1, ck_e t1, r2, bnd_s, pr2_e, if_pos rfl, nm_eq, e6]
  rw [if_neg c11]
  by_cases c12 : xs (6 * k) &&& 63 = 12
  · rw [if_pos c12]
    obtain ⟨v, M1, M2, G', r1, r2, r3⟩ := op_on h (xs (6 * k + 1)) (xs (6 * k + 2))
    have t1 : mt M1 (o + 78) = 9 := (congrArg Prod.fst (congrFun (tg_fn_X8_on M o _ _ rfl _ r1) (o + 78))).trans u78
    refine ⟨M2, G', ?_, r3⟩
    rw [s1, s2, ck_e u0, r1, bnd_s, pr2_e, s1, s2, ck_e t1, r2, bnd_s, pr2_e, if_pos rfl, nm_eq, e6]
  rw [if_neg c12]
  by_cases c13 : xs (6 * k) &&& 63 = 13
  · rw [if_pos c13]
    obtain ⟨v, M1, M2, G', r1, r2, r3⟩ := op_soon h (xs (6 * k + 1))
    have t1 : mt M1 (o + 78) = 9 := (congrArg Prod.fst (congrFun (tg_fn_X8_soon M o _ rfl _ r1) (o + 78))).trans u78
    refine ⟨M2, G', ?_, r3⟩
    rw [s1, ck_e u0, r1, bnd_s, pr2_e, s1, ck_e t1, r2, bnd_s, pr2_e, if_pos rfl, nm_eq, e6]
  rw [if_neg c13]
  by_cases c14 : xs (6 * k) &&& 63 = 14
  · rw [if_pos c14]
    obtain ⟨v, M2, r1, r2, r3⟩ := op_way h (xs (6 * k + 1)) (xs (6 * k + 2))
    refine ⟨M2, G, ?_, r3⟩
    rw [s1, s2, ck_e u0, r1, bnd_s, s1, s2, ck_e u78, r2, bnd_s, pr2_e, if_pos rfl, nm_eq, e6]
  rw [if_neg c14]
  by_cases c15 : xs (6 * k) &&& 63 = 15
  · rw [if_pos c15]
    obtain ⟨v, M2, r1, r2, r3⟩ := op_reach h (xs (6 * k + 1)) (xs (6 * k + 2)) (xs (6 * k + 3))
    refine ⟨M2, G, ?_, r3⟩
    rw [s1, s2, s3, ck_e u0, r1, bnd_s, s1, s2, s3, ck_e u78, r2, bnd_s, pr2_e, if_pos rfl, nm_eq, e6]
  rw [if_neg c15]
  by_cases c16 : xs (6 * k) &&& 63 = 16
  · rw [if_pos c16]
    obtain ⟨v, M1, M2, G', r1, r2, r3⟩ := op_heaviest h (xs (6 * k + 1))
    have t1 : mt M1 (o + 78) = 9 := (congrArg Prod.fst (congrFun (tg_fn_X8_heaviest M o _ rfl _ r1) (o + 78))).trans u78
    refine ⟨M2, G', ?_, r3⟩
    rw [s1, ck_e u0, r1, bnd_s, pr2_e, s1, ck_e t1, r2, bnd_s, pr2_e, if_pos rfl, nm_eq, e6]
  rw [if_neg c16]
  by_cases c17 : xs (6 * k) &&& 63 = 17
  · rw [if_pos c17]
    obtain ⟨v, M2, r1, r2, r3⟩ := op_cut h (xs (6 * k + 1)) (xs (6 * k + 2))
    refine ⟨M2, G, ?_, r3⟩
    rw [s1, s2, ck_e u0, r1, bnd_s, s1, s2, ck_e u78, r2, bnd_s, pr2_e, if_pos rfl, nm_eq, e6]
  rw [if_neg c17]
  by_cases c18 : xs (6 * k) &&& 63 = 18
  · rw [if_pos c18]
    obtain ⟨v, M1, M2, G', r1, r2, r3⟩ := op_stirred h (xs (6 * k + 1))
    have t1 : mt M1 (o + 78) = 9 := (congrArg Prod.fst (congrFun (tg_fn_X8_stirred M o _ rfl _ r1) (o + 78))).trans u78
    refine ⟨M2, G', ?_, r3⟩
    rw [s1, ck_e u0, r1, bnd_s, pr2_e, s1, ck_e t1, r2, bnd_s, pr2_e, if_pos rfl, nm_eq, e6]
  rw [if_neg c18]
  by_cases c19 : xs (6 * k) &&& 63 = 19
  · rw [if_pos c19]
    obtain ⟨v, M2, r1, r2, r3⟩ := op_meet h (xs (6 * k + 1)) (xs (6 * k + 2))
    refine ⟨M2, G, ?_, r3⟩
    rw [s1, s2, ck_e u0, r1, bnd_s, s1, s2, ck_e u78, r2, bnd_s, pr2_e, if_pos rfl, nm_eq, e6]
  rw [if_neg c19]
  by_cases c20 : xs (6 * k) &&& 63 = 20
  · rw [if_pos c20]
    obtain ⟨v, M1, M2, G', r1, r2, r3⟩ := op_print h (xs (6 * k + 1))
    have t1 : mt M1 (o + 78) = 9 := (congrArg Prod.fst (congrFun (tg_fn_X8_print M o _ rfl _ r1) (o + 78))).trans u78
    refine ⟨M2, G', ?_, r3⟩
    rw [s1, ck_e u0, r1, bnd_s, pr2_e, s1, ck_e t1, r2, bnd_s, pr2_e, if_pos rfl, nm_eq, e6]
  rw [if_neg c20]
  by_cases c21 : xs (6 * k) &&& 63 = 21
  · rw [if_pos c21]
    rw [s1, s2]
    by_cases z : xs (6 * k + 2) = 0
    · rw [if_pos z]
      unfold jn_L_law_858_18
      obtain ⟨v, M1, M2, G', r1, r2, r3⟩ := op_see h (xs (6 * k + 1)) 0 (xs (6 * k + 3)) (Or.inl rfl)
      have t1 : mt M1 (o + 78) = 9 := (congrArg Prod.fst (congrFun (tg_fn_X8_see M o _ _ _ rfl _ r1) (o + 78))).trans u78
      refine ⟨M2, G', ?_, r3⟩
      rw [s3, ck_e u0, r1, bnd_s, pr2_e, s1, s2, if_pos z]
      unfold jn_L_law_885_18
      rw [s3, ck_e t1, r2, bnd_s, pr2_e, if_pos rfl, nm_eq, e6]
    · rw [if_neg z]
      unfold jn_L_law_858_18
      obtain ⟨v, M1, M2, G', r1, r2, r3⟩ := op_see h (xs (6 * k + 1)) 1 (xs (6 * k + 3)) (Or.inr rfl)
      have t1 : mt M1 (o + 78) = 9 := (congrArg Prod.fst (congrFun (tg_fn_X8_see M o _ _ _ rfl _ r1) (o + 78))).trans u78
      refine ⟨M2, G', ?_, r3⟩
      rw [s3, ck_e u0, r1, bnd_s, pr2_e, s1, s2, if_neg z]
      unfold jn_L_law_885_18
      rw [s3, ck_e t1, r2, bnd_s, pr2_e, if_pos rfl, nm_eq, e6]
  rw [if_neg c21]
  by_cases c22 : xs (6 * k) &&& 63 = 22
  · rw [if_pos c22]
    obtain ⟨v, M1, M2, G', r1, r2, r3⟩ := op_heft h (xs (6 * k + 1)) (xs (6 * k + 2))
    have t1 : mt M1 (o + 78) = 9 := (congrArg Prod.fst (congrFun (tg_fn_X8_heft M o _ _ rfl _ r1) (o + 78))).trans u78
    refine ⟨M2, G', ?_, r3⟩
    rw [s1, s2, ck_e u0, r1, bnd_s, pr2_e, s1, s2, ck_e t1, r2, bnd_s, pr2_e, if_pos rfl, nm_eq, e6]
  rw [if_neg c22]
  by_cases c23 : xs (6 * k) &&& 63 = 23
  · rw [if_pos c23]
    obtain ⟨v, M1, M2, G', r1, r2, r3⟩ := op_can h (xs (6 * k + 1)) (xs (6 * k + 2))
    have t1 : mt M1 (o + 78) = 9 := (congrArg Prod.fst (congrFun (tg_fn_X8_can M o _ _ rfl _ r1) (o + 78))).trans u78
    refine ⟨M2, G', ?_, r3⟩
    rw [s1, s2, ck_e u0, r1, bnd_s, pr2_e, s1, s2, ck_e t1, r2, bnd_s, pr2_e, if_pos rfl, nm_eq, e6]
  rw [if_neg c23]
  by_cases c24 : xs (6 * k) &&& 63 = 24
  · rw [if_pos c24]
    obtain ⟨v, M1, M2, G', r1, r2, r3⟩ := op_was h (xs (6 * k + 1)) (xs (6 * k + 2)) (xs (6 * k + 3)) (xs (6 * k + 4))
    have t1 : mt M1 (o + 78) = 9 := (congrArg Prod.fst (congrFun (tg_fn_X8_was M o _ _ _ _ rfl _ r1) (o + 78))).trans u78
    refine ⟨M2, G', ?_, r3⟩
    rw [s1, s2, s3, s4, ck_e u0, r1, bnd_s, pr2_e, s1, s2, s3, s4, ck_e t1, r2, bnd_s, pr2_e, if_pos rfl, nm_eq, e6]
  rw [if_neg c24]
  by_cases c25 : xs (6 * k) &&& 63 = 25
  · rw [if_pos c25]
    obtain ⟨v, M1, M2, G', r1, r2, r3⟩ := op_odds h (xs (6 * k + 1)) (xs (6 * k + 2))
    have t1 : mt M1 (o + 78) = 9 := (congrArg Prod.fst (congrFun (tg_fn_X8_odds M o _ _ rfl _ r1) (o + 78))).trans u78
    refine ⟨M2, G', ?_, r3⟩
    rw [s1, s2, ck_e u0, r1, bnd_s, pr2_e, s1, s2, ck_e t1, r2, bnd_s, pr2_e, if_pos (lg_cmp_0 v), nm_eq, e6]
  rw [if_neg c25]
  by_cases c26 : xs (6 * k) &&& 63 = 26
  · rw [if_pos c26]
    obtain ⟨v, M1, M2, G', r1, r2, r3⟩ := op_mean h (xs (6 * k + 1)) (xs (6 * k + 2))
    have t1 : mt M1 (o + 78) = 9 := (congrArg Prod.fst (congrFun (tg_fn_X8_mean M o _ _ rfl _ r1) (o + 78))).trans u78
    refine ⟨M2, G', ?_, r3⟩
    rw [s1, s2, ck_e u0, r1, bnd_s, pr2_e, s1, s2, ck_e t1, r2, bnd_s, pr2_e, if_pos (lg_cmp_0 v), nm_eq, e6]
  rw [if_neg c26]
  by_cases c27 : xs (6 * k) &&& 63 = 27
  · rw [if_pos c27]
    obtain ⟨v, M1, M2, G', r1, r2, r3⟩ := op_afternoon h (xs (6 * k + 1)) (xs (6 * k + 2))
    have t1 : mt M1 (o + 78) = 9 := (congrArg Prod.fst (congrFun (tg_fn_X8_afternoon M o _ _ rfl _ r1) (o + 78))).trans u78
    refine ⟨M2, G', ?_, r3⟩
    rw [s1, s2, ck_e u0, r1, bnd_s, pr2_e, s1, s2, ck_e t1, r2, bnd_s, pr2_e, if_pos rfl, nm_eq, e6]
  rw [if_neg c27]
  by_cases c28 : xs (6 * k) &&& 63 = 28
  · rw [if_pos c28]
    obtain ⟨v, M1, M2, G', r1, r2, r3⟩ := op_ends h (xs (6 * k + 1))
    have t1 : mt M1 (o + 78) = 9 := (congrArg Prod.fst (congrFun (tg_fn_X8_ends M o _ rfl _ r1) (o + 78))).trans u78
    refine ⟨M2, G', ?_, r3⟩
    rw [s1, ck_e u0, r1, bnd_s, pr2_e, s1, ck_e t1, r2, bnd_s, pr2_e, if_pos rfl, nm_eq, e6]
  rw [if_neg c28]
  by_cases c29 : xs (6 * k) &&& 63 = 29
  · rw [if_pos c29]
    obtain ⟨v, M1, M2, G', r1, r2, r3⟩ := op_book h (xs (6 * k + 1)) (xs (6 * k + 2))
    have t1 : mt M1 (o + 78) = 9 := (congrArg Prod.fst (congrFun (tg_fn_X8_book M o _ _ rfl _ r1) (o + 78))).trans u78
    refine ⟨M2, G', ?_, r3⟩
    rw [s1, s2, ck_e u0, r1, bnd_s, pr2_e, s1, s2, ck_e t1, r2, bnd_s, pr2_e, if_pos rfl, nm_eq, e6]
  rw [if_neg c29]
  by_cases c30 : xs (6 * k) &&& 63 = 30
  · rw [if_pos c30]
    obtain ⟨v, r1, r2⟩ := op_looked h 
    refine ⟨M, G, ?_, h⟩
    rw [ck_e u0, r1, bnd_s, ck_e u78, r2, bnd_s, if_pos rfl, nm_eq, e6]
  rw [if_neg c30]
  by_cases c31 : xs (6 * k) &&& 63 = 31
  · rw [if_pos c31]
    obtain ⟨v, r1, r2⟩ := op_judge h (xs (6 * k + 1)) (xs (6 * k + 2))
    refine ⟨M, G, ?_, h⟩
    rw [s1, s2, ck_e u0, r1, bnd_s, s1, s2, ck_e u78, r2, bnd_s, if_pos rfl, nm_eq, e6]
  rw [if_neg c31]
  by_cases c32 : xs (6 * k) &&& 63 = 32
  · rw [if_pos c32]
    obtain ⟨v, M1, M2, G', r1, r2, r3⟩ := op_image h 
    have t1 : mt M1 (o + 78) = 9 := (congrArg Prod.fst (congrFun (tg_fn_X8_image M o  rfl _ r1) (o + 78))).trans u78
    refine ⟨M2, G', ?_, r3⟩
    rw [ck_e u0, r1, bnd_s, pr2_e, ck_e t1, r2, bnd_s, pr2_e, if_pos rfl, nm_eq, e6]
  rw [if_neg c32]
  by_cases c33 : xs (6 * k) &&& 63 = 33
  · rw [if_pos c33]
    obtain ⟨v, M1, M2, G', r1, r2, r3⟩ := op_undo h 
    have t1 : mt M1 (o + 78) = 9 := (congrArg Prod.fst (congrFun (tg_fn_X8_undo M o  rfl _ r1) (o + 78))).trans u78
    refine ⟨M2, G', ?_, r3⟩
    rw [ck_e u0, r1, bnd_s, pr2_e, ck_e t1, r2, bnd_s, pr2_e, if_pos rfl, nm_eq, e6]
  rw [if_neg c33]
  by_cases c34 : xs (6 * k) &&& 63 = 34
  · rw [if_pos c34]
    obtain ⟨v, M1, M2, G', r1, r2, r3⟩ := op_act h (xs (6 * k + 1)) (xs (6 * k + 2)) (xs (6 * k + 3))
    have t1 : mt M1 (o + 78) = 9 := (congrArg Prod.fst (congrFun (tg_fn_X8_act M o _ _ _ rfl _ r1) (o + 78))).trans u78
    refine ⟨M2, G', ?_, r3⟩
    rw [s1, s2, s3, ck_e u0, r1, bnd_s, pr2_e, s1, s2, s3, ck_e t1, r2, bnd_s, pr2_e, if_pos rfl, nm_eq, e6]
  rw [if_neg c34]
  by_cases c35 : xs (6 * k) &&& 63 = 35
  · rw [if_pos c35]
    obtain ⟨v, r1, r2⟩ := op_trace h (xs (6 * k + 1))
    refine ⟨M, G, ?_, h⟩
    rw [s1, ck_e u0, r1, bnd_s, s1, ck_e u78, r2, bnd_s, if_pos rfl, nm_eq, e6]
  rw [if_neg c35]
  by_cases c36 : xs (6 * k) &&& 63 = 36
  · rw [if_pos c36]
    obtain ⟨v, r1, r2⟩ := op_taken h (xs (6 * k + 1)) (xs (6 * k + 2))
    refine ⟨M, G, ?_, h⟩
    rw [s1, s2, ck_e u0, r1, bnd_s, s1, s2, ck_e u78, r2, bnd_s, if_pos rfl, nm_eq, e6]
  rw [if_neg c36]
  by_cases c37 : xs (6 * k) &&& 63 = 37
  · rw [if_pos c37]
    obtain ⟨v, r1, r2⟩ := op_count h (xs (6 * k + 1))
    refine ⟨M, G, ?_, h⟩
    rw [s1, ck_e u0, r1, bnd_s, s1, ck_e u78, r2, bnd_s, if_pos rfl, nm_eq, e6]
  rw [if_neg c37]
  by_cases c38 : xs (6 * k) &&& 63 = 38
  · rw [if_pos c38]
    obtain ⟨v, M1, M2, G', r1, r2, r3⟩ := op_tape h (xs (6 * k + 1)) (xs (6 * k + 2)) (xs (6 * k + 3))
    have t1 : mt M1 (o + 78) = 9 := (congrArg Prod.fst (congrFun (tg_fn_X8_tape M o _ _ _ rfl _ r1) (o + 78))).trans u78
    refine ⟨M2, G', ?_, r3⟩
    rw [s1, s2, s3, ck_e u0, r1, bnd_s, pr2_e, s1, s2, s3, ck_e t1, r2, bnd_s, pr2_e, if_pos rfl, nm_eq, e6]
  rw [if_neg c38]
  by_cases c39 : xs (6 * k) &&& 63 = 39
  · rw [if_pos c39]
    obtain ⟨v, M1, M2, G', r1, r2, r3⟩ := op_item h (xs (6 * k + 1)) (xs (6 * k + 2)) (((xs (6 * k + 3)).toInt64 <<< ((32 : Int32).toInt64 &&& 63)) ||| ((xs (6 * k + 4)).toInt64 &&& 4294967295))
    have t1 : mt M1 (o + 78) = 9 := (congrArg Prod.fst (congrFun (tg_fn_X8_item M o _ _ _ rfl _ r1) (o + 78))).trans u78
    refine ⟨M2, G', ?_, r3⟩
    rw [s1, s2, s3, s4, ck_e u0, r1, bnd_s, pr2_e, s1, s2, s3, s4, ck_e t1, r2, bnd_s, pr2_e, if_pos rfl, nm_eq, e6]
  rw [if_neg c39]
  by_cases c40 : xs (6 * k) &&& 63 = 40
  · rw [if_pos c40]
    obtain ⟨v, r1, r2⟩ := op_read h (xs (6 * k + 1)) (xs (6 * k + 2))
    refine ⟨M, G, ?_, h⟩
    rw [s1, s2, ck_e u0, r1, bnd_s, s1, s2, ck_e u78, r2, bnd_s, if_pos (lg_cmp_0 v), nm_eq, e6]
  rw [if_neg c40]
  by_cases c41 : xs (6 * k) &&& 63 = 41
  · rw [if_pos c41]
    obtain ⟨v, M1, M2, G', r1, r2, r3⟩ := op_shift h (xs (6 * k + 1)) (xs (6 * k + 2)) (xs (6 * k + 3)) (xs (6 * k + 4)) (xs (6 * k + 5))
    have t1 : mt M1 (o + 78) = 9 := (congrArg Prod.fst (congrFun (tg_fn_X8_shift M o _ _ _ _ _ rfl _ r1) (o + 78))).trans u78
    refine ⟨M2, G', ?_, r3⟩
    rw [s1, s2, s3, s4, s5, ck_e u0, r1, bnd_s, pr2_e, s1, s2, s3, s4, s5, ck_e t1, r2, bnd_s, pr2_e, if_pos rfl, nm_eq, e6]
  rw [if_neg c41]
  exact ⟨M, G, by rw [nm_eq, e6], h⟩
/-- the whole run -/
theorem law_loop {NL : Nat} {xs : Nat → Int32} {M : QM} {o : Nat} {G : GG} (hN : NL ≤ 3072) (h : RR M o G) : ∃ M', itr (fun s18 : Int32 × QM => lp_L_law_18 NL xs o (o + 78) s18.1 s18.2) FU (0, M) = some (1, M') := by
  have loop := itr_J (f := fun s18 : Int32 × QM => lp_L_law_18 NL xs o (o + 78) s18.1 s18.2) (s0 := (0, M)) (fun k s => ∃ Mw Gw, s = (nI (6 * k), Mw) ∧ k ≤ 512 ∧ RR Mw o Gw) (fun r => r.1 = 1) 512
    ⟨M, G, rfl, Nat.zero_le _, h⟩
    (fun k s hs => by
      obtain ⟨Mw, Gw, rfl, hk, g⟩ := hs
      show (∃ r, lp_L_law_18 NL xs o (o + 78) (nI (6 * k)) Mw = some (.inr r) ∧ _) ∨ _ ∧ ∃ s', lp_L_law_18 NL xs o (o + 78) (nI (6 * k)) Mw = some (.inl s') ∧ _
      by_cases e : 6 * k + 6 ≤ NL
      · right
        obtain ⟨M', G', r1, r2⟩ := law_step (xs := xs) hN e g
        exact ⟨by omega, _, r1, M', G', rfl, by omega, r2⟩
      · left
        refine ⟨(1, Mw), ?_, rfl⟩
        unfold lp_L_law_18
        rw [if_pos (law_end (by omega) hk)])
    (by decide)
  obtain ⟨⟨v, M'⟩, r1, r2⟩ := loop
  have r2 : v = 1 := r2
  rw [r2] at r1
  exact ⟨M', r1⟩
