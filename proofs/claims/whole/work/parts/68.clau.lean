/-! ===== the class's clauses ===== -/
theorem mkb_bit {f : Nat → Bool} {i : Nat} (hi : i < 16) : (mkb f &&& ((1 : Int32) <<< (nI i &&& 31)) = 0) ↔ f i = false := by
  rw [mkb_one i hi, mkb_and, mkb_0]
  refine ⟨fun h => ?_, fun h c _ => ?_⟩
  · have := h i hi
    rw [decide_eq_true rfl, Bool.and_true] at this
    exact this
  · by_cases e : c = i
    · rw [e, h]; rfl
    · rw [decide_eq_false e, Bool.and_false]
def Zcl : Nat → Nat → Prop := fun a k => (a = 53 ∧ (k = 2 ∨ k = 3 ∨ k = 7 ∨ k = 8)) ∨ a = 55
/-- what a clause leaves -/
def CR (M N : QM) (o t m : Nat) (r : RQ) : Prop := SQ M N o Zcl ∧ match r with
  | .inl q => mI N (o + 53) 2 = nI q ∧ mI N (o + 53) 3 = 1
  | .inr y => (mI N (o + 53) 2 = nI y.1 ∧ mI N (o + 53) 3 = 0) ∧ mI N (o + 53) 7 = (if y.2.1 = 2 then nI y.2.2.1 else mI M (o + 53) 7) ∧ mI N (o + 53) 8 = (if y.2.1 = 3 then nI y.2.2.1 else mI M (o + 53) 8) ∧ ∀ c, c < 16 → grV c t m [y.2] (mI M (o + 55) c) = some (mI N (o + 55) c)
section RE4
variable {M N N1 N2 N3 : QM} {o L p q t m d n k j : Nat} {P : Nat → Nat} {v : Int32} {x : Nat ⊕ Nat}
theorem rd_cl {a k : Nat} (h : Zrd a k) : Zcl a k := by unfold Zrd at h; unfold Zcl; omega
/-- adding to the cells' growths -/
theorem gr_l (hS : SHP N o) (n c j1 : Int32) : ∃ N', itr (fun s96 : Int32 × QM => lp_X3_clause_96 (o + 53) n c j1 s96.1 s96.2) FU (0, N) = some N' ∧ SQ N N' o (fun a _ => a = 55) ∧ ∀ i, i < 16 → mI N' (o + 55) i = if (c &&& ((1 : Int32) <<< (nI i &&& 31))) = 0 then mI N (o + 55) i else mI N (o + 55) i + (if j1 = 0 then n else -n) := by
  have loop := itr_J (f := fun s96 : Int32 × QM => lp_X3_clause_96 (o + 53) n c j1 s96.1 s96.2) (s0 := (0, N)) (fun k s => ∃ Mw, s = (nI k, Mw) ∧ k ≤ 16 ∧ SQ N Mw o (fun a _ => a = 55) ∧ ∀ i, i < 16 → mI Mw (o + 55) i = if i < k then (if (c &&& ((1 : Int32) <<< (nI i &&& 31))) = 0 then mI N (o + 55) i else mI N (o + 55) i + (if j1 = 0 then n else -n)) else mI N (o + 55) i) (fun r => SQ N r o (fun a _ => a = 55) ∧ ∀ i, i < 16 → mI r (o + 55) i = if (c &&& ((1 : Int32) <<< (nI i &&& 31))) = 0 then mI N (o + 55) i else mI N (o + 55) i + (if j1 = 0 then n else -n)) 16
    ⟨N, rfl, Nat.zero_le _, SQ.rfl, fun i _ => by rw [if_neg (Nat.not_lt_zero i)]⟩
    (fun k s hs => by
      obtain ⟨Mw, rfl, hk, g1, g2⟩ := hs
      have hS' := g1.shp hS
      show (∃ r, lp_X3_clause_96 (o + 53) n c j1 (nI k) Mw = some (.inr r) ∧ _) ∨ _ ∧ ∃ s', lp_X3_clause_96 (o + 53) n c j1 (nI k) Mw = some (.inl s') ∧ _
      by_cases e : k = 16
      · left
        subst e
        have f : (16 : Int32) ≤ nI 16 := by decide
        refine ⟨Mw, ?_, g1, fun i hi => ?_⟩
        · simp only [lp_X3_clause_96, f, mt_sI, mt_sJ, mt_sP, mt_rI, mt_rJ, ml_sI, ml_sJ, ml_sP, ml_rI, ml_rJ, mP_sI, mP_sJ, mP_rI, mP_rJ, SHP_sI, SHP_sJ, SHP_rI, SHP_rJ, mI_sI, mI_rI, mI_sJ, mI_rJ, mI_sP, mJ_sI, mJ_rI, mJ_sP, mJ_sJ, mJ_rJ, gI_e, pI_e, ck_e, bnd_s, nm_eq, pr2_e, cnul_0, cnul_1, drf_1, sm_1, sm_2, aI_e, aJ_e, wI_e, wJ_e, aL_e, cpI_e, cpJ_e, Nat.reduceLeDiff, Nat.reduceEqDiff, Nat.add_left_cancel_iff, ad0, ad1, false_and, and_false, true_and, and_true, reduceIte, if_true, if_false, zb0, zb1, Int32.reduceLT, Int32.reduceLE, i10, nw1, nw2, nt1, nt2, not_true_eq_false, not_false_eq_true]
        · rw [g2 i hi, if_pos hi]
      · right
        have hk' : k < 16 := by omega
        have f : ¬ (16 : Int32) ≤ nI k := by
          have : ¬ nI 16 ≤ nI k := by rw [nI_leI (by omega) (by omega)]; omega
          exact this
        have r0 := g2 k hk'
        rw [if_neg (by omega)] at r0
        refine ⟨hk', ?_⟩
        by_cases z : (c &&& ((1 : Int32) <<< (nI k &&& 31))) = 0
        · refine ⟨(nI (k + 1), Mw), ?_, Mw, rfl, hk', g1, fun i hi => ?_⟩
          · simp only [lp_X3_clause_96, f, z, nI_1, mt_sI, mt_sJ, mt_sP, mt_rI, mt_rJ, ml_sI, ml_sJ, ml_sP, ml_rI, ml_rJ, mP_sI, mP_sJ, mP_rI, mP_rJ, SHP_sI, SHP_sJ, SHP_rI, SHP_rJ, mI_sI, mI_rI, mI_sJ, mI_rJ, mI_sP, mJ_sI, mJ_rI, mJ_sP, mJ_sJ, mJ_rJ, gI_e, pI_e, ck_e, bnd_s, nm_eq, pr2_e, cnul_0, cnul_1, drf_1, sm_1, sm_2, aI_e, aJ_e, wI_e, wJ_e, aL_e, cpI_e, cpJ_e, Nat.reduceLeDiff, Nat.reduceEqDiff, Nat.add_left_cancel_iff, ad0, ad1, false_and, and_false, true_and, and_true, reduceIte, if_true, if_false, zb0, zb1, Int32.reduceLT, Int32.reduceLE, i10, nw1, nw2, nt1, nt2, not_true_eq_false, not_false_eq_true]
          · rw [g2 i hi]
            by_cases e2 : i = k
            · subst e2
              rw [if_neg (by omega), if_pos (by omega), if_pos z]
            · by_cases e3 : i < k
              · rw [if_pos e3, if_pos (show i < k + 1 by omega)]
              · rw [if_neg e3, if_neg (show ¬ i < k + 1 by omega)]
        · have upd : ∀ w : Int32, w = mI N (o + 55) k + (if j1 = 0 then n else -n) → ∀ i, i < 16 → mI (sI Mw (o + 55) k w) (o + 55) i = if i < k + 1 then (if (c &&& ((1 : Int32) <<< (nI i &&& 31))) = 0 then mI N (o + 55) i else mI N (o + 55) i + (if j1 = 0 then n else -n)) else mI N (o + 55) i := by
            intro w hw i hi
            rw [mI_sI]
            by_cases e2 : i = k
            · subst e2
              rw [if_pos ⟨rfl, rfl⟩, if_pos (by omega), if_neg z, hw]
            · rw [if_neg (by omega), g2 i hi]
              by_cases e3 : i < k
              · rw [if_pos e3, if_pos (show i < k + 1 by omega)]
              · rw [if_neg e3, if_neg (show ¬ i < k + 1 by omega)]
          by_cases y : j1 = 0
          · refine ⟨(nI (k + 1), sI Mw (o + 55) k (mI N (o + 55) k + n)), ?_, _, rfl, hk', g1.sI rfl, upd _ (by rw [if_pos y])⟩
            simp only [lp_X3_clause_96, f, z, y, r0, nI_1, mt_sI, mt_sJ, mt_sP, mt_rI, mt_rJ, ml_sI, ml_sJ, ml_sP, ml_rI, ml_rJ, mP_sI, mP_sJ, mP_rI, mP_rJ, SHP_sI, SHP_sJ, SHP_rI, SHP_rJ, mI_sI, mI_rI, mI_sJ, mI_rJ, mI_sP, mJ_sI, mJ_rI, mJ_sP, mJ_sJ, mJ_rJ, gI_e, pI_e, ck_e, bnd_s, nm_eq, pr2_e, cnul_0, cnul_1, drf_1, sm_1, sm_2, aI_e, aJ_e, wI_e, wJ_e, aL_e, cpI_e, cpJ_e, Nat.reduceLeDiff, Nat.reduceEqDiff, Nat.add_left_cancel_iff, ad0, ad1, false_and, and_false, true_and, and_true, reduceIte, if_true, if_false, zb0, zb1, Int32.reduceLT, Int32.reduceLE, i10, nw1, nw2, nt1, nt2, not_true_eq_false, not_false_eq_true, mt_0, mt_1, mt_2, mt_3, ml_3, mt_4, ml_4, mt_5, mt_6, ml_6, mt_7, ml_7, mt_8, ml_8, mt_9, mt_10, ml_10, mt_11, ml_11, mt_12, ml_12, mt_13, mt_14, ml_14, mt_15, ml_15, mt_16, ml_16, mt_17, mt_18, ml_18, mt_19, mt_20, ml_20, mt_21, mt_22, ml_22, mt_23, mt_24, ml_24, mt_25, mt_26, ml_26, mt_53, mt_54, ml_54, mt_55, ml_55, mt_56, mt_57, ml_57, mt_58, ml_58, mt_59, mt_60, ml_60, mt_61, mt_62, ml_62, mt_63, ml_63, mt_64, mt_65, ml_65, mt_66, mt_67, ml_67, mt_68, mt_69, ml_69, mt_70, mt_71, ml_71, mt_72, mt_73, ml_73, mt_74, mt_75, ml_75, mt_76, mt_77, ml_77, gP_0_0, gP_0_1, gP_0_4, gP_0_5, gP_0_6, gP_0_7, gP_0_8, gP_0_9, gP_1_0, gP_1_1, gP_1_4, gP_1_5, gP_1_6, gP_2_0, gP_5_1, gP_5_2, gP_5_3, gP_9_1, gP_9_2, gP_9_3, gP_13_1, gP_13_2, gP_13_3, gP_17_3, gP_19_3, gP_21_3, gP_23_3, gP_25_3, gP_53_0, gP_53_6, gP_56_0, gP_59_0, gP_61_3, gP_64_0, gP_66_2, gP_68_2, gP_70_2, gP_72_2, gP_74_2, gP_76_2, aP_4, mtw_4, mtl_4, mll_4, gPw_4, aP_58, mtw_58, mtl_58, mll_58, gPw_58, hS', hk']
          · refine ⟨(nI (k + 1), sI Mw (o + 55) k (mI N (o + 55) k + (-n))), ?_, _, rfl, hk', g1.sI rfl, upd _ (by rw [if_neg y])⟩
            simp only [lp_X3_clause_96, f, z, y, r0, nI_1, mt_sI, mt_sJ, mt_sP, mt_rI, mt_rJ, ml_sI, ml_sJ, ml_sP, ml_rI, ml_rJ, mP_sI, mP_sJ, mP_rI, mP_rJ, SHP_sI, SHP_sJ, SHP_rI, SHP_rJ, mI_sI, mI_rI, mI_sJ, mI_rJ, mI_sP, mJ_sI, mJ_rI, mJ_sP, mJ_sJ, mJ_rJ, gI_e, pI_e, ck_e, bnd_s, nm_eq, pr2_e, cnul_0, cnul_1, drf_1, sm_1, sm_2, aI_e, aJ_e, wI_e, wJ_e, aL_e, cpI_e, cpJ_e, Nat.reduceLeDiff, Nat.reduceEqDiff, Nat.add_left_cancel_iff, ad0, ad1, false_and, and_false, true_and, and_true, reduceIte, if_true, if_false, zb0, zb1, Int32.reduceLT, Int32.reduceLE, i10, nw1, nw2, nt1, nt2, not_true_eq_false, not_false_eq_true, mt_0, mt_1, mt_2, mt_3, ml_3, mt_4, ml_4, mt_5, mt_6, ml_6, mt_7, ml_7, mt_8, ml_8, mt_9, mt_10, ml_10, mt_11, ml_11, mt_12, ml_12, mt_13, mt_14, ml_14, mt_15, ml_15, mt_16, ml_16, mt_17, mt_18, ml_18, mt_19, mt_20, ml_20, mt_21, mt_22, ml_22, mt_23, mt_24, ml_24, mt_25, mt_26, ml_26, mt_53, mt_54, ml_54, mt_55, ml_55, mt_56, mt_57, ml_57, mt_58, ml_58, mt_59, mt_60, ml_60, mt_61, mt_62, ml_62, mt_63, ml_63, mt_64, mt_65, ml_65, mt_66, mt_67, ml_67, mt_68, mt_69, ml_69, mt_70, mt_71, ml_71, mt_72, mt_73, ml_73, mt_74, mt_75, ml_75, mt_76, mt_77, ml_77, gP_0_0, gP_0_1, gP_0_4, gP_0_5, gP_0_6, gP_0_7, gP_0_8, gP_0_9, gP_1_0, gP_1_1, gP_1_4, gP_1_5, gP_1_6, gP_2_0, gP_5_1, gP_5_2, gP_5_3, gP_9_1, gP_9_2, gP_9_3, gP_13_1, gP_13_2, gP_13_3, gP_17_3, gP_19_3, gP_21_3, gP_23_3, gP_25_3, gP_53_0, gP_53_6, gP_56_0, gP_59_0, gP_61_3, gP_64_0, gP_66_2, gP_68_2, gP_70_2, gP_72_2, gP_74_2, gP_76_2, aP_4, mtw_4, mtl_4, mll_4, gPw_4, aP_58, mtw_58, mtl_58, mll_58, gPw_58, hS', hk'])
    (by decide)
  obtain ⟨N', h1, h2⟩ := loop
  exact ⟨N', h1, h2⟩
/-- thin or thick: from behind 'thi' or 'thin' on -/
theorem cl_j (h : TC M o P L) (h4 : mI M (o + 53) 4 = nI t) (h5 : mI M (o + 53) 5 = nI m) (ht : t ≤ 9) (hm : m ≤ 9) {i : Nat} (hi : i < 8) (j1 : Int32) (g : SR M N o L x) : ∃ N', jn_X3_clause_73 (o + 53) j1 i (o + 53) N = some N' ∧ SQ M N' o Zcl ∧ (mI N' (o + 53) 7 = mI M (o + 53) 7 ∧ mI N' (o + 53) 8 = mI M (o + 53) 8) ∧ (∀ q, bW P (PQ 3) (bSr (pN P) (bW P (PQ i) x)) = .inl q → mI N' (o + 53) 2 = nI q ∧ mI N' (o + 53) 3 = 1) ∧ ∀ q1 q2 n, bW P (PQ i) x = .inr q1 → pN P q1 = .inr (q2, n) → P q2 = 32 → (∀ q, PX P (some (false, false)) 0 (q2 + 1) (.inl q) → mI N' (o + 53) 2 = nI q ∧ mI N' (o + 53) 3 = 1) ∧ ∀ q l, PX P (some (false, false)) 0 (q2 + 1) (.inr (q, l)) → (mI N' (o + 53) 2 = nI q ∧ mI N' (o + 53) 3 = 0) ∧ ∀ c, c < 16 → grV c t m [((if j1 = 0 then 0 else 1), n, l)] (mI M (o + 55) c) = some (mI N' (o + 55) c) := by
  have sN : SHP N o := by
    cases x with
    | inl q => exact g.1.1.shp h.1
    | inr p => exact g.1.1.shp h.1
  obtain ⟨N1, e1, g1⟩ := ex_e h hi g
  obtain ⟨v2, N2, e2, g2, n2⟩ := nu_e h g1
  obtain ⟨N3, e3, g3⟩ := ex_e h (i := 3) (by decide) g2
  have sh : ∀ {K : QM} {y : Nat ⊕ Nat}, SR M K o L y → SHP K o ∧ SQ M K o Zrd := fun {K y} gg => by
    cases y with
    | inl q => exact ⟨gg.1.1.shp h.1, gg.1.1⟩
    | inr p => exact ⟨gg.1.1.shp h.1, gg.1.1⟩
  have s1 := (sh g1).1
  have s2 := (sh g2).1
  have s3 := (sh g3).1
  -- whatever the E comes to
  have fin : ∀ v4 N4, fn_ef 64 0 N3 (o + 53) 0 = some (v4, N4) → SHP N4 o ∧ SQ M N4 o Zrd → ∃ N', jn_X3_clause_73 (o + 53) j1 i (o + 53) N = some N' ∧ SQ N4 N' o (fun a _ => a = 55) ∧ ∀ c, c < 16 → mI N' (o + 55) c = if (v4 &&& ((1 : Int32) <<< (nI c &&& 31))) = 0 then mI N4 (o + 55) c else mI N4 (o + 55) c + (if j1 = 0 then v2 else -v2) := by
    intro v4 N4 e4 s4
    obtain ⟨N', e5, g5, g6⟩ := gr_l s4.1 v2 v4 j1
    refine ⟨N', ?_, g5, g6⟩
    simp only [jn_X3_clause_73, e1, e2, e3, e4, e5, mt_sI, mt_sJ, mt_sP, mt_rI, mt_rJ, ml_sI, ml_sJ, ml_sP, ml_rI, ml_rJ, mP_sI, mP_sJ, mP_rI, mP_rJ, SHP_sI, SHP_sJ, SHP_rI, SHP_rJ, mI_sI, mI_rI, mI_sJ, mI_rJ, mI_sP, mJ_sI, mJ_rI, mJ_sP, mJ_sJ, mJ_rJ, gI_e, pI_e, ck_e, bnd_s, nm_eq, pr2_e, cnul_0, cnul_1, drf_1, sm_1, sm_2, aI_e, aJ_e, wI_e, wJ_e, aL_e, cpI_e, cpJ_e, Nat.reduceLeDiff, Nat.reduceEqDiff, Nat.add_left_cancel_iff, ad0, ad1, false_and, and_false, true_and, and_true, reduceIte, if_true, if_false, zb0, zb1, Int32.reduceLT, Int32.reduceLE, i10, nw1, nw2, nt1, nt2, not_true_eq_false, not_false_eq_true, mt_0, mt_1, mt_2, mt_3, ml_3, mt_4, ml_4, mt_5, mt_6, ml_6, mt_7, ml_7, mt_8, ml_8, mt_9, mt_10, ml_10, mt_11, ml_11, mt_12, ml_12, mt_13, mt_14, ml_14, mt_15, ml_15, mt_16, ml_16, mt_17, mt_18, ml_18, mt_19, mt_20, ml_20, mt_21, mt_22, ml_22, mt_23, mt_24, ml_24, mt_25, mt_26, ml_26, mt_53, mt_54, ml_54, mt_55, ml_55, mt_56, mt_57, ml_57, mt_58, ml_58, mt_59, mt_60, ml_60, mt_61, mt_62, ml_62, mt_63, ml_63, mt_64, mt_65, ml_65, mt_66, mt_67, ml_67, mt_68, mt_69, ml_69, mt_70, mt_71, ml_71, mt_72, mt_73, ml_73, mt_74, mt_75, ml_75, mt_76, mt_77, ml_77, gP_0_0, gP_0_1, gP_0_4, gP_0_5, gP_0_6, gP_0_7, gP_0_8, gP_0_9, gP_1_0, gP_1_1, gP_1_4, gP_1_5, gP_1_6, gP_2_0, gP_5_1, gP_5_2, gP_5_3, gP_9_1, gP_9_2, gP_9_3, gP_13_1, gP_13_2, gP_13_3, gP_17_3, gP_19_3, gP_21_3, gP_23_3, gP_25_3, gP_53_0, gP_53_6, gP_56_0, gP_59_0, gP_61_3, gP_64_0, gP_66_2, gP_68_2, gP_70_2, gP_72_2, gP_74_2, gP_76_2, aP_4, mtw_4, mtl_4, mll_4, gPw_4, aP_58, mtw_58, mtl_58, mll_58, gPw_58, sN, s1, s2, s3]
  have frm : ∀ N4 N', SQ M N4 o Zrd → SQ N4 N' o (fun a _ => a = 55) → SQ M N' o Zcl ∧ (mI N' (o + 53) 7 = mI M (o + 53) 7 ∧ mI N' (o + 53) 8 = mI M (o + 53) 8) ∧ mI N' (o + 53) 2 = mI N4 (o + 53) 2 ∧ mI N' (o + 53) 3 = mI N4 (o + 53) 3 := by
    intro N4 N' a b
    refine ⟨(a.mono fun _ _ z => rd_cl z).trans (b.mono fun _ _ z => Or.inr z), ⟨?_, ?_⟩, b.2.2.2.2 53 2 (by omega), b.2.2.2.2 53 3 (by omega)⟩
    · exact (b.2.2.2.2 53 7 (by omega)).trans (a.2.2.2.2 53 7 (by unfold Zrd; omega))
    · exact (b.2.2.2.2 53 8 (by omega)).trans (a.2.2.2.2 53 8 (by unfold Zrd; omega))
  cases z : bW P (PQ 3) (bSr (pN P) (bW P (PQ i) x)) with
  | inl q =>
    rw [z] at g3
    obtain ⟨v4, N4, e4, g4⟩ := ep_dead (n := 62) (d := 0) h g3.1
    obtain ⟨N', e5, g5, -⟩ := fin v4 N4 e4 ⟨g4.1.shp h.1, g4.1⟩
    obtain ⟨k1, k2, k3, k4⟩ := frm N4 N' g4.1 g5
    refine ⟨N', e5, k1, k2, fun q' e => ?_, fun q1 q2 n w1 w2 w3 => ?_⟩
    · cases e
      exact ⟨k3.trans g4.2.1, k4.trans g4.2.2⟩
    · exfalso
      rw [w1] at z
      have z : bW P (PQ 3) (dSr (pN P q1)) = .inl q := z
      rw [w2] at z
      have z : (if P q2 = 32 then Sum.inr (q2 + 1) else Sum.inl q2 : Nat ⊕ Nat) = .inl q := z
      rw [if_pos w3] at z
      cases z
  | inr q4 =>
    rw [z] at g3
    obtain ⟨r, hr⟩ := PX_ex h.2.1 false false 0 q4 g3.2
    obtain ⟨v4, N4, e4, g4⟩ := ep_e h h4 h5 ht hm g3 hr
    have s4 : SHP N4 o ∧ SQ M N4 o Zrd := by
      cases r with
      | inl q => exact sh (y := .inl q) g4
      | inr y => exact sh (y := .inr y.1) g4.1
    obtain ⟨N', e5, g5, g6⟩ := fin v4 N4 e4 s4
    obtain ⟨k1, k2, k3, k4⟩ := frm N4 N' s4.2 g5
    refine ⟨N', e5, k1, k2, fun q' e => (by cases e), fun q1 q2 n w1 w2 w3 => ?_⟩
    have q4e : q4 = q2 + 1 := by
      rw [w1] at z
      have z : bW P (PQ 3) (dSr (pN P q1)) = .inr q4 := z
      rw [w2] at z
      have z : (if P q2 = 32 then Sum.inr (q2 + 1) else Sum.inl q2 : Nat ⊕ Nat) = .inr q4 := z
      rw [if_pos w3] at z
      cases z
      rfl
    have vn : v2 = nI n := n2 q1 q2 n w1 w2
    subst q4e
    have again : ∀ r', PX P (some (false, false)) 0 (q2 + 1) r' → ∃ v, v = v4 ∧ ER M N4 o L t m v r' := fun r' hr' => by
      obtain ⟨v', N4', e4', g4'⟩ := ep_e h h4 h5 ht hm g3 hr'
      rw [e4] at e4'
      cases e4'
      exact ⟨_, rfl, g4'⟩
    refine ⟨fun q hq => ?_, fun q l hq => ?_⟩
    · obtain ⟨v', rfl, w⟩ := again _ hq
      have w : PLC M N4 o q true ∧ q ≤ L := w
      exact ⟨k3.trans w.1.2.1, k4.trans w.1.2.2⟩
    · obtain ⟨v', rfl, w, f, fe, fv⟩ := again _ hq
      have w : PLC M N4 o q false ∧ q ≤ L := w
      refine ⟨⟨k3.trans w.1.2.1, k4.trans w.1.2.2⟩, fun c hc => ?_⟩
      have c1 := g6 c hc
      have c2 : mI N4 (o + 55) c = mI M (o + 55) c := s4.2.2.2.2.2 55 c (by unfold Zrd; omega)
      rw [c1, c2, vn]
      have ev := fv c [] hc
      show (if 1 < (if j1 = 0 then 0 else 1) then _ else (match evL c t m l [] with | some [b] => some (if b then (if (if j1 = 0 then 0 else 1) = 0 then mI M (o + 55) c + nI n else mI M (o + 55) c + -nI n) else mI M (o + 55) c) | _ => none)) = _
      have ev : evL c t m l [] = some [f c] := ev
      rw [ev, fe]
      by_cases y : j1 = 0
      · simp only [y, if_true]
        rw [if_neg (by decide)]
        cases hf : f c with
        | true => rw [if_pos rfl, if_neg (by rw [mkb_bit hc, hf]; decide)]
        | false => rw [if_neg (by decide), if_pos ((mkb_bit hc).mpr hf)]
      · simp only [y, if_false]
        rw [if_neg (by decide)]
        cases hf : f c with
        | true => rw [if_pos rfl, if_neg (by decide), if_neg (by rw [mkb_bit hc, hf]; decide)]
        | false => rw [if_neg (by decide), if_pos ((mkb_bit hc).mpr hf)]
end RE4
