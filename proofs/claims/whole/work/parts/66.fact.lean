/-! ===== the class's E: tests, factors, the loop ===== -/
section RE2
variable {M N : QM} {o L p q t m d : Nat} {P : Nat → Nat} {x : Nat ⊕ Nat} {b : Bool}
theorem on_b (h : TC M o P L) (n : PLC M N o p true) {i : Nat} : fn_X3_oneOf N (o + 53) i = some (-1, sI N (o + 53) 3 1) := by
  have hS := n.1.shp h.1
  have f0 : mI N (o + 53) 3 = 1 := n.2.2
  simp only [fn_X3_oneOf, jn_X3_oneOf_18, jn_X3_oneOf_35, f0, mt_sI, mt_sJ, mt_sP, mt_rI, mt_rJ, ml_sI, ml_sJ, ml_sP, ml_rI, ml_rJ, mP_sI, mP_sJ, mP_rI, mP_rJ, SHP_sI, SHP_sJ, SHP_rI, SHP_rJ, mI_sI, mI_rI, mI_sJ, mI_rJ, mI_sP, mJ_sI, mJ_rI, mJ_sP, mJ_sJ, mJ_rJ, gI_e, pI_e, ck_e, bnd_s, nm_eq, pr2_e, cnul_0, cnul_1, drf_1, sm_1, sm_2, aI_e, aJ_e, wI_e, wJ_e, aL_e, cpI_e, cpJ_e, Nat.reduceLeDiff, Nat.reduceEqDiff, Nat.add_left_cancel_iff, ad0, ad1, false_and, and_false, true_and, and_true, reduceIte, if_true, if_false, zb0, zb1, Int32.reduceLT, Int32.reduceLE, i10, nw1, nw2, nt1, nt2, not_true_eq_false, not_false_eq_true, mt_0, mt_1, mt_2, mt_3, ml_3, mt_4, ml_4, mt_5, mt_6, ml_6, mt_7, ml_7, mt_8, ml_8, mt_9, mt_10, ml_10, mt_11, ml_11, mt_12, ml_12, mt_13, mt_14, ml_14, mt_15, ml_15, mt_16, ml_16, mt_17, mt_18, ml_18, mt_19, mt_20, ml_20, mt_21, mt_22, ml_22, mt_23, mt_24, ml_24, mt_25, mt_26, ml_26, mt_53, mt_54, ml_54, mt_55, ml_55, mt_56, mt_57, ml_57, mt_58, ml_58, mt_59, mt_60, ml_60, mt_61, mt_62, ml_62, mt_63, ml_63, mt_64, mt_65, ml_65, mt_66, mt_67, ml_67, mt_68, mt_69, ml_69, mt_70, mt_71, ml_71, mt_72, mt_73, ml_73, mt_74, mt_75, ml_75, mt_76, mt_77, ml_77, gP_0_0, gP_0_1, gP_0_4, gP_0_5, gP_0_6, gP_0_7, gP_0_8, gP_0_9, gP_1_0, gP_1_1, gP_1_4, gP_1_5, gP_1_6, gP_2_0, gP_5_1, gP_5_2, gP_5_3, gP_9_1, gP_9_2, gP_9_3, gP_13_1, gP_13_2, gP_13_3, gP_17_3, gP_19_3, gP_21_3, gP_23_3, gP_25_3, gP_53_0, gP_53_6, gP_56_0, gP_59_0, gP_61_3, gP_64_0, gP_66_2, gP_68_2, gP_70_2, gP_72_2, gP_74_2, gP_76_2, aP_4, mtw_4, mtl_4, mll_4, gPw_4, aP_58, mtw_58, mtl_58, mll_58, gPw_58, hS]
theorem on_e (h : TC M o P L) {i e : Nat} (hi : i < 8) (he : e ≤ 6) {g : Nat → Nat} (hge : g 999 = e) (hg : ∀ c, c < 128 → g c ≤ e ∧ fn_J0_indexOf_0f7a4 i (nI c) = some (if g c = e then -1 else nI (g c))) (n : PLC M N o p false) (hp : p ≤ L) : (g (P p) = e → fn_X3_oneOf N (o + 53) i = some (-1, sI N (o + 53) 3 1)) ∧ (¬ g (P p) = e → fn_X3_oneOf N (o + 53) i = some (nI (g (P p)), sI N (o + 53) 2 (nI (p + 1)))) := by
  have hL := h.2.1.1
  have hS := n.1.shp h.1
  have f0 : mI N (o + 53) 3 = 0 := n.2.2
  have f1 := n.len h
  have f2 := n.2.1
  by_cases hl : p < L
  · have f3 : nI p < nI L := nI_lt hl (by omega)
    have f4 := n.at h hl
    have hl2 : p < 100 := by omega
    obtain ⟨g1, g2⟩ := hg (P p) (h.2.1.2.1 p hl)
    refine ⟨fun z => ?_, fun z => ?_⟩
    · rw [if_pos z] at g2
      simp only [fn_X3_oneOf, jn_X3_oneOf_35, f0, f1, f2, f3, f4, g2, sk8 hi, mt_sI, mt_sJ, mt_sP, mt_rI, mt_rJ, ml_sI, ml_sJ, ml_sP, ml_rI, ml_rJ, mP_sI, mP_sJ, mP_rI, mP_rJ, SHP_sI, SHP_sJ, SHP_rI, SHP_rJ, mI_sI, mI_rI, mI_sJ, mI_rJ, mI_sP, mJ_sI, mJ_rI, mJ_sP, mJ_sJ, mJ_rJ, gI_e, pI_e, ck_e, bnd_s, nm_eq, pr2_e, cnul_0, cnul_1, drf_1, sm_1, sm_2, aI_e, aJ_e, wI_e, wJ_e, aL_e, cpI_e, cpJ_e, Nat.reduceLeDiff, Nat.reduceEqDiff, Nat.add_left_cancel_iff, ad0, ad1, false_and, and_false, true_and, and_true, reduceIte, if_true, if_false, zb0, zb1, Int32.reduceLT, Int32.reduceLE, i10, nw1, nw2, nt1, nt2, not_true_eq_false, not_false_eq_true, mt_0, mt_1, mt_2, mt_3, ml_3, mt_4, ml_4, mt_5, mt_6, ml_6, mt_7, ml_7, mt_8, ml_8, mt_9, mt_10, ml_10, mt_11, ml_11, mt_12, ml_12, mt_13, mt_14, ml_14, mt_15, ml_15, mt_16, ml_16, mt_17, mt_18, ml_18, mt_19, mt_20, ml_20, mt_21, mt_22, ml_22, mt_23, mt_24, ml_24, mt_25, mt_26, ml_26, mt_53, mt_54, ml_54, mt_55, ml_55, mt_56, mt_57, ml_57, mt_58, ml_58, mt_59, mt_60, ml_60, mt_61, mt_62, ml_62, mt_63, ml_63, mt_64, mt_65, ml_65, mt_66, mt_67, ml_67, mt_68, mt_69, ml_69, mt_70, mt_71, ml_71, mt_72, mt_73, ml_73, mt_74, mt_75, ml_75, mt_76, mt_77, ml_77, gP_0_0, gP_0_1, gP_0_4, gP_0_5, gP_0_6, gP_0_7, gP_0_8, gP_0_9, gP_1_0, gP_1_1, gP_1_4, gP_1_5, gP_1_6, gP_2_0, gP_5_1, gP_5_2, gP_5_3, gP_9_1, gP_9_2, gP_9_3, gP_13_1, gP_13_2, gP_13_3, gP_17_3, gP_19_3, gP_21_3, gP_23_3, gP_25_3, gP_53_0, gP_53_6, gP_56_0, gP_59_0, gP_61_3, gP_64_0, gP_66_2, gP_68_2, gP_70_2, gP_72_2, gP_74_2, gP_76_2, aP_4, mtw_4, mtl_4, mll_4, gPw_4, aP_58, mtw_58, mtl_58, mll_58, gPw_58, hS, hl2]
    · rw [if_neg z] at g2
      have f5 : 0 ≤ nI (g (P p)) := nI_pos' (by omega)
      simp only [fn_X3_oneOf, jn_X3_oneOf_35, f0, f1, f2, f3, f4, f5, g2, sk8 hi, nI_1, mt_sI, mt_sJ, mt_sP, mt_rI, mt_rJ, ml_sI, ml_sJ, ml_sP, ml_rI, ml_rJ, mP_sI, mP_sJ, mP_rI, mP_rJ, SHP_sI, SHP_sJ, SHP_rI, SHP_rJ, mI_sI, mI_rI, mI_sJ, mI_rJ, mI_sP, mJ_sI, mJ_rI, mJ_sP, mJ_sJ, mJ_rJ, gI_e, pI_e, ck_e, bnd_s, nm_eq, pr2_e, cnul_0, cnul_1, drf_1, sm_1, sm_2, aI_e, aJ_e, wI_e, wJ_e, aL_e, cpI_e, cpJ_e, Nat.reduceLeDiff, Nat.reduceEqDiff, Nat.add_left_cancel_iff, ad0, ad1, false_and, and_false, true_and, and_true, reduceIte, if_true, if_false, zb0, zb1, Int32.reduceLT, Int32.reduceLE, i10, nw1, nw2, nt1, nt2, not_true_eq_false, not_false_eq_true, mt_0, mt_1, mt_2, mt_3, ml_3, mt_4, ml_4, mt_5, mt_6, ml_6, mt_7, ml_7, mt_8, ml_8, mt_9, mt_10, ml_10, mt_11, ml_11, mt_12, ml_12, mt_13, mt_14, ml_14, mt_15, ml_15, mt_16, ml_16, mt_17, mt_18, ml_18, mt_19, mt_20, ml_20, mt_21, mt_22, ml_22, mt_23, mt_24, ml_24, mt_25, mt_26, ml_26, mt_53, mt_54, ml_54, mt_55, ml_55, mt_56, mt_57, ml_57, mt_58, ml_58, mt_59, mt_60, ml_60, mt_61, mt_62, ml_62, mt_63, ml_63, mt_64, mt_65, ml_65, mt_66, mt_67, ml_67, mt_68, mt_69, ml_69, mt_70, mt_71, ml_71, mt_72, mt_73, ml_73, mt_74, mt_75, ml_75, mt_76, mt_77, ml_77, gP_0_0, gP_0_1, gP_0_4, gP_0_5, gP_0_6, gP_0_7, gP_0_8, gP_0_9, gP_1_0, gP_1_1, gP_1_4, gP_1_5, gP_1_6, gP_2_0, gP_5_1, gP_5_2, gP_5_3, gP_9_1, gP_9_2, gP_9_3, gP_13_1, gP_13_2, gP_13_3, gP_17_3, gP_19_3, gP_21_3, gP_23_3, gP_25_3, gP_53_0, gP_53_6, gP_56_0, gP_59_0, gP_61_3, gP_64_0, gP_66_2, gP_68_2, gP_70_2, gP_72_2, gP_74_2, gP_76_2, aP_4, mtw_4, mtl_4, mll_4, gPw_4, aP_58, mtw_58, mtl_58, mll_58, gPw_58, hS, hl2]
  · have f3 : ¬ nI p < nI L := by rw [nI_ltI (by omega) (by omega)]; omega
    refine ⟨fun _ => ?_, fun z => ?_⟩
    · simp only [fn_X3_oneOf, jn_X3_oneOf_18, jn_X3_oneOf_35, f0, f1, f2, f3, mt_sI, mt_sJ, mt_sP, mt_rI, mt_rJ, ml_sI, ml_sJ, ml_sP, ml_rI, ml_rJ, mP_sI, mP_sJ, mP_rI, mP_rJ, SHP_sI, SHP_sJ, SHP_rI, SHP_rJ, mI_sI, mI_rI, mI_sJ, mI_rJ, mI_sP, mJ_sI, mJ_rI, mJ_sP, mJ_sJ, mJ_rJ, gI_e, pI_e, ck_e, bnd_s, nm_eq, pr2_e, cnul_0, cnul_1, drf_1, sm_1, sm_2, aI_e, aJ_e, wI_e, wJ_e, aL_e, cpI_e, cpJ_e, Nat.reduceLeDiff, Nat.reduceEqDiff, Nat.add_left_cancel_iff, ad0, ad1, false_and, and_false, true_and, and_true, reduceIte, if_true, if_false, zb0, zb1, Int32.reduceLT, Int32.reduceLE, i10, nw1, nw2, nt1, nt2, not_true_eq_false, not_false_eq_true, mt_0, mt_1, mt_2, mt_3, ml_3, mt_4, ml_4, mt_5, mt_6, ml_6, mt_7, ml_7, mt_8, ml_8, mt_9, mt_10, ml_10, mt_11, ml_11, mt_12, ml_12, mt_13, mt_14, ml_14, mt_15, ml_15, mt_16, ml_16, mt_17, mt_18, ml_18, mt_19, mt_20, ml_20, mt_21, mt_22, ml_22, mt_23, mt_24, ml_24, mt_25, mt_26, ml_26, mt_53, mt_54, ml_54, mt_55, ml_55, mt_56, mt_57, ml_57, mt_58, ml_58, mt_59, mt_60, ml_60, mt_61, mt_62, ml_62, mt_63, ml_63, mt_64, mt_65, ml_65, mt_66, mt_67, ml_67, mt_68, mt_69, ml_69, mt_70, mt_71, ml_71, mt_72, mt_73, ml_73, mt_74, mt_75, ml_75, mt_76, mt_77, ml_77, gP_0_0, gP_0_1, gP_0_4, gP_0_5, gP_0_6, gP_0_7, gP_0_8, gP_0_9, gP_1_0, gP_1_1, gP_1_4, gP_1_5, gP_1_6, gP_2_0, gP_5_1, gP_5_2, gP_5_3, gP_9_1, gP_9_2, gP_9_3, gP_13_1, gP_13_2, gP_13_3, gP_17_3, gP_19_3, gP_21_3, gP_23_3, gP_25_3, gP_53_0, gP_53_6, gP_56_0, gP_59_0, gP_61_3, gP_64_0, gP_66_2, gP_68_2, gP_70_2, gP_72_2, gP_74_2, gP_76_2, aP_4, mtw_4, mtl_4, mll_4, gPw_4, aP_58, mtw_58, mtl_58, mll_58, gPw_58, hS]
    · exact absurd ((congrArg g (h.2.1.2.2 p (by omega))).trans hge) z
theorem vo_t (hS : SHP N o) (a c : Int32) : ∃ v, fn_X3_valueOf N (o + 53) a c = some v := by
  simp only [fn_X3_valueOf, nm_eq, gI_e (mt_53 hS)]
  by_cases z : a = 0
  · exact ⟨_, if_pos z⟩
  rw [if_neg z]
  by_cases z : a = 1
  · exact ⟨_, if_pos z⟩
  rw [if_neg z]
  by_cases z : a = 2
  · exact ⟨_, if_pos z⟩
  rw [if_neg z]
  by_cases z : a = 3
  · exact ⟨_, if_pos z⟩
  rw [if_neg z]
  by_cases z : a = 4
  · rw [if_pos z]
    by_cases z : fn_X8_rowOf c = 0
    · exact ⟨_, if_pos z⟩
    rw [if_neg z]
    by_cases z : fn_X8_rowOf c = 3
    · exact ⟨_, if_pos z⟩
    rw [if_neg z]
    by_cases z : c - c / 4 * 4 = 0
    · exact ⟨_, if_pos z⟩
    rw [if_neg z]
    by_cases z : c - c / 4 * 4 = 3
    · exact ⟨_, if_pos z⟩
    rw [if_neg z]
    exact ⟨_, rfl⟩
  rw [if_neg z]
  exact ⟨_, rfl⟩
theorem edge_c : ∀ c, c < 16 → ((nI (c / 4) = 0 ∨ nI (c / 4) = 3 ∨ nI (c % 4) = 0 ∨ nI (c % 4) = 3) ↔ (c / 4 % 3 = 0 ∨ c % 4 % 3 = 0)) := by decide +kernel
theorem vo_e (hS : SHP N o) (h4 : mI N (o + 53) 4 = nI t) (h5 : mI N (o + 53) 5 = nI m) {f c : Nat} (hf : f ≤ 5) (hc : c < 16) : fn_X3_valueOf N (o + 53) (nI f) (nI c) = some (nI (factV f c t m)) := by
  have r1 : fn_X8_rowOf (nI c) = nI (c / 4) := nI_div (b := 4) (by omega) (by decide)
  have r2 : nI c - nI c / 4 * 4 = nI (c % 4) := nI_mod 4 (by omega) (by decide)
  simp only [fn_X3_valueOf, nm_eq, gI_e (mt_53 hS), r1, r2, h4, h5]
  rcases (by omega : f = 0 ∨ f = 1 ∨ f = 2 ∨ f = 3 ∨ f = 4 ∨ f = 5) with rfl | rfl | rfl | rfl | rfl | rfl
  · rw [if_pos (by decide)]; rfl
  · rw [if_neg (by decide), if_pos (by decide)]; rfl
  · rw [if_neg (by decide), if_neg (by decide), if_pos (by decide)]; rfl
  · rw [if_neg (by decide), if_neg (by decide), if_neg (by decide), if_pos (by decide)]; rfl
  · rw [if_neg (by decide), if_neg (by decide), if_neg (by decide), if_neg (by decide), if_pos (by decide)]
    show _ = some (nI (if c / 4 % 3 = 0 ∨ c % 4 % 3 = 0 then 1 else 0))
    have e := edge_c c hc
    by_cases z : c / 4 % 3 = 0 ∨ c % 4 % 3 = 0
    · rw [if_pos z]
      have e := e.mpr z
      by_cases z1 : nI (c / 4) = 0
      · rw [if_pos z1]; rfl
      rw [if_neg z1]
      by_cases z2 : nI (c / 4) = 3
      · rw [if_pos z2]; rfl
      rw [if_neg z2]
      by_cases z3 : nI (c % 4) = 0
      · rw [if_pos z3]; rfl
      rw [if_neg z3]
      by_cases z4 : nI (c % 4) = 3
      · rw [if_pos z4]; rfl
      exact absurd e (by intro q; rcases q with q | q | q | q <;> contradiction)
    · rw [if_neg z]
      have e := fun q => z (e.mp q)
      rw [if_neg (fun q => e (Or.inl q)), if_neg (fun q => e (Or.inr (Or.inl q))), if_neg (fun q => e (Or.inr (Or.inr (Or.inl q)))), if_neg (fun q => e (Or.inr (Or.inr (Or.inr q))))]
      rfl
  · rw [if_neg (by decide), if_neg (by decide), if_neg (by decide), if_neg (by decide), if_neg (by decide)]; rfl
/-- the loop over the cells -/
theorem te_l (hS : SHP N o) {c3 c10 c15 : Int32} {V : Nat → Int32} (hV : ∀ c, c < 16 → fn_X3_valueOf N (o + 53) c3 (nI c) = some (V c)) : itr (fun s25 : Int32 × Int32 => lp_X3_test_25 (o + 53) N c10 c15 c3 s25.1 s25.2) FU (0, 0) = some (mkb (fun c => decide (1 + fn_J6_compare_7cf53 (V c) c15 = c10))) := by
  refine itr_k (fun k => (mkR (fun c => decide (1 + fn_J6_compare_7cf53 (V c) c15 = c10)) k, nI k)) 16 rfl (fun k hk => ?_) ?_ (by decide)
  · show lp_X3_test_25 (o + 53) N c10 c15 c3 _ (nI k) = _
    have f1 : ¬ (16 : Int32) ≤ nI k := by
      have : ¬ nI 16 ≤ nI k := by rw [nI_leI (by omega) (by omega)]; omega
      exact this
    have f2 := hV k hk
    by_cases z : 1 + fn_J6_compare_7cf53 (V k) c15 = c10
    · have f3 := mkR_t (f := fun c => decide (1 + fn_J6_compare_7cf53 (V c) c15 = c10)) (n := k) (decide_eq_true z)
      rw [f3]
      simp only [lp_X3_test_25, f1, f2, z, nI_1, mt_sI, mt_sJ, mt_sP, mt_rI, mt_rJ, ml_sI, ml_sJ, ml_sP, ml_rI, ml_rJ, mP_sI, mP_sJ, mP_rI, mP_rJ, SHP_sI, SHP_sJ, SHP_rI, SHP_rJ, mI_sI, mI_rI, mI_sJ, mI_rJ, mI_sP, mJ_sI, mJ_rI, mJ_sP, mJ_sJ, mJ_rJ, gI_e, pI_e, ck_e, bnd_s, nm_eq, pr2_e, cnul_0, cnul_1, drf_1, sm_1, sm_2, aI_e, aJ_e, wI_e, wJ_e, aL_e, cpI_e, cpJ_e, Nat.reduceLeDiff, Nat.reduceEqDiff, Nat.add_left_cancel_iff, ad0, ad1, false_and, and_false, true_and, and_true, reduceIte, if_true, if_false, zb0, zb1, Int32.reduceLT, Int32.reduceLE, i10, nw1, nw2, nt1, nt2, not_true_eq_false, not_false_eq_true, mt_0, mt_1, mt_2, mt_3, ml_3, mt_4, ml_4, mt_5, mt_6, ml_6, mt_7, ml_7, mt_8, ml_8, mt_9, mt_10, ml_10, mt_11, ml_11, mt_12, ml_12, mt_13, mt_14, ml_14, mt_15, ml_15, mt_16, ml_16, mt_17, mt_18, ml_18, mt_19, mt_20, ml_20, mt_21, mt_22, ml_22, mt_23, mt_24, ml_24, mt_25, mt_26, ml_26, mt_53, mt_54, ml_54, mt_55, ml_55, mt_56, mt_57, ml_57, mt_58, ml_58, mt_59, mt_60, ml_60, mt_61, mt_62, ml_62, mt_63, ml_63, mt_64, mt_65, ml_65, mt_66, mt_67, ml_67, mt_68, mt_69, ml_69, mt_70, mt_71, ml_71, mt_72, mt_73, ml_73, mt_74, mt_75, ml_75, mt_76, mt_77, ml_77, gP_0_0, gP_0_1, gP_0_4, gP_0_5, gP_0_6, gP_0_7, gP_0_8, gP_0_9, gP_1_0, gP_1_1, gP_1_4, gP_1_5, gP_1_6, gP_2_0, gP_5_1, gP_5_2, gP_5_3, gP_9_1, gP_9_2, gP_9_3, gP_13_1, gP_13_2, gP_13_3, gP_17_3, gP_19_3, gP_21_3, gP_23_3, gP_25_3, gP_53_0, gP_53_6, gP_56_0, gP_59_0, gP_61_3, gP_64_0, gP_66_2, gP_68_2, gP_70_2, gP_72_2, gP_74_2, gP_76_2, aP_4, mtw_4, mtl_4, mll_4, gPw_4, aP_58, mtw_58, mtl_58, mll_58, gPw_58, hS]
    · have f3 := mkR_f (f := fun c => decide (1 + fn_J6_compare_7cf53 (V c) c15 = c10)) (n := k) (decide_eq_false z)
      rw [f3]
      simp only [lp_X3_test_25, f1, f2, z, nI_1, mt_sI, mt_sJ, mt_sP, mt_rI, mt_rJ, ml_sI, ml_sJ, ml_sP, ml_rI, ml_rJ, mP_sI, mP_sJ, mP_rI, mP_rJ, SHP_sI, SHP_sJ, SHP_rI, SHP_rJ, mI_sI, mI_rI, mI_sJ, mI_rJ, mI_sP, mJ_sI, mJ_rI, mJ_sP, mJ_sJ, mJ_rJ, gI_e, pI_e, ck_e, bnd_s, nm_eq, pr2_e, cnul_0, cnul_1, drf_1, sm_1, sm_2, aI_e, aJ_e, wI_e, wJ_e, aL_e, cpI_e, cpJ_e, Nat.reduceLeDiff, Nat.reduceEqDiff, Nat.add_left_cancel_iff, ad0, ad1, false_and, and_false, true_and, and_true, reduceIte, if_true, if_false, zb0, zb1, Int32.reduceLT, Int32.reduceLE, i10, nw1, nw2, nt1, nt2, not_true_eq_false, not_false_eq_true, mt_0, mt_1, mt_2, mt_3, ml_3, mt_4, ml_4, mt_5, mt_6, ml_6, mt_7, ml_7, mt_8, ml_8, mt_9, mt_10, ml_10, mt_11, ml_11, mt_12, ml_12, mt_13, mt_14, ml_14, mt_15, ml_15, mt_16, ml_16, mt_17, mt_18, ml_18, mt_19, mt_20, ml_20, mt_21, mt_22, ml_22, mt_23, mt_24, ml_24, mt_25, mt_26, ml_26, mt_53, mt_54, ml_54, mt_55, ml_55, mt_56, mt_57, ml_57, mt_58, ml_58, mt_59, mt_60, ml_60, mt_61, mt_62, ml_62, mt_63, ml_63, mt_64, mt_65, ml_65, mt_66, mt_67, ml_67, mt_68, mt_69, ml_69, mt_70, mt_71, ml_71, mt_72, mt_73, ml_73, mt_74, mt_75, ml_75, mt_76, mt_77, ml_77, gP_0_0, gP_0_1, gP_0_4, gP_0_5, gP_0_6, gP_0_7, gP_0_8, gP_0_9, gP_1_0, gP_1_1, gP_1_4, gP_1_5, gP_1_6, gP_2_0, gP_5_1, gP_5_2, gP_5_3, gP_9_1, gP_9_2, gP_9_3, gP_13_1, gP_13_2, gP_13_3, gP_17_3, gP_19_3, gP_21_3, gP_23_3, gP_25_3, gP_53_0, gP_53_6, gP_56_0, gP_59_0, gP_61_3, gP_64_0, gP_66_2, gP_68_2, gP_70_2, gP_72_2, gP_74_2, gP_76_2, aP_4, mtw_4, mtl_4, mll_4, gPw_4, aP_58, mtw_58, mtl_58, mll_58, gPw_58, hS]
  · show lp_X3_test_25 (o + 53) N c10 c15 c3 _ (nI 16) = _
    have f1 : (16 : Int32) ≤ nI 16 := by decide
    simp only [lp_X3_test_25, f1, mt_sI, mt_sJ, mt_sP, mt_rI, mt_rJ, ml_sI, ml_sJ, ml_sP, ml_rI, ml_rJ, mP_sI, mP_sJ, mP_rI, mP_rJ, SHP_sI, SHP_sJ, SHP_rI, SHP_rJ, mI_sI, mI_rI, mI_sJ, mI_rJ, mI_sP, mJ_sI, mJ_rI, mJ_sP, mJ_sJ, mJ_rJ, gI_e, pI_e, ck_e, bnd_s, nm_eq, pr2_e, cnul_0, cnul_1, drf_1, sm_1, sm_2, aI_e, aJ_e, wI_e, wJ_e, aL_e, cpI_e, cpJ_e, Nat.reduceLeDiff, Nat.reduceEqDiff, Nat.add_left_cancel_iff, ad0, ad1, false_and, and_false, true_and, and_true, reduceIte, if_true, if_false, zb0, zb1, Int32.reduceLT, Int32.reduceLE, i10, nw1, nw2, nt1, nt2, not_true_eq_false, not_false_eq_true]
    rfl
theorem te_c {N1 N2 N3 : QM} {c3 c10 c15 : Int32} (h1 : fn_X3_oneOf N (o + 53) 6 = some (c3, N1)) (h2 : fn_X3_oneOf N1 (o + 53) 7 = some (c10, N2)) (h3 : fn_X3_number N2 (o + 53) = some (c15, N3)) (s1 : SHP N1 o) (s2 : SHP N2 o) (s3 : SHP N3 o) {V : Nat → Int32} (hV : ∀ c, c < 16 → fn_X3_valueOf N3 (o + 53) c3 (nI c) = some (V c)) : fn_X3_test N (o + 53) = some (mkb (fun c => decide (1 + fn_J6_compare_7cf53 (V c) c15 = c10)), N3) := by
  unfold fn_X3_test
  rw [h1, bnd_s, pr2_e, ck_e (mt_53 s1), h2, bnd_s, pr2_e, ck_e (mt_53 s2), h3, bnd_s, pr2_e, te_l s3 hV]
  rfl
theorem te_v {N1 N2 N3 : QM} {c3 c10 c15 : Int32} (h1 : fn_X3_oneOf N (o + 53) 6 = some (c3, N1)) (h2 : fn_X3_oneOf N1 (o + 53) 7 = some (c10, N2)) (h3 : fn_X3_number N2 (o + 53) = some (c15, N3)) (s1 : SHP N1 o) (s2 : SHP N2 o) (s3 : SHP N3 o) : ∃ v, fn_X3_test N (o + 53) = some (v, N3) := by
  have hV : ∀ c, c < 16 → fn_X3_valueOf N3 (o + 53) c3 (nI c) = some ((fn_X3_valueOf N3 (o + 53) c3 (nI c)).getD 0) := fun c _ => by
    obtain ⟨v, hv⟩ := vo_t s3 c3 (nI c)
    rw [hv]; rfl
  exact ⟨_, te_c h1 h2 h3 s1 s2 s3 hV⟩
theorem on_6 (h : TC M o P L) (n : PLC M N o p false) (hp : p ≤ L) : (fcl (P p) = 6 → fn_X3_oneOf N (o + 53) 6 = some (-1, sI N (o + 53) 3 1)) ∧ (¬ fcl (P p) = 6 → fn_X3_oneOf N (o + 53) 6 = some (nI (fcl (P p)), sI N (o + 53) 2 (nI (p + 1)))) := on_e h (i := 6) (e := 6) (by decide) (by decide) (g := fcl) (by decide) (fun c hc => ⟨(by decide : ∀ c, c < 128 → fcl c ≤ 6) c hc, PQ_6 c hc⟩) n hp
theorem on_7 (h : TC M o P L) (n : PLC M N o p false) (hp : p ≤ L) : (rcl (P p) = 3 → fn_X3_oneOf N (o + 53) 7 = some (-1, sI N (o + 53) 3 1)) ∧ (¬ rcl (P p) = 3 → fn_X3_oneOf N (o + 53) 7 = some (nI (rcl (P p)), sI N (o + 53) 2 (nI (p + 1)))) := on_e h (i := 7) (e := 3) (by decide) (by decide) (g := rcl) (by decide) (fun c hc => ⟨(by decide : ∀ c, c < 128 → rcl c ≤ 3) c hc, PQ_7 c hc⟩) n hp
theorem cmp_e {a b : Nat} (ha : a < 2 ^ 31) (hb : b < 2 ^ 31) : fn_J6_compare_7cf53 (nI a) (nI b) = if b ≤ a then (if a = b then 0 else 1) else -1 := by
  unfold fn_J6_compare_7cf53
  by_cases c : b ≤ a
  · rw [if_pos (nI_le c ha), if_pos c]
    by_cases c2 : a = b
    · rw [if_pos (by rw [c2]), if_pos c2]
    · rw [if_neg (by rw [nI_eq ha hb]; exact c2), if_neg c2]
  · rw [if_neg (by rw [nI_leI hb ha]; exact c), if_neg c]
theorem cmp_t {F n s : Nat} (hF : F < 2 ^ 31) (hn : n < 2 ^ 31) (hs : s ≤ 2) : decide (1 + fn_J6_compare_7cf53 (nI F) (nI n) = nI s) = if s = 0 then decide (F < n) else if s = 1 then decide (F = n) else decide (n < F) := by
  rw [cmp_e hF hn]
  by_cases c : n ≤ F
  · rw [if_pos c]
    by_cases c2 : F = n
    · rw [if_pos c2]
      rcases (by omega : s = 0 ∨ s = 1 ∨ s = 2) with rfl | rfl | rfl
      · rw [if_pos rfl, decide_eq_false (by decide), decide_eq_false (by omega)]
      · rw [if_neg (by decide), if_pos rfl, decide_eq_true (by decide), decide_eq_true c2]
      · rw [if_neg (by decide), if_neg (by decide), decide_eq_false (by decide), decide_eq_false (by omega)]
    · rw [if_neg c2]
      rcases (by omega : s = 0 ∨ s = 1 ∨ s = 2) with rfl | rfl | rfl
      · rw [if_pos rfl, decide_eq_false (by decide), decide_eq_false (by omega)]
      · rw [if_neg (by decide), if_pos rfl, decide_eq_false (by decide), decide_eq_false c2]
      · rw [if_neg (by decide), if_neg (by decide), decide_eq_true (by decide), decide_eq_true (by omega)]
  · rw [if_neg c]
    rcases (by omega : s = 0 ∨ s = 1 ∨ s = 2) with rfl | rfl | rfl
    · rw [if_pos rfl, decide_eq_true (by decide), decide_eq_true (by omega)]
    · rw [if_neg (by decide), if_pos rfl, decide_eq_false (by decide), decide_eq_false (by omega)]
    · rw [if_neg (by decide), if_neg (by decide), decide_eq_false (by decide), decide_eq_false (by omega)]
theorem te_b (h : TC M o P L) (n : PLC M N o p true) : ∃ v N', fn_X3_test N (o + 53) = some (v, N') ∧ PLC M N' o p true := by
  have n1 := n.br
  have n2 := n1.br
  obtain ⟨v, hv⟩ := te_v (on_b h n) (on_b h n1) (nu_b h n2) (n1.1.shp h.1) (n2.1.shp h.1) (n2.br.1.shp h.1)
  exact ⟨v, _, hv, n2.br⟩
theorem te_n (h : TC M o P L) (n : PLC M N o p false) (hp : p ≤ L) (e : pT P p = .inl q) : ∃ v N', fn_X3_test N (o + 53) = some (v, N') ∧ PLC M N' o q true := by
  unfold pT at e
  by_cases c : fcl (P p) = 6
  · rw [if_pos c] at e; cases e
    have n1 := n.br
    have n2 := n1.br
    obtain ⟨v, hv⟩ := te_v ((on_6 h n hp).1 c) (on_b h n1) (nu_b h n2) (n1.1.shp h.1) (n2.1.shp h.1) (n2.br.1.shp h.1)
    exact ⟨v, _, hv, n2.br⟩
  · rw [if_neg c] at e
    have hl : p < L := h.2.1.lt (by have := (fcl_lt c).1; omega)
    have n1 := n.go (q := p + 1)
    by_cases c2 : 60 ≤ P (p + 1) ∧ P (p + 1) ≤ 62
    · rw [if_pos c2] at e
      have hl2 : p + 1 < L := h.2.1.lt (by omega)
      have n2 := n1.go (q := p + 2)
      have c3 : ¬ rcl (P (p + 1)) = 3 := by unfold rcl; rw [if_pos c2]; omega
      cases z : pN P (p + 2) with
      | inr y => rw [z] at e; cases e
      | inl q2 =>
        rw [z] at e; cases e
        obtain ⟨v3, N3, k1, k2, -⟩ := nu_e h (x := .inr (p + 2)) (N := sI (sI N (o + 53) 2 (nI (p + 1))) (o + 53) 2 (nI (p + 2))) ⟨n2, hl2⟩
        have k2 : SR M N3 o L (dSr (pN P (p + 2))) := k2
        rw [z] at k2
        obtain ⟨v, hv⟩ := te_v ((on_6 h n hp).2 c) ((on_7 h n1 hl).2 c3) k1 (n1.1.shp h.1) (n2.1.shp h.1) (k2.1.1.shp h.1)
        exact ⟨v, _, hv, k2.1⟩
    · rw [if_neg c2] at e; cases e
      have c3 : rcl (P (p + 1)) = 3 := by unfold rcl; rw [if_neg c2]
      have n2 := n1.br
      obtain ⟨v, hv⟩ := te_v ((on_6 h n hp).2 c) ((on_7 h n1 hl).1 c3) (nu_b h n2) (n1.1.shp h.1) (n2.1.shp h.1) (n2.br.1.shp h.1)
      exact ⟨v, _, hv, n2.br⟩
theorem te_y (h : TC M o P L) (h4 : mI M (o + 53) 4 = nI t) (h5 : mI M (o + 53) 5 = nI m) (ht : t ≤ 9) (hm : m ≤ 9) (n : PLC M N o p false) (hp : p ≤ L) {k : Nat} (e : pT P p = .inr (q, k)) : ∃ N', fn_X3_test N (o + 53) = some (mkb (fun c => testV k c t m), N') ∧ PLC M N' o q false := by
  obtain ⟨nn, c, c2, z, z1, z2, z3, z4, z5⟩ := pT_r h.2.1 e
  have hl : p < L := h.2.1.lt (by have := (fcl_lt c).1; omega)
  have hl2 : p + 1 < L := h.2.1.lt (by omega)
  have hf := (fcl_lt c).2
  have n1 := n.go (q := p + 1)
  have n2 := n1.go (q := p + 2)
  have c3 : rcl (P (p + 1)) = P (p + 1) - 60 := by unfold rcl; rw [if_pos c2]
  obtain ⟨N3, k1, k2⟩ := nu_y h n2 hl2 z
  have s3 := k2.1.shp h.1
  have hV : ∀ c, c < 16 → fn_X3_valueOf N3 (o + 53) (nI (fcl (P p))) (nI c) = some (nI (factV (fcl (P p)) c t m)) := fun c hc => vo_e s3 ((k2.1.2.2.2.2 53 4 (by unfold Zrd; omega)).trans h4) ((k2.1.2.2.2.2 53 5 (by unfold Zrd; omega)).trans h5) hf hc
  have v := te_c ((on_6 h n hp).2 c) ((on_7 h n1 hl).2 (by omega)) k1 (n1.1.shp h.1) (n2.1.shp h.1) s3 hV
  refine ⟨N3, v.trans ?_, k2⟩
  have : mkb (fun c => decide (1 + fn_J6_compare_7cf53 (nI (factV (fcl (P p)) c t m)) (nI nn) = nI (rcl (P (p + 1))))) = mkb (fun c => testV k c t m) := mkb_ext fun c hc => by
    have hF := factV_le (f := fcl (P p)) hc ht hm
    rw [cmp_t (by omega) (by omega) (by omega), c3]
    unfold testV
    rw [show k / 100 % 10 = P (p + 1) - 60 by omega, show k / 1000 = fcl (P p) by omega, show k % 100 = nn by omega]
  rw [this]
end RE2
