/-! ===== image and undo, the reference: printed by tools/image.py ===== -/
section IM_image
variable {M N : QM} {o : Nat}
set_option maxHeartbeats 1000000 in
theorem image_16 (hS : SHP M o) : ∃ M1, itr (fun s63 : Int32 × QM => lp_X9_image_63 (o + 78) s63.1 s63.2) FU (0, M) = some M1 ∧ SQ M M1 o (fun a k => (a = 107) ∧ k < 16) ∧ ∀ k, k < 16 → mI M1 (o + 107) k = mI M (o + 79) k := by
  have loop := itr_J (f := (fun s63 : Int32 × QM => lp_X9_image_63 (o + 78) s63.1 s63.2)) (s0 := (0, M)) (fun c z => c ≤ 16 ∧ ∃ Mw, z = (nI c, Mw) ∧ SQ M Mw o (fun a k => (a = 107) ∧ k < 16) ∧ ∀ k, k < c → mI Mw (o + 107) k = mI M (o + 79) k) (fun M1 => SQ M M1 o (fun a k => (a = 107) ∧ k < 16) ∧ ∀ k, k < 16 → mI M1 (o + 107) k = mI M (o + 79) k) 16
    ⟨Nat.zero_le _, M, rfl, SQ.rfl, fun j hj => absurd hj (Nat.not_lt_zero _)⟩
    (fun c z hz => by
      obtain ⟨hc, Mw, rfl, g1, g2⟩ := hz
      have hS1 := g1.shp hS
      show (∃ r, lp_X9_image_63 (o + 78) (nI c) Mw = some (.inr r) ∧ _) ∨ _ ∧ ∃ s', lp_X9_image_63 (o + 78) (nI c) Mw = some (.inl s') ∧ _
      by_cases e : c = 16
      · left
        subst e
        refine ⟨Mw, ?_, g1, g2⟩
        unfold lp_X9_image_63
        rw [if_pos (by decide)]
      · right
        have hc1 : c < 16 := by omega
        have f1 : ¬ (16 : Int32) ≤ nI c := by show ¬ nI 16 ≤ nI c; rw [nI_leI (by decide) (by omega)]; omega
        have r0 : mI Mw (o + 79) c = mI M (o + 79) c := g1.2.2.2.2 79 c (by omega)
        refine ⟨hc1, (nI (c + 1), sI (Mw) (o + 107) c (mI M (o + 79) c)), ?_, by omega, _, rfl, (g1.sI (by omega)), fun k hk => ?_⟩
        · simp only [lp_X9_image_63, f1, r0, nI_1, mt_sI, mt_sJ, mt_sP, mt_rI, mt_rJ, ml_sI, ml_sJ, ml_sP, ml_rI, ml_rJ, mP_sI, mP_sJ, mP_rI, mP_rJ, SHP_sI, SHP_sJ, SHP_rI, SHP_rJ, mI_sI, mI_rI, mI_sJ, mI_rJ, mI_sP, mJ_sI, mJ_rI, mJ_sP, mJ_sJ, mJ_rJ, gI_e, pI_e, ck_e, bnd_s, nm_eq, pr2_e, cnul_0, cnul_1, drf_1, sm_1, sm_2, aI_e, aJ_e, wI_e, wJ_e, aL_e, cpI_e, cpJ_e, Nat.reduceLeDiff, Nat.reduceEqDiff, Nat.add_left_cancel_iff, ad0, ad1, false_and, and_false, true_and, and_true, reduceIte, if_true, if_false, zb0, zb1, Int32.reduceLT, Int32.reduceLE, i10, nw1, nw2, nt1, nt2, not_true_eq_false, not_false_eq_true, mt_78, mt_79, ml_79, mt_80, ml_80, mt_81, ml_81, mt_82, ml_82, mt_83, ml_83, mt_84, ml_84, mt_85, ml_85, mt_86, ml_86, mt_87, ml_87, mt_88, ml_88, mt_89, ml_89, mt_90, ml_90, mt_91, ml_91, mt_92, ml_92, mt_93, ml_93, mt_94, ml_94, mt_95, ml_95, mt_96, ml_96, mt_97, ml_97, mt_98, ml_98, mt_99, ml_99, mt_100, ml_100, mt_101, ml_101, mt_102, ml_102, mt_103, ml_103, mt_104, ml_104, mt_105, ml_105, mt_106, ml_106, mt_107, ml_107, mt_108, ml_108, mt_109, ml_109, mt_110, ml_110, mt_111, ml_111, mt_112, ml_112, mt_113, ml_113, mt_114, ml_114, mt_115, ml_115, mt_116, ml_116, mt_117, ml_117, mt_118, ml_118, mt_119, ml_119, mt_120, ml_120, mt_121, ml_121, mt_122, ml_122, mt_123, ml_123, gP_78_2, gP_78_3, gP_78_4, gP_78_5, gP_78_6, gP_78_12, gP_78_13, gP_78_14, gP_78_15, gP_78_16, gP_78_17, gP_78_18, gP_78_19, gP_78_23, gP_78_24, gP_78_26, gP_78_27, gP_78_28, gP_78_31, gP_78_32, gP_78_34, gP_78_35, gP_78_36, gP_78_37, gP_78_40, gP_78_41, gP_78_42, gP_78_43, gP_78_52, gP_78_53, gP_78_54, gP_78_55, gP_78_56, gP_78_57, gP_78_58, gP_78_59, gP_78_60, gP_78_61, gP_78_62, gP_78_63, gP_78_65, gP_78_66, gP_78_67, gP_78_68, gP_78_69, hS1, hc1]
        · by_cases q : k = c
          · subst q
            simp only [mt_sI, mt_sJ, mt_sP, mt_rI, mt_rJ, ml_sI, ml_sJ, ml_sP, ml_rI, ml_rJ, mP_sI, mP_sJ, mP_rI, mP_rJ, SHP_sI, SHP_sJ, SHP_rI, SHP_rJ, mI_sI, mI_rI, mI_sJ, mI_rJ, mI_sP, mJ_sI, mJ_rI, mJ_sP, mJ_sJ, mJ_rJ, gI_e, pI_e, ck_e, bnd_s, nm_eq, pr2_e, cnul_0, cnul_1, drf_1, sm_1, sm_2, aI_e, aJ_e, wI_e, wJ_e, aL_e, cpI_e, cpJ_e, Nat.reduceLeDiff, Nat.reduceEqDiff, Nat.add_left_cancel_iff, ad0, ad1, false_and, and_false, true_and, and_true, reduceIte, if_true, if_false, zb0, zb1, Int32.reduceLT, Int32.reduceLE, i10, nw1, nw2, nt1, nt2, not_true_eq_false, not_false_eq_true]
          · simp only [q, mt_sI, mt_sJ, mt_sP, mt_rI, mt_rJ, ml_sI, ml_sJ, ml_sP, ml_rI, ml_rJ, mP_sI, mP_sJ, mP_rI, mP_rJ, SHP_sI, SHP_sJ, SHP_rI, SHP_rJ, mI_sI, mI_rI, mI_sJ, mI_rJ, mI_sP, mJ_sI, mJ_rI, mJ_sP, mJ_sJ, mJ_rJ, gI_e, pI_e, ck_e, bnd_s, nm_eq, pr2_e, cnul_0, cnul_1, drf_1, sm_1, sm_2, aI_e, aJ_e, wI_e, wJ_e, aL_e, cpI_e, cpJ_e, Nat.reduceLeDiff, Nat.reduceEqDiff, Nat.add_left_cancel_iff, ad0, ad1, false_and, and_false, true_and, and_true, reduceIte, if_true, if_false, zb0, zb1, Int32.reduceLT, Int32.reduceLE, i10, nw1, nw2, nt1, nt2, not_true_eq_false, not_false_eq_true]; exact g2 k (by omega)) (by decide)
  obtain ⟨r, h1, h2⟩ := loop
  exact ⟨r, h1, h2⟩
set_option maxHeartbeats 1000000 in
theorem image_5 (hS : SHP M o) : ∃ M1, itr (fun s89 : Int32 × QM => lp_X9_image_89 (o + 78) s89.1 s89.2) FU (0, M) = some M1 ∧ SQ M M1 o (fun a k => (a = 108 ∨ a = 109 ∨ a = 110 ∨ a = 112 ∨ a = 118 ∨ a = 113) ∧ k < 5) ∧ ∀ k, k < 5 → mI M1 (o + 108) k = mI M (o + 80) k ∧ mI M1 (o + 109) k = mI M (o + 81) k ∧ mI M1 (o + 110) k = mI M (o + 82) k ∧ mI M1 (o + 112) k = mI M (o + 99) k ∧ mI M1 (o + 118) k = zb (mI M (o + 102) k) ∧ mI M1 (o + 113) k = mI M (o + 100) k := by
  have loop := itr_J (f := (fun s89 : Int32 × QM => lp_X9_image_89 (o + 78) s89.1 s89.2)) (s0 := (0, M)) (fun c z => c ≤ 5 ∧ ∃ Mw, z = (nI c, Mw) ∧ SQ M Mw o (fun a k => (a = 108 ∨ a = 109 ∨ a = 110 ∨ a = 112 ∨ a = 118 ∨ a = 113) ∧ k < 5) ∧ ∀ k, k < c → mI Mw (o + 108) k = mI M (o + 80) k ∧ mI Mw (o + 109) k = mI M (o + 81) k ∧ mI Mw (o + 110) k = mI M (o + 82) k ∧ mI Mw (o + 112) k = mI M (o + 99) k ∧ mI Mw (o + 118) k = zb (mI M (o + 102) k) ∧ mI Mw (o + 113) k = mI M (o + 100) k) (fun M1 => SQ M M1 o (fun a k => (a = 108 ∨ a = 109 ∨ a = 110 ∨ a = 112 ∨ a = 118 ∨ a = 113) ∧ k < 5) ∧ ∀ k, k < 5 → mI M1 (o + 108) k = mI M (o + 80) k ∧ mI M1 (o + 109) k = mI M (o + 81) k ∧ mI M1 (o + 110) k = mI M (o + 82) k ∧ mI M1 (o + 112) k = mI M (o + 99) k ∧ mI M1 (o + 118) k = zb (mI M (o + 102) k) ∧ mI M1 (o + 113) k = mI M (o + 100) k) 5
    ⟨Nat.zero_le _, M, rfl, SQ.rfl, fun j hj => absurd hj (Nat.not_lt_zero _)⟩
    (fun c z hz => by
      obtain ⟨hc, Mw, rfl, g1, g2⟩ := hz
      have hS1 := g1.shp hS
      show (∃ r, lp_X9_image_89 (o + 78) (nI c) Mw = some (.inr r) ∧ _) ∨ _ ∧ ∃ s', lp_X9_image_89 (o + 78) (nI c) Mw = some (.inl s') ∧ _
      by_cases e : c = 5
      · left
        subst e
        refine ⟨Mw, ?_, g1, g2⟩
        unfold lp_X9_image_89
        rw [if_pos (by decide)]
      · right
        have hc1 : c < 5 := by omega
        have f1 : ¬ (5 : Int32) ≤ nI c := by show ¬ nI 5 ≤ nI c; rw [nI_leI (by decide) (by omega)]; omega
        have r0 : mI Mw (o + 80) c = mI M (o + 80) c := g1.2.2.2.2 80 c (by omega)
        have r1 : mI Mw (o + 81) c = mI M (o + 81) c := g1.2.2.2.2 81 c (by omega)
        have r2 : mI Mw (o + 82) c = mI M (o + 82) c := g1.2.2.2.2 82 c (by omega)
        have r3 : mI Mw (o + 99) c = mI M (o + 99) c := g1.2.2.2.2 99 c (by omega)
        have r4 : mI Mw (o + 102) c = mI M (o + 102) c := g1.2.2.2.2 102 c (by omega)
        have r5 : mI Mw (o + 100) c = mI M (o + 100) c := g1.2.2.2.2 100 c (by omega)
        refine ⟨hc1, (nI (c + 1), sI (sI (sI (sI (sI (sI (Mw) (o + 108) c (mI M (o + 80) c)) (o + 109) c (mI M (o + 81) c)) (o + 110) c (mI M (o + 82) c)) (o + 112) c (mI M (o + 99) c)) (o + 118) c (zb (mI M (o + 102) c))) (o + 113) c (mI M (o + 100) c)), ?_, by omega, _, rfl, ((((((g1.sI (by omega)).sI (by omega)).sI (by omega)).sI (by omega)).sI (by omega)).sI (by omega)), fun k hk => ?_⟩
        · simp only [lp_X9_image_89, f1, r0, r1, r2, r3, r4, r5, nI_1, mt_sI, mt_sJ, mt_sP, mt_rI, mt_rJ, ml_sI, ml_sJ, ml_sP, ml_rI, ml_rJ, mP_sI, mP_sJ, mP_rI, mP_rJ, SHP_sI, SHP_sJ, SHP_rI, SHP_rJ, mI_sI, mI_rI, mI_sJ, mI_rJ, mI_sP, mJ_sI, mJ_rI, mJ_sP, mJ_sJ, mJ_rJ, gI_e, pI_e, ck_e, bnd_s, nm_eq, pr2_e, cnul_0, cnul_1, drf_1, sm_1, sm_2, aI_e, aJ_e, wI_e, wJ_e, aL_e, cpI_e, cpJ_e, Nat.reduceLeDiff, Nat.reduceEqDiff, Nat.add_left_cancel_iff, ad0, ad1, false_and, and_false, true_and, and_true, reduceIte, if_true, if_false, zb0, zb1, Int32.reduceLT, Int32.reduceLE, i10, nw1, nw2, nt1, nt2, not_true_eq_false, not_false_eq_true, mt_78, mt_79, ml_79, mt_80, ml_80, mt_81, ml_81, mt_82, ml_82, mt_83, ml_83, mt_84, ml_84, mt_85, ml_85, mt_86, ml_86, mt_87, ml_87, mt_88, ml_88, mt_89, ml_89, mt_90, ml_90, mt_91, ml_91, mt_92, ml_92, mt_93, ml_93, mt_94, ml_94, mt_95, ml_95, mt_96, ml_96, mt_97, ml_97, mt_98, ml_98, mt_99, ml_99, mt_100, ml_100, mt_101, ml_101, mt_102, ml_102, mt_103, ml_103, mt_104, ml_104, mt_105, ml_105, mt_106, ml_106, mt_107, ml_107, mt_108, ml_108, mt_109, ml_109, mt_110, ml_110, mt_111, ml_111, mt_112, ml_112, mt_113, ml_113, mt_114, ml_114, mt_115, ml_115, mt_116, ml_116, mt_117, ml_117, mt_118, ml_118, mt_119, ml_119, mt_120, ml_120, mt_121, ml_121, mt_122, ml_122, mt_123, ml_123, gP_78_2, gP_78_3, gP_78_4, gP_78_5, gP_78_6, gP_78_12, gP_78_13, gP_78_14, gP_78_15, gP_78_16, gP_78_17, gP_78_18, gP_78_19, gP_78_23, gP_78_24, gP_78_26, gP_78_27, gP_78_28, gP_78_31, gP_78_32, gP_78_34, gP_78_35, gP_78_36, gP_78_37, gP_78_40, gP_78_41, gP_78_42, gP_78_43, gP_78_52, gP_78_53, gP_78_54, gP_78_55, gP_78_56, gP_78_57, gP_78_58, gP_78_59, gP_78_60, gP_78_61, gP_78_62, gP_78_63, gP_78_65, gP_78_66, gP_78_67, gP_78_68, gP_78_69, hS1, hc1]
        · by_cases q : k = c
          · subst q
            refine ⟨?_, ?_, ?_, ?_, ?_, ?_⟩ <;> simp only [mt_sI, mt_sJ, mt_sP, mt_rI, mt_rJ, ml_sI, ml_sJ, ml_sP, ml_rI, ml_rJ, mP_sI, mP_sJ, mP_rI, mP_rJ, SHP_sI, SHP_sJ, SHP_rI, SHP_rJ, mI_sI, mI_rI, mI_sJ, mI_rJ, mI_sP, mJ_sI, mJ_rI, mJ_sP, mJ_sJ, mJ_rJ, gI_e, pI_e, ck_e, bnd_s, nm_eq, pr2_e, cnul_0, cnul_1, drf_1, sm_1, sm_2, aI_e, aJ_e, wI_e, wJ_e, aL_e, cpI_e, cpJ_e, Nat.reduceLeDiff, Nat.reduceEqDiff, Nat.add_left_cancel_iff, ad0, ad1, false_and, and_false, true_and, and_true, reduceIte, if_true, if_false, zb0, zb1, Int32.reduceLT, Int32.reduceLE, i10, nw1, nw2, nt1, nt2, not_true_eq_false, not_false_eq_true]
          · have y := g2 k (by omega)
            simp only [q, mt_sI, mt_sJ, mt_sP, mt_rI, mt_rJ, ml_sI, ml_sJ, ml_sP, ml_rI, ml_rJ, mP_sI, mP_sJ, mP_rI, mP_rJ, SHP_sI, SHP_sJ, SHP_rI, SHP_rJ, mI_sI, mI_rI, mI_sJ, mI_rJ, mI_sP, mJ_sI, mJ_rI, mJ_sP, mJ_sJ, mJ_rJ, gI_e, pI_e, ck_e, bnd_s, nm_eq, pr2_e, cnul_0, cnul_1, drf_1, sm_1, sm_2, aI_e, aJ_e, wI_e, wJ_e, aL_e, cpI_e, cpJ_e, Nat.reduceLeDiff, Nat.reduceEqDiff, Nat.add_left_cancel_iff, ad0, ad1, false_and, and_false, true_and, and_true, reduceIte, if_true, if_false, zb0, zb1, Int32.reduceLT, Int32.reduceLE, i10, nw1, nw2, nt1, nt2, not_true_eq_false, not_false_eq_true]; exact y) (by decide)
  obtain ⟨r, h1, h2⟩ := loop
  exact ⟨r, h1, h2⟩
set_option maxHeartbeats 1000000 in
theorem image_20 (hS : SHP M o) : ∃ M1, itr (fun s174 : Int32 × QM => lp_X9_image_174 (o + 78) s174.1 s174.2) FU (0, M) = some M1 ∧ SQ M M1 o (fun a k => (a = 111) ∧ k < 20) ∧ ∀ k, k < 20 → mI M1 (o + 111) k = mI M (o + 83) k := by
  have loop := itr_J (f := (fun s174 : Int32 × QM => lp_X9_image_174 (o + 78) s174.1 s174.2)) (s0 := (0, M)) (fun c z => c ≤ 20 ∧ ∃ Mw, z = (nI c, Mw) ∧ SQ M Mw o (fun a k => (a = 111) ∧ k < 20) ∧ ∀ k, k < c → mI Mw (o + 111) k = mI M (o + 83) k) (fun M1 => SQ M M1 o (fun a k => (a = 111) ∧ k < 20) ∧ ∀ k, k < 20 → mI M1 (o + 111) k = mI M (o + 83) k) 20
    ⟨Nat.zero_le _, M, rfl, SQ.rfl, fun j hj => absurd hj (Nat.not_lt_zero _)⟩
    (fun c z hz => by
      obtain ⟨hc, Mw, rfl, g1, g2⟩ := hz
      have hS1 := g1.shp hS
      show (∃ r, lp_X9_image_174 (o + 78) (nI c) Mw = some (.inr r) ∧ _) ∨ _ ∧ ∃ s', lp_X9_image_174 (o + 78) (nI c) Mw = some (.inl s') ∧ _
      by_cases e : c = 20
      · left
        subst e
        refine ⟨Mw, ?_, g1, g2⟩
        unfold lp_X9_image_174
        rw [if_pos (by decide)]
      · right
        have hc1 : c < 20 := by omega
        have f1 : ¬ (20 : Int32) ≤ nI c := by show ¬ nI 20 ≤ nI c; rw [nI_leI (by decide) (by omega)]; omega
        have r0 : mI Mw (o + 83) c = mI M (o + 83) c := g1.2.2.2.2 83 c (by omega)
        refine ⟨hc1, (nI (c + 1), sI (Mw) (o + 111) c (mI M (o + 83) c)), ?_, by omega, _, rfl, (g1.sI (by omega)), fun k hk => ?_⟩
        · simp only [lp_X9_image_174, f1, r0, nI_1, mt_sI, mt_sJ, mt_sP, mt_rI, mt_rJ, ml_sI, ml_sJ, ml_sP, ml_rI, ml_rJ, mP_sI, mP_sJ, mP_rI, mP_rJ, SHP_sI, SHP_sJ, SHP_rI, SHP_rJ, mI_sI, mI_rI, mI_sJ, mI_rJ, mI_sP, mJ_sI, mJ_rI, mJ_sP, mJ_sJ, mJ_rJ, gI_e, pI_e, ck_e, bnd_s, nm_eq, pr2_e, cnul_0, cnul_1, drf_1, sm_1, sm_2, aI_e, aJ_e, wI_e, wJ_e, aL_e, cpI_e, cpJ_e, Nat.reduceLeDiff, Nat.reduceEqDiff, Nat.add_left_cancel_iff, ad0, ad1, false_and, and_false, true_and, and_true, reduceIte, if_true, if_false, zb0, zb1, Int32.reduceLT, Int32.reduceLE, i10, nw1, nw2, nt1, nt2, not_true_eq_false, not_false_eq_true, mt_78, mt_79, ml_79, mt_80, ml_80, mt_81, ml_81, mt_82, ml_82, mt_83, ml_83, mt_84, ml_84, mt_85, ml_85, mt_86, ml_86, mt_87, ml_87, mt_88, ml_88, mt_89, ml_89, mt_90, ml_90, mt_91, ml_91, mt_92, ml_92, mt_93, ml_93, mt_94, ml_94, mt_95, ml_95, mt_96, ml_96, mt_97, ml_97, mt_98, ml_98, mt_99, ml_99, mt_100, ml_100, mt_101, ml_101, mt_102, ml_102, mt_103, ml_103, mt_104, ml_104, mt_105, ml_105, mt_106, ml_106, mt_107, ml_107, mt_108, ml_108, mt_109, ml_109, mt_110, ml_110, mt_111, ml_111, mt_112, ml_112, mt_113, ml_113, mt_114, ml_114, mt_115, ml_115, mt_116, ml_116, mt_117, ml_117, mt_118, ml_118, mt_119, ml_119, mt_120, ml_120, mt_121, ml_121, mt_122, ml_122, mt_123, ml_123, gP_78_2, gP_78_3, gP_78_4, gP_78_5, gP_78_6, gP_78_12, gP_78_13, gP_78_14, gP_78_15, gP_78_16, gP_78_17, gP_78_18, gP_78_19, gP_78_23, gP_78_24, gP_78_26, gP_78_27, gP_78_28, gP_78_31, gP_78_32, gP_78_34, gP_78_35, gP_78_36, gP_78_37, gP_78_40, gP_78_41, gP_78_42, gP_78_43, gP_78_52, gP_78_53, gP_78_54, gP_78_55, gP_78_56, gP_78_57, gP_78_58, gP_78_59, gP_78_60, gP_78_61, gP_78_62, gP_78_63, gP_78_65, gP_78_66, gP_78_67, gP_78_68, gP_78_69, hS1, hc1]
        · by_cases q : k = c
          · subst q
            simp only [mt_sI, mt_sJ, mt_sP, mt_rI, mt_rJ, ml_sI, ml_sJ, ml_sP, ml_rI, ml_rJ, mP_sI, mP_sJ, mP_rI, mP_rJ, SHP_sI, SHP_sJ, SHP_rI, SHP_rJ, mI_sI, mI_rI, mI_sJ, mI_rJ, mI_sP, mJ_sI, mJ_rI, mJ_sP, mJ_sJ, mJ_rJ, gI_e, pI_e, ck_e, bnd_s, nm_eq, pr2_e, cnul_0, cnul_1, drf_1, sm_1, sm_2, aI_e, aJ_e, wI_e, wJ_e, aL_e, cpI_e, cpJ_e, Nat.reduceLeDiff, Nat.reduceEqDiff, Nat.add_left_cancel_iff, ad0, ad1, false_and, and_false, true_and, and_true, reduceIte, if_true, if_false, zb0, zb1, Int32.reduceLT, Int32.reduceLE, i10, nw1, nw2, nt1, nt2, not_true_eq_false, not_false_eq_true]
          · simp only [q, mt_sI, mt_sJ, mt_sP, mt_rI, mt_rJ, ml_sI, ml_sJ, ml_sP, ml_rI, ml_rJ, mP_sI, mP_sJ, mP_rI, mP_rJ, SHP_sI, SHP_sJ, SHP_rI, SHP_rJ, mI_sI, mI_rI, mI_sJ, mI_rJ, mI_sP, mJ_sI, mJ_rI, mJ_sP, mJ_sJ, mJ_rJ, gI_e, pI_e, ck_e, bnd_s, nm_eq, pr2_e, cnul_0, cnul_1, drf_1, sm_1, sm_2, aI_e, aJ_e, wI_e, wJ_e, aL_e, cpI_e, cpJ_e, Nat.reduceLeDiff, Nat.reduceEqDiff, Nat.add_left_cancel_iff, ad0, ad1, false_and, and_false, true_and, and_true, reduceIte, if_true, if_false, zb0, zb1, Int32.reduceLT, Int32.reduceLE, i10, nw1, nw2, nt1, nt2, not_true_eq_false, not_false_eq_true]; exact g2 k (by omega)) (by decide)
  obtain ⟨r, h1, h2⟩ := loop
  exact ⟨r, h1, h2⟩
set_option maxHeartbeats 1000000 in
theorem image_10 (hS : SHP M o) : ∃ M1, itr (fun s200 : Int32 × QM => lp_X9_image_200 (o + 78) s200.1 s200.2) FU (0, M) = some M1 ∧ SQ M M1 o (fun a k => (a = 114 ∨ a = 115) ∧ k < 10) ∧ ∀ k, k < 10 → mI M1 (o + 114) k = mI M (o + 103) k ∧ mI M1 (o + 115) k = mI M (o + 104) k := by
  have loop := itr_J (f := (fun s200 : Int32 × QM => lp_X9_image_200 (o + 78) s200.1 s200.2)) (s0 := (0, M)) (fun c z => c ≤ 10 ∧ ∃ Mw, z = (nI c, Mw) ∧ SQ M Mw o (fun a k => (a = 114 ∨ a = 115) ∧ k < 10) ∧ ∀ k, k < c → mI Mw (o + 114) k = mI M (o + 103) k ∧ mI Mw (o + 115) k = mI M (o + 104) k) (fun M1 => SQ M M1 o (fun a k => (a = 114 ∨ a = 115) ∧ k < 10) ∧ ∀ k, k < 10 → mI M1 (o + 114) k = mI M (o + 103) k ∧ mI M1 (o + 115) k = mI M (o + 104) k) 10
    ⟨Nat.zero_le _, M, rfl, SQ.rfl, fun j hj => absurd hj (Nat.not_lt_zero _)⟩
    (fun c z hz => by
      obtain ⟨hc, Mw, rfl, g1, g2⟩ := hz
      have hS1 := g1.shp hS
      show (∃ r, lp_X9_image_200 (o + 78) (nI c) Mw = some (.inr r) ∧ _) ∨ _ ∧ ∃ s', lp_X9_image_200 (o + 78) (nI c) Mw = some (.inl s') ∧ _
      by_cases e : c = 10
      · left
        subst e
        refine ⟨Mw, ?_, g1, g2⟩
        unfold lp_X9_image_200
        rw [if_pos (by decide)]
      · right
        have hc1 : c < 10 := by omega
        have f1 : ¬ (10 : Int32) ≤ nI c := by show ¬ nI 10 ≤ nI c; rw [nI_leI (by decide) (by omega)]; omega
        have r0 : mI Mw (o + 103) c = mI M (o + 103) c := g1.2.2.2.2 103 c (by omega)
        have r1 : mI Mw (o + 104) c = mI M (o + 104) c := g1.2.2.2.2 104 c (by omega)
        refine ⟨hc1, (nI (c + 1), sI (sI (Mw) (o + 114) c (mI M (o + 103) c)) (o + 115) c (mI M (o + 104) c)), ?_, by omega, _, rfl, ((g1.sI (by omega)).sI (by omega)), fun k hk => ?_⟩
        · simp only [lp_X9_image_200, f1, r0, r1, nI_1, mt_sI, mt_sJ, mt_sP, mt_rI, mt_rJ, ml_sI, ml_sJ, ml_sP, ml_rI, ml_rJ, mP_sI, mP_sJ, mP_rI, mP_rJ, SHP_sI, SHP_sJ, SHP_rI, SHP_rJ, mI_sI, mI_rI, mI_sJ, mI_rJ, mI_sP, mJ_sI, mJ_rI, mJ_sP, mJ_sJ, mJ_rJ, gI_e, pI_e, ck_e, bnd_s, nm_eq, pr2_e, cnul_0, cnul_1, drf_1, sm_1, sm_2, aI_e, aJ_e, wI_e, wJ_e, aL_e, cpI_e, cpJ_e, Nat.reduceLeDiff, Nat.reduceEqDiff, Nat.add_left_cancel_iff, ad0, ad1, false_and, and_false, true_and, and_true, reduceIte, if_true, if_false, zb0, zb1, Int32.reduceLT, Int32.reduceLE, i10, nw1, nw2, nt1, nt2, not_true_eq_false, not_false_eq_true, mt_78, mt_79, ml_79, mt_80, ml_80, mt_81, ml_81, mt_82, ml_82, mt_83, ml_83, mt_84, ml_84, mt_85, ml_85, mt_86, ml_86, mt_87, ml_87, mt_88, ml_88, mt_89, ml_89, mt_90, ml_90, mt_91, ml_91, mt_92, ml_92, mt_93, ml_93, mt_94, ml_94, mt_95, ml_95, mt_96, ml_96, mt_97, ml_97, mt_98, ml_98, mt_99, ml_99, mt_100, ml_100, mt_101, ml_101, mt_102, ml_102, mt_103, ml_103, mt_104, ml_104, mt_105, ml_105, mt_106, ml_106, mt_107, ml_107, mt_108, ml_108, mt_109, ml_109, mt_110, ml_110, mt_111, ml_111, mt_112, ml_112, mt_113, ml_113, mt_114, ml_114, mt_115, ml_115, mt_116, ml_116, mt_117, ml_117, mt_118, ml_118, mt_119, ml_119, mt_120, ml_120, mt_121, ml_121, mt_122, ml_122, mt_123, ml_123, gP_78_2, gP_78_3, gP_78_4, gP_78_5, gP_78_6, gP_78_12, gP_78_13, gP_78_14, gP_78_15, gP_78_16, gP_78_17, gP_78_18, gP_78_19, gP_78_23, gP_78_24, gP_78_26, gP_78_27, gP_78_28, gP_78_31, gP_78_32, gP_78_34, gP_78_35, gP_78_36, gP_78_37, gP_78_40, gP_78_41, gP_78_42, gP_78_43, gP_78_52, gP_78_53, gP_78_54, gP_78_55, gP_78_56, gP_78_57, gP_78_58, gP_78_59, gP_78_60, gP_78_61, gP_78_62, gP_78_63, gP_78_65, gP_78_66, gP_78_67, gP_78_68, gP_78_69, hS1, hc1]
        · by_cases q : k = c
          · subst q
            refine ⟨?_, ?_⟩ <;> simp only [mt_sI, mt_sJ, mt_sP, mt_rI, mt_rJ, ml_sI, ml_sJ, ml_sP, ml_rI, ml_rJ, mP_sI, mP_sJ, mP_rI, mP_rJ, SHP_sI, SHP_sJ, SHP_rI, SHP_rJ, mI_sI, mI_rI, mI_sJ, mI_rJ, mI_sP, mJ_sI, mJ_rI, mJ_sP, mJ_sJ, mJ_rJ, gI_e, pI_e, ck_e, bnd_s, nm_eq, pr2_e, cnul_0, cnul_1, drf_1, sm_1, sm_2, aI_e, aJ_e, wI_e, wJ_e, aL_e, cpI_e, cpJ_e, Nat.reduceLeDiff, Nat.reduceEqDiff, Nat.add_left_cancel_iff, ad0, ad1, false_and, and_false, true_and, and_true, reduceIte, if_true, if_false, zb0, zb1, Int32.reduceLT, Int32.reduceLE, i10, nw1, nw2, nt1, nt2, not_true_eq_false, not_false_eq_true]
          · have y := g2 k (by omega)
            simp only [q, mt_sI, mt_sJ, mt_sP, mt_rI, mt_rJ, ml_sI, ml_sJ, ml_sP, ml_rI, ml_rJ, mP_sI, mP_sJ, mP_rI, mP_rJ, SHP_sI, SHP_sJ, SHP_rI, SHP_rJ, mI_sI, mI_rI, mI_sJ, mI_rJ, mI_sP, mJ_sI, mJ_rI, mJ_sP, mJ_sJ, mJ_rJ, gI_e, pI_e, ck_e, bnd_s, nm_eq, pr2_e, cnul_0, cnul_1, drf_1, sm_1, sm_2, aI_e, aJ_e, wI_e, wJ_e, aL_e, cpI_e, cpJ_e, Nat.reduceLeDiff, Nat.reduceEqDiff, Nat.add_left_cancel_iff, ad0, ad1, false_and, and_false, true_and, and_true, reduceIte, if_true, if_false, zb0, zb1, Int32.reduceLT, Int32.reduceLE, i10, nw1, nw2, nt1, nt2, not_true_eq_false, not_false_eq_true]; exact y) (by decide)
  obtain ⟨r, h1, h2⟩ := loop
  exact ⟨r, h1, h2⟩
set_option maxHeartbeats 1000000 in
theorem image_8 (hS : SHP M o) : ∃ M1, itr (fun s238 : Int32 × QM => lp_X9_image_238 (o + 78) s238.1 s238.2) FU (0, M) = some M1 ∧ SQ M M1 o (fun a k => (a = 116 ∨ a = 117) ∧ k < 8) ∧ ∀ k, k < 8 → mI M1 (o + 116) k = mI M (o + 105) k ∧ mI M1 (o + 117) k = mI M (o + 106) k := by
  have loop := itr_J (f := (fun s238 : Int32 × QM => lp_X9_image_238 (o + 78) s238.1 s238.2)) (s0 := (0, M)) (fun c z => c ≤ 8 ∧ ∃ Mw, z = (nI c, Mw) ∧ SQ M Mw o (fun a k => (a = 116 ∨ a = 117) ∧ k < 8) ∧ ∀ k, k < c → mI Mw (o + 116) k = mI M (o + 105) k ∧ mI Mw (o + 117) k = mI M (o + 106) k) (fun M1 => SQ M M1 o (fun a k => (a = 116 ∨ a = 117) ∧ k < 8) ∧ ∀ k, k < 8 → mI M1 (o + 116) k = mI M (o + 105) k ∧ mI M1 (o + 117) k = mI M (o + 106) k) 8
    ⟨Nat.zero_le _, M, rfl, SQ.rfl, fun j hj => absurd hj (Nat.not_lt_zero _)⟩
    (fun c z hz => by
      obtain ⟨hc, Mw, rfl, g1, g2⟩ := hz
      have hS1 := g1.shp hS
      show (∃ r, lp_X9_image_238 (o + 78) (nI c) Mw = some (.inr r) ∧ _) ∨ _ ∧ ∃ s', lp_X9_image_238 (o + 78) (nI c) Mw = some (.inl s') ∧ _
      by_cases e : c = 8
      · left
        subst e
        refine ⟨Mw, ?_, g1, g2⟩
        unfold lp_X9_image_238
        rw [if_pos (by decide)]
      · right
        have hc1 : c < 8 := by omega
        have f1 : ¬ (8 : Int32) ≤ nI c := by show ¬ nI 8 ≤ nI c; rw [nI_leI (by decide) (by omega)]; omega
        have r0 : mI Mw (o + 105) c = mI M (o + 105) c := g1.2.2.2.2 105 c (by omega)
        have r1 : mI Mw (o + 106) c = mI M (o + 106) c := g1.2.2.2.2 106 c (by omega)
        refine ⟨hc1, (nI (c + 1), sI (sI (Mw) (o + 116) c (mI M (o + 105) c)) (o + 117) c (mI M (o + 106) c)), ?_, by omega, _, rfl, ((g1.sI (by omega)).sI (by omega)), fun k hk => ?_⟩
        · simp only [lp_X9_image_238, f1, r0, r1, nI_1, mt_sI, mt_sJ, mt_sP, mt_rI, mt_rJ, ml_sI, ml_sJ, ml_sP, ml_rI, ml_rJ, mP_sI, mP_sJ, mP_rI, mP_rJ, SHP_sI, SHP_sJ, SHP_rI, SHP_rJ, mI_sI, mI_rI, mI_sJ, mI_rJ, mI_sP, mJ_sI, mJ_rI, mJ_sP, mJ_sJ, mJ_rJ, gI_e, pI_e, ck_e, bnd_s, nm_eq, pr2_e, cnul_0, cnul_1, drf_1, sm_1, sm_2, aI_e, aJ_e, wI_e, wJ_e, aL_e, cpI_e, cpJ_e, Nat.reduceLeDiff, Nat.reduceEqDiff, Nat.add_left_cancel_iff, ad0, ad1, false_and, and_false, true_and, and_true, reduceIte, if_true, if_false, zb0, zb1, Int32.reduceLT, Int32.reduceLE, i10, nw1, nw2, nt1, nt2, not_true_eq_false, not_false_eq_true, mt_78, mt_79, ml_79, mt_80, ml_80, mt_81, ml_81, mt_82, ml_82, mt_83, ml_83, mt_84, ml_84, mt_85, ml_85, mt_86, ml_86, mt_87, ml_87, mt_88, ml_88, mt_89, ml_89, mt_90, ml_90, mt_91, ml_91, mt_92, ml_92, mt_93, ml_93, mt_94, ml_94, mt_95, ml_95, mt_96, ml_96, mt_97, ml_97, mt_98, ml_98, mt_99, ml_99, mt_100, ml_100, mt_101, ml_101, mt_102, ml_102, mt_103, ml_103, mt_104, ml_104, mt_105, ml_105, mt_106, ml_106, mt_107, ml_107, mt_108, ml_108, mt_109, ml_109, mt_110, ml_110, mt_111, ml_111, mt_112, ml_112, mt_113, ml_113, mt_114, ml_114, mt_115, ml_115, mt_116, ml_116, mt_117, ml_117, mt_118, ml_118, mt_119, ml_119, mt_120, ml_120, mt_121, ml_121, mt_122, ml_122, mt_123, ml_123, gP_78_2, gP_78_3, gP_78_4, gP_78_5, gP_78_6, gP_78_12, gP_78_13, gP_78_14, gP_78_15, gP_78_16, gP_78_17, gP_78_18, gP_78_19, gP_78_23, gP_78_24, gP_78_26, gP_78_27, gP_78_28, gP_78_31, gP_78_32, gP_78_34, gP_78_35, gP_78_36, gP_78_37, gP_78_40, gP_78_41, gP_78_42, gP_78_43, gP_78_52, gP_78_53, gP_78_54, gP_78_55, gP_78_56, gP_78_57, gP_78_58, gP_78_59, gP_78_60, gP_78_61, gP_78_62, gP_78_63, gP_78_65, gP_78_66, gP_78_67, gP_78_68, gP_78_69, hS1, hc1]
        · by_cases q : k = c
          · subst q
            refine ⟨?_, ?_⟩ <;> simp only [mt_sI, mt_sJ, mt_sP, mt_rI, mt_rJ, ml_sI, ml_sJ, ml_sP, ml_rI, ml_rJ, mP_sI, mP_sJ, mP_rI, mP_rJ, SHP_sI, SHP_sJ, SHP_rI, SHP_rJ, mI_sI, mI_rI, mI_sJ, mI_rJ, mI_sP, mJ_sI, mJ_rI, mJ_sP, mJ_sJ, mJ_rJ, gI_e, pI_e, ck_e, bnd_s, nm_eq, pr2_e, cnul_0, cnul_1, drf_1, sm_1, sm_2, aI_e, aJ_e, wI_e, wJ_e, aL_e, cpI_e, cpJ_e, Nat.reduceLeDiff, Nat.reduceEqDiff, Nat.add_left_cancel_iff, ad0, ad1, false_and, and_false, true_and, and_true, reduceIte, if_true, if_false, zb0, zb1, Int32.reduceLT, Int32.reduceLE, i10, nw1, nw2, nt1, nt2, not_true_eq_false, not_false_eq_true]
          · have y := g2 k (by omega)
            simp only [q, mt_sI, mt_sJ, mt_sP, mt_rI, mt_rJ, ml_sI, ml_sJ, ml_sP, ml_rI, ml_rJ, mP_sI, mP_sJ, mP_rI, mP_rJ, SHP_sI, SHP_sJ, SHP_rI, SHP_rJ, mI_sI, mI_rI, mI_sJ, mI_rJ, mI_sP, mJ_sI, mJ_rI, mJ_sP, mJ_sJ, mJ_rJ, gI_e, pI_e, ck_e, bnd_s, nm_eq, pr2_e, cnul_0, cnul_1, drf_1, sm_1, sm_2, aI_e, aJ_e, wI_e, wJ_e, aL_e, cpI_e, cpJ_e, Nat.reduceLeDiff, Nat.reduceEqDiff, Nat.add_left_cancel_iff, ad0, ad1, false_and, and_false, true_and, and_true, reduceIte, if_true, if_false, zb0, zb1, Int32.reduceLT, Int32.reduceLE, i10, nw1, nw2, nt1, nt2, not_true_eq_false, not_false_eq_true]; exact y) (by decide)
  obtain ⟨r, h1, h2⟩ := loop
  exact ⟨r, h1, h2⟩
def Z_image : Nat → Nat → Prop := fun a k => ((a = 78 ∧ (k = 44 ∨ k = 45 ∨ k = 46 ∨ k = 47 ∨ k = 48 ∨ k = 49 ∨ k = 50 ∨ k = 51)) ∨ (a = 107 ∧ k < 16) ∨ (a = 108 ∧ k < 5) ∨ (a = 109 ∧ k < 5) ∨ (a = 110 ∧ k < 5) ∨ (a = 111 ∧ k < 20) ∨ (a = 112 ∧ k < 5) ∨ (a = 113 ∧ k < 5) ∨ (a = 118 ∧ k < 5) ∨ (a = 114 ∧ k < 10) ∨ (a = 115 ∧ k < 10) ∨ (a = 116 ∧ k < 8) ∨ (a = 117 ∧ k < 8))
def V_image (M N : QM) (o : Nat) : Prop := (mI N (o + 78) 45 = mI M (o + 78) 8 ∧ mI N (o + 78) 46 = mI M (o + 78) 0 ∧ mI N (o + 78) 47 = mI M (o + 78) 1 ∧ mI N (o + 78) 48 = mI M (o + 78) 29 ∧ mI N (o + 78) 49 = mI M (o + 78) 33 ∧ mI N (o + 78) 50 = mI M (o + 78) 38 ∧ mI N (o + 78) 51 = mI M (o + 78) 39) ∧ ((∀ k, k < 16 → mI N (o + 107) k = mI M (o + 79) k) ∧ (∀ k, k < 5 → mI N (o + 108) k = mI M (o + 80) k) ∧ (∀ k, k < 5 → mI N (o + 109) k = mI M (o + 81) k) ∧ (∀ k, k < 5 → mI N (o + 110) k = mI M (o + 82) k) ∧ (∀ k, k < 20 → mI N (o + 111) k = mI M (o + 83) k) ∧ (∀ k, k < 5 → mI N (o + 112) k = mI M (o + 99) k) ∧ (∀ k, k < 5 → mI N (o + 113) k = mI M (o + 100) k) ∧ (∀ k, k < 5 → mI N (o + 118) k = zb (mI M (o + 102) k)) ∧ (∀ k, k < 10 → mI N (o + 114) k = mI M (o + 103) k) ∧ (∀ k, k < 10 → mI N (o + 115) k = mI M (o + 104) k) ∧ (∀ k, k < 8 → mI N (o + 116) k = mI M (o + 105) k) ∧ (∀ k, k < 8 → mI N (o + 117) k = mI M (o + 106) k))
set_option maxHeartbeats 4000000 in
theorem image_m (hS : SHP M o) : ∃ M1, fn_X9_image M (o + 78) = some ((mI M (o + 78) 0), M1) ∧ SQ M M1 o Z_image ∧ mI M1 (o + 78) 44 = 1 ∧ V_image M M1 o := by
  obtain ⟨A0, hA0⟩ : ∃ A, A = sI M (o + 78) 44 (1) := ⟨_, rfl⟩
  have q0 : SQ M A0 o Z_image := by rw [hA0]; exact (SQ.rfl).sI (by unfold Z_image; omega)
  obtain ⟨A1, hA1⟩ : ∃ A, A = sI A0 (o + 78) 45 (mI M (o + 78) 8) := ⟨_, rfl⟩
  have q1 : SQ M A1 o Z_image := by rw [hA1]; exact q0.sI (by unfold Z_image; omega)
  obtain ⟨A2, hA2⟩ : ∃ A, A = sI A1 (o + 78) 46 (mI M (o + 78) 0) := ⟨_, rfl⟩
  have q2 : SQ M A2 o Z_image := by rw [hA2]; exact q1.sI (by unfold Z_image; omega)
  obtain ⟨A3, hA3⟩ : ∃ A, A = sI A2 (o + 78) 47 (mI M (o + 78) 1) := ⟨_, rfl⟩
  have q3 : SQ M A3 o Z_image := by rw [hA3]; exact q2.sI (by unfold Z_image; omega)
  obtain ⟨A4, hA4⟩ : ∃ A, A = sI A3 (o + 78) 48 (mI M (o + 78) 29) := ⟨_, rfl⟩
  have q4 : SQ M A4 o Z_image := by rw [hA4]; exact q3.sI (by unfold Z_image; omega)
  obtain ⟨A5, hA5⟩ : ∃ A, A = sI A4 (o + 78) 49 (mI M (o + 78) 33) := ⟨_, rfl⟩
  have q5 : SQ M A5 o Z_image := by rw [hA5]; exact q4.sI (by unfold Z_image; omega)
  obtain ⟨A6, hA6⟩ : ∃ A, A = sI A5 (o + 78) 50 (mI M (o + 78) 38) := ⟨_, rfl⟩
  have q6 : SQ M A6 o Z_image := by rw [hA6]; exact q5.sI (by unfold Z_image; omega)
  obtain ⟨A7, hA7⟩ : ∃ A, A = sI A6 (o + 78) 51 (mI M (o + 78) 39) := ⟨_, rfl⟩
  have q7 : SQ M A7 o Z_image := by rw [hA7]; exact q6.sI (by unfold Z_image; omega)
  have sc : ∀ k, mI A7 (o + 78) k = if k = 51 then mI M (o + 78) 39 else if k = 50 then mI M (o + 78) 38 else if k = 49 then mI M (o + 78) 33 else if k = 48 then mI M (o + 78) 29 else if k = 47 then mI M (o + 78) 1 else if k = 46 then mI M (o + 78) 0 else if k = 45 then mI M (o + 78) 8 else if k = 44 then 1 else mI M (o + 78) k := fun k => by
    rw [hA7, hA6, hA5, hA4, hA3, hA2, hA1, hA0]
    simp only [mI_sI, true_and]
  have so : ∀ a, ¬ a = 78 → ∀ k, mI A7 (o + a) k = mI M (o + a) k := fun a ha k => by
    rw [hA7, hA6, hA5, hA4, hA3, hA2, hA1, hA0]
    simp only [mI_sI, Nat.add_left_cancel_iff, ha, false_and, if_false]
  obtain ⟨B0, b01, b02, b03⟩ := image_16 (q7.shp hS)
  have p0 : SQ M B0 o Z_image := q7.trans (b02.mono fun a k z => by unfold Z_image; omega)
  obtain ⟨B1, b11, b12, b13⟩ := image_5 (p0.shp hS)
  have p1 : SQ M B1 o Z_image := p0.trans (b12.mono fun a k z => by unfold Z_image; omega)
  obtain ⟨B2, b21, b22, b23⟩ := image_20 (p1.shp hS)
  have p2 : SQ M B2 o Z_image := p1.trans (b22.mono fun a k z => by unfold Z_image; omega)
  obtain ⟨B3, b31, b32, b33⟩ := image_10 (p2.shp hS)
  have p3 : SQ M B3 o Z_image := p2.trans (b32.mono fun a k z => by unfold Z_image; omega)
  obtain ⟨B4, b41, b42, b43⟩ := image_8 (p3.shp hS)
  have p4 : SQ M B4 o Z_image := p3.trans (b42.mono fun a k z => by unfold Z_image; omega)
  have t4 : ∀ a k, ¬ (a = 116 ∨ a = 117) → mI B4 (o + a) k = mI B3 (o + a) k := fun a k z => b42.2.2.2.2 a k (fun y => z (by omega))
  have t3 : ∀ a k, ¬ (a = 114 ∨ a = 115) → mI B3 (o + a) k = mI B2 (o + a) k := fun a k z => b32.2.2.2.2 a k (fun y => z (by omega))
  have t2 : ∀ a k, ¬ (a = 111) → mI B2 (o + a) k = mI B1 (o + a) k := fun a k z => b22.2.2.2.2 a k (fun y => z (by omega))
  have t1 : ∀ a k, ¬ (a = 108 ∨ a = 109 ∨ a = 110 ∨ a = 112 ∨ a = 118 ∨ a = 113) → mI B1 (o + a) k = mI B0 (o + a) k := fun a k z => b12.2.2.2.2 a k (fun y => z (by omega))
  have t0 : ∀ a k, ¬ (a = 107) → mI B0 (o + a) k = mI A7 (o + a) k := fun a k z => b02.2.2.2.2 a k (fun y => z (by omega))
  have z78 : ∀ k, mI B4 (o + 78) k = mI A7 (o + 78) k := fun k => by rw [t4 _ _ (by omega), t3 _ _ (by omega), t2 _ _ (by omega), t1 _ _ (by omega), t0 _ _ (by omega)]
  refine ⟨B4, ?_, p4, by rw [z78, sc]; rfl, ⟨by rw [z78, sc]; rfl, by rw [z78, sc]; rfl, by rw [z78, sc]; rfl, by rw [z78, sc]; rfl, by rw [z78, sc]; rfl, by rw [z78, sc]; rfl, by rw [z78, sc]; rfl⟩, fun k hk => ?_, fun k hk => ?_, fun k hk => ?_, fun k hk => ?_, fun k hk => ?_, fun k hk => ?_, fun k hk => ?_, fun k hk => ?_, fun k hk => ?_, fun k hk => ?_, fun k hk => ?_, fun k hk => ?_⟩
  · have m0 := mt_78 hS
    have m1 : mt A0 (o + 78) = 9 := mt_78 (q0.shp hS)
    have m2 : mt A1 (o + 78) = 9 := mt_78 (q1.shp hS)
    have m3 : mt A2 (o + 78) = 9 := mt_78 (q2.shp hS)
    have m4 : mt A3 (o + 78) = 9 := mt_78 (q3.shp hS)
    have m5 : mt A4 (o + 78) = 9 := mt_78 (q4.shp hS)
    have m6 : mt A5 (o + 78) = 9 := mt_78 (q5.shp hS)
    have m7 : mt A6 (o + 78) = 9 := mt_78 (q6.shp hS)
    have m8 : mt A7 (o + 78) = 9 := mt_78 (q7.shp hS)
    unfold fn_X9_image
    rw [pI_e m0, ← hA0, gI_e m1, show mI A0 (o + 78) 8 = mI M (o + 78) 8 from by rw [hA0]; simp only [mI_sI, true_and, Nat.reduceEqDiff, if_false], pI_e m1, ← hA1, gI_e m2, show mI A1 (o + 78) 0 = mI M (o + 78) 0 from by rw [hA1, hA0]; simp only [mI_sI, true_and, Nat.reduceEqDiff, if_false], pI_e m2, ← hA2, gI_e m3, show mI A2 (o + 78) 1 = mI M (o + 78) 1 from by rw [hA2, hA1, hA0]; simp only [mI_sI, true_and, Nat.reduceEqDiff, if_false], pI_e m3, ← hA3, gI_e m4, show mI A3 (o + 78) 29 = mI M (o + 78) 29 from by rw [hA3, hA2, hA1, hA0]; simp only [mI_sI, true_and, Nat.reduceEqDiff, if_false], pI_e m4, ← hA4, gI_e m5, show mI A4 (o + 78) 33 = mI M (o + 78) 33 from by rw [hA4, hA3, hA2, hA1, hA0]; simp only [mI_sI, true_and, Nat.reduceEqDiff, if_false], pI_e m5, ← hA5, gI_e m6, show mI A5 (o + 78) 38 = mI M (o + 78) 38 from by rw [hA5, hA4, hA3, hA2, hA1, hA0]; simp only [mI_sI, true_and, Nat.reduceEqDiff, if_false], pI_e m6, ← hA6, gI_e m7, show mI A6 (o + 78) 39 = mI M (o + 78) 39 from by rw [hA6, hA5, hA4, hA3, hA2, hA1, hA0]; simp only [mI_sI, true_and, Nat.reduceEqDiff, if_false], pI_e m7, ← hA7, bnd_e b01, bnd_e b11, bnd_e b21, bnd_e b31, bnd_e b41]
    rw [gI_e (mt_78 (p4.shp hS)), z78, sc]
    rfl
  · rw [t4 _ _ (by omega), t3 _ _ (by omega), t2 _ _ (by omega), t1 _ _ (by omega)]; rw [(b03 k hk), (q7.2.2.2.2 79 k (by unfold Z_image; omega))]
  · rw [t4 _ _ (by omega), t3 _ _ (by omega), t2 _ _ (by omega)]; rw [(b13 k hk).1, (p0.2.2.2.2 80 k (by unfold Z_image; omega))]
  · rw [t4 _ _ (by omega), t3 _ _ (by omega), t2 _ _ (by omega)]; rw [(b13 k hk).2.1, (p0.2.2.2.2 81 k (by unfold Z_image; omega))]
  · rw [t4 _ _ (by omega), t3 _ _ (by omega), t2 _ _ (by omega)]; rw [(b13 k hk).2.2.1, (p0.2.2.2.2 82 k (by unfold Z_image; omega))]
  · rw [t4 _ _ (by omega), t3 _ _ (by omega)]; rw [(b23 k hk), (p1.2.2.2.2 83 k (by unfold Z_image; omega))]
  · rw [t4 _ _ (by omega), t3 _ _ (by omega), t2 _ _ (by omega)]; rw [(b13 k hk).2.2.2.1, (p0.2.2.2.2 99 k (by unfold Z_image; omega))]
  · rw [t4 _ _ (by omega), t3 _ _ (by omega), t2 _ _ (by omega)]; rw [(b13 k hk).2.2.2.2.2, (p0.2.2.2.2 100 k (by unfold Z_image; omega))]
  · rw [t4 _ _ (by omega), t3 _ _ (by omega), t2 _ _ (by omega)]; rw [(b13 k hk).2.2.2.2.1, (p0.2.2.2.2 102 k (by unfold Z_image; omega))]
  · rw [t4 _ _ (by omega)]; rw [(b33 k hk).1, (p2.2.2.2.2 103 k (by unfold Z_image; omega))]
  · rw [t4 _ _ (by omega)]; rw [(b33 k hk).2, (p2.2.2.2.2 104 k (by unfold Z_image; omega))]
  · rw [(b43 k hk).1, (p3.2.2.2.2 105 k (by unfold Z_image; omega))]
  · rw [(b43 k hk).2, (p3.2.2.2.2 106 k (by unfold Z_image; omega))]
end IM_image
section IM_undo
variable {M N : QM} {o : Nat}
set_option maxHeartbeats 1000000 in
theorem undo_16 (hS : SHP M o) : ∃ M1, itr (fun s68 : Int32 × QM => lp_X9_undo_68 (o + 78) s68.1 s68.2) FU (0, M) = some M1 ∧ SQ M M1 o (fun a k => (a = 79) ∧ k < 16) ∧ ∀ k, k < 16 → mI M1 (o + 79) k = mI M (o + 107) k := by
  have loop := itr_J (f := (fun s68 : Int32 × QM => lp_X9_undo_68 (o + 78) s68.1 s68.2)) (s0 := (0, M)) (fun c z => c ≤ 16 ∧ ∃ Mw, z = (nI c, Mw) ∧ SQ M Mw o (fun a k => (a = 79) ∧ k < 16) ∧ ∀ k, k < c → mI Mw (o + 79) k = mI M (o + 107) k) (fun M1 => SQ M M1 o (fun a k => (a = 79) ∧ k < 16) ∧ ∀ k, k < 16 → mI M1 (o + 79) k = mI M (o + 107) k) 16
    ⟨Nat.zero_le _, M, rfl, SQ.rfl, fun j hj => absurd hj (Nat.not_lt_zero _)⟩
    (fun c z hz => by
      obtain ⟨hc, Mw, rfl, g1, g2⟩ := hz
      have hS1 := g1.shp hS
      show (∃ r, lp_X9_undo_68 (o + 78) (nI c) Mw = some (.inr r) ∧ _) ∨ _ ∧ ∃ s', lp_X9_undo_68 (o + 78) (nI c) Mw = some (.inl s') ∧ _
      by_cases e : c = 16
      · left
        subst e
        refine ⟨Mw, ?_, g1, g2⟩
        unfold lp_X9_undo_68
        rw [if_pos (by decide)]
      · right
        have hc1 : c < 16 := by omega
        have f1 : ¬ (16 : Int32) ≤ nI c := by show ¬ nI 16 ≤ nI c; rw [nI_leI (by decide) (by omega)]; omega
        have r0 : mI Mw (o + 107) c = mI M (o + 107) c := g1.2.2.2.2 107 c (by omega)
        refine ⟨hc1, (nI (c + 1), sI (Mw) (o + 79) c (mI M (o + 107) c)), ?_, by omega, _, rfl, (g1.sI (by omega)), fun k hk => ?_⟩
        · simp only [lp_X9_undo_68, f1, r0, nI_1, mt_sI, mt_sJ, mt_sP, mt_rI, mt_rJ, ml_sI, ml_sJ, ml_sP, ml_rI, ml_rJ, mP_sI, mP_sJ, mP_rI, mP_rJ, SHP_sI, SHP_sJ, SHP_rI, SHP_rJ, mI_sI, mI_rI, mI_sJ, mI_rJ, mI_sP, mJ_sI, mJ_rI, mJ_sP, mJ_sJ, mJ_rJ, gI_e, pI_e, ck_e, bnd_s, nm_eq, pr2_e, cnul_0, cnul_1, drf_1, sm_1, sm_2, aI_e, aJ_e, wI_e, wJ_e, aL_e, cpI_e, cpJ_e, Nat.reduceLeDiff, Nat.reduceEqDiff, Nat.add_left_cancel_iff, ad0, ad1, false_and, and_false, true_and, and_true, reduceIte, if_true, if_false, zb0, zb1, Int32.reduceLT, Int32.reduceLE, i10, nw1, nw2, nt1, nt2, not_true_eq_false, not_false_eq_true, mt_78, mt_79, ml_79, mt_80, ml_80, mt_81, ml_81, mt_82, ml_82, mt_83, ml_83, mt_84, ml_84, mt_85, ml_85, mt_86, ml_86, mt_87, ml_87, mt_88, ml_88, mt_89, ml_89, mt_90, ml_90, mt_91, ml_91, mt_92, ml_92, mt_93, ml_93, mt_94, ml_94, mt_95, ml_95, mt_96, ml_96, mt_97, ml_97, mt_98, ml_98, mt_99, ml_99, mt_100, ml_100, mt_101, ml_101, mt_102, ml_102, mt_103, ml_103, mt_104, ml_104, mt_105, ml_105, mt_106, ml_106, mt_107, ml_107, mt_108, ml_108, mt_109, ml_109, mt_110, ml_110, mt_111, ml_111, mt_112, ml_112, mt_113, ml_113, mt_114, ml_114, mt_115, ml_115, mt_116, ml_116, mt_117, ml_117, mt_118, ml_118, mt_119, ml_119, mt_120, ml_120, mt_121, ml_121, mt_122, ml_122, mt_123, ml_123, gP_78_2, gP_78_3, gP_78_4, gP_78_5, gP_78_6, gP_78_12, gP_78_13, gP_78_14, gP_78_15, gP_78_16, gP_78_17, gP_78_18, gP_78_19, gP_78_23, gP_78_24, gP_78_26, gP_78_27, gP_78_28, gP_78_31, gP_78_32, gP_78_34, gP_78_35, gP_78_36, gP_78_37, gP_78_40, gP_78_41, gP_78_42, gP_78_43, gP_78_52, gP_78_53, gP_78_54, gP_78_55, gP_78_56, gP_78_57, gP_78_58, gP_78_59, gP_78_60, gP_78_61, gP_78_62, gP_78_63, gP_78_65, gP_78_66, gP_78_67, gP_78_68, gP_78_69, hS1, hc1]
        · by_cases q : k = c
          · subst q
            simp only [mt_sI, mt_sJ, mt_sP, mt_rI, mt_rJ, ml_sI, ml_sJ, ml_sP, ml_rI, ml_rJ, mP_sI, mP_sJ, mP_rI, mP_rJ, SHP_sI, SHP_sJ, SHP_rI, SHP_rJ, mI_sI, mI_rI, mI_sJ, mI_rJ, mI_sP, mJ_sI, mJ_rI, mJ_sP, mJ_sJ, mJ_rJ, gI_e, pI_e, ck_e, bnd_s, nm_eq, pr2_e, cnul_0, cnul_1, drf_1, sm_1, sm_2, aI_e, aJ_e, wI_e, wJ_e, aL_e, cpI_e, cpJ_e, Nat.reduceLeDiff, Nat.reduceEqDiff, Nat.add_left_cancel_iff, ad0, ad1, false_and, and_false, true_and, and_true, reduceIte, if_true, if_false, zb0, zb1, Int32.reduceLT, Int32.reduceLE, i10, nw1, nw2, nt1, nt2, not_true_eq_false, not_false_eq_true]
          · simp only [q, mt_sI, mt_sJ, mt_sP, mt_rI, mt_rJ, ml_sI, ml_sJ, ml_sP, ml_rI, ml_rJ, mP_sI, mP_sJ, mP_rI, mP_rJ, SHP_sI, SHP_sJ, SHP_rI, SHP_rJ, mI_sI, mI_rI, mI_sJ, mI_rJ, mI_sP, mJ_sI, mJ_rI, mJ_sP, mJ_sJ, mJ_rJ, gI_e, pI_e, ck_e, bnd_s, nm_eq, pr2_e, cnul_0, cnul_1, drf_1, sm_1, sm_2, aI_e, aJ_e, wI_e, wJ_e, aL_e, cpI_e, cpJ_e, Nat.reduceLeDiff, Nat.reduceEqDiff, Nat.add_left_cancel_iff, ad0, ad1, false_and, and_false, true_and, and_true, reduceIte, if_true, if_false, zb0, zb1, Int32.reduceLT, Int32.reduceLE, i10, nw1, nw2, nt1, nt2, not_true_eq_false, not_false_eq_true]; exact g2 k (by omega)) (by decide)
  obtain ⟨r, h1, h2⟩ := loop
  exact ⟨r, h1, h2⟩
set_option maxHeartbeats 1000000 in
theorem undo_5 (hS : SHP M o) : ∃ M1, itr (fun s94 : Int32 × QM => lp_X9_undo_94 (o + 78) s94.1 s94.2) FU (0, M) = some M1 ∧ SQ M M1 o (fun a k => (a = 80 ∨ a = 81 ∨ a = 82 ∨ a = 99 ∨ a = 102 ∨ a = 100) ∧ k < 5) ∧ ∀ k, k < 5 → mI M1 (o + 80) k = mI M (o + 108) k ∧ mI M1 (o + 81) k = mI M (o + 109) k ∧ mI M1 (o + 82) k = mI M (o + 110) k ∧ mI M1 (o + 99) k = mI M (o + 112) k ∧ mI M1 (o + 102) k = zb (mI M (o + 118) k) ∧ mI M1 (o + 100) k = mI M (o + 113) k := by
  have loop := itr_J (f := (fun s94 : Int32 × QM => lp_X9_undo_94 (o + 78) s94.1 s94.2)) (s0 := (0, M)) (fun c z => c ≤ 5 ∧ ∃ Mw, z = (nI c, Mw) ∧ SQ M Mw o (fun a k => (a = 80 ∨ a = 81 ∨ a = 82 ∨ a = 99 ∨ a = 102 ∨ a = 100) ∧ k < 5) ∧ ∀ k, k < c → mI Mw (o + 80) k = mI M (o + 108) k ∧ mI Mw (o + 81) k = mI M (o + 109) k ∧ mI Mw (o + 82) k = mI M (o + 110) k ∧ mI Mw (o + 99) k = mI M (o + 112) k ∧ mI Mw (o + 102) k = zb (mI M (o + 118) k) ∧ mI Mw (o + 100) k = mI M (o + 113) k) (fun M1 => SQ M M1 o (fun a k => (a = 80 ∨ a = 81 ∨ a = 82 ∨ a = 99 ∨ a = 102 ∨ a = 100) ∧ k < 5) ∧ ∀ k, k < 5 → mI M1 (o + 80) k = mI M (o + 108) k ∧ mI M1 (o + 81) k = mI M (o + 109) k ∧ mI M1 (o + 82) k = mI M (o + 110) k ∧ mI M1 (o + 99) k = mI M (o + 112) k ∧ mI M1 (o + 102) k = zb (mI M (o + 118) k) ∧ mI M1 (o + 100) k = mI M (o + 113) k) 5
    ⟨Nat.zero_le _, M, rfl, SQ.rfl, fun j hj => absurd hj (Nat.not_lt_zero _)⟩
    (fun c z hz => by
      obtain ⟨hc, Mw, rfl, g1, g2⟩ := hz
      have hS1 := g1.shp hS
      show (∃ r, lp_X9_undo_94 (o + 78) (nI c) Mw = some (.inr r) ∧ _) ∨ _ ∧ ∃ s', lp_X9_undo_94 (o + 78) (nI c) Mw = some (.inl s') ∧ _
      by_cases e : c = 5
      · left
        subst e
        refine ⟨Mw, ?_, g1, g2⟩
        unfold lp_X9_undo_94
        rw [if_pos (by decide)]
      · right
        have hc1 : c < 5 := by omega
        have f1 : ¬ (5 : Int32) ≤ nI c := by show ¬ nI 5 ≤ nI c; rw [nI_leI (by decide) (by omega)]; omega
        have r0 : mI Mw (o + 108) c = mI M (o + 108) c := g1.2.2.2.2 108 c (by omega)
        have r1 : mI Mw (o + 109) c = mI M (o + 109) c := g1.2.2.2.2 109 c (by omega)
        have r2 : mI Mw (o + 110) c = mI M (o + 110) c := g1.2.2.2.2 110 c (by omega)
        have r3 : mI Mw (o + 112) c = mI M (o + 112) c := g1.2.2.2.2 112 c (by omega)
        have r4 : mI Mw (o + 118) c = mI M (o + 118) c := g1.2.2.2.2 118 c (by omega)
        have r5 : mI Mw (o + 113) c = mI M (o + 113) c := g1.2.2.2.2 113 c (by omega)
        refine ⟨hc1, (nI (c + 1), sI (sI (sI (sI (sI (sI (Mw) (o + 80) c (mI M (o + 108) c)) (o + 81) c (mI M (o + 109) c)) (o + 82) c (mI M (o + 110) c)) (o + 99) c (mI M (o + 112) c)) (o + 102) c (zb (mI M (o + 118) c))) (o + 100) c (mI M (o + 113) c)), ?_, by omega, _, rfl, ((((((g1.sI (by omega)).sI (by omega)).sI (by omega)).sI (by omega)).sI (by omega)).sI (by omega)), fun k hk => ?_⟩
        · simp only [lp_X9_undo_94, f1, r0, r1, r2, r3, r4, r5, nI_1, mt_sI, mt_sJ, mt_sP, mt_rI, mt_rJ, ml_sI, ml_sJ, ml_sP, ml_rI, ml_rJ, mP_sI, mP_sJ, mP_rI, mP_rJ, SHP_sI, SHP_sJ, SHP_rI, SHP_rJ, mI_sI, mI_rI, mI_sJ, mI_rJ, mI_sP, mJ_sI, mJ_rI, mJ_sP, mJ_sJ, mJ_rJ, gI_e, pI_e, ck_e, bnd_s, nm_eq, pr2_e, cnul_0, cnul_1, drf_1, sm_1, sm_2, aI_e, aJ_e, wI_e, wJ_e, aL_e, cpI_e, cpJ_e, Nat.reduceLeDiff, Nat.reduceEqDiff, Nat.add_left_cancel_iff, ad0, ad1, false_and, and_false, true_and, and_true, reduceIte, if_true, if_false, zb0, zb1, Int32.reduceLT, Int32.reduceLE, i10, nw1, nw2, nt1, nt2, not_true_eq_false, not_false_eq_true, mt_78, mt_79, ml_79, mt_80, ml_80, mt_81, ml_81, mt_82, ml_82, mt_83, ml_83, mt_84, ml_84, mt_85, ml_85, mt_86, ml_86, mt_87, ml_87, mt_88, ml_88, mt_89, ml_89, mt_90, ml_90, mt_91, ml_91, mt_92, ml_92, mt_93, ml_93, mt_94, ml_94, mt_95, ml_95, mt_96, ml_96, mt_97, ml_97, mt_98, ml_98, mt_99, ml_99, mt_100, ml_100, mt_101, ml_101, mt_102, ml_102, mt_103, ml_103, mt_104, ml_104, mt_105, ml_105, mt_106, ml_106, mt_107, ml_107, mt_108, ml_108, mt_109, ml_109, mt_110, ml_110, mt_111, ml_111, mt_112, ml_112, mt_113, ml_113, mt_114, ml_114, mt_115, ml_115, mt_116, ml_116, mt_117, ml_117, mt_118, ml_118, mt_119, ml_119, mt_120, ml_120, mt_121, ml_121, mt_122, ml_122, mt_123, ml_123, gP_78_2, gP_78_3, gP_78_4, gP_78_5, gP_78_6, gP_78_12, gP_78_13, gP_78_14, gP_78_15, gP_78_16, gP_78_17, gP_78_18, gP_78_19, gP_78_23, gP_78_24, gP_78_26, gP_78_27, gP_78_28, gP_78_31, gP_78_32, gP_78_34, gP_78_35, gP_78_36, gP_78_37, gP_78_40, gP_78_41, gP_78_42, gP_78_43, gP_78_52, gP_78_53, gP_78_54, gP_78_55, gP_78_56, gP_78_57, gP_78_58, gP_78_59, gP_78_60, gP_78_61, gP_78_62, gP_78_63, gP_78_65, gP_78_66, gP_78_67, gP_78_68, gP_78_69, hS1, hc1]
        · by_cases q : k = c
          · subst q
            refine ⟨?_, ?_, ?_, ?_, ?_, ?_⟩ <;> simp only [mt_sI, mt_sJ, mt_sP, mt_rI, mt_rJ, ml_sI, ml_sJ, ml_sP, ml_rI, ml_rJ, mP_sI, mP_sJ, mP_rI, mP_rJ, SHP_sI, SHP_sJ, SHP_rI, SHP_rJ, mI_sI, mI_rI, mI_sJ, mI_rJ, mI_sP, mJ_sI, mJ_rI, mJ_sP, mJ_sJ, mJ_rJ, gI_e, pI_e, ck_e, bnd_s, nm_eq, pr2_e, cnul_0, cnul_1, drf_1, sm_1, sm_2, aI_e, aJ_e, wI_e, wJ_e, aL_e, cpI_e, cpJ_e, Nat.reduceLeDiff, Nat.reduceEqDiff, Nat.add_left_cancel_iff, ad0, ad1, false_and, and_false, true_and, and_true, reduceIte, if_true, if_false, zb0, zb1, Int32.reduceLT, Int32.reduceLE, i10, nw1, nw2, nt1, nt2, not_true_eq_false, not_false_eq_true]
          · have y := g2 k (by omega)
            simp only [q, mt_sI, mt_sJ, mt_sP, mt_rI, mt_rJ, ml_sI, ml_sJ, ml_sP, ml_rI, ml_rJ, mP_sI, mP_sJ, mP_rI, mP_rJ, SHP_sI, SHP_sJ, SHP_rI, SHP_rJ, mI_sI, mI_rI, mI_sJ, mI_rJ, mI_sP, mJ_sI, mJ_rI, mJ_sP, mJ_sJ, mJ_rJ, gI_e, pI_e, ck_e, bnd_s, nm_eq, pr2_e, cnul_0, cnul_1, drf_1, sm_1, sm_2, aI_e, aJ_e, wI_e, wJ_e, aL_e, cpI_e, cpJ_e, Nat.reduceLeDiff, Nat.reduceEqDiff, Nat.add_left_cancel_iff, ad0, ad1, false_and, and_false, true_and, and_true, reduceIte, if_true, if_false, zb0, zb1, Int32.reduceLT, Int32.reduceLE, i10, nw1, nw2, nt1, nt2, not_true_eq_false, not_false_eq_true]; exact y) (by decide)
  obtain ⟨r, h1, h2⟩ := loop
  exact ⟨r, h1, h2⟩
set_option maxHeartbeats 1000000 in
theorem undo_20 (hS : SHP M o) : ∃ M1, itr (fun s179 : Int32 × QM => lp_X9_undo_179 (o + 78) s179.1 s179.2) FU (0, M) = some M1 ∧ SQ M M1 o (fun a k => (a = 83) ∧ k < 20) ∧ ∀ k, k < 20 → mI M1 (o + 83) k = mI M (o + 111) k := by
  have loop := itr_J (f := (fun s179 : Int32 × QM => lp_X9_undo_179 (o + 78) s179.1 s179.2)) (s0 := (0, M)) (fun c z => c ≤ 20 ∧ ∃ Mw, z = (nI c, Mw) ∧ SQ M Mw o (fun a k => (a = 83) ∧ k < 20) ∧ ∀ k, k < c → mI Mw (o + 83) k = mI M (o + 111) k) (fun M1 => SQ M M1 o (fun a k => (a = 83) ∧ k < 20) ∧ ∀ k, k < 20 → mI M1 (o + 83) k = mI M (o + 111) k) 20
    ⟨Nat.zero_le _, M, rfl, SQ.rfl, fun j hj => absurd hj (Nat.not_lt_zero _)⟩
    (fun c z hz => by
      obtain ⟨hc, Mw, rfl, g1, g2⟩ := hz
      have hS1 := g1.shp hS
      show (∃ r, lp_X9_undo_179 (o + 78) (nI c) Mw = some (.inr r) ∧ _) ∨ _ ∧ ∃ s', lp_X9_undo_179 (o + 78) (nI c) Mw = some (.inl s') ∧ _
      by_cases e : c = 20
      · left
        subst e
        refine ⟨Mw, ?_, g1, g2⟩
        unfold lp_X9_undo_179
        rw [if_pos (by decide)]
      · right
        have hc1 : c < 20 := by omega
        have f1 : ¬ (20 : Int32) ≤ nI c := by show ¬ nI 20 ≤ nI c; rw [nI_leI (by decide) (by omega)]; omega
        have r0 : mI Mw (o + 111) c = mI M (o + 111) c := g1.2.2.2.2 111 c (by omega)
        refine ⟨hc1, (nI (c + 1), sI (Mw) (o + 83) c (mI M (o + 111) c)), ?_, by omega, _, rfl, (g1.sI (by omega)), fun k hk => ?_⟩
        · simp only [lp_X9_undo_179, f1, r0, nI_1, mt_sI, mt_sJ, mt_sP, mt_rI, mt_rJ, ml_sI, ml_sJ, ml_sP, ml_rI, ml_rJ, mP_sI, mP_sJ, mP_rI, mP_rJ, SHP_sI, SHP_sJ, SHP_rI, SHP_rJ, mI_sI, mI_rI, mI_sJ, mI_rJ, mI_sP, mJ_sI, mJ_rI, mJ_sP, mJ_sJ, mJ_rJ, gI_e, pI_e, ck_e, bnd_s, nm_eq, pr2_e, cnul_0, cnul_1, drf_1, sm_1, sm_2, aI_e, aJ_e, wI_e, wJ_e, aL_e, cpI_e, cpJ_e, Nat.reduceLeDiff, Nat.reduceEqDiff, Nat.add_left_cancel_iff, ad0, ad1, false_and, and_false, true_and, and_true, reduceIte, if_true, if_false, zb0, zb1, Int32.reduceLT, Int32.reduceLE, i10, nw1, nw2, nt1, nt2, not_true_eq_false, not_false_eq_true, mt_78, mt_79, ml_79, mt_80, ml_80, mt_81, ml_81, mt_82, ml_82, mt_83, ml_83, mt_84, ml_84, mt_85, ml_85, mt_86, ml_86, mt_87, ml_87, mt_88, ml_88, mt_89, ml_89, mt_90, ml_90, mt_91, ml_91, mt_92, ml_92, mt_93, ml_93, mt_94, ml_94, mt_95, ml_95, mt_96, ml_96, mt_97, ml_97, mt_98, ml_98, mt_99, ml_99, mt_100, ml_100, mt_101, ml_101, mt_102, ml_102, mt_103, ml_103, mt_104, ml_104, mt_105, ml_105, mt_106, ml_106, mt_107, ml_107, mt_108, ml_108, mt_109, ml_109, mt_110, ml_110, mt_111, ml_111, mt_112, ml_112, mt_113, ml_113, mt_114, ml_114, mt_115, ml_115, mt_116, ml_116, mt_117, ml_117, mt_118, ml_118, mt_119, ml_119, mt_120, ml_120, mt_121, ml_121, mt_122, ml_122, mt_123, ml_123, gP_78_2, gP_78_3, gP_78_4, gP_78_5, gP_78_6, gP_78_12, gP_78_13, gP_78_14, gP_78_15, gP_78_16, gP_78_17, gP_78_18, gP_78_19, gP_78_23, gP_78_24, gP_78_26, gP_78_27, gP_78_28, gP_78_31, gP_78_32, gP_78_34, gP_78_35, gP_78_36, gP_78_37, gP_78_40, gP_78_41, gP_78_42, gP_78_43, gP_78_52, gP_78_53, gP_78_54, gP_78_55, gP_78_56, gP_78_57, gP_78_58, gP_78_59, gP_78_60, gP_78_61, gP_78_62, gP_78_63, gP_78_65, gP_78_66, gP_78_67, gP_78_68, gP_78_69, hS1, hc1]
        · by_cases q : k = c
          · subst q
            simp only [mt_sI, mt_sJ, mt_sP, mt_rI, mt_rJ, ml_sI, ml_sJ, ml_sP, ml_rI, ml_rJ, mP_sI, mP_sJ, mP_rI, mP_rJ, SHP_sI, SHP_sJ, SHP_rI, SHP_rJ, mI_sI, mI_rI, mI_sJ, mI_rJ, mI_sP, mJ_sI, mJ_rI, mJ_sP, mJ_sJ, mJ_rJ, gI_e, pI_e, ck_e, bnd_s, nm_eq, pr2_e, cnul_0, cnul_1, drf_1, sm_1, sm_2, aI_e, aJ_e, wI_e, wJ_e, aL_e, cpI_e, cpJ_e, Nat.reduceLeDiff, Nat.reduceEqDiff, Nat.add_left_cancel_iff, ad0, ad1, false_and, and_false, true_and, and_true, reduceIte, if_true, if_false, zb0, zb1, Int32.reduceLT, Int32.reduceLE, i10, nw1, nw2, nt1, nt2, not_true_eq_false, not_false_eq_true]
          · simp only [q, mt_sI, mt_sJ, mt_sP, mt_rI, mt_rJ, ml_sI, ml_sJ, ml_sP, ml_rI, ml_rJ, mP_sI, mP_sJ, mP_rI, mP_rJ, SHP_sI, SHP_sJ, SHP_rI, SHP_rJ, mI_sI, mI_rI, mI_sJ, mI_rJ, mI_sP, mJ_sI, mJ_rI, mJ_sP, mJ_sJ, mJ_rJ, gI_e, pI_e, ck_e, bnd_s, nm_eq, pr2_e, cnul_0, cnul_1, drf_1, sm_1, sm_2, aI_e, aJ_e, wI_e, wJ_e, aL_e, cpI_e, cpJ_e, Nat.reduceLeDiff, Nat.reduceEqDiff, Nat.add_left_cancel_iff, ad0, ad1, false_and, and_false, true_and, and_true, reduceIte, if_true, if_false, zb0, zb1, Int32.reduceLT, Int32.reduceLE, i10, nw1, nw2, nt1, nt2, not_true_eq_false, not_false_eq_true]; exact g2 k (by omega)) (by decide)
  obtain ⟨r, h1, h2⟩ := loop
  exact ⟨r, h1, h2⟩
set_option maxHeartbeats 1000000 in
theorem undo_10 (hS : SHP M o) : ∃ M1, itr (fun s205 : Int32 × QM => lp_X9_undo_205 (o + 78) s205.1 s205.2) FU (0, M) = some M1 ∧ SQ M M1 o (fun a k => (a = 103 ∨ a = 104) ∧ k < 10) ∧ ∀ k, k < 10 → mI M1 (o + 103) k = mI M (o + 114) k ∧ mI M1 (o + 104) k = mI M (o + 115) k := by
  have loop := itr_J (f := (fun s205 : Int32 × QM => lp_X9_undo_205 (o + 78) s205.1 s205.2)) (s0 := (0, M)) (fun c z => c ≤ 10 ∧ ∃ Mw, z = (nI c, Mw) ∧ SQ M Mw o (fun a k => (a = 103 ∨ a = 104) ∧ k < 10) ∧ ∀ k, k < c → mI Mw (o + 103) k = mI M (o + 114) k ∧ mI Mw (o + 104) k = mI M (o + 115) k) (fun M1 => SQ M M1 o (fun a k => (a = 103 ∨ a = 104) ∧ k < 10) ∧ ∀ k, k < 10 → mI M1 (o + 103) k = mI M (o + 114) k ∧ mI M1 (o + 104) k = mI M (o + 115) k) 10
    ⟨Nat.zero_le _, M, rfl, SQ.rfl, fun j hj => absurd hj (Nat.not_lt_zero _)⟩
    (fun c z hz => by
      obtain ⟨hc, Mw, rfl, g1, g2⟩ := hz
      have hS1 := g1.shp hS
      show (∃ r, lp_X9_undo_205 (o + 78) (nI c) Mw = some (.inr r) ∧ _) ∨ _ ∧ ∃ s', lp_X9_undo_205 (o + 78) (nI c) Mw = some (.inl s') ∧ _
      by_cases e : c = 10
      · left
        subst e
        refine ⟨Mw, ?_, g1, g2⟩
        unfold lp_X9_undo_205
        rw [if_pos (by decide)]
      · right
        have hc1 : c < 10 := by omega
        have f1 : ¬ (10 : Int32) ≤ nI c := by show ¬ nI 10 ≤ nI c; rw [nI_leI (by decide) (by omega)]; omega
        have r0 : mI Mw (o + 114) c = mI M (o + 114) c := g1.2.2.2.2 114 c (by omega)
        have r1 : mI Mw (o + 115) c = mI M (o + 115) c := g1.2.2.2.2 115 c (by omega)
        refine ⟨hc1, (nI (c + 1), sI (sI (Mw) (o + 103) c (mI M (o + 114) c)) (o + 104) c (mI M (o + 115) c)), ?_, by omega, _, rfl, ((g1.sI (by omega)).sI (by omega)), fun k hk => ?_⟩
        · simp only [lp_X9_undo_205, f1, r0, r1, nI_1, mt_sI, mt_sJ, mt_sP, mt_rI, mt_rJ, ml_sI, ml_sJ, ml_sP, ml_rI, ml_rJ, mP_sI, mP_sJ, mP_rI, mP_rJ, SHP_sI, SHP_sJ, SHP_rI, SHP_rJ, mI_sI, mI_rI, mI_sJ, mI_rJ, mI_sP, mJ_sI, mJ_rI, mJ_sP, mJ_sJ, mJ_rJ, gI_e, pI_e, ck_e, bnd_s, nm_eq, pr2_e, cnul_0, cnul_1, drf_1, sm_1, sm_2, aI_e, aJ_e, wI_e, wJ_e, aL_e, cpI_e, cpJ_e, Nat.reduceLeDiff, Nat.reduceEqDiff, Nat.add_left_cancel_iff, ad0, ad1, false_and, and_false, true_and, and_true, reduceIte, if_true, if_false, zb0, zb1, Int32.reduceLT, Int32.reduceLE, i10, nw1, nw2, nt1, nt2, not_true_eq_false, not_false_eq_true, mt_78, mt_79, ml_79, mt_80, ml_80, mt_81, ml_81, mt_82, ml_82, mt_83, ml_83, mt_84, ml_84, mt_85, ml_85, mt_86, ml_86, mt_87, ml_87, mt_88, ml_88, mt_89, ml_89, mt_90, ml_90, mt_91, ml_91, mt_92, ml_92, mt_93, ml_93, mt_94, ml_94, mt_95, ml_95, mt_96, ml_96, mt_97, ml_97, mt_98, ml_98, mt_99, ml_99, mt_100, ml_100, mt_101, ml_101, mt_102, ml_102, mt_103, ml_103, mt_104, ml_104, mt_105, ml_105, mt_106, ml_106, mt_107, ml_107, mt_108, ml_108, mt_109, ml_109, mt_110, ml_110, mt_111, ml_111, mt_112, ml_112, mt_113, ml_113, mt_114, ml_114, mt_115, ml_115, mt_116, ml_116, mt_117, ml_117, mt_118, ml_118, mt_119, ml_119, mt_120, ml_120, mt_121, ml_121, mt_122, ml_122, mt_123, ml_123, gP_78_2, gP_78_3, gP_78_4, gP_78_5, gP_78_6, gP_78_12, gP_78_13, gP_78_14, gP_78_15, gP_78_16, gP_78_17, gP_78_18, gP_78_19, gP_78_23, gP_78_24, gP_78_26, gP_78_27, gP_78_28, gP_78_31, gP_78_32, gP_78_34, gP_78_35, gP_78_36, gP_78_37, gP_78_40, gP_78_41, gP_78_42, gP_78_43, gP_78_52, gP_78_53, gP_78_54, gP_78_55, gP_78_56, gP_78_57, gP_78_58, gP_78_59, gP_78_60, gP_78_61, gP_78_62, gP_78_63, gP_78_65, gP_78_66, gP_78_67, gP_78_68, gP_78_69, hS1, hc1]
        · by_cases q : k = c
          · subst q
            refine ⟨?_, ?_⟩ <;> simp only [mt_sI, mt_sJ, mt_sP, mt_rI, mt_rJ, ml_sI, ml_sJ, ml_sP, ml_rI, ml_rJ, mP_sI, mP_sJ, mP_rI, mP_rJ, SHP_sI, SHP_sJ, SHP_rI, SHP_rJ, mI_sI, mI_rI, mI_sJ, mI_rJ, mI_sP, mJ_sI, mJ_rI, mJ_sP, mJ_sJ, mJ_rJ, gI_e, pI_e, ck_e, bnd_s, nm_eq, pr2_e, cnul_0, cnul_1, drf_1, sm_1, sm_2, aI_e, aJ_e, wI_e, wJ_e, aL_e, cpI_e, cpJ_e, Nat.reduceLeDiff, Nat.reduceEqDiff, Nat.add_left_cancel_iff, ad0, ad1, false_and, and_false, true_and, and_true, reduceIte, if_true, if_false, zb0, zb1, Int32.reduceLT, Int32.reduceLE, i10, nw1, nw2, nt1, nt2, not_true_eq_false, not_false_eq_true]
          · have y := g2 k (by omega)
            simp only [q, mt_sI, mt_sJ, mt_sP, mt_rI, mt_rJ, ml_sI, ml_sJ, ml_sP, ml_rI, ml_rJ, mP_sI, mP_sJ, mP_rI, mP_rJ, SHP_sI, SHP_sJ, SHP_rI, SHP_rJ, mI_sI, mI_rI, mI_sJ, mI_rJ, mI_sP, mJ_sI, mJ_rI, mJ_sP, mJ_sJ, mJ_rJ, gI_e, pI_e, ck_e, bnd_s, nm_eq, pr2_e, cnul_0, cnul_1, drf_1, sm_1, sm_2, aI_e, aJ_e, wI_e, wJ_e, aL_e, cpI_e, cpJ_e, Nat.reduceLeDiff, Nat.reduceEqDiff, Nat.add_left_cancel_iff, ad0, ad1, false_and, and_false, true_and, and_true, reduceIte, if_true, if_false, zb0, zb1, Int32.reduceLT, Int32.reduceLE, i10, nw1, nw2, nt1, nt2, not_true_eq_false, not_false_eq_true]; exact y) (by decide)
  obtain ⟨r, h1, h2⟩ := loop
  exact ⟨r, h1, h2⟩
set_option maxHeartbeats 1000000 in
theorem undo_8 (hS : SHP M o) : ∃ M1, itr (fun s243 : Int32 × QM => lp_X9_undo_243 (o + 78) s243.1 s243.2) FU (0, M) = some M1 ∧ SQ M M1 o (fun a k => (a = 105 ∨ a = 106) ∧ k < 8) ∧ ∀ k, k < 8 → mI M1 (o + 105) k = mI M (o + 116) k ∧ mI M1 (o + 106) k = mI M (o + 117) k := by
  have loop := itr_J (f := (fun s243 : Int32 × QM => lp_X9_undo_243 (o + 78) s243.1 s243.2)) (s0 := (0, M)) (fun c z => c ≤ 8 ∧ ∃ Mw, z = (nI c, Mw) ∧ SQ M Mw o (fun a k => (a = 105 ∨ a = 106) ∧ k < 8) ∧ ∀ k, k < c → mI Mw (o + 105) k = mI M (o + 116) k ∧ mI Mw (o + 106) k = mI M (o + 117) k) (fun M1 => SQ M M1 o (fun a k => (a = 105 ∨ a = 106) ∧ k < 8) ∧ ∀ k, k < 8 → mI M1 (o + 105) k = mI M (o + 116) k ∧ mI M1 (o + 106) k = mI M (o + 117) k) 8
    ⟨Nat.zero_le _, M, rfl, SQ.rfl, fun j hj => absurd hj (Nat.not_lt_zero _)⟩
    (fun c z hz => by
      obtain ⟨hc, Mw, rfl, g1, g2⟩ := hz
      have hS1 := g1.shp hS
      show (∃ r, lp_X9_undo_243 (o + 78) (nI c) Mw = some (.inr r) ∧ _) ∨ _ ∧ ∃ s', lp_X9_undo_243 (o + 78) (nI c) Mw = some (.inl s') ∧ _
      by_cases e : c = 8
      · left
        subst e
        refine ⟨Mw, ?_, g1, g2⟩
        unfold lp_X9_undo_243
        rw [if_pos (by decide)]
      · right
        have hc1 : c < 8 := by omega
        have f1 : ¬ (8 : Int32) ≤ nI c := by show ¬ nI 8 ≤ nI c; rw [nI_leI (by decide) (by omega)]; omega
        have r0 : mI Mw (o + 116) c = mI M (o + 116) c := g1.2.2.2.2 116 c (by omega)
        have r1 : mI Mw (o + 117) c = mI M (o + 117) c := g1.2.2.2.2 117 c (by omega)
        refine ⟨hc1, (nI (c + 1), sI (sI (Mw) (o + 105) c (mI M (o + 116) c)) (o + 106) c (mI M (o + 117) c)), ?_, by omega, _, rfl, ((g1.sI (by omega)).sI (by omega)), fun k hk => ?_⟩
        · simp only [lp_X9_undo_243, f1, r0, r1, nI_1, mt_sI, mt_sJ, mt_sP, mt_rI, mt_rJ, ml_sI, ml_sJ, ml_sP, ml_rI, ml_rJ, mP_sI, mP_sJ, mP_rI, mP_rJ, SHP_sI, SHP_sJ, SHP_rI, SHP_rJ, mI_sI, mI_rI, mI_sJ, mI_rJ, mI_sP, mJ_sI, mJ_rI, mJ_sP, mJ_sJ, mJ_rJ, gI_e, pI_e, ck_e, bnd_s, nm_eq, pr2_e, cnul_0, cnul_1, drf_1, sm_1, sm_2, aI_e, aJ_e, wI_e, wJ_e, aL_e, cpI_e, cpJ_e, Nat.reduceLeDiff, Nat.reduceEqDiff, Nat.add_left_cancel_iff, ad0, ad1, false_and, and_false, true_and, and_true, reduceIte, if_true, if_false, zb0, zb1, Int32.reduceLT, Int32.reduceLE, i10, nw1, nw2, nt1, nt2, not_true_eq_false, not_false_eq_true, mt_78, mt_79, ml_79, mt_80, ml_80, mt_81, ml_81, mt_82, ml_82, mt_83, ml_83, mt_84, ml_84, mt_85, ml_85, mt_86, ml_86, mt_87, ml_87, mt_88, ml_88, mt_89, ml_89, mt_90, ml_90, mt_91, ml_91, mt_92, ml_92, mt_93, ml_93, mt_94, ml_94, mt_95, ml_95, mt_96, ml_96, mt_97, ml_97, mt_98, ml_98, mt_99, ml_99, mt_100, ml_100, mt_101, ml_101, mt_102, ml_102, mt_103, ml_103, mt_104, ml_104, mt_105, ml_105, mt_106, ml_106, mt_107, ml_107, mt_108, ml_108, mt_109, ml_109, mt_110, ml_110, mt_111, ml_111, mt_112, ml_112, mt_113, ml_113, mt_114, ml_114, mt_115, ml_115, mt_116, ml_116, mt_117, ml_117, mt_118, ml_118, mt_119, ml_119, mt_120, ml_120, mt_121, ml_121, mt_122, ml_122, mt_123, ml_123, gP_78_2, gP_78_3, gP_78_4, gP_78_5, gP_78_6, gP_78_12, gP_78_13, gP_78_14, gP_78_15, gP_78_16, gP_78_17, gP_78_18, gP_78_19, gP_78_23, gP_78_24, gP_78_26, gP_78_27, gP_78_28, gP_78_31, gP_78_32, gP_78_34, gP_78_35, gP_78_36, gP_78_37, gP_78_40, gP_78_41, gP_78_42, gP_78_43, gP_78_52, gP_78_53, gP_78_54, gP_78_55, gP_78_56, gP_78_57, gP_78_58, gP_78_59, gP_78_60, gP_78_61, gP_78_62, gP_78_63, gP_78_65, gP_78_66, gP_78_67, gP_78_68, gP_78_69, hS1, hc1]
        · by_cases q : k = c
          · subst q
            refine ⟨?_, ?_⟩ <;> simp only [mt_sI, mt_sJ, mt_sP, mt_rI, mt_rJ, ml_sI, ml_sJ, ml_sP, ml_rI, ml_rJ, mP_sI, mP_sJ, mP_rI, mP_rJ, SHP_sI, SHP_sJ, SHP_rI, SHP_rJ, mI_sI, mI_rI, mI_sJ, mI_rJ, mI_sP, mJ_sI, mJ_rI, mJ_sP, mJ_sJ, mJ_rJ, gI_e, pI_e, ck_e, bnd_s, nm_eq, pr2_e, cnul_0, cnul_1, drf_1, sm_1, sm_2, aI_e, aJ_e, wI_e, wJ_e, aL_e, cpI_e, cpJ_e, Nat.reduceLeDiff, Nat.reduceEqDiff, Nat.add_left_cancel_iff, ad0, ad1, false_and, and_false, true_and, and_true, reduceIte, if_true, if_false, zb0, zb1, Int32.reduceLT, Int32.reduceLE, i10, nw1, nw2, nt1, nt2, not_true_eq_false, not_false_eq_true]
          · have y := g2 k (by omega)
            simp only [q, mt_sI, mt_sJ, mt_sP, mt_rI, mt_rJ, ml_sI, ml_sJ, ml_sP, ml_rI, ml_rJ, mP_sI, mP_sJ, mP_rI, mP_rJ, SHP_sI, SHP_sJ, SHP_rI, SHP_rJ, mI_sI, mI_rI, mI_sJ, mI_rJ, mI_sP, mJ_sI, mJ_rI, mJ_sP, mJ_sJ, mJ_rJ, gI_e, pI_e, ck_e, bnd_s, nm_eq, pr2_e, cnul_0, cnul_1, drf_1, sm_1, sm_2, aI_e, aJ_e, wI_e, wJ_e, aL_e, cpI_e, cpJ_e, Nat.reduceLeDiff, Nat.reduceEqDiff, Nat.add_left_cancel_iff, ad0, ad1, false_and, and_false, true_and, and_true, reduceIte, if_true, if_false, zb0, zb1, Int32.reduceLT, Int32.reduceLE, i10, nw1, nw2, nt1, nt2, not_true_eq_false, not_false_eq_true]; exact y) (by decide)
  obtain ⟨r, h1, h2⟩ := loop
  exact ⟨r, h1, h2⟩
def Z_undo : Nat → Nat → Prop := fun a k => ((a = 78 ∧ (k = 8 ∨ k = 0 ∨ k = 1 ∨ k = 29 ∨ k = 33 ∨ k = 38 ∨ k = 39)) ∨ (a = 79 ∧ k < 16) ∨ (a = 80 ∧ k < 5) ∨ (a = 81 ∧ k < 5) ∨ (a = 82 ∧ k < 5) ∨ (a = 83 ∧ k < 20) ∨ (a = 99 ∧ k < 5) ∨ (a = 100 ∧ k < 5) ∨ (a = 102 ∧ k < 5) ∨ (a = 103 ∧ k < 10) ∨ (a = 104 ∧ k < 10) ∨ (a = 105 ∧ k < 8) ∨ (a = 106 ∧ k < 8))
def V_undo (M N : QM) (o : Nat) : Prop := (mI N (o + 78) 8 = mI M (o + 78) 45 ∧ mI N (o + 78) 0 = mI M (o + 78) 46 ∧ mI N (o + 78) 1 = mI M (o + 78) 47 ∧ mI N (o + 78) 29 = mI M (o + 78) 48 ∧ mI N (o + 78) 33 = mI M (o + 78) 49 ∧ mI N (o + 78) 38 = mI M (o + 78) 50 ∧ mI N (o + 78) 39 = mI M (o + 78) 51) ∧ ((∀ k, k < 16 → mI N (o + 79) k = mI M (o + 107) k) ∧ (∀ k, k < 5 → mI N (o + 80) k = mI M (o + 108) k) ∧ (∀ k, k < 5 → mI N (o + 81) k = mI M (o + 109) k) ∧ (∀ k, k < 5 → mI N (o + 82) k = mI M (o + 110) k) ∧ (∀ k, k < 20 → mI N (o + 83) k = mI M (o + 111) k) ∧ (∀ k, k < 5 → mI N (o + 99) k = mI M (o + 112) k) ∧ (∀ k, k < 5 → mI N (o + 100) k = mI M (o + 113) k) ∧ (∀ k, k < 5 → mI N (o + 102) k = zb (mI M (o + 118) k)) ∧ (∀ k, k < 10 → mI N (o + 103) k = mI M (o + 114) k) ∧ (∀ k, k < 10 → mI N (o + 104) k = mI M (o + 115) k) ∧ (∀ k, k < 8 → mI N (o + 105) k = mI M (o + 116) k) ∧ (∀ k, k < 8 → mI N (o + 106) k = mI M (o + 117) k))
set_option maxHeartbeats 4000000 in
theorem undo_m (hS : SHP M o) (h44 : ¬ mI M (o + 78) 44 = 0) : ∃ M1, fn_X9_undo M (o + 78) = some ((mI M (o + 78) 46), M1) ∧ SQ M M1 o Z_undo ∧ V_undo M M1 o := by
  obtain ⟨A0, hA0⟩ : ∃ A, A = sI M (o + 78) 8 (mI M (o + 78) 45) := ⟨_, rfl⟩
  have q0 : SQ M A0 o Z_undo := by rw [hA0]; exact (SQ.rfl).sI (by unfold Z_undo; omega)
  obtain ⟨A1, hA1⟩ : ∃ A, A = sI A0 (o + 78) 0 (mI M (o + 78) 46) := ⟨_, rfl⟩
  have q1 : SQ M A1 o Z_undo := by rw [hA1]; exact q0.sI (by unfold Z_undo; omega)
  obtain ⟨A2, hA2⟩ : ∃ A, A = sI A1 (o + 78) 1 (mI M (o + 78) 47) := ⟨_, rfl⟩
  have q2 : SQ M A2 o Z_undo := by rw [hA2]; exact q1.sI (by unfold Z_undo; omega)
  obtain ⟨A3, hA3⟩ : ∃ A, A = sI A2 (o + 78) 29 (mI M (o + 78) 48) := ⟨_, rfl⟩
  have q3 : SQ M A3 o Z_undo := by rw [hA3]; exact q2.sI (by unfold Z_undo; omega)
  obtain ⟨A4, hA4⟩ : ∃ A, A = sI A3 (o + 78) 33 (mI M (o + 78) 49) := ⟨_, rfl⟩
  have q4 : SQ M A4 o Z_undo := by rw [hA4]; exact q3.sI (by unfold Z_undo; omega)
  obtain ⟨A5, hA5⟩ : ∃ A, A = sI A4 (o + 78) 38 (mI M (o + 78) 50) := ⟨_, rfl⟩
  have q5 : SQ M A5 o Z_undo := by rw [hA5]; exact q4.sI (by unfold Z_undo; omega)
  obtain ⟨A6, hA6⟩ : ∃ A, A = sI A5 (o + 78) 39 (mI M (o + 78) 51) := ⟨_, rfl⟩
  have q6 : SQ M A6 o Z_undo := by rw [hA6]; exact q5.sI (by unfold Z_undo; omega)
  have sc : ∀ k, mI A6 (o + 78) k = if k = 39 then mI M (o + 78) 51 else if k = 38 then mI M (o + 78) 50 else if k = 33 then mI M (o + 78) 49 else if k = 29 then mI M (o + 78) 48 else if k = 1 then mI M (o + 78) 47 else if k = 0 then mI M (o + 78) 46 else if k = 8 then mI M (o + 78) 45 else mI M (o + 78) k := fun k => by
    rw [hA6, hA5, hA4, hA3, hA2, hA1, hA0]
    simp only [mI_sI, true_and]
  have so : ∀ a, ¬ a = 78 → ∀ k, mI A6 (o + a) k = mI M (o + a) k := fun a ha k => by
    rw [hA6, hA5, hA4, hA3, hA2, hA1, hA0]
    simp only [mI_sI, Nat.add_left_cancel_iff, ha, false_and, if_false]
  obtain ⟨B0, b01, b02, b03⟩ := undo_16 (q6.shp hS)
  have p0 : SQ M B0 o Z_undo := q6.trans (b02.mono fun a k z => by unfold Z_undo; omega)
  obtain ⟨B1, b11, b12, b13⟩ := undo_5 (p0.shp hS)
  have p1 : SQ M B1 o Z_undo := p0.trans (b12.mono fun a k z => by unfold Z_undo; omega)
  obtain ⟨B2, b21, b22, b23⟩ := undo_20 (p1.shp hS)
  have p2 : SQ M B2 o Z_undo := p1.trans (b22.mono fun a k z => by unfold Z_undo; omega)
  obtain ⟨B3, b31, b32, b33⟩ := undo_10 (p2.shp hS)
  have p3 : SQ M B3 o Z_undo := p2.trans (b32.mono fun a k z => by unfold Z_undo; omega)
  obtain ⟨B4, b41, b42, b43⟩ := undo_8 (p3.shp hS)
  have p4 : SQ M B4 o Z_undo := p3.trans (b42.mono fun a k z => by unfold Z_undo; omega)
  have t4 : ∀ a k, ¬ (a = 105 ∨ a = 106) → mI B4 (o + a) k = mI B3 (o + a) k := fun a k z => b42.2.2.2.2 a k (fun y => z (by omega))
  have t3 : ∀ a k, ¬ (a = 103 ∨ a = 104) → mI B3 (o + a) k = mI B2 (o + a) k := fun a k z => b32.2.2.2.2 a k (fun y => z (by omega))
  have t2 : ∀ a k, ¬ (a = 83) → mI B2 (o + a) k = mI B1 (o + a) k := fun a k z => b22.2.2.2.2 a k (fun y => z (by omega))
  have t1 : ∀ a k, ¬ (a = 80 ∨ a = 81 ∨ a = 82 ∨ a = 99 ∨ a = 102 ∨ a = 100) → mI B1 (o + a) k = mI B0 (o + a) k := fun a k z => b12.2.2.2.2 a k (fun y => z (by omega))
  have t0 : ∀ a k, ¬ (a = 79) → mI B0 (o + a) k = mI A6 (o + a) k := fun a k z => b02.2.2.2.2 a k (fun y => z (by omega))
  have z78 : ∀ k, mI B4 (o + 78) k = mI A6 (o + 78) k := fun k => by rw [t4 _ _ (by omega), t3 _ _ (by omega), t2 _ _ (by omega), t1 _ _ (by omega), t0 _ _ (by omega)]
  refine ⟨B4, ?_, p4, ⟨by rw [z78, sc]; rfl, by rw [z78, sc]; rfl, by rw [z78, sc]; rfl, by rw [z78, sc]; rfl, by rw [z78, sc]; rfl, by rw [z78, sc]; rfl, by rw [z78, sc]; rfl⟩, fun k hk => ?_, fun k hk => ?_, fun k hk => ?_, fun k hk => ?_, fun k hk => ?_, fun k hk => ?_, fun k hk => ?_, fun k hk => ?_, fun k hk => ?_, fun k hk => ?_, fun k hk => ?_, fun k hk => ?_⟩
  · have m0 := mt_78 hS
    have m1 : mt A0 (o + 78) = 9 := mt_78 (q0.shp hS)
    have m2 : mt A1 (o + 78) = 9 := mt_78 (q1.shp hS)
    have m3 : mt A2 (o + 78) = 9 := mt_78 (q2.shp hS)
    have m4 : mt A3 (o + 78) = 9 := mt_78 (q3.shp hS)
    have m5 : mt A4 (o + 78) = 9 := mt_78 (q4.shp hS)
    have m6 : mt A5 (o + 78) = 9 := mt_78 (q5.shp hS)
    have m7 : mt A6 (o + 78) = 9 := mt_78 (q6.shp hS)
    unfold fn_X9_undo
    rw [gI_e m0, if_neg h44, gI_e m0, pI_e m0, ← hA0, gI_e m1, show mI A0 (o + 78) 46 = mI M (o + 78) 46 from by rw [hA0]; simp only [mI_sI, true_and, Nat.reduceEqDiff, if_false], pI_e m1, ← hA1, gI_e m2, show mI A1 (o + 78) 47 = mI M (o + 78) 47 from by rw [hA1, hA0]; simp only [mI_sI, true_and, Nat.reduceEqDiff, if_false], pI_e m2, ← hA2, gI_e m3, show mI A2 (o + 78) 48 = mI M (o + 78) 48 from by rw [hA2, hA1, hA0]; simp only [mI_sI, true_and, Nat.reduceEqDiff, if_false], pI_e m3, ← hA3, gI_e m4, show mI A3 (o + 78) 49 = mI M (o + 78) 49 from by rw [hA3, hA2, hA1, hA0]; simp only [mI_sI, true_and, Nat.reduceEqDiff, if_false], pI_e m4, ← hA4, gI_e m5, show mI A4 (o + 78) 50 = mI M (o + 78) 50 from by rw [hA4, hA3, hA2, hA1, hA0]; simp only [mI_sI, true_and, Nat.reduceEqDiff, if_false], pI_e m5, ← hA5, gI_e m6, show mI A5 (o + 78) 51 = mI M (o + 78) 51 from by rw [hA5, hA4, hA3, hA2, hA1, hA0]; simp only [mI_sI, true_and, Nat.reduceEqDiff, if_false], pI_e m6, ← hA6, bnd_e b01, bnd_e b11, bnd_e b21, bnd_e b31, bnd_e b41]
    rw [gI_e (mt_78 (p4.shp hS)), z78, sc]
    rfl
  · rw [t4 _ _ (by omega), t3 _ _ (by omega), t2 _ _ (by omega), t1 _ _ (by omega)]; rw [(b03 k hk), (q6.2.2.2.2 107 k (by unfold Z_undo; omega))]
  · rw [t4 _ _ (by omega), t3 _ _ (by omega), t2 _ _ (by omega)]; rw [(b13 k hk).1, (p0.2.2.2.2 108 k (by unfold Z_undo; omega))]
  · rw [t4 _ _ (by omega), t3 _ _ (by omega), t2 _ _ (by omega)]; rw [(b13 k hk).2.1, (p0.2.2.2.2 109 k (by unfold Z_undo; omega))]
  · rw [t4 _ _ (by omega), t3 _ _ (by omega), t2 _ _ (by omega)]; rw [(b13 k hk).2.2.1, (p0.2.2.2.2 110 k (by unfold Z_undo; omega))]
  · rw [t4 _ _ (by omega), t3 _ _ (by omega)]; rw [(b23 k hk), (p1.2.2.2.2 111 k (by unfold Z_undo; omega))]
  · rw [t4 _ _ (by omega), t3 _ _ (by omega), t2 _ _ (by omega)]; rw [(b13 k hk).2.2.2.1, (p0.2.2.2.2 112 k (by unfold Z_undo; omega))]
  · rw [t4 _ _ (by omega), t3 _ _ (by omega), t2 _ _ (by omega)]; rw [(b13 k hk).2.2.2.2.2, (p0.2.2.2.2 113 k (by unfold Z_undo; omega))]
  · rw [t4 _ _ (by omega), t3 _ _ (by omega), t2 _ _ (by omega)]; rw [(b13 k hk).2.2.2.2.1, (p0.2.2.2.2 118 k (by unfold Z_undo; omega))]
  · rw [t4 _ _ (by omega)]; rw [(b33 k hk).1, (p2.2.2.2.2 114 k (by unfold Z_undo; omega))]
  · rw [t4 _ _ (by omega)]; rw [(b33 k hk).2, (p2.2.2.2.2 115 k (by unfold Z_undo; omega))]
  · rw [(b43 k hk).1, (p3.2.2.2.2 116 k (by unfold Z_undo; omega))]
  · rw [(b43 k hk).2, (p3.2.2.2.2 117 k (by unfold Z_undo; omega))]
end IM_undo
