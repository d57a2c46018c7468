/-! ===== asking, and putting back ===== -/
def Zs : Nat → Nat → Prop := fun a k => (a = 97 ∧ k < 16) ∨ (a = 78 ∧ k = 30)
def Zb : Nat → Nat → Prop := fun a k => (a = 79 ∧ k < 16) ∨ (a = 78 ∧ k = 1)
section AK1
variable {M M1 N : QM} {o w m n : Nat} {G : GG} {S : Nat → Int32}
theorem Zs_scr (a k : Nat) (h : Zs a k) : scr a k = true := by
  unfold Zs at h
  rcases h with ⟨rfl, h⟩ | ⟨rfl, rfl⟩
  · unfold scr; simp
  · rfl
theorem Zc59_scr (a k : Nat) (h : Zc 59 a k) : scr a k = true := by
  unfold Zc at h
  rcases h with ⟨rfl, h⟩ | ⟨rfl, rfl⟩
  · unfold scr; simp
  · rfl
theorem save_m (hS : SHP M o) : ∃ M1, fn_X9_save M (o + 78) = some M1 ∧ SQ M M1 o Zs ∧ (∀ c, c < 16 → mI M1 (o + 97) c = mI M (o + 79) c) ∧ mI M1 (o + 78) 30 = mI M (o + 78) 1 := by
  have loop := itr_J (f := fun s10 : Int32 × QM => lp_X9_save_10 (o + 78) s10.1 s10.2) (s0 := (0, sI M (o + 78) 30 (mI M (o + 78) 1))) (fun c z => c ≤ 16 ∧ ∃ Mw, z = (nI c, Mw) ∧ SQ M Mw o Zs ∧ (∀ j, j < c → mI Mw (o + 97) j = mI M (o + 79) j) ∧ mI Mw (o + 78) 30 = mI M (o + 78) 1) (fun r => SQ M r o Zs ∧ (∀ c, c < 16 → mI r (o + 97) c = mI M (o + 79) c) ∧ mI r (o + 78) 30 = mI M (o + 78) 1) 16
    ⟨Nat.zero_le _, _, rfl, SQ.rfl.sI (Or.inr ⟨rfl, rfl⟩), fun j hj => absurd hj (Nat.not_lt_zero _), by simp only [mt_sI, mt_sJ, mt_sP, mt_rI, mt_rJ, ml_sI, ml_sJ, ml_sP, ml_rI, ml_rJ, mP_sI, mP_sJ, mP_rI, mP_rJ, SHP_sI, SHP_sJ, SHP_rI, SHP_rJ, mI_sI, mI_rI, mI_sJ, mI_rJ, mI_sP, mJ_sI, mJ_rI, mJ_sP, mJ_sJ, mJ_rJ, gI_e, pI_e, ck_e, bnd_s, nm_eq, pr2_e, cnul_0, cnul_1, drf_1, sm_1, sm_2, aI_e, aJ_e, wI_e, wJ_e, aL_e, cpI_e, cpJ_e, Nat.reduceLeDiff, Nat.reduceEqDiff, Nat.add_left_cancel_iff, ad0, ad1, false_and, and_false, true_and, and_true, reduceIte, if_true, if_false, zb0, zb1, Int32.reduceLT, Int32.reduceLE, i10, nw1, nw2, nt1, nt2, not_true_eq_false, not_false_eq_true]⟩
    (fun c z hz => by
      obtain ⟨hc, Mw, rfl, g1, g2, g3⟩ := hz
      have hS' := g1.shp hS
      show (∃ r, lp_X9_save_10 (o + 78) (nI c) Mw = some (.inr r) ∧ _) ∨ _ ∧ ∃ s', lp_X9_save_10 (o + 78) (nI c) Mw = some (.inl s') ∧ _
      by_cases e : c = 16
      · left
        subst e
        refine ⟨Mw, ?_, g1, g2, g3⟩
        unfold lp_X9_save_10
        rw [if_pos (by decide)]
      · right
        have hc' : c < 16 := by omega
        have f1 := n16 hc'
        have r1 : mI Mw (o + 79) c = mI M (o + 79) c := g1.2.2.2.2 79 c (by unfold Zs; omega)
        refine ⟨hc', (nI (c + 1), sI Mw (o + 97) c (mI M (o + 79) c)), ?_, by omega, _, rfl, g1.sI (Or.inl ⟨rfl, hc'⟩), fun j hj => ?_, ?_⟩
        · simp only [lp_X9_save_10, f1, r1, nI_1, mt_sI, mt_sJ, mt_sP, mt_rI, mt_rJ, ml_sI, ml_sJ, ml_sP, ml_rI, ml_rJ, mP_sI, mP_sJ, mP_rI, mP_rJ, SHP_sI, SHP_sJ, SHP_rI, SHP_rJ, mI_sI, mI_rI, mI_sJ, mI_rJ, mI_sP, mJ_sI, mJ_rI, mJ_sP, mJ_sJ, mJ_rJ, gI_e, pI_e, ck_e, bnd_s, nm_eq, pr2_e, cnul_0, cnul_1, drf_1, sm_1, sm_2, aI_e, aJ_e, wI_e, wJ_e, aL_e, cpI_e, cpJ_e, Nat.reduceLeDiff, Nat.reduceEqDiff, Nat.add_left_cancel_iff, ad0, ad1, false_and, and_false, true_and, and_true, reduceIte, if_true, if_false, zb0, zb1, Int32.reduceLT, Int32.reduceLE, i10, nw1, nw2, nt1, nt2, not_true_eq_false, not_false_eq_true, mt_78, mt_79, ml_79, mt_80, ml_80, mt_81, ml_81, mt_82, ml_82, mt_83, ml_83, mt_84, ml_84, mt_85, ml_85, mt_86, ml_86, mt_87, ml_87, mt_88, ml_88, mt_89, ml_89, mt_90, ml_90, mt_91, ml_91, mt_92, ml_92, mt_93, ml_93, mt_94, ml_94, mt_95, ml_95, mt_96, ml_96, mt_97, ml_97, mt_98, ml_98, mt_99, ml_99, mt_100, ml_100, mt_101, ml_101, mt_102, ml_102, mt_103, ml_103, mt_104, ml_104, mt_105, ml_105, mt_106, ml_106, mt_107, ml_107, mt_108, ml_108, mt_109, ml_109, mt_110, ml_110, mt_111, ml_111, mt_112, ml_112, mt_113, ml_113, mt_114, ml_114, mt_115, ml_115, mt_116, ml_116, mt_117, ml_117, mt_118, ml_118, mt_119, ml_119, mt_120, ml_120, mt_121, ml_121, mt_122, ml_122, mt_123, ml_123, gP_78_2, gP_78_3, gP_78_4, gP_78_5, gP_78_6, gP_78_12, gP_78_13, gP_78_14, gP_78_15, gP_78_16, gP_78_17, gP_78_18, gP_78_19, gP_78_23, gP_78_24, gP_78_26, gP_78_27, gP_78_28, gP_78_31, gP_78_32, gP_78_34, gP_78_35, gP_78_36, gP_78_37, gP_78_40, gP_78_41, gP_78_42, gP_78_43, gP_78_52, gP_78_53, gP_78_54, gP_78_55, gP_78_56, gP_78_57, gP_78_58, gP_78_59, gP_78_60, gP_78_61, gP_78_62, gP_78_63, gP_78_65, gP_78_66, gP_78_67, gP_78_68, gP_78_69, hS', hc']
        · by_cases q : j = c
          · subst q; simp only [mt_sI, mt_sJ, mt_sP, mt_rI, mt_rJ, ml_sI, ml_sJ, ml_sP, ml_rI, ml_rJ, mP_sI, mP_sJ, mP_rI, mP_rJ, SHP_sI, SHP_sJ, SHP_rI, SHP_rJ, mI_sI, mI_rI, mI_sJ, mI_rJ, mI_sP, mJ_sI, mJ_rI, mJ_sP, mJ_sJ, mJ_rJ, gI_e, pI_e, ck_e, bnd_s, nm_eq, pr2_e, cnul_0, cnul_1, drf_1, sm_1, sm_2, aI_e, aJ_e, wI_e, wJ_e, aL_e, cpI_e, cpJ_e, Nat.reduceLeDiff, Nat.reduceEqDiff, Nat.add_left_cancel_iff, ad0, ad1, false_and, and_false, true_and, and_true, reduceIte, if_true, if_false, zb0, zb1, Int32.reduceLT, Int32.reduceLE, i10, nw1, nw2, nt1, nt2, not_true_eq_false, not_false_eq_true]
          · simp only [q, mt_sI, mt_sJ, mt_sP, mt_rI, mt_rJ, ml_sI, ml_sJ, ml_sP, ml_rI, ml_rJ, mP_sI, mP_sJ, mP_rI, mP_rJ, SHP_sI, SHP_sJ, SHP_rI, SHP_rJ, mI_sI, mI_rI, mI_sJ, mI_rJ, mI_sP, mJ_sI, mJ_rI, mJ_sP, mJ_sJ, mJ_rJ, gI_e, pI_e, ck_e, bnd_s, nm_eq, pr2_e, cnul_0, cnul_1, drf_1, sm_1, sm_2, aI_e, aJ_e, wI_e, wJ_e, aL_e, cpI_e, cpJ_e, Nat.reduceLeDiff, Nat.reduceEqDiff, Nat.add_left_cancel_iff, ad0, ad1, false_and, and_false, true_and, and_true, reduceIte, if_true, if_false, zb0, zb1, Int32.reduceLT, Int32.reduceLE, i10, nw1, nw2, nt1, nt2, not_true_eq_false, not_false_eq_true]; exact g2 j (by omega)
        · simp only [mt_sI, mt_sJ, mt_sP, mt_rI, mt_rJ, ml_sI, ml_sJ, ml_sP, ml_rI, ml_rJ, mP_sI, mP_sJ, mP_rI, mP_rJ, SHP_sI, SHP_sJ, SHP_rI, SHP_rJ, mI_sI, mI_rI, mI_sJ, mI_rJ, mI_sP, mJ_sI, mJ_rI, mJ_sP, mJ_sJ, mJ_rJ, gI_e, pI_e, ck_e, bnd_s, nm_eq, pr2_e, cnul_0, cnul_1, drf_1, sm_1, sm_2, aI_e, aJ_e, wI_e, wJ_e, aL_e, cpI_e, cpJ_e, Nat.reduceLeDiff, Nat.reduceEqDiff, Nat.add_left_cancel_iff, ad0, ad1, false_and, and_false, true_and, and_true, reduceIte, if_true, if_false, zb0, zb1, Int32.reduceLT, Int32.reduceLE, i10, nw1, nw2, nt1, nt2, not_true_eq_false, not_false_eq_true]; exact g3) (by decide)
  obtain ⟨r, h1, h2⟩ := loop
  refine ⟨r, ?_, h2⟩
  simp only [fn_X9_save, h1, mt_sI, mt_sJ, mt_sP, mt_rI, mt_rJ, ml_sI, ml_sJ, ml_sP, ml_rI, ml_rJ, mP_sI, mP_sJ, mP_rI, mP_rJ, SHP_sI, SHP_sJ, SHP_rI, SHP_rJ, mI_sI, mI_rI, mI_sJ, mI_rJ, mI_sP, mJ_sI, mJ_rI, mJ_sP, mJ_sJ, mJ_rJ, gI_e, pI_e, ck_e, bnd_s, nm_eq, pr2_e, cnul_0, cnul_1, drf_1, sm_1, sm_2, aI_e, aJ_e, wI_e, wJ_e, aL_e, cpI_e, cpJ_e, Nat.reduceLeDiff, Nat.reduceEqDiff, Nat.add_left_cancel_iff, ad0, ad1, false_and, and_false, true_and, and_true, reduceIte, if_true, if_false, zb0, zb1, Int32.reduceLT, Int32.reduceLE, i10, nw1, nw2, nt1, nt2, not_true_eq_false, not_false_eq_true, mt_78, mt_79, ml_79, mt_80, ml_80, mt_81, ml_81, mt_82, ml_82, mt_83, ml_83, mt_84, ml_84, mt_85, ml_85, mt_86, ml_86, mt_87, ml_87, mt_88, ml_88, mt_89, ml_89, mt_90, ml_90, mt_91, ml_91, mt_92, ml_92, mt_93, ml_93, mt_94, ml_94, mt_95, ml_95, mt_96, ml_96, mt_97, ml_97, mt_98, ml_98, mt_99, ml_99, mt_100, ml_100, mt_101, ml_101, mt_102, ml_102, mt_103, ml_103, mt_104, ml_104, mt_105, ml_105, mt_106, ml_106, mt_107, ml_107, mt_108, ml_108, mt_109, ml_109, mt_110, ml_110, mt_111, ml_111, mt_112, ml_112, mt_113, ml_113, mt_114, ml_114, mt_115, ml_115, mt_116, ml_116, mt_117, ml_117, mt_118, ml_118, mt_119, ml_119, mt_120, ml_120, mt_121, ml_121, mt_122, ml_122, mt_123, ml_123, gP_78_2, gP_78_3, gP_78_4, gP_78_5, gP_78_6, gP_78_12, gP_78_13, gP_78_14, gP_78_15, gP_78_16, gP_78_17, gP_78_18, gP_78_19, gP_78_23, gP_78_24, gP_78_26, gP_78_27, gP_78_28, gP_78_31, gP_78_32, gP_78_34, gP_78_35, gP_78_36, gP_78_37, gP_78_40, gP_78_41, gP_78_42, gP_78_43, gP_78_52, gP_78_53, gP_78_54, gP_78_55, gP_78_56, gP_78_57, gP_78_58, gP_78_59, gP_78_60, gP_78_61, gP_78_62, gP_78_63, gP_78_65, gP_78_66, gP_78_67, gP_78_68, gP_78_69, hS]
theorem putBack_m (hS : SHP N o) : ∃ N1, fn_X9_putBack N (o + 78) = some N1 ∧ SQ N N1 o Zb ∧ (∀ c, c < 16 → mI N1 (o + 79) c = mI N (o + 97) c) ∧ mI N1 (o + 78) 1 = mI N (o + 78) 30 := by
  have loop := itr_J (f := fun s10 : Int32 × QM => lp_X9_putBack_10 (o + 78) s10.1 s10.2) (s0 := (0, sI N (o + 78) 1 (mI N (o + 78) 30))) (fun c z => c ≤ 16 ∧ ∃ Mw, z = (nI c, Mw) ∧ SQ N Mw o Zb ∧ (∀ j, j < c → mI Mw (o + 79) j = mI N (o + 97) j) ∧ mI Mw (o + 78) 1 = mI N (o + 78) 30) (fun r => SQ N r o Zb ∧ (∀ c, c < 16 → mI r (o + 79) c = mI N (o + 97) c) ∧ mI r (o + 78) 1 = mI N (o + 78) 30) 16
    ⟨Nat.zero_le _, _, rfl, SQ.rfl.sI (Or.inr ⟨rfl, rfl⟩), fun j hj => absurd hj (Nat.not_lt_zero _), by simp only [mt_sI, mt_sJ, mt_sP, mt_rI, mt_rJ, ml_sI, ml_sJ, ml_sP, ml_rI, ml_rJ, mP_sI, mP_sJ, mP_rI, mP_rJ, SHP_sI, SHP_sJ, SHP_rI, SHP_rJ, mI_sI, mI_rI, mI_sJ, mI_rJ, mI_sP, mJ_sI, mJ_rI, mJ_sP, mJ_sJ, mJ_rJ, gI_e, pI_e, ck_e, bnd_s, nm_eq, pr2_e, cnul_0, cnul_1, drf_1, sm_1, sm_2, aI_e, aJ_e, wI_e, wJ_e, aL_e, cpI_e, cpJ_e, Nat.reduceLeDiff, Nat.reduceEqDiff, Nat.add_left_cancel_iff, ad0, ad1, false_and, and_false, true_and, and_true, reduceIte, if_true, if_false, zb0, zb1, Int32.reduceLT, Int32.reduceLE, i10, nw1, nw2, nt1, nt2, not_true_eq_false, not_false_eq_true]⟩
    (fun c z hz => by
      obtain ⟨hc, Mw, rfl, g1, g2, g3⟩ := hz
      have hS' := g1.shp hS
      show (∃ r, lp_X9_putBack_10 (o + 78) (nI c) Mw = some (.inr r) ∧ _) ∨ _ ∧ ∃ s', lp_X9_putBack_10 (o + 78) (nI c) Mw = some (.inl s') ∧ _
      by_cases e : c = 16
      · left
        subst e
        refine ⟨Mw, ?_, g1, g2, g3⟩
        unfold lp_X9_putBack_10
        rw [if_pos (by decide)]
      · right
        have hc' : c < 16 := by omega
        have f1 := n16 hc'
        have r1 : mI Mw (o + 97) c = mI N (o + 97) c := g1.2.2.2.2 97 c (by unfold Zb; omega)
        refine ⟨hc', (nI (c + 1), sI Mw (o + 79) c (mI N (o + 97) c)), ?_, by omega, _, rfl, g1.sI (Or.inl ⟨rfl, hc'⟩), fun j hj => ?_, ?_⟩
        · simp only [lp_X9_putBack_10, f1, r1, nI_1, mt_sI, mt_sJ, mt_sP, mt_rI, mt_rJ, ml_sI, ml_sJ, ml_sP, ml_rI, ml_rJ, mP_sI, mP_sJ, mP_rI, mP_rJ, SHP_sI, SHP_sJ, SHP_rI, SHP_rJ, mI_sI, mI_rI, mI_sJ, mI_rJ, mI_sP, mJ_sI, mJ_rI, mJ_sP, mJ_sJ, mJ_rJ, gI_e, pI_e, ck_e, bnd_s, nm_eq, pr2_e, cnul_0, cnul_1, drf_1, sm_1, sm_2, aI_e, aJ_e, wI_e, wJ_e, aL_e, cpI_e, cpJ_e, Nat.reduceLeDiff, Nat.reduceEqDiff, Nat.add_left_cancel_iff, ad0, ad1, false_and, and_false, true_and, and_true, reduceIte, if_true, if_false, zb0, zb1, Int32.reduceLT, Int32.reduceLE, i10, nw1, nw2, nt1, nt2, not_true_eq_false, not_false_eq_true, mt_78, mt_79, ml_79, mt_80, ml_80, mt_81, ml_81, mt_82, ml_82, mt_83, ml_83, mt_84, ml_84, mt_85, ml_85, mt_86, ml_86, mt_87, ml_87, mt_88, ml_88, mt_89, ml_89, mt_90, ml_90, mt_91, ml_91, mt_92, ml_92, mt_93, ml_93, mt_94, ml_94, mt_95, ml_95, mt_96, ml_96, mt_97, ml_97, mt_98, ml_98, mt_99, ml_99, mt_100, ml_100, mt_101, ml_101, mt_102, ml_102, mt_103, ml_103, mt_104, ml_104, mt_105, ml_105, mt_106, ml_106, mt_107, ml_107, mt_108, ml_108, mt_109, ml_109, mt_110, ml_110, mt_111, ml_111, mt_112, ml_112, mt_113, ml_113, mt_114, ml_114, mt_115, ml_115, mt_116, ml_116, mt_117, ml_117, mt_118, ml_118, mt_119, ml_119, mt_120, ml_120, mt_121, ml_121, mt_122, ml_122, mt_123, ml_123, gP_78_2, gP_78_3, gP_78_4, gP_78_5, gP_78_6, gP_78_12, gP_78_13, gP_78_14, gP_78_15, gP_78_16, gP_78_17, gP_78_18, gP_78_19, gP_78_23, gP_78_24, gP_78_26, gP_78_27, gP_78_28, gP_78_31, gP_78_32, gP_78_34, gP_78_35, gP_78_36, gP_78_37, gP_78_40, gP_78_41, gP_78_42, gP_78_43, gP_78_52, gP_78_53, gP_78_54, gP_78_55, gP_78_56, gP_78_57, gP_78_58, gP_78_59, gP_78_60, gP_78_61, gP_78_62, gP_78_63, gP_78_65, gP_78_66, gP_78_67, gP_78_68, gP_78_69, hS', hc']
        · by_cases q : j = c
          · subst q; simp only [mt_sI, mt_sJ, mt_sP, mt_rI, mt_rJ, ml_sI, ml_sJ, ml_sP, ml_rI, ml_rJ, mP_sI, mP_sJ, mP_rI, mP_rJ, SHP_sI, SHP_sJ, SHP_rI, SHP_rJ, mI_sI, mI_rI, mI_sJ, mI_rJ, mI_sP, mJ_sI, mJ_rI, mJ_sP, mJ_sJ, mJ_rJ, gI_e, pI_e, ck_e, bnd_s, nm_eq, pr2_e, cnul_0, cnul_1, drf_1, sm_1, sm_2, aI_e, aJ_e, wI_e, wJ_e, aL_e, cpI_e, cpJ_e, Nat.reduceLeDiff, Nat.reduceEqDiff, Nat.add_left_cancel_iff, ad0, ad1, false_and, and_false, true_and, and_true, reduceIte, if_true, if_false, zb0, zb1, Int32.reduceLT, Int32.reduceLE, i10, nw1, nw2, nt1, nt2, not_true_eq_false, not_false_eq_true]
          · simp only [q, mt_sI, mt_sJ, mt_sP, mt_rI, mt_rJ, ml_sI, ml_sJ, ml_sP, ml_rI, ml_rJ, mP_sI, mP_sJ, mP_rI, mP_rJ, SHP_sI, SHP_sJ, SHP_rI, SHP_rJ, mI_sI, mI_rI, mI_sJ, mI_rJ, mI_sP, mJ_sI, mJ_rI, mJ_sP, mJ_sJ, mJ_rJ, gI_e, pI_e, ck_e, bnd_s, nm_eq, pr2_e, cnul_0, cnul_1, drf_1, sm_1, sm_2, aI_e, aJ_e, wI_e, wJ_e, aL_e, cpI_e, cpJ_e, Nat.reduceLeDiff, Nat.reduceEqDiff, Nat.add_left_cancel_iff, ad0, ad1, false_and, and_false, true_and, and_true, reduceIte, if_true, if_false, zb0, zb1, Int32.reduceLT, Int32.reduceLE, i10, nw1, nw2, nt1, nt2, not_true_eq_false, not_false_eq_true]; exact g2 j (by omega)
        · simp only [mt_sI, mt_sJ, mt_sP, mt_rI, mt_rJ, ml_sI, ml_sJ, ml_sP, ml_rI, ml_rJ, mP_sI, mP_sJ, mP_rI, mP_rJ, SHP_sI, SHP_sJ, SHP_rI, SHP_rJ, mI_sI, mI_rI, mI_sJ, mI_rJ, mI_sP, mJ_sI, mJ_rI, mJ_sP, mJ_sJ, mJ_rJ, gI_e, pI_e, ck_e, bnd_s, nm_eq, pr2_e, cnul_0, cnul_1, drf_1, sm_1, sm_2, aI_e, aJ_e, wI_e, wJ_e, aL_e, cpI_e, cpJ_e, Nat.reduceLeDiff, Nat.reduceEqDiff, Nat.add_left_cancel_iff, ad0, ad1, false_and, and_false, true_and, and_true, reduceIte, if_true, if_false, zb0, zb1, Int32.reduceLT, Int32.reduceLE, i10, nw1, nw2, nt1, nt2, not_true_eq_false, not_false_eq_true]; exact g3) (by decide)
  obtain ⟨r, h1, h2⟩ := loop
  refine ⟨r, ?_, h2⟩
  simp only [fn_X9_putBack, h1, mt_sI, mt_sJ, mt_sP, mt_rI, mt_rJ, ml_sI, ml_sJ, ml_sP, ml_rI, ml_rJ, mP_sI, mP_sJ, mP_rI, mP_rJ, SHP_sI, SHP_sJ, SHP_rI, SHP_rJ, mI_sI, mI_rI, mI_sJ, mI_rJ, mI_sP, mJ_sI, mJ_rI, mJ_sP, mJ_sJ, mJ_rJ, gI_e, pI_e, ck_e, bnd_s, nm_eq, pr2_e, cnul_0, cnul_1, drf_1, sm_1, sm_2, aI_e, aJ_e, wI_e, wJ_e, aL_e, cpI_e, cpJ_e, Nat.reduceLeDiff, Nat.reduceEqDiff, Nat.add_left_cancel_iff, ad0, ad1, false_and, and_false, true_and, and_true, reduceIte, if_true, if_false, zb0, zb1, Int32.reduceLT, Int32.reduceLE, i10, nw1, nw2, nt1, nt2, not_true_eq_false, not_false_eq_true, mt_78, mt_79, ml_79, mt_80, ml_80, mt_81, ml_81, mt_82, ml_82, mt_83, ml_83, mt_84, ml_84, mt_85, ml_85, mt_86, ml_86, mt_87, ml_87, mt_88, ml_88, mt_89, ml_89, mt_90, ml_90, mt_91, ml_91, mt_92, ml_92, mt_93, ml_93, mt_94, ml_94, mt_95, ml_95, mt_96, ml_96, mt_97, ml_97, mt_98, ml_98, mt_99, ml_99, mt_100, ml_100, mt_101, ml_101, mt_102, ml_102, mt_103, ml_103, mt_104, ml_104, mt_105, ml_105, mt_106, ml_106, mt_107, ml_107, mt_108, ml_108, mt_109, ml_109, mt_110, ml_110, mt_111, ml_111, mt_112, ml_112, mt_113, ml_113, mt_114, ml_114, mt_115, ml_115, mt_116, ml_116, mt_117, ml_117, mt_118, ml_118, mt_119, ml_119, mt_120, ml_120, mt_121, ml_121, mt_122, ml_122, mt_123, ml_123, gP_78_2, gP_78_3, gP_78_4, gP_78_5, gP_78_6, gP_78_12, gP_78_13, gP_78_14, gP_78_15, gP_78_16, gP_78_17, gP_78_18, gP_78_19, gP_78_23, gP_78_24, gP_78_26, gP_78_27, gP_78_28, gP_78_31, gP_78_32, gP_78_34, gP_78_35, gP_78_36, gP_78_37, gP_78_40, gP_78_41, gP_78_42, gP_78_43, gP_78_52, gP_78_53, gP_78_54, gP_78_55, gP_78_56, gP_78_57, gP_78_58, gP_78_59, gP_78_60, gP_78_61, gP_78_62, gP_78_63, gP_78_65, gP_78_66, gP_78_67, gP_78_68, gP_78_69, hS]
/-- what was asked is gone: only scratch has changed -/
theorem back_m (hS : SHP M o) (s1 : SQ M M1 o Zs) (s2 : ∀ c, c < 16 → mI M1 (o + 97) c = mI M (o + 79) c) (s3 : mI M1 (o + 78) 30 = mI M (o + 78) 1) {Z : Nat → Nat → Prop} (h : SQ M1 N o Z) (hz : ∀ a k, Z a k → scr a k = true ∨ Zb a k) (hz2 : ∀ k, k < 16 → ¬ Z 97 k) (hz3 : ¬ Z 78 30) : ∃ N1, fn_X9_putBack N (o + 78) = some N1 ∧ SC M N1 o := by
  obtain ⟨N1, p1, p2, p3, p4⟩ := putBack_m (h.shp (s1.shp hS))
  refine ⟨N1, p1, (p2.1.trans h.1).trans s1.1, (p2.2.1.trans h.2.1).trans s1.2.1, fun a k => ((p2.2.2.1 a k).trans (h.2.2.1 a k)).trans (s1.2.2.1 a k), fun a k => ((p2.2.2.2.1 a k).trans (h.2.2.2.1 a k)).trans (s1.2.2.2.1 a k), fun a k q => ?_⟩
  by_cases e1 : a = 79 ∧ k < 16
  · obtain ⟨rfl, e2⟩ := e1
    exact ((p3 k e2).trans (h.2.2.2.2 97 k (hz2 k e2))).trans (s2 k e2)
  · by_cases e2 : a = 78 ∧ k = 1
    · obtain ⟨rfl, rfl⟩ := e2
      exact (p4.trans (h.2.2.2.2 78 30 hz3)).trans s3
    · have nb : ¬ Zb a k := by unfold Zb; omega
      refine ((p2.2.2.2.2 a k nb).trans (h.2.2.2.2 a k fun z => ?_)).trans (s1.2.2.2.2 a k fun z => q (Zs_scr a k z))
      rcases hz a k z with z | z
      · exact q z
      · exact nb z
theorem Zm_b (a k : Nat) (h : Zm a k) : scr a k = true ∨ Zb a k := by
  unfold Zm at h; unfold Zb
  rcases h with h | h | h | h
  · exact Or.inl (ZB_scr a k h)
  · rw [h]; exact Or.inl rfl
  · exact Or.inr (Or.inl h)
  · exact Or.inr (Or.inr h)
theorem Zm_97 (k : Nat) (_ : k < 16) : ¬ Zm 97 k := by unfold Zm ZB; omega
theorem Zm_30 : ¬ Zm 78 30 := by unfold Zm ZB; omega
theorem ZB_Zm (a k : Nat) (h : ZB a k) : Zm a k := Or.inl h
theorem FV.s (hF : FV S m M o) {Z : Nat → Nat → Prop} (h : SQ M N o Z) (h1 : ∀ c, c < 16 → ¬ Z 79 c) (h2 : ¬ Z 78 1) : FV S m N o := hF.fr (fun c hc => h.2.2.2.2 79 c (h1 c hc)) (h.2.2.2.2 78 1 h2)
/-! the class asks -/
theorem become_c (hS : SHP M o) (hC : CP M o 2 S) (hm : mI M (o + 2) 1 = nI m) : ∃ M1, fn_X2_become M (o + 59) (o + 2) = some M1 ∧ SQ M M1 o (Zc 59) ∧ CP M1 o 59 S ∧ mI M1 (o + 59) 1 = nI m := by
  have g : SQ M (rI M (o + 60) (va_cpy (mI M (o + 3)) (mI M (o + 60)) 0 0 16)) o (Zc 59) := SQ.rfl.rI fun k hk => by
    refine Or.inl ⟨rfl, ?_⟩
    by_cases q : k < 16
    · exact q
    · exact absurd (pk_cpy_out (Or.inr (by omega))) hk
  have e : fn_X2_become M (o + 59) (o + 2) = some (sI (rI M (o + 60) (va_cpy (mI M (o + 3)) (mI M (o + 60)) 0 0 16)) (o + 59) 1 (nI m)) := by
    have e0 : (0 : Int32) = nI 0 := rfl
    have e16 : (16 : Int32) = nI 16 := rfl
    have c := cpI_e (α := QM) (M := M) (a := o + 3) (b := o + 60) (sp := 0) (dp := 0) (n := 16) (f := fun M12 => gI M12 (o + 2) 2 1 fun x17 => pI M12 (o + 59) 2 1 x17 fun M20 => some M20) (mt_3 hS) (mt_60 hS) (by rw [ml_3 hS]; decide) (by rw [ml_60 hS]; decide) (by rw [ml_3 hS]; decide) (by rw [ml_60 hS]; decide)
    unfold fn_X2_become
    rw [gR_e (mt_2 hS) (hS.2 (2, 0, 3) (by decide)), gR_e (mt_59 hS) (hS.2 (59, 0, 60) (by decide)), e0, e16, c]
    have f : ¬ o + 2 = o + 60 := by omega
    rw [gI_e (M := rI M (o + 60) (va_cpy (mI M (o + 3)) (mI M (o + 60)) 0 0 16)) (mt_2 hS), mI_rI, if_neg f, hm, pI_e (M := rI M (o + 60) (va_cpy (mI M (o + 3)) (mI M (o + 60)) 0 0 16)) (mt_59 hS)]
  refine ⟨_, e, g.sI (Or.inr ⟨rfl, rfl⟩), ?_, by rw [mI_sI, if_pos ⟨rfl, rfl⟩]⟩
  refine ⟨⟨mt_59 hS, hS.2 (59, 0, 60) (by decide), mt_60 hS, ml_60 hS⟩, fun c hc => ?_⟩
  rw [mI_sI, if_neg (by omega), mI_rI, if_pos rfl, pk_cpy_in (Nat.zero_le _) (by omega)]
  rw [Nat.sub_zero, Nat.zero_add]
  exact hC.2 c hc
theorem askBehind_c (h : CW M o G w) (hC : CP M o 2 S) (hb : ∀ c, c < 16 → bd (S c) 99) (hm : mI M (o + 2) 1 = nI m) (hmn : m + n ≤ 20000) (hn : n ≤ 60) : ∃ M1, fn_X8_askBehind M o (nI n) = some M1 ∧ SQ M M1 o (Zc 59) ∧ CP M1 o 59 (ripS (gw G) m n S) := by
  have hS := h.1
  obtain ⟨M1, a1, a2, a3, a4⟩ := become_c hS hC hm
  have hS1 := a2.shp hS
  obtain ⟨a, ha⟩ := h.2.2.2.hb
  have ha1 : HB M1 o G a := ha.fr a2 (Zc_fx (Or.inr rfl))
  obtain ⟨M2, b1, b2, b3, b4⟩ := ripen_c (n := n) (Or.inr rfl) a3 ha1 hb hmn hn a4
  have pt : ∀ {α : Type} (f : Nat → Option α), gR M1 (o + 1) 5 7 f = f (o + a) := fun f => CW.ptr (w := 0) ha1 hS1
  refine ⟨M2, ?_, a2.trans b2, b3⟩
  simp only [fn_X8_askBehind, a1, pt, b1, mt_sI, mt_sJ, mt_sP, mt_rI, mt_rJ, ml_sI, ml_sJ, ml_sP, ml_rI, ml_rJ, mP_sI, mP_sJ, mP_rI, mP_rJ, SHP_sI, SHP_sJ, SHP_rI, SHP_rJ, mI_sI, mI_rI, mI_sJ, mI_rJ, mI_sP, mJ_sI, mJ_rI, mJ_sP, mJ_sJ, mJ_rJ, gI_e, pI_e, ck_e, bnd_s, nm_eq, pr2_e, cnul_0, cnul_1, drf_1, sm_1, sm_2, aI_e, aJ_e, wI_e, wJ_e, aL_e, cpI_e, cpJ_e, Nat.reduceLeDiff, Nat.reduceEqDiff, Nat.add_left_cancel_iff, ad0, ad1, false_and, and_false, true_and, and_true, reduceIte, if_true, if_false, zb0, zb1, Int32.reduceLT, Int32.reduceLE, i10, nw1, nw2, nt1, nt2, not_true_eq_false, not_false_eq_true, mt_0, mt_1, mt_2, mt_3, ml_3, mt_4, ml_4, mt_5, mt_6, ml_6, mt_7, ml_7, mt_8, ml_8, mt_9, mt_10, ml_10, mt_11, ml_11, mt_12, ml_12, mt_13, mt_14, ml_14, mt_15, ml_15, mt_16, ml_16, mt_17, mt_18, ml_18, mt_19, mt_20, ml_20, mt_21, mt_22, ml_22, mt_23, mt_24, ml_24, mt_25, mt_26, ml_26, mt_53, mt_54, ml_54, mt_55, ml_55, mt_56, mt_57, ml_57, mt_58, ml_58, mt_59, mt_60, ml_60, mt_61, mt_62, ml_62, mt_63, ml_63, mt_64, mt_65, ml_65, mt_66, mt_67, ml_67, mt_68, mt_69, ml_69, mt_70, mt_71, ml_71, mt_72, mt_73, ml_73, mt_74, mt_75, ml_75, mt_76, mt_77, ml_77, gP_0_0, gP_0_1, gP_0_4, gP_0_5, gP_0_6, gP_0_7, gP_0_8, gP_0_9, gP_1_0, gP_1_1, gP_1_4, gP_1_5, gP_1_6, gP_2_0, gP_5_1, gP_5_2, gP_5_3, gP_9_1, gP_9_2, gP_9_3, gP_13_1, gP_13_2, gP_13_3, gP_17_3, gP_19_3, gP_21_3, gP_23_3, gP_25_3, gP_53_0, gP_53_6, gP_56_0, gP_59_0, gP_61_3, gP_64_0, gP_66_2, gP_68_2, gP_70_2, gP_72_2, gP_74_2, gP_76_2, aP_4, mtw_4, mtl_4, mll_4, gPw_4, aP_58, mtw_58, mtl_58, mll_58, gPw_58, hS, hS1]
end AK1
theorem sum_bd {S : Nat → Int32} (h : ∀ c, c < 16 → bd (S c) 99) : ∀ n, n ≤ 16 → bd (sumI S n) (99 * n)
  | 0, _ => bd_nI (k := 0) (Nat.le_refl _)
  | n + 1, hn => by
    obtain ⟨a, h1, h2⟩ := sum_bd h n (by omega)
    obtain ⟨b, h3, h4⟩ := h n (by omega)
    show bd (sumI S n + S n) _
    rw [h2, h4, nI_add]
    exact bd_nI (by omega)
theorem frac_a : ∀ i, i < 40 → ∀ j, j < 40 → fn_X8_partOfSixteenths (nI (40 * i + j)) 0 = fn_X9_lowest (nI (40 * i + j)) 16 0 := by decide +kernel
theorem frac_b : ∀ i, i < 40 → ∀ j, j < 40 → fn_X8_partOfSixteenths (nI (40 * i + j)) 1 = fn_X9_lowest (nI (40 * i + j)) 16 1 := by decide +kernel
theorem frac_s : ∀ i, i < 40 → ∀ j, j < 40 → (fn_X8_partOfSixteenths (nI (40 * i + j)) 0).isSome = true ∧ (fn_X8_partOfSixteenths (nI (40 * i + j)) 1).isSome = true := by decide +kernel
theorem frac_e {n p : Nat} (hn : n < 1600) (hp : p < 2) : ∃ v, fn_X8_partOfSixteenths (nI n) (nI p) = some v ∧ fn_X9_lowest (nI n) 16 (nI p) = some v := by
  have e : 40 * (n / 40) + n % 40 = n := Nat.div_add_mod n 40
  have a := frac_a (n / 40) (by omega) (n % 40) (by omega)
  have b := frac_b (n / 40) (by omega) (n % 40) (by omega)
  have s := frac_s (n / 40) (by omega) (n % 40) (by omega)
  rw [e] at a b s
  rcases (by omega : p = 0 ∨ p = 1) with rfl | rfl
  · obtain ⟨v, hv⟩ := Option.isSome_iff_exists.mp s.1
    exact ⟨v, hv, by rw [← hv]; exact a.symm⟩
  · obtain ⟨v, hv⟩ := Option.isSome_iff_exists.mp s.2
    exact ⟨v, hv, by rw [← hv]; exact b.symm⟩
set_option maxHeartbeats 2000000 in
theorem op_mean {M : QM} {o : Nat} {G : GG} (h : RR M o G) (p1 p2 : Int32) : ∃ v M1 M2 G', fn_X8_mean M o p1 p2 = some (v, M1) ∧ fn_X9_mean M1 (o + 78) p1 p2 = some (v, M2) ∧ RR M2 o G' := by
  have hS := h.1.1
  rcases rng p1 61 61 60 rfl rfl (by decide) (by decide) with ⟨n, hn, rfl, b1, b2, b3⟩ | ⟨b1, b2, b3⟩
  · rcases rng p2 2 2 1 rfl rfl (by decide) (by decide) with ⟨p, hp, rfl, d1, d2, d3⟩ | ⟨d1, d2, d3⟩
    · obtain ⟨m, m1, m2, m3, m4⟩ := h.fv
      obtain ⟨M1, a1, a2, a3⟩ := askBehind_c (n := n) h.cw h.cp h.bds m4 (by omega) (by omega)
      have h1 := h.scr (a2.mono Zc59_scr)
      have hS1 := h1.1.1
      have t1 := together_c a3
      obtain ⟨s, s1, s2⟩ := sum_bd (ripS_bd (g := gw G) (m := m) h.bds n) 16 (by decide)
      obtain ⟨v, v1, v2⟩ := frac_e (n := s) (p := p) (by omega) hp
      have t2 : fn_X2_together M1 (o + 59) = some (nI s) := by rw [t1, s2]
      have mw1 := h1.mw
      have m31 : FV (G 0) m M1 o := m3.s (a2) (fun c _ => by unfold Zc; omega) (by unfold Zc; omega)
      obtain ⟨M2, c1, c2, c3, c4⟩ := save_m hS1
      have mw2 := mw1.sc (c2.mono Zs_scr)
      have m32 : FV (G 0) m M2 o := m31.s c2 (fun c _ => by unfold Zs; omega) (by unfold Zs; omega)
      obtain ⟨M3, e1, e2, e3⟩ := goMinutes_m (n := n) mw2 m32 (by omega) (by omega)
      have hS2 := mw2.1
      have hS3 := e2.shp hS2
      have al := allStrong_m hS3 e3
      rw [s2] at al
      obtain ⟨M4, f1, f2⟩ := back_m hS1 c2 c3 c4 e2 Zm_b Zm_97 Zm_30
      have hS4 := f2.shp hS1
      refine ⟨v, M1, M4, G, ?_, ?_, h1.scr f2⟩
      · simp only [fn_X8_mean, b3, d1, a1, t2, v1, mt_sI, mt_sJ, mt_sP, mt_rI, mt_rJ, ml_sI, ml_sJ, ml_sP, ml_rI, ml_rJ, mP_sI, mP_sJ, mP_rI, mP_rJ, SHP_sI, SHP_sJ, SHP_rI, SHP_rJ, mI_sI, mI_rI, mI_sJ, mI_rJ, mI_sP, mJ_sI, mJ_rI, mJ_sP, mJ_sJ, mJ_rJ, gI_e, pI_e, ck_e, bnd_s, nm_eq, pr2_e, cnul_0, cnul_1, drf_1, sm_1, sm_2, aI_e, aJ_e, wI_e, wJ_e, aL_e, cpI_e, cpJ_e, Nat.reduceLeDiff, Nat.reduceEqDiff, Nat.add_left_cancel_iff, ad0, ad1, false_and, and_false, true_and, and_true, reduceIte, if_true, if_false, zb0, zb1, Int32.reduceLT, Int32.reduceLE, i10, nw1, nw2, nt1, nt2, not_true_eq_false, not_false_eq_true, mt_0, mt_1, mt_2, mt_3, ml_3, mt_4, ml_4, mt_5, mt_6, ml_6, mt_7, ml_7, mt_8, ml_8, mt_9, mt_10, ml_10, mt_11, ml_11, mt_12, ml_12, mt_13, mt_14, ml_14, mt_15, ml_15, mt_16, ml_16, mt_17, mt_18, ml_18, mt_19, mt_20, ml_20, mt_21, mt_22, ml_22, mt_23, mt_24, ml_24, mt_25, mt_26, ml_26, mt_53, mt_54, ml_54, mt_55, ml_55, mt_56, mt_57, ml_57, mt_58, ml_58, mt_59, mt_60, ml_60, mt_61, mt_62, ml_62, mt_63, ml_63, mt_64, mt_65, ml_65, mt_66, mt_67, ml_67, mt_68, mt_69, ml_69, mt_70, mt_71, ml_71, mt_72, mt_73, ml_73, mt_74, mt_75, ml_75, mt_76, mt_77, ml_77, gP_0_0, gP_0_1, gP_0_4, gP_0_5, gP_0_6, gP_0_7, gP_0_8, gP_0_9, gP_1_0, gP_1_1, gP_1_4, gP_1_5, gP_1_6, gP_2_0, gP_5_1, gP_5_2, gP_5_3, gP_9_1, gP_9_2, gP_9_3, gP_13_1, gP_13_2, gP_13_3, gP_17_3, gP_19_3, gP_21_3, gP_23_3, gP_25_3, gP_53_0, gP_53_6, gP_56_0, gP_59_0, gP_61_3, gP_64_0, gP_66_2, gP_68_2, gP_70_2, gP_72_2, gP_74_2, gP_76_2, aP_4, mtw_4, mtl_4, mll_4, gPw_4, aP_58, mtw_58, mtl_58, mll_58, gPw_58, hS, hS1]
      · simp only [fn_X9_mean, fn_X9_isMinutes, b2, d2, c1, e1, al, f1, v2, mt_sI, mt_sJ, mt_sP, mt_rI, mt_rJ, ml_sI, ml_sJ, ml_sP, ml_rI, ml_rJ, mP_sI, mP_sJ, mP_rI, mP_rJ, SHP_sI, SHP_sJ, SHP_rI, SHP_rJ, mI_sI, mI_rI, mI_sJ, mI_rJ, mI_sP, mJ_sI, mJ_rI, mJ_sP, mJ_sJ, mJ_rJ, gI_e, pI_e, ck_e, bnd_s, nm_eq, pr2_e, cnul_0, cnul_1, drf_1, sm_1, sm_2, aI_e, aJ_e, wI_e, wJ_e, aL_e, cpI_e, cpJ_e, Nat.reduceLeDiff, Nat.reduceEqDiff, Nat.add_left_cancel_iff, ad0, ad1, false_and, and_false, true_and, and_true, reduceIte, if_true, if_false, zb0, zb1, Int32.reduceLT, Int32.reduceLE, i10, nw1, nw2, nt1, nt2, not_true_eq_false, not_false_eq_true, mt_78, mt_79, ml_79, mt_80, ml_80, mt_81, ml_81, mt_82, ml_82, mt_83, ml_83, mt_84, ml_84, mt_85, ml_85, mt_86, ml_86, mt_87, ml_87, mt_88, ml_88, mt_89, ml_89, mt_90, ml_90, mt_91, ml_91, mt_92, ml_92, mt_93, ml_93, mt_94, ml_94, mt_95, ml_95, mt_96, ml_96, mt_97, ml_97, mt_98, ml_98, mt_99, ml_99, mt_100, ml_100, mt_101, ml_101, mt_102, ml_102, mt_103, ml_103, mt_104, ml_104, mt_105, ml_105, mt_106, ml_106, mt_107, ml_107, mt_108, ml_108, mt_109, ml_109, mt_110, ml_110, mt_111, ml_111, mt_112, ml_112, mt_113, ml_113, mt_114, ml_114, mt_115, ml_115, mt_116, ml_116, mt_117, ml_117, mt_118, ml_118, mt_119, ml_119, mt_120, ml_120, mt_121, ml_121, mt_122, ml_122, mt_123, ml_123, gP_78_2, gP_78_3, gP_78_4, gP_78_5, gP_78_6, gP_78_12, gP_78_13, gP_78_14, gP_78_15, gP_78_16, gP_78_17, gP_78_18, gP_78_19, gP_78_23, gP_78_24, gP_78_26, gP_78_27, gP_78_28, gP_78_31, gP_78_32, gP_78_34, gP_78_35, gP_78_36, gP_78_37, gP_78_40, gP_78_41, gP_78_42, gP_78_43, gP_78_52, gP_78_53, gP_78_54, gP_78_55, gP_78_56, gP_78_57, gP_78_58, gP_78_59, gP_78_60, gP_78_61, gP_78_62, gP_78_63, gP_78_65, gP_78_66, gP_78_67, gP_78_68, gP_78_69, hS1, hS2, hS3, hS4]
    · exact ⟨_, M, M, G, by simp only [fn_X8_mean, b3, d1, Nat.reduceLeDiff, Nat.reduceEqDiff, Nat.add_left_cancel_iff, ad0, ad1, false_and, and_false, true_and, and_true, reduceIte, if_true, if_false, zb0, zb1, Int32.reduceLT, Int32.reduceLE, i10, nw1, nw2, nt1, nt2, not_true_eq_false, not_false_eq_true]; rfl, by simp only [fn_X9_mean, fn_X9_isMinutes, b2, d2, Nat.reduceLeDiff, Nat.reduceEqDiff, Nat.add_left_cancel_iff, ad0, ad1, false_and, and_false, true_and, and_true, reduceIte, if_true, if_false, zb0, zb1, Int32.reduceLT, Int32.reduceLE, i10, nw1, nw2, nt1, nt2, not_true_eq_false, not_false_eq_true], h⟩
  · exact ⟨_, M, M, G, by simp only [fn_X8_mean, b3, Nat.reduceLeDiff, Nat.reduceEqDiff, Nat.add_left_cancel_iff, ad0, ad1, false_and, and_false, true_and, and_true, reduceIte, if_true, if_false, zb0, zb1, Int32.reduceLT, Int32.reduceLE, i10, nw1, nw2, nt1, nt2, not_true_eq_false, not_false_eq_true]; rfl, by simp only [fn_X9_mean, fn_X9_isMinutes, b2, Nat.reduceLeDiff, Nat.reduceEqDiff, Nat.add_left_cancel_iff, ad0, ad1, false_and, and_false, true_and, and_true, reduceIte, if_true, if_false, zb0, zb1, Int32.reduceLT, Int32.reduceLE, i10, nw1, nw2, nt1, nt2, not_true_eq_false, not_false_eq_true], h⟩
set_option maxHeartbeats 2000000 in
theorem op_on {M : QM} {o : Nat} {G : GG} (h : RR M o G) (p1 p2 : Int32) : ∃ v M1 M2 G', fn_X8_on M o p1 p2 = some (v, M1) ∧ fn_X9_on M1 (o + 78) p1 p2 = some (v, M2) ∧ RR M2 o G' := by
  have hS := h.1.1
  have core : (p2 = 0 ∨ ∃ c, c < 16 ∧ p2 = nI (c + 10)) → ∃ v M1 M2 G', jn_X8_on_18 o p1 p2 M = some (v, M1) ∧ jn_X9_on_18 (o + 78) p1 p2 M1 = some (v, M2) ∧ RR M2 o G' := by
    intro hp
    rcases rng p1 61 61 60 rfl rfl (by decide) (by decide) with ⟨n, hn, rfl, b1, b2, b3⟩ | ⟨b1, b2, b3⟩
    · obtain ⟨m, m1, m2, m3, m4⟩ := h.fv
      obtain ⟨M1, a1, a2, a3⟩ := askBehind_c (n := n) h.cw h.cp h.bds m4 (by omega) (by omega)
      have h1 := h.scr (a2.mono Zc59_scr)
      have hS1 := h1.1.1
      have mw1 := h1.mw
      have m31 : FV (G 0) m M1 o := m3.s (a2) (fun c _ => by unfold Zc; omega) (by unfold Zc; omega)
      obtain ⟨M2, c1, c2, c3, c4⟩ := save_m hS1
      have mw2 := mw1.sc (c2.mono Zs_scr)
      have m32 : FV (G 0) m M2 o := m31.s c2 (fun c _ => by unfold Zs; omega) (by unfold Zs; omega)
      obtain ⟨M3, e1, e2, e3⟩ := goMinutes_m (n := n) mw2 m32 (by omega) (by omega)
      have hS2 := mw2.1
      have mw3 := mw2.zm e2 (fun a k q => q)
      have hS3 := mw3.1
      by_cases q : p2 = 0
      · have cr := crossers_c h1.cw a3
        have ct : mI M3 (o + 78) 25 = 0 := ((e2.2.2.2.2 78 25 (by unfold Zm ZB; omega)).trans (c2.2.2.2.2 78 25 (by unfold Zs; omega))).trans h1.ct
        obtain ⟨M4, g1, g2⟩ := crossers_m mw3 e3 ct
        obtain ⟨M5, f1, f2⟩ := back_m hS1 c2 c3 c4 (e2.trans (g2.mono ZB_Zm)) Zm_b Zm_97 Zm_30
        have hS4 := g2.shp hS3
        refine ⟨mkR (fun p => (crG G (ripS (gw G) m n (G 0)) p).isSome) (gN G 1 1), M1, M5, G, ?_, ?_, h1.scr f2⟩
        · simp only [jn_X8_on_18, q, b3, a1, cr, mt_sI, mt_sJ, mt_sP, mt_rI, mt_rJ, ml_sI, ml_sJ, ml_sP, ml_rI, ml_rJ, mP_sI, mP_sJ, mP_rI, mP_rJ, SHP_sI, SHP_sJ, SHP_rI, SHP_rJ, mI_sI, mI_rI, mI_sJ, mI_rJ, mI_sP, mJ_sI, mJ_rI, mJ_sP, mJ_sJ, mJ_rJ, gI_e, pI_e, ck_e, bnd_s, nm_eq, pr2_e, cnul_0, cnul_1, drf_1, sm_1, sm_2, aI_e, aJ_e, wI_e, wJ_e, aL_e, cpI_e, cpJ_e, Nat.reduceLeDiff, Nat.reduceEqDiff, Nat.add_left_cancel_iff, ad0, ad1, false_and, and_false, true_and, and_true, reduceIte, if_true, if_false, zb0, zb1, Int32.reduceLT, Int32.reduceLE, i10, nw1, nw2, nt1, nt2, not_true_eq_false, not_false_eq_true, mt_0, mt_1, mt_2, mt_3, ml_3, mt_4, ml_4, mt_5, mt_6, ml_6, mt_7, ml_7, mt_8, ml_8, mt_9, mt_10, ml_10, mt_11, ml_11, mt_12, ml_12, mt_13, mt_14, ml_14, mt_15, ml_15, mt_16, ml_16, mt_17, mt_18, ml_18, mt_19, mt_20, ml_20, mt_21, mt_22, ml_22, mt_23, mt_24, ml_24, mt_25, mt_26, ml_26, mt_53, mt_54, ml_54, mt_55, ml_55, mt_56, mt_57, ml_57, mt_58, ml_58, mt_59, mt_60, ml_60, mt_61, mt_62, ml_62, mt_63, ml_63, mt_64, mt_65, ml_65, mt_66, mt_67, ml_67, mt_68, mt_69, ml_69, mt_70, mt_71, ml_71, mt_72, mt_73, ml_73, mt_74, mt_75, ml_75, mt_76, mt_77, ml_77, gP_0_0, gP_0_1, gP_0_4, gP_0_5, gP_0_6, gP_0_7, gP_0_8, gP_0_9, gP_1_0, gP_1_1, gP_1_4, gP_1_5, gP_1_6, gP_2_0, gP_5_1, gP_5_2, gP_5_3, gP_9_1, gP_9_2, gP_9_3, gP_13_1, gP_13_2, gP_13_3, gP_17_3, gP_19_3, gP_21_3, gP_23_3, gP_25_3, gP_53_0, gP_53_6, gP_56_0, gP_59_0, gP_61_3, gP_64_0, gP_66_2, gP_68_2, gP_70_2, gP_72_2, gP_74_2, gP_76_2, aP_4, mtw_4, mtl_4, mll_4, gPw_4, aP_58, mtw_58, mtl_58, mll_58, gPw_58, hS, hS1]
        · simp only [jn_X9_on_18, fn_X9_isMinutes, q, b2, c1, e1, g1, f1, mt_sI, mt_sJ, mt_sP, mt_rI, mt_rJ, ml_sI, ml_sJ, ml_sP, ml_rI, ml_rJ, mP_sI, mP_sJ, mP_rI, mP_rJ, SHP_sI, SHP_sJ, SHP_rI, SHP_rJ, mI_sI, mI_rI, mI_sJ, mI_rJ, mI_sP, mJ_sI, mJ_rI, mJ_sP, mJ_sJ, mJ_rJ, gI_e, pI_e, ck_e, bnd_s, nm_eq, pr2_e, cnul_0, cnul_1, drf_1, sm_1, sm_2, aI_e, aJ_e, wI_e, wJ_e, aL_e, cpI_e, cpJ_e, Nat.reduceLeDiff, Nat.reduceEqDiff, Nat.add_left_cancel_iff, ad0, ad1, false_and, and_false, true_and, and_true, reduceIte, if_true, if_false, zb0, zb1, Int32.reduceLT, Int32.reduceLE, i10, nw1, nw2, nt1, nt2, not_true_eq_false, not_false_eq_true, mt_78, mt_79, ml_79, mt_80, ml_80, mt_81, ml_81, mt_82, ml_82, mt_83, ml_83, mt_84, ml_84, mt_85, ml_85, mt_86, ml_86, mt_87, ml_87, mt_88, ml_88, mt_89, ml_89, mt_90, ml_90, mt_91, ml_91, mt_92, ml_92, mt_93, ml_93, mt_94, ml_94, mt_95, ml_95, mt_96, ml_96, mt_97, ml_97, mt_98, ml_98, mt_99, ml_99, mt_100, ml_100, mt_101, ml_101, mt_102, ml_102, mt_103, ml_103, mt_104, ml_104, mt_105, ml_105, mt_106, ml_106, mt_107, ml_107, mt_108, ml_108, mt_109, ml_109, mt_110, ml_110, mt_111, ml_111, mt_112, ml_112, mt_113, ml_113, mt_114, ml_114, mt_115, ml_115, mt_116, ml_116, mt_117, ml_117, mt_118, ml_118, mt_119, ml_119, mt_120, ml_120, mt_121, ml_121, mt_122, ml_122, mt_123, ml_123, gP_78_2, gP_78_3, gP_78_4, gP_78_5, gP_78_6, gP_78_12, gP_78_13, gP_78_14, gP_78_15, gP_78_16, gP_78_17, gP_78_18, gP_78_19, gP_78_23, gP_78_24, gP_78_26, gP_78_27, gP_78_28, gP_78_31, gP_78_32, gP_78_34, gP_78_35, gP_78_36, gP_78_37, gP_78_40, gP_78_41, gP_78_42, gP_78_43, gP_78_52, gP_78_53, gP_78_54, gP_78_55, gP_78_56, gP_78_57, gP_78_58, gP_78_59, gP_78_60, gP_78_61, gP_78_62, gP_78_63, gP_78_65, gP_78_66, gP_78_67, gP_78_68, gP_78_69, hS1, hS2, hS3, hS4]
      · obtain ⟨c, hc, rfl⟩ : ∃ c, c < 16 ∧ p2 = nI (c + 10) := by rcases hp with hp | hp; exact absurd hp q; exact hp
        have e10 : nI (c + 10) - 10 = nI c := by rw [show (10 : Int32) = nI 10 from rfl, nI_sub (by omega)]; congr 1
        obtain ⟨M5, f1, f2⟩ := back_m hS1 c2 c3 c4 e2 Zm_b Zm_97 Zm_30
        have k1 := a3.2 c hc
        have k2 := e3.1 c hc
        refine ⟨ripS (gw G) m n (G 0) c, M1, M5, G, ?_, ?_, h1.scr f2⟩
        · simp only [jn_X8_on_18, q, b3, a1, e10, k1, mt_sI, mt_sJ, mt_sP, mt_rI, mt_rJ, ml_sI, ml_sJ, ml_sP, ml_rI, ml_rJ, mP_sI, mP_sJ, mP_rI, mP_rJ, SHP_sI, SHP_sJ, SHP_rI, SHP_rJ, mI_sI, mI_rI, mI_sJ, mI_rJ, mI_sP, mJ_sI, mJ_rI, mJ_sP, mJ_sJ, mJ_rJ, gI_e, pI_e, ck_e, bnd_s, nm_eq, pr2_e, cnul_0, cnul_1, drf_1, sm_1, sm_2, aI_e, aJ_e, wI_e, wJ_e, aL_e, cpI_e, cpJ_e, Nat.reduceLeDiff, Nat.reduceEqDiff, Nat.add_left_cancel_iff, ad0, ad1, false_and, and_false, true_and, and_true, reduceIte, if_true, if_false, zb0, zb1, Int32.reduceLT, Int32.reduceLE, i10, nw1, nw2, nt1, nt2, not_true_eq_false, not_false_eq_true, mt_0, mt_1, mt_2, mt_3, ml_3, mt_4, ml_4, mt_5, mt_6, ml_6, mt_7, ml_7, mt_8, ml_8, mt_9, mt_10, ml_10, mt_11, ml_11, mt_12, ml_12, mt_13, mt_14, ml_14, mt_15, ml_15, mt_16, ml_16, mt_17, mt_18, ml_18, mt_19, mt_20, ml_20, mt_21, mt_22, ml_22, mt_23, mt_24, ml_24, mt_25, mt_26, ml_26, mt_53, mt_54, ml_54, mt_55, ml_55, mt_56, mt_57, ml_57, mt_58, ml_58, mt_59, mt_60, ml_60, mt_61, mt_62, ml_62, mt_63, ml_63, mt_64, mt_65, ml_65, mt_66, mt_67, ml_67, mt_68, mt_69, ml_69, mt_70, mt_71, ml_71, mt_72, mt_73, ml_73, mt_74, mt_75, ml_75, mt_76, mt_77, ml_77, gP_0_0, gP_0_1, gP_0_4, gP_0_5, gP_0_6, gP_0_7, gP_0_8, gP_0_9, gP_1_0, gP_1_1, gP_1_4, gP_1_5, gP_1_6, gP_2_0, gP_5_1, gP_5_2, gP_5_3, gP_9_1, gP_9_2, gP_9_3, gP_13_1, gP_13_2, gP_13_3, gP_17_3, gP_19_3, gP_21_3, gP_23_3, gP_25_3, gP_53_0, gP_53_6, gP_56_0, gP_59_0, gP_61_3, gP_64_0, gP_66_2, gP_68_2, gP_70_2, gP_72_2, gP_74_2, gP_76_2, aP_4, mtw_4, mtl_4, mll_4, gPw_4, aP_58, mtw_58, mtl_58, mll_58, gPw_58, hS, hS1, hc]
        · simp only [jn_X9_on_18, fn_X9_isMinutes, q, b2, c1, e1, e10, k2, f1, mt_sI, mt_sJ, mt_sP, mt_rI, mt_rJ, ml_sI, ml_sJ, ml_sP, ml_rI, ml_rJ, mP_sI, mP_sJ, mP_rI, mP_rJ, SHP_sI, SHP_sJ, SHP_rI, SHP_rJ, mI_sI, mI_rI, mI_sJ, mI_rJ, mI_sP, mJ_sI, mJ_rI, mJ_sP, mJ_sJ, mJ_rJ, gI_e, pI_e, ck_e, bnd_s, nm_eq, pr2_e, cnul_0, cnul_1, drf_1, sm_1, sm_2, aI_e, aJ_e, wI_e, wJ_e, aL_e, cpI_e, cpJ_e, Nat.reduceLeDiff, Nat.reduceEqDiff, Nat.add_left_cancel_iff, ad0, ad1, false_and, and_false, true_and, and_true, reduceIte, if_true, if_false, zb0, zb1, Int32.reduceLT, Int32.reduceLE, i10, nw1, nw2, nt1, nt2, not_true_eq_false, not_false_eq_true, mt_78, mt_79, ml_79, mt_80, ml_80, mt_81, ml_81, mt_82, ml_82, mt_83, ml_83, mt_84, ml_84, mt_85, ml_85, mt_86, ml_86, mt_87, ml_87, mt_88, ml_88, mt_89, ml_89, mt_90, ml_90, mt_91, ml_91, mt_92, ml_92, mt_93, ml_93, mt_94, ml_94, mt_95, ml_95, mt_96, ml_96, mt_97, ml_97, mt_98, ml_98, mt_99, ml_99, mt_100, ml_100, mt_101, ml_101, mt_102, ml_102, mt_103, ml_103, mt_104, ml_104, mt_105, ml_105, mt_106, ml_106, mt_107, ml_107, mt_108, ml_108, mt_109, ml_109, mt_110, ml_110, mt_111, ml_111, mt_112, ml_112, mt_113, ml_113, mt_114, ml_114, mt_115, ml_115, mt_116, ml_116, mt_117, ml_117, mt_118, ml_118, mt_119, ml_119, mt_120, ml_120, mt_121, ml_121, mt_122, ml_122, mt_123, ml_123, gP_78_2, gP_78_3, gP_78_4, gP_78_5, gP_78_6, gP_78_12, gP_78_13, gP_78_14, gP_78_15, gP_78_16, gP_78_17, gP_78_18, gP_78_19, gP_78_23, gP_78_24, gP_78_26, gP_78_27, gP_78_28, gP_78_31, gP_78_32, gP_78_34, gP_78_35, gP_78_36, gP_78_37, gP_78_40, gP_78_41, gP_78_42, gP_78_43, gP_78_52, gP_78_53, gP_78_54, gP_78_55, gP_78_56, gP_78_57, gP_78_58, gP_78_59, gP_78_60, gP_78_61, gP_78_62, gP_78_63, gP_78_65, gP_78_66, gP_78_67, gP_78_68, gP_78_69, hS1, hS2, hS3, hc]
    · refine ⟨-2, M, M, G, ?_, ?_, h⟩
      · simp only [jn_X8_on_18, b3, Nat.reduceLeDiff, Nat.reduceEqDiff, Nat.add_left_cancel_iff, ad0, ad1, false_and, and_false, true_and, and_true, reduceIte, if_true, if_false, zb0, zb1, Int32.reduceLT, Int32.reduceLE, i10, nw1, nw2, nt1, nt2, not_true_eq_false, not_false_eq_true]
      · simp only [jn_X9_on_18, fn_X9_isMinutes, b2, mt_sI, mt_sJ, mt_sP, mt_rI, mt_rJ, ml_sI, ml_sJ, ml_sP, ml_rI, ml_rJ, mP_sI, mP_sJ, mP_rI, mP_rJ, SHP_sI, SHP_sJ, SHP_rI, SHP_rJ, mI_sI, mI_rI, mI_sJ, mI_rJ, mI_sP, mJ_sI, mJ_rI, mJ_sP, mJ_sJ, mJ_rJ, gI_e, pI_e, ck_e, bnd_s, nm_eq, pr2_e, cnul_0, cnul_1, drf_1, sm_1, sm_2, aI_e, aJ_e, wI_e, wJ_e, aL_e, cpI_e, cpJ_e, Nat.reduceLeDiff, Nat.reduceEqDiff, Nat.add_left_cancel_iff, ad0, ad1, false_and, and_false, true_and, and_true, reduceIte, if_true, if_false, zb0, zb1, Int32.reduceLT, Int32.reduceLE, i10, nw1, nw2, nt1, nt2, not_true_eq_false, not_false_eq_true, mt_78, mt_79, ml_79, mt_80, ml_80, mt_81, ml_81, mt_82, ml_82, mt_83, ml_83, mt_84, ml_84, mt_85, ml_85, mt_86, ml_86, mt_87, ml_87, mt_88, ml_88, mt_89, ml_89, mt_90, ml_90, mt_91, ml_91, mt_92, ml_92, mt_93, ml_93, mt_94, ml_94, mt_95, ml_95, mt_96, ml_96, mt_97, ml_97, mt_98, ml_98, mt_99, ml_99, mt_100, ml_100, mt_101, ml_101, mt_102, ml_102, mt_103, ml_103, mt_104, ml_104, mt_105, ml_105, mt_106, ml_106, mt_107, ml_107, mt_108, ml_108, mt_109, ml_109, mt_110, ml_110, mt_111, ml_111, mt_112, ml_112, mt_113, ml_113, mt_114, ml_114, mt_115, ml_115, mt_116, ml_116, mt_117, ml_117, mt_118, ml_118, mt_119, ml_119, mt_120, ml_120, mt_121, ml_121, mt_122, ml_122, mt_123, ml_123, gP_78_2, gP_78_3, gP_78_4, gP_78_5, gP_78_6, gP_78_12, gP_78_13, gP_78_14, gP_78_15, gP_78_16, gP_78_17, gP_78_18, gP_78_19, gP_78_23, gP_78_24, gP_78_26, gP_78_27, gP_78_28, gP_78_31, gP_78_32, gP_78_34, gP_78_35, gP_78_36, gP_78_37, gP_78_40, gP_78_41, gP_78_42, gP_78_43, gP_78_52, gP_78_53, gP_78_54, gP_78_55, gP_78_56, gP_78_57, gP_78_58, gP_78_59, gP_78_60, gP_78_61, gP_78_62, gP_78_63, gP_78_65, gP_78_66, gP_78_67, gP_78_68, gP_78_69, hS]
  unfold fn_X8_on fn_X9_on
  by_cases q : p2 = 0
  · obtain ⟨v, M1, M2, G', h1, h2, h3⟩ := core (Or.inl q)
    exact ⟨v, M1, M2, G', by rw [if_pos q]; exact h1, by rw [if_pos q]; exact h2, h3⟩
  · rw [if_neg q]
    by_cases f1 : p2 < 10
    · exact ⟨-1, M, M, G, by rw [if_pos f1], by rw [if_neg q, if_pos (by unfold fn_X9_in; rw [if_pos f1])], h⟩
    · by_cases f2 : p2 < 26
      · have : ∃ c, c < 16 ∧ p2 = nI (c + 10) := by
          have f3 : p2 ≤ 25 := by
            rw [Int32.le_iff_toInt_le]
            rw [Int32.lt_iff_toInt_lt] at f2
            have h25 : (25 : Int32).toInt = 25 := by decide
            have h26 : (26 : Int32).toInt = 26 := by decide
            omega
          obtain ⟨j, j1, j2⟩ := nI_of2 (x := p2) (n := 25) (M := 25) (by decide) (fun z3 => f1 (Int32.lt_trans z3 (by decide))) f3
          have j10 : 10 ≤ j := by
            rw [j2] at f1
            by_cases y : j < 10
            · exact absurd (nI_lt (b := 10) y (by decide)) f1
            · omega
          exact ⟨j - 10, by omega, by rw [j2]; congr 1; omega⟩
        obtain ⟨v, M1, M2, G', h1, h2, h3⟩ := core (Or.inr this)
        obtain ⟨c, hc, hp⟩ := this
        have f4 : ¬ fn_X9_in p2 10 25 = 0 := by
          unfold fn_X9_in
          rw [if_neg f1, hp, if_neg (show ¬ (25 : Int32) < nI (c + 10) from nI_nlt (a := 25) (by omega) (by omega))]
          decide
        exact ⟨v, M1, M2, G', by rw [if_neg f1, if_pos f2]; exact h1, by rw [if_neg q, if_neg f4]; exact h2, h3⟩
      · have f4 : fn_X9_in p2 10 25 = 0 := by
          unfold fn_X9_in
          rw [if_neg f1, if_pos]
          have f2 := Int32.not_lt.mp f2
          rw [Int32.lt_iff_toInt_lt]
          rw [Int32.le_iff_toInt_le] at f2
          have h25 : (25 : Int32).toInt = 25 := by decide
          have h26 : (26 : Int32).toInt = 26 := by decide
          omega
        exact ⟨-1, M, M, G, by rw [if_neg f1, if_neg f2], by rw [if_neg q, if_pos f4], h⟩
/-! soon -/
def soP (G : GG) (m p n : Nat) : Bool := (crG G (ripS (gw G) m n (G 0)) p).isSome
set_option maxHeartbeats 2000000 in
theorem soon_c {M : QM} {o m p : Nat} {G : GG} (h : RR M o G) (hm : mI M (o + 2) 1 = nI m) (m1 : m ≤ 9999) (hp : p < gN G 1 1) {M0 : QM} (a2 : SQ M M0 o (Zc 59)) (a3 : CP M0 o 59 (G 0)) (a4 : mI M0 (o + 59) 1 = nI m) : ∃ M1, itr (fun s31 : Int32 × QM => lp_X8_soon_31 o (o + (17 + 2 * p)) s31.1 s31.2) FU (0, M0) = some (iI (lst (soP G m p) 61), M1) ∧ SQ M M1 o (Zc 59) := by
  have loop := itr_J (f := fun s31 : Int32 × QM => lp_X8_soon_31 o (o + (17 + 2 * p)) s31.1 s31.2) (s0 := (0, M0)) (fun n z => n ≤ 61 ∧ ∃ Mw, z = (nI n, Mw) ∧ SQ M Mw o (Zc 59) ∧ CP Mw o 59 (ripS (gw G) m n (G 0)) ∧ mI Mw (o + 59) 1 = nI (m + n) ∧ ∀ j, j < n → soP G m p j = false) (fun r => ∃ M1, r = (iI (lst (soP G m p) 61), M1) ∧ SQ M M1 o (Zc 59)) 61
    ⟨Nat.zero_le _, M0, rfl, a2, a3, a4, fun j hj => absurd hj (Nat.not_lt_zero _)⟩
    (fun n z hz => by
      obtain ⟨hn, Mw, rfl, g1, g2, g3, g4⟩ := hz
      have h1 := h.scr (g1.mono Zc59_scr)
      have hS1 := h1.1.1
      show (∃ r, lp_X8_soon_31 o (o + (17 + 2 * p)) (nI n) Mw = some (.inr r) ∧ _) ∨ _ ∧ ∃ s', lp_X8_soon_31 o (o + (17 + 2 * p)) (nI n) Mw = some (.inl s') ∧ _
      by_cases e : n = 61
      · left
        subst e
        refine ⟨(-5, Mw), ?_, Mw, ?_, g1⟩
        · unfold lp_X8_soon_31
          rw [if_pos (by decide)]
        · rw [lst_none g4]; rfl
      · have hn' : n < 61 := by omega
        have f1 : ¬ (60 : Int32) < nI n := nI_nlt (a := 60) (by omega) (by omega)
        have hp5 : p < 5 := by have := h.w5.1; omega
        have cr := crossing_c (sp := gw G 1600) (h1.cw.wk hp) g2
        have cr2 : fn_X7_crossing Mw (o + (17 + 2 * p)) (o + 59) (gw G 1600) = some (iI (crG G (ripS (gw G) m n (G 0)) p)) := cr
        have sp : ∀ {α : Type} (f : Int32 → Option α), (gR Mw (o + 1) 5 7 fun r => gI Mw r 1 1 f) = f (gw G 1600) := fun f => h1.cw.spn
        have lt : ∀ n', crG G (ripS (gw G) m n (G 0)) p = some n' → n' < 2 ^ 31 := fun n' e => by
          have : n' < 16 := (lst_s e).1
          omega
        by_cases q : crG G (ripS (gw G) m n (G 0)) p = none
        · right
          have q2 : iI (crG G (ripS (gw G) m n (G 0)) p) < 0 := (iI_neg lt).mpr q
          obtain ⟨a, ha⟩ := h1.cw.2.2.2.hb
          have pt : ∀ {α : Type} (f : Nat → Option α), gR Mw (o + 1) 5 7 f = f (o + a) := fun f => CW.ptr (w := 0) ha hS1
          obtain ⟨M2, b1, b2, b3, b4⟩ := ripen_c (n := 1) (Or.inr rfl) g2 ha (ripS_bd h.bds n) (by omega) (by decide) g3
          have b1' : fn_X2_ripen Mw (o + 59) 1 (o + a) = some M2 := b1
          refine ⟨hn', (nI (n + 1), M2), ?_, by omega, M2, rfl, g1.trans b2, b3, b4, fun j hj => ?_⟩
          · have e1 : lp_X8_soon_31 o (o + (17 + 2 * p)) (nI n) Mw = bnd (fn_X2_ripen Mw (o + 59) 1 (o + a)) fun M72 => nm (nI n + 1) fun v3_75 => some (.inl (v3_75, M72)) := by
              unfold lp_X8_soon_31
              rw [if_neg f1, gP_0_7 hS1, gP_0_0 hS1, sp, ck_e (mtw_4 hS1 hp5), bnd_e cr2, if_pos q2, gP_0_7 hS1, gP_0_0 hS1, pt, ck_e (mt_59 hS1)]
            rw [e1, bnd_e b1', nm_eq, nI_1]
          · by_cases z : j = n
            · subst z
              show (crG G (ripS (gw G) m j (G 0)) p).isSome = false
              rw [q]; rfl
            · exact g4 j (by omega)
        · left
          have q2 : ¬ iI (crG G (ripS (gw G) m n (G 0)) p) < 0 := fun z => q ((iI_neg lt).mp z)
          refine ⟨(nI n, Mw), ?_, Mw, ?_, g1⟩
          · unfold lp_X8_soon_31
            rw [if_neg f1, gP_0_7 hS1, gP_0_0 hS1, sp, ck_e (mtw_4 hS1 hp5), bnd_e cr2, if_neg q2]
          · rw [lst_some (k := n) (by
              show (crG G (ripS (gw G) m n (G 0)) p).isSome = true
              cases e : crG G (ripS (gw G) m n (G 0)) p with
              | none => exact absurd e q
              | some _ => rfl) g4 hn']
            rfl) (by decide)
  obtain ⟨r, h1, M1, rfl, h2⟩ := loop
  exact ⟨M1, h1, h2⟩
set_option maxHeartbeats 2000000 in
theorem soon_m {M M0 : QM} {o m p : Nat} {G : GG} {w : Nat} (mw : MW M0 o G w) (hF : FV (G 0) m M0 o) (ct : mI M0 (o + 78) 25 = 0) (m1 : m ≤ 9999) (hp : p < w) : ∃ M1 e, itr (fun s16 : Int32 × QM => lp_X9_soon_16 (o + 78) (nI p) s16.1 s16.2) FU (0, M0) = some (e, M1) ∧ (if 61 ≤ e then -5 else e) = iI (lst (soP G m p) 61) ∧ SQ M0 M1 o Zm := by
  have loop := itr_J (f := fun s16 : Int32 × QM => lp_X9_soon_16 (o + 78) (nI p) s16.1 s16.2) (s0 := (0, M0)) (fun n z => n ≤ 61 ∧ ∃ Mw, z = (nI n, Mw) ∧ SQ M0 Mw o Zm ∧ FV (ripS (gw G) m n (G 0)) (m + n) Mw o ∧ ∀ j, j < n → soP G m p j = false) (fun r => ∃ M1 e, r = (e, M1) ∧ (if 61 ≤ e then -5 else e) = iI (lst (soP G m p) 61) ∧ SQ M0 M1 o Zm) 61
    ⟨Nat.zero_le _, M0, rfl, SQ.rfl, hF, fun j hj => absurd hj (Nat.not_lt_zero _)⟩
    (fun n z hz => by
      obtain ⟨hn, Mw, rfl, g1, g2, g4⟩ := hz
      have mw1 := mw.zm g1 (fun a k q => q)
      have hS1 := mw1.1
      show (∃ r, lp_X9_soon_16 (o + 78) (nI p) (nI n) Mw = some (.inr r) ∧ _) ∨ _ ∧ ∃ s', lp_X9_soon_16 (o + 78) (nI p) (nI n) Mw = some (.inl s') ∧ _
      by_cases e : n = 61
      · left
        subst e
        refine ⟨(nI 61, Mw), ?_, Mw, nI 61, rfl, ?_, g1⟩
        · unfold lp_X9_soon_16
          rw [if_pos (by decide)]
        · rw [if_pos (by decide), lst_none g4]; rfl
      · have hn' : n < 61 := by omega
        have f1 : ¬ (61 : Int32) ≤ nI n := by show ¬ nI 61 ≤ nI n; rw [nI_leI (by decide) (by omega)]; omega
        obtain ⟨M1, c1, c2, c3⟩ := canCross_m mw1 g2 ((g1.2.2.2.2 78 25 (by unfold Zm ZB; omega)).trans ct) hp
        have mw2 := mw1.zm c3 ZB_Zm
        have hS2 := mw2.1
        cases q : (crG G (ripS (gw G) m n (G 0)) p).isSome with
        | false =>
          right
          rw [q] at c2
          obtain ⟨M2, d1, d2, d3⟩ := goMinute_m mw2 (g2.zb c3) (by omega)
          refine ⟨hn', (nI (n + 1), M2), ?_, by omega, M2, rfl, (g1.trans (c3.mono ZB_Zm)).trans d2, d3, fun j hj => ?_⟩
          · simp only [lp_X9_soon_16, f1, c2, lI_f, d1, nI_1, mt_sI, mt_sJ, mt_sP, mt_rI, mt_rJ, ml_sI, ml_sJ, ml_sP, ml_rI, ml_rJ, mP_sI, mP_sJ, mP_rI, mP_rJ, SHP_sI, SHP_sJ, SHP_rI, SHP_rJ, mI_sI, mI_rI, mI_sJ, mI_rJ, mI_sP, mJ_sI, mJ_rI, mJ_sP, mJ_sJ, mJ_rJ, gI_e, pI_e, ck_e, bnd_s, nm_eq, pr2_e, cnul_0, cnul_1, drf_1, sm_1, sm_2, aI_e, aJ_e, wI_e, wJ_e, aL_e, cpI_e, cpJ_e, Nat.reduceLeDiff, Nat.reduceEqDiff, Nat.add_left_cancel_iff, ad0, ad1, false_and, and_false, true_and, and_true, reduceIte, if_true, if_false, zb0, zb1, Int32.reduceLT, Int32.reduceLE, i10, nw1, nw2, nt1, nt2, not_true_eq_false, not_false_eq_true, mt_78, mt_79, ml_79, mt_80, ml_80, mt_81, ml_81, mt_82, ml_82, mt_83, ml_83, mt_84, ml_84, mt_85, ml_85, mt_86, ml_86, mt_87, ml_87, mt_88, ml_88, mt_89, ml_89, mt_90, ml_90, mt_91, ml_91, mt_92, ml_92, mt_93, ml_93, mt_94, ml_94, mt_95, ml_95, mt_96, ml_96, mt_97, ml_97, mt_98, ml_98, mt_99, ml_99, mt_100, ml_100, mt_101, ml_101, mt_102, ml_102, mt_103, ml_103, mt_104, ml_104, mt_105, ml_105, mt_106, ml_106, mt_107, ml_107, mt_108, ml_108, mt_109, ml_109, mt_110, ml_110, mt_111, ml_111, mt_112, ml_112, mt_113, ml_113, mt_114, ml_114, mt_115, ml_115, mt_116, ml_116, mt_117, ml_117, mt_118, ml_118, mt_119, ml_119, mt_120, ml_120, mt_121, ml_121, mt_122, ml_122, mt_123, ml_123, gP_78_2, gP_78_3, gP_78_4, gP_78_5, gP_78_6, gP_78_12, gP_78_13, gP_78_14, gP_78_15, gP_78_16, gP_78_17, gP_78_18, gP_78_19, gP_78_23, gP_78_24, gP_78_26, gP_78_27, gP_78_28, gP_78_31, gP_78_32, gP_78_34, gP_78_35, gP_78_36, gP_78_37, gP_78_40, gP_78_41, gP_78_42, gP_78_43, gP_78_52, gP_78_53, gP_78_54, gP_78_55, gP_78_56, gP_78_57, gP_78_58, gP_78_59, gP_78_60, gP_78_61, gP_78_62, gP_78_63, gP_78_65, gP_78_66, gP_78_67, gP_78_68, gP_78_69, hS1, hS2]
          · by_cases z : j = n
            · subst z; exact q
            · exact g4 j (by omega)
        | true =>
          left
          rw [q] at c2
          refine ⟨(nI n, M1), ?_, M1, nI n, rfl, ?_, g1.trans (c3.mono ZB_Zm)⟩
          · simp only [lp_X9_soon_16, f1, c2, lI_t, mt_sI, mt_sJ, mt_sP, mt_rI, mt_rJ, ml_sI, ml_sJ, ml_sP, ml_rI, ml_rJ, mP_sI, mP_sJ, mP_rI, mP_rJ, SHP_sI, SHP_sJ, SHP_rI, SHP_rJ, mI_sI, mI_rI, mI_sJ, mI_rJ, mI_sP, mJ_sI, mJ_rI, mJ_sP, mJ_sJ, mJ_rJ, gI_e, pI_e, ck_e, bnd_s, nm_eq, pr2_e, cnul_0, cnul_1, drf_1, sm_1, sm_2, aI_e, aJ_e, wI_e, wJ_e, aL_e, cpI_e, cpJ_e, Nat.reduceLeDiff, Nat.reduceEqDiff, Nat.add_left_cancel_iff, ad0, ad1, false_and, and_false, true_and, and_true, reduceIte, if_true, if_false, zb0, zb1, Int32.reduceLT, Int32.reduceLE, i10, nw1, nw2, nt1, nt2, not_true_eq_false, not_false_eq_true, mt_78, mt_79, ml_79, mt_80, ml_80, mt_81, ml_81, mt_82, ml_82, mt_83, ml_83, mt_84, ml_84, mt_85, ml_85, mt_86, ml_86, mt_87, ml_87, mt_88, ml_88, mt_89, ml_89, mt_90, ml_90, mt_91, ml_91, mt_92, ml_92, mt_93, ml_93, mt_94, ml_94, mt_95, ml_95, mt_96, ml_96, mt_97, ml_97, mt_98, ml_98, mt_99, ml_99, mt_100, ml_100, mt_101, ml_101, mt_102, ml_102, mt_103, ml_103, mt_104, ml_104, mt_105, ml_105, mt_106, ml_106, mt_107, ml_107, mt_108, ml_108, mt_109, ml_109, mt_110, ml_110, mt_111, ml_111, mt_112, ml_112, mt_113, ml_113, mt_114, ml_114, mt_115, ml_115, mt_116, ml_116, mt_117, ml_117, mt_118, ml_118, mt_119, ml_119, mt_120, ml_120, mt_121, ml_121, mt_122, ml_122, mt_123, ml_123, gP_78_2, gP_78_3, gP_78_4, gP_78_5, gP_78_6, gP_78_12, gP_78_13, gP_78_14, gP_78_15, gP_78_16, gP_78_17, gP_78_18, gP_78_19, gP_78_23, gP_78_24, gP_78_26, gP_78_27, gP_78_28, gP_78_31, gP_78_32, gP_78_34, gP_78_35, gP_78_36, gP_78_37, gP_78_40, gP_78_41, gP_78_42, gP_78_43, gP_78_52, gP_78_53, gP_78_54, gP_78_55, gP_78_56, gP_78_57, gP_78_58, gP_78_59, gP_78_60, gP_78_61, gP_78_62, gP_78_63, gP_78_65, gP_78_66, gP_78_67, gP_78_68, gP_78_69, hS1]
          · rw [if_neg f1, lst_some (k := n) q g4 hn']; rfl) (by decide)
  obtain ⟨r, h1, M1, e, rfl, h2, h3⟩ := loop
  exact ⟨M1, e, h1, h2, h3⟩
set_option maxHeartbeats 2000000 in
theorem op_soon {M : QM} {o : Nat} {G : GG} (h : RR M o G) (p1 : Int32) : ∃ v M1 M2 G', fn_X8_soon M o p1 = some (v, M1) ∧ fn_X9_soon M1 (o + 78) p1 = some (v, M2) ∧ RR M2 o G' := by
  have hS := h.1.1
  obtain ⟨w, w1, w2, w3, w4, w5, w6⟩ := h.wk p1
  rcases w6 with ⟨c, hc, hc5, rfl, b1, b2⟩ | ⟨b1, b2⟩
  · obtain ⟨m, m1, m2, m3, m4⟩ := h.fv
    have hcw : c < gN G 1 1 := by rw [w3]; exact hc
    obtain ⟨M0, a1, a2, a3, a4⟩ := become_c hS h.cp m4
    obtain ⟨M1, s1, s2⟩ := soon_c h m4 m1 hcw a2 a3 a4
    have h1 := h.scr (s2.mono Zc59_scr)
    have hS1 := h1.1.1
    have w51 : mI M1 (o + 78) 0 = nI w := (s2.2.2.2.2 78 0 (by unfold Zc; omega)).trans w5
    have m31 : FV (G 0) m M1 o := m3.s s2 (fun c _ => by unfold Zc; omega) (by unfold Zc; omega)
    obtain ⟨M2, c1, c2, c3, c4⟩ := save_m hS1
    have mw2 := h1.mw.sc (c2.mono Zs_scr)
    have m32 : FV (G 0) m M2 o := m31.s c2 (fun c _ => by unfold Zs; omega) (by unfold Zs; omega)
    obtain ⟨M3, e, d1, d2, d3⟩ := soon_m (M := M) mw2 m32 ((c2.2.2.2.2 78 25 (by unfold Zs; omega)).trans h1.ct) m1 hcw
    obtain ⟨M4, f1, f2⟩ := back_m hS1 c2 c3 c4 d3 Zm_b Zm_97 Zm_30
    have hS3 := d3.shp mw2.1
    refine ⟨iI (lst (soP G m c) 61), M1, M4, G, ?_, ?_, h1.scr f2⟩
    · simp only [fn_X8_soon, fn_X5_walkerAt, w4, b1, a1, s1, mt_sI, mt_sJ, mt_sP, mt_rI, mt_rJ, ml_sI, ml_sJ, ml_sP, ml_rI, ml_rJ, mP_sI, mP_sJ, mP_rI, mP_rJ, SHP_sI, SHP_sJ, SHP_rI, SHP_rJ, mI_sI, mI_rI, mI_sJ, mI_rJ, mI_sP, mJ_sI, mJ_rI, mJ_sP, mJ_sJ, mJ_rJ, gI_e, pI_e, ck_e, bnd_s, nm_eq, pr2_e, cnul_0, cnul_1, drf_1, sm_1, sm_2, aI_e, aJ_e, wI_e, wJ_e, aL_e, cpI_e, cpJ_e, Nat.reduceLeDiff, Nat.reduceEqDiff, Nat.add_left_cancel_iff, ad0, ad1, false_and, and_false, true_and, and_true, reduceIte, if_true, if_false, zb0, zb1, Int32.reduceLT, Int32.reduceLE, i10, nw1, nw2, nt1, nt2, not_true_eq_false, not_false_eq_true, mt_0, mt_1, mt_2, mt_3, ml_3, mt_4, ml_4, mt_5, mt_6, ml_6, mt_7, ml_7, mt_8, ml_8, mt_9, mt_10, ml_10, mt_11, ml_11, mt_12, ml_12, mt_13, mt_14, ml_14, mt_15, ml_15, mt_16, ml_16, mt_17, mt_18, ml_18, mt_19, mt_20, ml_20, mt_21, mt_22, ml_22, mt_23, mt_24, ml_24, mt_25, mt_26, ml_26, mt_53, mt_54, ml_54, mt_55, ml_55, mt_56, mt_57, ml_57, mt_58, ml_58, mt_59, mt_60, ml_60, mt_61, mt_62, ml_62, mt_63, ml_63, mt_64, mt_65, ml_65, mt_66, mt_67, ml_67, mt_68, mt_69, ml_69, mt_70, mt_71, ml_71, mt_72, mt_73, ml_73, mt_74, mt_75, ml_75, mt_76, mt_77, ml_77, gP_0_0, gP_0_1, gP_0_4, gP_0_5, gP_0_6, gP_0_7, gP_0_8, gP_0_9, gP_1_0, gP_1_1, gP_1_4, gP_1_5, gP_1_6, gP_2_0, gP_5_1, gP_5_2, gP_5_3, gP_9_1, gP_9_2, gP_9_3, gP_13_1, gP_13_2, gP_13_3, gP_17_3, gP_19_3, gP_21_3, gP_23_3, gP_25_3, gP_53_0, gP_53_6, gP_56_0, gP_59_0, gP_61_3, gP_64_0, gP_66_2, gP_68_2, gP_70_2, gP_72_2, gP_74_2, gP_76_2, aP_4, mtw_4, mtl_4, mll_4, gPw_4, aP_58, mtw_58, mtl_58, mll_58, gPw_58, hS, hc5]
    · rw [← d2]
      simp only [fn_X9_soon, fn_X9_isWalker, w51, b2, c1, d1, f1, mt_sI, mt_sJ, mt_sP, mt_rI, mt_rJ, ml_sI, ml_sJ, ml_sP, ml_rI, ml_rJ, mP_sI, mP_sJ, mP_rI, mP_rJ, SHP_sI, SHP_sJ, SHP_rI, SHP_rJ, mI_sI, mI_rI, mI_sJ, mI_rJ, mI_sP, mJ_sI, mJ_rI, mJ_sP, mJ_sJ, mJ_rJ, gI_e, pI_e, ck_e, bnd_s, nm_eq, pr2_e, cnul_0, cnul_1, drf_1, sm_1, sm_2, aI_e, aJ_e, wI_e, wJ_e, aL_e, cpI_e, cpJ_e, Nat.reduceLeDiff, Nat.reduceEqDiff, Nat.add_left_cancel_iff, ad0, ad1, false_and, and_false, true_and, and_true, reduceIte, if_true, if_false, zb0, zb1, Int32.reduceLT, Int32.reduceLE, i10, nw1, nw2, nt1, nt2, not_true_eq_false, not_false_eq_true, mt_78, mt_79, ml_79, mt_80, ml_80, mt_81, ml_81, mt_82, ml_82, mt_83, ml_83, mt_84, ml_84, mt_85, ml_85, mt_86, ml_86, mt_87, ml_87, mt_88, ml_88, mt_89, ml_89, mt_90, ml_90, mt_91, ml_91, mt_92, ml_92, mt_93, ml_93, mt_94, ml_94, mt_95, ml_95, mt_96, ml_96, mt_97, ml_97, mt_98, ml_98, mt_99, ml_99, mt_100, ml_100, mt_101, ml_101, mt_102, ml_102, mt_103, ml_103, mt_104, ml_104, mt_105, ml_105, mt_106, ml_106, mt_107, ml_107, mt_108, ml_108, mt_109, ml_109, mt_110, ml_110, mt_111, ml_111, mt_112, ml_112, mt_113, ml_113, mt_114, ml_114, mt_115, ml_115, mt_116, ml_116, mt_117, ml_117, mt_118, ml_118, mt_119, ml_119, mt_120, ml_120, mt_121, ml_121, mt_122, ml_122, mt_123, ml_123, gP_78_2, gP_78_3, gP_78_4, gP_78_5, gP_78_6, gP_78_12, gP_78_13, gP_78_14, gP_78_15, gP_78_16, gP_78_17, gP_78_18, gP_78_19, gP_78_23, gP_78_24, gP_78_26, gP_78_27, gP_78_28, gP_78_31, gP_78_32, gP_78_34, gP_78_35, gP_78_36, gP_78_37, gP_78_40, gP_78_41, gP_78_42, gP_78_43, gP_78_52, gP_78_53, gP_78_54, gP_78_55, gP_78_56, gP_78_57, gP_78_58, gP_78_59, gP_78_60, gP_78_61, gP_78_62, gP_78_63, gP_78_65, gP_78_66, gP_78_67, gP_78_68, gP_78_69, hS1, hS3]
      split <;> rfl
  · refine ⟨-1, M, M, G, ?_, ?_, h⟩
    · simp only [fn_X8_soon, fn_X5_walkerAt, w4, b1, mt_sI, mt_sJ, mt_sP, mt_rI, mt_rJ, ml_sI, ml_sJ, ml_sP, ml_rI, ml_rJ, mP_sI, mP_sJ, mP_rI, mP_rJ, SHP_sI, SHP_sJ, SHP_rI, SHP_rJ, mI_sI, mI_rI, mI_sJ, mI_rJ, mI_sP, mJ_sI, mJ_rI, mJ_sP, mJ_sJ, mJ_rJ, gI_e, pI_e, ck_e, bnd_s, nm_eq, pr2_e, cnul_0, cnul_1, drf_1, sm_1, sm_2, aI_e, aJ_e, wI_e, wJ_e, aL_e, cpI_e, cpJ_e, Nat.reduceLeDiff, Nat.reduceEqDiff, Nat.add_left_cancel_iff, ad0, ad1, false_and, and_false, true_and, and_true, reduceIte, if_true, if_false, zb0, zb1, Int32.reduceLT, Int32.reduceLE, i10, nw1, nw2, nt1, nt2, not_true_eq_false, not_false_eq_true, mt_0, mt_1, mt_2, mt_3, ml_3, mt_4, ml_4, mt_5, mt_6, ml_6, mt_7, ml_7, mt_8, ml_8, mt_9, mt_10, ml_10, mt_11, ml_11, mt_12, ml_12, mt_13, mt_14, ml_14, mt_15, ml_15, mt_16, ml_16, mt_17, mt_18, ml_18, mt_19, mt_20, ml_20, mt_21, mt_22, ml_22, mt_23, mt_24, ml_24, mt_25, mt_26, ml_26, mt_53, mt_54, ml_54, mt_55, ml_55, mt_56, mt_57, ml_57, mt_58, ml_58, mt_59, mt_60, ml_60, mt_61, mt_62, ml_62, mt_63, ml_63, mt_64, mt_65, ml_65, mt_66, mt_67, ml_67, mt_68, mt_69, ml_69, mt_70, mt_71, ml_71, mt_72, mt_73, ml_73, mt_74, mt_75, ml_75, mt_76, mt_77, ml_77, gP_0_0, gP_0_1, gP_0_4, gP_0_5, gP_0_6, gP_0_7, gP_0_8, gP_0_9, gP_1_0, gP_1_1, gP_1_4, gP_1_5, gP_1_6, gP_2_0, gP_5_1, gP_5_2, gP_5_3, gP_9_1, gP_9_2, gP_9_3, gP_13_1, gP_13_2, gP_13_3, gP_17_3, gP_19_3, gP_21_3, gP_23_3, gP_25_3, gP_53_0, gP_53_6, gP_56_0, gP_59_0, gP_61_3, gP_64_0, gP_66_2, gP_68_2, gP_70_2, gP_72_2, gP_74_2, gP_76_2, aP_4, mtw_4, mtl_4, mll_4, gPw_4, aP_58, mtw_58, mtl_58, mll_58, gPw_58, hS]
    · simp only [fn_X9_soon, fn_X9_isWalker, w5, b2, mt_sI, mt_sJ, mt_sP, mt_rI, mt_rJ, ml_sI, ml_sJ, ml_sP, ml_rI, ml_rJ, mP_sI, mP_sJ, mP_rI, mP_rJ, SHP_sI, SHP_sJ, SHP_rI, SHP_rJ, mI_sI, mI_rI, mI_sJ, mI_rJ, mI_sP, mJ_sI, mJ_rI, mJ_sP, mJ_sJ, mJ_rJ, gI_e, pI_e, ck_e, bnd_s, nm_eq, pr2_e, cnul_0, cnul_1, drf_1, sm_1, sm_2, aI_e, aJ_e, wI_e, wJ_e, aL_e, cpI_e, cpJ_e, Nat.reduceLeDiff, Nat.reduceEqDiff, Nat.add_left_cancel_iff, ad0, ad1, false_and, and_false, true_and, and_true, reduceIte, if_true, if_false, zb0, zb1, Int32.reduceLT, Int32.reduceLE, i10, nw1, nw2, nt1, nt2, not_true_eq_false, not_false_eq_true, mt_78, mt_79, ml_79, mt_80, ml_80, mt_81, ml_81, mt_82, ml_82, mt_83, ml_83, mt_84, ml_84, mt_85, ml_85, mt_86, ml_86, mt_87, ml_87, mt_88, ml_88, mt_89, ml_89, mt_90, ml_90, mt_91, ml_91, mt_92, ml_92, mt_93, ml_93, mt_94, ml_94, mt_95, ml_95, mt_96, ml_96, mt_97, ml_97, mt_98, ml_98, mt_99, ml_99, mt_100, ml_100, mt_101, ml_101, mt_102, ml_102, mt_103, ml_103, mt_104, ml_104, mt_105, ml_105, mt_106, ml_106, mt_107, ml_107, mt_108, ml_108, mt_109, ml_109, mt_110, ml_110, mt_111, ml_111, mt_112, ml_112, mt_113, ml_113, mt_114, ml_114, mt_115, ml_115, mt_116, ml_116, mt_117, ml_117, mt_118, ml_118, mt_119, ml_119, mt_120, ml_120, mt_121, ml_121, mt_122, ml_122, mt_123, ml_123, gP_78_2, gP_78_3, gP_78_4, gP_78_5, gP_78_6, gP_78_12, gP_78_13, gP_78_14, gP_78_15, gP_78_16, gP_78_17, gP_78_18, gP_78_19, gP_78_23, gP_78_24, gP_78_26, gP_78_27, gP_78_28, gP_78_31, gP_78_32, gP_78_34, gP_78_35, gP_78_36, gP_78_37, gP_78_40, gP_78_41, gP_78_42, gP_78_43, gP_78_52, gP_78_53, gP_78_54, gP_78_55, gP_78_56, gP_78_57, gP_78_58, gP_78_59, gP_78_60, gP_78_61, gP_78_62, gP_78_63, gP_78_65, gP_78_66, gP_78_67, gP_78_68, gP_78_69, hS]
