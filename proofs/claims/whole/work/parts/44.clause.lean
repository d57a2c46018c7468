/-! ===== the reference's clauses ===== -/
theorem nI_div {a b : Nat} (ha : a < 2 ^ 31) (hb : b < 2 ^ 31) : nI a / nI b = nI (a / b) := (Int32.ofNat_div ha hb).symm
/-- the clauses that hold: from place b0 on -/
def CUR (M : QM) (o b0 : Nat) (cl : List CLA) : Prop := (cl.length ≤ 10 ∧ b0 ≤ 50) ∧ ((cl = [] ∧ b0 = 0 ∧ mI M (o + 78) 8 = -1) ∨ ∃ b, b < 6 ∧ b0 = 10 * b ∧ mI M (o + 78) 8 = nI b ∧ mI M (o + 85) b = nI cl.length) ∧ ∀ i q, cl[i]? = some q → q.1 ≤ 3 ∧ q.2.1 ≤ 99 ∧ mI M (o + 86) (b0 + i) = nI q.1 ∧ mI M (o + 87) (b0 + i) = nI q.2.1 ∧ (q.1 ≤ 1 → ∃ f, q.2.2.length ≤ 100 ∧ f + q.2.2.length ≤ 600 ∧ mI M (o + 88) (b0 + i) = nI f ∧ mI M (o + 89) (b0 + i) = nI (f + q.2.2.length) ∧ ∀ k s, q.2.2[k]? = some s → (s ≤ 6002 ∧ mI M (o + 90) (f + k) = enc s))
section CU1
variable {M N : QM} {o : Nat} {G : GG} {b0 : Nat} {cl : List CLA}
theorem CUR.fr (h : CUR M o b0 cl) (hf : ∀ a k, fx a k = true → mI N (o + a) k = mI M (o + a) k) : CUR N o b0 cl := by
  have e : ∀ r, 85 ≤ r → r ≤ 90 → ∀ k, mI N (o + r) k = mI M (o + r) k := fun r r1 r2 k => hf r k (by unfold fx; simp [r1, r2])
  obtain ⟨h1, h2, h3⟩ := h
  refine ⟨h1, ?_, fun i q hq => ?_⟩
  · rw [hf 78 8 rfl]
    rcases h2 with h2 | ⟨b, q1, q2, q3, q4⟩
    · exact Or.inl h2
    · exact Or.inr ⟨b, q1, q2, q3, by rw [e 85 (by omega) (by omega)]; exact q4⟩
  · obtain ⟨z1, z2, z3, z4, z5⟩ := h3 i q hq
    refine ⟨z1, z2, by rw [e 86 (by omega) (by omega)]; exact z3, by rw [e 87 (by omega) (by omega)]; exact z4, fun w => ?_⟩
    obtain ⟨f, y1, y2, y3, y4, y5⟩ := z5 w
    exact ⟨f, y1, y2, by rw [e 88 (by omega) (by omega)]; exact y3, by rw [e 89 (by omega) (by omega)]; exact y4, fun k s hs => by rw [e 90 (by omega) (by omega)]; exact y5 k s hs⟩
theorem CUR.scr (h : CUR M o b0 cl) (hs : SC M N o) : CUR N o b0 cl := h.fr fun a k q => hs.2.2.2.2 a k (nsc (fx_scr q))
/-- what the brew that holds is worth -/
def gw (G : GG) : Nat → Int32 := G (50 + gN G 1 10)
theorem BRW.cur (h : BRW M o G) : ∃ b0 cl, CUR M o b0 cl ∧ CLV cl (gw G) := by
  obtain ⟨nb, e, e2, ⟨a1, a1', a1''⟩, ⟨a2, a2', a2''⟩, a3, a4, ⟨a5, a5'⟩, a6⟩ := h
  obtain ⟨b1, b2, cl, b3, b4, b5⟩ := a6 e a1'
  have he : gN G 1 10 = e := by unfold gN; rw [a2', nI_clamp (by omega)]
  have hg : gw G = G (50 + e) := by unfold gw; rw [he]
  cases e with
  | zero =>
    have := b4 rfl
    subst this
    refine ⟨0, [], ⟨⟨by decide, by decide⟩, Or.inl ⟨rfl, rfl, a5⟩, fun i q hq => by cases hq⟩, by rw [hg]; exact b3⟩
  | succ b =>
    obtain ⟨c1, c2, c3⟩ := b5 b rfl
    refine ⟨10 * b, cl, ⟨⟨c1, by omega⟩, Or.inr ⟨b, by omega, rfl, by rw [a5, nI_pred], c2⟩, fun i q hq => ?_⟩, by rw [hg]; exact b3⟩
    obtain ⟨z1, z2, z3, z4, z5⟩ := c3 i q hq
    refine ⟨z1, z2, z3, z4, fun w => ?_⟩
    obtain ⟨f, y1, y2, y3⟩ := z5 w
    exact ⟨f, y1, by omega, y3⟩
theorem begin_e (hS : SHP M o) (h : CUR M o b0 cl) : fn_X9_begin M (o + 78) = some (nI b0) := by
  obtain ⟨h1, h2, h3⟩ := h
  rcases h2 with ⟨-, rfl, h2⟩ | ⟨b, q1, rfl, q3, q4⟩
  · have f : ¬ (0 : Int32) ≤ -1 := by decide
    simp only [fn_X9_begin, h2, f, mt_sI, mt_sJ, mt_sP, mt_rI, mt_rJ, ml_sI, ml_sJ, ml_sP, ml_rI, ml_rJ, mP_sI, mP_sJ, mP_rI, mP_rJ, SHP_sI, SHP_sJ, SHP_rI, SHP_rJ, mI_sI, mI_rI, mI_sJ, mI_rJ, mI_sP, mJ_sI, mJ_rI, mJ_sP, mJ_sJ, mJ_rJ, gI_e, pI_e, ck_e, bnd_s, nm_eq, pr2_e, cnul_0, cnul_1, drf_1, sm_1, sm_2, aI_e, aJ_e, wI_e, wJ_e, aL_e, cpI_e, cpJ_e, Nat.reduceLeDiff, Nat.reduceEqDiff, Nat.add_left_cancel_iff, ad0, ad1, false_and, and_false, true_and, and_true, reduceIte, if_true, if_false, zb0, zb1, Int32.reduceLT, Int32.reduceLE, i10, nw1, nw2, nt1, nt2, not_true_eq_false, not_false_eq_true, mt_78, mt_79, ml_79, mt_80, ml_80, mt_81, ml_81, mt_82, ml_82, mt_83, ml_83, mt_84, ml_84, mt_85, ml_85, mt_86, ml_86, mt_87, ml_87, mt_88, ml_88, mt_89, ml_89, mt_90, ml_90, mt_91, ml_91, mt_92, ml_92, mt_93, ml_93, mt_94, ml_94, mt_95, ml_95, mt_96, ml_96, mt_97, ml_97, mt_98, ml_98, mt_99, ml_99, mt_100, ml_100, mt_101, ml_101, mt_102, ml_102, mt_103, ml_103, mt_104, ml_104, mt_105, ml_105, mt_106, ml_106, mt_107, ml_107, mt_108, ml_108, mt_109, ml_109, mt_110, ml_110, mt_111, ml_111, mt_112, ml_112, mt_113, ml_113, mt_114, ml_114, mt_115, ml_115, mt_116, ml_116, mt_117, ml_117, mt_118, ml_118, mt_119, ml_119, mt_120, ml_120, mt_121, ml_121, mt_122, ml_122, mt_123, ml_123, gP_78_2, gP_78_3, gP_78_4, gP_78_5, gP_78_6, gP_78_12, gP_78_13, gP_78_14, gP_78_15, gP_78_16, gP_78_17, gP_78_18, gP_78_19, gP_78_23, gP_78_24, gP_78_26, gP_78_27, gP_78_28, gP_78_31, gP_78_32, gP_78_34, gP_78_35, gP_78_36, gP_78_37, gP_78_40, gP_78_41, gP_78_42, gP_78_43, gP_78_52, gP_78_53, gP_78_54, gP_78_55, gP_78_56, gP_78_57, gP_78_58, gP_78_59, gP_78_60, gP_78_61, gP_78_62, gP_78_63, gP_78_65, gP_78_66, gP_78_67, gP_78_68, gP_78_69, hS]
    rfl
  · have f : 0 ≤ nI b := nI_pos' (by omega)
    have e : (10 : Int32) * nI b = nI (10 * b) := nI_mul 10 b
    simp only [fn_X9_begin, q3, f, e, mt_sI, mt_sJ, mt_sP, mt_rI, mt_rJ, ml_sI, ml_sJ, ml_sP, ml_rI, ml_rJ, mP_sI, mP_sJ, mP_rI, mP_rJ, SHP_sI, SHP_sJ, SHP_rI, SHP_rJ, mI_sI, mI_rI, mI_sJ, mI_rJ, mI_sP, mJ_sI, mJ_rI, mJ_sP, mJ_sJ, mJ_rJ, gI_e, pI_e, ck_e, bnd_s, nm_eq, pr2_e, cnul_0, cnul_1, drf_1, sm_1, sm_2, aI_e, aJ_e, wI_e, wJ_e, aL_e, cpI_e, cpJ_e, Nat.reduceLeDiff, Nat.reduceEqDiff, Nat.add_left_cancel_iff, ad0, ad1, false_and, and_false, true_and, and_true, reduceIte, if_true, if_false, zb0, zb1, Int32.reduceLT, Int32.reduceLE, i10, nw1, nw2, nt1, nt2, not_true_eq_false, not_false_eq_true, mt_78, mt_79, ml_79, mt_80, ml_80, mt_81, ml_81, mt_82, ml_82, mt_83, ml_83, mt_84, ml_84, mt_85, ml_85, mt_86, ml_86, mt_87, ml_87, mt_88, ml_88, mt_89, ml_89, mt_90, ml_90, mt_91, ml_91, mt_92, ml_92, mt_93, ml_93, mt_94, ml_94, mt_95, ml_95, mt_96, ml_96, mt_97, ml_97, mt_98, ml_98, mt_99, ml_99, mt_100, ml_100, mt_101, ml_101, mt_102, ml_102, mt_103, ml_103, mt_104, ml_104, mt_105, ml_105, mt_106, ml_106, mt_107, ml_107, mt_108, ml_108, mt_109, ml_109, mt_110, ml_110, mt_111, ml_111, mt_112, ml_112, mt_113, ml_113, mt_114, ml_114, mt_115, ml_115, mt_116, ml_116, mt_117, ml_117, mt_118, ml_118, mt_119, ml_119, mt_120, ml_120, mt_121, ml_121, mt_122, ml_122, mt_123, ml_123, gP_78_2, gP_78_3, gP_78_4, gP_78_5, gP_78_6, gP_78_12, gP_78_13, gP_78_14, gP_78_15, gP_78_16, gP_78_17, gP_78_18, gP_78_19, gP_78_23, gP_78_24, gP_78_26, gP_78_27, gP_78_28, gP_78_31, gP_78_32, gP_78_34, gP_78_35, gP_78_36, gP_78_37, gP_78_40, gP_78_41, gP_78_42, gP_78_43, gP_78_52, gP_78_53, gP_78_54, gP_78_55, gP_78_56, gP_78_57, gP_78_58, gP_78_59, gP_78_60, gP_78_61, gP_78_62, gP_78_63, gP_78_65, gP_78_66, gP_78_67, gP_78_68, gP_78_69, hS]
theorem behind_e (hS : SHP M o) (h : CUR M o b0 cl) : fn_X9_behind M (o + 78) = some (nI (b0 + cl.length)) := by
  obtain ⟨h1, h2, h3⟩ := h
  rcases h2 with ⟨rfl, rfl, h2⟩ | ⟨b, q1, rfl, q3, q4⟩
  · have f : ¬ (0 : Int32) ≤ -1 := by decide
    simp only [fn_X9_behind, h2, f, mt_sI, mt_sJ, mt_sP, mt_rI, mt_rJ, ml_sI, ml_sJ, ml_sP, ml_rI, ml_rJ, mP_sI, mP_sJ, mP_rI, mP_rJ, SHP_sI, SHP_sJ, SHP_rI, SHP_rJ, mI_sI, mI_rI, mI_sJ, mI_rJ, mI_sP, mJ_sI, mJ_rI, mJ_sP, mJ_sJ, mJ_rJ, gI_e, pI_e, ck_e, bnd_s, nm_eq, pr2_e, cnul_0, cnul_1, drf_1, sm_1, sm_2, aI_e, aJ_e, wI_e, wJ_e, aL_e, cpI_e, cpJ_e, Nat.reduceLeDiff, Nat.reduceEqDiff, Nat.add_left_cancel_iff, ad0, ad1, false_and, and_false, true_and, and_true, reduceIte, if_true, if_false, zb0, zb1, Int32.reduceLT, Int32.reduceLE, i10, nw1, nw2, nt1, nt2, not_true_eq_false, not_false_eq_true, mt_78, mt_79, ml_79, mt_80, ml_80, mt_81, ml_81, mt_82, ml_82, mt_83, ml_83, mt_84, ml_84, mt_85, ml_85, mt_86, ml_86, mt_87, ml_87, mt_88, ml_88, mt_89, ml_89, mt_90, ml_90, mt_91, ml_91, mt_92, ml_92, mt_93, ml_93, mt_94, ml_94, mt_95, ml_95, mt_96, ml_96, mt_97, ml_97, mt_98, ml_98, mt_99, ml_99, mt_100, ml_100, mt_101, ml_101, mt_102, ml_102, mt_103, ml_103, mt_104, ml_104, mt_105, ml_105, mt_106, ml_106, mt_107, ml_107, mt_108, ml_108, mt_109, ml_109, mt_110, ml_110, mt_111, ml_111, mt_112, ml_112, mt_113, ml_113, mt_114, ml_114, mt_115, ml_115, mt_116, ml_116, mt_117, ml_117, mt_118, ml_118, mt_119, ml_119, mt_120, ml_120, mt_121, ml_121, mt_122, ml_122, mt_123, ml_123, gP_78_2, gP_78_3, gP_78_4, gP_78_5, gP_78_6, gP_78_12, gP_78_13, gP_78_14, gP_78_15, gP_78_16, gP_78_17, gP_78_18, gP_78_19, gP_78_23, gP_78_24, gP_78_26, gP_78_27, gP_78_28, gP_78_31, gP_78_32, gP_78_34, gP_78_35, gP_78_36, gP_78_37, gP_78_40, gP_78_41, gP_78_42, gP_78_43, gP_78_52, gP_78_53, gP_78_54, gP_78_55, gP_78_56, gP_78_57, gP_78_58, gP_78_59, gP_78_60, gP_78_61, gP_78_62, gP_78_63, gP_78_65, gP_78_66, gP_78_67, gP_78_68, gP_78_69, hS]
    rfl
  · have f : 0 ≤ nI b := nI_pos' (by omega)
    have e : (10 : Int32) * nI b = nI (10 * b) := nI_mul 10 b
    simp only [fn_X9_behind, q3, q4, f, e, nI_add, mt_sI, mt_sJ, mt_sP, mt_rI, mt_rJ, ml_sI, ml_sJ, ml_sP, ml_rI, ml_rJ, mP_sI, mP_sJ, mP_rI, mP_rJ, SHP_sI, SHP_sJ, SHP_rI, SHP_rJ, mI_sI, mI_rI, mI_sJ, mI_rJ, mI_sP, mJ_sI, mJ_rI, mJ_sP, mJ_sJ, mJ_rJ, gI_e, pI_e, ck_e, bnd_s, nm_eq, pr2_e, cnul_0, cnul_1, drf_1, sm_1, sm_2, aI_e, aJ_e, wI_e, wJ_e, aL_e, cpI_e, cpJ_e, Nat.reduceLeDiff, Nat.reduceEqDiff, Nat.add_left_cancel_iff, ad0, ad1, false_and, and_false, true_and, and_true, reduceIte, if_true, if_false, zb0, zb1, Int32.reduceLT, Int32.reduceLE, i10, nw1, nw2, nt1, nt2, not_true_eq_false, not_false_eq_true, mt_78, mt_79, ml_79, mt_80, ml_80, mt_81, ml_81, mt_82, ml_82, mt_83, ml_83, mt_84, ml_84, mt_85, ml_85, mt_86, ml_86, mt_87, ml_87, mt_88, ml_88, mt_89, ml_89, mt_90, ml_90, mt_91, ml_91, mt_92, ml_92, mt_93, ml_93, mt_94, ml_94, mt_95, ml_95, mt_96, ml_96, mt_97, ml_97, mt_98, ml_98, mt_99, ml_99, mt_100, ml_100, mt_101, ml_101, mt_102, ml_102, mt_103, ml_103, mt_104, ml_104, mt_105, ml_105, mt_106, ml_106, mt_107, ml_107, mt_108, ml_108, mt_109, ml_109, mt_110, ml_110, mt_111, ml_111, mt_112, ml_112, mt_113, ml_113, mt_114, ml_114, mt_115, ml_115, mt_116, ml_116, mt_117, ml_117, mt_118, ml_118, mt_119, ml_119, mt_120, ml_120, mt_121, ml_121, mt_122, ml_122, mt_123, ml_123, gP_78_2, gP_78_3, gP_78_4, gP_78_5, gP_78_6, gP_78_12, gP_78_13, gP_78_14, gP_78_15, gP_78_16, gP_78_17, gP_78_18, gP_78_19, gP_78_23, gP_78_24, gP_78_26, gP_78_27, gP_78_28, gP_78_31, gP_78_32, gP_78_34, gP_78_35, gP_78_36, gP_78_37, gP_78_40, gP_78_41, gP_78_42, gP_78_43, gP_78_52, gP_78_53, gP_78_54, gP_78_55, gP_78_56, gP_78_57, gP_78_58, gP_78_59, gP_78_60, gP_78_61, gP_78_62, gP_78_63, gP_78_65, gP_78_66, gP_78_67, gP_78_68, gP_78_69, hS, q1]
theorem drop_c {α : Type} {l : List α} {k : Nat} {q : α} (h : l[k]? = some q) : l.drop k = q :: l.drop (k + 1) := by
  obtain ⟨h1, h2⟩ := List.getElem?_eq_some_iff.mp h
  rw [List.drop_eq_getElem_cons h1, h2]
set_option maxHeartbeats 1000000 in
theorem lastOf_e (hS : SHP M o) (h : CUR M o b0 cl) (w z : Nat) (hw : w < 4) : fn_X9_lastOf M (o + 78) (nI w) (nI z) = some (nI (laV w cl z)) := by
  have hb := behind_e hS h
  have h1 := h.1
  have loop := itr_J (f := fun s8 : Int32 × Int32 => lp_X9_lastOf_8 M (o + 78) (nI w) s8.1 s8.2) (s0 := (nI z, nI b0)) (fun k s => ∃ v, s = (nI v, nI (b0 + k)) ∧ k ≤ cl.length ∧ laV w (cl.drop k) v = laV w cl z) (fun r => r = nI (laV w cl z)) 10 ⟨z, rfl, Nat.zero_le _, by rw [List.drop_zero]⟩
    (fun k s hs => by
      obtain ⟨v, rfl, hk, hv⟩ := hs
      show (∃ r, lp_X9_lastOf_8 M (o + 78) (nI w) (nI v) (nI (b0 + k)) = some (.inr r) ∧ _) ∨ _ ∧ ∃ s', lp_X9_lastOf_8 M (o + 78) (nI w) (nI v) (nI (b0 + k)) = some (.inl s') ∧ _
      by_cases e : k = cl.length
      · left
        have f : nI (b0 + cl.length) ≤ nI (b0 + k) := nI_le (by omega) (by omega)
        refine ⟨nI v, ?_, ?_⟩
        · simp only [lp_X9_lastOf_8, hb, f, Nat.reduceLeDiff, Nat.reduceEqDiff, Nat.add_left_cancel_iff, ad0, ad1, false_and, and_false, true_and, and_true, reduceIte, if_true, if_false, zb0, zb1, Int32.reduceLT, Int32.reduceLE, i10, nw1, nw2, nt1, nt2, not_true_eq_false, not_false_eq_true, gI_e, pI_e, ck_e, bnd_s, nm_eq, pr2_e, cnul_0, cnul_1, drf_1, sm_1, sm_2, aI_e, aJ_e, wI_e, wJ_e, aL_e, cpI_e, cpJ_e]
        · rw [← hv, e, List.drop_length]; rfl
      · right
        have hk' : k < cl.length := by omega
        have f : ¬ nI (b0 + cl.length) ≤ nI (b0 + k) := by rw [nI_leI (by omega) (by omega)]; omega
        obtain ⟨q, hq⟩ : ∃ q, cl[k]? = some q := ⟨_, List.getElem?_eq_getElem hk'⟩
        obtain ⟨z1, z2, z3, z4, z5⟩ := h.2.2 k q hq
        rw [drop_c hq] at hv
        have hi : b0 + k < 60 := by omega
        refine ⟨by omega, ?_⟩
        by_cases c : q.1 = w
        · refine ⟨(nI q.2.1, nI (b0 + (k + 1))), ?_, q.2.1, rfl, by omega, by rw [← hv]; show _ = laV w _ (if q.1 = w then q.2.1 else v); rw [if_pos c]⟩
          have f2 : nI q.1 = nI w := by rw [c]
          simp only [lp_X9_lastOf_8, hb, f, f2, z3, z4, nI_1, mt_sI, mt_sJ, mt_sP, mt_rI, mt_rJ, ml_sI, ml_sJ, ml_sP, ml_rI, ml_rJ, mP_sI, mP_sJ, mP_rI, mP_rJ, SHP_sI, SHP_sJ, SHP_rI, SHP_rJ, mI_sI, mI_rI, mI_sJ, mI_rJ, mI_sP, mJ_sI, mJ_rI, mJ_sP, mJ_sJ, mJ_rJ, gI_e, pI_e, ck_e, bnd_s, nm_eq, pr2_e, cnul_0, cnul_1, drf_1, sm_1, sm_2, aI_e, aJ_e, wI_e, wJ_e, aL_e, cpI_e, cpJ_e, Nat.reduceLeDiff, Nat.reduceEqDiff, Nat.add_left_cancel_iff, ad0, ad1, false_and, and_false, true_and, and_true, reduceIte, if_true, if_false, zb0, zb1, Int32.reduceLT, Int32.reduceLE, i10, nw1, nw2, nt1, nt2, not_true_eq_false, not_false_eq_true, mt_78, mt_79, ml_79, mt_80, ml_80, mt_81, ml_81, mt_82, ml_82, mt_83, ml_83, mt_84, ml_84, mt_85, ml_85, mt_86, ml_86, mt_87, ml_87, mt_88, ml_88, mt_89, ml_89, mt_90, ml_90, mt_91, ml_91, mt_92, ml_92, mt_93, ml_93, mt_94, ml_94, mt_95, ml_95, mt_96, ml_96, mt_97, ml_97, mt_98, ml_98, mt_99, ml_99, mt_100, ml_100, mt_101, ml_101, mt_102, ml_102, mt_103, ml_103, mt_104, ml_104, mt_105, ml_105, mt_106, ml_106, mt_107, ml_107, mt_108, ml_108, mt_109, ml_109, mt_110, ml_110, mt_111, ml_111, mt_112, ml_112, mt_113, ml_113, mt_114, ml_114, mt_115, ml_115, mt_116, ml_116, mt_117, ml_117, mt_118, ml_118, mt_119, ml_119, mt_120, ml_120, mt_121, ml_121, mt_122, ml_122, mt_123, ml_123, gP_78_2, gP_78_3, gP_78_4, gP_78_5, gP_78_6, gP_78_12, gP_78_13, gP_78_14, gP_78_15, gP_78_16, gP_78_17, gP_78_18, gP_78_19, gP_78_23, gP_78_24, gP_78_26, gP_78_27, gP_78_28, gP_78_31, gP_78_32, gP_78_34, gP_78_35, gP_78_36, gP_78_37, gP_78_40, gP_78_41, gP_78_42, gP_78_43, gP_78_52, gP_78_53, gP_78_54, gP_78_55, gP_78_56, gP_78_57, gP_78_58, gP_78_59, gP_78_60, gP_78_61, gP_78_62, gP_78_63, gP_78_65, gP_78_66, gP_78_67, gP_78_68, gP_78_69, hS, hi]
          rfl
        · refine ⟨(nI v, nI (b0 + (k + 1))), ?_, v, rfl, by omega, by rw [← hv]; show _ = laV w _ (if q.1 = w then q.2.1 else v); rw [if_neg c]⟩
          have f2 : ¬ nI q.1 = nI w := by rw [nI_eq (by omega) (by omega)]; exact c
          simp only [lp_X9_lastOf_8, hb, f, f2, z3, nI_1, mt_sI, mt_sJ, mt_sP, mt_rI, mt_rJ, ml_sI, ml_sJ, ml_sP, ml_rI, ml_rJ, mP_sI, mP_sJ, mP_rI, mP_rJ, SHP_sI, SHP_sJ, SHP_rI, SHP_rJ, mI_sI, mI_rI, mI_sJ, mI_rJ, mI_sP, mJ_sI, mJ_rI, mJ_sP, mJ_sJ, mJ_rJ, gI_e, pI_e, ck_e, bnd_s, nm_eq, pr2_e, cnul_0, cnul_1, drf_1, sm_1, sm_2, aI_e, aJ_e, wI_e, wJ_e, aL_e, cpI_e, cpJ_e, Nat.reduceLeDiff, Nat.reduceEqDiff, Nat.add_left_cancel_iff, ad0, ad1, false_and, and_false, true_and, and_true, reduceIte, if_true, if_false, zb0, zb1, Int32.reduceLT, Int32.reduceLE, i10, nw1, nw2, nt1, nt2, not_true_eq_false, not_false_eq_true, mt_78, mt_79, ml_79, mt_80, ml_80, mt_81, ml_81, mt_82, ml_82, mt_83, ml_83, mt_84, ml_84, mt_85, ml_85, mt_86, ml_86, mt_87, ml_87, mt_88, ml_88, mt_89, ml_89, mt_90, ml_90, mt_91, ml_91, mt_92, ml_92, mt_93, ml_93, mt_94, ml_94, mt_95, ml_95, mt_96, ml_96, mt_97, ml_97, mt_98, ml_98, mt_99, ml_99, mt_100, ml_100, mt_101, ml_101, mt_102, ml_102, mt_103, ml_103, mt_104, ml_104, mt_105, ml_105, mt_106, ml_106, mt_107, ml_107, mt_108, ml_108, mt_109, ml_109, mt_110, ml_110, mt_111, ml_111, mt_112, ml_112, mt_113, ml_113, mt_114, ml_114, mt_115, ml_115, mt_116, ml_116, mt_117, ml_117, mt_118, ml_118, mt_119, ml_119, mt_120, ml_120, mt_121, ml_121, mt_122, ml_122, mt_123, ml_123, gP_78_2, gP_78_3, gP_78_4, gP_78_5, gP_78_6, gP_78_12, gP_78_13, gP_78_14, gP_78_15, gP_78_16, gP_78_17, gP_78_18, gP_78_19, gP_78_23, gP_78_24, gP_78_26, gP_78_27, gP_78_28, gP_78_31, gP_78_32, gP_78_34, gP_78_35, gP_78_36, gP_78_37, gP_78_40, gP_78_41, gP_78_42, gP_78_43, gP_78_52, gP_78_53, gP_78_54, gP_78_55, gP_78_56, gP_78_57, gP_78_58, gP_78_59, gP_78_60, gP_78_61, gP_78_62, gP_78_63, gP_78_65, gP_78_66, gP_78_67, gP_78_68, gP_78_69, hS, hi]
          rfl) (by decide)
  obtain ⟨r, h2, h3⟩ := loop
  unfold fn_X9_lastOf
  rw [bnd_e (begin_e hS h), bnd_e h2, h3]
theorem spoon_e (hS : SHP M o) (hB : BRW M o G) : fn_X9_spoon M (o + 78) = some (if 16 ≤ gw G 1600 then -5 else gw G 1600) := by
  obtain ⟨b0, cl, h1, h2⟩ := hB.cur
  have := lastOf_e hS h1 2 99 (by decide)
  unfold fn_X9_spoon
  show bnd (fn_X9_lastOf M (o + 78) (nI 2) (nI 99)) _ = _
  rw [bnd_e this, ← h2.2.1]
  split <;> rfl
theorem milk_e (hS : SHP M o) (hB : BRW M o G) : fn_X9_lastOf M (o + 78) 3 10 = some (gw G 1601) := by
  obtain ⟨b0, cl, h1, h2⟩ := hB.cur
  have := lastOf_e hS h1 3 10 (by decide)
  rw [h2.2.2]
  exact this
theorem lastOf2_e (hS : SHP M o) (hB : BRW M o G) : fn_X9_lastOf M (o + 78) 2 99 = some (gw G 1600) := by
  obtain ⟨b0, cl, h1, h2⟩ := hB.cur
  have := lastOf_e hS h1 2 99 (by decide)
  rw [h2.2.1]
  exact this
/-! what an E says of a cell -/
theorem nI_mod {a : Nat} (b : Nat) (ha : a < 2 ^ 31) (hb : b < 2 ^ 31) : nI a - nI a / nI b * nI b = nI (a % b) := by
  have h : a / b * b ≤ a := Nat.div_mul_le_self a b
  rw [nI_div ha hb, nI_mul, nI_sub h]
  congr 1
  have := Nat.div_add_mod a b
  rw [Nat.mul_comm] at this
  omega
def FV (S : Nat → Int32) (m : Nat) (M : QM) (o : Nat) : Prop := (∀ c, c < 16 → mI M (o + 79) c = S c) ∧ mI M (o + 78) 1 = nI m ∧ (∀ c, c < 16 → bd (S c) 99) ∧ m ≤ 20000
def sT (S : Nat → Int32) (c : Nat) : Nat := (S c).toNatClampNeg / 10
theorem bd_e {x : Int32} {n : Nat} (h : bd x n) (hn : n < 2 ^ 31) : x = nI x.toNatClampNeg ∧ x.toNatClampNeg ≤ n := by
  obtain ⟨k, h1, rfl⟩ := h
  rw [nI_clamp (by omega)]
  exact ⟨rfl, h1⟩
set_option maxHeartbeats 1000000 in
theorem factOf_e {S : Nat → Int32} {m f c : Nat} (hS : SHP M o) (hF : FV S m M o) (hc : c < 16) (hf : f ≤ 6) : fn_X9_factOf M (o + 78) (nI f) (nI c) = some (nI (factV f c (sT S c) (m % 10))) := by
  obtain ⟨h1, h2, h3, h4⟩ := hF
  have d4 : nI c / 4 = nI (c / 4) := nI_div (b := 4) (by omega) (by decide)
  have m4 : nI c - nI (c / 4) * 4 = nI (c % 4) := by rw [← d4]; exact nI_mod 4 (by omega) (by decide)
  have d3 : nI (c / 4) / 3 = nI (c / 4 / 3) := nI_div (b := 3) (by omega) (by decide)
  have m3 : nI (c / 4) - nI (c / 4 / 3) * 3 = nI (c / 4 % 3) := by rw [← d3]; exact nI_mod 3 (by omega) (by decide)
  have d3' : nI (c % 4) / 3 = nI (c % 4 / 3) := nI_div (b := 3) (by omega) (by decide)
  have m3' : nI (c % 4) - nI (c % 4 / 3) * 3 = nI (c % 4 % 3) := by rw [← d3']; exact nI_mod 3 (by omega) (by decide)
  have d10 : nI m / 10 = nI (m / 10) := nI_div (b := 10) (by omega) (by decide)
  have m10 : nI m - nI (m / 10) * 10 = nI (m % 10) := by rw [← d10]; exact nI_mod 10 (by omega) (by decide)
  have s1 : S c / 10 = nI (sT S c) := by
    obtain ⟨q1, q2⟩ := bd_e (h3 c hc) (by decide)
    unfold sT
    obtain ⟨s, hs⟩ : ∃ s, s = (S c).toNatClampNeg := ⟨_, rfl⟩
    rw [← hs] at q1 q2 ⊢
    rw [q1]
    exact nI_div (b := 10) (by omega) (by decide)
  have g1 := h1 c hc
  have z0 : nI (c / 4 % 3) = 0 ↔ c / 4 % 3 = 0 := nIeq0 (by omega)
  have z1 : nI (c % 4 % 3) = 0 ↔ c % 4 % 3 = 0 := nIeq0 (by omega)
  have ne : ∀ x, x ≤ 6 → ∀ y, y ≤ 6 → ¬ x = y → ¬ nI x = nI y := fun x hx y hy q z => q ((nI_eq (by omega) (by omega)).mp z)
  unfold fn_X9_factOf
  show (if nI f = nI 0 then _ else if nI f = nI 1 then _ else if nI f = nI 2 then _ else if nI f = nI 3 then _ else if nI f = nI 4 then _ else _) = _
  by_cases e0 : f = 0
  · rw [if_pos (by rw [e0]), e0]; rfl
  rw [if_neg (ne f hf 0 (by decide) e0)]
  by_cases e1 : f = 1
  · rw [if_pos (by rw [e1]), e1, d4]; rfl
  rw [if_neg (ne f hf 1 (by decide) e1)]
  by_cases e2 : f = 2
  · rw [if_pos (by rw [e2]), e2, d4, m4]; rfl
  rw [if_neg (ne f hf 2 (by decide) e2)]
  by_cases e3 : f = 3
  · rw [if_pos (by rw [e3]), e3]
    simp only [g1, s1, mt_sI, mt_sJ, mt_sP, mt_rI, mt_rJ, ml_sI, ml_sJ, ml_sP, ml_rI, ml_rJ, mP_sI, mP_sJ, mP_rI, mP_rJ, SHP_sI, SHP_sJ, SHP_rI, SHP_rJ, mI_sI, mI_rI, mI_sJ, mI_rJ, mI_sP, mJ_sI, mJ_rI, mJ_sP, mJ_sJ, mJ_rJ, gI_e, pI_e, ck_e, bnd_s, nm_eq, pr2_e, cnul_0, cnul_1, drf_1, sm_1, sm_2, aI_e, aJ_e, wI_e, wJ_e, aL_e, cpI_e, cpJ_e, Nat.reduceLeDiff, Nat.reduceEqDiff, Nat.add_left_cancel_iff, ad0, ad1, false_and, and_false, true_and, and_true, reduceIte, if_true, if_false, zb0, zb1, Int32.reduceLT, Int32.reduceLE, i10, nw1, nw2, nt1, nt2, not_true_eq_false, not_false_eq_true, mt_78, mt_79, ml_79, mt_80, ml_80, mt_81, ml_81, mt_82, ml_82, mt_83, ml_83, mt_84, ml_84, mt_85, ml_85, mt_86, ml_86, mt_87, ml_87, mt_88, ml_88, mt_89, ml_89, mt_90, ml_90, mt_91, ml_91, mt_92, ml_92, mt_93, ml_93, mt_94, ml_94, mt_95, ml_95, mt_96, ml_96, mt_97, ml_97, mt_98, ml_98, mt_99, ml_99, mt_100, ml_100, mt_101, ml_101, mt_102, ml_102, mt_103, ml_103, mt_104, ml_104, mt_105, ml_105, mt_106, ml_106, mt_107, ml_107, mt_108, ml_108, mt_109, ml_109, mt_110, ml_110, mt_111, ml_111, mt_112, ml_112, mt_113, ml_113, mt_114, ml_114, mt_115, ml_115, mt_116, ml_116, mt_117, ml_117, mt_118, ml_118, mt_119, ml_119, mt_120, ml_120, mt_121, ml_121, mt_122, ml_122, mt_123, ml_123, gP_78_2, gP_78_3, gP_78_4, gP_78_5, gP_78_6, gP_78_12, gP_78_13, gP_78_14, gP_78_15, gP_78_16, gP_78_17, gP_78_18, gP_78_19, gP_78_23, gP_78_24, gP_78_26, gP_78_27, gP_78_28, gP_78_31, gP_78_32, gP_78_34, gP_78_35, gP_78_36, gP_78_37, gP_78_40, gP_78_41, gP_78_42, gP_78_43, gP_78_52, gP_78_53, gP_78_54, gP_78_55, gP_78_56, gP_78_57, gP_78_58, gP_78_59, gP_78_60, gP_78_61, gP_78_62, gP_78_63, gP_78_65, gP_78_66, gP_78_67, gP_78_68, gP_78_69, hS, hc]
    rfl
  rw [if_neg (ne f hf 3 (by decide) e3)]
  by_cases e4 : f = 4
  · rw [if_pos (by rw [e4]), e4, d4, m4, d3, m3, d3', m3']
    show _ = some (nI (if c / 4 % 3 = 0 ∨ c % 4 % 3 = 0 then 1 else 0))
    by_cases q : c / 4 % 3 = 0
    · rw [if_pos (z0.mpr q), if_pos (Or.inl q)]; rfl
    · rw [if_neg (fun y => q (z0.mp y))]
      by_cases q2 : c % 4 % 3 = 0
      · rw [if_pos (z1.mpr q2), if_pos (Or.inr q2)]; rfl
      · rw [if_neg (fun y => q2 (z1.mp y)), if_neg (by omega)]; rfl
  rw [if_neg (ne f hf 4 (by decide) e4)]
  have fv : factV f c (sT S c) (m % 10) = m % 10 := by
    rcases (by omega : f = 5 ∨ f = 6) with rfl | rfl <;> rfl
  simp only [h2, d10, m10, fv, mt_sI, mt_sJ, mt_sP, mt_rI, mt_rJ, ml_sI, ml_sJ, ml_sP, ml_rI, ml_rJ, mP_sI, mP_sJ, mP_rI, mP_rJ, SHP_sI, SHP_sJ, SHP_rI, SHP_rJ, mI_sI, mI_rI, mI_sJ, mI_rJ, mI_sP, mJ_sI, mJ_rI, mJ_sP, mJ_sJ, mJ_rJ, gI_e, pI_e, ck_e, bnd_s, nm_eq, pr2_e, cnul_0, cnul_1, drf_1, sm_1, sm_2, aI_e, aJ_e, wI_e, wJ_e, aL_e, cpI_e, cpJ_e, Nat.reduceLeDiff, Nat.reduceEqDiff, Nat.add_left_cancel_iff, ad0, ad1, false_and, and_false, true_and, and_true, reduceIte, if_true, if_false, zb0, zb1, Int32.reduceLT, Int32.reduceLE, i10, nw1, nw2, nt1, nt2, not_true_eq_false, not_false_eq_true, mt_78, mt_79, ml_79, mt_80, ml_80, mt_81, ml_81, mt_82, ml_82, mt_83, ml_83, mt_84, ml_84, mt_85, ml_85, mt_86, ml_86, mt_87, ml_87, mt_88, ml_88, mt_89, ml_89, mt_90, ml_90, mt_91, ml_91, mt_92, ml_92, mt_93, ml_93, mt_94, ml_94, mt_95, ml_95, mt_96, ml_96, mt_97, ml_97, mt_98, ml_98, mt_99, ml_99, mt_100, ml_100, mt_101, ml_101, mt_102, ml_102, mt_103, ml_103, mt_104, ml_104, mt_105, ml_105, mt_106, ml_106, mt_107, ml_107, mt_108, ml_108, mt_109, ml_109, mt_110, ml_110, mt_111, ml_111, mt_112, ml_112, mt_113, ml_113, mt_114, ml_114, mt_115, ml_115, mt_116, ml_116, mt_117, ml_117, mt_118, ml_118, mt_119, ml_119, mt_120, ml_120, mt_121, ml_121, mt_122, ml_122, mt_123, ml_123, gP_78_2, gP_78_3, gP_78_4, gP_78_5, gP_78_6, gP_78_12, gP_78_13, gP_78_14, gP_78_15, gP_78_16, gP_78_17, gP_78_18, gP_78_19, gP_78_23, gP_78_24, gP_78_26, gP_78_27, gP_78_28, gP_78_31, gP_78_32, gP_78_34, gP_78_35, gP_78_36, gP_78_37, gP_78_40, gP_78_41, gP_78_42, gP_78_43, gP_78_52, gP_78_53, gP_78_54, gP_78_55, gP_78_56, gP_78_57, gP_78_58, gP_78_59, gP_78_60, gP_78_61, gP_78_62, gP_78_63, gP_78_65, gP_78_66, gP_78_67, gP_78_68, gP_78_69, hS]
end CU1
