/-! ===== the reference's clauses and its text ===== -/
theorem pW_app {P : Nat → Nat} {w2 : List Nat} : ∀ (w1 : List Nat) (p : Nat), pW P (w1 ++ w2) p = match pW P w1 p with | .inl q => .inl q | .inr q => pW P w2 q
  | [], _ => rfl
  | c :: r, p => by
    have e1 : pW P ((c :: r) ++ w2) p = if P p = c then pW P (r ++ w2) (p + 1) else .inl p := rfl
    have e2 : pW P (c :: r) p = if P p = c then pW P r (p + 1) else .inl p := rfl
    rw [e1, e2]
    by_cases e : P p = c
    · rw [if_pos e, if_pos e]; exact pW_app r (p + 1)
    · rw [if_neg e, if_neg e]
/-- a clause's row stands -/
def ROW (N : QM) (o c lim : Nat) (q : CLA) : Prop := q.1 ≤ 3 ∧ q.2.1 ≤ 99 ∧ mI N (o + 86) c = nI q.1 ∧ mI N (o + 87) c = nI q.2.1 ∧ (q.1 ≤ 1 → ∃ f, q.2.2.length ≤ 100 ∧ f + q.2.2.length ≤ lim ∧ mI N (o + 88) c = nI f ∧ mI N (o + 89) c = nI (f + q.2.2.length) ∧ ∀ k s, q.2.2[k]? = some s → (s ≤ 6002 ∧ mI N (o + 90) (f + k) = enc s))
def Zcm (c f : Nat) : Nat → Nat → Prop := fun a k => (a = 78 ∧ (k = 10 ∨ k = 11 ∨ k = 20 ∨ k = 21 ∨ k = 22)) ∨ ((86 ≤ a ∧ a ≤ 89) ∧ k = c) ∨ (a = 90 ∧ f ≤ k) ∨ a = 91
def Zgm (b n f : Nat) : Nat → Nat → Prop := fun a k => (a = 78 ∧ (k = 10 ∨ k = 11 ∨ k = 20 ∨ k = 21 ∨ k = 22)) ∨ (a = 85 ∧ k = b) ∨ ((86 ≤ a ∧ a ≤ 89) ∧ 10 * b + n ≤ k) ∨ (a = 90 ∧ f ≤ k) ∨ a = 91
abbrev lpT (o b : Nat) : Int32 × QM → Option ((Int32 × QM) ⊕ (Int32 × QM)) := fun s15 => lp_X9_goesText_15 (o + 78) (nI b) s15.1 s15.2
section MT1
variable {M N N1 N2 N3 : QM} {o L p q t m d n k j c f s w b lim lim2 : Nat} {P : Nat → Nat} {v y : Int32}
theorem ROW.fr {q : CLA} {Z : Nat → Nat → Prop} (h : ROW N o c lim q) (s : SQ N N1 o Z) (h1 : ∀ a, 86 ≤ a → a ≤ 89 → ¬ Z a c) (h2 : ∀ k, k < lim → ¬ Z 90 k) (h3 : lim ≤ lim2) : ROW N1 o c lim2 q := by
  obtain ⟨r1, r2, r3, r4, r5⟩ := h
  refine ⟨r1, r2, (s.2.2.2.2 86 c (h1 86 (by decide) (by decide))).trans r3, (s.2.2.2.2 87 c (h1 87 (by decide) (by decide))).trans r4, fun e => ?_⟩
  obtain ⟨f, a1, a2, a3, a4, a5⟩ := r5 e
  refine ⟨f, a1, by omega, (s.2.2.2.2 88 c (h1 88 (by decide) (by decide))).trans a3, (s.2.2.2.2 89 c (h1 89 (by decide) (by decide))).trans a4, fun k x hx => ?_⟩
  have hk : k < q.2.2.length := (List.getElem?_eq_some_iff.mp hx).1
  exact ⟨(a5 k x hx).1, (s.2.2.2.2 90 (f + k) (h2 _ (by omega))).trans (a5 k x hx).2⟩
/-- the head of a clause -/
theorem mH_e (hT : TM N o P L) (h10 : mI N (o + 78) 10 = nI p) (hp : p ≤ L) (hc : c < 60) : ∃ N', SQ N N' o (fun a k => Zat a k ∨ (a = 86 ∧ k = c)) ∧ (∀ q, pH P p = .inl q → fn_X9_takesHead N (o + 78) (nI c) = some (0, N') ∧ mI N' (o + 78) 10 = nI q) ∧ ∀ w q, pH P p = .inr (w, q) → fn_X9_takesHead N (o + 78) (nI c) = some (1, N') ∧ mI N' (o + 78) 10 = nI q ∧ mI N' (o + 86) c = nI w := by
  have hS := hT.1
  have hL := hT.2.1.1
  obtain ⟨f1, b1⟩ := nx_v hT h10 hp
  have W : ∀ w : Nat, SQ N (sI N (o + 86) c (nI w)) o (fun a k => Zat a k ∨ (a = 86 ∧ k = c)) ∧ TM (sI N (o + 86) c (nI w)) o P L ∧ mI (sI N (o + 86) c (nI w)) (o + 78) 10 = nI p ∧ mI (sI N (o + 86) c (nI w)) (o + 86) c = nI w := fun w => by
    have s : SQ N (sI N (o + 86) c (nI w)) o (fun a k => Zat a k ∨ (a = 86 ∧ k = c)) := SQ.rfl.sI (Or.inr ⟨rfl, rfl⟩)
    refine ⟨s, hT.fr (s.mono fun a k z => ?_), ?_, ?_⟩
    · rcases z with z | z
      · exact at_mr z
      · unfold Zmr; omega
    · simp only [h10, mt_sI, mt_sJ, mt_sP, mt_rI, mt_rJ, ml_sI, ml_sJ, ml_sP, ml_rI, ml_rJ, mP_sI, mP_sJ, mP_rI, mP_rJ, SHP_sI, SHP_sJ, SHP_rI, SHP_rJ, mI_sI, mI_rI, mI_sJ, mI_rJ, mI_sP, mJ_sI, mJ_rI, mJ_sP, mJ_sJ, mJ_rJ, gI_e, pI_e, ck_e, bnd_s, nm_eq, pr2_e, cnul_0, cnul_1, drf_1, sm_1, sm_2, aI_e, aJ_e, wI_e, wJ_e, aL_e, cpI_e, cpJ_e, Nat.reduceLeDiff, Nat.reduceEqDiff, Nat.add_left_cancel_iff, ad0, ad1, false_and, and_false, true_and, and_true, reduceIte, if_true, if_false, zb0, zb1, Int32.reduceLT, Int32.reduceLE, i10, nw1, nw2, nt1, nt2, not_true_eq_false, not_false_eq_true]
    · simp only [mt_sI, mt_sJ, mt_sP, mt_rI, mt_rJ, ml_sI, ml_sJ, ml_sP, ml_rI, ml_rJ, mP_sI, mP_sJ, mP_rI, mP_rJ, SHP_sI, SHP_sJ, SHP_rI, SHP_rJ, mI_sI, mI_rI, mI_sJ, mI_rJ, mI_sP, mJ_sI, mJ_rI, mJ_sP, mJ_sJ, mJ_rJ, gI_e, pI_e, ck_e, bnd_s, nm_eq, pr2_e, cnul_0, cnul_1, drf_1, sm_1, sm_2, aI_e, aJ_e, wI_e, wJ_e, aL_e, cpI_e, cpJ_e, Nat.reduceLeDiff, Nat.reduceEqDiff, Nat.add_left_cancel_iff, ad0, ad1, false_and, and_false, true_and, and_true, reduceIte, if_true, if_false, zb0, zb1, Int32.reduceLT, Int32.reduceLE, i10, nw1, nw2, nt1, nt2, not_true_eq_false, not_false_eq_true]
  by_cases z1 : P p = 115
  · obtain ⟨w1, w2, w3, w4⟩ := W 2
    rw [z1] at f1
    have f1 : fn_X9_next N (o + 78) = some 115 := f1
    have g1 : ¬ (115 : Int32) = 109 := by decide
    have e2 : sI N (o + 86) c 2 = sI N (o + 86) c (nI 2) := rfl
    obtain ⟨v, N', t1, t2, t3, t4⟩ := mwd w2 w3 hp (f := 9) (mm := 5) (by decide) (w := [115, 112, 111, 111, 110]) rfl (by decide)
    have t1 : fn_X9_takesWord (sI N (o + 86) c (nI 2)) (o + 78) 9 5 = some (v, N') := t1
    have hS2 := w2.1
    have run : fn_X9_takesHead N (o + 78) (nI c) = some (zb v, N') := by
      simp only [fn_X9_takesHead, f1, g1, e2, t1, hc, mt_sI, mt_sJ, mt_sP, mt_rI, mt_rJ, ml_sI, ml_sJ, ml_sP, ml_rI, ml_rJ, mP_sI, mP_sJ, mP_rI, mP_rJ, SHP_sI, SHP_sJ, SHP_rI, SHP_rJ, mI_sI, mI_rI, mI_sJ, mI_rJ, mI_sP, mJ_sI, mJ_rI, mJ_sP, mJ_sJ, mJ_rJ, gI_e, pI_e, ck_e, bnd_s, nm_eq, pr2_e, cnul_0, cnul_1, drf_1, sm_1, sm_2, aI_e, aJ_e, wI_e, wJ_e, aL_e, cpI_e, cpJ_e, Nat.reduceLeDiff, Nat.reduceEqDiff, Nat.add_left_cancel_iff, ad0, ad1, false_and, and_false, true_and, and_true, reduceIte, if_true, if_false, zb0, zb1, Int32.reduceLT, Int32.reduceLE, i10, nw1, nw2, nt1, nt2, not_true_eq_false, not_false_eq_true, mt_78, mt_79, ml_79, mt_80, ml_80, mt_81, ml_81, mt_82, ml_82, mt_83, ml_83, mt_84, ml_84, mt_85, ml_85, mt_86, ml_86, mt_87, ml_87, mt_88, ml_88, mt_89, ml_89, mt_90, ml_90, mt_91, ml_91, mt_92, ml_92, mt_93, ml_93, mt_94, ml_94, mt_95, ml_95, mt_96, ml_96, mt_97, ml_97, mt_98, ml_98, mt_99, ml_99, mt_100, ml_100, mt_101, ml_101, mt_102, ml_102, mt_103, ml_103, mt_104, ml_104, mt_105, ml_105, mt_106, ml_106, mt_107, ml_107, mt_108, ml_108, mt_109, ml_109, mt_110, ml_110, mt_111, ml_111, mt_112, ml_112, mt_113, ml_113, mt_114, ml_114, mt_115, ml_115, mt_116, ml_116, mt_117, ml_117, mt_118, ml_118, mt_119, ml_119, mt_120, ml_120, mt_121, ml_121, mt_122, ml_122, mt_123, ml_123, gP_78_2, gP_78_3, gP_78_4, gP_78_5, gP_78_6, gP_78_12, gP_78_13, gP_78_14, gP_78_15, gP_78_16, gP_78_17, gP_78_18, gP_78_19, gP_78_23, gP_78_24, gP_78_26, gP_78_27, gP_78_28, gP_78_31, gP_78_32, gP_78_34, gP_78_35, gP_78_36, gP_78_37, gP_78_40, gP_78_41, gP_78_42, gP_78_43, gP_78_52, gP_78_53, gP_78_54, gP_78_55, gP_78_56, gP_78_57, gP_78_58, gP_78_59, gP_78_60, gP_78_61, gP_78_62, gP_78_63, gP_78_65, gP_78_66, gP_78_67, gP_78_68, gP_78_69, hS, hS2]
    have pe : pW P ([115, 112, 111, 111, 110] ++ [32]) p = pW P [112, 111, 111, 110, 32] (p + 1) := if_pos z1
    have he : pH P p = match pW P [112, 111, 111, 110, 32] (p + 1) with | .inl q => .inl q | .inr q => .inr (2, q) := if_pos z1
    rw [← pe] at he
    refine ⟨N', w1.trans (t2.mono fun _ _ z => Or.inl z), fun q e => ?_, fun w q e => ?_⟩
    · cases y : pW P ([115, 112, 111, 111, 110] ++ [32]) p with
      | inl q2 =>
        rw [he, y] at e; cases e
        obtain ⟨u1, u2⟩ := t3 q y
        rw [u1] at run
        exact ⟨run, u2⟩
      | inr q2 => rw [he, y] at e; cases e
    · cases y : pW P ([115, 112, 111, 111, 110] ++ [32]) p with
      | inl q2 => rw [he, y] at e; cases e
      | inr q2 =>
        rw [he, y] at e; cases e
        obtain ⟨u1, u2⟩ := t4 q y
        rw [u1] at run
        exact ⟨run, u2, (t2.2.2.2.2 86 c (by unfold Zat; omega)).trans w4⟩
  · by_cases z2 : P p = 109
    · obtain ⟨w1, w2, w3, w4⟩ := W 3
      rw [z2] at f1
      have f1 : fn_X9_next N (o + 78) = some 109 := f1
      have e2 : sI N (o + 86) c 3 = sI N (o + 86) c (nI 3) := rfl
      obtain ⟨v, N', t1, t2, t3, t4⟩ := mwd w2 w3 hp (f := 14) (mm := 4) (by decide) (w := [109, 105, 108, 107]) rfl (by decide)
      have t1 : fn_X9_takesWord (sI N (o + 86) c (nI 3)) (o + 78) 14 4 = some (v, N') := t1
      have hS2 := w2.1
      have run : fn_X9_takesHead N (o + 78) (nI c) = some (zb v, N') := by
        simp only [fn_X9_takesHead, f1, e2, t1, hc, mt_sI, mt_sJ, mt_sP, mt_rI, mt_rJ, ml_sI, ml_sJ, ml_sP, ml_rI, ml_rJ, mP_sI, mP_sJ, mP_rI, mP_rJ, SHP_sI, SHP_sJ, SHP_rI, SHP_rJ, mI_sI, mI_rI, mI_sJ, mI_rJ, mI_sP, mJ_sI, mJ_rI, mJ_sP, mJ_sJ, mJ_rJ, gI_e, pI_e, ck_e, bnd_s, nm_eq, pr2_e, cnul_0, cnul_1, drf_1, sm_1, sm_2, aI_e, aJ_e, wI_e, wJ_e, aL_e, cpI_e, cpJ_e, Nat.reduceLeDiff, Nat.reduceEqDiff, Nat.add_left_cancel_iff, ad0, ad1, false_and, and_false, true_and, and_true, reduceIte, if_true, if_false, zb0, zb1, Int32.reduceLT, Int32.reduceLE, i10, nw1, nw2, nt1, nt2, not_true_eq_false, not_false_eq_true, mt_78, mt_79, ml_79, mt_80, ml_80, mt_81, ml_81, mt_82, ml_82, mt_83, ml_83, mt_84, ml_84, mt_85, ml_85, mt_86, ml_86, mt_87, ml_87, mt_88, ml_88, mt_89, ml_89, mt_90, ml_90, mt_91, ml_91, mt_92, ml_92, mt_93, ml_93, mt_94, ml_94, mt_95, ml_95, mt_96, ml_96, mt_97, ml_97, mt_98, ml_98, mt_99, ml_99, mt_100, ml_100, mt_101, ml_101, mt_102, ml_102, mt_103, ml_103, mt_104, ml_104, mt_105, ml_105, mt_106, ml_106, mt_107, ml_107, mt_108, ml_108, mt_109, ml_109, mt_110, ml_110, mt_111, ml_111, mt_112, ml_112, mt_113, ml_113, mt_114, ml_114, mt_115, ml_115, mt_116, ml_116, mt_117, ml_117, mt_118, ml_118, mt_119, ml_119, mt_120, ml_120, mt_121, ml_121, mt_122, ml_122, mt_123, ml_123, gP_78_2, gP_78_3, gP_78_4, gP_78_5, gP_78_6, gP_78_12, gP_78_13, gP_78_14, gP_78_15, gP_78_16, gP_78_17, gP_78_18, gP_78_19, gP_78_23, gP_78_24, gP_78_26, gP_78_27, gP_78_28, gP_78_31, gP_78_32, gP_78_34, gP_78_35, gP_78_36, gP_78_37, gP_78_40, gP_78_41, gP_78_42, gP_78_43, gP_78_52, gP_78_53, gP_78_54, gP_78_55, gP_78_56, gP_78_57, gP_78_58, gP_78_59, gP_78_60, gP_78_61, gP_78_62, gP_78_63, gP_78_65, gP_78_66, gP_78_67, gP_78_68, gP_78_69, hS, hS2]
      have pe : pW P ([109, 105, 108, 107] ++ [32]) p = pW P [105, 108, 107, 32] (p + 1) := if_pos z2
      have he : pH P p = match pW P [105, 108, 107, 32] (p + 1) with | .inl q => .inl q | .inr q => .inr (3, q) := (if_neg z1).trans (if_pos z2)
      rw [← pe] at he
      refine ⟨N', w1.trans (t2.mono fun _ _ z => Or.inl z), fun q e => ?_, fun w q e => ?_⟩
      · cases y : pW P ([109, 105, 108, 107] ++ [32]) p with
        | inl q2 =>
          rw [he, y] at e; cases e
          obtain ⟨u1, u2⟩ := t3 q y
          rw [u1] at run
          exact ⟨run, u2⟩
        | inr q2 => rw [he, y] at e; cases e
      · cases y : pW P ([109, 105, 108, 107] ++ [32]) p with
        | inl q2 => rw [he, y] at e; cases e
        | inr q2 =>
          rw [he, y] at e; cases e
          obtain ⟨u1, u2⟩ := t4 q y
          rw [u1] at run
          exact ⟨run, u2, (t2.2.2.2.2 86 c (by unfold Zat; omega)).trans w4⟩
    · have g1 : ¬ nxI (P p) = 115 := fun q => z1 ((nxI_eq 115 (by decide) _ b1).mp q)
      have g2 : ¬ nxI (P p) = 109 := fun q => z2 ((nxI_eq 109 (by decide) _ b1).mp q)
      have f9 := hT.2.2.1
      have he : pH P p = match pW P [116, 104, 105] p with | .inl q => .inl q | .inr q => if P q = 110 then (match pW P [32] (q + 1) with | .inl q2 => .inl q2 | .inr q2 => .inr (1, q2)) else (match pW P [99, 107, 32] q with | .inl q2 => .inl q2 | .inr q2 => .inr (0, q2)) := (if_neg z1).trans (if_neg z2)
      have len3 : ∀ q, pW P [116, 104, 105] p = .inr q → q = p + 3 := fun q e => ((pW_le hT.2.1 [116, 104, 105] (by decide) p hp).2 q e).1
      by_cases z3 : P (p + 3) = 110
      · have hl : p + 3 < L := hT.2.1.lt (by omega)
        obtain ⟨w1, w2, w3, w4⟩ := W 1
        have g3 : ¬ nI L ≤ nI (p + 3) := by rw [nI_leI (by omega) (by omega)]; omega
        have g4 : nI p + 3 = nI (p + 3) := nI_add p 3
        have g5 : mI N (o + 84) (p + 3) = 110 := (hT.2.2.2.1 _ hl).trans (by rw [z3]; rfl)
        have hl3 : p + 3 < 100 := by omega
        have e2 : sI N (o + 86) c 1 = sI N (o + 86) c (nI 1) := rfl
        have w4' : mI (sI N (o + 86) c (nI 1)) (o + 86) c = 1 := w4
        obtain ⟨v, N', t1, t2, t3, t4⟩ := mwd w2 w3 hp (f := 5) (mm := 4) (by decide) (w := [116, 104, 105, 110]) rfl (by decide)
        have t1 : fn_X9_takesWord (sI N (o + 86) c (nI 1)) (o + 78) 5 4 = some (v, N') := t1
        have hS2 := w2.1
        have run : fn_X9_takesHead N (o + 78) (nI c) = some (zb v, N') := by
          simp only [fn_X9_takesHead, jn_X9_takesHead_101, f1, g1, g2, f9, h10, g3, g4, g5, e2, w4', t1, hc, hl3, mt_sI, mt_sJ, mt_sP, mt_rI, mt_rJ, ml_sI, ml_sJ, ml_sP, ml_rI, ml_rJ, mP_sI, mP_sJ, mP_rI, mP_rJ, SHP_sI, SHP_sJ, SHP_rI, SHP_rJ, mI_sI, mI_rI, mI_sJ, mI_rJ, mI_sP, mJ_sI, mJ_rI, mJ_sP, mJ_sJ, mJ_rJ, gI_e, pI_e, ck_e, bnd_s, nm_eq, pr2_e, cnul_0, cnul_1, drf_1, sm_1, sm_2, aI_e, aJ_e, wI_e, wJ_e, aL_e, cpI_e, cpJ_e, Nat.reduceLeDiff, Nat.reduceEqDiff, Nat.add_left_cancel_iff, ad0, ad1, false_and, and_false, true_and, and_true, reduceIte, if_true, if_false, zb0, zb1, Int32.reduceLT, Int32.reduceLE, i10, nw1, nw2, nt1, nt2, not_true_eq_false, not_false_eq_true, mt_78, mt_79, ml_79, mt_80, ml_80, mt_81, ml_81, mt_82, ml_82, mt_83, ml_83, mt_84, ml_84, mt_85, ml_85, mt_86, ml_86, mt_87, ml_87, mt_88, ml_88, mt_89, ml_89, mt_90, ml_90, mt_91, ml_91, mt_92, ml_92, mt_93, ml_93, mt_94, ml_94, mt_95, ml_95, mt_96, ml_96, mt_97, ml_97, mt_98, ml_98, mt_99, ml_99, mt_100, ml_100, mt_101, ml_101, mt_102, ml_102, mt_103, ml_103, mt_104, ml_104, mt_105, ml_105, mt_106, ml_106, mt_107, ml_107, mt_108, ml_108, mt_109, ml_109, mt_110, ml_110, mt_111, ml_111, mt_112, ml_112, mt_113, ml_113, mt_114, ml_114, mt_115, ml_115, mt_116, ml_116, mt_117, ml_117, mt_118, ml_118, mt_119, ml_119, mt_120, ml_120, mt_121, ml_121, mt_122, ml_122, mt_123, ml_123, gP_78_2, gP_78_3, gP_78_4, gP_78_5, gP_78_6, gP_78_12, gP_78_13, gP_78_14, gP_78_15, gP_78_16, gP_78_17, gP_78_18, gP_78_19, gP_78_23, gP_78_24, gP_78_26, gP_78_27, gP_78_28, gP_78_31, gP_78_32, gP_78_34, gP_78_35, gP_78_36, gP_78_37, gP_78_40, gP_78_41, gP_78_42, gP_78_43, gP_78_52, gP_78_53, gP_78_54, gP_78_55, gP_78_56, gP_78_57, gP_78_58, gP_78_59, gP_78_60, gP_78_61, gP_78_62, gP_78_63, gP_78_65, gP_78_66, gP_78_67, gP_78_68, gP_78_69, hS, hS2]
        have pe : pW P ([116, 104, 105, 110] ++ [32]) p = match pW P [116, 104, 105] p with | .inl q => .inl q | .inr q => pW P [110, 32] q := pW_app (w2 := [110, 32]) [116, 104, 105] p
        refine ⟨N', w1.trans (t2.mono fun _ _ z => Or.inl z), fun q e => ?_, fun w q e => ?_⟩
        · have y : pW P ([116, 104, 105, 110] ++ [32]) p = .inl q := by
            rw [pe]
            cases y : pW P [116, 104, 105] p with
            | inl q2 => rw [he, y] at e; cases e; rfl
            | inr q2 =>
              have := len3 q2 y
              subst this
              rw [he, y] at e
              have e : (if P (p + 3) = 110 then (match pW P [32] (p + 3 + 1) with | .inl q2 => Sum.inl q2 | .inr q2 => Sum.inr (1, q2)) else (match pW P [99, 107, 32] (p + 3) with | .inl q2 => .inl q2 | .inr q2 => .inr (0, q2))) = (Sum.inl q : Nat ⊕ (Nat × Nat)) := e
              rw [if_pos z3] at e
              show (if P (p + 3) = 110 then pW P [32] (p + 3 + 1) else .inl (p + 3)) = _
              rw [if_pos z3]
              cases y2 : pW P [32] (p + 3 + 1) with
              | inl q3 => rw [y2] at e; cases e; rfl
              | inr q3 => rw [y2] at e; cases e
          obtain ⟨u1, u2⟩ := t3 q y
          rw [u1] at run
          exact ⟨run, u2⟩
        · have y : pW P ([116, 104, 105, 110] ++ [32]) p = .inr q ∧ w = 1 := by
            rw [pe]
            cases y : pW P [116, 104, 105] p with
            | inl q2 => rw [he, y] at e; cases e
            | inr q2 =>
              have := len3 q2 y
              subst this
              rw [he, y] at e
              have e : (if P (p + 3) = 110 then (match pW P [32] (p + 3 + 1) with | .inl q2 => Sum.inl q2 | .inr q2 => Sum.inr (1, q2)) else (match pW P [99, 107, 32] (p + 3) with | .inl q2 => .inl q2 | .inr q2 => .inr (0, q2))) = (Sum.inr (w, q) : Nat ⊕ (Nat × Nat)) := e
              rw [if_pos z3] at e
              show (if P (p + 3) = 110 then pW P [32] (p + 3 + 1) else .inl (p + 3)) = _ ∧ _
              rw [if_pos z3]
              cases y2 : pW P [32] (p + 3 + 1) with
              | inl q3 => rw [y2] at e; cases e
              | inr q3 => rw [y2] at e; cases e; exact ⟨rfl, rfl⟩
          obtain ⟨u1, u2⟩ := t4 q y.1
          rw [u1] at run
          rw [y.2]
          exact ⟨run, u2, (t2.2.2.2.2 86 c (by unfold Zat; omega)).trans w4⟩
      · obtain ⟨w1, w2, w3, w4⟩ := W 0
        have g4 : nI p + 3 = nI (p + 3) := nI_add p 3
        have e2 : sI N (o + 86) c 0 = sI N (o + 86) c (nI 0) := rfl
        have w4' : mI (sI N (o + 86) c (nI 0)) (o + 86) c = 0 := w4
        have g6 : ¬ (0 : Int32) = 1 := by decide
        obtain ⟨v, N', t1, t2, t3, t4⟩ := mwd w2 w3 hp (f := 0) (mm := 5) (by decide) (w := [116, 104, 105, 99, 107]) rfl (by decide)
        have t1 : fn_X9_takesWord (sI N (o + 86) c (nI 0)) (o + 78) 0 5 = some (v, N') := t1
        have hS2 := w2.1
        have run : fn_X9_takesHead N (o + 78) (nI c) = some (zb v, N') := by
          by_cases hl : p + 3 < L
          · have g3 : ¬ nI L ≤ nI (p + 3) := by rw [nI_leI (by omega) (by omega)]; omega
            have hl3 : p + 3 < 100 := by omega
            have g7 := hT.2.2.2.1 _ hl
            have g5 : ¬ nI (P (p + 3)) = 110 := by
              have : ¬ nI (P (p + 3)) = nI 110 := by
                have := hT.2.1.2.1 _ hl
                rw [nI_eq (by omega) (by omega)]; exact z3
              exact this
            simp only [fn_X9_takesHead, jn_X9_takesHead_100, jn_X9_takesHead_101, f1, g1, g2, f9, h10, g3, g4, g5, g6, g7, e2, w4', t1, hc, hl3, mt_sI, mt_sJ, mt_sP, mt_rI, mt_rJ, ml_sI, ml_sJ, ml_sP, ml_rI, ml_rJ, mP_sI, mP_sJ, mP_rI, mP_rJ, SHP_sI, SHP_sJ, SHP_rI, SHP_rJ, mI_sI, mI_rI, mI_sJ, mI_rJ, mI_sP, mJ_sI, mJ_rI, mJ_sP, mJ_sJ, mJ_rJ, gI_e, pI_e, ck_e, bnd_s, nm_eq, pr2_e, cnul_0, cnul_1, drf_1, sm_1, sm_2, aI_e, aJ_e, wI_e, wJ_e, aL_e, cpI_e, cpJ_e, Nat.reduceLeDiff, Nat.reduceEqDiff, Nat.add_left_cancel_iff, ad0, ad1, false_and, and_false, true_and, and_true, reduceIte, if_true, if_false, zb0, zb1, Int32.reduceLT, Int32.reduceLE, i10, nw1, nw2, nt1, nt2, not_true_eq_false, not_false_eq_true, mt_78, mt_79, ml_79, mt_80, ml_80, mt_81, ml_81, mt_82, ml_82, mt_83, ml_83, mt_84, ml_84, mt_85, ml_85, mt_86, ml_86, mt_87, ml_87, mt_88, ml_88, mt_89, ml_89, mt_90, ml_90, mt_91, ml_91, mt_92, ml_92, mt_93, ml_93, mt_94, ml_94, mt_95, ml_95, mt_96, ml_96, mt_97, ml_97, mt_98, ml_98, mt_99, ml_99, mt_100, ml_100, mt_101, ml_101, mt_102, ml_102, mt_103, ml_103, mt_104, ml_104, mt_105, ml_105, mt_106, ml_106, mt_107, ml_107, mt_108, ml_108, mt_109, ml_109, mt_110, ml_110, mt_111, ml_111, mt_112, ml_112, mt_113, ml_113, mt_114, ml_114, mt_115, ml_115, mt_116, ml_116, mt_117, ml_117, mt_118, ml_118, mt_119, ml_119, mt_120, ml_120, mt_121, ml_121, mt_122, ml_122, mt_123, ml_123, gP_78_2, gP_78_3, gP_78_4, gP_78_5, gP_78_6, gP_78_12, gP_78_13, gP_78_14, gP_78_15, gP_78_16, gP_78_17, gP_78_18, gP_78_19, gP_78_23, gP_78_24, gP_78_26, gP_78_27, gP_78_28, gP_78_31, gP_78_32, gP_78_34, gP_78_35, gP_78_36, gP_78_37, gP_78_40, gP_78_41, gP_78_42, gP_78_43, gP_78_52, gP_78_53, gP_78_54, gP_78_55, gP_78_56, gP_78_57, gP_78_58, gP_78_59, gP_78_60, gP_78_61, gP_78_62, gP_78_63, gP_78_65, gP_78_66, gP_78_67, gP_78_68, gP_78_69, hS, hS2]
          · have g3 : nI L ≤ nI (p + 3) := nI_le (by omega) (by omega)
            simp only [fn_X9_takesHead, jn_X9_takesHead_100, jn_X9_takesHead_101, f1, g1, g2, f9, h10, g3, g4, g6, e2, w4', t1, hc, mt_sI, mt_sJ, mt_sP, mt_rI, mt_rJ, ml_sI, ml_sJ, ml_sP, ml_rI, ml_rJ, mP_sI, mP_sJ, mP_rI, mP_rJ, SHP_sI, SHP_sJ, SHP_rI, SHP_rJ, mI_sI, mI_rI, mI_sJ, mI_rJ, mI_sP, mJ_sI, mJ_rI, mJ_sP, mJ_sJ, mJ_rJ, gI_e, pI_e, ck_e, bnd_s, nm_eq, pr2_e, cnul_0, cnul_1, drf_1, sm_1, sm_2, aI_e, aJ_e, wI_e, wJ_e, aL_e, cpI_e, cpJ_e, Nat.reduceLeDiff, Nat.reduceEqDiff, Nat.add_left_cancel_iff, ad0, ad1, false_and, and_false, true_and, and_true, reduceIte, if_true, if_false, zb0, zb1, Int32.reduceLT, Int32.reduceLE, i10, nw1, nw2, nt1, nt2, not_true_eq_false, not_false_eq_true, mt_78, mt_79, ml_79, mt_80, ml_80, mt_81, ml_81, mt_82, ml_82, mt_83, ml_83, mt_84, ml_84, mt_85, ml_85, mt_86, ml_86, mt_87, ml_87, mt_88, ml_88, mt_89, ml_89, mt_90, ml_90, mt_91, ml_91, mt_92, ml_92, mt_93, ml_93, mt_94, ml_94, mt_95, ml_95, mt_96, ml_96, mt_97, ml_97, mt_98, ml_98, mt_99, ml_99, mt_100, ml_100, mt_101, ml_101, mt_102, ml_102, mt_103, ml_103, mt_104, ml_104, mt_105, ml_105, mt_106, ml_106, mt_107, ml_107, mt_108, ml_108, mt_109, ml_109, mt_110, ml_110, mt_111, ml_111, mt_112, ml_112, mt_113, ml_113, mt_114, ml_114, mt_115, ml_115, mt_116, ml_116, mt_117, ml_117, mt_118, ml_118, mt_119, ml_119, mt_120, ml_120, mt_121, ml_121, mt_122, ml_122, mt_123, ml_123, gP_78_2, gP_78_3, gP_78_4, gP_78_5, gP_78_6, gP_78_12, gP_78_13, gP_78_14, gP_78_15, gP_78_16, gP_78_17, gP_78_18, gP_78_19, gP_78_23, gP_78_24, gP_78_26, gP_78_27, gP_78_28, gP_78_31, gP_78_32, gP_78_34, gP_78_35, gP_78_36, gP_78_37, gP_78_40, gP_78_41, gP_78_42, gP_78_43, gP_78_52, gP_78_53, gP_78_54, gP_78_55, gP_78_56, gP_78_57, gP_78_58, gP_78_59, gP_78_60, gP_78_61, gP_78_62, gP_78_63, gP_78_65, gP_78_66, gP_78_67, gP_78_68, gP_78_69, hS, hS2]
        have pe : pW P ([116, 104, 105, 99, 107] ++ [32]) p = match pW P [116, 104, 105] p with | .inl q => .inl q | .inr q => pW P [99, 107, 32] q := pW_app (w2 := [99, 107, 32]) [116, 104, 105] p
        refine ⟨N', w1.trans (t2.mono fun _ _ z => Or.inl z), fun q e => ?_, fun w q e => ?_⟩
        · have y : pW P ([116, 104, 105, 99, 107] ++ [32]) p = .inl q := by
            rw [pe]
            cases y : pW P [116, 104, 105] p with
            | inl q2 => rw [he, y] at e; cases e; rfl
            | inr q2 =>
              have := len3 q2 y
              subst this
              rw [he, y] at e
              have e : (if P (p + 3) = 110 then (match pW P [32] (p + 3 + 1) with | .inl q2 => Sum.inl q2 | .inr q2 => Sum.inr (1, q2)) else (match pW P [99, 107, 32] (p + 3) with | .inl q2 => .inl q2 | .inr q2 => .inr (0, q2))) = (Sum.inl q : Nat ⊕ (Nat × Nat)) := e
              rw [if_neg z3] at e
              show pW P [99, 107, 32] (p + 3) = _
              cases y2 : pW P [99, 107, 32] (p + 3) with
              | inl q3 => rw [y2] at e; cases e; rfl
              | inr q3 => rw [y2] at e; cases e
          obtain ⟨u1, u2⟩ := t3 q y
          rw [u1] at run
          exact ⟨run, u2⟩
        · have y : pW P ([116, 104, 105, 99, 107] ++ [32]) p = .inr q ∧ w = 0 := by
            rw [pe]
            cases y : pW P [116, 104, 105] p with
            | inl q2 => rw [he, y] at e; cases e
            | inr q2 =>
              have := len3 q2 y
              subst this
              rw [he, y] at e
              have e : (if P (p + 3) = 110 then (match pW P [32] (p + 3 + 1) with | .inl q2 => Sum.inl q2 | .inr q2 => Sum.inr (1, q2)) else (match pW P [99, 107, 32] (p + 3) with | .inl q2 => .inl q2 | .inr q2 => .inr (0, q2))) = (Sum.inr (w, q) : Nat ⊕ (Nat × Nat)) := e
              rw [if_neg z3] at e
              show pW P [99, 107, 32] (p + 3) = _ ∧ _
              cases y2 : pW P [99, 107, 32] (p + 3) with
              | inl q3 => rw [y2] at e; cases e
              | inr q3 => rw [y2] at e; cases e; exact ⟨rfl, rfl⟩
          obtain ⟨u1, u2⟩ := t4 q y.1
          rw [u1] at run
          rw [y.2]
          exact ⟨run, u2, (t2.2.2.2.2 86 c (by unfold Zat; omega)).trans w4⟩
/-- a clause -/
theorem mC_e (hT : TM N o P L) (hb5 : b ≤ 5) (hbf : 100 * b ≤ f) (hc : c < 60) (h20 : mI N (o + 78) 20 = nI f) (h10 : mI N (o + 78) 10 = nI p) (hp : p ≤ L) (hcap : f ≤ 100 * b + p) {r : RQ} (z : PC P p r) : ∃ N', SQ N N' o (Zcm c f) ∧ match r with
    | .inl q => fn_X9_takesClause N (o + 78) (nI c) = some (0, N') ∧ mI N' (o + 78) 10 = nI q
    | .inr y => fn_X9_takesClause N (o + 78) (nI c) = some (1, N') ∧ mI N' (o + 78) 10 = nI y.1 ∧ mI N' (o + 78) 20 = nI (f + y.2.2.2.length) ∧ ROW N' o c (f + y.2.2.2.length) y.2 ∧ f + y.2.2.2.length ≤ 100 * b + y.1 := by
  have hS := hT.1
  have hL := hT.2.1.1
  obtain ⟨N1, s1, a1, a2⟩ := mH_e hT h10 hp hc
  have zz : ∀ a k, Zat a k ∨ (a = 86 ∧ k = c) → Zcm c f a k := fun a k z => by
    rcases z with z | z
    · unfold Zat at z; unfold Zcm; omega
    · unfold Zcm; omega
  have zr : ∀ {a k}, Zcm c f a k → Zmr a k := fun z => by unfold Zcm at z; unfold Zmr; omega
  have za : ∀ {a k}, Zat a k → Zcm c f a k := fun z => by unfold Zat at z; unfold Zcm; omega
  have q1 : SQ N N1 o (Zcm c f) := s1.mono zz
  have hT1 : TM N1 o P L := hT.fr (q1.mono fun _ _ z => zr z)
  have hS1 := hT1.1
  obtain ⟨g1, g2⟩ := pH_le hT.2.1 hp
  rcases z with ⟨q, a, rfl⟩ | ⟨w, q, a, z⟩
  · obtain ⟨e1, e2⟩ := a1 q a
    refine ⟨N1, q1, ?_, e2⟩
    simp only [fn_X9_takesClause, e1, mt_sI, mt_sJ, mt_sP, mt_rI, mt_rJ, ml_sI, ml_sJ, ml_sP, ml_rI, ml_rJ, mP_sI, mP_sJ, mP_rI, mP_rJ, SHP_sI, SHP_sJ, SHP_rI, SHP_rJ, mI_sI, mI_rI, mI_sJ, mI_rJ, mI_sP, mJ_sI, mJ_rI, mJ_sP, mJ_sJ, mJ_rJ, gI_e, pI_e, ck_e, bnd_s, nm_eq, pr2_e, cnul_0, cnul_1, drf_1, sm_1, sm_2, aI_e, aJ_e, wI_e, wJ_e, aL_e, cpI_e, cpJ_e, Nat.reduceLeDiff, Nat.reduceEqDiff, Nat.add_left_cancel_iff, ad0, ad1, false_and, and_false, true_and, and_true, reduceIte, if_true, if_false, zb0, zb1, Int32.reduceLT, Int32.reduceLE, i10, nw1, nw2, nt1, nt2, not_true_eq_false, not_false_eq_true]
  · obtain ⟨e1, e2, e3⟩ := a2 w q a
    obtain ⟨k1, k2, k3⟩ := g2 w q a
    rcases z with ⟨q2, z2, rfl⟩ | ⟨q2, n, z2, z⟩
    · obtain ⟨n1, rfl⟩ := mnu_n hT1 e2 k2 z2
      refine ⟨N1, q1, ?_, e2⟩
      simp only [fn_X9_takesClause, e1, n1, mt_sI, mt_sJ, mt_sP, mt_rI, mt_rJ, ml_sI, ml_sJ, ml_sP, ml_rI, ml_rJ, mP_sI, mP_sJ, mP_rI, mP_rJ, SHP_sI, SHP_sJ, SHP_rI, SHP_rJ, mI_sI, mI_rI, mI_sJ, mI_rJ, mI_sP, mJ_sI, mJ_rI, mJ_sP, mJ_sJ, mJ_rJ, gI_e, pI_e, ck_e, bnd_s, nm_eq, pr2_e, cnul_0, cnul_1, drf_1, sm_1, sm_2, aI_e, aJ_e, wI_e, wJ_e, aL_e, cpI_e, cpJ_e, Nat.reduceLeDiff, Nat.reduceEqDiff, Nat.add_left_cancel_iff, ad0, ad1, false_and, and_false, true_and, and_true, reduceIte, if_true, if_false, zb0, zb1, Int32.reduceLT, Int32.reduceLE, i10, nw1, nw2, nt1, nt2, not_true_eq_false, not_false_eq_true, mt_78, mt_79, ml_79, mt_80, ml_80, mt_81, ml_81, mt_82, ml_82, mt_83, ml_83, mt_84, ml_84, mt_85, ml_85, mt_86, ml_86, mt_87, ml_87, mt_88, ml_88, mt_89, ml_89, mt_90, ml_90, mt_91, ml_91, mt_92, ml_92, mt_93, ml_93, mt_94, ml_94, mt_95, ml_95, mt_96, ml_96, mt_97, ml_97, mt_98, ml_98, mt_99, ml_99, mt_100, ml_100, mt_101, ml_101, mt_102, ml_102, mt_103, ml_103, mt_104, ml_104, mt_105, ml_105, mt_106, ml_106, mt_107, ml_107, mt_108, ml_108, mt_109, ml_109, mt_110, ml_110, mt_111, ml_111, mt_112, ml_112, mt_113, ml_113, mt_114, ml_114, mt_115, ml_115, mt_116, ml_116, mt_117, ml_117, mt_118, ml_118, mt_119, ml_119, mt_120, ml_120, mt_121, ml_121, mt_122, ml_122, mt_123, ml_123, gP_78_2, gP_78_3, gP_78_4, gP_78_5, gP_78_6, gP_78_12, gP_78_13, gP_78_14, gP_78_15, gP_78_16, gP_78_17, gP_78_18, gP_78_19, gP_78_23, gP_78_24, gP_78_26, gP_78_27, gP_78_28, gP_78_31, gP_78_32, gP_78_34, gP_78_35, gP_78_36, gP_78_37, gP_78_40, gP_78_41, gP_78_42, gP_78_43, gP_78_52, gP_78_53, gP_78_54, gP_78_55, gP_78_56, gP_78_57, gP_78_58, gP_78_59, gP_78_60, gP_78_61, gP_78_62, gP_78_63, gP_78_65, gP_78_66, gP_78_67, gP_78_68, gP_78_69, hS1]
    · obtain ⟨N2, n1, n2, n3, n4⟩ := mnu_y hT1 e2 z2
      obtain ⟨m1, m2, m3⟩ := pN_r hT.2.1 z2
      have q2' : SQ N N2 o (Zcm c f) := q1.trans (n2.mono fun _ _ z => za z)
      have hS2 := q2'.shp hS
      have w2 : mI N2 (o + 86) c = nI w := (n2.2.2.2.2 86 c (by unfold Zat; omega)).trans e3
      have f2 : mI N2 (o + 78) 20 = nI f := (n2.2.2.2.2 78 20 (by unfold Zat; omega)).trans ((s1.2.2.2.2 78 20 (by unfold Zat; omega)).trans h20)
      obtain ⟨N3, hN3⟩ : ∃ N3, N3 = sI N2 (o + 87) c (nI n) := ⟨_, rfl⟩
      have q3 : SQ N N3 o (Zcm c f) := by rw [hN3]; exact q2'.sI (by unfold Zcm; omega)
      have hT3 : TM N3 o P L := hT.fr (q3.mono fun _ _ z => zr z)
      have hS3 := hT3.1
      have p3 : mI N3 (o + 78) 10 = nI q2 := by rw [hN3]; simp only [n3, mt_sI, mt_sJ, mt_sP, mt_rI, mt_rJ, ml_sI, ml_sJ, ml_sP, ml_rI, ml_rJ, mP_sI, mP_sJ, mP_rI, mP_rJ, SHP_sI, SHP_sJ, SHP_rI, SHP_rJ, mI_sI, mI_rI, mI_sJ, mI_rJ, mI_sP, mJ_sI, mJ_rI, mJ_sP, mJ_sJ, mJ_rJ, gI_e, pI_e, ck_e, bnd_s, nm_eq, pr2_e, cnul_0, cnul_1, drf_1, sm_1, sm_2, aI_e, aJ_e, wI_e, wJ_e, aL_e, cpI_e, cpJ_e, Nat.reduceLeDiff, Nat.reduceEqDiff, Nat.add_left_cancel_iff, ad0, ad1, false_and, and_false, true_and, and_true, reduceIte, if_true, if_false, zb0, zb1, Int32.reduceLT, Int32.reduceLE, i10, nw1, nw2, nt1, nt2, not_true_eq_false, not_false_eq_true]
      have w3 : mI N3 (o + 86) c = nI w := by rw [hN3]; simp only [w2, mt_sI, mt_sJ, mt_sP, mt_rI, mt_rJ, ml_sI, ml_sJ, ml_sP, ml_rI, ml_rJ, mP_sI, mP_sJ, mP_rI, mP_rJ, SHP_sI, SHP_sJ, SHP_rI, SHP_rJ, mI_sI, mI_rI, mI_sJ, mI_rJ, mI_sP, mJ_sI, mJ_rI, mJ_sP, mJ_sJ, mJ_rJ, gI_e, pI_e, ck_e, bnd_s, nm_eq, pr2_e, cnul_0, cnul_1, drf_1, sm_1, sm_2, aI_e, aJ_e, wI_e, wJ_e, aL_e, cpI_e, cpJ_e, Nat.reduceLeDiff, Nat.reduceEqDiff, Nat.add_left_cancel_iff, ad0, ad1, false_and, and_false, true_and, and_true, reduceIte, if_true, if_false, zb0, zb1, Int32.reduceLT, Int32.reduceLE, i10, nw1, nw2, nt1, nt2, not_true_eq_false, not_false_eq_true]
      have v3 : mI N3 (o + 87) c = nI n := by rw [hN3]; simp only [mt_sI, mt_sJ, mt_sP, mt_rI, mt_rJ, ml_sI, ml_sJ, ml_sP, ml_rI, ml_rJ, mP_sI, mP_sJ, mP_rI, mP_rJ, SHP_sI, SHP_sJ, SHP_rI, SHP_rJ, mI_sI, mI_rI, mI_sJ, mI_rJ, mI_sP, mJ_sI, mJ_rI, mJ_sP, mJ_sJ, mJ_rJ, gI_e, pI_e, ck_e, bnd_s, nm_eq, pr2_e, cnul_0, cnul_1, drf_1, sm_1, sm_2, aI_e, aJ_e, wI_e, wJ_e, aL_e, cpI_e, cpJ_e, Nat.reduceLeDiff, Nat.reduceEqDiff, Nat.add_left_cancel_iff, ad0, ad1, false_and, and_false, true_and, and_true, reduceIte, if_true, if_false, zb0, zb1, Int32.reduceLT, Int32.reduceLE, i10, nw1, nw2, nt1, nt2, not_true_eq_false, not_false_eq_true]
      have f3 : mI N3 (o + 78) 20 = nI f := by rw [hN3]; simp only [f2, mt_sI, mt_sJ, mt_sP, mt_rI, mt_rJ, ml_sI, ml_sJ, ml_sP, ml_rI, ml_rJ, mP_sI, mP_sJ, mP_rI, mP_rJ, SHP_sI, SHP_sJ, SHP_rI, SHP_rJ, mI_sI, mI_rI, mI_sJ, mI_rJ, mI_sP, mJ_sI, mJ_rI, mJ_sP, mJ_sJ, mJ_rJ, gI_e, pI_e, ck_e, bnd_s, nm_eq, pr2_e, cnul_0, cnul_1, drf_1, sm_1, sm_2, aI_e, aJ_e, wI_e, wJ_e, aL_e, cpI_e, cpJ_e, Nat.reduceLeDiff, Nat.reduceEqDiff, Nat.add_left_cancel_iff, ad0, ad1, false_and, and_false, true_and, and_true, reduceIte, if_true, if_false, zb0, zb1, Int32.reduceLT, Int32.reduceLE, i10, nw1, nw2, nt1, nt2, not_true_eq_false, not_false_eq_true]
      have hN3' := hN3.symm
      have gw : ∀ x, w < 2 → (2 : Int32) ≤ x → ¬ x = nI w := fun x hw hx e => by
        rw [e] at hx
        have : ¬ nI 2 ≤ nI w := by rw [nI_leI (by omega) (by omega)]; omega
        exact this hx
      rcases z with ⟨c1, rfl⟩ | ⟨c1, c2, rfl⟩ | ⟨c1, c2, z⟩
      · have g3 : (2 : Int32) ≤ nI w := nI_le (a := 2) c1 (by omega)
        refine ⟨N3, q3, ?_, p3, f3, ⟨k3, m3, w3, v3, fun e => ?_⟩, ?_⟩
        · simp only [fn_X9_takesClause, e1, n1, n4, hN3', w3, g3, hc, mt_sI, mt_sJ, mt_sP, mt_rI, mt_rJ, ml_sI, ml_sJ, ml_sP, ml_rI, ml_rJ, mP_sI, mP_sJ, mP_rI, mP_rJ, SHP_sI, SHP_sJ, SHP_rI, SHP_rJ, mI_sI, mI_rI, mI_sJ, mI_rJ, mI_sP, mJ_sI, mJ_rI, mJ_sP, mJ_sJ, mJ_rJ, gI_e, pI_e, ck_e, bnd_s, nm_eq, pr2_e, cnul_0, cnul_1, drf_1, sm_1, sm_2, aI_e, aJ_e, wI_e, wJ_e, aL_e, cpI_e, cpJ_e, Nat.reduceLeDiff, Nat.reduceEqDiff, Nat.add_left_cancel_iff, ad0, ad1, false_and, and_false, true_and, and_true, reduceIte, if_true, if_false, zb0, zb1, Int32.reduceLT, Int32.reduceLE, i10, nw1, nw2, nt1, nt2, not_true_eq_false, not_false_eq_true, mt_78, mt_79, ml_79, mt_80, ml_80, mt_81, ml_81, mt_82, ml_82, mt_83, ml_83, mt_84, ml_84, mt_85, ml_85, mt_86, ml_86, mt_87, ml_87, mt_88, ml_88, mt_89, ml_89, mt_90, ml_90, mt_91, ml_91, mt_92, ml_92, mt_93, ml_93, mt_94, ml_94, mt_95, ml_95, mt_96, ml_96, mt_97, ml_97, mt_98, ml_98, mt_99, ml_99, mt_100, ml_100, mt_101, ml_101, mt_102, ml_102, mt_103, ml_103, mt_104, ml_104, mt_105, ml_105, mt_106, ml_106, mt_107, ml_107, mt_108, ml_108, mt_109, ml_109, mt_110, ml_110, mt_111, ml_111, mt_112, ml_112, mt_113, ml_113, mt_114, ml_114, mt_115, ml_115, mt_116, ml_116, mt_117, ml_117, mt_118, ml_118, mt_119, ml_119, mt_120, ml_120, mt_121, ml_121, mt_122, ml_122, mt_123, ml_123, gP_78_2, gP_78_3, gP_78_4, gP_78_5, gP_78_6, gP_78_12, gP_78_13, gP_78_14, gP_78_15, gP_78_16, gP_78_17, gP_78_18, gP_78_19, gP_78_23, gP_78_24, gP_78_26, gP_78_27, gP_78_28, gP_78_31, gP_78_32, gP_78_34, gP_78_35, gP_78_36, gP_78_37, gP_78_40, gP_78_41, gP_78_42, gP_78_43, gP_78_52, gP_78_53, gP_78_54, gP_78_55, gP_78_56, gP_78_57, gP_78_58, gP_78_59, gP_78_60, gP_78_61, gP_78_62, gP_78_63, gP_78_65, gP_78_66, gP_78_67, gP_78_68, gP_78_69, hS1, hS2, hS3]
        · have e : w ≤ 1 := e
          omega
        · show f + 0 ≤ 100 * b + q2
          omega
      · have g3 : ¬ (2 : Int32) ≤ nI w := fun e => gw _ c1 e rfl
        have t : fn_X9_takes N3 (o + 78) 32 = _ := mtk_n hT3 p3 m2 (c := 32) (by decide) c2
        refine ⟨N3, q3, ?_, p3⟩
        simp only [fn_X9_takesClause, e1, n1, n4, hN3', w3, g3, t, hc, mt_sI, mt_sJ, mt_sP, mt_rI, mt_rJ, ml_sI, ml_sJ, ml_sP, ml_rI, ml_rJ, mP_sI, mP_sJ, mP_rI, mP_rJ, SHP_sI, SHP_sJ, SHP_rI, SHP_rJ, mI_sI, mI_rI, mI_sJ, mI_rJ, mI_sP, mJ_sI, mJ_rI, mJ_sP, mJ_sJ, mJ_rJ, gI_e, pI_e, ck_e, bnd_s, nm_eq, pr2_e, cnul_0, cnul_1, drf_1, sm_1, sm_2, aI_e, aJ_e, wI_e, wJ_e, aL_e, cpI_e, cpJ_e, Nat.reduceLeDiff, Nat.reduceEqDiff, Nat.add_left_cancel_iff, ad0, ad1, false_and, and_false, true_and, and_true, reduceIte, if_true, if_false, zb0, zb1, Int32.reduceLT, Int32.reduceLE, i10, nw1, nw2, nt1, nt2, not_true_eq_false, not_false_eq_true, mt_78, mt_79, ml_79, mt_80, ml_80, mt_81, ml_81, mt_82, ml_82, mt_83, ml_83, mt_84, ml_84, mt_85, ml_85, mt_86, ml_86, mt_87, ml_87, mt_88, ml_88, mt_89, ml_89, mt_90, ml_90, mt_91, ml_91, mt_92, ml_92, mt_93, ml_93, mt_94, ml_94, mt_95, ml_95, mt_96, ml_96, mt_97, ml_97, mt_98, ml_98, mt_99, ml_99, mt_100, ml_100, mt_101, ml_101, mt_102, ml_102, mt_103, ml_103, mt_104, ml_104, mt_105, ml_105, mt_106, ml_106, mt_107, ml_107, mt_108, ml_108, mt_109, ml_109, mt_110, ml_110, mt_111, ml_111, mt_112, ml_112, mt_113, ml_113, mt_114, ml_114, mt_115, ml_115, mt_116, ml_116, mt_117, ml_117, mt_118, ml_118, mt_119, ml_119, mt_120, ml_120, mt_121, ml_121, mt_122, ml_122, mt_123, ml_123, gP_78_2, gP_78_3, gP_78_4, gP_78_5, gP_78_6, gP_78_12, gP_78_13, gP_78_14, gP_78_15, gP_78_16, gP_78_17, gP_78_18, gP_78_19, gP_78_23, gP_78_24, gP_78_26, gP_78_27, gP_78_28, gP_78_31, gP_78_32, gP_78_34, gP_78_35, gP_78_36, gP_78_37, gP_78_40, gP_78_41, gP_78_42, gP_78_43, gP_78_52, gP_78_53, gP_78_54, gP_78_55, gP_78_56, gP_78_57, gP_78_58, gP_78_59, gP_78_60, gP_78_61, gP_78_62, gP_78_63, gP_78_65, gP_78_66, gP_78_67, gP_78_68, gP_78_69, hS1, hS2, hS3]
      · have g3 : ¬ (2 : Int32) ≤ nI w := fun e => gw _ c1 e rfl
        have t : fn_X9_takes N3 (o + 78) 32 = _ := mtk_y hT3 p3 (c := 32) (by decide) c2
        have hq2 : q2 < L := hT.2.1.lt (by omega)
        obtain ⟨N4, hN4⟩ : ∃ N4, N4 = sI N3 (o + 78) 10 (nI (q2 + 1)) := ⟨_, rfl⟩
        have hN4' := hN4.symm
        have q4 : SQ N N4 o (Zcm c f) := by rw [hN4]; exact q3.sI (by unfold Zcm; omega)
        have hT4 : TM N4 o P L := hT.fr (q4.mono fun _ _ z => zr z)
        have hS4 := hT4.1
        have p4 : mI N4 (o + 78) 10 = nI (q2 + 1) := by rw [hN4]; simp only [mt_sI, mt_sJ, mt_sP, mt_rI, mt_rJ, ml_sI, ml_sJ, ml_sP, ml_rI, ml_rJ, mP_sI, mP_sJ, mP_rI, mP_rJ, SHP_sI, SHP_sJ, SHP_rI, SHP_rJ, mI_sI, mI_rI, mI_sJ, mI_rJ, mI_sP, mJ_sI, mJ_rI, mJ_sP, mJ_sJ, mJ_rJ, gI_e, pI_e, ck_e, bnd_s, nm_eq, pr2_e, cnul_0, cnul_1, drf_1, sm_1, sm_2, aI_e, aJ_e, wI_e, wJ_e, aL_e, cpI_e, cpJ_e, Nat.reduceLeDiff, Nat.reduceEqDiff, Nat.add_left_cancel_iff, ad0, ad1, false_and, and_false, true_and, and_true, reduceIte, if_true, if_false, zb0, zb1, Int32.reduceLT, Int32.reduceLE, i10, nw1, nw2, nt1, nt2, not_true_eq_false, not_false_eq_true]
        have f4 : mI N4 (o + 78) 20 = nI f := by rw [hN4]; simp only [f3, mt_sI, mt_sJ, mt_sP, mt_rI, mt_rJ, ml_sI, ml_sJ, ml_sP, ml_rI, ml_rJ, mP_sI, mP_sJ, mP_rI, mP_rJ, SHP_sI, SHP_sJ, SHP_rI, SHP_rJ, mI_sI, mI_rI, mI_sJ, mI_rJ, mI_sP, mJ_sI, mJ_rI, mJ_sP, mJ_sJ, mJ_rJ, gI_e, pI_e, ck_e, bnd_s, nm_eq, pr2_e, cnul_0, cnul_1, drf_1, sm_1, sm_2, aI_e, aJ_e, wI_e, wJ_e, aL_e, cpI_e, cpJ_e, Nat.reduceLeDiff, Nat.reduceEqDiff, Nat.add_left_cancel_iff, ad0, ad1, false_and, and_false, true_and, and_true, reduceIte, if_true, if_false, zb0, zb1, Int32.reduceLT, Int32.reduceLE, i10, nw1, nw2, nt1, nt2, not_true_eq_false, not_false_eq_true]
        have w4 : mI N4 (o + 86) c = nI w := by rw [hN4]; simp only [w3, mt_sI, mt_sJ, mt_sP, mt_rI, mt_rJ, ml_sI, ml_sJ, ml_sP, ml_rI, ml_rJ, mP_sI, mP_sJ, mP_rI, mP_rJ, SHP_sI, SHP_sJ, SHP_rI, SHP_rJ, mI_sI, mI_rI, mI_sJ, mI_rJ, mI_sP, mJ_sI, mJ_rI, mJ_sP, mJ_sJ, mJ_rJ, gI_e, pI_e, ck_e, bnd_s, nm_eq, pr2_e, cnul_0, cnul_1, drf_1, sm_1, sm_2, aI_e, aJ_e, wI_e, wJ_e, aL_e, cpI_e, cpJ_e, Nat.reduceLeDiff, Nat.reduceEqDiff, Nat.add_left_cancel_iff, ad0, ad1, false_and, and_false, true_and, and_true, reduceIte, if_true, if_false, zb0, zb1, Int32.reduceLT, Int32.reduceLE, i10, nw1, nw2, nt1, nt2, not_true_eq_false, not_false_eq_true]
        have v4 : mI N4 (o + 87) c = nI n := by rw [hN4]; simp only [v3, mt_sI, mt_sJ, mt_sP, mt_rI, mt_rJ, ml_sI, ml_sJ, ml_sP, ml_rI, ml_rJ, mP_sI, mP_sJ, mP_rI, mP_rJ, SHP_sI, SHP_sJ, SHP_rI, SHP_rJ, mI_sI, mI_rI, mI_sJ, mI_rJ, mI_sP, mJ_sI, mJ_rI, mJ_sP, mJ_sJ, mJ_rJ, gI_e, pI_e, ck_e, bnd_s, nm_eq, pr2_e, cnul_0, cnul_1, drf_1, sm_1, sm_2, aI_e, aJ_e, wI_e, wJ_e, aL_e, cpI_e, cpJ_e, Nat.reduceLeDiff, Nat.reduceEqDiff, Nat.add_left_cancel_iff, ad0, ad1, false_and, and_false, true_and, and_true, reduceIte, if_true, if_false, zb0, zb1, Int32.reduceLT, Int32.reduceLE, i10, nw1, nw2, nt1, nt2, not_true_eq_false, not_false_eq_true]
        have ze : ∀ a k, (Zes c f a k ∨ (a = 88 ∧ k = c)) → Zcm c f a k := fun a k z => by
          rcases z with z | z
          · unfold Zes at z; unfold Zcm; omega
          · unfold Zcm; omega
        rcases z with ⟨q3', x, rfl⟩ | ⟨q3', l, x, rfl⟩
        · obtain ⟨N5, u1, u2, u3⟩ := mE_e hT4 hb5 hbf hc f4 p4 hq2 (by omega) x
          refine ⟨N5, q4.trans (u1.mono ze), ?_, u3⟩
          simp only [fn_X9_takesClause, e1, n1, n4, hN3', w3, g3, t, hN4', u2, hc, mt_sI, mt_sJ, mt_sP, mt_rI, mt_rJ, ml_sI, ml_sJ, ml_sP, ml_rI, ml_rJ, mP_sI, mP_sJ, mP_rI, mP_rJ, SHP_sI, SHP_sJ, SHP_rI, SHP_rJ, mI_sI, mI_rI, mI_sJ, mI_rJ, mI_sP, mJ_sI, mJ_rI, mJ_sP, mJ_sJ, mJ_rJ, gI_e, pI_e, ck_e, bnd_s, nm_eq, pr2_e, cnul_0, cnul_1, drf_1, sm_1, sm_2, aI_e, aJ_e, wI_e, wJ_e, aL_e, cpI_e, cpJ_e, Nat.reduceLeDiff, Nat.reduceEqDiff, Nat.add_left_cancel_iff, ad0, ad1, false_and, and_false, true_and, and_true, reduceIte, if_true, if_false, zb0, zb1, Int32.reduceLT, Int32.reduceLE, i10, nw1, nw2, nt1, nt2, not_true_eq_false, not_false_eq_true, mt_78, mt_79, ml_79, mt_80, ml_80, mt_81, ml_81, mt_82, ml_82, mt_83, ml_83, mt_84, ml_84, mt_85, ml_85, mt_86, ml_86, mt_87, ml_87, mt_88, ml_88, mt_89, ml_89, mt_90, ml_90, mt_91, ml_91, mt_92, ml_92, mt_93, ml_93, mt_94, ml_94, mt_95, ml_95, mt_96, ml_96, mt_97, ml_97, mt_98, ml_98, mt_99, ml_99, mt_100, ml_100, mt_101, ml_101, mt_102, ml_102, mt_103, ml_103, mt_104, ml_104, mt_105, ml_105, mt_106, ml_106, mt_107, ml_107, mt_108, ml_108, mt_109, ml_109, mt_110, ml_110, mt_111, ml_111, mt_112, ml_112, mt_113, ml_113, mt_114, ml_114, mt_115, ml_115, mt_116, ml_116, mt_117, ml_117, mt_118, ml_118, mt_119, ml_119, mt_120, ml_120, mt_121, ml_121, mt_122, ml_122, mt_123, ml_123, gP_78_2, gP_78_3, gP_78_4, gP_78_5, gP_78_6, gP_78_12, gP_78_13, gP_78_14, gP_78_15, gP_78_16, gP_78_17, gP_78_18, gP_78_19, gP_78_23, gP_78_24, gP_78_26, gP_78_27, gP_78_28, gP_78_31, gP_78_32, gP_78_34, gP_78_35, gP_78_36, gP_78_37, gP_78_40, gP_78_41, gP_78_42, gP_78_43, gP_78_52, gP_78_53, gP_78_54, gP_78_55, gP_78_56, gP_78_57, gP_78_58, gP_78_59, gP_78_60, gP_78_61, gP_78_62, gP_78_63, gP_78_65, gP_78_66, gP_78_67, gP_78_68, gP_78_69, hS1, hS2, hS3, hS4]
        · obtain ⟨N5, u1, u2, u3, u4, u5, u6, u7, u8⟩ := mE_e hT4 hb5 hbf hc f4 p4 hq2 (by omega) x
          have hq3 : q3' ≤ L := (PX_r hT.2.1 x (by omega)).2
          have u8 : f + l.length ≤ 100 * b + q3' := u8
          refine ⟨N5, q4.trans (u1.mono ze), ?_, u3, u4, ⟨k3, m3, ?_, ?_, fun e => ⟨f, ?_, Nat.le_refl _, u5, u6, u7⟩⟩, u8⟩
          · simp only [fn_X9_takesClause, e1, n1, n4, hN3', w3, g3, t, hN4', u2, hc, mt_sI, mt_sJ, mt_sP, mt_rI, mt_rJ, ml_sI, ml_sJ, ml_sP, ml_rI, ml_rJ, mP_sI, mP_sJ, mP_rI, mP_rJ, SHP_sI, SHP_sJ, SHP_rI, SHP_rJ, mI_sI, mI_rI, mI_sJ, mI_rJ, mI_sP, mJ_sI, mJ_rI, mJ_sP, mJ_sJ, mJ_rJ, gI_e, pI_e, ck_e, bnd_s, nm_eq, pr2_e, cnul_0, cnul_1, drf_1, sm_1, sm_2, aI_e, aJ_e, wI_e, wJ_e, aL_e, cpI_e, cpJ_e, Nat.reduceLeDiff, Nat.reduceEqDiff, Nat.add_left_cancel_iff, ad0, ad1, false_and, and_false, true_and, and_true, reduceIte, if_true, if_false, zb0, zb1, Int32.reduceLT, Int32.reduceLE, i10, nw1, nw2, nt1, nt2, not_true_eq_false, not_false_eq_true, mt_78, mt_79, ml_79, mt_80, ml_80, mt_81, ml_81, mt_82, ml_82, mt_83, ml_83, mt_84, ml_84, mt_85, ml_85, mt_86, ml_86, mt_87, ml_87, mt_88, ml_88, mt_89, ml_89, mt_90, ml_90, mt_91, ml_91, mt_92, ml_92, mt_93, ml_93, mt_94, ml_94, mt_95, ml_95, mt_96, ml_96, mt_97, ml_97, mt_98, ml_98, mt_99, ml_99, mt_100, ml_100, mt_101, ml_101, mt_102, ml_102, mt_103, ml_103, mt_104, ml_104, mt_105, ml_105, mt_106, ml_106, mt_107, ml_107, mt_108, ml_108, mt_109, ml_109, mt_110, ml_110, mt_111, ml_111, mt_112, ml_112, mt_113, ml_113, mt_114, ml_114, mt_115, ml_115, mt_116, ml_116, mt_117, ml_117, mt_118, ml_118, mt_119, ml_119, mt_120, ml_120, mt_121, ml_121, mt_122, ml_122, mt_123, ml_123, gP_78_2, gP_78_3, gP_78_4, gP_78_5, gP_78_6, gP_78_12, gP_78_13, gP_78_14, gP_78_15, gP_78_16, gP_78_17, gP_78_18, gP_78_19, gP_78_23, gP_78_24, gP_78_26, gP_78_27, gP_78_28, gP_78_31, gP_78_32, gP_78_34, gP_78_35, gP_78_36, gP_78_37, gP_78_40, gP_78_41, gP_78_42, gP_78_43, gP_78_52, gP_78_53, gP_78_54, gP_78_55, gP_78_56, gP_78_57, gP_78_58, gP_78_59, gP_78_60, gP_78_61, gP_78_62, gP_78_63, gP_78_65, gP_78_66, gP_78_67, gP_78_68, gP_78_69, hS1, hS2, hS3, hS4]
          · exact (u1.2.2.2.2 86 c (by unfold Zes; omega)).trans w4
          · exact (u1.2.2.2.2 87 c (by unfold Zes; omega)).trans v4
          · show l.length ≤ 100
            omega
set_option maxHeartbeats 1000000 in
/-- the text, from a clause on -/
theorem mG_e (hb5 : b ≤ 5) : ∀ k n, k + n = 9 → ∀ p f N r, TM N o P L → mI N (o + 78) 10 = nI p → p ≤ L → mI N (o + 78) 20 = nI f → 100 * b ≤ f → f ≤ 100 * b + p → PG P L k p r → ∃ N', SQ N N' o (Zgm b n f) ∧ match r with
    | .inl q => (∀ j, k < j → itr (lpT o b) j (nI n, N) = some (0, N')) ∧ mI N' (o + 78) 10 = nI q
    | .inr cs => (∀ j, k < j → itr (lpT o b) j (nI n, N) = some (1, N')) ∧ mI N' (o + 85) b = nI (n + cs.length) ∧ cs.length ≤ k + 1 ∧ ∀ i q, cs[i]? = some q → ROW N' o (10 * b + n + i) (100 * (b + 1)) q := by
  intro k
  induction k with
  | zero =>
    intro n hkn p f N r hT h10 hp h20 hbf hcap x
    have hn : n = 9 := by omega
    subst hn
    have hS := hT.1
    have hL := hT.2.1.1
    have i1 : (10 : Int32) * nI b + nI 9 = nI (10 * b + 9) := by
      have : (10 : Int32) * nI b = nI (10 * b) := nI_mul 10 b
      rw [this, nI_add]
    have zc : ∀ a k, Zcm (10 * b + 9) f a k → Zgm b 9 f a k := fun a k z => by unfold Zcm at z; unfold Zgm; omega
    rcases x with ⟨q, x, rfl⟩ | ⟨q, cl, x, y⟩
    · obtain ⟨N1, s1, e1, e2⟩ := mC_e hT hb5 hbf (c := 10 * b + 9) (by omega) h20 h10 hp hcap x
      refine ⟨N1, s1.mono zc, fun j hj => ?_, e2⟩
      obtain ⟨j, rfl⟩ : ∃ j', j = j' + 1 := ⟨j - 1, by omega⟩
      refine itr_exit ?_
      show lp_X9_goesText_15 (o + 78) (nI b) (nI 9) N = _
      simp only [lp_X9_goesText_15, i1, e1, mt_sI, mt_sJ, mt_sP, mt_rI, mt_rJ, ml_sI, ml_sJ, ml_sP, ml_rI, ml_rJ, mP_sI, mP_sJ, mP_rI, mP_rJ, SHP_sI, SHP_sJ, SHP_rI, SHP_rJ, mI_sI, mI_rI, mI_sJ, mI_rJ, mI_sP, mJ_sI, mJ_rI, mJ_sP, mJ_sJ, mJ_rJ, gI_e, pI_e, ck_e, bnd_s, nm_eq, pr2_e, cnul_0, cnul_1, drf_1, sm_1, sm_2, aI_e, aJ_e, wI_e, wJ_e, aL_e, cpI_e, cpJ_e, Nat.reduceLeDiff, Nat.reduceEqDiff, Nat.add_left_cancel_iff, ad0, ad1, false_and, and_false, true_and, and_true, reduceIte, if_true, if_false, zb0, zb1, Int32.reduceLT, Int32.reduceLE, i10, nw1, nw2, nt1, nt2, not_true_eq_false, not_false_eq_true, mt_78, mt_79, ml_79, mt_80, ml_80, mt_81, ml_81, mt_82, ml_82, mt_83, ml_83, mt_84, ml_84, mt_85, ml_85, mt_86, ml_86, mt_87, ml_87, mt_88, ml_88, mt_89, ml_89, mt_90, ml_90, mt_91, ml_91, mt_92, ml_92, mt_93, ml_93, mt_94, ml_94, mt_95, ml_95, mt_96, ml_96, mt_97, ml_97, mt_98, ml_98, mt_99, ml_99, mt_100, ml_100, mt_101, ml_101, mt_102, ml_102, mt_103, ml_103, mt_104, ml_104, mt_105, ml_105, mt_106, ml_106, mt_107, ml_107, mt_108, ml_108, mt_109, ml_109, mt_110, ml_110, mt_111, ml_111, mt_112, ml_112, mt_113, ml_113, mt_114, ml_114, mt_115, ml_115, mt_116, ml_116, mt_117, ml_117, mt_118, ml_118, mt_119, ml_119, mt_120, ml_120, mt_121, ml_121, mt_122, ml_122, mt_123, ml_123, gP_78_2, gP_78_3, gP_78_4, gP_78_5, gP_78_6, gP_78_12, gP_78_13, gP_78_14, gP_78_15, gP_78_16, gP_78_17, gP_78_18, gP_78_19, gP_78_23, gP_78_24, gP_78_26, gP_78_27, gP_78_28, gP_78_31, gP_78_32, gP_78_34, gP_78_35, gP_78_36, gP_78_37, gP_78_40, gP_78_41, gP_78_42, gP_78_43, gP_78_52, gP_78_53, gP_78_54, gP_78_55, gP_78_56, gP_78_57, gP_78_58, gP_78_59, gP_78_60, gP_78_61, gP_78_62, gP_78_63, gP_78_65, gP_78_66, gP_78_67, gP_78_68, gP_78_69, hS]
    · obtain ⟨N1, s1, e1, e2, e3, e4, e5⟩ := mC_e hT hb5 hbf (c := 10 * b + 9) (by omega) h20 h10 hp hcap x
      have hS1 := s1.shp hS
      obtain ⟨-, hq, -⟩ := PC_r hT.2.1 hp x
      have e5 : f + cl.2.2.length ≤ 100 * b + q := e5
      have h9 : mI N1 (o + 78) 9 = nI L := (s1.2.2.2.2 78 9 (by unfold Zcm; omega)).trans hT.2.2.1
      have s2 : SQ N1 (sI N1 (o + 85) b (nI 10)) o (fun a k => a = 85 ∧ k = b) := SQ.rfl.sI ⟨rfl, rfl⟩
      have i2 : nI 9 + 1 = nI 10 := nI_1 9
      have i3 : nI 10 = 10 := rfl
      have hb6 : b < 6 := by omega
      have run : ∀ v : Int32, (nI q = nI L → v = 1) → (¬ nI q = nI L → v = 0) → ∀ j, 0 < j → itr (lpT o b) j (nI 9, N) = some (v, sI N1 (o + 85) b (nI 10)) := fun v v1 v2 j hj => by
        obtain ⟨j, rfl⟩ : ∃ j', j = j' + 1 := ⟨j - 1, by omega⟩
        refine itr_exit ?_
        show lp_X9_goesText_15 (o + 78) (nI b) (nI 9) N = _
        by_cases e : nI q = nI L
        · rw [v1 e]
          simp only [lp_X9_goesText_15, i1, e1, i2, e2, h9, e, hb6, mt_sI, mt_sJ, mt_sP, mt_rI, mt_rJ, ml_sI, ml_sJ, ml_sP, ml_rI, ml_rJ, mP_sI, mP_sJ, mP_rI, mP_rJ, SHP_sI, SHP_sJ, SHP_rI, SHP_rJ, mI_sI, mI_rI, mI_sJ, mI_rJ, mI_sP, mJ_sI, mJ_rI, mJ_sP, mJ_sJ, mJ_rJ, gI_e, pI_e, ck_e, bnd_s, nm_eq, pr2_e, cnul_0, cnul_1, drf_1, sm_1, sm_2, aI_e, aJ_e, wI_e, wJ_e, aL_e, cpI_e, cpJ_e, Nat.reduceLeDiff, Nat.reduceEqDiff, Nat.add_left_cancel_iff, ad0, ad1, false_and, and_false, true_and, and_true, reduceIte, if_true, if_false, zb0, zb1, Int32.reduceLT, Int32.reduceLE, i10, nw1, nw2, nt1, nt2, not_true_eq_false, not_false_eq_true, mt_78, mt_79, ml_79, mt_80, ml_80, mt_81, ml_81, mt_82, ml_82, mt_83, ml_83, mt_84, ml_84, mt_85, ml_85, mt_86, ml_86, mt_87, ml_87, mt_88, ml_88, mt_89, ml_89, mt_90, ml_90, mt_91, ml_91, mt_92, ml_92, mt_93, ml_93, mt_94, ml_94, mt_95, ml_95, mt_96, ml_96, mt_97, ml_97, mt_98, ml_98, mt_99, ml_99, mt_100, ml_100, mt_101, ml_101, mt_102, ml_102, mt_103, ml_103, mt_104, ml_104, mt_105, ml_105, mt_106, ml_106, mt_107, ml_107, mt_108, ml_108, mt_109, ml_109, mt_110, ml_110, mt_111, ml_111, mt_112, ml_112, mt_113, ml_113, mt_114, ml_114, mt_115, ml_115, mt_116, ml_116, mt_117, ml_117, mt_118, ml_118, mt_119, ml_119, mt_120, ml_120, mt_121, ml_121, mt_122, ml_122, mt_123, ml_123, gP_78_2, gP_78_3, gP_78_4, gP_78_5, gP_78_6, gP_78_12, gP_78_13, gP_78_14, gP_78_15, gP_78_16, gP_78_17, gP_78_18, gP_78_19, gP_78_23, gP_78_24, gP_78_26, gP_78_27, gP_78_28, gP_78_31, gP_78_32, gP_78_34, gP_78_35, gP_78_36, gP_78_37, gP_78_40, gP_78_41, gP_78_42, gP_78_43, gP_78_52, gP_78_53, gP_78_54, gP_78_55, gP_78_56, gP_78_57, gP_78_58, gP_78_59, gP_78_60, gP_78_61, gP_78_62, gP_78_63, gP_78_65, gP_78_66, gP_78_67, gP_78_68, gP_78_69, hS, hS1]
        · rw [v2 e]
          simp only [lp_X9_goesText_15, i1, e1, i2, e2, h9, e, i3, hb6, mt_sI, mt_sJ, mt_sP, mt_rI, mt_rJ, ml_sI, ml_sJ, ml_sP, ml_rI, ml_rJ, mP_sI, mP_sJ, mP_rI, mP_rJ, SHP_sI, SHP_sJ, SHP_rI, SHP_rJ, mI_sI, mI_rI, mI_sJ, mI_rJ, mI_sP, mJ_sI, mJ_rI, mJ_sP, mJ_sJ, mJ_rJ, gI_e, pI_e, ck_e, bnd_s, nm_eq, pr2_e, cnul_0, cnul_1, drf_1, sm_1, sm_2, aI_e, aJ_e, wI_e, wJ_e, aL_e, cpI_e, cpJ_e, Nat.reduceLeDiff, Nat.reduceEqDiff, Nat.add_left_cancel_iff, ad0, ad1, false_and, and_false, true_and, and_true, reduceIte, if_true, if_false, zb0, zb1, Int32.reduceLT, Int32.reduceLE, i10, nw1, nw2, nt1, nt2, not_true_eq_false, not_false_eq_true, mt_78, mt_79, ml_79, mt_80, ml_80, mt_81, ml_81, mt_82, ml_82, mt_83, ml_83, mt_84, ml_84, mt_85, ml_85, mt_86, ml_86, mt_87, ml_87, mt_88, ml_88, mt_89, ml_89, mt_90, ml_90, mt_91, ml_91, mt_92, ml_92, mt_93, ml_93, mt_94, ml_94, mt_95, ml_95, mt_96, ml_96, mt_97, ml_97, mt_98, ml_98, mt_99, ml_99, mt_100, ml_100, mt_101, ml_101, mt_102, ml_102, mt_103, ml_103, mt_104, ml_104, mt_105, ml_105, mt_106, ml_106, mt_107, ml_107, mt_108, ml_108, mt_109, ml_109, mt_110, ml_110, mt_111, ml_111, mt_112, ml_112, mt_113, ml_113, mt_114, ml_114, mt_115, ml_115, mt_116, ml_116, mt_117, ml_117, mt_118, ml_118, mt_119, ml_119, mt_120, ml_120, mt_121, ml_121, mt_122, ml_122, mt_123, ml_123, gP_78_2, gP_78_3, gP_78_4, gP_78_5, gP_78_6, gP_78_12, gP_78_13, gP_78_14, gP_78_15, gP_78_16, gP_78_17, gP_78_18, gP_78_19, gP_78_23, gP_78_24, gP_78_26, gP_78_27, gP_78_28, gP_78_31, gP_78_32, gP_78_34, gP_78_35, gP_78_36, gP_78_37, gP_78_40, gP_78_41, gP_78_42, gP_78_43, gP_78_52, gP_78_53, gP_78_54, gP_78_55, gP_78_56, gP_78_57, gP_78_58, gP_78_59, gP_78_60, gP_78_61, gP_78_62, gP_78_63, gP_78_65, gP_78_66, gP_78_67, gP_78_68, gP_78_69, hS, hS1]
      have sq : SQ N (sI N1 (o + 85) b (nI 10)) o (Zgm b 9 f) := (s1.mono zc).trans (s2.mono fun a k z => by unfold Zgm; omega)
      rcases y with ⟨y1, rfl⟩ | ⟨y1, rfl⟩
      · refine ⟨_, sq, run 1 (fun _ => rfl) (fun e => absurd (congrArg nI y1) e), ?_, Nat.le_refl _, fun i c hi => ?_⟩
        · simp only [mt_sI, mt_sJ, mt_sP, mt_rI, mt_rJ, ml_sI, ml_sJ, ml_sP, ml_rI, ml_rJ, mP_sI, mP_sJ, mP_rI, mP_rJ, SHP_sI, SHP_sJ, SHP_rI, SHP_rJ, mI_sI, mI_rI, mI_sJ, mI_rJ, mI_sP, mJ_sI, mJ_rI, mJ_sP, mJ_sJ, mJ_rJ, gI_e, pI_e, ck_e, bnd_s, nm_eq, pr2_e, cnul_0, cnul_1, drf_1, sm_1, sm_2, aI_e, aJ_e, wI_e, wJ_e, aL_e, cpI_e, cpJ_e, Nat.reduceLeDiff, Nat.reduceEqDiff, Nat.add_left_cancel_iff, ad0, ad1, false_and, and_false, true_and, and_true, reduceIte, if_true, if_false, zb0, zb1, Int32.reduceLT, Int32.reduceLE, i10, nw1, nw2, nt1, nt2, not_true_eq_false, not_false_eq_true]; rfl
        · cases i with
          | zero =>
            cases hi
            exact e4.fr s2 (fun a h1 h2 z => by omega) (fun k h1 z => by omega) (by omega)
          | succ i => cases hi
      · refine ⟨_, sq, run 0 (fun e => ?_) (fun _ => rfl), ?_⟩
        · exact absurd ((nI_eq (by omega) (by omega)).mp e) y1
        · simp only [e2, mt_sI, mt_sJ, mt_sP, mt_rI, mt_rJ, ml_sI, ml_sJ, ml_sP, ml_rI, ml_rJ, mP_sI, mP_sJ, mP_rI, mP_rJ, SHP_sI, SHP_sJ, SHP_rI, SHP_rJ, mI_sI, mI_rI, mI_sJ, mI_rJ, mI_sP, mJ_sI, mJ_rI, mJ_sP, mJ_sJ, mJ_rJ, gI_e, pI_e, ck_e, bnd_s, nm_eq, pr2_e, cnul_0, cnul_1, drf_1, sm_1, sm_2, aI_e, aJ_e, wI_e, wJ_e, aL_e, cpI_e, cpJ_e, Nat.reduceLeDiff, Nat.reduceEqDiff, Nat.add_left_cancel_iff, ad0, ad1, false_and, and_false, true_and, and_true, reduceIte, if_true, if_false, zb0, zb1, Int32.reduceLT, Int32.reduceLE, i10, nw1, nw2, nt1, nt2, not_true_eq_false, not_false_eq_true]
  | succ k ih =>
    intro n hkn p f N r hT h10 hp h20 hbf hcap x
    have hS := hT.1
    have hL := hT.2.1.1
    have i1 : (10 : Int32) * nI b + nI n = nI (10 * b + n) := by
      have : (10 : Int32) * nI b = nI (10 * b) := nI_mul 10 b
      rw [this, nI_add]
    have zc : ∀ a k, Zcm (10 * b + n) f a k → Zgm b n f a k := fun a k z => by unfold Zcm at z; unfold Zgm; omega
    rcases x with ⟨q, x, rfl⟩ | ⟨q, cl, x, y⟩
    · obtain ⟨N1, s1, e1, e2⟩ := mC_e hT hb5 hbf (c := 10 * b + n) (by omega) h20 h10 hp hcap x
      refine ⟨N1, s1.mono zc, fun j hj => ?_, e2⟩
      obtain ⟨j, rfl⟩ : ∃ j', j = j' + 1 := ⟨j - 1, by omega⟩
      refine itr_exit ?_
      show lp_X9_goesText_15 (o + 78) (nI b) (nI n) N = _
      simp only [lp_X9_goesText_15, i1, e1, mt_sI, mt_sJ, mt_sP, mt_rI, mt_rJ, ml_sI, ml_sJ, ml_sP, ml_rI, ml_rJ, mP_sI, mP_sJ, mP_rI, mP_rJ, SHP_sI, SHP_sJ, SHP_rI, SHP_rJ, mI_sI, mI_rI, mI_sJ, mI_rJ, mI_sP, mJ_sI, mJ_rI, mJ_sP, mJ_sJ, mJ_rJ, gI_e, pI_e, ck_e, bnd_s, nm_eq, pr2_e, cnul_0, cnul_1, drf_1, sm_1, sm_2, aI_e, aJ_e, wI_e, wJ_e, aL_e, cpI_e, cpJ_e, Nat.reduceLeDiff, Nat.reduceEqDiff, Nat.add_left_cancel_iff, ad0, ad1, false_and, and_false, true_and, and_true, reduceIte, if_true, if_false, zb0, zb1, Int32.reduceLT, Int32.reduceLE, i10, nw1, nw2, nt1, nt2, not_true_eq_false, not_false_eq_true, mt_78, mt_79, ml_79, mt_80, ml_80, mt_81, ml_81, mt_82, ml_82, mt_83, ml_83, mt_84, ml_84, mt_85, ml_85, mt_86, ml_86, mt_87, ml_87, mt_88, ml_88, mt_89, ml_89, mt_90, ml_90, mt_91, ml_91, mt_92, ml_92, mt_93, ml_93, mt_94, ml_94, mt_95, ml_95, mt_96, ml_96, mt_97, ml_97, mt_98, ml_98, mt_99, ml_99, mt_100, ml_100, mt_101, ml_101, mt_102, ml_102, mt_103, ml_103, mt_104, ml_104, mt_105, ml_105, mt_106, ml_106, mt_107, ml_107, mt_108, ml_108, mt_109, ml_109, mt_110, ml_110, mt_111, ml_111, mt_112, ml_112, mt_113, ml_113, mt_114, ml_114, mt_115, ml_115, mt_116, ml_116, mt_117, ml_117, mt_118, ml_118, mt_119, ml_119, mt_120, ml_120, mt_121, ml_121, mt_122, ml_122, mt_123, ml_123, gP_78_2, gP_78_3, gP_78_4, gP_78_5, gP_78_6, gP_78_12, gP_78_13, gP_78_14, gP_78_15, gP_78_16, gP_78_17, gP_78_18, gP_78_19, gP_78_23, gP_78_24, gP_78_26, gP_78_27, gP_78_28, gP_78_31, gP_78_32, gP_78_34, gP_78_35, gP_78_36, gP_78_37, gP_78_40, gP_78_41, gP_78_42, gP_78_43, gP_78_52, gP_78_53, gP_78_54, gP_78_55, gP_78_56, gP_78_57, gP_78_58, gP_78_59, gP_78_60, gP_78_61, gP_78_62, gP_78_63, gP_78_65, gP_78_66, gP_78_67, gP_78_68, gP_78_69, hS]
    · obtain ⟨N1, s1, e1, e2, e3, e4, e5⟩ := mC_e hT hb5 hbf (c := 10 * b + n) (by omega) h20 h10 hp hcap x
      have hS1 := s1.shp hS
      obtain ⟨-, hq, -⟩ := PC_r hT.2.1 hp x
      have e5 : f + cl.2.2.length ≤ 100 * b + q := e5
      have h9 : mI N1 (o + 78) 9 = nI L := (s1.2.2.2.2 78 9 (by unfold Zcm; omega)).trans hT.2.2.1
      obtain ⟨N2, hN2⟩ : ∃ N2, N2 = sI N1 (o + 85) b (nI (n + 1)) := ⟨_, rfl⟩
      have hN2' := hN2.symm
      have s2 : SQ N1 N2 o (fun a k => a = 85 ∧ k = b) := by rw [hN2]; exact SQ.rfl.sI ⟨rfl, rfl⟩
      have sq : SQ N N2 o (Zgm b n f) := (s1.mono zc).trans (s2.mono fun a k z => by unfold Zgm; omega)
      have hT2 : TM N2 o P L := hT.fr (sq.mono fun a k z => by unfold Zgm at z; unfold Zmr; omega)
      have hS2 := hT2.1
      have i2 : nI n + 1 = nI (n + 1) := nI_1 n
      have i3 : ¬ nI (n + 1) = 10 := by
        have : ¬ nI (n + 1) = nI 10 := by rw [nI_eq (by omega) (by omega)]; omega
        exact this
      have hb6 : b < 6 := by omega
      have p2 : mI N2 (o + 78) 10 = nI q := by rw [hN2]; simp only [e2, mt_sI, mt_sJ, mt_sP, mt_rI, mt_rJ, ml_sI, ml_sJ, ml_sP, ml_rI, ml_rJ, mP_sI, mP_sJ, mP_rI, mP_rJ, SHP_sI, SHP_sJ, SHP_rI, SHP_rJ, mI_sI, mI_rI, mI_sJ, mI_rJ, mI_sP, mJ_sI, mJ_rI, mJ_sP, mJ_sJ, mJ_rJ, gI_e, pI_e, ck_e, bnd_s, nm_eq, pr2_e, cnul_0, cnul_1, drf_1, sm_1, sm_2, aI_e, aJ_e, wI_e, wJ_e, aL_e, cpI_e, cpJ_e, Nat.reduceLeDiff, Nat.reduceEqDiff, Nat.add_left_cancel_iff, ad0, ad1, false_and, and_false, true_and, and_true, reduceIte, if_true, if_false, zb0, zb1, Int32.reduceLT, Int32.reduceLE, i10, nw1, nw2, nt1, nt2, not_true_eq_false, not_false_eq_true]
      have f2 : mI N2 (o + 78) 20 = nI (f + cl.2.2.length) := by rw [hN2]; simp only [e3, mt_sI, mt_sJ, mt_sP, mt_rI, mt_rJ, ml_sI, ml_sJ, ml_sP, ml_rI, ml_rJ, mP_sI, mP_sJ, mP_rI, mP_rJ, SHP_sI, SHP_sJ, SHP_rI, SHP_rJ, mI_sI, mI_rI, mI_sJ, mI_rJ, mI_sP, mJ_sI, mJ_rI, mJ_sP, mJ_sJ, mJ_rJ, gI_e, pI_e, ck_e, bnd_s, nm_eq, pr2_e, cnul_0, cnul_1, drf_1, sm_1, sm_2, aI_e, aJ_e, wI_e, wJ_e, aL_e, cpI_e, cpJ_e, Nat.reduceLeDiff, Nat.reduceEqDiff, Nat.add_left_cancel_iff, ad0, ad1, false_and, and_false, true_and, and_true, reduceIte, if_true, if_false, zb0, zb1, Int32.reduceLT, Int32.reduceLE, i10, nw1, nw2, nt1, nt2, not_true_eq_false, not_false_eq_true]
      have l2 : mI N2 (o + 78) 9 = nI L := hT2.2.2.1
      have r2 : ROW N2 o (10 * b + n) (f + cl.2.2.length) cl := e4.fr s2 (fun a h1 h2 z => by omega) (fun k h1 z => by omega) (Nat.le_refl _)
      rcases y with ⟨y1, rfl⟩ | ⟨y1, y2, rfl⟩ | ⟨y1, y2, y3⟩
      · refine ⟨N2, sq, fun j hj => ?_, ?_, by show 1 ≤ k + 2; omega, fun i c hi => ?_⟩
        · obtain ⟨j, rfl⟩ : ∃ j', j = j' + 1 := ⟨j - 1, by omega⟩
          refine itr_exit ?_
          show lp_X9_goesText_15 (o + 78) (nI b) (nI n) N = _
          rw [y1] at p2
          simp only [lp_X9_goesText_15, i1, e1, i2, hN2', p2, l2, hb6, mt_sI, mt_sJ, mt_sP, mt_rI, mt_rJ, ml_sI, ml_sJ, ml_sP, ml_rI, ml_rJ, mP_sI, mP_sJ, mP_rI, mP_rJ, SHP_sI, SHP_sJ, SHP_rI, SHP_rJ, mI_sI, mI_rI, mI_sJ, mI_rJ, mI_sP, mJ_sI, mJ_rI, mJ_sP, mJ_sJ, mJ_rJ, gI_e, pI_e, ck_e, bnd_s, nm_eq, pr2_e, cnul_0, cnul_1, drf_1, sm_1, sm_2, aI_e, aJ_e, wI_e, wJ_e, aL_e, cpI_e, cpJ_e, Nat.reduceLeDiff, Nat.reduceEqDiff, Nat.add_left_cancel_iff, ad0, ad1, false_and, and_false, true_and, and_true, reduceIte, if_true, if_false, zb0, zb1, Int32.reduceLT, Int32.reduceLE, i10, nw1, nw2, nt1, nt2, not_true_eq_false, not_false_eq_true, mt_78, mt_79, ml_79, mt_80, ml_80, mt_81, ml_81, mt_82, ml_82, mt_83, ml_83, mt_84, ml_84, mt_85, ml_85, mt_86, ml_86, mt_87, ml_87, mt_88, ml_88, mt_89, ml_89, mt_90, ml_90, mt_91, ml_91, mt_92, ml_92, mt_93, ml_93, mt_94, ml_94, mt_95, ml_95, mt_96, ml_96, mt_97, ml_97, mt_98, ml_98, mt_99, ml_99, mt_100, ml_100, mt_101, ml_101, mt_102, ml_102, mt_103, ml_103, mt_104, ml_104, mt_105, ml_105, mt_106, ml_106, mt_107, ml_107, mt_108, ml_108, mt_109, ml_109, mt_110, ml_110, mt_111, ml_111, mt_112, ml_112, mt_113, ml_113, mt_114, ml_114, mt_115, ml_115, mt_116, ml_116, mt_117, ml_117, mt_118, ml_118, mt_119, ml_119, mt_120, ml_120, mt_121, ml_121, mt_122, ml_122, mt_123, ml_123, gP_78_2, gP_78_3, gP_78_4, gP_78_5, gP_78_6, gP_78_12, gP_78_13, gP_78_14, gP_78_15, gP_78_16, gP_78_17, gP_78_18, gP_78_19, gP_78_23, gP_78_24, gP_78_26, gP_78_27, gP_78_28, gP_78_31, gP_78_32, gP_78_34, gP_78_35, gP_78_36, gP_78_37, gP_78_40, gP_78_41, gP_78_42, gP_78_43, gP_78_52, gP_78_53, gP_78_54, gP_78_55, gP_78_56, gP_78_57, gP_78_58, gP_78_59, gP_78_60, gP_78_61, gP_78_62, gP_78_63, gP_78_65, gP_78_66, gP_78_67, gP_78_68, gP_78_69, hS, hS1, hS2]
        · rw [hN2]; simp only [mt_sI, mt_sJ, mt_sP, mt_rI, mt_rJ, ml_sI, ml_sJ, ml_sP, ml_rI, ml_rJ, mP_sI, mP_sJ, mP_rI, mP_rJ, SHP_sI, SHP_sJ, SHP_rI, SHP_rJ, mI_sI, mI_rI, mI_sJ, mI_rJ, mI_sP, mJ_sI, mJ_rI, mJ_sP, mJ_sJ, mJ_rJ, gI_e, pI_e, ck_e, bnd_s, nm_eq, pr2_e, cnul_0, cnul_1, drf_1, sm_1, sm_2, aI_e, aJ_e, wI_e, wJ_e, aL_e, cpI_e, cpJ_e, Nat.reduceLeDiff, Nat.reduceEqDiff, Nat.add_left_cancel_iff, ad0, ad1, false_and, and_false, true_and, and_true, reduceIte, if_true, if_false, zb0, zb1, Int32.reduceLT, Int32.reduceLE, i10, nw1, nw2, nt1, nt2, not_true_eq_false, not_false_eq_true]; rfl
        · cases i with
          | zero =>
            cases hi
            exact r2.fr SQ.rfl (Z := fun _ _ => False) (fun a h1 h2 z => z) (fun k h1 z => z) (by omega)
          | succ i => cases hi
      · have g : ¬ nI q = nI L := fun e => y1 ((nI_eq (by omega) (by omega)).mp e)
        have t : fn_X9_takes N2 (o + 78) 59 = _ := mtk_n hT2 p2 hq (c := 59) (by decide) y2
        refine ⟨N2, sq, fun j hj => ?_, p2⟩
        obtain ⟨j, rfl⟩ : ∃ j', j = j' + 1 := ⟨j - 1, by omega⟩
        refine itr_exit ?_
        show lp_X9_goesText_15 (o + 78) (nI b) (nI n) N = _
        simp only [lp_X9_goesText_15, i1, e1, i2, hN2', p2, l2, g, i3, t, hb6, mt_sI, mt_sJ, mt_sP, mt_rI, mt_rJ, ml_sI, ml_sJ, ml_sP, ml_rI, ml_rJ, mP_sI, mP_sJ, mP_rI, mP_rJ, SHP_sI, SHP_sJ, SHP_rI, SHP_rJ, mI_sI, mI_rI, mI_sJ, mI_rJ, mI_sP, mJ_sI, mJ_rI, mJ_sP, mJ_sJ, mJ_rJ, gI_e, pI_e, ck_e, bnd_s, nm_eq, pr2_e, cnul_0, cnul_1, drf_1, sm_1, sm_2, aI_e, aJ_e, wI_e, wJ_e, aL_e, cpI_e, cpJ_e, Nat.reduceLeDiff, Nat.reduceEqDiff, Nat.add_left_cancel_iff, ad0, ad1, false_and, and_false, true_and, and_true, reduceIte, if_true, if_false, zb0, zb1, Int32.reduceLT, Int32.reduceLE, i10, nw1, nw2, nt1, nt2, not_true_eq_false, not_false_eq_true, mt_78, mt_79, ml_79, mt_80, ml_80, mt_81, ml_81, mt_82, ml_82, mt_83, ml_83, mt_84, ml_84, mt_85, ml_85, mt_86, ml_86, mt_87, ml_87, mt_88, ml_88, mt_89, ml_89, mt_90, ml_90, mt_91, ml_91, mt_92, ml_92, mt_93, ml_93, mt_94, ml_94, mt_95, ml_95, mt_96, ml_96, mt_97, ml_97, mt_98, ml_98, mt_99, ml_99, mt_100, ml_100, mt_101, ml_101, mt_102, ml_102, mt_103, ml_103, mt_104, ml_104, mt_105, ml_105, mt_106, ml_106, mt_107, ml_107, mt_108, ml_108, mt_109, ml_109, mt_110, ml_110, mt_111, ml_111, mt_112, ml_112, mt_113, ml_113, mt_114, ml_114, mt_115, ml_115, mt_116, ml_116, mt_117, ml_117, mt_118, ml_118, mt_119, ml_119, mt_120, ml_120, mt_121, ml_121, mt_122, ml_122, mt_123, ml_123, gP_78_2, gP_78_3, gP_78_4, gP_78_5, gP_78_6, gP_78_12, gP_78_13, gP_78_14, gP_78_15, gP_78_16, gP_78_17, gP_78_18, gP_78_19, gP_78_23, gP_78_24, gP_78_26, gP_78_27, gP_78_28, gP_78_31, gP_78_32, gP_78_34, gP_78_35, gP_78_36, gP_78_37, gP_78_40, gP_78_41, gP_78_42, gP_78_43, gP_78_52, gP_78_53, gP_78_54, gP_78_55, gP_78_56, gP_78_57, gP_78_58, gP_78_59, gP_78_60, gP_78_61, gP_78_62, gP_78_63, gP_78_65, gP_78_66, gP_78_67, gP_78_68, gP_78_69, hS, hS1, hS2]
      · have g : ¬ nI q = nI L := fun e => y1 ((nI_eq (by omega) (by omega)).mp e)
        have t : fn_X9_takes N2 (o + 78) 59 = _ := mtk_y hT2 p2 (c := 59) (by decide) y2
        have hq2 : q < L := hT.2.1.lt (by omega)
        obtain ⟨N3, hN3⟩ : ∃ N3, N3 = sI N2 (o + 78) 10 (nI (q + 1)) := ⟨_, rfl⟩
        have hN3' := hN3.symm
        have s3 : SQ N2 N3 o Zat := by rw [hN3]; exact SQ.rfl.sI (by unfold Zat; omega)
        have sq3 : SQ N N3 o (Zgm b n f) := sq.trans (s3.mono fun a k z => by unfold Zat at z; unfold Zgm; omega)
        have hT3 : TM N3 o P L := hT2.fa s3
        have p3 : mI N3 (o + 78) 10 = nI (q + 1) := by rw [hN3]; simp only [mt_sI, mt_sJ, mt_sP, mt_rI, mt_rJ, ml_sI, ml_sJ, ml_sP, ml_rI, ml_rJ, mP_sI, mP_sJ, mP_rI, mP_rJ, SHP_sI, SHP_sJ, SHP_rI, SHP_rJ, mI_sI, mI_rI, mI_sJ, mI_rJ, mI_sP, mJ_sI, mJ_rI, mJ_sP, mJ_sJ, mJ_rJ, gI_e, pI_e, ck_e, bnd_s, nm_eq, pr2_e, cnul_0, cnul_1, drf_1, sm_1, sm_2, aI_e, aJ_e, wI_e, wJ_e, aL_e, cpI_e, cpJ_e, Nat.reduceLeDiff, Nat.reduceEqDiff, Nat.add_left_cancel_iff, ad0, ad1, false_and, and_false, true_and, and_true, reduceIte, if_true, if_false, zb0, zb1, Int32.reduceLT, Int32.reduceLE, i10, nw1, nw2, nt1, nt2, not_true_eq_false, not_false_eq_true]
        have f3 : mI N3 (o + 78) 20 = nI (f + cl.2.2.length) := by rw [hN3]; simp only [f2, mt_sI, mt_sJ, mt_sP, mt_rI, mt_rJ, ml_sI, ml_sJ, ml_sP, ml_rI, ml_rJ, mP_sI, mP_sJ, mP_rI, mP_rJ, SHP_sI, SHP_sJ, SHP_rI, SHP_rJ, mI_sI, mI_rI, mI_sJ, mI_rJ, mI_sP, mJ_sI, mJ_rI, mJ_sP, mJ_sJ, mJ_rJ, gI_e, pI_e, ck_e, bnd_s, nm_eq, pr2_e, cnul_0, cnul_1, drf_1, sm_1, sm_2, aI_e, aJ_e, wI_e, wJ_e, aL_e, cpI_e, cpJ_e, Nat.reduceLeDiff, Nat.reduceEqDiff, Nat.add_left_cancel_iff, ad0, ad1, false_and, and_false, true_and, and_true, reduceIte, if_true, if_false, zb0, zb1, Int32.reduceLT, Int32.reduceLE, i10, nw1, nw2, nt1, nt2, not_true_eq_false, not_false_eq_true]
        have r3 : ROW N3 o (10 * b + n) (f + cl.2.2.length) cl := r2.fr s3 (fun a h1 h2 z => by unfold Zat at z; omega) (fun k h1 z => by unfold Zat at z; omega) (Nat.le_refl _)
        have step : lpT o b (nI n, N) = some (.inl (nI (n + 1), N3)) := by
          show lp_X9_goesText_15 (o + 78) (nI b) (nI n) N = _
          simp only [lp_X9_goesText_15, i1, e1, i2, hN2', p2, l2, g, i3, t, hN3', hb6, mt_sI, mt_sJ, mt_sP, mt_rI, mt_rJ, ml_sI, ml_sJ, ml_sP, ml_rI, ml_rJ, mP_sI, mP_sJ, mP_rI, mP_rJ, SHP_sI, SHP_sJ, SHP_rI, SHP_rJ, mI_sI, mI_rI, mI_sJ, mI_rJ, mI_sP, mJ_sI, mJ_rI, mJ_sP, mJ_sJ, mJ_rJ, gI_e, pI_e, ck_e, bnd_s, nm_eq, pr2_e, cnul_0, cnul_1, drf_1, sm_1, sm_2, aI_e, aJ_e, wI_e, wJ_e, aL_e, cpI_e, cpJ_e, Nat.reduceLeDiff, Nat.reduceEqDiff, Nat.add_left_cancel_iff, ad0, ad1, false_and, and_false, true_and, and_true, reduceIte, if_true, if_false, zb0, zb1, Int32.reduceLT, Int32.reduceLE, i10, nw1, nw2, nt1, nt2, not_true_eq_false, not_false_eq_true, mt_78, mt_79, ml_79, mt_80, ml_80, mt_81, ml_81, mt_82, ml_82, mt_83, ml_83, mt_84, ml_84, mt_85, ml_85, mt_86, ml_86, mt_87, ml_87, mt_88, ml_88, mt_89, ml_89, mt_90, ml_90, mt_91, ml_91, mt_92, ml_92, mt_93, ml_93, mt_94, ml_94, mt_95, ml_95, mt_96, ml_96, mt_97, ml_97, mt_98, ml_98, mt_99, ml_99, mt_100, ml_100, mt_101, ml_101, mt_102, ml_102, mt_103, ml_103, mt_104, ml_104, mt_105, ml_105, mt_106, ml_106, mt_107, ml_107, mt_108, ml_108, mt_109, ml_109, mt_110, ml_110, mt_111, ml_111, mt_112, ml_112, mt_113, ml_113, mt_114, ml_114, mt_115, ml_115, mt_116, ml_116, mt_117, ml_117, mt_118, ml_118, mt_119, ml_119, mt_120, ml_120, mt_121, ml_121, mt_122, ml_122, mt_123, ml_123, gP_78_2, gP_78_3, gP_78_4, gP_78_5, gP_78_6, gP_78_12, gP_78_13, gP_78_14, gP_78_15, gP_78_16, gP_78_17, gP_78_18, gP_78_19, gP_78_23, gP_78_24, gP_78_26, gP_78_27, gP_78_28, gP_78_31, gP_78_32, gP_78_34, gP_78_35, gP_78_36, gP_78_37, gP_78_40, gP_78_41, gP_78_42, gP_78_43, gP_78_52, gP_78_53, gP_78_54, gP_78_55, gP_78_56, gP_78_57, gP_78_58, gP_78_59, gP_78_60, gP_78_61, gP_78_62, gP_78_63, gP_78_65, gP_78_66, gP_78_67, gP_78_68, gP_78_69, hS, hS1, hS2]
        have zn : ∀ a k, Zgm b (n + 1) (f + cl.2.2.length) a k → Zgm b n f a k := fun a k z => by unfold Zgm at z; unfold Zgm; omega
        rcases y3 with ⟨q2, y3, rfl⟩ | ⟨cs, y3, rfl⟩
        · obtain ⟨N4, u1, u2, u3⟩ := ih (n + 1) (by omega) (q + 1) _ N3 _ hT3 p3 hq2 f3 (by omega) (by omega) y3
          refine ⟨N4, sq3.trans (u1.mono zn), fun j hj => ?_, u3⟩
          obtain ⟨j, rfl⟩ : ∃ j', j = j' + 1 := ⟨j - 1, by omega⟩
          exact (itr_go step).trans (u2 j (by omega))
        · obtain ⟨N4, u1, u2, u3, u4, u5⟩ := ih (n + 1) (by omega) (q + 1) _ N3 _ hT3 p3 hq2 f3 (by omega) (by omega) y3
          refine ⟨N4, sq3.trans (u1.mono zn), fun j hj => ?_, ?_, by show cs.length + 1 ≤ k + 2; omega, fun i c hi => ?_⟩
          · obtain ⟨j, rfl⟩ : ∃ j', j = j' + 1 := ⟨j - 1, by omega⟩
            exact (itr_go step).trans (u2 j (by omega))
          · rw [u3]
            show nI _ = nI (n + (cs.length + 1))
            exact congrArg nI (by omega)
          · cases i with
            | zero =>
              cases hi
              exact r3.fr u1 (fun a h1 h2 z => by unfold Zgm at z; omega) (fun k h1 z => by unfold Zgm at z; omega) (by omega)
            | succ i =>
              have hi : cs[i]? = some c := hi
              have := u5 i c hi
              rw [show 10 * b + (n + 1) + i = 10 * b + n + (i + 1) by omega] at this
              exact this
def Zbm (b : Nat) : Nat → Nat → Prop := fun a k => (a = 78 ∧ (k = 9 ∨ k = 10 ∨ k = 11 ∨ k = 20 ∨ k = 21 ∨ k = 22)) ∨ (a = 85 ∧ k = b) ∨ ((86 ≤ a ∧ a ≤ 89) ∧ 10 * b ≤ k) ∨ (a = 90 ∧ 100 * b ≤ k) ∨ a = 91
/-- the reference's brew -/
theorem mB_e (hT : TM N o P L) (hb5 : b ≤ 5) (h7 : mI N (o + 78) 7 = nI b) {r : Nat ⊕ List CLA} (x : PG P L 9 0 r) : ∃ N', SQ N N' o (Zbm b) ∧ mI N' (o + 78) 9 = 0 ∧ match r with
    | .inl q => fn_X9_brew N (o + 78) = some (-10 - nI q, N')
    | .inr cs => fn_X9_brew N (o + 78) = some (nI b, sI (sI N' (o + 78) 8 (nI b)) (o + 78) 7 (nI (b + 1))) ∧ mI N' (o + 85) b = nI cs.length ∧ cs.length ≤ 10 ∧ ∀ i q, cs[i]? = some q → ROW N' o (10 * b + i) (100 * (b + 1)) q := by
  have hS := hT.1
  have g6 : ¬ nI b = 6 := by
    have : ¬ nI b = nI 6 := by rw [nI_eq (by omega) (by omega)]; omega
    exact this
  have g100 : (100 : Int32) * nI b = nI (100 * b) := nI_mul 100 b
  obtain ⟨M1, hM1⟩ : ∃ M1, M1 = sI (sI N (o + 78) 10 0) (o + 78) 20 (nI (100 * b)) := ⟨_, rfl⟩
  have hM1' := hM1.symm
  have s1 : SQ N M1 o (Zgm b 0 (100 * b)) := by rw [hM1]; exact (SQ.rfl.sI (by unfold Zgm; omega)).sI (by unfold Zgm; omega)
  have hT1 : TM M1 o P L := hT.fr (s1.mono fun a k z => by unfold Zgm at z; unfold Zmr; omega)
  obtain ⟨N1, u1, u2⟩ := mG_e hb5 9 0 rfl 0 (100 * b) M1 r hT1 (by rw [hM1]; simp only [mt_sI, mt_sJ, mt_sP, mt_rI, mt_rJ, ml_sI, ml_sJ, ml_sP, ml_rI, ml_rJ, mP_sI, mP_sJ, mP_rI, mP_rJ, SHP_sI, SHP_sJ, SHP_rI, SHP_rJ, mI_sI, mI_rI, mI_sJ, mI_rJ, mI_sP, mJ_sI, mJ_rI, mJ_sP, mJ_sJ, mJ_rJ, gI_e, pI_e, ck_e, bnd_s, nm_eq, pr2_e, cnul_0, cnul_1, drf_1, sm_1, sm_2, aI_e, aJ_e, wI_e, wJ_e, aL_e, cpI_e, cpJ_e, Nat.reduceLeDiff, Nat.reduceEqDiff, Nat.add_left_cancel_iff, ad0, ad1, false_and, and_false, true_and, and_true, reduceIte, if_true, if_false, zb0, zb1, Int32.reduceLT, Int32.reduceLE, i10, nw1, nw2, nt1, nt2, not_true_eq_false, not_false_eq_true]; rfl) (Nat.zero_le _) (by rw [hM1]; simp only [mt_sI, mt_sJ, mt_sP, mt_rI, mt_rJ, ml_sI, ml_sJ, ml_sP, ml_rI, ml_rJ, mP_sI, mP_sJ, mP_rI, mP_rJ, SHP_sI, SHP_sJ, SHP_rI, SHP_rJ, mI_sI, mI_rI, mI_sJ, mI_rJ, mI_sP, mJ_sI, mJ_rI, mJ_sP, mJ_sJ, mJ_rJ, gI_e, pI_e, ck_e, bnd_s, nm_eq, pr2_e, cnul_0, cnul_1, drf_1, sm_1, sm_2, aI_e, aJ_e, wI_e, wJ_e, aL_e, cpI_e, cpJ_e, Nat.reduceLeDiff, Nat.reduceEqDiff, Nat.add_left_cancel_iff, ad0, ad1, false_and, and_false, true_and, and_true, reduceIte, if_true, if_false, zb0, zb1, Int32.reduceLT, Int32.reduceLE, i10, nw1, nw2, nt1, nt2, not_true_eq_false, not_false_eq_true]) (Nat.le_refl _) (by omega) x
  have s2 : SQ N N1 o (Zgm b 0 (100 * b)) := s1.trans u1
  have hS1 := s2.shp hS
  have s3 : SQ N (sI N1 (o + 78) 9 0) o (Zbm b) := (s2.mono fun a k z => by unfold Zgm at z; unfold Zbm; omega).sI (by unfold Zbm; omega)
  have e7 : mI N1 (o + 78) 7 = nI b := (s2.2.2.2.2 78 7 (by unfold Zgm; omega)).trans h7
  have t : ∀ v : Int32, itr (lpT o b) FU (nI 0, M1) = some (v, N1) → fn_X9_goesText N (o + 78) (nI b) = some (v, N1) := fun v e => by
    have e : itr (fun s15 : Int32 × QM => lp_X9_goesText_15 (o + 78) (nI b) s15.1 s15.2) FU (0, M1) = some (v, N1) := e
    simp only [fn_X9_goesText, g100, hM1', e, mt_sI, mt_sJ, mt_sP, mt_rI, mt_rJ, ml_sI, ml_sJ, ml_sP, ml_rI, ml_rJ, mP_sI, mP_sJ, mP_rI, mP_rJ, SHP_sI, SHP_sJ, SHP_rI, SHP_rJ, mI_sI, mI_rI, mI_sJ, mI_rJ, mI_sP, mJ_sI, mJ_rI, mJ_sP, mJ_sJ, mJ_rJ, gI_e, pI_e, ck_e, bnd_s, nm_eq, pr2_e, cnul_0, cnul_1, drf_1, sm_1, sm_2, aI_e, aJ_e, wI_e, wJ_e, aL_e, cpI_e, cpJ_e, Nat.reduceLeDiff, Nat.reduceEqDiff, Nat.add_left_cancel_iff, ad0, ad1, false_and, and_false, true_and, and_true, reduceIte, if_true, if_false, zb0, zb1, Int32.reduceLT, Int32.reduceLE, i10, nw1, nw2, nt1, nt2, not_true_eq_false, not_false_eq_true, mt_78, mt_79, ml_79, mt_80, ml_80, mt_81, ml_81, mt_82, ml_82, mt_83, ml_83, mt_84, ml_84, mt_85, ml_85, mt_86, ml_86, mt_87, ml_87, mt_88, ml_88, mt_89, ml_89, mt_90, ml_90, mt_91, ml_91, mt_92, ml_92, mt_93, ml_93, mt_94, ml_94, mt_95, ml_95, mt_96, ml_96, mt_97, ml_97, mt_98, ml_98, mt_99, ml_99, mt_100, ml_100, mt_101, ml_101, mt_102, ml_102, mt_103, ml_103, mt_104, ml_104, mt_105, ml_105, mt_106, ml_106, mt_107, ml_107, mt_108, ml_108, mt_109, ml_109, mt_110, ml_110, mt_111, ml_111, mt_112, ml_112, mt_113, ml_113, mt_114, ml_114, mt_115, ml_115, mt_116, ml_116, mt_117, ml_117, mt_118, ml_118, mt_119, ml_119, mt_120, ml_120, mt_121, ml_121, mt_122, ml_122, mt_123, ml_123, gP_78_2, gP_78_3, gP_78_4, gP_78_5, gP_78_6, gP_78_12, gP_78_13, gP_78_14, gP_78_15, gP_78_16, gP_78_17, gP_78_18, gP_78_19, gP_78_23, gP_78_24, gP_78_26, gP_78_27, gP_78_28, gP_78_31, gP_78_32, gP_78_34, gP_78_35, gP_78_36, gP_78_37, gP_78_40, gP_78_41, gP_78_42, gP_78_43, gP_78_52, gP_78_53, gP_78_54, gP_78_55, gP_78_56, gP_78_57, gP_78_58, gP_78_59, gP_78_60, gP_78_61, gP_78_62, gP_78_63, gP_78_65, gP_78_66, gP_78_67, gP_78_68, gP_78_69, hS]
  refine ⟨_, s3, by simp only [mt_sI, mt_sJ, mt_sP, mt_rI, mt_rJ, ml_sI, ml_sJ, ml_sP, ml_rI, ml_rJ, mP_sI, mP_sJ, mP_rI, mP_rJ, SHP_sI, SHP_sJ, SHP_rI, SHP_rJ, mI_sI, mI_rI, mI_sJ, mI_rJ, mI_sP, mJ_sI, mJ_rI, mJ_sP, mJ_sJ, mJ_rJ, gI_e, pI_e, ck_e, bnd_s, nm_eq, pr2_e, cnul_0, cnul_1, drf_1, sm_1, sm_2, aI_e, aJ_e, wI_e, wJ_e, aL_e, cpI_e, cpJ_e, Nat.reduceLeDiff, Nat.reduceEqDiff, Nat.add_left_cancel_iff, ad0, ad1, false_and, and_false, true_and, and_true, reduceIte, if_true, if_false, zb0, zb1, Int32.reduceLT, Int32.reduceLE, i10, nw1, nw2, nt1, nt2, not_true_eq_false, not_false_eq_true], ?_⟩
  cases r with
  | inl q =>
    obtain ⟨v1, v2⟩ := u2
    have t := t 0 (v1 2048 (by decide))
    show fn_X9_brew N (o + 78) = _
    simp only [fn_X9_brew, h7, g6, t, v2, mt_sI, mt_sJ, mt_sP, mt_rI, mt_rJ, ml_sI, ml_sJ, ml_sP, ml_rI, ml_rJ, mP_sI, mP_sJ, mP_rI, mP_rJ, SHP_sI, SHP_sJ, SHP_rI, SHP_rJ, mI_sI, mI_rI, mI_sJ, mI_rJ, mI_sP, mJ_sI, mJ_rI, mJ_sP, mJ_sJ, mJ_rJ, gI_e, pI_e, ck_e, bnd_s, nm_eq, pr2_e, cnul_0, cnul_1, drf_1, sm_1, sm_2, aI_e, aJ_e, wI_e, wJ_e, aL_e, cpI_e, cpJ_e, Nat.reduceLeDiff, Nat.reduceEqDiff, Nat.add_left_cancel_iff, ad0, ad1, false_and, and_false, true_and, and_true, reduceIte, if_true, if_false, zb0, zb1, Int32.reduceLT, Int32.reduceLE, i10, nw1, nw2, nt1, nt2, not_true_eq_false, not_false_eq_true, mt_78, mt_79, ml_79, mt_80, ml_80, mt_81, ml_81, mt_82, ml_82, mt_83, ml_83, mt_84, ml_84, mt_85, ml_85, mt_86, ml_86, mt_87, ml_87, mt_88, ml_88, mt_89, ml_89, mt_90, ml_90, mt_91, ml_91, mt_92, ml_92, mt_93, ml_93, mt_94, ml_94, mt_95, ml_95, mt_96, ml_96, mt_97, ml_97, mt_98, ml_98, mt_99, ml_99, mt_100, ml_100, mt_101, ml_101, mt_102, ml_102, mt_103, ml_103, mt_104, ml_104, mt_105, ml_105, mt_106, ml_106, mt_107, ml_107, mt_108, ml_108, mt_109, ml_109, mt_110, ml_110, mt_111, ml_111, mt_112, ml_112, mt_113, ml_113, mt_114, ml_114, mt_115, ml_115, mt_116, ml_116, mt_117, ml_117, mt_118, ml_118, mt_119, ml_119, mt_120, ml_120, mt_121, ml_121, mt_122, ml_122, mt_123, ml_123, gP_78_2, gP_78_3, gP_78_4, gP_78_5, gP_78_6, gP_78_12, gP_78_13, gP_78_14, gP_78_15, gP_78_16, gP_78_17, gP_78_18, gP_78_19, gP_78_23, gP_78_24, gP_78_26, gP_78_27, gP_78_28, gP_78_31, gP_78_32, gP_78_34, gP_78_35, gP_78_36, gP_78_37, gP_78_40, gP_78_41, gP_78_42, gP_78_43, gP_78_52, gP_78_53, gP_78_54, gP_78_55, gP_78_56, gP_78_57, gP_78_58, gP_78_59, gP_78_60, gP_78_61, gP_78_62, gP_78_63, gP_78_65, gP_78_66, gP_78_67, gP_78_68, gP_78_69, hS, hS1]
  | inr cs =>
    obtain ⟨v1, v2, v3, v4⟩ := u2
    have t := t 1 (v1 2048 (by decide))
    have s4 : SQ N1 (sI N1 (o + 78) 9 0) o (fun a k => a = 78 ∧ k = 9) := SQ.rfl.sI ⟨rfl, rfl⟩
    refine ⟨?_, ?_, v3, fun i q hi => ?_⟩
    · simp only [fn_X9_brew, h7, e7, g6, t, nI_1, mt_sI, mt_sJ, mt_sP, mt_rI, mt_rJ, ml_sI, ml_sJ, ml_sP, ml_rI, ml_rJ, mP_sI, mP_sJ, mP_rI, mP_rJ, SHP_sI, SHP_sJ, SHP_rI, SHP_rJ, mI_sI, mI_rI, mI_sJ, mI_rJ, mI_sP, mJ_sI, mJ_rI, mJ_sP, mJ_sJ, mJ_rJ, gI_e, pI_e, ck_e, bnd_s, nm_eq, pr2_e, cnul_0, cnul_1, drf_1, sm_1, sm_2, aI_e, aJ_e, wI_e, wJ_e, aL_e, cpI_e, cpJ_e, Nat.reduceLeDiff, Nat.reduceEqDiff, Nat.add_left_cancel_iff, ad0, ad1, false_and, and_false, true_and, and_true, reduceIte, if_true, if_false, zb0, zb1, Int32.reduceLT, Int32.reduceLE, i10, nw1, nw2, nt1, nt2, not_true_eq_false, not_false_eq_true, mt_78, mt_79, ml_79, mt_80, ml_80, mt_81, ml_81, mt_82, ml_82, mt_83, ml_83, mt_84, ml_84, mt_85, ml_85, mt_86, ml_86, mt_87, ml_87, mt_88, ml_88, mt_89, ml_89, mt_90, ml_90, mt_91, ml_91, mt_92, ml_92, mt_93, ml_93, mt_94, ml_94, mt_95, ml_95, mt_96, ml_96, mt_97, ml_97, mt_98, ml_98, mt_99, ml_99, mt_100, ml_100, mt_101, ml_101, mt_102, ml_102, mt_103, ml_103, mt_104, ml_104, mt_105, ml_105, mt_106, ml_106, mt_107, ml_107, mt_108, ml_108, mt_109, ml_109, mt_110, ml_110, mt_111, ml_111, mt_112, ml_112, mt_113, ml_113, mt_114, ml_114, mt_115, ml_115, mt_116, ml_116, mt_117, ml_117, mt_118, ml_118, mt_119, ml_119, mt_120, ml_120, mt_121, ml_121, mt_122, ml_122, mt_123, ml_123, gP_78_2, gP_78_3, gP_78_4, gP_78_5, gP_78_6, gP_78_12, gP_78_13, gP_78_14, gP_78_15, gP_78_16, gP_78_17, gP_78_18, gP_78_19, gP_78_23, gP_78_24, gP_78_26, gP_78_27, gP_78_28, gP_78_31, gP_78_32, gP_78_34, gP_78_35, gP_78_36, gP_78_37, gP_78_40, gP_78_41, gP_78_42, gP_78_43, gP_78_52, gP_78_53, gP_78_54, gP_78_55, gP_78_56, gP_78_57, gP_78_58, gP_78_59, gP_78_60, gP_78_61, gP_78_62, gP_78_63, gP_78_65, gP_78_66, gP_78_67, gP_78_68, gP_78_69, hS, hS1]
    · rw [Nat.zero_add] at v2
      simp only [v2, mt_sI, mt_sJ, mt_sP, mt_rI, mt_rJ, ml_sI, ml_sJ, ml_sP, ml_rI, ml_rJ, mP_sI, mP_sJ, mP_rI, mP_rJ, SHP_sI, SHP_sJ, SHP_rI, SHP_rJ, mI_sI, mI_rI, mI_sJ, mI_rJ, mI_sP, mJ_sI, mJ_rI, mJ_sP, mJ_sJ, mJ_rJ, gI_e, pI_e, ck_e, bnd_s, nm_eq, pr2_e, cnul_0, cnul_1, drf_1, sm_1, sm_2, aI_e, aJ_e, wI_e, wJ_e, aL_e, cpI_e, cpJ_e, Nat.reduceLeDiff, Nat.reduceEqDiff, Nat.add_left_cancel_iff, ad0, ad1, false_and, and_false, true_and, and_true, reduceIte, if_true, if_false, zb0, zb1, Int32.reduceLT, Int32.reduceLE, i10, nw1, nw2, nt1, nt2, not_true_eq_false, not_false_eq_true]
    · exact (v4 i q hi).fr s4 (fun a h1 h2 z => by omega) (fun k h1 z => by omega) (Nat.le_refl _)
end MT1
