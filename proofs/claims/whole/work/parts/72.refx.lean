/-! ===== the reference's E, as a whole ===== -/
abbrev lpR (o c : Nat) : Int32 × QM → Option ((Int32 × QM) ⊕ (Int32 × QM)) := fun s22 => lp_X9_takesE_22 (o + 78) (nI c) s22.1 s22.2
theorem stp_33 {W : List Nat} : stp (33 :: W) = stp W := if_pos rfl
theorem zsw_33 {W : List Nat} : zsw (33 :: W) = 0 :: zsw W := if_pos rfl
theorem opn_1 {w : Nat} (W : List Nat) (hw : w = 33 ∨ w = 40) : opn (w :: W) = opn W + 1 := by
  show (if w = 33 ∨ w = 40 then 1 else 0) + opn W = _
  rw [if_pos hw, Nat.add_comm]
theorem AO_b {W : List Nat} (hb : ∀ w ∈ W, w < 2 ^ 31) (a b : Bool) : ∀ w ∈ wA a ++ (wO b ++ W), w < 2 ^ 31 := by
  intro w hw
  rcases List.mem_append.mp hw with hw | hw
  · cases a with
    | false => cases hw
    | true => rcases List.mem_cons.mp hw with rfl | hw; decide; cases hw
  · rcases List.mem_append.mp hw with hw | hw
    · cases b with
      | false => cases hw
      | true => rcases List.mem_cons.mp hw with rfl | hw; decide; cases hw
    · exact hb w hw
/-- it ends at q, at fault -/
def MF (M : QM) (o L c f p q : Nat) (N : QM) : Prop := ∃ N', (∀ j, L < j + p → itr (lpR o c) j (1, N) = some (0, N')) ∧ SQ M N' o (Zes c f) ∧ mI N' (o + 78) 10 = nI q
/-- what the reference's E does of one reading -/
def KM (M : QM) (o L b c f : Nat) (P : Nat → Nat) (md : MD) (d p : Nat) (r : RP) : Prop :=
  match md with
  | none => ∀ N W l, d = opn W → d ≤ 4 → p ≤ L → (∀ w ∈ W, w < 2 ^ 31) → f + l.length + W.length ≤ 100 * b + p → EST M N o c f p W l → (match r with
    | .inl q => MF M o L c f p q N
    | .inr y => ∃ N' k, k + p ≤ y.1 ∧ (∀ j, itr (lpR o c) (j + k) (1, N) = itr (lpR o c) j (0, N')) ∧ EST M N' o c f y.1 (stp W) (l ++ (y.2 ++ zsw W)) ∧ f + (l ++ (y.2 ++ zsw W)).length + (stp W).length ≤ 100 * b + y.1)
  | some ab => ∀ N W l, TP W → d = opn W → d ≤ 4 → p ≤ L → (∀ w ∈ W, w < 2 ^ 31) → f + l.length + (wA ab.1 ++ (wO ab.2 ++ W)).length ≤ 100 * b + p → EST M N o c f p (wA ab.1 ++ (wO ab.2 ++ W)) l → (match r with
    | .inl q => MF M o L c f p q N
    | .inr y => ∃ N2 N' k, k + p ≤ y.1 ∧ (∀ j, itr (lpR o c) (j + k) (1, N) = itr (lpR o c) j (0, N2)) ∧ (TM N2 o P L ∧ mI N2 (o + 78) 10 = nI y.1) ∧ (¬ P y.1 = 38 ∧ ¬ P y.1 = 124) ∧ fn_X9_settle N2 (o + 78) 124 = some N' ∧ EST M N' o c f y.1 W (l ++ y.2) ∧ f + (l ++ y.2).length + W.length ≤ 100 * b + y.1)
section ME2
variable {M N N1 N2 N3 : QM} {o L p q t m d n k j c f s w b : Nat} {P : Nat → Nat} {v y : Int32} {W l l2 : List Nat} {r : RP}
/-- a not or a bracket -/
theorem st_put (hT : TM M o P L) (hw : w = 33 ∨ w = 40) (h : EST M N o c f p W l) (hp : p ≤ L) (e : P p = w) (hd : opn W < 4) (hl : W.length < 101) : ∃ N', lpR o c (1, N) = some (.inl (1, N')) ∧ EST M N' o c f (p + 1) (w :: W) l := by
  have hN := h.tm hT
  have hS := hN.1
  obtain ⟨f1, -⟩ := nx_v hN h.2.1 hp
  have e1 := h.2.2.2.1.1
  have e2 := h.2.1
  have e3 := h.2.2.2.2
  have e4 : ¬ nI (opn W) = 4 := by
    have : ¬ nI (opn W) = nI 4 := by rw [nI_eq (by omega) (by omega)]; omega
    exact this
  refine ⟨_, ?_, h.put1 hw⟩
  show lp_X9_takesE_22 (o + 78) (nI c) 1 N = _
  rcases hw with rfl | rfl
  · rw [e] at f1
    have f1 : fn_X9_next N (o + 78) = some 33 := f1
    have e5 : nI 33 = 33 := rfl
    simp only [lp_X9_takesE_22, jn_X9_takesE_43_22, f1, e1, e2, e3, e4, e5, nI_1, hl, mt_sI, mt_sJ, mt_sP, mt_rI, mt_rJ, ml_sI, ml_sJ, ml_sP, ml_rI, ml_rJ, mP_sI, mP_sJ, mP_rI, mP_rJ, SHP_sI, SHP_sJ, SHP_rI, SHP_rJ, mI_sI, mI_rI, mI_sJ, mI_rJ, mI_sP, mJ_sI, mJ_rI, mJ_sP, mJ_sJ, mJ_rJ, gI_e, pI_e, ck_e, bnd_s, nm_eq, pr2_e, cnul_0, cnul_1, drf_1, sm_1, sm_2, aI_e, aJ_e, wI_e, wJ_e, aL_e, cpI_e, cpJ_e, Nat.reduceLeDiff, Nat.reduceEqDiff, Nat.add_left_cancel_iff, ad0, ad1, false_and, and_false, true_and, and_true, reduceIte, if_true, if_false, zb0, zb1, Int32.reduceLT, Int32.reduceLE, i10, nw1, nw2, nt1, nt2, not_true_eq_false, not_false_eq_true, mt_78, mt_79, ml_79, mt_80, ml_80, mt_81, ml_81, mt_82, ml_82, mt_83, ml_83, mt_84, ml_84, mt_85, ml_85, mt_86, ml_86, mt_87, ml_87, mt_88, ml_88, mt_89, ml_89, mt_90, ml_90, mt_91, ml_91, mt_92, ml_92, mt_93, ml_93, mt_94, ml_94, mt_95, ml_95, mt_96, ml_96, mt_97, ml_97, mt_98, ml_98, mt_99, ml_99, mt_100, ml_100, mt_101, ml_101, mt_102, ml_102, mt_103, ml_103, mt_104, ml_104, mt_105, ml_105, mt_106, ml_106, mt_107, ml_107, mt_108, ml_108, mt_109, ml_109, mt_110, ml_110, mt_111, ml_111, mt_112, ml_112, mt_113, ml_113, mt_114, ml_114, mt_115, ml_115, mt_116, ml_116, mt_117, ml_117, mt_118, ml_118, mt_119, ml_119, mt_120, ml_120, mt_121, ml_121, mt_122, ml_122, mt_123, ml_123, gP_78_2, gP_78_3, gP_78_4, gP_78_5, gP_78_6, gP_78_12, gP_78_13, gP_78_14, gP_78_15, gP_78_16, gP_78_17, gP_78_18, gP_78_19, gP_78_23, gP_78_24, gP_78_26, gP_78_27, gP_78_28, gP_78_31, gP_78_32, gP_78_34, gP_78_35, gP_78_36, gP_78_37, gP_78_40, gP_78_41, gP_78_42, gP_78_43, gP_78_52, gP_78_53, gP_78_54, gP_78_55, gP_78_56, gP_78_57, gP_78_58, gP_78_59, gP_78_60, gP_78_61, gP_78_62, gP_78_63, gP_78_65, gP_78_66, gP_78_67, gP_78_68, gP_78_69, hS]
  · rw [e] at f1
    have f1 : fn_X9_next N (o + 78) = some 40 := f1
    have e5 : nI 40 = 40 := rfl
    have e6 : ¬ (40 : Int32) = 33 := by decide
    simp only [lp_X9_takesE_22, jn_X9_takesE_43_22, f1, e1, e2, e3, e4, e5, e6, nI_1, hl, mt_sI, mt_sJ, mt_sP, mt_rI, mt_rJ, ml_sI, ml_sJ, ml_sP, ml_rI, ml_rJ, mP_sI, mP_sJ, mP_rI, mP_rJ, SHP_sI, SHP_sJ, SHP_rI, SHP_rJ, mI_sI, mI_rI, mI_sJ, mI_rJ, mI_sP, mJ_sI, mJ_rI, mJ_sP, mJ_sJ, mJ_rJ, gI_e, pI_e, ck_e, bnd_s, nm_eq, pr2_e, cnul_0, cnul_1, drf_1, sm_1, sm_2, aI_e, aJ_e, wI_e, wJ_e, aL_e, cpI_e, cpJ_e, Nat.reduceLeDiff, Nat.reduceEqDiff, Nat.add_left_cancel_iff, ad0, ad1, false_and, and_false, true_and, and_true, reduceIte, if_true, if_false, zb0, zb1, Int32.reduceLT, Int32.reduceLE, i10, nw1, nw2, nt1, nt2, not_true_eq_false, not_false_eq_true, mt_78, mt_79, ml_79, mt_80, ml_80, mt_81, ml_81, mt_82, ml_82, mt_83, ml_83, mt_84, ml_84, mt_85, ml_85, mt_86, ml_86, mt_87, ml_87, mt_88, ml_88, mt_89, ml_89, mt_90, ml_90, mt_91, ml_91, mt_92, ml_92, mt_93, ml_93, mt_94, ml_94, mt_95, ml_95, mt_96, ml_96, mt_97, ml_97, mt_98, ml_98, mt_99, ml_99, mt_100, ml_100, mt_101, ml_101, mt_102, ml_102, mt_103, ml_103, mt_104, ml_104, mt_105, ml_105, mt_106, ml_106, mt_107, ml_107, mt_108, ml_108, mt_109, ml_109, mt_110, ml_110, mt_111, ml_111, mt_112, ml_112, mt_113, ml_113, mt_114, ml_114, mt_115, ml_115, mt_116, ml_116, mt_117, ml_117, mt_118, ml_118, mt_119, ml_119, mt_120, ml_120, mt_121, ml_121, mt_122, ml_122, mt_123, ml_123, gP_78_2, gP_78_3, gP_78_4, gP_78_5, gP_78_6, gP_78_12, gP_78_13, gP_78_14, gP_78_15, gP_78_16, gP_78_17, gP_78_18, gP_78_19, gP_78_23, gP_78_24, gP_78_26, gP_78_27, gP_78_28, gP_78_31, gP_78_32, gP_78_34, gP_78_35, gP_78_36, gP_78_37, gP_78_40, gP_78_41, gP_78_42, gP_78_43, gP_78_52, gP_78_53, gP_78_54, gP_78_55, gP_78_56, gP_78_57, gP_78_58, gP_78_59, gP_78_60, gP_78_61, gP_78_62, gP_78_63, gP_78_65, gP_78_66, gP_78_67, gP_78_68, gP_78_69, hS]
/-- too deep -/
theorem st_full (hT : TM M o P L) (hw : w = 33 ∨ w = 40) (h : EST M N o c f p W l) (hp : p ≤ L) (e : P p = w) (hd : opn W = 4) : lpR o c (1, N) = some (.inr (0, N)) := by
  have hN := h.tm hT
  have hS := hN.1
  obtain ⟨f1, -⟩ := nx_v hN h.2.1 hp
  have e3 := h.2.2.2.2
  rw [hd] at e3
  have e3 : mI N (o + 78) 22 = 4 := e3
  show lp_X9_takesE_22 (o + 78) (nI c) 1 N = _
  rcases hw with rfl | rfl
  · rw [e] at f1
    have f1 : fn_X9_next N (o + 78) = some 33 := f1
    simp only [lp_X9_takesE_22, jn_X9_takesE_43_22, f1, e3, mt_sI, mt_sJ, mt_sP, mt_rI, mt_rJ, ml_sI, ml_sJ, ml_sP, ml_rI, ml_rJ, mP_sI, mP_sJ, mP_rI, mP_rJ, SHP_sI, SHP_sJ, SHP_rI, SHP_rJ, mI_sI, mI_rI, mI_sJ, mI_rJ, mI_sP, mJ_sI, mJ_rI, mJ_sP, mJ_sJ, mJ_rJ, gI_e, pI_e, ck_e, bnd_s, nm_eq, pr2_e, cnul_0, cnul_1, drf_1, sm_1, sm_2, aI_e, aJ_e, wI_e, wJ_e, aL_e, cpI_e, cpJ_e, Nat.reduceLeDiff, Nat.reduceEqDiff, Nat.add_left_cancel_iff, ad0, ad1, false_and, and_false, true_and, and_true, reduceIte, if_true, if_false, zb0, zb1, Int32.reduceLT, Int32.reduceLE, i10, nw1, nw2, nt1, nt2, not_true_eq_false, not_false_eq_true, mt_78, mt_79, ml_79, mt_80, ml_80, mt_81, ml_81, mt_82, ml_82, mt_83, ml_83, mt_84, ml_84, mt_85, ml_85, mt_86, ml_86, mt_87, ml_87, mt_88, ml_88, mt_89, ml_89, mt_90, ml_90, mt_91, ml_91, mt_92, ml_92, mt_93, ml_93, mt_94, ml_94, mt_95, ml_95, mt_96, ml_96, mt_97, ml_97, mt_98, ml_98, mt_99, ml_99, mt_100, ml_100, mt_101, ml_101, mt_102, ml_102, mt_103, ml_103, mt_104, ml_104, mt_105, ml_105, mt_106, ml_106, mt_107, ml_107, mt_108, ml_108, mt_109, ml_109, mt_110, ml_110, mt_111, ml_111, mt_112, ml_112, mt_113, ml_113, mt_114, ml_114, mt_115, ml_115, mt_116, ml_116, mt_117, ml_117, mt_118, ml_118, mt_119, ml_119, mt_120, ml_120, mt_121, ml_121, mt_122, ml_122, mt_123, ml_123, gP_78_2, gP_78_3, gP_78_4, gP_78_5, gP_78_6, gP_78_12, gP_78_13, gP_78_14, gP_78_15, gP_78_16, gP_78_17, gP_78_18, gP_78_19, gP_78_23, gP_78_24, gP_78_26, gP_78_27, gP_78_28, gP_78_31, gP_78_32, gP_78_34, gP_78_35, gP_78_36, gP_78_37, gP_78_40, gP_78_41, gP_78_42, gP_78_43, gP_78_52, gP_78_53, gP_78_54, gP_78_55, gP_78_56, gP_78_57, gP_78_58, gP_78_59, gP_78_60, gP_78_61, gP_78_62, gP_78_63, gP_78_65, gP_78_66, gP_78_67, gP_78_68, gP_78_69, hS]
  · rw [e] at f1
    have f1 : fn_X9_next N (o + 78) = some 40 := f1
    have e6 : ¬ (40 : Int32) = 33 := by decide
    simp only [lp_X9_takesE_22, jn_X9_takesE_43_22, f1, e3, e6, mt_sI, mt_sJ, mt_sP, mt_rI, mt_rJ, ml_sI, ml_sJ, ml_sP, ml_rI, ml_rJ, mP_sI, mP_sJ, mP_rI, mP_rJ, SHP_sI, SHP_sJ, SHP_rI, SHP_rJ, mI_sI, mI_rI, mI_sJ, mI_rJ, mI_sP, mJ_sI, mJ_rI, mJ_sP, mJ_sJ, mJ_rJ, gI_e, pI_e, ck_e, bnd_s, nm_eq, pr2_e, cnul_0, cnul_1, drf_1, sm_1, sm_2, aI_e, aJ_e, wI_e, wJ_e, aL_e, cpI_e, cpJ_e, Nat.reduceLeDiff, Nat.reduceEqDiff, Nat.add_left_cancel_iff, ad0, ad1, false_and, and_false, true_and, and_true, reduceIte, if_true, if_false, zb0, zb1, Int32.reduceLT, Int32.reduceLE, i10, nw1, nw2, nt1, nt2, not_true_eq_false, not_false_eq_true, mt_78, mt_79, ml_79, mt_80, ml_80, mt_81, ml_81, mt_82, ml_82, mt_83, ml_83, mt_84, ml_84, mt_85, ml_85, mt_86, ml_86, mt_87, ml_87, mt_88, ml_88, mt_89, ml_89, mt_90, ml_90, mt_91, ml_91, mt_92, ml_92, mt_93, ml_93, mt_94, ml_94, mt_95, ml_95, mt_96, ml_96, mt_97, ml_97, mt_98, ml_98, mt_99, ml_99, mt_100, ml_100, mt_101, ml_101, mt_102, ml_102, mt_103, ml_103, mt_104, ml_104, mt_105, ml_105, mt_106, ml_106, mt_107, ml_107, mt_108, ml_108, mt_109, ml_109, mt_110, ml_110, mt_111, ml_111, mt_112, ml_112, mt_113, ml_113, mt_114, ml_114, mt_115, ml_115, mt_116, ml_116, mt_117, ml_117, mt_118, ml_118, mt_119, ml_119, mt_120, ml_120, mt_121, ml_121, mt_122, ml_122, mt_123, ml_123, gP_78_2, gP_78_3, gP_78_4, gP_78_5, gP_78_6, gP_78_12, gP_78_13, gP_78_14, gP_78_15, gP_78_16, gP_78_17, gP_78_18, gP_78_19, gP_78_23, gP_78_24, gP_78_26, gP_78_27, gP_78_28, gP_78_31, gP_78_32, gP_78_34, gP_78_35, gP_78_36, gP_78_37, gP_78_40, gP_78_41, gP_78_42, gP_78_43, gP_78_52, gP_78_53, gP_78_54, gP_78_55, gP_78_56, gP_78_57, gP_78_58, gP_78_59, gP_78_60, gP_78_61, gP_78_62, gP_78_63, gP_78_65, gP_78_66, gP_78_67, gP_78_68, gP_78_69, hS]
theorem st_tn (hT : TM M o P L) (h : EST M N o c f p W l) (hp : p ≤ L) (e : ¬ P p = 33 ∧ ¬ P p = 40) (z : pT P p = .inl q) : ∃ N', lpR o c (1, N) = some (.inr (0, N')) ∧ SQ M N' o (Zes c f) ∧ mI N' (o + 78) 10 = nI q := by
  have hN := h.tm hT
  have hS := hN.1
  obtain ⟨f1, b1⟩ := nx_v hN h.2.1 hp
  have e1 : ¬ nxI (P p) = 33 := fun q => e.1 ((nxI_eq 33 (by decide) _ b1).mp q)
  have e2 : ¬ nxI (P p) = 40 := fun q => e.2 ((nxI_eq 40 (by decide) _ b1).mp q)
  obtain ⟨N', t1, t2, t3⟩ := mte_n hT h hp z
  have hS' := t2.shp hT.1
  refine ⟨N', ?_, t2, t3⟩
  show lp_X9_takesE_22 (o + 78) (nI c) 1 N = _
  simp only [lp_X9_takesE_22, f1, e1, e2, t1, mt_sI, mt_sJ, mt_sP, mt_rI, mt_rJ, ml_sI, ml_sJ, ml_sP, ml_rI, ml_rJ, mP_sI, mP_sJ, mP_rI, mP_rJ, SHP_sI, SHP_sJ, SHP_rI, SHP_rJ, mI_sI, mI_rI, mI_sJ, mI_rJ, mI_sP, mJ_sI, mJ_rI, mJ_sP, mJ_sJ, mJ_rJ, gI_e, pI_e, ck_e, bnd_s, nm_eq, pr2_e, cnul_0, cnul_1, drf_1, sm_1, sm_2, aI_e, aJ_e, wI_e, wJ_e, aL_e, cpI_e, cpJ_e, Nat.reduceLeDiff, Nat.reduceEqDiff, Nat.add_left_cancel_iff, ad0, ad1, false_and, and_false, true_and, and_true, reduceIte, if_true, if_false, zb0, zb1, Int32.reduceLT, Int32.reduceLE, i10, nw1, nw2, nt1, nt2, not_true_eq_false, not_false_eq_true, mt_78, mt_79, ml_79, mt_80, ml_80, mt_81, ml_81, mt_82, ml_82, mt_83, ml_83, mt_84, ml_84, mt_85, ml_85, mt_86, ml_86, mt_87, ml_87, mt_88, ml_88, mt_89, ml_89, mt_90, ml_90, mt_91, ml_91, mt_92, ml_92, mt_93, ml_93, mt_94, ml_94, mt_95, ml_95, mt_96, ml_96, mt_97, ml_97, mt_98, ml_98, mt_99, ml_99, mt_100, ml_100, mt_101, ml_101, mt_102, ml_102, mt_103, ml_103, mt_104, ml_104, mt_105, ml_105, mt_106, ml_106, mt_107, ml_107, mt_108, ml_108, mt_109, ml_109, mt_110, ml_110, mt_111, ml_111, mt_112, ml_112, mt_113, ml_113, mt_114, ml_114, mt_115, ml_115, mt_116, ml_116, mt_117, ml_117, mt_118, ml_118, mt_119, ml_119, mt_120, ml_120, mt_121, ml_121, mt_122, ml_122, mt_123, ml_123, gP_78_2, gP_78_3, gP_78_4, gP_78_5, gP_78_6, gP_78_12, gP_78_13, gP_78_14, gP_78_15, gP_78_16, gP_78_17, gP_78_18, gP_78_19, gP_78_23, gP_78_24, gP_78_26, gP_78_27, gP_78_28, gP_78_31, gP_78_32, gP_78_34, gP_78_35, gP_78_36, gP_78_37, gP_78_40, gP_78_41, gP_78_42, gP_78_43, gP_78_52, gP_78_53, gP_78_54, gP_78_55, gP_78_56, gP_78_57, gP_78_58, gP_78_59, gP_78_60, gP_78_61, gP_78_62, gP_78_63, gP_78_65, gP_78_66, gP_78_67, gP_78_68, gP_78_69, hS, hS']
theorem st_ty (hT : TM M o P L) (h : EST M N o c f p W l) (hp : p ≤ L) (e : ¬ P p = 33 ∧ ¬ P p = 40) (z : pT P p = .inr (q, k)) (hc : f + l.length + W.length < 600) (hw : W.length ≤ 101) (hb : ∀ w ∈ W, w < 2 ^ 31) : ∃ N', lpR o c (1, N) = some (.inl (0, N')) ∧ EST M N' o c f q (stp W) (l ++ ([k + 3] ++ zsw W)) := by
  have hN := h.tm hT
  have hS := hN.1
  obtain ⟨f1, b1⟩ := nx_v hN h.2.1 hp
  have e1 : ¬ nxI (P p) = 33 := fun q => e.1 ((nxI_eq 33 (by decide) _ b1).mp q)
  have e2 : ¬ nxI (P p) = 40 := fun q => e.2 ((nxI_eq 40 (by decide) _ b1).mp q)
  obtain ⟨N', t1, t2⟩ := mte_y hT h hp z hc hw hb
  have hS' := t2.shp hT.1
  rw [List.append_assoc] at t2
  refine ⟨N', ?_, t2⟩
  show lp_X9_takesE_22 (o + 78) (nI c) 1 N = _
  simp only [lp_X9_takesE_22, f1, e1, e2, t1, mt_sI, mt_sJ, mt_sP, mt_rI, mt_rJ, ml_sI, ml_sJ, ml_sP, ml_rI, ml_rJ, mP_sI, mP_sJ, mP_rI, mP_rJ, SHP_sI, SHP_sJ, SHP_rI, SHP_rJ, mI_sI, mI_rI, mI_sJ, mI_rJ, mI_sP, mJ_sI, mJ_rI, mJ_sP, mJ_sJ, mJ_rJ, gI_e, pI_e, ck_e, bnd_s, nm_eq, pr2_e, cnul_0, cnul_1, drf_1, sm_1, sm_2, aI_e, aJ_e, wI_e, wJ_e, aL_e, cpI_e, cpJ_e, Nat.reduceLeDiff, Nat.reduceEqDiff, Nat.add_left_cancel_iff, ad0, ad1, false_and, and_false, true_and, and_true, reduceIte, if_true, if_false, zb0, zb1, Int32.reduceLT, Int32.reduceLE, i10, nw1, nw2, nt1, nt2, not_true_eq_false, not_false_eq_true, mt_78, mt_79, ml_79, mt_80, ml_80, mt_81, ml_81, mt_82, ml_82, mt_83, ml_83, mt_84, ml_84, mt_85, ml_85, mt_86, ml_86, mt_87, ml_87, mt_88, ml_88, mt_89, ml_89, mt_90, ml_90, mt_91, ml_91, mt_92, ml_92, mt_93, ml_93, mt_94, ml_94, mt_95, ml_95, mt_96, ml_96, mt_97, ml_97, mt_98, ml_98, mt_99, ml_99, mt_100, ml_100, mt_101, ml_101, mt_102, ml_102, mt_103, ml_103, mt_104, ml_104, mt_105, ml_105, mt_106, ml_106, mt_107, ml_107, mt_108, ml_108, mt_109, ml_109, mt_110, ml_110, mt_111, ml_111, mt_112, ml_112, mt_113, ml_113, mt_114, ml_114, mt_115, ml_115, mt_116, ml_116, mt_117, ml_117, mt_118, ml_118, mt_119, ml_119, mt_120, ml_120, mt_121, ml_121, mt_122, ml_122, mt_123, ml_123, gP_78_2, gP_78_3, gP_78_4, gP_78_5, gP_78_6, gP_78_12, gP_78_13, gP_78_14, gP_78_15, gP_78_16, gP_78_17, gP_78_18, gP_78_19, gP_78_23, gP_78_24, gP_78_26, gP_78_27, gP_78_28, gP_78_31, gP_78_32, gP_78_34, gP_78_35, gP_78_36, gP_78_37, gP_78_40, gP_78_41, gP_78_42, gP_78_43, gP_78_52, gP_78_53, gP_78_54, gP_78_55, gP_78_56, gP_78_57, gP_78_58, gP_78_59, gP_78_60, gP_78_61, gP_78_62, gP_78_63, gP_78_65, gP_78_66, gP_78_67, gP_78_68, gP_78_69, hS, hS']
theorem st_and (hT : TM M o P L) (hW : TP W) (a b : Bool) (h : EST M N o c f p (wA a ++ (wO b ++ W)) l) (hp : p ≤ L) (e : P p = 38) (hf : f + l.length + (wA a ++ (wO b ++ W)).length ≤ 600) (hw : (wA a ++ (wO b ++ W)).length ≤ 100) : ∃ N', lpR o c (0, N) = some (.inl (1, N')) ∧ EST M N' o c f (p + 1) (wA true ++ (wO b ++ W)) (l ++ eA a) := by
  have hN := h.tm hT
  have hS := hN.1
  obtain ⟨f1, -⟩ := nx_v hN h.2.1 hp
  rw [e] at f1
  have f1 : fn_X9_next N (o + 78) = some 38 := f1
  obtain ⟨N1, s1, s2⟩ := se_and hT.1 hW a b h hf (by omega)
  have hS1 := s2.shp hT.1
  have hl : (wO b ++ W).length < 101 := by rw [List.length_append] at hw; omega
  have e1 := s2.2.2.2.1.1
  have e2 := s2.2.1
  have e5 : nI 38 = 38 := rfl
  refine ⟨_, ?_, s2.put (w := 38) (by decide)⟩
  show lp_X9_takesE_22 (o + 78) (nI c) 0 N = _
  simp only [lp_X9_takesE_22, jn_X9_takesE_122_22, f1, s1, e1, e2, e5, nI_1, hl, mt_sI, mt_sJ, mt_sP, mt_rI, mt_rJ, ml_sI, ml_sJ, ml_sP, ml_rI, ml_rJ, mP_sI, mP_sJ, mP_rI, mP_rJ, SHP_sI, SHP_sJ, SHP_rI, SHP_rJ, mI_sI, mI_rI, mI_sJ, mI_rJ, mI_sP, mJ_sI, mJ_rI, mJ_sP, mJ_sJ, mJ_rJ, gI_e, pI_e, ck_e, bnd_s, nm_eq, pr2_e, cnul_0, cnul_1, drf_1, sm_1, sm_2, aI_e, aJ_e, wI_e, wJ_e, aL_e, cpI_e, cpJ_e, Nat.reduceLeDiff, Nat.reduceEqDiff, Nat.add_left_cancel_iff, ad0, ad1, false_and, and_false, true_and, and_true, reduceIte, if_true, if_false, zb0, zb1, Int32.reduceLT, Int32.reduceLE, i10, nw1, nw2, nt1, nt2, not_true_eq_false, not_false_eq_true, mt_78, mt_79, ml_79, mt_80, ml_80, mt_81, ml_81, mt_82, ml_82, mt_83, ml_83, mt_84, ml_84, mt_85, ml_85, mt_86, ml_86, mt_87, ml_87, mt_88, ml_88, mt_89, ml_89, mt_90, ml_90, mt_91, ml_91, mt_92, ml_92, mt_93, ml_93, mt_94, ml_94, mt_95, ml_95, mt_96, ml_96, mt_97, ml_97, mt_98, ml_98, mt_99, ml_99, mt_100, ml_100, mt_101, ml_101, mt_102, ml_102, mt_103, ml_103, mt_104, ml_104, mt_105, ml_105, mt_106, ml_106, mt_107, ml_107, mt_108, ml_108, mt_109, ml_109, mt_110, ml_110, mt_111, ml_111, mt_112, ml_112, mt_113, ml_113, mt_114, ml_114, mt_115, ml_115, mt_116, ml_116, mt_117, ml_117, mt_118, ml_118, mt_119, ml_119, mt_120, ml_120, mt_121, ml_121, mt_122, ml_122, mt_123, ml_123, gP_78_2, gP_78_3, gP_78_4, gP_78_5, gP_78_6, gP_78_12, gP_78_13, gP_78_14, gP_78_15, gP_78_16, gP_78_17, gP_78_18, gP_78_19, gP_78_23, gP_78_24, gP_78_26, gP_78_27, gP_78_28, gP_78_31, gP_78_32, gP_78_34, gP_78_35, gP_78_36, gP_78_37, gP_78_40, gP_78_41, gP_78_42, gP_78_43, gP_78_52, gP_78_53, gP_78_54, gP_78_55, gP_78_56, gP_78_57, gP_78_58, gP_78_59, gP_78_60, gP_78_61, gP_78_62, gP_78_63, gP_78_65, gP_78_66, gP_78_67, gP_78_68, gP_78_69, hS, hS1]
theorem st_or (hT : TM M o P L) (hW : TP W) (a b : Bool) (h : EST M N o c f p (wA a ++ (wO b ++ W)) l) (hp : p ≤ L) (e : P p = 124) (hf : f + l.length + (wA a ++ (wO b ++ W)).length ≤ 600) (hw : (wA a ++ (wO b ++ W)).length ≤ 100) : ∃ N', lpR o c (0, N) = some (.inl (1, N')) ∧ EST M N' o c f (p + 1) (wA false ++ (wO true ++ W)) (l ++ (eA a ++ eO b)) := by
  have hN := h.tm hT
  have hS := hN.1
  obtain ⟨f1, -⟩ := nx_v hN h.2.1 hp
  rw [e] at f1
  have f1 : fn_X9_next N (o + 78) = some 124 := f1
  obtain ⟨N1, s1, s2⟩ := se_or hT.1 hW a b h hf (by omega)
  have hS1 := s2.shp hT.1
  have hl : W.length < 101 := by rw [List.length_append, List.length_append] at hw; omega
  have e1 := s2.2.2.2.1.1
  have e2 := s2.2.1
  have e5 : nI 124 = 124 := rfl
  have e6 : ¬ (124 : Int32) = 38 := by decide
  refine ⟨_, ?_, s2.put (w := 124) (by decide)⟩
  show lp_X9_takesE_22 (o + 78) (nI c) 0 N = _
  simp only [lp_X9_takesE_22, jn_X9_takesE_122_22, f1, s1, e1, e2, e5, e6, nI_1, hl, mt_sI, mt_sJ, mt_sP, mt_rI, mt_rJ, ml_sI, ml_sJ, ml_sP, ml_rI, ml_rJ, mP_sI, mP_sJ, mP_rI, mP_rJ, SHP_sI, SHP_sJ, SHP_rI, SHP_rJ, mI_sI, mI_rI, mI_sJ, mI_rJ, mI_sP, mJ_sI, mJ_rI, mJ_sP, mJ_sJ, mJ_rJ, gI_e, pI_e, ck_e, bnd_s, nm_eq, pr2_e, cnul_0, cnul_1, drf_1, sm_1, sm_2, aI_e, aJ_e, wI_e, wJ_e, aL_e, cpI_e, cpJ_e, Nat.reduceLeDiff, Nat.reduceEqDiff, Nat.add_left_cancel_iff, ad0, ad1, false_and, and_false, true_and, and_true, reduceIte, if_true, if_false, zb0, zb1, Int32.reduceLT, Int32.reduceLE, i10, nw1, nw2, nt1, nt2, not_true_eq_false, not_false_eq_true, mt_78, mt_79, ml_79, mt_80, ml_80, mt_81, ml_81, mt_82, ml_82, mt_83, ml_83, mt_84, ml_84, mt_85, ml_85, mt_86, ml_86, mt_87, ml_87, mt_88, ml_88, mt_89, ml_89, mt_90, ml_90, mt_91, ml_91, mt_92, ml_92, mt_93, ml_93, mt_94, ml_94, mt_95, ml_95, mt_96, ml_96, mt_97, ml_97, mt_98, ml_98, mt_99, ml_99, mt_100, ml_100, mt_101, ml_101, mt_102, ml_102, mt_103, ml_103, mt_104, ml_104, mt_105, ml_105, mt_106, ml_106, mt_107, ml_107, mt_108, ml_108, mt_109, ml_109, mt_110, ml_110, mt_111, ml_111, mt_112, ml_112, mt_113, ml_113, mt_114, ml_114, mt_115, ml_115, mt_116, ml_116, mt_117, ml_117, mt_118, ml_118, mt_119, ml_119, mt_120, ml_120, mt_121, ml_121, mt_122, ml_122, mt_123, ml_123, gP_78_2, gP_78_3, gP_78_4, gP_78_5, gP_78_6, gP_78_12, gP_78_13, gP_78_14, gP_78_15, gP_78_16, gP_78_17, gP_78_18, gP_78_19, gP_78_23, gP_78_24, gP_78_26, gP_78_27, gP_78_28, gP_78_31, gP_78_32, gP_78_34, gP_78_35, gP_78_36, gP_78_37, gP_78_40, gP_78_41, gP_78_42, gP_78_43, gP_78_52, gP_78_53, gP_78_54, gP_78_55, gP_78_56, gP_78_57, gP_78_58, gP_78_59, gP_78_60, gP_78_61, gP_78_62, gP_78_63, gP_78_65, gP_78_66, gP_78_67, gP_78_68, gP_78_69, hS, hS1]
/-- an E ends: all is done, or a bracket closes, or doesn't -/
theorem st_end (hT : TM M o P L) (hc : c < 60) (hN : TM N o P L) (h10 : mI N (o + 78) 10 = nI p) (hp : p ≤ L) (e : ¬ P p = 38 ∧ ¬ P p = 124) (s1 : fn_X9_settle N (o + 78) 124 = some N1) (s2 : EST M N1 o c f p W l) (hl : W.length ≤ 100) :
    (W = [] → lpR o c (0, N) = some (.inr (1, sI N1 (o + 89) c (nI (f + l.length))))) ∧
    (∀ W', W = 40 :: W' → ¬ P p = 41 → lpR o c (0, N) = some (.inr (0, sI N1 (o + 89) c (nI (f + l.length))))) ∧
    (∀ W', W = 40 :: W' → P p = 41 → f + l.length + W'.length ≤ 600 → (∀ w ∈ W', w < 2 ^ 31) → ∃ N', lpR o c (0, N) = some (.inl (0, N')) ∧ EST M N' o c f (p + 1) (stp W') (l ++ zsw W')) := by
  have hS := hN.1
  obtain ⟨f1, b1⟩ := nx_v hN h10 hp
  have e1 : ¬ nxI (P p) = 38 := fun q => e.1 ((nxI_eq 38 (by decide) _ b1).mp q)
  have e2 : ¬ nxI (P p) = 124 := fun q => e.2 ((nxI_eq 124 (by decide) _ b1).mp q)
  have hS1 := s2.shp hT.1
  have e3 := s2.2.2.1.1
  have e4 := s2.2.2.2.1.1
  refine ⟨fun z => ?_, fun W' z z2 => ?_, fun W' z z2 z3 z4 => ?_⟩
  · subst z
    have e4 : mI N1 (o + 78) 21 = 0 := e4
    show lp_X9_takesE_22 (o + 78) (nI c) 0 N = _
    simp only [lp_X9_takesE_22, f1, e1, e2, s1, e3, e4, hc, mt_sI, mt_sJ, mt_sP, mt_rI, mt_rJ, ml_sI, ml_sJ, ml_sP, ml_rI, ml_rJ, mP_sI, mP_sJ, mP_rI, mP_rJ, SHP_sI, SHP_sJ, SHP_rI, SHP_rJ, mI_sI, mI_rI, mI_sJ, mI_rJ, mI_sP, mJ_sI, mJ_rI, mJ_sP, mJ_sJ, mJ_rJ, gI_e, pI_e, ck_e, bnd_s, nm_eq, pr2_e, cnul_0, cnul_1, drf_1, sm_1, sm_2, aI_e, aJ_e, wI_e, wJ_e, aL_e, cpI_e, cpJ_e, Nat.reduceLeDiff, Nat.reduceEqDiff, Nat.add_left_cancel_iff, ad0, ad1, false_and, and_false, true_and, and_true, reduceIte, if_true, if_false, zb0, zb1, Int32.reduceLT, Int32.reduceLE, i10, nw1, nw2, nt1, nt2, not_true_eq_false, not_false_eq_true, mt_78, mt_79, ml_79, mt_80, ml_80, mt_81, ml_81, mt_82, ml_82, mt_83, ml_83, mt_84, ml_84, mt_85, ml_85, mt_86, ml_86, mt_87, ml_87, mt_88, ml_88, mt_89, ml_89, mt_90, ml_90, mt_91, ml_91, mt_92, ml_92, mt_93, ml_93, mt_94, ml_94, mt_95, ml_95, mt_96, ml_96, mt_97, ml_97, mt_98, ml_98, mt_99, ml_99, mt_100, ml_100, mt_101, ml_101, mt_102, ml_102, mt_103, ml_103, mt_104, ml_104, mt_105, ml_105, mt_106, ml_106, mt_107, ml_107, mt_108, ml_108, mt_109, ml_109, mt_110, ml_110, mt_111, ml_111, mt_112, ml_112, mt_113, ml_113, mt_114, ml_114, mt_115, ml_115, mt_116, ml_116, mt_117, ml_117, mt_118, ml_118, mt_119, ml_119, mt_120, ml_120, mt_121, ml_121, mt_122, ml_122, mt_123, ml_123, gP_78_2, gP_78_3, gP_78_4, gP_78_5, gP_78_6, gP_78_12, gP_78_13, gP_78_14, gP_78_15, gP_78_16, gP_78_17, gP_78_18, gP_78_19, gP_78_23, gP_78_24, gP_78_26, gP_78_27, gP_78_28, gP_78_31, gP_78_32, gP_78_34, gP_78_35, gP_78_36, gP_78_37, gP_78_40, gP_78_41, gP_78_42, gP_78_43, gP_78_52, gP_78_53, gP_78_54, gP_78_55, gP_78_56, gP_78_57, gP_78_58, gP_78_59, gP_78_60, gP_78_61, gP_78_62, gP_78_63, gP_78_65, gP_78_66, gP_78_67, gP_78_68, gP_78_69, hS, hS1]
  · subst z
    have hl : W'.length + 1 ≤ 100 := hl
    have e4 : mI N1 (o + 78) 21 = nI (W'.length + 1) := e4
    have e5 : ¬ nI (W'.length + 1) = 0 := fun q => absurd ((nIeq0 (by omega)).mp q) (by omega)
    have e6 : ¬ nxI (P p) = 41 := fun q => z2 ((nxI_eq 41 (by decide) _ b1).mp q)
    show lp_X9_takesE_22 (o + 78) (nI c) 0 N = _
    simp only [lp_X9_takesE_22, f1, e1, e2, s1, e3, e4, e5, e6, hc, mt_sI, mt_sJ, mt_sP, mt_rI, mt_rJ, ml_sI, ml_sJ, ml_sP, ml_rI, ml_rJ, mP_sI, mP_sJ, mP_rI, mP_rJ, SHP_sI, SHP_sJ, SHP_rI, SHP_rJ, mI_sI, mI_rI, mI_sJ, mI_rJ, mI_sP, mJ_sI, mJ_rI, mJ_sP, mJ_sJ, mJ_rJ, gI_e, pI_e, ck_e, bnd_s, nm_eq, pr2_e, cnul_0, cnul_1, drf_1, sm_1, sm_2, aI_e, aJ_e, wI_e, wJ_e, aL_e, cpI_e, cpJ_e, Nat.reduceLeDiff, Nat.reduceEqDiff, Nat.add_left_cancel_iff, ad0, ad1, false_and, and_false, true_and, and_true, reduceIte, if_true, if_false, zb0, zb1, Int32.reduceLT, Int32.reduceLE, i10, nw1, nw2, nt1, nt2, not_true_eq_false, not_false_eq_true, mt_78, mt_79, ml_79, mt_80, ml_80, mt_81, ml_81, mt_82, ml_82, mt_83, ml_83, mt_84, ml_84, mt_85, ml_85, mt_86, ml_86, mt_87, ml_87, mt_88, ml_88, mt_89, ml_89, mt_90, ml_90, mt_91, ml_91, mt_92, ml_92, mt_93, ml_93, mt_94, ml_94, mt_95, ml_95, mt_96, ml_96, mt_97, ml_97, mt_98, ml_98, mt_99, ml_99, mt_100, ml_100, mt_101, ml_101, mt_102, ml_102, mt_103, ml_103, mt_104, ml_104, mt_105, ml_105, mt_106, ml_106, mt_107, ml_107, mt_108, ml_108, mt_109, ml_109, mt_110, ml_110, mt_111, ml_111, mt_112, ml_112, mt_113, ml_113, mt_114, ml_114, mt_115, ml_115, mt_116, ml_116, mt_117, ml_117, mt_118, ml_118, mt_119, ml_119, mt_120, ml_120, mt_121, ml_121, mt_122, ml_122, mt_123, ml_123, gP_78_2, gP_78_3, gP_78_4, gP_78_5, gP_78_6, gP_78_12, gP_78_13, gP_78_14, gP_78_15, gP_78_16, gP_78_17, gP_78_18, gP_78_19, gP_78_23, gP_78_24, gP_78_26, gP_78_27, gP_78_28, gP_78_31, gP_78_32, gP_78_34, gP_78_35, gP_78_36, gP_78_37, gP_78_40, gP_78_41, gP_78_42, gP_78_43, gP_78_52, gP_78_53, gP_78_54, gP_78_55, gP_78_56, gP_78_57, gP_78_58, gP_78_59, gP_78_60, gP_78_61, gP_78_62, gP_78_63, gP_78_65, gP_78_66, gP_78_67, gP_78_68, gP_78_69, hS, hS1]
  · subst z
    have hl : W'.length + 1 ≤ 100 := hl
    have e4 : mI N1 (o + 78) 21 = nI (W'.length + 1) := e4
    have e5 : ¬ nI (W'.length + 1) = 0 := fun q => absurd ((nIeq0 (by omega)).mp q) (by omega)
    rw [z2] at f1
    have f1 : fn_X9_next N (o + 78) = some 41 := f1
    have g1 : ¬ (41 : Int32) = 38 := by decide
    have g2 : ¬ (41 : Int32) = 124 := by decide
    have e7 := s2.2.1
    have e8 := s2.2.2.2.2
    have e9 := opn_s (w := 40) W' (Or.inr rfl)
    have a1 := ((s2.to (v := nI (f + l.length))).pop1 (Or.inr rfl)).go (q := p + 1)
    have hS3 := a1.shp hT.1
    obtain ⟨N', r1, r2⟩ := wh_e hT.1 a1 z3 (by omega) z4
    refine ⟨N', ?_, r2⟩
    show lp_X9_takesE_22 (o + 78) (nI c) 0 N = _
    simp only [lp_X9_takesE_22, f1, g1, g2, s1, e3, e4, e5, e7, e8, e9, r1, nI_1, nI_pred, hc, mt_sI, mt_sJ, mt_sP, mt_rI, mt_rJ, ml_sI, ml_sJ, ml_sP, ml_rI, ml_rJ, mP_sI, mP_sJ, mP_rI, mP_rJ, SHP_sI, SHP_sJ, SHP_rI, SHP_rJ, mI_sI, mI_rI, mI_sJ, mI_rJ, mI_sP, mJ_sI, mJ_rI, mJ_sP, mJ_sJ, mJ_rJ, gI_e, pI_e, ck_e, bnd_s, nm_eq, pr2_e, cnul_0, cnul_1, drf_1, sm_1, sm_2, aI_e, aJ_e, wI_e, wJ_e, aL_e, cpI_e, cpJ_e, Nat.reduceLeDiff, Nat.reduceEqDiff, Nat.add_left_cancel_iff, ad0, ad1, false_and, and_false, true_and, and_true, reduceIte, if_true, if_false, zb0, zb1, Int32.reduceLT, Int32.reduceLE, i10, nw1, nw2, nt1, nt2, not_true_eq_false, not_false_eq_true, mt_78, mt_79, ml_79, mt_80, ml_80, mt_81, ml_81, mt_82, ml_82, mt_83, ml_83, mt_84, ml_84, mt_85, ml_85, mt_86, ml_86, mt_87, ml_87, mt_88, ml_88, mt_89, ml_89, mt_90, ml_90, mt_91, ml_91, mt_92, ml_92, mt_93, ml_93, mt_94, ml_94, mt_95, ml_95, mt_96, ml_96, mt_97, ml_97, mt_98, ml_98, mt_99, ml_99, mt_100, ml_100, mt_101, ml_101, mt_102, ml_102, mt_103, ml_103, mt_104, ml_104, mt_105, ml_105, mt_106, ml_106, mt_107, ml_107, mt_108, ml_108, mt_109, ml_109, mt_110, ml_110, mt_111, ml_111, mt_112, ml_112, mt_113, ml_113, mt_114, ml_114, mt_115, ml_115, mt_116, ml_116, mt_117, ml_117, mt_118, ml_118, mt_119, ml_119, mt_120, ml_120, mt_121, ml_121, mt_122, ml_122, mt_123, ml_123, gP_78_2, gP_78_3, gP_78_4, gP_78_5, gP_78_6, gP_78_12, gP_78_13, gP_78_14, gP_78_15, gP_78_16, gP_78_17, gP_78_18, gP_78_19, gP_78_23, gP_78_24, gP_78_26, gP_78_27, gP_78_28, gP_78_31, gP_78_32, gP_78_34, gP_78_35, gP_78_36, gP_78_37, gP_78_40, gP_78_41, gP_78_42, gP_78_43, gP_78_52, gP_78_53, gP_78_54, gP_78_55, gP_78_56, gP_78_57, gP_78_58, gP_78_59, gP_78_60, gP_78_61, gP_78_62, gP_78_63, gP_78_65, gP_78_66, gP_78_67, gP_78_68, gP_78_69, hS, hS1, hS3]
set_option maxHeartbeats 2000000 in
/-- the reference's E does as each way to read says -/
theorem KM_c (hT : TM M o P L) (hb5 : b ≤ 5) (hbf : 100 * b ≤ f) (hc : c < 60) : PXC P (fun md d p r => PXs L md d p r ∧ KM M o L b c f P md d p r) := by
  have PS := PXs_c hT.2.1
  have hL := hT.2.1.1
  refine ⟨?_, ?_, ?_, ?_, ?_, ?_, ?_, ?_, ?_, ?_, ?_, ?_, ?_⟩
  · intro d p q hd e z
    refine ⟨PS.1 d p q hd e z.1, fun N W l h1 h2 h3 hb h4 h => ?_⟩
    have hl : p < L := hT.2.1.lt (by omega)
    obtain ⟨N1, s1, s2⟩ := st_put hT (Or.inl rfl) h h3 e (by omega) (by omega)
    obtain ⟨N', j1, j2, j3⟩ := z.2 N1 (33 :: W) l (by rw [opn_1 W (Or.inl rfl)]; omega) (by omega) (by omega) (fun w hw => by rcases List.mem_cons.mp hw with rfl | hw; decide; exact hb w hw) (by show f + l.length + (W.length + 1) ≤ _; omega) s2
    refine ⟨N', fun j hj => ?_, j2, j3⟩
    obtain ⟨j, rfl⟩ : ∃ j', j = j' + 1 := ⟨j - 1, by omega⟩
    exact (itr_go s1).trans (j1 j (by omega))
  · intro d p q l2 hd e z
    refine ⟨PS.2.1 d p q l2 hd e z.1, fun N W l h1 h2 h3 hb h4 h => ?_⟩
    have hl : p < L := hT.2.1.lt (by omega)
    obtain ⟨N1, s1, s2⟩ := st_put hT (Or.inl rfl) h h3 e (by omega) (by omega)
    obtain ⟨N', k, j1, j2, j3, j4⟩ := z.2 N1 (33 :: W) l (by rw [opn_1 W (Or.inl rfl)]; omega) (by omega) (by omega) (fun w hw => by rcases List.mem_cons.mp hw with rfl | hw; decide; exact hb w hw) (by show f + l.length + (W.length + 1) ≤ _; omega) s2
    have el : l ++ (l2 ++ zsw (33 :: W)) = l ++ ((l2 ++ [0]) ++ zsw W) := by rw [zsw_33, List.append_assoc]; rfl
    have j1 : k + (p + 1) ≤ q := j1
    have j3 : EST M N' o c f q (stp (33 :: W)) (l ++ (l2 ++ zsw (33 :: W))) := j3
    have j4 : f + (l ++ (l2 ++ zsw (33 :: W))).length + (stp (33 :: W)).length ≤ 100 * b + q := j4
    rw [stp_33, el] at j3 j4
    refine ⟨N', k + 1, by show k + 1 + p ≤ q; omega, fun j => ?_, j3, j4⟩
    rw [← Nat.add_assoc, itr_go s1]
    exact j2 j
  · intro d p q hd e z
    refine ⟨PS.2.2.1 d p q hd e z.1, fun N W l h1 h2 h3 hb h4 h => ?_⟩
    have hl : p < L := hT.2.1.lt (by omega)
    obtain ⟨N1, s1, s2⟩ := st_put hT (Or.inr rfl) h h3 e (by omega) (by omega)
    obtain ⟨N', j1, j2, j3⟩ := z.2 N1 (40 :: W) l (Or.inr ⟨W, rfl⟩) (by rw [opn_1 W (Or.inr rfl)]; omega) (by omega) (by omega) (fun w hw => by rcases List.mem_cons.mp hw with rfl | hw; decide; exact hb w hw) (by show f + l.length + (W.length + 1) ≤ _; omega) s2
    refine ⟨N', fun j hj => ?_, j2, j3⟩
    obtain ⟨j, rfl⟩ : ∃ j', j = j' + 1 := ⟨j - 1, by omega⟩
    exact (itr_go s1).trans (j1 j (by omega))
  · intro d p q l2 hd e z e2
    refine ⟨PS.2.2.2.1 d p q l2 hd e z.1 e2, fun N W l h1 h2 h3 hb h4 h => ?_⟩
    have hl : p < L := hT.2.1.lt (by omega)
    obtain ⟨N1, s1, s2⟩ := st_put hT (Or.inr rfl) h h3 e (by omega) (by omega)
    obtain ⟨N2, N', k, j1, j2, ⟨j3, j4⟩, j5, j6, j7, j8⟩ := z.2 N1 (40 :: W) l (Or.inr ⟨W, rfl⟩) (by rw [opn_1 W (Or.inr rfl)]; omega) (by omega) (by omega) (fun w hw => by rcases List.mem_cons.mp hw with rfl | hw; decide; exact hb w hw) (by show f + l.length + (W.length + 1) ≤ _; omega) s2
    have j1 : k + (p + 1) ≤ q := j1
    have hq : p + 1 < q ∧ q ≤ L := z.1 (by omega)
    have j8 : f + (l ++ l2).length + (W.length + 1) ≤ 100 * b + q := j8
    have se := (st_end hT hc j3 j4 hq.2 j5 j6 j7 (by show W.length + 1 ≤ 100; omega)).2.1 W rfl e2
    refine ⟨_, fun j hj => ?_, (j7.to (v := nI (f + (l ++ l2).length))).1, j7.to.2.1⟩
    obtain ⟨j, rfl⟩ : ∃ j', j = (j' + 1 + k) + 1 := ⟨j - k - 2, by omega⟩
    exact (itr_go s1).trans ((j2 (j + 1)).trans (itr_exit se))
  · intro d p q l2 hd e z e2
    refine ⟨PS.2.2.2.2.1 d p q l2 hd e z.1 e2, fun N W l h1 h2 h3 hb h4 h => ?_⟩
    have hl : p < L := hT.2.1.lt (by omega)
    obtain ⟨N1, s1, s2⟩ := st_put hT (Or.inr rfl) h h3 e (by omega) (by omega)
    obtain ⟨N2, N', k, j1, j2, ⟨j3, j4⟩, j5, j6, j7, j8⟩ := z.2 N1 (40 :: W) l (Or.inr ⟨W, rfl⟩) (by rw [opn_1 W (Or.inr rfl)]; omega) (by omega) (by omega) (fun w hw => by rcases List.mem_cons.mp hw with rfl | hw; decide; exact hb w hw) (by show f + l.length + (W.length + 1) ≤ _; omega) s2
    have j1 : k + (p + 1) ≤ q := j1
    have hq : p + 1 < q ∧ q ≤ L := z.1 (by omega)
    have j8 : f + (l ++ l2).length + (W.length + 1) ≤ 100 * b + q := j8
    obtain ⟨N3, t1, t2⟩ := (st_end hT hc j3 j4 hq.2 j5 j6 j7 (by show W.length + 1 ≤ 100; omega)).2.2 W rfl e2 (by show f + (l ++ l2).length + W.length ≤ 600; omega) hb
    have sl := stp_len W
    refine ⟨N3, k + 2, by show k + 2 + p ≤ q + 1; omega, fun j => ?_, ?_, ?_⟩
    · rw [show j + (k + 2) = (j + 1 + k) + 1 by omega, itr_go s1, j2 (j + 1), itr_go t1]
    · rw [← List.append_assoc]; exact t2
    · rw [← List.append_assoc, List.length_append (bs := zsw W)]
      show f + ((l ++ l2).length + (zsw W).length) + (stp W).length ≤ 100 * b + (q + 1)
      omega
  · intro d p q hd e
    refine ⟨PS.2.2.2.2.2.1 d p q hd e, fun N W l h1 h2 h3 hb h4 h => ?_⟩
    by_cases z : P p = 33 ∨ P p = 40
    · have hd4 : opn W = 4 := by
        by_cases zd : d < 4
        · exact absurd ⟨zd, z⟩ hd
        · omega
      have e2 : fcl (P p) = 6 := by rcases z with z | z <;> rw [z] <;> rfl
      unfold pT at e
      rw [if_pos e2] at e
      cases e
      refine ⟨N, fun j hj => ?_, h.1, h.2.1⟩
      obtain ⟨j, rfl⟩ : ∃ j', j = j' + 1 := ⟨j - 1, by omega⟩
      exact itr_exit (st_full hT z h h3 rfl hd4)
    · obtain ⟨N', s1, s2, s3⟩ := st_tn hT h h3 ⟨fun q => z (Or.inl q), fun q => z (Or.inr q)⟩ e
      refine ⟨N', fun j hj => ?_, s2, s3⟩
      obtain ⟨j, rfl⟩ : ∃ j', j = j' + 1 := ⟨j - 1, by omega⟩
      exact itr_exit s1
  · intro d p q k hd e
    refine ⟨PS.2.2.2.2.2.2.1 d p q k hd e, fun N W l h1 h2 h3 hb h4 h => ?_⟩
    obtain ⟨nn, g1, -, -, -, g2, g3, -⟩ := pT_r hT.2.1 e
    have z : ¬ P p = 33 ∧ ¬ P p = 40 := ⟨fun q => g1 (by rw [q]; rfl), fun q => g1 (by rw [q]; rfl)⟩
    obtain ⟨N', s1, s2⟩ := st_ty hT h h3 z e (by omega) (by omega) hb
    have sl := stp_len W
    refine ⟨N', 1, by show 1 + p ≤ q; omega, fun j => itr_go s1, s2, ?_⟩
    rw [List.length_append, List.length_append]
    show f + (l.length + (1 + (zsw W).length)) + _ ≤ 100 * b + q
    omega
  · intro a b2 d p q z
    refine ⟨PS.2.2.2.2.2.2.2.1 a b2 d p q z.1, fun N W l hW h1 h2 h3 hb h4 h => ?_⟩
    exact z.2 N _ l (by rw [opn_AO]; exact h1) h2 h3 (AO_b hb a b2) h4 h
  · intro a b2 d p q l2 q2 z e z2
    refine ⟨PS.2.2.2.2.2.2.2.2.1 a b2 d p q l2 q2 z.1 e z2.1, fun N W l hW h1 h2 h3 hb h4 h => ?_⟩
    obtain ⟨N1, k, j1, j2, j3, j4⟩ := z.2 N _ l (by rw [opn_AO]; exact h1) h2 h3 (AO_b hb a b2) h4 h
    have hq : p < q ∧ q ≤ L := z.1 h3
    have hq2 : q < L := hT.2.1.lt (by omega)
    obtain ⟨u1, u2⟩ := stp_TP hW a b2
    have j1 : k + p ≤ q := j1
    have j3 : EST M N1 o c f q (stp (wA a ++ (wO b2 ++ W))) (l ++ (l2 ++ zsw (wA a ++ (wO b2 ++ W)))) := j3
    have j4 : f + (l ++ (l2 ++ zsw (wA a ++ (wO b2 ++ W)))).length + (stp (wA a ++ (wO b2 ++ W))).length ≤ 100 * b + q := j4
    rw [u1, u2, List.append_nil] at j3 j4
    obtain ⟨N2, s1, s2⟩ := st_and hT hW a b2 j3 hq.2 e (by omega) (by omega)
    have ll : (l ++ l2 ++ eA a).length + (wA true ++ (wO b2 ++ W)).length ≤ (l ++ l2).length + (wA a ++ (wO b2 ++ W)).length + 1 := by
      rw [List.length_append (bs := eA a), List.length_append (as := wA true), List.length_append (as := wA a)]
      cases a
      · show _ + 0 + (1 + _) ≤ _ + (0 + _) + 1; omega
      · show _ + 1 + (1 + _) ≤ _ + (1 + _) + 1; omega
    obtain ⟨N', k1, k2, k3⟩ := z2.2 N2 W (l ++ l2 ++ eA a) hW h1 h2 (by omega) hb (by show f + _ + (wA true ++ (wO b2 ++ W)).length ≤ 100 * b + (q + 1); omega) s2
    refine ⟨N', fun j hj => ?_, k2, k3⟩
    obtain ⟨j, rfl⟩ : ∃ j', j = (j' + 1) + k := ⟨j - k - 1, by omega⟩
    rw [j2 (j + 1), itr_go s1]
    exact k1 j (by omega)
  · intro a b2 d p q l2 q2 l3 z e z2
    refine ⟨PS.2.2.2.2.2.2.2.2.2.1 a b2 d p q l2 q2 l3 z.1 e z2.1, fun N W l hW h1 h2 h3 hb h4 h => ?_⟩
    obtain ⟨N1, k, j1, j2, j3, j4⟩ := z.2 N _ l (by rw [opn_AO]; exact h1) h2 h3 (AO_b hb a b2) h4 h
    have hq : p < q ∧ q ≤ L := z.1 h3
    have hq2 : q < L := hT.2.1.lt (by omega)
    obtain ⟨u1, u2⟩ := stp_TP hW a b2
    have j1 : k + p ≤ q := j1
    have j3 : EST M N1 o c f q (stp (wA a ++ (wO b2 ++ W))) (l ++ (l2 ++ zsw (wA a ++ (wO b2 ++ W)))) := j3
    have j4 : f + (l ++ (l2 ++ zsw (wA a ++ (wO b2 ++ W)))).length + (stp (wA a ++ (wO b2 ++ W))).length ≤ 100 * b + q := j4
    rw [u1, u2, List.append_nil] at j3 j4
    obtain ⟨N2, s1, s2⟩ := st_and hT hW a b2 j3 hq.2 e (by omega) (by omega)
    have ll : (l ++ l2 ++ eA a).length + (wA true ++ (wO b2 ++ W)).length ≤ (l ++ l2).length + (wA a ++ (wO b2 ++ W)).length + 1 := by
      rw [List.length_append (bs := eA a), List.length_append (as := wA true), List.length_append (as := wA a)]
      cases a
      · show _ + 0 + (1 + _) ≤ _ + (0 + _) + 1; omega
      · show _ + 1 + (1 + _) ≤ _ + (1 + _) + 1; omega
    obtain ⟨N3, N', k', k1, k2, k3, k4, k5, k6, k7⟩ := z2.2 N2 W (l ++ l2 ++ eA a) hW h1 h2 (by omega) hb (by show f + _ + (wA true ++ (wO b2 ++ W)).length ≤ 100 * b + (q + 1); omega) s2
    have el : l ++ l2 ++ eA a ++ l3 = l ++ (l2 ++ (eA a ++ l3)) := by rw [List.append_assoc, List.append_assoc]
    have k1 : k' + (q + 1) ≤ q2 := k1
    have k6 : EST M N' o c f q2 W (l ++ l2 ++ eA a ++ l3) := k6
    have k7 : f + (l ++ l2 ++ eA a ++ l3).length + W.length ≤ 100 * b + q2 := k7
    rw [el] at k6 k7
    refine ⟨N3, N', k' + 1 + k, by show k' + 1 + k + p ≤ q2; omega, fun j => ?_, k3, k4, k5, k6, k7⟩
    rw [show j + (k' + 1 + k) = (j + k' + 1) + k by omega, j2, itr_go s1]
    exact k2 j
  · intro a b2 d p q l2 q2 z e z2
    refine ⟨PS.2.2.2.2.2.2.2.2.2.2.1 a b2 d p q l2 q2 z.1 e z2.1, fun N W l hW h1 h2 h3 hb h4 h => ?_⟩
    obtain ⟨N1, k, j1, j2, j3, j4⟩ := z.2 N _ l (by rw [opn_AO]; exact h1) h2 h3 (AO_b hb a b2) h4 h
    have hq : p < q ∧ q ≤ L := z.1 h3
    have hq2 : q < L := hT.2.1.lt (by omega)
    obtain ⟨u1, u2⟩ := stp_TP hW a b2
    have j1 : k + p ≤ q := j1
    have j3 : EST M N1 o c f q (stp (wA a ++ (wO b2 ++ W))) (l ++ (l2 ++ zsw (wA a ++ (wO b2 ++ W)))) := j3
    have j4 : f + (l ++ (l2 ++ zsw (wA a ++ (wO b2 ++ W)))).length + (stp (wA a ++ (wO b2 ++ W))).length ≤ 100 * b + q := j4
    rw [u1, u2, List.append_nil] at j3 j4
    obtain ⟨N2, s1, s2⟩ := st_or hT hW a b2 j3 hq.2 e (by omega) (by omega)
    have ll : (l ++ l2 ++ (eA a ++ eO b2)).length + (wA false ++ (wO true ++ W)).length ≤ (l ++ l2).length + (wA a ++ (wO b2 ++ W)).length + 1 := by
      rw [List.length_append (bs := eA a ++ eO b2), List.length_append (as := eA a), List.length_append (as := wA false), List.length_append (as := wO true), List.length_append (as := wA a), List.length_append (as := wO b2)]
      cases a <;> cases b2
      · show _ + (0 + 0) + (0 + (1 + _)) ≤ _ + (0 + (0 + _)) + 1; omega
      · show _ + (0 + 1) + (0 + (1 + _)) ≤ _ + (0 + (1 + _)) + 1; omega
      · show _ + (1 + 0) + (0 + (1 + _)) ≤ _ + (1 + (0 + _)) + 1; omega
      · show _ + (1 + 1) + (0 + (1 + _)) ≤ _ + (1 + (1 + _)) + 1; omega
    obtain ⟨N', k1, k2, k3⟩ := z2.2 N2 W (l ++ l2 ++ (eA a ++ eO b2)) hW h1 h2 (by omega) hb (by show f + _ + (wA false ++ (wO true ++ W)).length ≤ 100 * b + (q + 1); omega) s2
    refine ⟨N', fun j hj => ?_, k2, k3⟩
    obtain ⟨j, rfl⟩ : ∃ j', j = (j' + 1) + k := ⟨j - k - 1, by omega⟩
    rw [j2 (j + 1), itr_go s1]
    exact k1 j (by omega)
  · intro a b2 d p q l2 q2 l3 z e z2
    refine ⟨PS.2.2.2.2.2.2.2.2.2.2.2.1 a b2 d p q l2 q2 l3 z.1 e z2.1, fun N W l hW h1 h2 h3 hb h4 h => ?_⟩
    obtain ⟨N1, k, j1, j2, j3, j4⟩ := z.2 N _ l (by rw [opn_AO]; exact h1) h2 h3 (AO_b hb a b2) h4 h
    have hq : p < q ∧ q ≤ L := z.1 h3
    have hq2 : q < L := hT.2.1.lt (by omega)
    obtain ⟨u1, u2⟩ := stp_TP hW a b2
    have j1 : k + p ≤ q := j1
    have j3 : EST M N1 o c f q (stp (wA a ++ (wO b2 ++ W))) (l ++ (l2 ++ zsw (wA a ++ (wO b2 ++ W)))) := j3
    have j4 : f + (l ++ (l2 ++ zsw (wA a ++ (wO b2 ++ W)))).length + (stp (wA a ++ (wO b2 ++ W))).length ≤ 100 * b + q := j4
    rw [u1, u2, List.append_nil] at j3 j4
    obtain ⟨N2, s1, s2⟩ := st_or hT hW a b2 j3 hq.2 e (by omega) (by omega)
    have ll : (l ++ l2 ++ (eA a ++ eO b2)).length + (wA false ++ (wO true ++ W)).length ≤ (l ++ l2).length + (wA a ++ (wO b2 ++ W)).length + 1 := by
      rw [List.length_append (bs := eA a ++ eO b2), List.length_append (as := eA a), List.length_append (as := wA false), List.length_append (as := wO true), List.length_append (as := wA a), List.length_append (as := wO b2)]
      cases a <;> cases b2
      · show _ + (0 + 0) + (0 + (1 + _)) ≤ _ + (0 + (0 + _)) + 1; omega
      · show _ + (0 + 1) + (0 + (1 + _)) ≤ _ + (0 + (1 + _)) + 1; omega
      · show _ + (1 + 0) + (0 + (1 + _)) ≤ _ + (1 + (0 + _)) + 1; omega
      · show _ + (1 + 1) + (0 + (1 + _)) ≤ _ + (1 + (1 + _)) + 1; omega
    obtain ⟨N3, N', k', k1, k2, k3, k4, k5, k6, k7⟩ := z2.2 N2 W (l ++ l2 ++ (eA a ++ eO b2)) hW h1 h2 (by omega) hb (by show f + _ + (wA false ++ (wO true ++ W)).length ≤ 100 * b + (q + 1); omega) s2
    have el : l ++ l2 ++ (eA a ++ eO b2) ++ l3 = l ++ (l2 ++ (eA a ++ (eO b2 ++ l3))) := by rw [List.append_assoc, List.append_assoc, List.append_assoc]
    have k1 : k' + (q + 1) ≤ q2 := k1
    have k6 : EST M N' o c f q2 W (l ++ l2 ++ (eA a ++ eO b2) ++ l3) := k6
    have k7 : f + (l ++ l2 ++ (eA a ++ eO b2) ++ l3).length + W.length ≤ 100 * b + q2 := k7
    rw [el] at k6 k7
    refine ⟨N3, N', k' + 1 + k, by show k' + 1 + k + p ≤ q2; omega, fun j => ?_, k3, k4, k5, k6, k7⟩
    rw [show j + (k' + 1 + k) = (j + k' + 1) + k by omega, j2, itr_go s1]
    exact k2 j
  · intro a b2 d p q l2 z e e2
    refine ⟨PS.2.2.2.2.2.2.2.2.2.2.2.2 a b2 d p q l2 z.1 e e2, fun N W l hW h1 h2 h3 hb h4 h => ?_⟩
    obtain ⟨N1, k, j1, j2, j3, j4⟩ := z.2 N _ l (by rw [opn_AO]; exact h1) h2 h3 (AO_b hb a b2) h4 h
    have hq : p < q ∧ q ≤ L := z.1 h3
    obtain ⟨u1, u2⟩ := stp_TP hW a b2
    have j3 : EST M N1 o c f q (stp (wA a ++ (wO b2 ++ W))) (l ++ (l2 ++ zsw (wA a ++ (wO b2 ++ W)))) := j3
    have j4 : f + (l ++ (l2 ++ zsw (wA a ++ (wO b2 ++ W)))).length + (stp (wA a ++ (wO b2 ++ W))).length ≤ 100 * b + q := j4
    rw [u1, u2, List.append_nil] at j3 j4
    obtain ⟨N', s1, s2⟩ := se_or hT.1 hW a b2 j3 (by omega) (by omega)
    rw [List.append_assoc] at s2
    refine ⟨N1, N', k, j1, j2, ⟨j3.tm hT, j3.2.1⟩, ⟨e, e2⟩, s1, s2, ?_⟩
    rw [← List.append_assoc, List.length_append (bs := eA a ++ eO b2), List.length_append (as := eA a)]
    rw [List.length_append (as := wA a), List.length_append (as := wO b2)] at j4
    show _ ≤ 100 * b + q
    cases a <;> cases b2
    · have j4 : f + (l ++ l2).length + (0 + (0 + W.length)) ≤ 100 * b + q := j4
      show f + ((l ++ l2).length + (0 + 0)) + W.length ≤ _; omega
    · have j4 : f + (l ++ l2).length + (0 + (1 + W.length)) ≤ 100 * b + q := j4
      show f + ((l ++ l2).length + (0 + 1)) + W.length ≤ _; omega
    · have j4 : f + (l ++ l2).length + (1 + (0 + W.length)) ≤ 100 * b + q := j4
      show f + ((l ++ l2).length + (1 + 0)) + W.length ≤ _; omega
    · have j4 : f + (l ++ l2).length + (1 + (1 + W.length)) ≤ 100 * b + q := j4
      show f + ((l ++ l2).length + (1 + 1)) + W.length ≤ _; omega
/-- takesE -/
theorem mE_e (hT : TM N o P L) (hb5 : b ≤ 5) (hbf : 100 * b ≤ f) (hc : c < 60) (h20 : mI N (o + 78) 20 = nI f) (h10 : mI N (o + 78) 10 = nI p) (hp : p ≤ L) (hcap : f ≤ 100 * b + p) (x : PX P (some (false, false)) 0 p r) : ∃ N', SQ N N' o (fun a k => Zes c f a k ∨ (a = 88 ∧ k = c)) ∧ (match r with
    | .inl q => fn_X9_takesE N (o + 78) (nI c) = some (0, N') ∧ mI N' (o + 78) 10 = nI q
    | .inr y => fn_X9_takesE N (o + 78) (nI c) = some (1, N') ∧ mI N' (o + 78) 10 = nI y.1 ∧ mI N' (o + 78) 20 = nI (f + y.2.length) ∧ mI N' (o + 88) c = nI f ∧ mI N' (o + 89) c = nI (f + y.2.length) ∧ SG (mI N' (o + 90)) f y.2 ∧ f + y.2.length ≤ 100 * b + y.1) := by
  have hS := hT.1
  have hL := hT.2.1.1
  obtain ⟨M1, eM⟩ : ∃ M1, M1 = sI (sI (sI N (o + 78) 21 0) (o + 78) 22 0) (o + 88) c (nI f) := ⟨_, rfl⟩
  have q1 : SQ N M1 o (fun a k => Zes c f a k ∨ (a = 88 ∧ k = c)) := by
    rw [eM]
    exact ((SQ.rfl.sI (Or.inl (by unfold Zes; omega))).sI (Or.inl (by unfold Zes; omega))).sI (Or.inr ⟨rfl, rfl⟩)
  have hT1 : TM M1 o P L := hT.fr (q1.mono fun a k z => by
    rcases z with z | z
    · exact es_mr z
    · unfold Zmr; omega)
  have E1 : EST M1 M1 o c f p [] [] := by
    refine ⟨SQ.rfl, ?_, ⟨?_, fun k s e => by cases e⟩, ⟨?_, trivial⟩, ?_⟩
    · rw [eM]; simp only [h10, mt_sI, mt_sJ, mt_sP, mt_rI, mt_rJ, ml_sI, ml_sJ, ml_sP, ml_rI, ml_rJ, mP_sI, mP_sJ, mP_rI, mP_rJ, SHP_sI, SHP_sJ, SHP_rI, SHP_rJ, mI_sI, mI_rI, mI_sJ, mI_rJ, mI_sP, mJ_sI, mJ_rI, mJ_sP, mJ_sJ, mJ_rJ, gI_e, pI_e, ck_e, bnd_s, nm_eq, pr2_e, cnul_0, cnul_1, drf_1, sm_1, sm_2, aI_e, aJ_e, wI_e, wJ_e, aL_e, cpI_e, cpJ_e, Nat.reduceLeDiff, Nat.reduceEqDiff, Nat.add_left_cancel_iff, ad0, ad1, false_and, and_false, true_and, and_true, reduceIte, if_true, if_false, zb0, zb1, Int32.reduceLT, Int32.reduceLE, i10, nw1, nw2, nt1, nt2, not_true_eq_false, not_false_eq_true]
    · rw [eM]; simp only [h20, mt_sI, mt_sJ, mt_sP, mt_rI, mt_rJ, ml_sI, ml_sJ, ml_sP, ml_rI, ml_rJ, mP_sI, mP_sJ, mP_rI, mP_rJ, SHP_sI, SHP_sJ, SHP_rI, SHP_rJ, mI_sI, mI_rI, mI_sJ, mI_rJ, mI_sP, mJ_sI, mJ_rI, mJ_sP, mJ_sJ, mJ_rJ, gI_e, pI_e, ck_e, bnd_s, nm_eq, pr2_e, cnul_0, cnul_1, drf_1, sm_1, sm_2, aI_e, aJ_e, wI_e, wJ_e, aL_e, cpI_e, cpJ_e, Nat.reduceLeDiff, Nat.reduceEqDiff, Nat.add_left_cancel_iff, ad0, ad1, false_and, and_false, true_and, and_true, reduceIte, if_true, if_false, zb0, zb1, Int32.reduceLT, Int32.reduceLE, i10, nw1, nw2, nt1, nt2, not_true_eq_false, not_false_eq_true]; rfl
    · rw [eM]; simp only [mt_sI, mt_sJ, mt_sP, mt_rI, mt_rJ, ml_sI, ml_sJ, ml_sP, ml_rI, ml_rJ, mP_sI, mP_sJ, mP_rI, mP_rJ, SHP_sI, SHP_sJ, SHP_rI, SHP_rJ, mI_sI, mI_rI, mI_sJ, mI_rJ, mI_sP, mJ_sI, mJ_rI, mJ_sP, mJ_sJ, mJ_rJ, gI_e, pI_e, ck_e, bnd_s, nm_eq, pr2_e, cnul_0, cnul_1, drf_1, sm_1, sm_2, aI_e, aJ_e, wI_e, wJ_e, aL_e, cpI_e, cpJ_e, Nat.reduceLeDiff, Nat.reduceEqDiff, Nat.add_left_cancel_iff, ad0, ad1, false_and, and_false, true_and, and_true, reduceIte, if_true, if_false, zb0, zb1, Int32.reduceLT, Int32.reduceLE, i10, nw1, nw2, nt1, nt2, not_true_eq_false, not_false_eq_true]; rfl
    · rw [eM]; simp only [mt_sI, mt_sJ, mt_sP, mt_rI, mt_rJ, ml_sI, ml_sJ, ml_sP, ml_rI, ml_rJ, mP_sI, mP_sJ, mP_rI, mP_rJ, SHP_sI, SHP_sJ, SHP_rI, SHP_rJ, mI_sI, mI_rI, mI_sJ, mI_rJ, mI_sP, mJ_sI, mJ_rI, mJ_sP, mJ_sJ, mJ_rJ, gI_e, pI_e, ck_e, bnd_s, nm_eq, pr2_e, cnul_0, cnul_1, drf_1, sm_1, sm_2, aI_e, aJ_e, wI_e, wJ_e, aL_e, cpI_e, cpJ_e, Nat.reduceLeDiff, Nat.reduceEqDiff, Nat.add_left_cancel_iff, ad0, ad1, false_and, and_false, true_and, and_true, reduceIte, if_true, if_false, zb0, zb1, Int32.reduceLT, Int32.reduceLE, i10, nw1, nw2, nt1, nt2, not_true_eq_false, not_false_eq_true]; rfl
  have e88 : mI M1 (o + 88) c = nI f := by rw [eM]; simp only [mt_sI, mt_sJ, mt_sP, mt_rI, mt_rJ, ml_sI, ml_sJ, ml_sP, ml_rI, ml_rJ, mP_sI, mP_sJ, mP_rI, mP_rJ, SHP_sI, SHP_sJ, SHP_rI, SHP_rJ, mI_sI, mI_rI, mI_sJ, mI_rJ, mI_sP, mJ_sI, mJ_rI, mJ_sP, mJ_sJ, mJ_rJ, gI_e, pI_e, ck_e, bnd_s, nm_eq, pr2_e, cnul_0, cnul_1, drf_1, sm_1, sm_2, aI_e, aJ_e, wI_e, wJ_e, aL_e, cpI_e, cpJ_e, Nat.reduceLeDiff, Nat.reduceEqDiff, Nat.add_left_cancel_iff, ad0, ad1, false_and, and_false, true_and, and_true, reduceIte, if_true, if_false, zb0, zb1, Int32.reduceLT, Int32.reduceLE, i10, nw1, nw2, nt1, nt2, not_true_eq_false, not_false_eq_true]
  have run : ∀ r' : Int32 × QM, itr (lpR o c) FU (1, M1) = some r' → fn_X9_takesE N (o + 78) (nI c) = some r' := fun r' e => by
    have e : itr (fun s22 : Int32 × QM => lp_X9_takesE_22 (o + 78) (nI c) s22.1 s22.2) FU (1, M1) = some r' := e
    have eM' := eM.symm
    simp only [fn_X9_takesE, h20, eM', e, pr2, hc, mt_sI, mt_sJ, mt_sP, mt_rI, mt_rJ, ml_sI, ml_sJ, ml_sP, ml_rI, ml_rJ, mP_sI, mP_sJ, mP_rI, mP_rJ, SHP_sI, SHP_sJ, SHP_rI, SHP_rJ, mI_sI, mI_rI, mI_sJ, mI_rJ, mI_sP, mJ_sI, mJ_rI, mJ_sP, mJ_sJ, mJ_rJ, gI_e, pI_e, ck_e, bnd_s, nm_eq, pr2_e, cnul_0, cnul_1, drf_1, sm_1, sm_2, aI_e, aJ_e, wI_e, wJ_e, aL_e, cpI_e, cpJ_e, Nat.reduceLeDiff, Nat.reduceEqDiff, Nat.add_left_cancel_iff, ad0, ad1, false_and, and_false, true_and, and_true, reduceIte, if_true, if_false, zb0, zb1, Int32.reduceLT, Int32.reduceLE, i10, nw1, nw2, nt1, nt2, not_true_eq_false, not_false_eq_true, mt_78, mt_79, ml_79, mt_80, ml_80, mt_81, ml_81, mt_82, ml_82, mt_83, ml_83, mt_84, ml_84, mt_85, ml_85, mt_86, ml_86, mt_87, ml_87, mt_88, ml_88, mt_89, ml_89, mt_90, ml_90, mt_91, ml_91, mt_92, ml_92, mt_93, ml_93, mt_94, ml_94, mt_95, ml_95, mt_96, ml_96, mt_97, ml_97, mt_98, ml_98, mt_99, ml_99, mt_100, ml_100, mt_101, ml_101, mt_102, ml_102, mt_103, ml_103, mt_104, ml_104, mt_105, ml_105, mt_106, ml_106, mt_107, ml_107, mt_108, ml_108, mt_109, ml_109, mt_110, ml_110, mt_111, ml_111, mt_112, ml_112, mt_113, ml_113, mt_114, ml_114, mt_115, ml_115, mt_116, ml_116, mt_117, ml_117, mt_118, ml_118, mt_119, ml_119, mt_120, ml_120, mt_121, ml_121, mt_122, ml_122, mt_123, ml_123, gP_78_2, gP_78_3, gP_78_4, gP_78_5, gP_78_6, gP_78_12, gP_78_13, gP_78_14, gP_78_15, gP_78_16, gP_78_17, gP_78_18, gP_78_19, gP_78_23, gP_78_24, gP_78_26, gP_78_27, gP_78_28, gP_78_31, gP_78_32, gP_78_34, gP_78_35, gP_78_36, gP_78_37, gP_78_40, gP_78_41, gP_78_42, gP_78_43, gP_78_52, gP_78_53, gP_78_54, gP_78_55, gP_78_56, gP_78_57, gP_78_58, gP_78_59, gP_78_60, gP_78_61, gP_78_62, gP_78_63, gP_78_65, gP_78_66, gP_78_67, gP_78_68, gP_78_69, hS]
  have K := (x _ (KM_c hT1 hb5 hbf hc)).2 M1 [] [] (Or.inl rfl) rfl (by omega) hp (fun w hw => by cases hw) (by show f + 0 + 0 ≤ _; omega) E1
  have S := (x _ (KM_c hT1 hb5 hbf hc)).1 hp
  cases r with
  | inl q =>
    obtain ⟨N', j1, j2, j3⟩ := K
    exact ⟨N', q1.trans (j2.mono fun _ _ z => Or.inl z), run _ (j1 2048 (by omega)), j3⟩
  | inr y =>
    obtain ⟨N2, N', k, j1, j2, ⟨j3, j4⟩, j5, j6, j7, j8⟩ := K
    have hq : p < y.1 ∧ y.1 ≤ L := S
    have se := (st_end hT1 hc j3 j4 hq.2 j5 j6 j7 (by decide)).1 rfl
    have a := j7.to (v := nI (f + ([] ++ y.2).length))
    have it : itr (lpR o c) FU (1, M1) = some (1, sI N' (o + 89) c (nI (f + ([] ++ y.2).length))) := by
      have : (2048 : Nat) = (2047 - k) + 1 + k := by omega
      show itr (lpR o c) 2048 (1, M1) = _
      rw [this, j2]
      exact itr_exit se
    refine ⟨_, q1.trans (a.1.mono fun _ _ z => Or.inl z), run _ it, a.2.1, a.2.2.1.1, ?_, ?_, a.2.2.1.2, j8⟩
    · have := a.1.2.2.2.2 88 c (by unfold Zes; omega)
      exact this.trans e88
    · simp only [mt_sI, mt_sJ, mt_sP, mt_rI, mt_rJ, ml_sI, ml_sJ, ml_sP, ml_rI, ml_rJ, mP_sI, mP_sJ, mP_rI, mP_rJ, SHP_sI, SHP_sJ, SHP_rI, SHP_rJ, mI_sI, mI_rI, mI_sJ, mI_rJ, mI_sP, mJ_sI, mJ_rI, mJ_sP, mJ_sJ, mJ_rJ, gI_e, pI_e, ck_e, bnd_s, nm_eq, pr2_e, cnul_0, cnul_1, drf_1, sm_1, sm_2, aI_e, aJ_e, wI_e, wJ_e, aL_e, cpI_e, cpJ_e, Nat.reduceLeDiff, Nat.reduceEqDiff, Nat.add_left_cancel_iff, ad0, ad1, false_and, and_false, true_and, and_true, reduceIte, if_true, if_false, zb0, zb1, Int32.reduceLT, Int32.reduceLE, i10, nw1, nw2, nt1, nt2, not_true_eq_false, not_false_eq_true]; rfl
end ME2
