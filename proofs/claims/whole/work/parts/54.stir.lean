/-! ===== cells STIRRED, MILK poured, for a while ===== -/
def swS (a b : Nat) (S : Nat → Int32) : Nat → Int32 := fun j => if j = b then S a else if j = a then S b else S j
def poS (mk : Int32) (c : Nat) (S : Nat → Int32) : Nat → Int32 := fun j => if j = c then (if 0 ≤ S c - mk then S c - mk else 0) else S j
def Z79 : Nat → Nat → Prop := fun a k => a = 79 ∧ k < 16
section SW1
variable {M N Mw : QM} {o x w m p a b c : Nat} {G : GG} {S : Nat → Int32} {mk : Int32}
theorem swS_bd (h : ∀ c, c < 16 → bd (S c) 99) (ha : a < 16) (hb : b < 16) : ∀ c, c < 16 → bd (swS a b S c) 99 := by
  intro c hc
  unfold swS
  split
  · exact h a ha
  · split
    · exact h b hb
    · exact h c hc
theorem poS_bd (h : ∀ c, c < 16 → bd (S c) 99) (hm : bd mk 99) (ha : a < 16) : ∀ c, c < 16 → bd (poS mk a S c) 99 := by
  intro c hc
  unfold poS
  split
  · exact pour_bd (h a ha) hm
  · exact h c hc
theorem swS_swS (hab : ¬ b = a) : swS a b (swS a b S) = S := by
  funext j
  unfold swS
  by_cases h1 : j = b
  · rw [if_pos h1, if_neg (fun q => hab q.symm), if_pos rfl, h1]
  · rw [if_neg h1]
    by_cases h2 : j = a
    · rw [if_pos h2, if_pos rfl, h2]
    · rw [if_neg h2, if_neg h1, if_neg h2]
theorem swap_c (hC : CP M o x S) (ha : a < 16) (hb : b < 16) (hab : ¬ b = a) : ∃ M1, fn_X2_swap M (o + x) (nI a) (nI b) = some M1 ∧ SQ M M1 o (fun p k => p = x + 1 ∧ k < 16) ∧ CP M1 o x (swS a b S) := by
  obtain ⟨⟨t1, t2, t3, t4⟩, g⟩ := hC
  have la : a < ml M (o + (x + 1)) := by rw [t4]; exact ha
  have lb : b < ml M (o + (x + 1)) := by rw [t4]; exact hb
  have l2 : ml M (o + (x + 1)) ≤ 2000 := by rw [t4]; decide
  have sq : SQ M (sI (sI M (o + (x + 1)) a (S b)) (o + (x + 1)) b (S a)) o (fun p k => p = x + 1 ∧ k < 16) := (SQ.rfl.sI ⟨rfl, ha⟩).sI ⟨rfl, hb⟩
  refine ⟨_, ?_, sq, SQ.cup ⟨⟨t1, t2, t3, t4⟩, g⟩ sq fun j hj => ?_⟩
  · unfold fn_X2_swap
    rw [gR_e t1 t2, aI_e t3 la l2, g a ha, gR_e t1 t2, gR_e t1 t2, aI_e t3 lb l2, g b hb, wI_e t3 la l2, gR_e (M := sI M (o + (x + 1)) a (S b)) t1 t2, wI_e (M := sI M (o + (x + 1)) a (S b)) t3 lb l2]
  · unfold swS
    rw [mI_sI, mI_sI]
    by_cases h1 : j = b
    · rw [if_pos ⟨rfl, h1⟩, if_pos h1]
    · rw [if_neg (fun q => h1 q.2), if_neg h1]
      by_cases h2 : j = a
      · rw [if_pos ⟨rfl, h2⟩, if_pos h2]
      · rw [if_neg (fun q => h2 q.2), if_neg h2]; exact g j hj
theorem pour_c (hC : CP M o x S) (ha : a < 16) : ∃ M1, fn_X2_pour M (o + x) (nI a) mk = some M1 ∧ SQ M M1 o (fun p k => p = x + 1 ∧ k < 16) ∧ CP M1 o x (poS mk a S) := by
  obtain ⟨⟨t1, t2, t3, t4⟩, g⟩ := hC
  have la : a < ml M (o + (x + 1)) := by rw [t4]; exact ha
  have l2 : ml M (o + (x + 1)) ≤ 2000 := by rw [t4]; decide
  have sq : SQ M (sI M (o + (x + 1)) a (if 0 ≤ S a - mk then S a - mk else 0)) o (fun p k => p = x + 1 ∧ k < 16) := SQ.rfl.sI ⟨rfl, ha⟩
  refine ⟨_, ?_, sq, SQ.cup ⟨⟨t1, t2, t3, t4⟩, g⟩ sq fun j hj => ?_⟩
  · unfold fn_X2_pour
    rw [gR_e t1 t2, gR_e t1 t2, aI_e t3 la l2, g a ha, max0, wI_e t3 la l2]
  · unfold poS
    rw [mI_sI]
    by_cases h1 : j = a
    · rw [if_pos ⟨rfl, h1⟩, if_pos h1]
    · rw [if_neg (fun q => h1 q.2), if_neg h1]; exact g j hj
theorem Z79_Zm (a k : Nat) (h : Z79 a k) : Zm a k := Or.inr (Or.inr (Or.inl h))
theorem stirs_m (hS : SHP M o) (hF : FV S m M o) (ha : a < 16) (hb : b < 16) (hab : ¬ b = a) : ∃ M1, fn_X9_stirs M (o + 78) (nI a) (nI b) = some M1 ∧ SQ M M1 o Z79 ∧ FV (swS a b S) m M1 o := by
  have ga := hF.1 a ha
  have gb := hF.1 b hb
  have sq : SQ M (sI (sI M (o + 79) a (S b)) (o + 79) b (S a)) o Z79 := (SQ.rfl.sI ⟨rfl, ha⟩).sI ⟨rfl, hb⟩
  have hba : ¬ b = a := hab
  refine ⟨_, ?_, sq, fun j hj => ?_, ?_, swS_bd hF.2.2.1 ha hb, hF.2.2.2⟩
  · simp only [fn_X9_stirs, ga, gb, mt_sI, mt_sJ, mt_sP, mt_rI, mt_rJ, ml_sI, ml_sJ, ml_sP, ml_rI, ml_rJ, mP_sI, mP_sJ, mP_rI, mP_rJ, SHP_sI, SHP_sJ, SHP_rI, SHP_rJ, mI_sI, mI_rI, mI_sJ, mI_rJ, mI_sP, mJ_sI, mJ_rI, mJ_sP, mJ_sJ, mJ_rJ, gI_e, pI_e, ck_e, bnd_s, nm_eq, pr2_e, cnul_0, cnul_1, drf_1, sm_1, sm_2, aI_e, aJ_e, wI_e, wJ_e, aL_e, cpI_e, cpJ_e, Nat.reduceLeDiff, Nat.reduceEqDiff, Nat.add_left_cancel_iff, ad0, ad1, false_and, and_false, true_and, and_true, reduceIte, if_true, if_false, zb0, zb1, Int32.reduceLT, Int32.reduceLE, i10, nw1, nw2, nt1, nt2, not_true_eq_false, not_false_eq_true, mt_78, mt_79, ml_79, mt_80, ml_80, mt_81, ml_81, mt_82, ml_82, mt_83, ml_83, mt_84, ml_84, mt_85, ml_85, mt_86, ml_86, mt_87, ml_87, mt_88, ml_88, mt_89, ml_89, mt_90, ml_90, mt_91, ml_91, mt_92, ml_92, mt_93, ml_93, mt_94, ml_94, mt_95, ml_95, mt_96, ml_96, mt_97, ml_97, mt_98, ml_98, mt_99, ml_99, mt_100, ml_100, mt_101, ml_101, mt_102, ml_102, mt_103, ml_103, mt_104, ml_104, mt_105, ml_105, mt_106, ml_106, mt_107, ml_107, mt_108, ml_108, mt_109, ml_109, mt_110, ml_110, mt_111, ml_111, mt_112, ml_112, mt_113, ml_113, mt_114, ml_114, mt_115, ml_115, mt_116, ml_116, mt_117, ml_117, mt_118, ml_118, mt_119, ml_119, mt_120, ml_120, mt_121, ml_121, mt_122, ml_122, mt_123, ml_123, gP_78_2, gP_78_3, gP_78_4, gP_78_5, gP_78_6, gP_78_12, gP_78_13, gP_78_14, gP_78_15, gP_78_16, gP_78_17, gP_78_18, gP_78_19, gP_78_23, gP_78_24, gP_78_26, gP_78_27, gP_78_28, gP_78_31, gP_78_32, gP_78_34, gP_78_35, gP_78_36, gP_78_37, gP_78_40, gP_78_41, gP_78_42, gP_78_43, gP_78_52, gP_78_53, gP_78_54, gP_78_55, gP_78_56, gP_78_57, gP_78_58, gP_78_59, gP_78_60, gP_78_61, gP_78_62, gP_78_63, gP_78_65, gP_78_66, gP_78_67, gP_78_68, gP_78_69, hS, ha, hb]
  · unfold swS
    rw [mI_sI, mI_sI]
    by_cases h1 : j = b
    · rw [if_pos ⟨rfl, h1⟩, if_pos h1]
    · rw [if_neg (fun q => h1 q.2), if_neg h1]
      by_cases h2 : j = a
      · rw [if_pos ⟨rfl, h2⟩, if_pos h2]
      · rw [if_neg (fun q => h2 q.2), if_neg h2]; exact hF.1 j hj
  · exact (sq.2.2.2.2 78 1 (by unfold Z79; omega)).trans hF.2.1
theorem milkOf_m (hS : SHP M o) (hB : BRW M o G) (hF : FV S m M o) (hc : c < 16) : fn_X9_milkOf M (o + 78) (nI c) = some (if 0 ≤ S c - gw G 1601 then S c - gw G 1601 else 0) := by
  have g := hF.1 c hc
  have ml := milk_e hS hB
  simp only [fn_X9_milkOf, fn_X9_least0, g, ml, mt_sI, mt_sJ, mt_sP, mt_rI, mt_rJ, ml_sI, ml_sJ, ml_sP, ml_rI, ml_rJ, mP_sI, mP_sJ, mP_rI, mP_rJ, SHP_sI, SHP_sJ, SHP_rI, SHP_rJ, mI_sI, mI_rI, mI_sJ, mI_rJ, mI_sP, mJ_sI, mJ_rI, mJ_sP, mJ_sJ, mJ_rJ, gI_e, pI_e, ck_e, bnd_s, nm_eq, pr2_e, cnul_0, cnul_1, drf_1, sm_1, sm_2, aI_e, aJ_e, wI_e, wJ_e, aL_e, cpI_e, cpJ_e, Nat.reduceLeDiff, Nat.reduceEqDiff, Nat.add_left_cancel_iff, ad0, ad1, false_and, and_false, true_and, and_true, reduceIte, if_true, if_false, zb0, zb1, Int32.reduceLT, Int32.reduceLE, i10, nw1, nw2, nt1, nt2, not_true_eq_false, not_false_eq_true, mt_78, mt_79, ml_79, mt_80, ml_80, mt_81, ml_81, mt_82, ml_82, mt_83, ml_83, mt_84, ml_84, mt_85, ml_85, mt_86, ml_86, mt_87, ml_87, mt_88, ml_88, mt_89, ml_89, mt_90, ml_90, mt_91, ml_91, mt_92, ml_92, mt_93, ml_93, mt_94, ml_94, mt_95, ml_95, mt_96, ml_96, mt_97, ml_97, mt_98, ml_98, mt_99, ml_99, mt_100, ml_100, mt_101, ml_101, mt_102, ml_102, mt_103, ml_103, mt_104, ml_104, mt_105, ml_105, mt_106, ml_106, mt_107, ml_107, mt_108, ml_108, mt_109, ml_109, mt_110, ml_110, mt_111, ml_111, mt_112, ml_112, mt_113, ml_113, mt_114, ml_114, mt_115, ml_115, mt_116, ml_116, mt_117, ml_117, mt_118, ml_118, mt_119, ml_119, mt_120, ml_120, mt_121, ml_121, mt_122, ml_122, mt_123, ml_123, gP_78_2, gP_78_3, gP_78_4, gP_78_5, gP_78_6, gP_78_12, gP_78_13, gP_78_14, gP_78_15, gP_78_16, gP_78_17, gP_78_18, gP_78_19, gP_78_23, gP_78_24, gP_78_26, gP_78_27, gP_78_28, gP_78_31, gP_78_32, gP_78_34, gP_78_35, gP_78_36, gP_78_37, gP_78_40, gP_78_41, gP_78_42, gP_78_43, gP_78_52, gP_78_53, gP_78_54, gP_78_55, gP_78_56, gP_78_57, gP_78_58, gP_78_59, gP_78_60, gP_78_61, gP_78_62, gP_78_63, gP_78_65, gP_78_66, gP_78_67, gP_78_68, gP_78_69, hS, hc]
theorem pourFV (hF : FV S m M o) (hm : bd mk 99) (hc : c < 16) : FV (poS mk c S) m (sI M (o + 79) c (if 0 ≤ S c - mk then S c - mk else 0)) o := by
  refine ⟨fun j hj => ?_, ?_, poS_bd hF.2.2.1 hm hc, hF.2.2.2⟩
  · unfold poS
    rw [mI_sI]
    by_cases h1 : j = c
    · rw [if_pos ⟨rfl, h1⟩, if_pos h1]
    · rw [if_neg (fun q => h1 q.2), if_neg h1]; exact hF.1 j hj
  · rw [mI_sI, if_neg (by omega)]; exact hF.2.1
/-- all is as it was, but for scratch -/
theorem FV.back (hs : SQ M N o Zm) (h1 : FV S m M o) (h2 : FV S m N o) : SC M N o := by
  refine ⟨hs.1, hs.2.1, hs.2.2.1, hs.2.2.2.1, fun a k q => ?_⟩
  by_cases e1 : a = 79 ∧ k < 16
  · obtain ⟨rfl, e2⟩ := e1
    exact (h2.1 k e2).trans (h1.1 k e2).symm
  · by_cases e2 : a = 78 ∧ k = 1
    · obtain ⟨rfl, rfl⟩ := e2
      exact h2.2.1.trans h1.2.1.symm
    · refine hs.2.2.2.2 a k fun z => ?_
      rcases Zm_b a k z with z | z
      · exact q z
      · unfold Zb at z
        omega
end SW1
/-! stirred -/
abbrev STS : Type := Option Nat × Int32
def stS (s : STS) (a b : Nat) (r : Option Nat) : STS :=
  match r, s.1 with
  | none, _ => s
  | some x, none => (some x, 100 * nI a + nI b)
  | some x, some y => if x < y then (some x, 100 * nI a + nI b) else s
def stN (G : GG) (S : Nat → Int32) (p a b : Nat) (s : STS) : STS := if fn_X9_isNext (nI a) (nI b) = 0 then s else stS s a b (crG G (swS a b S) p)
def stI (G : GG) (S : Nat → Int32) (p a : Nat) : Nat → STS → STS
  | 0, s => s
  | n + 1, s => stN G S p a (a + 1 + n) (stI G S p a n s)
def stO (G : GG) (S : Nat → Int32) (p : Nat) (s : STS) : Nat → STS
  | 0 => s
  | n + 1 => stI G S p n (15 - n) (stO G S p s n)
def loI : Option Nat → Int32
  | none => 999
  | some k => nI k
def stB (s : STS) : Prop := ∀ n, s.1 = some n → n < 16
section ST2
variable {M N Mw : QM} {o x w m p a b c : Nat} {G : GG} {S : Nat → Int32} {s : STS}
theorem crG_lt {T : Nat → Int32} {q : Nat} : ∀ n, crG G T q = some n → n < 16 := fun n e => (lst_s e).1
theorem stN_b (h : stB s) : stB (stN G S p a b s) := by
  unfold stN
  split
  · exact h
  · intro n hn
    cases e : crG G (swS a b S) p with
    | none => rw [e] at hn; exact h n hn
    | some y =>
      have y16 := crG_lt y e
      rw [e] at hn
      cases e2 : s.1 with
      | none =>
        have hn : (stS s a b (some y)).1 = some n := hn
        unfold stS at hn
        rw [e2] at hn
        cases hn
        exact y16
      | some z =>
        have hn : (stS s a b (some y)).1 = some n := hn
        unfold stS at hn
        rw [e2] at hn
        dsimp only at hn
        split at hn
        · cases hn; exact y16
        · exact h n hn
theorem stI_b (h : stB s) : ∀ n, stB (stI G S p a n s)
  | 0 => h
  | n + 1 => stN_b (stI_b h n)
theorem stO_b (h : stB s) : ∀ n, stB (stO G S p s n)
  | 0 => h
  | n + 1 => stI_b (stO_b h n) (15 - n)
set_option maxHeartbeats 2000000 in
theorem stir1_c (h : CW Mw o G w) (hC : CP Mw o 59 S) (hp : p < w) (ha : a < 16) (hb : b < 16) (hab : ¬ b = a) (hs : stB s) : ∃ M1, lp_X8_stirred_78 o (o + (17 + 2 * p)) (fn_X8_around ((1 : Int32) <<< (nI a &&& 31)) 0) (nI a) (iI s.1) s.2 (nI b) Mw = some (.inl (iI (stN G S p a b s).1, (stN G S p a b s).2, nI (b + 1), M1)) ∧ SQ Mw M1 o (Zc 59) ∧ CP M1 o 59 S := by
  have hS := h.1
  have f1 := n16 hb
  have hp5 : p < 5 := by have := h.2.1.2; omega
  have nx := next_e a ha b hb
  by_cases q : fn_X9_isNext (nI a) (nI b) = 0
  · have q' := q
    rw [← nx] at q'
    refine ⟨Mw, ?_, SQ.rfl, hC⟩
    unfold lp_X8_stirred_78 stN
    rw [if_neg f1, if_pos q', if_pos q, nm_eq, nI_1]
  · have q' := q
    rw [← nx] at q'
    obtain ⟨M1, c1, c2, c3⟩ := swap_c hC ha hb hab
    have zc : ∀ a k, (a = 59 + 1 ∧ k < 16) → Zc 59 a k := fun a k z => Or.inl z
    have h1 := h.sc (c2.mono fun a k z => Zc59_scr a k (zc a k z))
    have hS1 := h1.1
    have cr := crossing_c (sp := gw G 1600) (h1.wk hp) c3
    obtain ⟨M2, d1, d2, d3⟩ := swap_c c3 ha hb hab
    rw [swS_swS hab] at d3
    have sp : ∀ {α : Type} (f : Int32 → Option α), (gR M1 (o + 1) 5 7 fun r => gI M1 r 1 1 f) = f (gw G 1600) := fun f => h1.spn
    obtain ⟨r, hr⟩ : ∃ r, r = crG G (swS a b S) p := ⟨_, rfl⟩
    have cr2 : fn_X7_crossing M1 (o + (17 + 2 * p)) (o + 59) (gw G 1600) = some (iI r) := by rw [hr]; exact cr
    have lt : ∀ n, r = some n → n < 2 ^ 31 := fun n e => by
      have : n < 16 := crG_lt (G := G) (T := swS a b S) (q := p) n (by rw [← hr]; exact e)
      omega
    have e : stN G S p a b s = stS s a b r := by unfold stN; rw [if_neg q, hr]
    refine ⟨M2, ?_, (c2.mono zc).trans (d2.mono zc), d3⟩
    rw [e]
    unfold lp_X8_stirred_78
    rw [if_neg f1, if_neg q', gP_0_7 hS, ck_e (mt_59 hS), bnd_e c1, gP_0_7 hS1, gP_0_0 hS1, sp, ck_e (mtw_4 hS1 hp5), bnd_e cr2, gP_0_7 hS1, ck_e (mt_59 hS1), bnd_e d1]
    cases hr2 : r with
    | none =>
      have f2 : iI none < 0 := by decide
      rw [if_pos f2, nm_eq, nI_1]
      rfl
    | some y =>
      have hy := lt y hr2
      have f2 : ¬ iI (some y) < 0 := nI_pos hy
      rw [if_neg f2]
      cases hs1 : s.1 with
      | none =>
        have f3 : iI none < 0 := by decide
        have e2 : stS s a b (some y) = (some y, 100 * nI a + nI b) := by unfold stS; rw [hs1]
        rw [if_pos f3, e2]
        unfold jn_X8_stirred_152_78
        rw [nm_eq, nm_eq, nI_1]
      | some z =>
        have hz := hs z hs1
        have f3 : ¬ iI (some z) < 0 := nI_pos (by omega)
        rw [if_neg f3]
        by_cases q2 : y < z
        · have e2 : stS s a b (some y) = (some y, 100 * nI a + nI b) := by unfold stS; rw [hs1]; exact if_pos q2
          have f4 : ¬ iI (some z) ≤ iI (some y) := by show ¬ nI z ≤ nI y; rw [nI_leI (by omega) hy]; omega
          rw [if_neg f4, e2]
          unfold jn_X8_stirred_152_78
          rw [nm_eq, nm_eq, nI_1]
        · have e2 : stS s a b (some y) = s := by unfold stS; rw [hs1]; exact if_neg q2
          have f4 : iI (some z) ≤ iI (some y) := nI_le (by omega) hy
          rw [if_pos f4, e2, nm_eq, nI_1, hs1]
theorem stir2_c (h : CW M o G w) (hC : CP M o 59 S) (hp : p < w) (ha : a < 16) (hs : stB s) : ∃ M1, itr (fun s78 : Int32 × Int32 × Int32 × QM => lp_X8_stirred_78 o (o + (17 + 2 * p)) (fn_X8_around ((1 : Int32) <<< (nI a &&& 31)) 0) (nI a) s78.1 s78.2.1 s78.2.2.1 s78.2.2.2) FU (iI s.1, s.2, nI (a + 1), M) = some (iI (stI G S p a (15 - a) s).1, (stI G S p a (15 - a) s).2, M1) ∧ SQ M M1 o (Zc 59) ∧ CP M1 o 59 S := by
  have loop := itr_J (f := fun s78 : Int32 × Int32 × Int32 × QM => lp_X8_stirred_78 o (o + (17 + 2 * p)) (fn_X8_around ((1 : Int32) <<< (nI a &&& 31)) 0) (nI a) s78.1 s78.2.1 s78.2.2.1 s78.2.2.2) (s0 := (iI s.1, s.2, nI (a + 1), M)) (fun n z => n ≤ 15 - a ∧ ∃ Mw, z = (iI (stI G S p a n s).1, (stI G S p a n s).2, nI (a + 1 + n), Mw) ∧ SQ M Mw o (Zc 59) ∧ CP Mw o 59 S) (fun r => ∃ M1, r = (iI (stI G S p a (15 - a) s).1, (stI G S p a (15 - a) s).2, M1) ∧ SQ M M1 o (Zc 59) ∧ CP M1 o 59 S) 16
    ⟨Nat.zero_le _, M, rfl, SQ.rfl, hC⟩
    (fun n z hz => by
      obtain ⟨hn, Mw, rfl, g1, g2⟩ := hz
      by_cases e : n = 15 - a
      · left
        subst e
        refine ⟨_, ?_, Mw, rfl, g1, g2⟩
        show lp_X8_stirred_78 o _ _ (nI a) _ _ (nI (a + 1 + (15 - a))) Mw = _
        rw [show a + 1 + (15 - a) = 16 by omega]
        unfold lp_X8_stirred_78
        rw [if_pos (by decide)]
      · right
        obtain ⟨M1, c1, c2, c3⟩ := stir1_c (h.sc (g1.mono Zc59_scr)) g2 hp ha (by omega : a + 1 + n < 16) (by omega) (stI_b (G := G) (S := S) (p := p) (a := a) hs n)
        exact ⟨by omega, _, c1, by omega, M1, rfl, g1.trans c2, c3⟩) (by decide)
  obtain ⟨r, h1, M1, rfl, h2⟩ := loop
  exact ⟨M1, h1, h2⟩
theorem stir3_c (h : CW M o G w) (hC : CP M o 59 S) (hp : p < w) (hs : stB s) : ∃ M1, itr (fun s55 : Int32 × Int32 × Int32 × QM => lp_X8_stirred_55 o (o + (17 + 2 * p)) s55.1 s55.2.1 s55.2.2.1 s55.2.2.2) FU (iI s.1, s.2, 0, M) = some ((stO G S p s 16).2, M1) ∧ SQ M M1 o (Zc 59) := by
  have loop := itr_J (f := fun s55 : Int32 × Int32 × Int32 × QM => lp_X8_stirred_55 o (o + (17 + 2 * p)) s55.1 s55.2.1 s55.2.2.1 s55.2.2.2) (s0 := (iI s.1, s.2, 0, M)) (fun n z => n ≤ 16 ∧ ∃ Mw, z = (iI (stO G S p s n).1, (stO G S p s n).2, nI n, Mw) ∧ SQ M Mw o (Zc 59) ∧ CP Mw o 59 S) (fun r => ∃ M1, r = ((stO G S p s 16).2, M1) ∧ SQ M M1 o (Zc 59)) 16
    ⟨Nat.zero_le _, M, rfl, SQ.rfl, hC⟩
    (fun n z hz => by
      obtain ⟨hn, Mw, rfl, g1, g2⟩ := hz
      by_cases e : n = 16
      · left
        subst e
        refine ⟨_, ?_, Mw, rfl, g1⟩
        show lp_X8_stirred_55 o _ _ _ (nI 16) Mw = _
        unfold lp_X8_stirred_55
        rw [if_pos (by decide)]
      · right
        have hn' : n < 16 := by omega
        obtain ⟨M1, c1, c2, c3⟩ := stir2_c (h.sc (g1.mono Zc59_scr)) g2 hp hn' (stO_b (G := G) (S := S) (p := p) hs n)
        refine ⟨hn', (iI (stO G S p s (n + 1)).1, (stO G S p s (n + 1)).2, nI (n + 1), M1), ?_, by omega, M1, rfl, g1.trans c2, c3⟩
        show lp_X8_stirred_55 o (o + (17 + 2 * p)) (iI (stO G S p s n).1) (stO G S p s n).2 (nI n) Mw = _
        unfold lp_X8_stirred_55
        rw [if_neg (n16 hn'), nm_eq, nm_eq, nI_1, bnd_e c1]
        rfl) (by decide)
  obtain ⟨r, h1, M1, rfl, h2⟩ := loop
  exact ⟨M1, h1, h2⟩
set_option maxHeartbeats 2000000 in
theorem stir1_m (h : MW Mw o G w) (hF : FV S m Mw o) (h0 : mI Mw (o + 78) 25 = 0) (hp : p < w) (ha : a < 16) (hb : b < 16) (hab : ¬ b = a) (hs : stB s) : ∃ M1, lp_X9_stirred_47 (o + 78) (nI p) (nI a) (loI s.1) s.2 (nI b) Mw = some (.inl (loI (stN G S p a b s).1, (stN G S p a b s).2, nI (b + 1), M1)) ∧ SQ Mw M1 o Zm ∧ FV S m M1 o := by
  have hS := h.1
  have f1 := n16 hb
  by_cases q : fn_X9_isNext (nI a) (nI b) = 0
  · refine ⟨Mw, ?_, SQ.rfl, hF⟩
    unfold stN
    rw [if_pos q]
    simp only [lp_X9_stirred_47, f1, q, nI_1, mt_sI, mt_sJ, mt_sP, mt_rI, mt_rJ, ml_sI, ml_sJ, ml_sP, ml_rI, ml_rJ, mP_sI, mP_sJ, mP_rI, mP_rJ, SHP_sI, SHP_sJ, SHP_rI, SHP_rJ, mI_sI, mI_rI, mI_sJ, mI_rJ, mI_sP, mJ_sI, mJ_rI, mJ_sP, mJ_sJ, mJ_rJ, gI_e, pI_e, ck_e, bnd_s, nm_eq, pr2_e, cnul_0, cnul_1, drf_1, sm_1, sm_2, aI_e, aJ_e, wI_e, wJ_e, aL_e, cpI_e, cpJ_e, Nat.reduceLeDiff, Nat.reduceEqDiff, Nat.add_left_cancel_iff, ad0, ad1, false_and, and_false, true_and, and_true, reduceIte, if_true, if_false, zb0, zb1, Int32.reduceLT, Int32.reduceLE, i10, nw1, nw2, nt1, nt2, not_true_eq_false, not_false_eq_true, mt_78, mt_79, ml_79, mt_80, ml_80, mt_81, ml_81, mt_82, ml_82, mt_83, ml_83, mt_84, ml_84, mt_85, ml_85, mt_86, ml_86, mt_87, ml_87, mt_88, ml_88, mt_89, ml_89, mt_90, ml_90, mt_91, ml_91, mt_92, ml_92, mt_93, ml_93, mt_94, ml_94, mt_95, ml_95, mt_96, ml_96, mt_97, ml_97, mt_98, ml_98, mt_99, ml_99, mt_100, ml_100, mt_101, ml_101, mt_102, ml_102, mt_103, ml_103, mt_104, ml_104, mt_105, ml_105, mt_106, ml_106, mt_107, ml_107, mt_108, ml_108, mt_109, ml_109, mt_110, ml_110, mt_111, ml_111, mt_112, ml_112, mt_113, ml_113, mt_114, ml_114, mt_115, ml_115, mt_116, ml_116, mt_117, ml_117, mt_118, ml_118, mt_119, ml_119, mt_120, ml_120, mt_121, ml_121, mt_122, ml_122, mt_123, ml_123, gP_78_2, gP_78_3, gP_78_4, gP_78_5, gP_78_6, gP_78_12, gP_78_13, gP_78_14, gP_78_15, gP_78_16, gP_78_17, gP_78_18, gP_78_19, gP_78_23, gP_78_24, gP_78_26, gP_78_27, gP_78_28, gP_78_31, gP_78_32, gP_78_34, gP_78_35, gP_78_36, gP_78_37, gP_78_40, gP_78_41, gP_78_42, gP_78_43, gP_78_52, gP_78_53, gP_78_54, gP_78_55, gP_78_56, gP_78_57, gP_78_58, gP_78_59, gP_78_60, gP_78_61, gP_78_62, gP_78_63, gP_78_65, gP_78_66, gP_78_67, gP_78_68, gP_78_69, hS]
  · obtain ⟨M1, c1, c2, c3⟩ := stirs_m hS hF ha hb hab
    have h1 := h.zm c2 Z79_Zm
    obtain ⟨M2, d1, d2, d3⟩ := canCross_m h1 c3 ((c2.2.2.2.2 78 25 (by unfold Z79; omega)).trans h0) hp
    have h2 := h1.zm d3 ZB_Zm
    obtain ⟨M3, e1, e2, e3⟩ := stirs_m h2.1 (c3.zb d3) ha hb hab
    rw [swS_swS hab] at e3
    have hS1 := h1.1
    have hS2 := h2.1
    have hS3 := e2.shp hS2
    obtain ⟨r, hr⟩ : ∃ r, r = crG G (swS a b S) p := ⟨_, rfl⟩
    have lt : ∀ n, r = some n → n < 16 := fun n e => crG_lt (G := G) (T := swS a b S) (q := p) n (by rw [← hr]; exact e)
    have e : stN G S p a b s = stS s a b r := by unfold stN; rw [if_neg q, hr]
    rw [← hr] at d1
    refine ⟨M3, ?_, ((c2.mono Z79_Zm).trans (d3.mono ZB_Zm)).trans (e2.mono Z79_Zm), e3⟩
    rw [e]
    cases hr2 : r with
    | none =>
      have f2 : iI none < 0 := by decide
      rw [hr2] at d1
      have e2 : stS s a b none = s := rfl
      rw [e2]
      simp only [lp_X9_stirred_47, f1, q, c1, d1, e1, f2, nI_1, mt_sI, mt_sJ, mt_sP, mt_rI, mt_rJ, ml_sI, ml_sJ, ml_sP, ml_rI, ml_rJ, mP_sI, mP_sJ, mP_rI, mP_rJ, SHP_sI, SHP_sJ, SHP_rI, SHP_rJ, mI_sI, mI_rI, mI_sJ, mI_rJ, mI_sP, mJ_sI, mJ_rI, mJ_sP, mJ_sJ, mJ_rJ, gI_e, pI_e, ck_e, bnd_s, nm_eq, pr2_e, cnul_0, cnul_1, drf_1, sm_1, sm_2, aI_e, aJ_e, wI_e, wJ_e, aL_e, cpI_e, cpJ_e, Nat.reduceLeDiff, Nat.reduceEqDiff, Nat.add_left_cancel_iff, ad0, ad1, false_and, and_false, true_and, and_true, reduceIte, if_true, if_false, zb0, zb1, Int32.reduceLT, Int32.reduceLE, i10, nw1, nw2, nt1, nt2, not_true_eq_false, not_false_eq_true, mt_78, mt_79, ml_79, mt_80, ml_80, mt_81, ml_81, mt_82, ml_82, mt_83, ml_83, mt_84, ml_84, mt_85, ml_85, mt_86, ml_86, mt_87, ml_87, mt_88, ml_88, mt_89, ml_89, mt_90, ml_90, mt_91, ml_91, mt_92, ml_92, mt_93, ml_93, mt_94, ml_94, mt_95, ml_95, mt_96, ml_96, mt_97, ml_97, mt_98, ml_98, mt_99, ml_99, mt_100, ml_100, mt_101, ml_101, mt_102, ml_102, mt_103, ml_103, mt_104, ml_104, mt_105, ml_105, mt_106, ml_106, mt_107, ml_107, mt_108, ml_108, mt_109, ml_109, mt_110, ml_110, mt_111, ml_111, mt_112, ml_112, mt_113, ml_113, mt_114, ml_114, mt_115, ml_115, mt_116, ml_116, mt_117, ml_117, mt_118, ml_118, mt_119, ml_119, mt_120, ml_120, mt_121, ml_121, mt_122, ml_122, mt_123, ml_123, gP_78_2, gP_78_3, gP_78_4, gP_78_5, gP_78_6, gP_78_12, gP_78_13, gP_78_14, gP_78_15, gP_78_16, gP_78_17, gP_78_18, gP_78_19, gP_78_23, gP_78_24, gP_78_26, gP_78_27, gP_78_28, gP_78_31, gP_78_32, gP_78_34, gP_78_35, gP_78_36, gP_78_37, gP_78_40, gP_78_41, gP_78_42, gP_78_43, gP_78_52, gP_78_53, gP_78_54, gP_78_55, gP_78_56, gP_78_57, gP_78_58, gP_78_59, gP_78_60, gP_78_61, gP_78_62, gP_78_63, gP_78_65, gP_78_66, gP_78_67, gP_78_68, gP_78_69, hS, hS1, hS2]
    | some y =>
      have hy := lt y hr2
      have f2 : ¬ iI (some y) < 0 := nI_pos (by omega)
      rw [hr2] at d1
      cases hs1 : s.1 with
      | none =>
        have f3 : iI (some y) < loI none := nI_lt (b := 999) (by omega) (by decide)
        have e2 : stS s a b (some y) = (some y, 100 * nI a + nI b) := by unfold stS; rw [hs1]
        rw [e2]
        simp only [lp_X9_stirred_47, f1, q, c1, d1, e1, f2, f3, nI_1, mt_sI, mt_sJ, mt_sP, mt_rI, mt_rJ, ml_sI, ml_sJ, ml_sP, ml_rI, ml_rJ, mP_sI, mP_sJ, mP_rI, mP_rJ, SHP_sI, SHP_sJ, SHP_rI, SHP_rJ, mI_sI, mI_rI, mI_sJ, mI_rJ, mI_sP, mJ_sI, mJ_rI, mJ_sP, mJ_sJ, mJ_rJ, gI_e, pI_e, ck_e, bnd_s, nm_eq, pr2_e, cnul_0, cnul_1, drf_1, sm_1, sm_2, aI_e, aJ_e, wI_e, wJ_e, aL_e, cpI_e, cpJ_e, Nat.reduceLeDiff, Nat.reduceEqDiff, Nat.add_left_cancel_iff, ad0, ad1, false_and, and_false, true_and, and_true, reduceIte, if_true, if_false, zb0, zb1, Int32.reduceLT, Int32.reduceLE, i10, nw1, nw2, nt1, nt2, not_true_eq_false, not_false_eq_true, mt_78, mt_79, ml_79, mt_80, ml_80, mt_81, ml_81, mt_82, ml_82, mt_83, ml_83, mt_84, ml_84, mt_85, ml_85, mt_86, ml_86, mt_87, ml_87, mt_88, ml_88, mt_89, ml_89, mt_90, ml_90, mt_91, ml_91, mt_92, ml_92, mt_93, ml_93, mt_94, ml_94, mt_95, ml_95, mt_96, ml_96, mt_97, ml_97, mt_98, ml_98, mt_99, ml_99, mt_100, ml_100, mt_101, ml_101, mt_102, ml_102, mt_103, ml_103, mt_104, ml_104, mt_105, ml_105, mt_106, ml_106, mt_107, ml_107, mt_108, ml_108, mt_109, ml_109, mt_110, ml_110, mt_111, ml_111, mt_112, ml_112, mt_113, ml_113, mt_114, ml_114, mt_115, ml_115, mt_116, ml_116, mt_117, ml_117, mt_118, ml_118, mt_119, ml_119, mt_120, ml_120, mt_121, ml_121, mt_122, ml_122, mt_123, ml_123, gP_78_2, gP_78_3, gP_78_4, gP_78_5, gP_78_6, gP_78_12, gP_78_13, gP_78_14, gP_78_15, gP_78_16, gP_78_17, gP_78_18, gP_78_19, gP_78_23, gP_78_24, gP_78_26, gP_78_27, gP_78_28, gP_78_31, gP_78_32, gP_78_34, gP_78_35, gP_78_36, gP_78_37, gP_78_40, gP_78_41, gP_78_42, gP_78_43, gP_78_52, gP_78_53, gP_78_54, gP_78_55, gP_78_56, gP_78_57, gP_78_58, gP_78_59, gP_78_60, gP_78_61, gP_78_62, gP_78_63, gP_78_65, gP_78_66, gP_78_67, gP_78_68, gP_78_69, hS, hS1, hS2]
        rfl
      | some z =>
        have hz := hs z hs1
        by_cases q2 : y < z
        · have e2 : stS s a b (some y) = (some y, 100 * nI a + nI b) := by unfold stS; rw [hs1]; exact if_pos q2
          have f4 : iI (some y) < loI (some z) := nI_lt q2 (by omega)
          rw [e2]
          simp only [lp_X9_stirred_47, f1, q, c1, d1, e1, f2, f4, nI_1, mt_sI, mt_sJ, mt_sP, mt_rI, mt_rJ, ml_sI, ml_sJ, ml_sP, ml_rI, ml_rJ, mP_sI, mP_sJ, mP_rI, mP_rJ, SHP_sI, SHP_sJ, SHP_rI, SHP_rJ, mI_sI, mI_rI, mI_sJ, mI_rJ, mI_sP, mJ_sI, mJ_rI, mJ_sP, mJ_sJ, mJ_rJ, gI_e, pI_e, ck_e, bnd_s, nm_eq, pr2_e, cnul_0, cnul_1, drf_1, sm_1, sm_2, aI_e, aJ_e, wI_e, wJ_e, aL_e, cpI_e, cpJ_e, Nat.reduceLeDiff, Nat.reduceEqDiff, Nat.add_left_cancel_iff, ad0, ad1, false_and, and_false, true_and, and_true, reduceIte, if_true, if_false, zb0, zb1, Int32.reduceLT, Int32.reduceLE, i10, nw1, nw2, nt1, nt2, not_true_eq_false, not_false_eq_true, mt_78, mt_79, ml_79, mt_80, ml_80, mt_81, ml_81, mt_82, ml_82, mt_83, ml_83, mt_84, ml_84, mt_85, ml_85, mt_86, ml_86, mt_87, ml_87, mt_88, ml_88, mt_89, ml_89, mt_90, ml_90, mt_91, ml_91, mt_92, ml_92, mt_93, ml_93, mt_94, ml_94, mt_95, ml_95, mt_96, ml_96, mt_97, ml_97, mt_98, ml_98, mt_99, ml_99, mt_100, ml_100, mt_101, ml_101, mt_102, ml_102, mt_103, ml_103, mt_104, ml_104, mt_105, ml_105, mt_106, ml_106, mt_107, ml_107, mt_108, ml_108, mt_109, ml_109, mt_110, ml_110, mt_111, ml_111, mt_112, ml_112, mt_113, ml_113, mt_114, ml_114, mt_115, ml_115, mt_116, ml_116, mt_117, ml_117, mt_118, ml_118, mt_119, ml_119, mt_120, ml_120, mt_121, ml_121, mt_122, ml_122, mt_123, ml_123, gP_78_2, gP_78_3, gP_78_4, gP_78_5, gP_78_6, gP_78_12, gP_78_13, gP_78_14, gP_78_15, gP_78_16, gP_78_17, gP_78_18, gP_78_19, gP_78_23, gP_78_24, gP_78_26, gP_78_27, gP_78_28, gP_78_31, gP_78_32, gP_78_34, gP_78_35, gP_78_36, gP_78_37, gP_78_40, gP_78_41, gP_78_42, gP_78_43, gP_78_52, gP_78_53, gP_78_54, gP_78_55, gP_78_56, gP_78_57, gP_78_58, gP_78_59, gP_78_60, gP_78_61, gP_78_62, gP_78_63, gP_78_65, gP_78_66, gP_78_67, gP_78_68, gP_78_69, hS, hS1, hS2]
          rfl
        · have e2 : stS s a b (some y) = s := by unfold stS; rw [hs1]; exact if_neg q2
          have f4 : ¬ iI (some y) < loI (some z) := nI_nlt (by omega) (by omega)
          rw [e2]
          simp only [lp_X9_stirred_47, f1, q, c1, d1, e1, f2, f4, nI_1, hs1, mt_sI, mt_sJ, mt_sP, mt_rI, mt_rJ, ml_sI, ml_sJ, ml_sP, ml_rI, ml_rJ, mP_sI, mP_sJ, mP_rI, mP_rJ, SHP_sI, SHP_sJ, SHP_rI, SHP_rJ, mI_sI, mI_rI, mI_sJ, mI_rJ, mI_sP, mJ_sI, mJ_rI, mJ_sP, mJ_sJ, mJ_rJ, gI_e, pI_e, ck_e, bnd_s, nm_eq, pr2_e, cnul_0, cnul_1, drf_1, sm_1, sm_2, aI_e, aJ_e, wI_e, wJ_e, aL_e, cpI_e, cpJ_e, Nat.reduceLeDiff, Nat.reduceEqDiff, Nat.add_left_cancel_iff, ad0, ad1, false_and, and_false, true_and, and_true, reduceIte, if_true, if_false, zb0, zb1, Int32.reduceLT, Int32.reduceLE, i10, nw1, nw2, nt1, nt2, not_true_eq_false, not_false_eq_true, mt_78, mt_79, ml_79, mt_80, ml_80, mt_81, ml_81, mt_82, ml_82, mt_83, ml_83, mt_84, ml_84, mt_85, ml_85, mt_86, ml_86, mt_87, ml_87, mt_88, ml_88, mt_89, ml_89, mt_90, ml_90, mt_91, ml_91, mt_92, ml_92, mt_93, ml_93, mt_94, ml_94, mt_95, ml_95, mt_96, ml_96, mt_97, ml_97, mt_98, ml_98, mt_99, ml_99, mt_100, ml_100, mt_101, ml_101, mt_102, ml_102, mt_103, ml_103, mt_104, ml_104, mt_105, ml_105, mt_106, ml_106, mt_107, ml_107, mt_108, ml_108, mt_109, ml_109, mt_110, ml_110, mt_111, ml_111, mt_112, ml_112, mt_113, ml_113, mt_114, ml_114, mt_115, ml_115, mt_116, ml_116, mt_117, ml_117, mt_118, ml_118, mt_119, ml_119, mt_120, ml_120, mt_121, ml_121, mt_122, ml_122, mt_123, ml_123, gP_78_2, gP_78_3, gP_78_4, gP_78_5, gP_78_6, gP_78_12, gP_78_13, gP_78_14, gP_78_15, gP_78_16, gP_78_17, gP_78_18, gP_78_19, gP_78_23, gP_78_24, gP_78_26, gP_78_27, gP_78_28, gP_78_31, gP_78_32, gP_78_34, gP_78_35, gP_78_36, gP_78_37, gP_78_40, gP_78_41, gP_78_42, gP_78_43, gP_78_52, gP_78_53, gP_78_54, gP_78_55, gP_78_56, gP_78_57, gP_78_58, gP_78_59, gP_78_60, gP_78_61, gP_78_62, gP_78_63, gP_78_65, gP_78_66, gP_78_67, gP_78_68, gP_78_69, hS, hS1, hS2]
theorem stir2_m (h : MW M o G w) (hF : FV S m M o) (h0 : mI M (o + 78) 25 = 0) (hp : p < w) (ha : a < 16) (hs : stB s) : ∃ M1, itr (fun s47 : Int32 × Int32 × Int32 × QM => lp_X9_stirred_47 (o + 78) (nI p) (nI a) s47.1 s47.2.1 s47.2.2.1 s47.2.2.2) FU (loI s.1, s.2, nI (a + 1), M) = some (loI (stI G S p a (15 - a) s).1, (stI G S p a (15 - a) s).2, M1) ∧ SQ M M1 o Zm ∧ FV S m M1 o := by
  have loop := itr_J (f := fun s47 : Int32 × Int32 × Int32 × QM => lp_X9_stirred_47 (o + 78) (nI p) (nI a) s47.1 s47.2.1 s47.2.2.1 s47.2.2.2) (s0 := (loI s.1, s.2, nI (a + 1), M)) (fun n z => n ≤ 15 - a ∧ ∃ Mw, z = (loI (stI G S p a n s).1, (stI G S p a n s).2, nI (a + 1 + n), Mw) ∧ SQ M Mw o Zm ∧ FV S m Mw o) (fun r => ∃ M1, r = (loI (stI G S p a (15 - a) s).1, (stI G S p a (15 - a) s).2, M1) ∧ SQ M M1 o Zm ∧ FV S m M1 o) 16
    ⟨Nat.zero_le _, M, rfl, SQ.rfl, hF⟩
    (fun n z hz => by
      obtain ⟨hn, Mw, rfl, g1, g2⟩ := hz
      by_cases e : n = 15 - a
      · left
        subst e
        refine ⟨_, ?_, Mw, rfl, g1, g2⟩
        show lp_X9_stirred_47 (o + 78) _ (nI a) _ _ (nI (a + 1 + (15 - a))) Mw = _
        rw [show a + 1 + (15 - a) = 16 by omega]
        unfold lp_X9_stirred_47
        rw [if_pos (by decide)]
      · right
        obtain ⟨M1, c1, c2, c3⟩ := stir1_m (h.zm g1 (fun _ _ q => q)) g2 ((g1.2.2.2.2 78 25 (by unfold Zm ZB; omega)).trans h0) hp ha (by omega : a + 1 + n < 16) (by omega) (stI_b (G := G) (S := S) (p := p) (a := a) hs n)
        exact ⟨by omega, _, c1, by omega, M1, rfl, g1.trans c2, c3⟩) (by decide)
  obtain ⟨r, h1, M1, rfl, h2⟩ := loop
  exact ⟨M1, h1, h2⟩
theorem stir3_m (h : MW M o G w) (hF : FV S m M o) (h0 : mI M (o + 78) 25 = 0) (hp : p < w) (hs : stB s) : ∃ M1, itr (fun s34 : Int32 × Int32 × Int32 × QM => lp_X9_stirred_34 (o + 78) (nI p) s34.1 s34.2.1 s34.2.2.1 s34.2.2.2) FU (loI s.1, s.2, 0, M) = some ((stO G S p s 16).2, M1) ∧ SQ M M1 o Zm ∧ FV S m M1 o := by
  have loop := itr_J (f := fun s34 : Int32 × Int32 × Int32 × QM => lp_X9_stirred_34 (o + 78) (nI p) s34.1 s34.2.1 s34.2.2.1 s34.2.2.2) (s0 := (loI s.1, s.2, 0, M)) (fun n z => n ≤ 16 ∧ ∃ Mw, z = (loI (stO G S p s n).1, (stO G S p s n).2, nI n, Mw) ∧ SQ M Mw o Zm ∧ FV S m Mw o) (fun r => ∃ M1, r = ((stO G S p s 16).2, M1) ∧ SQ M M1 o Zm ∧ FV S m M1 o) 16
    ⟨Nat.zero_le _, M, rfl, SQ.rfl, hF⟩
    (fun n z hz => by
      obtain ⟨hn, Mw, rfl, g1, g2⟩ := hz
      by_cases e : n = 16
      · left
        subst e
        refine ⟨_, ?_, Mw, rfl, g1, g2⟩
        show lp_X9_stirred_34 (o + 78) _ _ _ (nI 16) Mw = _
        unfold lp_X9_stirred_34
        rw [if_pos (by decide)]
      · right
        have hn' : n < 16 := by omega
        obtain ⟨M1, c1, c2, c3⟩ := stir2_m (h.zm g1 (fun _ _ q => q)) g2 ((g1.2.2.2.2 78 25 (by unfold Zm ZB; omega)).trans h0) hp hn' (stO_b (G := G) (S := S) (p := p) hs n)
        refine ⟨hn', (loI (stO G S p s (n + 1)).1, (stO G S p s (n + 1)).2, nI (n + 1), M1), ?_, by omega, M1, rfl, g1.trans c2, c3⟩
        show lp_X9_stirred_34 (o + 78) (nI p) (loI (stO G S p s n).1) (stO G S p s n).2 (nI n) Mw = _
        unfold lp_X9_stirred_34
        rw [if_neg (n16 hn'), nm_eq, nI_1, bnd_e c1]
        rfl) (by decide)
  obtain ⟨r, h1, M1, rfl, h2⟩ := loop
  exact ⟨M1, h1, h2⟩
end ST2
set_option maxHeartbeats 2000000 in
theorem op_stirred {M : QM} {o : Nat} {G : GG} (h : RR M o G) (p1 : Int32) : ∃ v M1 M2 G', fn_X8_stirred M o p1 = some (v, M1) ∧ fn_X9_stirred M1 (o + 78) p1 = some (v, M2) ∧ RR M2 o G' := by
  have hS := h.1.1
  obtain ⟨w, w1, w2, w3, w4, w5, w6⟩ := h.wk p1
  rcases w6 with ⟨c, hc, hc5, rfl, b1, b2⟩ | ⟨b1, b2⟩
  · obtain ⟨m, m1, m2, m3, m4⟩ := h.fv
    have hcw : c < gN G 1 1 := by rw [w3]; exact hc
    obtain ⟨M0, a1, a2, a3, a4⟩ := become_c hS h.cp m4
    have h0 := h.scr (a2.mono Zc59_scr)
    have hS0 := h0.1.1
    have cr := crossing_c (sp := gw G 1600) (h0.cw.wk hcw) a3
    have cr2 : fn_X7_crossing M0 (o + (17 + 2 * c)) (o + 59) (gw G 1600) = some (iI (crG G (G 0) c)) := cr
    have sp : ∀ {α : Type} (f : Int32 → Option α), (gR M0 (o + 1) 5 7 fun r => gI M0 r 1 1 f) = f (gw G 1600) := fun f => h0.cw.spn
    have sb : stB (crG G (G 0) c, (-5 : Int32)) := fun n e => crG_lt n e
    obtain ⟨M1, s1, s2⟩ := stir3_c h0.cw a3 hcw sb
    have q1 := a2.trans s2
    have h1 := h.scr (q1.mono Zc59_scr)
    have hS1 := h1.1.1
    have w51 : mI M1 (o + 78) 0 = nI w := (q1.2.2.2.2 78 0 (by unfold Zc; omega)).trans w5
    have m31 : FV (G 0) m M1 o := m3.s q1 (fun c _ => by unfold Zc; omega) (by unfold Zc; omega)
    obtain ⟨M2, c1, c2, c3⟩ := canCross_m h1.mw m31 h1.ct hcw
    have mw2 := h1.mw.zm c3 ZB_Zm
    obtain ⟨M3, d1, d2, d3⟩ := stir3_m mw2 (m31.zb c3) ((c3.2.2.2.2 78 25 (by unfold ZB; omega)).trans h1.ct) hcw sb
    have s1' : itr (fun s55 : Int32 × Int32 × Int32 × QM => lp_X8_stirred_55 o (o + (17 + 2 * c)) s55.1 s55.2.1 s55.2.2.1 s55.2.2.2) FU (iI (crG G (G 0) c), (-5), 0, M0) = some ((stO G (G 0) c (crG G (G 0) c, (-5 : Int32)) 16).2, M1) := s1
    refine ⟨(stO G (G 0) c (crG G (G 0) c, (-5 : Int32)) 16).2, M1, M3, G, ?_, ?_, h1.scr (FV.back ((c3.mono ZB_Zm).trans d2) m31 d3)⟩
    · simp only [fn_X8_stirred, fn_X5_walkerAt, w4, b1, a1, sp, cr2, s1', mt_sI, mt_sJ, mt_sP, mt_rI, mt_rJ, ml_sI, ml_sJ, ml_sP, ml_rI, ml_rJ, mP_sI, mP_sJ, mP_rI, mP_rJ, SHP_sI, SHP_sJ, SHP_rI, SHP_rJ, mI_sI, mI_rI, mI_sJ, mI_rJ, mI_sP, mJ_sI, mJ_rI, mJ_sP, mJ_sJ, mJ_rJ, gI_e, pI_e, ck_e, bnd_s, nm_eq, pr2_e, cnul_0, cnul_1, drf_1, sm_1, sm_2, aI_e, aJ_e, wI_e, wJ_e, aL_e, cpI_e, cpJ_e, Nat.reduceLeDiff, Nat.reduceEqDiff, Nat.add_left_cancel_iff, ad0, ad1, false_and, and_false, true_and, and_true, reduceIte, if_true, if_false, zb0, zb1, Int32.reduceLT, Int32.reduceLE, i10, nw1, nw2, nt1, nt2, not_true_eq_false, not_false_eq_true, mt_0, mt_1, mt_2, mt_3, ml_3, mt_4, ml_4, mt_5, mt_6, ml_6, mt_7, ml_7, mt_8, ml_8, mt_9, mt_10, ml_10, mt_11, ml_11, mt_12, ml_12, mt_13, mt_14, ml_14, mt_15, ml_15, mt_16, ml_16, mt_17, mt_18, ml_18, mt_19, mt_20, ml_20, mt_21, mt_22, ml_22, mt_23, mt_24, ml_24, mt_25, mt_26, ml_26, mt_53, mt_54, ml_54, mt_55, ml_55, mt_56, mt_57, ml_57, mt_58, ml_58, mt_59, mt_60, ml_60, mt_61, mt_62, ml_62, mt_63, ml_63, mt_64, mt_65, ml_65, mt_66, mt_67, ml_67, mt_68, mt_69, ml_69, mt_70, mt_71, ml_71, mt_72, mt_73, ml_73, mt_74, mt_75, ml_75, mt_76, mt_77, ml_77, gP_0_0, gP_0_1, gP_0_4, gP_0_5, gP_0_6, gP_0_7, gP_0_8, gP_0_9, gP_1_0, gP_1_1, gP_1_4, gP_1_5, gP_1_6, gP_2_0, gP_5_1, gP_5_2, gP_5_3, gP_9_1, gP_9_2, gP_9_3, gP_13_1, gP_13_2, gP_13_3, gP_17_3, gP_19_3, gP_21_3, gP_23_3, gP_25_3, gP_53_0, gP_53_6, gP_56_0, gP_59_0, gP_61_3, gP_64_0, gP_66_2, gP_68_2, gP_70_2, gP_72_2, gP_74_2, gP_76_2, aP_4, mtw_4, mtl_4, mll_4, gPw_4, aP_58, mtw_58, mtl_58, mll_58, gPw_58, hS, hS0, hc5]
    · have lt : ∀ n, crG G (G 0) c = some n → n < 2 ^ 31 := fun n e => by
        have := crG_lt (G := G) n e
        omega
      cases e : crG G (G 0) c with
      | none =>
        rw [e] at c1 d1
        have f1 : ¬ 0 ≤ iI none := by decide
        have d1' : itr (fun s34 : Int32 × Int32 × Int32 × QM => lp_X9_stirred_34 (o + 78) (nI c) s34.1 s34.2.1 s34.2.2.1 s34.2.2.2) FU (999, (-5), 0, M2) = some ((stO G (G 0) c (none, (-5 : Int32)) 16).2, M3) := d1
        simp only [fn_X9_stirred, jn_X9_stirred_27, fn_X9_isWalker, w51, b2, c1, f1, d1', mt_sI, mt_sJ, mt_sP, mt_rI, mt_rJ, ml_sI, ml_sJ, ml_sP, ml_rI, ml_rJ, mP_sI, mP_sJ, mP_rI, mP_rJ, SHP_sI, SHP_sJ, SHP_rI, SHP_rJ, mI_sI, mI_rI, mI_sJ, mI_rJ, mI_sP, mJ_sI, mJ_rI, mJ_sP, mJ_sJ, mJ_rJ, gI_e, pI_e, ck_e, bnd_s, nm_eq, pr2_e, cnul_0, cnul_1, drf_1, sm_1, sm_2, aI_e, aJ_e, wI_e, wJ_e, aL_e, cpI_e, cpJ_e, Nat.reduceLeDiff, Nat.reduceEqDiff, Nat.add_left_cancel_iff, ad0, ad1, false_and, and_false, true_and, and_true, reduceIte, if_true, if_false, zb0, zb1, Int32.reduceLT, Int32.reduceLE, i10, nw1, nw2, nt1, nt2, not_true_eq_false, not_false_eq_true, mt_78, mt_79, ml_79, mt_80, ml_80, mt_81, ml_81, mt_82, ml_82, mt_83, ml_83, mt_84, ml_84, mt_85, ml_85, mt_86, ml_86, mt_87, ml_87, mt_88, ml_88, mt_89, ml_89, mt_90, ml_90, mt_91, ml_91, mt_92, ml_92, mt_93, ml_93, mt_94, ml_94, mt_95, ml_95, mt_96, ml_96, mt_97, ml_97, mt_98, ml_98, mt_99, ml_99, mt_100, ml_100, mt_101, ml_101, mt_102, ml_102, mt_103, ml_103, mt_104, ml_104, mt_105, ml_105, mt_106, ml_106, mt_107, ml_107, mt_108, ml_108, mt_109, ml_109, mt_110, ml_110, mt_111, ml_111, mt_112, ml_112, mt_113, ml_113, mt_114, ml_114, mt_115, ml_115, mt_116, ml_116, mt_117, ml_117, mt_118, ml_118, mt_119, ml_119, mt_120, ml_120, mt_121, ml_121, mt_122, ml_122, mt_123, ml_123, gP_78_2, gP_78_3, gP_78_4, gP_78_5, gP_78_6, gP_78_12, gP_78_13, gP_78_14, gP_78_15, gP_78_16, gP_78_17, gP_78_18, gP_78_19, gP_78_23, gP_78_24, gP_78_26, gP_78_27, gP_78_28, gP_78_31, gP_78_32, gP_78_34, gP_78_35, gP_78_36, gP_78_37, gP_78_40, gP_78_41, gP_78_42, gP_78_43, gP_78_52, gP_78_53, gP_78_54, gP_78_55, gP_78_56, gP_78_57, gP_78_58, gP_78_59, gP_78_60, gP_78_61, gP_78_62, gP_78_63, gP_78_65, gP_78_66, gP_78_67, gP_78_68, gP_78_69, hS1]
      | some n =>
        rw [e] at c1 d1
        have f1 : 0 ≤ iI (some n) := nI_pos' (lt n e)
        have d1' : itr (fun s34 : Int32 × Int32 × Int32 × QM => lp_X9_stirred_34 (o + 78) (nI c) s34.1 s34.2.1 s34.2.2.1 s34.2.2.2) FU (iI (some n), (-5), 0, M2) = some ((stO G (G 0) c (some n, (-5 : Int32)) 16).2, M3) := d1
        simp only [fn_X9_stirred, jn_X9_stirred_27, fn_X9_isWalker, w51, b2, c1, f1, d1', mt_sI, mt_sJ, mt_sP, mt_rI, mt_rJ, ml_sI, ml_sJ, ml_sP, ml_rI, ml_rJ, mP_sI, mP_sJ, mP_rI, mP_rJ, SHP_sI, SHP_sJ, SHP_rI, SHP_rJ, mI_sI, mI_rI, mI_sJ, mI_rJ, mI_sP, mJ_sI, mJ_rI, mJ_sP, mJ_sJ, mJ_rJ, gI_e, pI_e, ck_e, bnd_s, nm_eq, pr2_e, cnul_0, cnul_1, drf_1, sm_1, sm_2, aI_e, aJ_e, wI_e, wJ_e, aL_e, cpI_e, cpJ_e, Nat.reduceLeDiff, Nat.reduceEqDiff, Nat.add_left_cancel_iff, ad0, ad1, false_and, and_false, true_and, and_true, reduceIte, if_true, if_false, zb0, zb1, Int32.reduceLT, Int32.reduceLE, i10, nw1, nw2, nt1, nt2, not_true_eq_false, not_false_eq_true, mt_78, mt_79, ml_79, mt_80, ml_80, mt_81, ml_81, mt_82, ml_82, mt_83, ml_83, mt_84, ml_84, mt_85, ml_85, mt_86, ml_86, mt_87, ml_87, mt_88, ml_88, mt_89, ml_89, mt_90, ml_90, mt_91, ml_91, mt_92, ml_92, mt_93, ml_93, mt_94, ml_94, mt_95, ml_95, mt_96, ml_96, mt_97, ml_97, mt_98, ml_98, mt_99, ml_99, mt_100, ml_100, mt_101, ml_101, mt_102, ml_102, mt_103, ml_103, mt_104, ml_104, mt_105, ml_105, mt_106, ml_106, mt_107, ml_107, mt_108, ml_108, mt_109, ml_109, mt_110, ml_110, mt_111, ml_111, mt_112, ml_112, mt_113, ml_113, mt_114, ml_114, mt_115, ml_115, mt_116, ml_116, mt_117, ml_117, mt_118, ml_118, mt_119, ml_119, mt_120, ml_120, mt_121, ml_121, mt_122, ml_122, mt_123, ml_123, gP_78_2, gP_78_3, gP_78_4, gP_78_5, gP_78_6, gP_78_12, gP_78_13, gP_78_14, gP_78_15, gP_78_16, gP_78_17, gP_78_18, gP_78_19, gP_78_23, gP_78_24, gP_78_26, gP_78_27, gP_78_28, gP_78_31, gP_78_32, gP_78_34, gP_78_35, gP_78_36, gP_78_37, gP_78_40, gP_78_41, gP_78_42, gP_78_43, gP_78_52, gP_78_53, gP_78_54, gP_78_55, gP_78_56, gP_78_57, gP_78_58, gP_78_59, gP_78_60, gP_78_61, gP_78_62, gP_78_63, gP_78_65, gP_78_66, gP_78_67, gP_78_68, gP_78_69, hS1]
  · refine ⟨-1, M, M, G, ?_, ?_, h⟩
    · simp only [fn_X8_stirred, fn_X5_walkerAt, w4, b1, mt_sI, mt_sJ, mt_sP, mt_rI, mt_rJ, ml_sI, ml_sJ, ml_sP, ml_rI, ml_rJ, mP_sI, mP_sJ, mP_rI, mP_rJ, SHP_sI, SHP_sJ, SHP_rI, SHP_rJ, mI_sI, mI_rI, mI_sJ, mI_rJ, mI_sP, mJ_sI, mJ_rI, mJ_sP, mJ_sJ, mJ_rJ, gI_e, pI_e, ck_e, bnd_s, nm_eq, pr2_e, cnul_0, cnul_1, drf_1, sm_1, sm_2, aI_e, aJ_e, wI_e, wJ_e, aL_e, cpI_e, cpJ_e, Nat.reduceLeDiff, Nat.reduceEqDiff, Nat.add_left_cancel_iff, ad0, ad1, false_and, and_false, true_and, and_true, reduceIte, if_true, if_false, zb0, zb1, Int32.reduceLT, Int32.reduceLE, i10, nw1, nw2, nt1, nt2, not_true_eq_false, not_false_eq_true, mt_0, mt_1, mt_2, mt_3, ml_3, mt_4, ml_4, mt_5, mt_6, ml_6, mt_7, ml_7, mt_8, ml_8, mt_9, mt_10, ml_10, mt_11, ml_11, mt_12, ml_12, mt_13, mt_14, ml_14, mt_15, ml_15, mt_16, ml_16, mt_17, mt_18, ml_18, mt_19, mt_20, ml_20, mt_21, mt_22, ml_22, mt_23, mt_24, ml_24, mt_25, mt_26, ml_26, mt_53, mt_54, ml_54, mt_55, ml_55, mt_56, mt_57, ml_57, mt_58, ml_58, mt_59, mt_60, ml_60, mt_61, mt_62, ml_62, mt_63, ml_63, mt_64, mt_65, ml_65, mt_66, mt_67, ml_67, mt_68, mt_69, ml_69, mt_70, mt_71, ml_71, mt_72, mt_73, ml_73, mt_74, mt_75, ml_75, mt_76, mt_77, ml_77, gP_0_0, gP_0_1, gP_0_4, gP_0_5, gP_0_6, gP_0_7, gP_0_8, gP_0_9, gP_1_0, gP_1_1, gP_1_4, gP_1_5, gP_1_6, gP_2_0, gP_5_1, gP_5_2, gP_5_3, gP_9_1, gP_9_2, gP_9_3, gP_13_1, gP_13_2, gP_13_3, gP_17_3, gP_19_3, gP_21_3, gP_23_3, gP_25_3, gP_53_0, gP_53_6, gP_56_0, gP_59_0, gP_61_3, gP_64_0, gP_66_2, gP_68_2, gP_70_2, gP_72_2, gP_74_2, gP_76_2, aP_4, mtw_4, mtl_4, mll_4, gPw_4, aP_58, mtw_58, mtl_58, mll_58, gPw_58, hS]
    · simp only [fn_X9_stirred, fn_X9_isWalker, w5, b2, mt_sI, mt_sJ, mt_sP, mt_rI, mt_rJ, ml_sI, ml_sJ, ml_sP, ml_rI, ml_rJ, mP_sI, mP_sJ, mP_rI, mP_rJ, SHP_sI, SHP_sJ, SHP_rI, SHP_rJ, mI_sI, mI_rI, mI_sJ, mI_rJ, mI_sP, mJ_sI, mJ_rI, mJ_sP, mJ_sJ, mJ_rJ, gI_e, pI_e, ck_e, bnd_s, nm_eq, pr2_e, cnul_0, cnul_1, drf_1, sm_1, sm_2, aI_e, aJ_e, wI_e, wJ_e, aL_e, cpI_e, cpJ_e, Nat.reduceLeDiff, Nat.reduceEqDiff, Nat.add_left_cancel_iff, ad0, ad1, false_and, and_false, true_and, and_true, reduceIte, if_true, if_false, zb0, zb1, Int32.reduceLT, Int32.reduceLE, i10, nw1, nw2, nt1, nt2, not_true_eq_false, not_false_eq_true, mt_78, mt_79, ml_79, mt_80, ml_80, mt_81, ml_81, mt_82, ml_82, mt_83, ml_83, mt_84, ml_84, mt_85, ml_85, mt_86, ml_86, mt_87, ml_87, mt_88, ml_88, mt_89, ml_89, mt_90, ml_90, mt_91, ml_91, mt_92, ml_92, mt_93, ml_93, mt_94, ml_94, mt_95, ml_95, mt_96, ml_96, mt_97, ml_97, mt_98, ml_98, mt_99, ml_99, mt_100, ml_100, mt_101, ml_101, mt_102, ml_102, mt_103, ml_103, mt_104, ml_104, mt_105, ml_105, mt_106, ml_106, mt_107, ml_107, mt_108, ml_108, mt_109, ml_109, mt_110, ml_110, mt_111, ml_111, mt_112, ml_112, mt_113, ml_113, mt_114, ml_114, mt_115, ml_115, mt_116, ml_116, mt_117, ml_117, mt_118, ml_118, mt_119, ml_119, mt_120, ml_120, mt_121, ml_121, mt_122, ml_122, mt_123, ml_123, gP_78_2, gP_78_3, gP_78_4, gP_78_5, gP_78_6, gP_78_12, gP_78_13, gP_78_14, gP_78_15, gP_78_16, gP_78_17, gP_78_18, gP_78_19, gP_78_23, gP_78_24, gP_78_26, gP_78_27, gP_78_28, gP_78_31, gP_78_32, gP_78_34, gP_78_35, gP_78_36, gP_78_37, gP_78_40, gP_78_41, gP_78_42, gP_78_43, gP_78_52, gP_78_53, gP_78_54, gP_78_55, gP_78_56, gP_78_57, gP_78_58, gP_78_59, gP_78_60, gP_78_61, gP_78_62, gP_78_63, gP_78_65, gP_78_66, gP_78_67, gP_78_68, gP_78_69, hS]
