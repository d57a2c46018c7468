/-! ===== the class's text ===== -/
def wH (w : Nat) (y : Nat ⊕ Nat) : Nat ⊕ (Nat × Nat) := match y with | .inl q => .inl q | .inr q => .inr (w, q)
theorem wH_l {w q : Nat} {y : Nat ⊕ Nat} (h : wH w y = .inl q) : y = .inl q := by
  cases y with
  | inl a => cases h; rfl
  | inr a => cases h
theorem wH_r {w w' q : Nat} {y : Nat ⊕ Nat} (h : wH w y = .inr (w', q)) : y = .inr q ∧ w' = w := by
  cases y with
  | inl a => cases h
  | inr a => cases h; exact ⟨rfl, rfl⟩
theorem grV_cons {c t m : Nat} {q : CLA} {cs : List CLA} {z z1 z2 : Int32} (h1 : grV c t m [q] z = some z1) (h2 : grV c t m cs z1 = some z2) : grV c t m (q :: cs) z = some z2 := by
  have h1 : (if 1 < q.1 then some z else (match evL c t m q.2.2 [] with | some [b] => some (if b then (if q.1 = 0 then z + nI q.2.1 else z + -nI q.2.1) else z) | _ => none)) = some z1 := h1
  show (if 1 < q.1 then grV c t m cs z else (match evL c t m q.2.2 [] with | some [b] => grV c t m cs (if b then (if q.1 = 0 then z + nI q.2.1 else z + -nI q.2.1) else z) | _ => none)) = some z2
  by_cases c1 : 1 < q.1
  · rw [if_pos c1] at h1 ⊢
    cases h1
    exact h2
  · rw [if_neg c1] at h1 ⊢
    revert h1
    generalize evL c t m q.2.2 [] = e
    intro h1
    match e, h1 with
    | some [b], h1 =>
      have h1 : some (if b then (if q.1 = 0 then z + nI q.2.1 else z + -nI q.2.1) else z) = some z1 := h1
      show grV c t m cs (if b then (if q.1 = 0 then z + nI q.2.1 else z + -nI q.2.1) else z) = some z2
      rw [Option.some.inj h1]
      exact h2
    | some [], h1 => cases h1
    | some (_ :: _ :: _), h1 => cases h1
    | none, h1 => cases h1
def TR (M N : QM) (o L t m : Nat) (r : Nat ⊕ List CLA) : Prop := SQ M N o Zcl ∧ match r with
  | .inl q => mI N (o + 53) 2 = nI q ∧ q ≤ L ∧ (mI N (o + 53) 3 = 1 ∨ mI N (o + 53) 3 = 0 ∧ q < L)
  | .inr cs => (mI N (o + 53) 2 = nI L ∧ mI N (o + 53) 3 = 0) ∧ (∀ s, mI M (o + 53) 7 = nI s → mI N (o + 53) 7 = nI (laV 2 cs s)) ∧ (∀ s, mI M (o + 53) 8 = nI s → mI N (o + 53) 8 = nI (laV 3 cs s)) ∧ ∀ c, c < 16 → grV c t m cs (mI M (o + 55) c) = some (mI N (o + 55) c)
def Zff : Nat → Nat → Prop := fun a k => (a = 53 ∧ 2 ≤ k) ∨ a = 55
def FR (M N : QM) (o L t m : Nat) (v : Int32) (r : Nat ⊕ List CLA) : Prop := SQ M N o Zff ∧ match r with
  | .inl q => v = nI q ∧ q ≤ L
  | .inr cs => v = -1 ∧ mI N (o + 53) 7 = nI (laV 2 cs 99) ∧ mI N (o + 53) 8 = nI (laV 3 cs 10) ∧ ∀ c, c < 16 → grV c t m cs 2 = some (mI N (o + 55) c)
section RE5
variable {M N N1 N2 N3 : QM} {o L p q t m d n k j : Nat} {P : Nat → Nat} {v : Int32} {x : Nat ⊕ Nat}
theorem TC.zc (h : TC M o P L) (s : SQ M N o Zcl) : TC N o P L := ⟨s.shp h.1, h.2.1, (s.2.2.2.2 53 1 (by unfold Zcl; omega)).trans h.2.2.1, fun i hi => (s.2.2.2.2 54 i (by unfold Zcl; omega)).trans (h.2.2.2 i hi)⟩
theorem sr_q {y : Nat ⊕ Nat} (gg : SR M N o L y) : SQ M N o Zrd := by
  cases y with
  | inl q => exact gg.1.1
  | inr p => exact gg.1.1
theorem cl_w {w fld : Nat} (hw : (w = 2 ∧ fld = 7) ∨ (w = 3 ∧ fld = 8)) {y : Nat ⊕ Nat} (hy : pH P p = wH w y) (g3 : SR M N3 o L (bSr (pN P) y)) (vn : ∀ p q k, y = .inr p → pN P p = .inr (q, k) → v = nI k) {r : RQ} (z : PC P p r) : CR M (sI N3 (o + 53) fld v) o t m r := by
  have sq : SQ M (sI N3 (o + 53) fld v) o Zcl := ((sr_q g3).mono fun _ _ z => rd_cl z).sI (by unfold Zcl; omega)
  have c2 : ∀ a, ¬ a = fld → mI (sI N3 (o + 53) fld v) (o + 53) a = mI N3 (o + 53) a := fun a ha => by rw [mI_sI, if_neg (by omega)]
  have c3 : mI (sI N3 (o + 53) fld v) (o + 53) fld = v := by rw [mI_sI, if_pos ⟨rfl, rfl⟩]
  rcases z with ⟨q0, a, e⟩ | ⟨w', q0, a, z⟩
  · rw [hy] at a
    have a := wH_l a
    subst a e
    have g3 : PLC M N3 o q0 true ∧ q0 ≤ L := g3
    exact ⟨sq, (c2 2 (by omega)).trans g3.1.2.1, (c2 3 (by omega)).trans g3.1.2.2⟩
  · rw [hy] at a
    obtain ⟨ay, ew⟩ := wH_r a
    subst ew ay
    rcases z with ⟨q2, b, e⟩ | ⟨q2, n, b, ⟨c, e⟩ | ⟨c, d, e⟩ | ⟨c, d, z⟩⟩
    · subst e
      have g3 : SR M N3 o L (dSr (pN P q0)) := g3
      rw [b] at g3
      have g3 : PLC M N3 o q2 true ∧ q2 ≤ L := g3
      exact ⟨sq, (c2 2 (by omega)).trans g3.1.2.1, (c2 3 (by omega)).trans g3.1.2.2⟩
    · subst e
      have g3 : SR M N3 o L (dSr (pN P q0)) := g3
      rw [b] at g3
      have g3 : PLC M N3 o q2 false ∧ q2 ≤ L := g3
      have vv := vn q0 q2 n rfl b
      have o7 : ∀ a, ¬ a = fld → (a = 7 ∨ a = 8) → mI (sI N3 (o + 53) fld v) (o + 53) a = mI M (o + 53) a := fun a ha hb => (c2 a ha).trans (g3.1.1.2.2.2.2 53 a (by unfold Zrd; omega))
      refine ⟨sq, ⟨(c2 2 (by omega)).trans g3.1.2.1, (c2 3 (by omega)).trans g3.1.2.2⟩, ?_, ?_, fun cc hcc => ?_⟩
      · show _ = if w' = 2 then nI n else _
        rcases hw with ⟨rfl, rfl⟩ | ⟨rfl, rfl⟩
        · rw [if_pos rfl, c3, vv]
        · rw [if_neg (by decide)]; exact o7 7 (by decide) (by decide)
      · show _ = if w' = 3 then nI n else _
        rcases hw with ⟨rfl, rfl⟩ | ⟨rfl, rfl⟩
        · rw [if_neg (by decide)]; exact o7 8 (by decide) (by decide)
        · rw [if_pos rfl, c3, vv]
      · have e1 : mI (sI N3 (o + 53) fld v) (o + 55) cc = mI M (o + 55) cc := by
          rw [mI_sI, if_neg (by omega)]
          exact g3.1.1.2.2.2.2 55 cc (by unfold Zrd; omega)
        rw [e1]
        show (if 1 < w' then some _ else _) = _
        rw [if_pos (by omega)]
    · omega
    · omega
theorem cl_t (h : TC M o P L) (h4 : mI M (o + 53) 4 = nI t) (h5 : mI M (o + 53) 5 = nI m) (ht : t ≤ 9) (hm : m ≤ 9) {i : Nat} (hi : i < 8) (j1 : Int32) (g : SR M N o L x) (hy : pH P p = wH (if j1 = 0 then 0 else 1) (bW P (PQ i) x)) {r : RQ} (z : PC P p r) : ∃ N', jn_X3_clause_73 (o + 53) j1 i (o + 53) N = some N' ∧ CR M N' o t m r := by
  obtain ⟨N', e, s, ⟨s7, s8⟩, a1, a2⟩ := cl_j h h4 h5 ht hm hi j1 g
  have w2 : ¬ 2 ≤ (if j1 = 0 then 0 else 1) ∧ ¬ (if j1 = 0 then 0 else 1) = 2 ∧ ¬ (if j1 = 0 then 0 else 1) = 3 := by split <;> omega
  refine ⟨N', e, s, ?_⟩
  rcases z with ⟨q0, a, e⟩ | ⟨w', q0, a, z⟩
  · rw [hy] at a
    have a := wH_l a
    subst e
    exact a1 q0 (by rw [a]; rfl)
  · rw [hy] at a
    obtain ⟨ay, ew⟩ := wH_r a
    subst ew
    rcases z with ⟨q2, b, e⟩ | ⟨q2, n, b, ⟨c, e⟩ | ⟨c, d, e⟩ | ⟨c, d, ⟨q3, f, e⟩ | ⟨q3, l, f, e⟩⟩⟩
    · subst e
      refine a1 q2 ?_
      rw [ay]
      show bW P (PQ 3) (dSr (pN P q0)) = _
      rw [b]; rfl
    · exact absurd c w2.1
    · subst e
      refine a1 q2 ?_
      rw [ay]
      show bW P (PQ 3) (dSr (pN P q0)) = _
      rw [b]
      show (if P q2 = 32 then _ else _) = _
      rw [if_neg d]
    · subst e
      exact (a2 q0 q2 n ay b d).1 q3 f
    · subst e
      obtain ⟨k1, k2⟩ := (a2 q0 q2 n ay b d).2 q3 l f
      refine ⟨k1, ?_, ?_, k2⟩
      · show _ = if (if j1 = 0 then 0 else 1) = 2 then _ else _
        rw [if_neg w2.2.1]; exact s7
      · show _ = if (if j1 = 0 then 0 else 1) = 3 then _ else _
        rw [if_neg w2.2.2]; exact s8
set_option maxHeartbeats 1000000 in
theorem cl_e (h : TC M o P L) (h4 : mI M (o + 53) 4 = nI t) (h5 : mI M (o + 53) 5 = nI m) (ht : t ≤ 9) (hm : m ≤ 9) (h2 : mI M (o + 53) 2 = nI p) (h3 : mI M (o + 53) 3 = 0) (hp : p ≤ L) {r : RQ} (z : PC P p r) : ∃ N', fn_X3_clause M (o + 53) = some N' ∧ CR M N' o t m r := by
  have hS := h.1
  have g : PLC M M o p false := ⟨SQ.rfl, h2, h3⟩
  by_cases c : P p = 115
  · have f1 : fn_X3_takes M (o + 53) 115 = _ := tk_y h g (c := 115) (by decide) c
    have hl : p < L := h.2.1.lt (by omega)
    have s1 := (g.go (q := p + 1)).1.shp h.1
    obtain ⟨N2, e2, g2⟩ := ex_e h (i := 0) (by decide) (x := .inr (p + 1)) ⟨g.go, hl⟩
    obtain ⟨v, N3, e3, g3, vn⟩ := nu_e h g2
    have s2 := (sr_q g2).shp h.1
    have s3 := (sr_q g3).shp h.1
    refine ⟨sI N3 (o + 53) 7 v, ?_, cl_w (Or.inl ⟨rfl, rfl⟩) (y := bW P (PQ 0) (.inr (p + 1))) ?_ g3 vn z⟩
    · simp only [fn_X3_clause, f1, e2, e3, mt_sI, mt_sJ, mt_sP, mt_rI, mt_rJ, ml_sI, ml_sJ, ml_sP, ml_rI, ml_rJ, mP_sI, mP_sJ, mP_rI, mP_rJ, SHP_sI, SHP_sJ, SHP_rI, SHP_rJ, mI_sI, mI_rI, mI_sJ, mI_rJ, mI_sP, mJ_sI, mJ_rI, mJ_sP, mJ_sJ, mJ_rJ, gI_e, pI_e, ck_e, bnd_s, nm_eq, pr2_e, cnul_0, cnul_1, drf_1, sm_1, sm_2, aI_e, aJ_e, wI_e, wJ_e, aL_e, cpI_e, cpJ_e, Nat.reduceLeDiff, Nat.reduceEqDiff, Nat.add_left_cancel_iff, ad0, ad1, false_and, and_false, true_and, and_true, reduceIte, if_true, if_false, zb0, zb1, Int32.reduceLT, Int32.reduceLE, i10, nw1, nw2, nt1, nt2, not_true_eq_false, not_false_eq_true, mt_0, mt_1, mt_2, mt_3, ml_3, mt_4, ml_4, mt_5, mt_6, ml_6, mt_7, ml_7, mt_8, ml_8, mt_9, mt_10, ml_10, mt_11, ml_11, mt_12, ml_12, mt_13, mt_14, ml_14, mt_15, ml_15, mt_16, ml_16, mt_17, mt_18, ml_18, mt_19, mt_20, ml_20, mt_21, mt_22, ml_22, mt_23, mt_24, ml_24, mt_25, mt_26, ml_26, mt_53, mt_54, ml_54, mt_55, ml_55, mt_56, mt_57, ml_57, mt_58, ml_58, mt_59, mt_60, ml_60, mt_61, mt_62, ml_62, mt_63, ml_63, mt_64, mt_65, ml_65, mt_66, mt_67, ml_67, mt_68, mt_69, ml_69, mt_70, mt_71, ml_71, mt_72, mt_73, ml_73, mt_74, mt_75, ml_75, mt_76, mt_77, ml_77, gP_0_0, gP_0_1, gP_0_4, gP_0_5, gP_0_6, gP_0_7, gP_0_8, gP_0_9, gP_1_0, gP_1_1, gP_1_4, gP_1_5, gP_1_6, gP_2_0, gP_5_1, gP_5_2, gP_5_3, gP_9_1, gP_9_2, gP_9_3, gP_13_1, gP_13_2, gP_13_3, gP_17_3, gP_19_3, gP_21_3, gP_23_3, gP_25_3, gP_53_0, gP_53_6, gP_56_0, gP_59_0, gP_61_3, gP_64_0, gP_66_2, gP_68_2, gP_70_2, gP_72_2, gP_74_2, gP_76_2, aP_4, mtw_4, mtl_4, mll_4, gPw_4, aP_58, mtw_58, mtl_58, mll_58, gPw_58, hS, s1, s2, s3]
    · show (if P p = 115 then _ else _) = _
      rw [if_pos c]; rfl
  · have f1 : fn_X3_takes M (o + 53) 115 = _ := tk_n h g hp (c := 115) (by decide) c
    by_cases c2 : P p = 109
    · have f2 : fn_X3_takes M (o + 53) 109 = _ := tk_y h g (c := 109) (by decide) c2
      have hl : p < L := h.2.1.lt (by omega)
      have s1 := (g.go (q := p + 1)).1.shp h.1
      obtain ⟨N2, e2, g2⟩ := ex_e h (i := 1) (by decide) (x := .inr (p + 1)) ⟨g.go, hl⟩
      obtain ⟨v, N3, e3, g3, vn⟩ := nu_e h g2
      have s2 := (sr_q g2).shp h.1
      have s3 := (sr_q g3).shp h.1
      refine ⟨sI N3 (o + 53) 8 v, ?_, cl_w (Or.inr ⟨rfl, rfl⟩) (y := bW P (PQ 1) (.inr (p + 1))) ?_ g3 vn z⟩
      · simp only [fn_X3_clause, f1, f2, e2, e3, mt_sI, mt_sJ, mt_sP, mt_rI, mt_rJ, ml_sI, ml_sJ, ml_sP, ml_rI, ml_rJ, mP_sI, mP_sJ, mP_rI, mP_rJ, SHP_sI, SHP_sJ, SHP_rI, SHP_rJ, mI_sI, mI_rI, mI_sJ, mI_rJ, mI_sP, mJ_sI, mJ_rI, mJ_sP, mJ_sJ, mJ_rJ, gI_e, pI_e, ck_e, bnd_s, nm_eq, pr2_e, cnul_0, cnul_1, drf_1, sm_1, sm_2, aI_e, aJ_e, wI_e, wJ_e, aL_e, cpI_e, cpJ_e, Nat.reduceLeDiff, Nat.reduceEqDiff, Nat.add_left_cancel_iff, ad0, ad1, false_and, and_false, true_and, and_true, reduceIte, if_true, if_false, zb0, zb1, Int32.reduceLT, Int32.reduceLE, i10, nw1, nw2, nt1, nt2, not_true_eq_false, not_false_eq_true, mt_0, mt_1, mt_2, mt_3, ml_3, mt_4, ml_4, mt_5, mt_6, ml_6, mt_7, ml_7, mt_8, ml_8, mt_9, mt_10, ml_10, mt_11, ml_11, mt_12, ml_12, mt_13, mt_14, ml_14, mt_15, ml_15, mt_16, ml_16, mt_17, mt_18, ml_18, mt_19, mt_20, ml_20, mt_21, mt_22, ml_22, mt_23, mt_24, ml_24, mt_25, mt_26, ml_26, mt_53, mt_54, ml_54, mt_55, ml_55, mt_56, mt_57, ml_57, mt_58, ml_58, mt_59, mt_60, ml_60, mt_61, mt_62, ml_62, mt_63, ml_63, mt_64, mt_65, ml_65, mt_66, mt_67, ml_67, mt_68, mt_69, ml_69, mt_70, mt_71, ml_71, mt_72, mt_73, ml_73, mt_74, mt_75, ml_75, mt_76, mt_77, ml_77, gP_0_0, gP_0_1, gP_0_4, gP_0_5, gP_0_6, gP_0_7, gP_0_8, gP_0_9, gP_1_0, gP_1_1, gP_1_4, gP_1_5, gP_1_6, gP_2_0, gP_5_1, gP_5_2, gP_5_3, gP_9_1, gP_9_2, gP_9_3, gP_13_1, gP_13_2, gP_13_3, gP_17_3, gP_19_3, gP_21_3, gP_23_3, gP_25_3, gP_53_0, gP_53_6, gP_56_0, gP_59_0, gP_61_3, gP_64_0, gP_66_2, gP_68_2, gP_70_2, gP_72_2, gP_74_2, gP_76_2, aP_4, mtw_4, mtl_4, mll_4, gPw_4, aP_58, mtw_58, mtl_58, mll_58, gPw_58, hS, s1, s2, s3]
      · show (if P p = 115 then _ else if P p = 109 then _ else _) = _
        rw [if_neg c, if_pos c2]; rfl
    · have f2 : fn_X3_takes M (o + 53) 109 = _ := tk_n h g hp (c := 109) (by decide) c2
      obtain ⟨N1, e1, g1⟩ := ex_e h (i := 2) (by decide) (x := .inr p) ⟨g, hp⟩
      have s1 := (sr_q g1).shp h.1
      have pe : pH P p = match pW P [116, 104, 105] p with | .inl q => .inl q | .inr q => if P q = 110 then wH 1 (pW P [32] (q + 1)) else wH 0 (pW P [99, 107, 32] q) := by
        show (if P p = 115 then _ else if P p = 109 then _ else _) = _
        rw [if_neg c, if_neg c2]; rfl
      have g1 : SR M N1 o L (pW P [116, 104, 105] p) := g1
      cases y : pW P [116, 104, 105] p with
      | inl q =>
        rw [y] at g1 pe
        have f3 := fun cc => tk_b h g1.1 (c := cc)
        obtain ⟨N', e4, r4⟩ := cl_t h h4 h5 ht hm (i := 4) (by decide) 0 (x := .inl q) g1 pe z
        refine ⟨N', ?_, r4⟩
        simp only [fn_X3_clause, f1, f2, e1, f3, e4, mt_sI, mt_sJ, mt_sP, mt_rI, mt_rJ, ml_sI, ml_sJ, ml_sP, ml_rI, ml_rJ, mP_sI, mP_sJ, mP_rI, mP_rJ, SHP_sI, SHP_sJ, SHP_rI, SHP_rJ, mI_sI, mI_rI, mI_sJ, mI_rJ, mI_sP, mJ_sI, mJ_rI, mJ_sP, mJ_sJ, mJ_rJ, gI_e, pI_e, ck_e, bnd_s, nm_eq, pr2_e, cnul_0, cnul_1, drf_1, sm_1, sm_2, aI_e, aJ_e, wI_e, wJ_e, aL_e, cpI_e, cpJ_e, Nat.reduceLeDiff, Nat.reduceEqDiff, Nat.add_left_cancel_iff, ad0, ad1, false_and, and_false, true_and, and_true, reduceIte, if_true, if_false, zb0, zb1, Int32.reduceLT, Int32.reduceLE, i10, nw1, nw2, nt1, nt2, not_true_eq_false, not_false_eq_true, mt_0, mt_1, mt_2, mt_3, ml_3, mt_4, ml_4, mt_5, mt_6, ml_6, mt_7, ml_7, mt_8, ml_8, mt_9, mt_10, ml_10, mt_11, ml_11, mt_12, ml_12, mt_13, mt_14, ml_14, mt_15, ml_15, mt_16, ml_16, mt_17, mt_18, ml_18, mt_19, mt_20, ml_20, mt_21, mt_22, ml_22, mt_23, mt_24, ml_24, mt_25, mt_26, ml_26, mt_53, mt_54, ml_54, mt_55, ml_55, mt_56, mt_57, ml_57, mt_58, ml_58, mt_59, mt_60, ml_60, mt_61, mt_62, ml_62, mt_63, ml_63, mt_64, mt_65, ml_65, mt_66, mt_67, ml_67, mt_68, mt_69, ml_69, mt_70, mt_71, ml_71, mt_72, mt_73, ml_73, mt_74, mt_75, ml_75, mt_76, mt_77, ml_77, gP_0_0, gP_0_1, gP_0_4, gP_0_5, gP_0_6, gP_0_7, gP_0_8, gP_0_9, gP_1_0, gP_1_1, gP_1_4, gP_1_5, gP_1_6, gP_2_0, gP_5_1, gP_5_2, gP_5_3, gP_9_1, gP_9_2, gP_9_3, gP_13_1, gP_13_2, gP_13_3, gP_17_3, gP_19_3, gP_21_3, gP_23_3, gP_25_3, gP_53_0, gP_53_6, gP_56_0, gP_59_0, gP_61_3, gP_64_0, gP_66_2, gP_68_2, gP_70_2, gP_72_2, gP_74_2, gP_76_2, aP_4, mtw_4, mtl_4, mll_4, gPw_4, aP_58, mtw_58, mtl_58, mll_58, gPw_58, hS, s1]
      | inr q =>
        rw [y] at g1 pe
        have pe : pH P p = if P q = 110 then wH 1 (pW P [32] (q + 1)) else wH 0 (pW P [99, 107, 32] q) := pe
        by_cases c3 : P q = 110
        · rw [if_pos c3] at pe
          have f3 : fn_X3_takes N1 (o + 53) 110 = _ := tk_y h g1.1 (c := 110) (by decide) c3
          have hl : q < L := h.2.1.lt (by omega)
          have s2 := (g1.1.go (q := q + 1)).1.shp h.1
          obtain ⟨N', e4, r4⟩ := cl_t h h4 h5 ht hm (i := 3) (by decide) 1 (x := .inr (q + 1)) ⟨g1.1.go, hl⟩ pe z
          refine ⟨N', ?_, r4⟩
          simp only [fn_X3_clause, f1, f2, e1, f3, e4, mt_sI, mt_sJ, mt_sP, mt_rI, mt_rJ, ml_sI, ml_sJ, ml_sP, ml_rI, ml_rJ, mP_sI, mP_sJ, mP_rI, mP_rJ, SHP_sI, SHP_sJ, SHP_rI, SHP_rJ, mI_sI, mI_rI, mI_sJ, mI_rJ, mI_sP, mJ_sI, mJ_rI, mJ_sP, mJ_sJ, mJ_rJ, gI_e, pI_e, ck_e, bnd_s, nm_eq, pr2_e, cnul_0, cnul_1, drf_1, sm_1, sm_2, aI_e, aJ_e, wI_e, wJ_e, aL_e, cpI_e, cpJ_e, Nat.reduceLeDiff, Nat.reduceEqDiff, Nat.add_left_cancel_iff, ad0, ad1, false_and, and_false, true_and, and_true, reduceIte, if_true, if_false, zb0, zb1, Int32.reduceLT, Int32.reduceLE, i10, nw1, nw2, nt1, nt2, not_true_eq_false, not_false_eq_true, mt_0, mt_1, mt_2, mt_3, ml_3, mt_4, ml_4, mt_5, mt_6, ml_6, mt_7, ml_7, mt_8, ml_8, mt_9, mt_10, ml_10, mt_11, ml_11, mt_12, ml_12, mt_13, mt_14, ml_14, mt_15, ml_15, mt_16, ml_16, mt_17, mt_18, ml_18, mt_19, mt_20, ml_20, mt_21, mt_22, ml_22, mt_23, mt_24, ml_24, mt_25, mt_26, ml_26, mt_53, mt_54, ml_54, mt_55, ml_55, mt_56, mt_57, ml_57, mt_58, ml_58, mt_59, mt_60, ml_60, mt_61, mt_62, ml_62, mt_63, ml_63, mt_64, mt_65, ml_65, mt_66, mt_67, ml_67, mt_68, mt_69, ml_69, mt_70, mt_71, ml_71, mt_72, mt_73, ml_73, mt_74, mt_75, ml_75, mt_76, mt_77, ml_77, gP_0_0, gP_0_1, gP_0_4, gP_0_5, gP_0_6, gP_0_7, gP_0_8, gP_0_9, gP_1_0, gP_1_1, gP_1_4, gP_1_5, gP_1_6, gP_2_0, gP_5_1, gP_5_2, gP_5_3, gP_9_1, gP_9_2, gP_9_3, gP_13_1, gP_13_2, gP_13_3, gP_17_3, gP_19_3, gP_21_3, gP_23_3, gP_25_3, gP_53_0, gP_53_6, gP_56_0, gP_59_0, gP_61_3, gP_64_0, gP_66_2, gP_68_2, gP_70_2, gP_72_2, gP_74_2, gP_76_2, aP_4, mtw_4, mtl_4, mll_4, gPw_4, aP_58, mtw_58, mtl_58, mll_58, gPw_58, hS, s1, s2]
        · rw [if_neg c3] at pe
          have f3 : fn_X3_takes N1 (o + 53) 110 = _ := tk_n h g1.1 g1.2 (c := 110) (by decide) c3
          obtain ⟨N', e4, r4⟩ := cl_t h h4 h5 ht hm (i := 4) (by decide) 0 (x := .inr q) g1 pe z
          refine ⟨N', ?_, r4⟩
          simp only [fn_X3_clause, f1, f2, e1, f3, e4, mt_sI, mt_sJ, mt_sP, mt_rI, mt_rJ, ml_sI, ml_sJ, ml_sP, ml_rI, ml_rJ, mP_sI, mP_sJ, mP_rI, mP_rJ, SHP_sI, SHP_sJ, SHP_rI, SHP_rJ, mI_sI, mI_rI, mI_sJ, mI_rJ, mI_sP, mJ_sI, mJ_rI, mJ_sP, mJ_sJ, mJ_rJ, gI_e, pI_e, ck_e, bnd_s, nm_eq, pr2_e, cnul_0, cnul_1, drf_1, sm_1, sm_2, aI_e, aJ_e, wI_e, wJ_e, aL_e, cpI_e, cpJ_e, Nat.reduceLeDiff, Nat.reduceEqDiff, Nat.add_left_cancel_iff, ad0, ad1, false_and, and_false, true_and, and_true, reduceIte, if_true, if_false, zb0, zb1, Int32.reduceLT, Int32.reduceLE, i10, nw1, nw2, nt1, nt2, not_true_eq_false, not_false_eq_true, mt_0, mt_1, mt_2, mt_3, ml_3, mt_4, ml_4, mt_5, mt_6, ml_6, mt_7, ml_7, mt_8, ml_8, mt_9, mt_10, ml_10, mt_11, ml_11, mt_12, ml_12, mt_13, mt_14, ml_14, mt_15, ml_15, mt_16, ml_16, mt_17, mt_18, ml_18, mt_19, mt_20, ml_20, mt_21, mt_22, ml_22, mt_23, mt_24, ml_24, mt_25, mt_26, ml_26, mt_53, mt_54, ml_54, mt_55, ml_55, mt_56, mt_57, ml_57, mt_58, ml_58, mt_59, mt_60, ml_60, mt_61, mt_62, ml_62, mt_63, ml_63, mt_64, mt_65, ml_65, mt_66, mt_67, ml_67, mt_68, mt_69, ml_69, mt_70, mt_71, ml_71, mt_72, mt_73, ml_73, mt_74, mt_75, ml_75, mt_76, mt_77, ml_77, gP_0_0, gP_0_1, gP_0_4, gP_0_5, gP_0_6, gP_0_7, gP_0_8, gP_0_9, gP_1_0, gP_1_1, gP_1_4, gP_1_5, gP_1_6, gP_2_0, gP_5_1, gP_5_2, gP_5_3, gP_9_1, gP_9_2, gP_9_3, gP_13_1, gP_13_2, gP_13_3, gP_17_3, gP_19_3, gP_21_3, gP_23_3, gP_25_3, gP_53_0, gP_53_6, gP_56_0, gP_59_0, gP_61_3, gP_64_0, gP_66_2, gP_68_2, gP_70_2, gP_72_2, gP_74_2, gP_76_2, aP_4, mtw_4, mtl_4, mll_4, gPw_4, aP_58, mtw_58, mtl_58, mll_58, gPw_58, hS, s1]
abbrev lpX (o : Nat) : Int32 × QM → Option ((Int32 × QM) ⊕ (QM)) := fun s59 => lp_X3_faultFor_59 (o + 53) s59.1 s59.2
theorem tx_c (ht : t ≤ 9) (hm : m ≤ 9) : ∀ k, k ≤ 9 → ∀ p r M, TC M o P L → mI M (o + 53) 4 = nI t → mI M (o + 53) 5 = nI m → mI M (o + 53) 2 = nI p → mI M (o + 53) 3 = 0 → p ≤ L → PG P L k p r → ∃ N1 N2, fn_X3_clause M (o + 53) = some N1 ∧ (∀ j, k < j → itr (lpX o) j (nI (10 - k), N1) = some N2) ∧ SHP N1 o ∧ TR M N2 o L t m r := by
  intro k
  induction k with
  | zero =>
    intro hk p r M h h4 h5 h2 h3 hp x
    have stop : ∀ N1 j, 0 < j → itr (lpX o) j (nI (10 - 0), N1) = some N1 := fun N1 j hj => by
      obtain ⟨j, rfl⟩ : ∃ j', j = j' + 1 := ⟨j - 1, by omega⟩
      refine itr_exit ?_
      show lp_X3_faultFor_59 (o + 53) (nI 10) N1 = _
      have f : (10 : Int32) ≤ nI 10 := by decide
      simp only [lp_X3_faultFor_59, f, mt_sI, mt_sJ, mt_sP, mt_rI, mt_rJ, ml_sI, ml_sJ, ml_sP, ml_rI, ml_rJ, mP_sI, mP_sJ, mP_rI, mP_rJ, SHP_sI, SHP_sJ, SHP_rI, SHP_rJ, mI_sI, mI_rI, mI_sJ, mI_rJ, mI_sP, mJ_sI, mJ_rI, mJ_sP, mJ_sJ, mJ_rJ, gI_e, pI_e, ck_e, bnd_s, nm_eq, pr2_e, cnul_0, cnul_1, drf_1, sm_1, sm_2, aI_e, aJ_e, wI_e, wJ_e, aL_e, cpI_e, cpJ_e, Nat.reduceLeDiff, Nat.reduceEqDiff, Nat.add_left_cancel_iff, ad0, ad1, false_and, and_false, true_and, and_true, reduceIte, if_true, if_false, zb0, zb1, Int32.reduceLT, Int32.reduceLE, i10, nw1, nw2, nt1, nt2, not_true_eq_false, not_false_eq_true]
    rcases x with ⟨q, a, rfl⟩ | ⟨q, c, a, b⟩
    · obtain ⟨N1, e1, s, r1⟩ := cl_e h h4 h5 ht hm h2 h3 hp a
      exact ⟨N1, N1, e1, stop N1, s.shp h.1, s, r1.1, (PC_l h.2.1 hp a).2, Or.inl r1.2⟩
    · obtain ⟨N1, e1, s, r1, r2, r3, r4⟩ := cl_e h h4 h5 ht hm h2 h3 hp a
      refine ⟨N1, N1, e1, stop N1, s.shp h.1, s, ?_⟩
      rcases b with ⟨rfl, rfl⟩ | ⟨b, rfl⟩
      · refine ⟨r1, fun s hs => ?_, fun s hs => ?_, r4⟩
        · rw [r2, hs]
          show _ = nI (if c.1 = 2 then c.2.1 else s)
          by_cases z : c.1 = 2
          · rw [if_pos z, if_pos z]
          · rw [if_neg z, if_neg z]
        · rw [r3, hs]
          show _ = nI (if c.1 = 3 then c.2.1 else s)
          by_cases z : c.1 = 3
          · rw [if_pos z, if_pos z]
          · rw [if_neg z, if_neg z]
      · have := PC_r h.2.1 hp a
        exact ⟨r1.1, this.2.1, Or.inr ⟨r1.2, by omega⟩⟩
  | succ k ih =>
    intro hk p r M h h4 h5 h2 h3 hp x
    have f10 : ¬ (10 : Int32) ≤ nI (10 - (k + 1)) := by
      have : ¬ nI 10 ≤ nI (10 - (k + 1)) := by rw [nI_leI (by omega) (by omega)]; omega
      exact this
    have stop : ∀ N1, SHP N1 o → fn_X3_takes N1 (o + 53) 59 = some (0, N1) → ∀ j, k + 1 < j → itr (lpX o) j (nI (10 - (k + 1)), N1) = some N1 := fun N1 s1 e j hj => by
      obtain ⟨j, rfl⟩ : ∃ j', j = j' + 1 := ⟨j - 1, by omega⟩
      refine itr_exit ?_
      show lp_X3_faultFor_59 (o + 53) (nI (10 - (k + 1))) N1 = _
      simp only [lp_X3_faultFor_59, f10, e, mt_sI, mt_sJ, mt_sP, mt_rI, mt_rJ, ml_sI, ml_sJ, ml_sP, ml_rI, ml_rJ, mP_sI, mP_sJ, mP_rI, mP_rJ, SHP_sI, SHP_sJ, SHP_rI, SHP_rJ, mI_sI, mI_rI, mI_sJ, mI_rJ, mI_sP, mJ_sI, mJ_rI, mJ_sP, mJ_sJ, mJ_rJ, gI_e, pI_e, ck_e, bnd_s, nm_eq, pr2_e, cnul_0, cnul_1, drf_1, sm_1, sm_2, aI_e, aJ_e, wI_e, wJ_e, aL_e, cpI_e, cpJ_e, Nat.reduceLeDiff, Nat.reduceEqDiff, Nat.add_left_cancel_iff, ad0, ad1, false_and, and_false, true_and, and_true, reduceIte, if_true, if_false, zb0, zb1, Int32.reduceLT, Int32.reduceLE, i10, nw1, nw2, nt1, nt2, not_true_eq_false, not_false_eq_true, mt_0, mt_1, mt_2, mt_3, ml_3, mt_4, ml_4, mt_5, mt_6, ml_6, mt_7, ml_7, mt_8, ml_8, mt_9, mt_10, ml_10, mt_11, ml_11, mt_12, ml_12, mt_13, mt_14, ml_14, mt_15, ml_15, mt_16, ml_16, mt_17, mt_18, ml_18, mt_19, mt_20, ml_20, mt_21, mt_22, ml_22, mt_23, mt_24, ml_24, mt_25, mt_26, ml_26, mt_53, mt_54, ml_54, mt_55, ml_55, mt_56, mt_57, ml_57, mt_58, ml_58, mt_59, mt_60, ml_60, mt_61, mt_62, ml_62, mt_63, ml_63, mt_64, mt_65, ml_65, mt_66, mt_67, ml_67, mt_68, mt_69, ml_69, mt_70, mt_71, ml_71, mt_72, mt_73, ml_73, mt_74, mt_75, ml_75, mt_76, mt_77, ml_77, gP_0_0, gP_0_1, gP_0_4, gP_0_5, gP_0_6, gP_0_7, gP_0_8, gP_0_9, gP_1_0, gP_1_1, gP_1_4, gP_1_5, gP_1_6, gP_2_0, gP_5_1, gP_5_2, gP_5_3, gP_9_1, gP_9_2, gP_9_3, gP_13_1, gP_13_2, gP_13_3, gP_17_3, gP_19_3, gP_21_3, gP_23_3, gP_25_3, gP_53_0, gP_53_6, gP_56_0, gP_59_0, gP_61_3, gP_64_0, gP_66_2, gP_68_2, gP_70_2, gP_72_2, gP_74_2, gP_76_2, aP_4, mtw_4, mtl_4, mll_4, gPw_4, aP_58, mtw_58, mtl_58, mll_58, gPw_58, s1]
    rcases x with ⟨q, a, rfl⟩ | ⟨q, c, a, b⟩
    · obtain ⟨N1, e1, s, r1⟩ := cl_e h h4 h5 ht hm h2 h3 hp a
      have g : PLC N1 N1 o q true := ⟨SQ.rfl, r1.1, r1.2⟩
      exact ⟨N1, N1, e1, stop N1 (s.shp h.1) (tk_b (h.zc s) g), s.shp h.1, s, r1.1, (PC_l h.2.1 hp a).2, Or.inl r1.2⟩
    · obtain ⟨N1, e1, s, r1, r2, r3, r4⟩ := cl_e h h4 h5 ht hm h2 h3 hp a
      have hq := (PC_r h.2.1 hp a).2.1
      have h' := h.zc s
      have s1 := s.shp h.1
      have g : PLC N1 N1 o q false := ⟨SQ.rfl, r1.1, r1.2⟩
      have l2 : ∀ sp, mI M (o + 53) 7 = nI sp → mI N1 (o + 53) 7 = nI (if c.1 = 2 then c.2.1 else sp) := fun sp hs => by
        rw [r2, hs]
        by_cases z : c.1 = 2
        · rw [if_pos z, if_pos z]
        · rw [if_neg z, if_neg z]
      have l3 : ∀ sp, mI M (o + 53) 8 = nI sp → mI N1 (o + 53) 8 = nI (if c.1 = 3 then c.2.1 else sp) := fun sp hs => by
        rw [r3, hs]
        by_cases z : c.1 = 3
        · rw [if_pos z, if_pos z]
        · rw [if_neg z, if_neg z]
      rcases b with ⟨rfl, rfl⟩ | ⟨b, b2, rfl⟩ | ⟨b, b2, b3⟩
      · have e59 : fn_X3_takes N1 (o + 53) 59 = _ := tk_n h' g hq (c := 59) (by decide) (by rw [h.2.1.2.2 _ (Nat.le_refl _)]; decide)
        exact ⟨N1, N1, e1, stop N1 s1 e59, s1, s, r1, l2, l3, r4⟩
      · have e59 : fn_X3_takes N1 (o + 53) 59 = _ := tk_n h' g hq (c := 59) (by decide) b2
        exact ⟨N1, N1, e1, stop N1 s1 e59, s1, s, r1.1, hq, Or.inr ⟨r1.2, by omega⟩⟩
      · have e59 : fn_X3_takes N1 (o + 53) 59 = _ := tk_y h' g (c := 59) (by decide) b2
        have g' := g.go (q := q + 1)
        have sz : SQ N1 (sI N1 (o + 53) 2 (nI (q + 1))) o Zcl := g'.1.mono fun _ _ z => rd_cl z
        have s1' := g'.1.shp s1
        have k4 : mI (sI N1 (o + 53) 2 (nI (q + 1))) (o + 53) 4 = nI t := (g'.1.2.2.2.2 53 4 (by unfold Zrd; omega)).trans ((s.2.2.2.2 53 4 (by unfold Zcl; omega)).trans h4)
        have k5 : mI (sI N1 (o + 53) 2 (nI (q + 1))) (o + 53) 5 = nI m := (g'.1.2.2.2.2 53 5 (by unfold Zrd; omega)).trans ((s.2.2.2.2 53 5 (by unfold Zcl; omega)).trans h5)
        have hq1 : q + 1 ≤ L := by omega
        have go : ∀ r', PG P L k (q + 1) r' → ∃ N2, (∀ j, k + 1 < j → itr (lpX o) j (nI (10 - (k + 1)), N1) = some N2) ∧ TR (sI N1 (o + 53) 2 (nI (q + 1))) N2 o L t m r' := fun r' x' => by
          obtain ⟨N1', N2, u1, u2, u3, u4⟩ := ih (by omega) (q + 1) r' _ (h'.zc sz) k4 k5 g'.2.1 g'.2.2 hq1 x'
          refine ⟨N2, fun j hj => ?_, u4⟩
          obtain ⟨j, rfl⟩ : ∃ j', j = j' + 1 := ⟨j - 1, by omega⟩
          have n1 : nI (10 - (k + 1)) + 1 = nI (10 - k) := by rw [nI_1]; exact congrArg nI (by omega)
          refine (itr_go ?_).trans (u2 j (by omega))
          show lp_X3_faultFor_59 (o + 53) (nI (10 - (k + 1))) N1 = _
          simp only [lp_X3_faultFor_59, f10, e59, u1, n1, mt_sI, mt_sJ, mt_sP, mt_rI, mt_rJ, ml_sI, ml_sJ, ml_sP, ml_rI, ml_rJ, mP_sI, mP_sJ, mP_rI, mP_rJ, SHP_sI, SHP_sJ, SHP_rI, SHP_rJ, mI_sI, mI_rI, mI_sJ, mI_rJ, mI_sP, mJ_sI, mJ_rI, mJ_sP, mJ_sJ, mJ_rJ, gI_e, pI_e, ck_e, bnd_s, nm_eq, pr2_e, cnul_0, cnul_1, drf_1, sm_1, sm_2, aI_e, aJ_e, wI_e, wJ_e, aL_e, cpI_e, cpJ_e, Nat.reduceLeDiff, Nat.reduceEqDiff, Nat.add_left_cancel_iff, ad0, ad1, false_and, and_false, true_and, and_true, reduceIte, if_true, if_false, zb0, zb1, Int32.reduceLT, Int32.reduceLE, i10, nw1, nw2, nt1, nt2, not_true_eq_false, not_false_eq_true, mt_0, mt_1, mt_2, mt_3, ml_3, mt_4, ml_4, mt_5, mt_6, ml_6, mt_7, ml_7, mt_8, ml_8, mt_9, mt_10, ml_10, mt_11, ml_11, mt_12, ml_12, mt_13, mt_14, ml_14, mt_15, ml_15, mt_16, ml_16, mt_17, mt_18, ml_18, mt_19, mt_20, ml_20, mt_21, mt_22, ml_22, mt_23, mt_24, ml_24, mt_25, mt_26, ml_26, mt_53, mt_54, ml_54, mt_55, ml_55, mt_56, mt_57, ml_57, mt_58, ml_58, mt_59, mt_60, ml_60, mt_61, mt_62, ml_62, mt_63, ml_63, mt_64, mt_65, ml_65, mt_66, mt_67, ml_67, mt_68, mt_69, ml_69, mt_70, mt_71, ml_71, mt_72, mt_73, ml_73, mt_74, mt_75, ml_75, mt_76, mt_77, ml_77, gP_0_0, gP_0_1, gP_0_4, gP_0_5, gP_0_6, gP_0_7, gP_0_8, gP_0_9, gP_1_0, gP_1_1, gP_1_4, gP_1_5, gP_1_6, gP_2_0, gP_5_1, gP_5_2, gP_5_3, gP_9_1, gP_9_2, gP_9_3, gP_13_1, gP_13_2, gP_13_3, gP_17_3, gP_19_3, gP_21_3, gP_23_3, gP_25_3, gP_53_0, gP_53_6, gP_56_0, gP_59_0, gP_61_3, gP_64_0, gP_66_2, gP_68_2, gP_70_2, gP_72_2, gP_74_2, gP_76_2, aP_4, mtw_4, mtl_4, mll_4, gPw_4, aP_58, mtw_58, mtl_58, mll_58, gPw_58, s1, s1']
        have st : ∀ N2, SQ (sI N1 (o + 53) 2 (nI (q + 1))) N2 o Zcl → SQ M N2 o Zcl := fun N2 z => (s.trans sz).trans z
        rcases b3 with ⟨q2, b3, rfl⟩ | ⟨cs, b3, rfl⟩
        · obtain ⟨N2, u1, u2, u3⟩ := go _ b3
          exact ⟨N1, N2, e1, u1, s1, st N2 u2, u3⟩
        · obtain ⟨N2, u1, u2, u3, u4, u5, u6⟩ := go _ b3
          have o7 : ∀ a, ¬ a = 2 → mI (sI N1 (o + 53) 2 (nI (q + 1))) (o + 53) a = mI N1 (o + 53) a := fun a ha => by rw [mI_sI, if_neg (by omega)]
          refine ⟨N1, N2, e1, u1, s1, st N2 u2, u3, fun sp hs => ?_, fun sp hs => ?_, fun cc hcc => ?_⟩
          · exact u4 _ ((o7 7 (by decide)).trans (l2 sp hs))
          · exact u5 _ ((o7 8 (by decide)).trans (l3 sp hs))
          · have w := u6 cc hcc
            have e55 : mI (sI N1 (o + 53) 2 (nI (q + 1))) (o + 55) cc = mI N1 (o + 55) cc := by rw [mI_sI, if_neg (by omega)]
            rw [e55] at w
            exact grV_cons (r4 cc hcc) w
/-- the growths as they are at first -/
theorem ff_l (hS : SHP N o) : ∃ N', itr (fun s34 : Int32 × QM => lp_X3_faultFor_34 (o + 53) s34.1 s34.2) FU (0, N) = some N' ∧ SQ N N' o (fun a _ => a = 55) ∧ ∀ i, i < 16 → mI N' (o + 55) i = 2 := by
  have loop := itr_J (f := fun s34 : Int32 × QM => lp_X3_faultFor_34 (o + 53) s34.1 s34.2) (s0 := (0, N)) (fun k s => ∃ Mw, s = (nI k, Mw) ∧ k ≤ 16 ∧ SQ N Mw o (fun a _ => a = 55) ∧ ∀ i, i < k → mI Mw (o + 55) i = 2) (fun r => SQ N r o (fun a _ => a = 55) ∧ ∀ i, i < 16 → mI r (o + 55) i = 2) 16
    ⟨N, rfl, Nat.zero_le _, SQ.rfl, fun i hi => absurd hi (Nat.not_lt_zero i)⟩
    (fun k s hs => by
      obtain ⟨Mw, rfl, hk, g1, g2⟩ := hs
      have hS' := g1.shp hS
      show (∃ r, lp_X3_faultFor_34 (o + 53) (nI k) Mw = some (.inr r) ∧ _) ∨ _ ∧ ∃ s', lp_X3_faultFor_34 (o + 53) (nI k) Mw = some (.inl s') ∧ _
      by_cases e : k = 16
      · left
        subst e
        have f : (16 : Int32) ≤ nI 16 := by decide
        refine ⟨Mw, ?_, g1, g2⟩
        simp only [lp_X3_faultFor_34, f, mt_sI, mt_sJ, mt_sP, mt_rI, mt_rJ, ml_sI, ml_sJ, ml_sP, ml_rI, ml_rJ, mP_sI, mP_sJ, mP_rI, mP_rJ, SHP_sI, SHP_sJ, SHP_rI, SHP_rJ, mI_sI, mI_rI, mI_sJ, mI_rJ, mI_sP, mJ_sI, mJ_rI, mJ_sP, mJ_sJ, mJ_rJ, gI_e, pI_e, ck_e, bnd_s, nm_eq, pr2_e, cnul_0, cnul_1, drf_1, sm_1, sm_2, aI_e, aJ_e, wI_e, wJ_e, aL_e, cpI_e, cpJ_e, Nat.reduceLeDiff, Nat.reduceEqDiff, Nat.add_left_cancel_iff, ad0, ad1, false_and, and_false, true_and, and_true, reduceIte, if_true, if_false, zb0, zb1, Int32.reduceLT, Int32.reduceLE, i10, nw1, nw2, nt1, nt2, not_true_eq_false, not_false_eq_true]
      · right
        have hk' : k < 16 := by omega
        have f : ¬ (16 : Int32) ≤ nI k := by
          have : ¬ nI 16 ≤ nI k := by rw [nI_leI (by omega) (by omega)]; omega
          exact this
        refine ⟨hk', (nI (k + 1), sI Mw (o + 55) k 2), ?_, _, rfl, hk', g1.sI rfl, fun i hi => ?_⟩
        · simp only [lp_X3_faultFor_34, f, nI_1, mt_sI, mt_sJ, mt_sP, mt_rI, mt_rJ, ml_sI, ml_sJ, ml_sP, ml_rI, ml_rJ, mP_sI, mP_sJ, mP_rI, mP_rJ, SHP_sI, SHP_sJ, SHP_rI, SHP_rJ, mI_sI, mI_rI, mI_sJ, mI_rJ, mI_sP, mJ_sI, mJ_rI, mJ_sP, mJ_sJ, mJ_rJ, gI_e, pI_e, ck_e, bnd_s, nm_eq, pr2_e, cnul_0, cnul_1, drf_1, sm_1, sm_2, aI_e, aJ_e, wI_e, wJ_e, aL_e, cpI_e, cpJ_e, Nat.reduceLeDiff, Nat.reduceEqDiff, Nat.add_left_cancel_iff, ad0, ad1, false_and, and_false, true_and, and_true, reduceIte, if_true, if_false, zb0, zb1, Int32.reduceLT, Int32.reduceLE, i10, nw1, nw2, nt1, nt2, not_true_eq_false, not_false_eq_true, mt_0, mt_1, mt_2, mt_3, ml_3, mt_4, ml_4, mt_5, mt_6, ml_6, mt_7, ml_7, mt_8, ml_8, mt_9, mt_10, ml_10, mt_11, ml_11, mt_12, ml_12, mt_13, mt_14, ml_14, mt_15, ml_15, mt_16, ml_16, mt_17, mt_18, ml_18, mt_19, mt_20, ml_20, mt_21, mt_22, ml_22, mt_23, mt_24, ml_24, mt_25, mt_26, ml_26, mt_53, mt_54, ml_54, mt_55, ml_55, mt_56, mt_57, ml_57, mt_58, ml_58, mt_59, mt_60, ml_60, mt_61, mt_62, ml_62, mt_63, ml_63, mt_64, mt_65, ml_65, mt_66, mt_67, ml_67, mt_68, mt_69, ml_69, mt_70, mt_71, ml_71, mt_72, mt_73, ml_73, mt_74, mt_75, ml_75, mt_76, mt_77, ml_77, gP_0_0, gP_0_1, gP_0_4, gP_0_5, gP_0_6, gP_0_7, gP_0_8, gP_0_9, gP_1_0, gP_1_1, gP_1_4, gP_1_5, gP_1_6, gP_2_0, gP_5_1, gP_5_2, gP_5_3, gP_9_1, gP_9_2, gP_9_3, gP_13_1, gP_13_2, gP_13_3, gP_17_3, gP_19_3, gP_21_3, gP_23_3, gP_25_3, gP_53_0, gP_53_6, gP_56_0, gP_59_0, gP_61_3, gP_64_0, gP_66_2, gP_68_2, gP_70_2, gP_72_2, gP_74_2, gP_76_2, aP_4, mtw_4, mtl_4, mll_4, gPw_4, aP_58, mtw_58, mtl_58, mll_58, gPw_58, hS', hk']
        · rw [mI_sI]
          by_cases e2 : i = k
          · rw [if_pos ⟨rfl, e2⟩]
          · rw [if_neg (by omega)]; exact g2 i (by omega))
    (by decide)
  obtain ⟨N', h1, h2⟩ := loop
  exact ⟨N', h1, h2⟩
/-- the FAULT, or all that the text says, at one tens and one minute -/
theorem ff_e (h : TC M o P L) (ht : t ≤ 9) (hm : m ≤ 9) {r : Nat ⊕ List CLA} (x : PG P L 9 0 r) : ∃ v N', fn_X3_faultFor M (o + 53) (nI t) (nI m) = some (v, N') ∧ FR M N' o L t m v r := by
  have hS := h.1
  have hL := h.2.1.1
  obtain ⟨M1, eM1⟩ : ∃ M1, M1 = sI (sI (sI (sI (sI (sI M (o + 53) 2 0) (o + 53) 3 0) (o + 53) 4 (nI t)) (o + 53) 5 (nI m)) (o + 53) 7 99) (o + 53) 8 10 := ⟨_, rfl⟩
  have q1 : SQ M M1 o Zff := by
    rw [eM1]
    exact ((((((SQ.rfl).sI (by unfold Zff; omega)).sI (by unfold Zff; omega)).sI (by unfold Zff; omega)).sI (by unfold Zff; omega)).sI (by unfold Zff; omega)).sI (by unfold Zff; omega)
  have s1 := q1.shp hS
  obtain ⟨M2, e2, q2, v2⟩ := ff_l s1
  have s2 := q2.shp s1
  have w : ∀ k, mI M2 (o + 53) k = mI M1 (o + 53) k := fun k => q2.2.2.2.2 53 k (by omega)
  have w2 : mI M2 (o + 53) 2 = 0 := (w 2).trans (by rw [eM1]; simp only [mt_sI, mt_sJ, mt_sP, mt_rI, mt_rJ, ml_sI, ml_sJ, ml_sP, ml_rI, ml_rJ, mP_sI, mP_sJ, mP_rI, mP_rJ, SHP_sI, SHP_sJ, SHP_rI, SHP_rJ, mI_sI, mI_rI, mI_sJ, mI_rJ, mI_sP, mJ_sI, mJ_rI, mJ_sP, mJ_sJ, mJ_rJ, gI_e, pI_e, ck_e, bnd_s, nm_eq, pr2_e, cnul_0, cnul_1, drf_1, sm_1, sm_2, aI_e, aJ_e, wI_e, wJ_e, aL_e, cpI_e, cpJ_e, Nat.reduceLeDiff, Nat.reduceEqDiff, Nat.add_left_cancel_iff, ad0, ad1, false_and, and_false, true_and, and_true, reduceIte, if_true, if_false, zb0, zb1, Int32.reduceLT, Int32.reduceLE, i10, nw1, nw2, nt1, nt2, not_true_eq_false, not_false_eq_true])
  have w3 : mI M2 (o + 53) 3 = 0 := (w 3).trans (by rw [eM1]; simp only [mt_sI, mt_sJ, mt_sP, mt_rI, mt_rJ, ml_sI, ml_sJ, ml_sP, ml_rI, ml_rJ, mP_sI, mP_sJ, mP_rI, mP_rJ, SHP_sI, SHP_sJ, SHP_rI, SHP_rJ, mI_sI, mI_rI, mI_sJ, mI_rJ, mI_sP, mJ_sI, mJ_rI, mJ_sP, mJ_sJ, mJ_rJ, gI_e, pI_e, ck_e, bnd_s, nm_eq, pr2_e, cnul_0, cnul_1, drf_1, sm_1, sm_2, aI_e, aJ_e, wI_e, wJ_e, aL_e, cpI_e, cpJ_e, Nat.reduceLeDiff, Nat.reduceEqDiff, Nat.add_left_cancel_iff, ad0, ad1, false_and, and_false, true_and, and_true, reduceIte, if_true, if_false, zb0, zb1, Int32.reduceLT, Int32.reduceLE, i10, nw1, nw2, nt1, nt2, not_true_eq_false, not_false_eq_true])
  have w4 : mI M2 (o + 53) 4 = nI t := (w 4).trans (by rw [eM1]; simp only [mt_sI, mt_sJ, mt_sP, mt_rI, mt_rJ, ml_sI, ml_sJ, ml_sP, ml_rI, ml_rJ, mP_sI, mP_sJ, mP_rI, mP_rJ, SHP_sI, SHP_sJ, SHP_rI, SHP_rJ, mI_sI, mI_rI, mI_sJ, mI_rJ, mI_sP, mJ_sI, mJ_rI, mJ_sP, mJ_sJ, mJ_rJ, gI_e, pI_e, ck_e, bnd_s, nm_eq, pr2_e, cnul_0, cnul_1, drf_1, sm_1, sm_2, aI_e, aJ_e, wI_e, wJ_e, aL_e, cpI_e, cpJ_e, Nat.reduceLeDiff, Nat.reduceEqDiff, Nat.add_left_cancel_iff, ad0, ad1, false_and, and_false, true_and, and_true, reduceIte, if_true, if_false, zb0, zb1, Int32.reduceLT, Int32.reduceLE, i10, nw1, nw2, nt1, nt2, not_true_eq_false, not_false_eq_true])
  have w5 : mI M2 (o + 53) 5 = nI m := (w 5).trans (by rw [eM1]; simp only [mt_sI, mt_sJ, mt_sP, mt_rI, mt_rJ, ml_sI, ml_sJ, ml_sP, ml_rI, ml_rJ, mP_sI, mP_sJ, mP_rI, mP_rJ, SHP_sI, SHP_sJ, SHP_rI, SHP_rJ, mI_sI, mI_rI, mI_sJ, mI_rJ, mI_sP, mJ_sI, mJ_rI, mJ_sP, mJ_sJ, mJ_rJ, gI_e, pI_e, ck_e, bnd_s, nm_eq, pr2_e, cnul_0, cnul_1, drf_1, sm_1, sm_2, aI_e, aJ_e, wI_e, wJ_e, aL_e, cpI_e, cpJ_e, Nat.reduceLeDiff, Nat.reduceEqDiff, Nat.add_left_cancel_iff, ad0, ad1, false_and, and_false, true_and, and_true, reduceIte, if_true, if_false, zb0, zb1, Int32.reduceLT, Int32.reduceLE, i10, nw1, nw2, nt1, nt2, not_true_eq_false, not_false_eq_true])
  have w7 : mI M2 (o + 53) 7 = 99 := (w 7).trans (by rw [eM1]; simp only [mt_sI, mt_sJ, mt_sP, mt_rI, mt_rJ, ml_sI, ml_sJ, ml_sP, ml_rI, ml_rJ, mP_sI, mP_sJ, mP_rI, mP_rJ, SHP_sI, SHP_sJ, SHP_rI, SHP_rJ, mI_sI, mI_rI, mI_sJ, mI_rJ, mI_sP, mJ_sI, mJ_rI, mJ_sP, mJ_sJ, mJ_rJ, gI_e, pI_e, ck_e, bnd_s, nm_eq, pr2_e, cnul_0, cnul_1, drf_1, sm_1, sm_2, aI_e, aJ_e, wI_e, wJ_e, aL_e, cpI_e, cpJ_e, Nat.reduceLeDiff, Nat.reduceEqDiff, Nat.add_left_cancel_iff, ad0, ad1, false_and, and_false, true_and, and_true, reduceIte, if_true, if_false, zb0, zb1, Int32.reduceLT, Int32.reduceLE, i10, nw1, nw2, nt1, nt2, not_true_eq_false, not_false_eq_true])
  have w8 : mI M2 (o + 53) 8 = 10 := (w 8).trans (by rw [eM1]; simp only [mt_sI, mt_sJ, mt_sP, mt_rI, mt_rJ, ml_sI, ml_sJ, ml_sP, ml_rI, ml_rJ, mP_sI, mP_sJ, mP_rI, mP_rJ, SHP_sI, SHP_sJ, SHP_rI, SHP_rJ, mI_sI, mI_rI, mI_sJ, mI_rJ, mI_sP, mJ_sI, mJ_rI, mJ_sP, mJ_sJ, mJ_rJ, gI_e, pI_e, ck_e, bnd_s, nm_eq, pr2_e, cnul_0, cnul_1, drf_1, sm_1, sm_2, aI_e, aJ_e, wI_e, wJ_e, aL_e, cpI_e, cpJ_e, Nat.reduceLeDiff, Nat.reduceEqDiff, Nat.add_left_cancel_iff, ad0, ad1, false_and, and_false, true_and, and_true, reduceIte, if_true, if_false, zb0, zb1, Int32.reduceLT, Int32.reduceLE, i10, nw1, nw2, nt1, nt2, not_true_eq_false, not_false_eq_true])
  have q12 : SQ M M2 o Zff := q1.trans (q2.mono fun _ _ z => Or.inr z)
  have tc : TC M2 o P L := ⟨s2, h.2.1, (q12.2.2.2.2 53 1 (by unfold Zff; omega)).trans h.2.2.1, fun i hi => (q12.2.2.2.2 54 i (by unfold Zff; omega)).trans (h.2.2.2 i hi)⟩
  obtain ⟨N1, N2, u1, u2, u3, u4⟩ := tx_c ht hm 9 (by decide) 0 r M2 tc w4 w5 w2 w3 (Nat.zero_le _) x
  have u2 : itr (fun s59 : Int32 × QM => lp_X3_faultFor_59 (o + 53) s59.1 s59.2) FU (1, N1) = some N2 := u2 2048 (by decide)
  have q3 : SQ M N2 o Zff := q12.trans (u4.1.mono fun _ _ z => by unfold Zcl at z; unfold Zff; omega)
  have s4 := q3.shp hS
  have eM1' : sI (sI (sI (sI (sI (sI M (o + 53) 2 0) (o + 53) 3 0) (o + 53) 4 (nI t)) (o + 53) 5 (nI m)) (o + 53) 7 99) (o + 53) 8 10 = M1 := eM1.symm
  have fl : mI N2 (o + 53) 1 = nI L := (q3.2.2.2.2 53 1 (by unfold Zff; omega)).trans h.2.2.1
  cases r with
  | inl q =>
    obtain ⟨-, y1, y2, y3⟩ := u4
    refine ⟨nI q, N2, ?_, q3, rfl, y2⟩
    rcases y3 with y3 | ⟨y3, y4⟩
    · simp only [fn_X3_faultFor, eM1', e2, u1, u2, y1, y3, mt_sI, mt_sJ, mt_sP, mt_rI, mt_rJ, ml_sI, ml_sJ, ml_sP, ml_rI, ml_rJ, mP_sI, mP_sJ, mP_rI, mP_rJ, SHP_sI, SHP_sJ, SHP_rI, SHP_rJ, mI_sI, mI_rI, mI_sJ, mI_rJ, mI_sP, mJ_sI, mJ_rI, mJ_sP, mJ_sJ, mJ_rJ, gI_e, pI_e, ck_e, bnd_s, nm_eq, pr2_e, cnul_0, cnul_1, drf_1, sm_1, sm_2, aI_e, aJ_e, wI_e, wJ_e, aL_e, cpI_e, cpJ_e, Nat.reduceLeDiff, Nat.reduceEqDiff, Nat.add_left_cancel_iff, ad0, ad1, false_and, and_false, true_and, and_true, reduceIte, if_true, if_false, zb0, zb1, Int32.reduceLT, Int32.reduceLE, i10, nw1, nw2, nt1, nt2, not_true_eq_false, not_false_eq_true, mt_0, mt_1, mt_2, mt_3, ml_3, mt_4, ml_4, mt_5, mt_6, ml_6, mt_7, ml_7, mt_8, ml_8, mt_9, mt_10, ml_10, mt_11, ml_11, mt_12, ml_12, mt_13, mt_14, ml_14, mt_15, ml_15, mt_16, ml_16, mt_17, mt_18, ml_18, mt_19, mt_20, ml_20, mt_21, mt_22, ml_22, mt_23, mt_24, ml_24, mt_25, mt_26, ml_26, mt_53, mt_54, ml_54, mt_55, ml_55, mt_56, mt_57, ml_57, mt_58, ml_58, mt_59, mt_60, ml_60, mt_61, mt_62, ml_62, mt_63, ml_63, mt_64, mt_65, ml_65, mt_66, mt_67, ml_67, mt_68, mt_69, ml_69, mt_70, mt_71, ml_71, mt_72, mt_73, ml_73, mt_74, mt_75, ml_75, mt_76, mt_77, ml_77, gP_0_0, gP_0_1, gP_0_4, gP_0_5, gP_0_6, gP_0_7, gP_0_8, gP_0_9, gP_1_0, gP_1_1, gP_1_4, gP_1_5, gP_1_6, gP_2_0, gP_5_1, gP_5_2, gP_5_3, gP_9_1, gP_9_2, gP_9_3, gP_13_1, gP_13_2, gP_13_3, gP_17_3, gP_19_3, gP_21_3, gP_23_3, gP_25_3, gP_53_0, gP_53_6, gP_56_0, gP_59_0, gP_61_3, gP_64_0, gP_66_2, gP_68_2, gP_70_2, gP_72_2, gP_74_2, gP_76_2, aP_4, mtw_4, mtl_4, mll_4, gPw_4, aP_58, mtw_58, mtl_58, mll_58, gPw_58, hS, s1, s2, u3, s4]
    · have f : ¬ nI L ≤ nI q := by rw [nI_leI (by omega) (by omega)]; omega
      simp only [fn_X3_faultFor, eM1', e2, u1, u2, y1, y3, fl, f, mt_sI, mt_sJ, mt_sP, mt_rI, mt_rJ, ml_sI, ml_sJ, ml_sP, ml_rI, ml_rJ, mP_sI, mP_sJ, mP_rI, mP_rJ, SHP_sI, SHP_sJ, SHP_rI, SHP_rJ, mI_sI, mI_rI, mI_sJ, mI_rJ, mI_sP, mJ_sI, mJ_rI, mJ_sP, mJ_sJ, mJ_rJ, gI_e, pI_e, ck_e, bnd_s, nm_eq, pr2_e, cnul_0, cnul_1, drf_1, sm_1, sm_2, aI_e, aJ_e, wI_e, wJ_e, aL_e, cpI_e, cpJ_e, Nat.reduceLeDiff, Nat.reduceEqDiff, Nat.add_left_cancel_iff, ad0, ad1, false_and, and_false, true_and, and_true, reduceIte, if_true, if_false, zb0, zb1, Int32.reduceLT, Int32.reduceLE, i10, nw1, nw2, nt1, nt2, not_true_eq_false, not_false_eq_true, mt_0, mt_1, mt_2, mt_3, ml_3, mt_4, ml_4, mt_5, mt_6, ml_6, mt_7, ml_7, mt_8, ml_8, mt_9, mt_10, ml_10, mt_11, ml_11, mt_12, ml_12, mt_13, mt_14, ml_14, mt_15, ml_15, mt_16, ml_16, mt_17, mt_18, ml_18, mt_19, mt_20, ml_20, mt_21, mt_22, ml_22, mt_23, mt_24, ml_24, mt_25, mt_26, ml_26, mt_53, mt_54, ml_54, mt_55, ml_55, mt_56, mt_57, ml_57, mt_58, ml_58, mt_59, mt_60, ml_60, mt_61, mt_62, ml_62, mt_63, ml_63, mt_64, mt_65, ml_65, mt_66, mt_67, ml_67, mt_68, mt_69, ml_69, mt_70, mt_71, ml_71, mt_72, mt_73, ml_73, mt_74, mt_75, ml_75, mt_76, mt_77, ml_77, gP_0_0, gP_0_1, gP_0_4, gP_0_5, gP_0_6, gP_0_7, gP_0_8, gP_0_9, gP_1_0, gP_1_1, gP_1_4, gP_1_5, gP_1_6, gP_2_0, gP_5_1, gP_5_2, gP_5_3, gP_9_1, gP_9_2, gP_9_3, gP_13_1, gP_13_2, gP_13_3, gP_17_3, gP_19_3, gP_21_3, gP_23_3, gP_25_3, gP_53_0, gP_53_6, gP_56_0, gP_59_0, gP_61_3, gP_64_0, gP_66_2, gP_68_2, gP_70_2, gP_72_2, gP_74_2, gP_76_2, aP_4, mtw_4, mtl_4, mll_4, gPw_4, aP_58, mtw_58, mtl_58, mll_58, gPw_58, hS, s1, s2, u3, s4]
  | inr cs =>
    obtain ⟨-, ⟨y1, y2⟩, y3, y4, y5⟩ := u4
    have f : nI L ≤ nI L := nI_le (Nat.le_refl _) (by omega)
    refine ⟨-1, N2, ?_, q3, rfl, y3 99 w7, y4 10 w8, fun c hc => ?_⟩
    · simp only [fn_X3_faultFor, eM1', e2, u1, u2, y1, y2, fl, f, mt_sI, mt_sJ, mt_sP, mt_rI, mt_rJ, ml_sI, ml_sJ, ml_sP, ml_rI, ml_rJ, mP_sI, mP_sJ, mP_rI, mP_rJ, SHP_sI, SHP_sJ, SHP_rI, SHP_rJ, mI_sI, mI_rI, mI_sJ, mI_rJ, mI_sP, mJ_sI, mJ_rI, mJ_sP, mJ_sJ, mJ_rJ, gI_e, pI_e, ck_e, bnd_s, nm_eq, pr2_e, cnul_0, cnul_1, drf_1, sm_1, sm_2, aI_e, aJ_e, wI_e, wJ_e, aL_e, cpI_e, cpJ_e, Nat.reduceLeDiff, Nat.reduceEqDiff, Nat.add_left_cancel_iff, ad0, ad1, false_and, and_false, true_and, and_true, reduceIte, if_true, if_false, zb0, zb1, Int32.reduceLT, Int32.reduceLE, i10, nw1, nw2, nt1, nt2, not_true_eq_false, not_false_eq_true, mt_0, mt_1, mt_2, mt_3, ml_3, mt_4, ml_4, mt_5, mt_6, ml_6, mt_7, ml_7, mt_8, ml_8, mt_9, mt_10, ml_10, mt_11, ml_11, mt_12, ml_12, mt_13, mt_14, ml_14, mt_15, ml_15, mt_16, ml_16, mt_17, mt_18, ml_18, mt_19, mt_20, ml_20, mt_21, mt_22, ml_22, mt_23, mt_24, ml_24, mt_25, mt_26, ml_26, mt_53, mt_54, ml_54, mt_55, ml_55, mt_56, mt_57, ml_57, mt_58, ml_58, mt_59, mt_60, ml_60, mt_61, mt_62, ml_62, mt_63, ml_63, mt_64, mt_65, ml_65, mt_66, mt_67, ml_67, mt_68, mt_69, ml_69, mt_70, mt_71, ml_71, mt_72, mt_73, ml_73, mt_74, mt_75, ml_75, mt_76, mt_77, ml_77, gP_0_0, gP_0_1, gP_0_4, gP_0_5, gP_0_6, gP_0_7, gP_0_8, gP_0_9, gP_1_0, gP_1_1, gP_1_4, gP_1_5, gP_1_6, gP_2_0, gP_5_1, gP_5_2, gP_5_3, gP_9_1, gP_9_2, gP_9_3, gP_13_1, gP_13_2, gP_13_3, gP_17_3, gP_19_3, gP_21_3, gP_23_3, gP_25_3, gP_53_0, gP_53_6, gP_56_0, gP_59_0, gP_61_3, gP_64_0, gP_66_2, gP_68_2, gP_70_2, gP_72_2, gP_74_2, gP_76_2, aP_4, mtw_4, mtl_4, mll_4, gPw_4, aP_58, mtw_58, mtl_58, mll_58, gPw_58, hS, s1, s2, u3, s4]
    · rw [← v2 c hc]; exact y5 c hc
end RE5
