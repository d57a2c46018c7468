/-! ===== SEEN: what a number does to it ===== -/
/-- STRENGTH behind the MINUTES of row k of SEEN -/
def seS (G : GG) (m k : Nat) : Nat → Int32 := ripS (gw G) m (gN G 7 k) (G 0)
/-- is row k of SEEN so, with the walkers of G1 -/
def seB (G G1 : GG) (m k : Nat) : Bool := decide (lI (crG G1 (seS G m k) (gN G 6 k)).isSome = G 8 k)
def seA (G G1 : GG) (m : Nat) : Nat → Bool
  | 0 => true
  | k + 1 => seA G G1 m k && seB G G1 m k
section SN1
variable {M M1 N Mw : QM} {o w m p c k x : Nat} {G G1 : GG} {S T l : Nat → Int32} {kd v wt : Int32}
theorem se_row (h : RR M o G) (hk : k < gN G 1 3) : k < 5 ∧ Lv G 6 k ∧ Lv G 7 k ∧ Lv G 8 k ∧ G 6 k = nI (gN G 6 k) ∧ gN G 6 k < gN G 1 1 ∧ G 7 k = nI (gN G 7 k) ∧ gN G 7 k ≤ 20 ∧ (G 8 k = 0 ∨ G 8 k = 1) := by
  obtain ⟨n, n1, n2, n3⟩ := h.2.sc 3 (by decide)
  have n1' : n ≤ 5 := n1
  rw [n3] at hk
  have k5 : k < 5 := by omega
  have l6 : Lv G 6 k := Lv_s (i := 3) k5 (by decide) (by decide) n3 hk (by decide)
  have l7 : Lv G 7 k := Lv_s (i := 3) k5 (by decide) (by decide) n3 hk (by decide)
  have l8 : Lv G 8 k := Lv_s (i := 3) k5 (by decide) (by decide) n3 hk (by decide)
  obtain ⟨q1, q2⟩ := bd_e (show bd (G 6 k) 4 from h.2.1 6 k l6 (by decide)) (by decide)
  obtain ⟨q3, q4⟩ := bd_e (show bd (G 7 k) 20 from h.2.1 7 k l7 (by decide)) (by decide)
  obtain ⟨y, y1, y2⟩ := show bd (G 8 k) 1 from h.2.1 8 k l8 (by decide)
  refine ⟨k5, l6, l7, l8, q1, h.2.2.1.1 k l6, q3, q4, ?_⟩
  rcases (by omega : y = 0 ∨ y = 1) with rfl | rfl
  · exact Or.inl y2
  · exact Or.inr y2
/-! the class -/
def Zh : Nat → Nat → Prop := fun a k => Zc 59 a k ∨ Zg a k ∨ a = 63
theorem Zh_scr (a k : Nat) (h : Zh a k) : scr a k = true := by
  rcases h with h | h | h
  · exact Zc59_scr a k h
  · exact Zg_scr a k h
  · rw [h]; rfl
set_option maxHeartbeats 2000000 in
theorem seenSo_c (h : CW M o G w) (hC : CP M o 59 T) (hW : WK M o 61 kd v wt l) (hg : crK (gw G 1600) kd v wt l T = crG G1 T p) (ho : ∀ q, ¬ q = p → crG G1 T q = crG G T q) {q : Nat} {x8 : Int32} (k5 : k < 5) (hp : p < 5) (hq : q < w) (h6 : mI M (o + 6) k = nI q) (h8 : mI M (o + 8) k = x8) : fn_X8_isSeenSo M o (nI k) (nI p) = some (lI (decide (lI (crG G1 T q).isSome = x8))) := by
  have hS := h.1
  have hw := h.2.1.2
  have q5 : q < 5 := by omega
  have sp : ∀ {α : Type} (f : Int32 → Option α), (gR M (o + 1) 5 7 fun r => gI M r 1 1 f) = f (gw G 1600) := fun f => h.spn
  have lt : ∀ n, crG G1 T q = some n → n < 2 ^ 31 := fun n e => by
    have := crG_lt (G := G1) n e
    omega
  have e63 : ∀ y : Bool, jn_X8_isSeenSo_63 M o (nI k) (lI y) = some (lI (decide (lI y = x8))) := by
    intro y
    by_cases e : lI y = x8
    · rw [decide_eq_true e]
      simp only [jn_X8_isSeenSo_63, h8, e, lI_t, mt_sI, mt_sJ, mt_sP, mt_rI, mt_rJ, ml_sI, ml_sJ, ml_sP, ml_rI, ml_rJ, mP_sI, mP_sJ, mP_rI, mP_rJ, SHP_sI, SHP_sJ, SHP_rI, SHP_rJ, mI_sI, mI_rI, mI_sJ, mI_rJ, mI_sP, mJ_sI, mJ_rI, mJ_sP, mJ_sJ, mJ_rJ, gI_e, pI_e, ck_e, bnd_s, nm_eq, pr2_e, cnul_0, cnul_1, drf_1, sm_1, sm_2, aI_e, aJ_e, wI_e, wJ_e, aL_e, cpI_e, cpJ_e, Nat.reduceLeDiff, Nat.reduceEqDiff, Nat.add_left_cancel_iff, ad0, ad1, false_and, and_false, true_and, and_true, reduceIte, if_true, if_false, zb0, zb1, Int32.reduceLT, Int32.reduceLE, i10, nw1, nw2, nt1, nt2, not_true_eq_false, not_false_eq_true, mt_0, mt_1, mt_2, mt_3, ml_3, mt_4, ml_4, mt_5, mt_6, ml_6, mt_7, ml_7, mt_8, ml_8, mt_9, mt_10, ml_10, mt_11, ml_11, mt_12, ml_12, mt_13, mt_14, ml_14, mt_15, ml_15, mt_16, ml_16, mt_17, mt_18, ml_18, mt_19, mt_20, ml_20, mt_21, mt_22, ml_22, mt_23, mt_24, ml_24, mt_25, mt_26, ml_26, mt_53, mt_54, ml_54, mt_55, ml_55, mt_56, mt_57, ml_57, mt_58, ml_58, mt_59, mt_60, ml_60, mt_61, mt_62, ml_62, mt_63, ml_63, mt_64, mt_65, ml_65, mt_66, mt_67, ml_67, mt_68, mt_69, ml_69, mt_70, mt_71, ml_71, mt_72, mt_73, ml_73, mt_74, mt_75, ml_75, mt_76, mt_77, ml_77, gP_0_0, gP_0_1, gP_0_4, gP_0_5, gP_0_6, gP_0_7, gP_0_8, gP_0_9, gP_1_0, gP_1_1, gP_1_4, gP_1_5, gP_1_6, gP_2_0, gP_5_1, gP_5_2, gP_5_3, gP_9_1, gP_9_2, gP_9_3, gP_13_1, gP_13_2, gP_13_3, gP_17_3, gP_19_3, gP_21_3, gP_23_3, gP_25_3, gP_53_0, gP_53_6, gP_56_0, gP_59_0, gP_61_3, gP_64_0, gP_66_2, gP_68_2, gP_70_2, gP_72_2, gP_74_2, gP_76_2, aP_4, mtw_4, mtl_4, mll_4, gPw_4, aP_58, mtw_58, mtl_58, mll_58, gPw_58, hS, k5]
    · rw [decide_eq_false e]
      simp only [jn_X8_isSeenSo_63, h8, e, lI_f, mt_sI, mt_sJ, mt_sP, mt_rI, mt_rJ, ml_sI, ml_sJ, ml_sP, ml_rI, ml_rJ, mP_sI, mP_sJ, mP_rI, mP_rJ, SHP_sI, SHP_sJ, SHP_rI, SHP_rJ, mI_sI, mI_rI, mI_sJ, mI_rJ, mI_sP, mJ_sI, mJ_rI, mJ_sP, mJ_sJ, mJ_rJ, gI_e, pI_e, ck_e, bnd_s, nm_eq, pr2_e, cnul_0, cnul_1, drf_1, sm_1, sm_2, aI_e, aJ_e, wI_e, wJ_e, aL_e, cpI_e, cpJ_e, Nat.reduceLeDiff, Nat.reduceEqDiff, Nat.add_left_cancel_iff, ad0, ad1, false_and, and_false, true_and, and_true, reduceIte, if_true, if_false, zb0, zb1, Int32.reduceLT, Int32.reduceLE, i10, nw1, nw2, nt1, nt2, not_true_eq_false, not_false_eq_true, mt_0, mt_1, mt_2, mt_3, ml_3, mt_4, ml_4, mt_5, mt_6, ml_6, mt_7, ml_7, mt_8, ml_8, mt_9, mt_10, ml_10, mt_11, ml_11, mt_12, ml_12, mt_13, mt_14, ml_14, mt_15, ml_15, mt_16, ml_16, mt_17, mt_18, ml_18, mt_19, mt_20, ml_20, mt_21, mt_22, ml_22, mt_23, mt_24, ml_24, mt_25, mt_26, ml_26, mt_53, mt_54, ml_54, mt_55, ml_55, mt_56, mt_57, ml_57, mt_58, ml_58, mt_59, mt_60, ml_60, mt_61, mt_62, ml_62, mt_63, ml_63, mt_64, mt_65, ml_65, mt_66, mt_67, ml_67, mt_68, mt_69, ml_69, mt_70, mt_71, ml_71, mt_72, mt_73, ml_73, mt_74, mt_75, ml_75, mt_76, mt_77, ml_77, gP_0_0, gP_0_1, gP_0_4, gP_0_5, gP_0_6, gP_0_7, gP_0_8, gP_0_9, gP_1_0, gP_1_1, gP_1_4, gP_1_5, gP_1_6, gP_2_0, gP_5_1, gP_5_2, gP_5_3, gP_9_1, gP_9_2, gP_9_3, gP_13_1, gP_13_2, gP_13_3, gP_17_3, gP_19_3, gP_21_3, gP_23_3, gP_25_3, gP_53_0, gP_53_6, gP_56_0, gP_59_0, gP_61_3, gP_64_0, gP_66_2, gP_68_2, gP_70_2, gP_72_2, gP_74_2, gP_76_2, aP_4, mtw_4, mtl_4, mll_4, gPw_4, aP_58, mtw_58, mtl_58, mll_58, gPw_58, hS, k5]
  have e34 : ∀ a, mt M a = 7 → fn_X7_crossing M a (o + 59) (gw G 1600) = some (iI (crG G1 T q)) → jn_X8_isSeenSo_34 M o (nI k) a = some (lI (decide (lI (crG G1 T q).isSome = x8))) := by
    intro a ta cr
    unfold jn_X8_isSeenSo_34
    rw [gP_0_7 hS, gP_0_0 hS, sp, ck_e ta, bnd_e cr]
    by_cases z : crG G1 T q = none
    · rw [if_pos ((iI_neg lt).mpr z)]
      have := e63 false
      rw [z]
      exact this
    · rw [if_neg (fun y => z ((iI_neg lt).mp y))]
      have : (crG G1 T q).isSome = true := by
        cases e : crG G1 T q with
        | none => exact absurd e z
        | some _ => rfl
      rw [this]
      exact e63 true
  unfold fn_X8_isSeenSo
  rw [gP_0_0 hS, gP_1_4 hS, gP_5_1 hS, aI_e (mt_6 hS) (by rw [ml_6 hS]; exact k5) (by rw [ml_6 hS]; decide), h6]
  by_cases e : q = p
  · subst e
    rw [if_pos rfl, gP_0_8 hS]
    exact e34 _ (mt_61 hS) (by rw [← hg]; exact crossing_c hW hC)
  · rw [if_neg (fun z => e ((nI_eq (by omega) (by omega)).mp z)), gP_0_0 hS, gP_1_1 hS, aP_4 hS q5]
    refine e34 _ (mtw_4 hS q5) ?_
    rw [ho q e]
    exact crossing_c (h.wk hq) hC
theorem fitAll_c (hS : SHP M o) {n : Nat} (hn : n ≤ 100) : ∃ M1, fn_X8_fitAll M o (nI n) = some M1 ∧ SQ M M1 o Zh ∧ ∀ i, i < n → mI M1 (o + 63) i = lI true := by
  have loop := itr_J (f := fun s2 : Int32 × QM => lp_X8_fitAll_2 o (nI n) s2.1 s2.2) (s0 := (0, M)) (fun x z => x ≤ n ∧ ∃ Mw, z = (nI x, Mw) ∧ SQ M Mw o Zh ∧ ∀ i, i < x → mI Mw (o + 63) i = lI true) (fun r => SQ M r o Zh ∧ ∀ i, i < n → mI r (o + 63) i = lI true) 100
    ⟨Nat.zero_le _, M, rfl, SQ.rfl, fun i hi => absurd hi (Nat.not_lt_zero _)⟩
    (fun x z hz => by
      obtain ⟨hx, Mw, rfl, g1, g2⟩ := hz
      have hS' := g1.shp hS
      show (∃ r, lp_X8_fitAll_2 o (nI n) (nI x) Mw = some (.inr r) ∧ _) ∨ _ ∧ ∃ s', lp_X8_fitAll_2 o (nI n) (nI x) Mw = some (.inl s') ∧ _
      by_cases e : x = n
      · left
        subst e
        refine ⟨Mw, ?_, g1, g2⟩
        unfold lp_X8_fitAll_2
        rw [if_pos (nI_le (Nat.le_refl _) (by omega))]
      · right
        have f1 : ¬ nI n ≤ nI x := by rw [nI_leI (by omega) (by omega)]; omega
        have x100 : x < 100 := by omega
        refine ⟨by omega, (nI (x + 1), sI Mw (o + 63) x 1), ?_, by omega, _, rfl, g1.sI (Or.inr (Or.inr rfl)), fun i hi => ?_⟩
        · simp only [lp_X8_fitAll_2, f1, nI_1, mt_sI, mt_sJ, mt_sP, mt_rI, mt_rJ, ml_sI, ml_sJ, ml_sP, ml_rI, ml_rJ, mP_sI, mP_sJ, mP_rI, mP_rJ, SHP_sI, SHP_sJ, SHP_rI, SHP_rJ, mI_sI, mI_rI, mI_sJ, mI_rJ, mI_sP, mJ_sI, mJ_rI, mJ_sP, mJ_sJ, mJ_rJ, gI_e, pI_e, ck_e, bnd_s, nm_eq, pr2_e, cnul_0, cnul_1, drf_1, sm_1, sm_2, aI_e, aJ_e, wI_e, wJ_e, aL_e, cpI_e, cpJ_e, Nat.reduceLeDiff, Nat.reduceEqDiff, Nat.add_left_cancel_iff, ad0, ad1, false_and, and_false, true_and, and_true, reduceIte, if_true, if_false, zb0, zb1, Int32.reduceLT, Int32.reduceLE, i10, nw1, nw2, nt1, nt2, not_true_eq_false, not_false_eq_true, mt_0, mt_1, mt_2, mt_3, ml_3, mt_4, ml_4, mt_5, mt_6, ml_6, mt_7, ml_7, mt_8, ml_8, mt_9, mt_10, ml_10, mt_11, ml_11, mt_12, ml_12, mt_13, mt_14, ml_14, mt_15, ml_15, mt_16, ml_16, mt_17, mt_18, ml_18, mt_19, mt_20, ml_20, mt_21, mt_22, ml_22, mt_23, mt_24, ml_24, mt_25, mt_26, ml_26, mt_53, mt_54, ml_54, mt_55, ml_55, mt_56, mt_57, ml_57, mt_58, ml_58, mt_59, mt_60, ml_60, mt_61, mt_62, ml_62, mt_63, ml_63, mt_64, mt_65, ml_65, mt_66, mt_67, ml_67, mt_68, mt_69, ml_69, mt_70, mt_71, ml_71, mt_72, mt_73, ml_73, mt_74, mt_75, ml_75, mt_76, mt_77, ml_77, gP_0_0, gP_0_1, gP_0_4, gP_0_5, gP_0_6, gP_0_7, gP_0_8, gP_0_9, gP_1_0, gP_1_1, gP_1_4, gP_1_5, gP_1_6, gP_2_0, gP_5_1, gP_5_2, gP_5_3, gP_9_1, gP_9_2, gP_9_3, gP_13_1, gP_13_2, gP_13_3, gP_17_3, gP_19_3, gP_21_3, gP_23_3, gP_25_3, gP_53_0, gP_53_6, gP_56_0, gP_59_0, gP_61_3, gP_64_0, gP_66_2, gP_68_2, gP_70_2, gP_72_2, gP_74_2, gP_76_2, aP_4, mtw_4, mtl_4, mll_4, gPw_4, aP_58, mtw_58, mtl_58, mll_58, gPw_58, hS', x100]
        · by_cases q : i = x
          · subst q; simp only [mt_sI, mt_sJ, mt_sP, mt_rI, mt_rJ, ml_sI, ml_sJ, ml_sP, ml_rI, ml_rJ, mP_sI, mP_sJ, mP_rI, mP_rJ, SHP_sI, SHP_sJ, SHP_rI, SHP_rJ, mI_sI, mI_rI, mI_sJ, mI_rJ, mI_sP, mJ_sI, mJ_rI, mJ_sP, mJ_sJ, mJ_rJ, gI_e, pI_e, ck_e, bnd_s, nm_eq, pr2_e, cnul_0, cnul_1, drf_1, sm_1, sm_2, aI_e, aJ_e, wI_e, wJ_e, aL_e, cpI_e, cpJ_e, Nat.reduceLeDiff, Nat.reduceEqDiff, Nat.add_left_cancel_iff, ad0, ad1, false_and, and_false, true_and, and_true, reduceIte, if_true, if_false, zb0, zb1, Int32.reduceLT, Int32.reduceLE, i10, nw1, nw2, nt1, nt2, not_true_eq_false, not_false_eq_true]; rfl
          · simp only [q, mt_sI, mt_sJ, mt_sP, mt_rI, mt_rJ, ml_sI, ml_sJ, ml_sP, ml_rI, ml_rJ, mP_sI, mP_sJ, mP_rI, mP_rJ, SHP_sI, SHP_sJ, SHP_rI, SHP_rJ, mI_sI, mI_rI, mI_sJ, mI_rJ, mI_sP, mJ_sI, mJ_rI, mJ_sP, mJ_sJ, mJ_rJ, gI_e, pI_e, ck_e, bnd_s, nm_eq, pr2_e, cnul_0, cnul_1, drf_1, sm_1, sm_2, aI_e, aJ_e, wI_e, wJ_e, aL_e, cpI_e, cpJ_e, Nat.reduceLeDiff, Nat.reduceEqDiff, Nat.add_left_cancel_iff, ad0, ad1, false_and, and_false, true_and, and_true, reduceIte, if_true, if_false, zb0, zb1, Int32.reduceLT, Int32.reduceLE, i10, nw1, nw2, nt1, nt2, not_true_eq_false, not_false_eq_true]; exact g2 i (by omega)) (by decide)
  obtain ⟨r, h1, h2⟩ := loop
  refine ⟨r, ?_, h2⟩
  unfold fn_X8_fitAll
  rw [bnd_e h1]
/-! the reference -/
theorem MW.wtz {j r : Nat} {x : Int32} {Z : Nat → Nat → Prop} (h : MW M o G w) (hp : p < w) (hj : (j = 3 ∧ r = 81) ∨ (j = 4 ∧ r = 82)) (hs : SQ M N o Z) (hz : ∀ a k, Z a k → scr a k = true ∨ (a = r ∧ k = p)) (hx : mI N (o + r) p = x) : MW N o (Gu G j p x) w := by
  obtain ⟨h1, ⟨h2, h2'⟩, h3, h4⟩ := h
  have e : ∀ a k, scr a k = false → ¬ (a = r ∧ k = p) → mI N (o + a) k = mI M (o + a) k := fun a k q1 q2 => hs.2.2.2.2 a k fun z => by
    rcases hz a k z with z | z
    · rw [z] at q1; cases q1
    · exact q2 z
  have zf : ∀ a k, fx a k = true → mI N (o + a) k = mI M (o + a) k := fun a k q => e a k (fx_scr q) fun z => by
    obtain ⟨rfl, rfl⟩ := z
    rcases hj with ⟨_, rfl⟩ | ⟨_, rfl⟩ <;> (revert q; unfold fx; simp)
  have hp5 : p < dm j := by
    rcases hj with ⟨rfl, _⟩ | ⟨rfl, _⟩
    · show p < 5; omega
    · show p < 5; omega
  have s8 : ∀ k, scr 80 k = false ∧ scr 81 k = false ∧ scr 82 k = false ∧ scr 83 k = false := fun k => by unfold scr; simp
  refine ⟨hs.shp h1, ⟨(e 78 0 (by decide) (by omega)).trans h2, h2'⟩, fun q hq => ?_, h4.fr hs.1 hs.2.1 hs.2.2.1 zf (Gu_br (by omega) (by omega) hp5)⟩
  obtain ⟨g1, g2, g3, g4⟩ := h3 q hq
  refine ⟨?_, ?_, ?_, fun r' hr => ?_⟩
  · rw [Gu_j (by omega)]; exact (e 80 q (s8 q).1 (by omega)).trans g1
  · by_cases z : j = 3 ∧ q = p
    · obtain ⟨rfl, rfl⟩ := z
      rw [Gu_eq]
      rcases hj with ⟨_, rfl⟩ | ⟨z, _⟩
      · exact hx
      · omega
    · rw [Gu_ne (by omega)]; exact (e 81 q (s8 q).2.1 (by omega)).trans g2
  · by_cases z : j = 4 ∧ q = p
    · obtain ⟨rfl, rfl⟩ := z
      rw [Gu_eq]
      rcases hj with ⟨z, _⟩ | ⟨_, rfl⟩
      · omega
      · exact hx
    · rw [Gu_ne (by omega)]; exact (e 82 q (s8 q).2.2.1 (by omega)).trans g3
  · rw [Gu_j (by omega)]; exact (e 83 _ (s8 _).2.2.2 (by omega)).trans (g4 r' hr)
/-- what was asked is gone: what is left -/
theorem back_z (hS : SHP M o) (s1 : SQ M M1 o Zs) (s2 : ∀ c, c < 16 → mI M1 (o + 97) c = mI M (o + 79) c) (s3 : mI M1 (o + 78) 30 = mI M (o + 78) 1) {Z : Nat → Nat → Prop} (h : SQ M1 N o Z) (hz2 : ∀ k, k < 16 → ¬ Z 97 k) (hz3 : ¬ Z 78 30) : ∃ N1, fn_X9_putBack N (o + 78) = some N1 ∧ SQ M N1 o (fun a k => Zs a k ∨ (Z a k ∧ ¬ Zb a k)) := by
  obtain ⟨N1, p1, p2, p3, p4⟩ := putBack_m (h.shp (s1.shp hS))
  refine ⟨N1, p1, (p2.1.trans h.1).trans s1.1, (p2.2.1.trans h.2.1).trans s1.2.1, fun a k => ((p2.2.2.1 a k).trans (h.2.2.1 a k)).trans (s1.2.2.1 a k), fun a k => ((p2.2.2.2.1 a k).trans (h.2.2.2.1 a k)).trans (s1.2.2.2.1 a k), fun a k q => ?_⟩
  by_cases e1 : a = 79 ∧ k < 16
  · obtain ⟨rfl, e2⟩ := e1
    exact ((p3 k e2).trans (h.2.2.2.2 97 k (hz2 k e2))).trans (s2 k e2)
  · by_cases e2 : a = 78 ∧ k = 1
    · obtain ⟨rfl, rfl⟩ := e2
      exact (p4.trans (h.2.2.2.2 78 30 hz3)).trans s3
    · have nb : ¬ Zb a k := by unfold Zb; omega
      exact ((p2.2.2.2.2 a k nb).trans (h.2.2.2.2 a k fun z => q (Or.inr ⟨z, nb⟩))).trans (s1.2.2.2.2 a k fun z => q (Or.inl z))
/-- strengths of row k laid into place -/
def Zl : Nat → Nat → Prop := fun a _ => a = 101
theorem then26_m (hS : SHP M o) {k : Nat} (k5 : k < 5) (hT : ∀ c, c < 16 → mI M (o + 79) c = T c) : ∃ M1, itr (fun s26 : Int32 × QM => lp_X9_layThen_26 (o + 78) (nI k) s26.1 s26.2) FU (0, M) = some M1 ∧ SQ M M1 o Zl ∧ (∀ c, c < 16 → mI M1 (o + 101) (16 * k + c) = T c) ∧ ∀ j, (j < 16 * k ∨ 16 * k + 16 ≤ j) → mI M1 (o + 101) j = mI M (o + 101) j := by
  have loop := itr_J (f := fun s26 : Int32 × QM => lp_X9_layThen_26 (o + 78) (nI k) s26.1 s26.2) (s0 := (0, M)) (fun c z => c ≤ 16 ∧ ∃ Mw, z = (nI c, Mw) ∧ SQ M Mw o Zl ∧ (∀ i, i < c → mI Mw (o + 101) (16 * k + i) = T i) ∧ ∀ j, (j < 16 * k ∨ 16 * k + 16 ≤ j) → mI Mw (o + 101) j = mI M (o + 101) j) (fun M1 => SQ M M1 o Zl ∧ (∀ c, c < 16 → mI M1 (o + 101) (16 * k + c) = T c) ∧ ∀ j, (j < 16 * k ∨ 16 * k + 16 ≤ j) → mI M1 (o + 101) j = mI M (o + 101) j) 16
    ⟨Nat.zero_le _, M, rfl, SQ.rfl, fun j hj => absurd hj (Nat.not_lt_zero _), fun _ _ => rfl⟩
    (fun c z hz => by
      obtain ⟨hc, Mw, rfl, g1, g2, g3⟩ := hz
      have hS' := g1.shp hS
      show (∃ r, lp_X9_layThen_26 (o + 78) (nI k) (nI c) Mw = some (.inr r) ∧ _) ∨ _ ∧ ∃ s', lp_X9_layThen_26 (o + 78) (nI k) (nI c) Mw = some (.inl s') ∧ _
      by_cases e : c = 16
      · left
        subst e
        refine ⟨Mw, ?_, g1, g2, g3⟩
        unfold lp_X9_layThen_26
        rw [if_pos (by decide)]
      · right
        have hc' : c < 16 := by omega
        have f1 := n16 hc'
        have r1 : mI Mw (o + 79) c = T c := (g1.2.2.2.2 79 c (by unfold Zl; omega)).trans (hT c hc')
        have e1 : (16 : Int32) * nI k + nI c = nI (16 * k + c) := by rw [show (16 : Int32) * nI k = nI (16 * k) from nI_mul 16 k, nI_add]
        have i80 : 16 * k + c < 80 := by omega
        refine ⟨hc', (nI (c + 1), sI Mw (o + 101) (16 * k + c) (T c)), ?_, by omega, _, rfl, g1.sI rfl, fun j hj => ?_, fun j hj => ?_⟩
        · simp only [lp_X9_layThen_26, f1, r1, e1, nI_1, mt_sI, mt_sJ, mt_sP, mt_rI, mt_rJ, ml_sI, ml_sJ, ml_sP, ml_rI, ml_rJ, mP_sI, mP_sJ, mP_rI, mP_rJ, SHP_sI, SHP_sJ, SHP_rI, SHP_rJ, mI_sI, mI_rI, mI_sJ, mI_rJ, mI_sP, mJ_sI, mJ_rI, mJ_sP, mJ_sJ, mJ_rJ, gI_e, pI_e, ck_e, bnd_s, nm_eq, pr2_e, cnul_0, cnul_1, drf_1, sm_1, sm_2, aI_e, aJ_e, wI_e, wJ_e, aL_e, cpI_e, cpJ_e, Nat.reduceLeDiff, Nat.reduceEqDiff, Nat.add_left_cancel_iff, ad0, ad1, false_and, and_false, true_and, and_true, reduceIte, if_true, if_false, zb0, zb1, Int32.reduceLT, Int32.reduceLE, i10, nw1, nw2, nt1, nt2, not_true_eq_false, not_false_eq_true, mt_78, mt_79, ml_79, mt_80, ml_80, mt_81, ml_81, mt_82, ml_82, mt_83, ml_83, mt_84, ml_84, mt_85, ml_85, mt_86, ml_86, mt_87, ml_87, mt_88, ml_88, mt_89, ml_89, mt_90, ml_90, mt_91, ml_91, mt_92, ml_92, mt_93, ml_93, mt_94, ml_94, mt_95, ml_95, mt_96, ml_96, mt_97, ml_97, mt_98, ml_98, mt_99, ml_99, mt_100, ml_100, mt_101, ml_101, mt_102, ml_102, mt_103, ml_103, mt_104, ml_104, mt_105, ml_105, mt_106, ml_106, mt_107, ml_107, mt_108, ml_108, mt_109, ml_109, mt_110, ml_110, mt_111, ml_111, mt_112, ml_112, mt_113, ml_113, mt_114, ml_114, mt_115, ml_115, mt_116, ml_116, mt_117, ml_117, mt_118, ml_118, mt_119, ml_119, mt_120, ml_120, mt_121, ml_121, mt_122, ml_122, mt_123, ml_123, gP_78_2, gP_78_3, gP_78_4, gP_78_5, gP_78_6, gP_78_12, gP_78_13, gP_78_14, gP_78_15, gP_78_16, gP_78_17, gP_78_18, gP_78_19, gP_78_23, gP_78_24, gP_78_26, gP_78_27, gP_78_28, gP_78_31, gP_78_32, gP_78_34, gP_78_35, gP_78_36, gP_78_37, gP_78_40, gP_78_41, gP_78_42, gP_78_43, gP_78_52, gP_78_53, gP_78_54, gP_78_55, gP_78_56, gP_78_57, gP_78_58, gP_78_59, gP_78_60, gP_78_61, gP_78_62, gP_78_63, gP_78_65, gP_78_66, gP_78_67, gP_78_68, gP_78_69, hS', hc', i80]
        · rw [mI_sI]
          by_cases q : j = c
          · rw [if_pos ⟨rfl, by omega⟩, q]
          · rw [if_neg (by omega)]; exact g2 j (by omega)
        · rw [mI_sI, if_neg (by omega)]; exact g3 j hj) (by decide)
  obtain ⟨r, h1, h2⟩ := loop
  exact ⟨r, h1, h2⟩
set_option maxHeartbeats 2000000 in
theorem layThen_m (h : RR M o G) (hF : FV (G 0) m M o) (m1 : m ≤ 9999) : ∃ M1, fn_X9_layThen M (o + 78) = some M1 ∧ SC M M1 o ∧ ∀ k, k < gN G 1 3 → ∀ c, c < 16 → mI M1 (o + 101) (16 * k + c) = seS G m k c := by
  obtain ⟨n, n1, n2, n3⟩ := h.2.sc 3 (by decide)
  have n1' : n ≤ 5 := n1
  have loop := itr_J (f := fun s2 : Int32 × QM => lp_X9_layThen_2 (o + 78) s2.1 s2.2) (s0 := (0, M)) (fun k z => k ≤ n ∧ ∃ Mw, z = (nI k, Mw) ∧ SC M Mw o ∧ ∀ i, i < k → ∀ c, c < 16 → mI Mw (o + 101) (16 * i + c) = seS G m i c) (fun M1 => SC M M1 o ∧ ∀ k, k < n → ∀ c, c < 16 → mI M1 (o + 101) (16 * k + c) = seS G m k c) 5
    ⟨Nat.zero_le _, M, rfl, SQ.rfl, fun i hi => absurd hi (Nat.not_lt_zero _)⟩
    (fun k z hz => by
      obtain ⟨hk, Mw, rfl, g1, g2⟩ := hz
      have h' := h.scr g1
      have hS := h'.1.1
      have sz := (h'.m (Lv_1 (i := 3) (by decide)) (a := 78) (i := 33) rfl).trans n2
      show (∃ r, lp_X9_layThen_2 (o + 78) (nI k) Mw = some (.inr r) ∧ _) ∨ _ ∧ ∃ s', lp_X9_layThen_2 (o + 78) (nI k) Mw = some (.inl s') ∧ _
      by_cases e : k = n
      · left
        subst e
        have f1 : nI k ≤ nI k := nI_le (Nat.le_refl _) (by omega)
        refine ⟨Mw, ?_, g1, g2⟩
        simp only [lp_X9_layThen_2, sz, f1, mt_sI, mt_sJ, mt_sP, mt_rI, mt_rJ, ml_sI, ml_sJ, ml_sP, ml_rI, ml_rJ, mP_sI, mP_sJ, mP_rI, mP_rJ, SHP_sI, SHP_sJ, SHP_rI, SHP_rJ, mI_sI, mI_rI, mI_sJ, mI_rJ, mI_sP, mJ_sI, mJ_rI, mJ_sP, mJ_sJ, mJ_rJ, gI_e, pI_e, ck_e, bnd_s, nm_eq, pr2_e, cnul_0, cnul_1, drf_1, sm_1, sm_2, aI_e, aJ_e, wI_e, wJ_e, aL_e, cpI_e, cpJ_e, Nat.reduceLeDiff, Nat.reduceEqDiff, Nat.add_left_cancel_iff, ad0, ad1, false_and, and_false, true_and, and_true, reduceIte, if_true, if_false, zb0, zb1, Int32.reduceLT, Int32.reduceLE, i10, nw1, nw2, nt1, nt2, not_true_eq_false, not_false_eq_true, mt_78, mt_79, ml_79, mt_80, ml_80, mt_81, ml_81, mt_82, ml_82, mt_83, ml_83, mt_84, ml_84, mt_85, ml_85, mt_86, ml_86, mt_87, ml_87, mt_88, ml_88, mt_89, ml_89, mt_90, ml_90, mt_91, ml_91, mt_92, ml_92, mt_93, ml_93, mt_94, ml_94, mt_95, ml_95, mt_96, ml_96, mt_97, ml_97, mt_98, ml_98, mt_99, ml_99, mt_100, ml_100, mt_101, ml_101, mt_102, ml_102, mt_103, ml_103, mt_104, ml_104, mt_105, ml_105, mt_106, ml_106, mt_107, ml_107, mt_108, ml_108, mt_109, ml_109, mt_110, ml_110, mt_111, ml_111, mt_112, ml_112, mt_113, ml_113, mt_114, ml_114, mt_115, ml_115, mt_116, ml_116, mt_117, ml_117, mt_118, ml_118, mt_119, ml_119, mt_120, ml_120, mt_121, ml_121, mt_122, ml_122, mt_123, ml_123, gP_78_2, gP_78_3, gP_78_4, gP_78_5, gP_78_6, gP_78_12, gP_78_13, gP_78_14, gP_78_15, gP_78_16, gP_78_17, gP_78_18, gP_78_19, gP_78_23, gP_78_24, gP_78_26, gP_78_27, gP_78_28, gP_78_31, gP_78_32, gP_78_34, gP_78_35, gP_78_36, gP_78_37, gP_78_40, gP_78_41, gP_78_42, gP_78_43, gP_78_52, gP_78_53, gP_78_54, gP_78_55, gP_78_56, gP_78_57, gP_78_58, gP_78_59, gP_78_60, gP_78_61, gP_78_62, gP_78_63, gP_78_65, gP_78_66, gP_78_67, gP_78_68, gP_78_69, hS]
      · right
        have hk' : k < n := by omega
        have f1 : ¬ nI n ≤ nI k := by rw [nI_leI (by omega) (by omega)]; omega
        obtain ⟨k5, l6, l7, l8, q6, q6', q7, q7', q8⟩ := se_row h (k := k) (by rw [n3]; exact hk')
        have hF' : FV (G 0) m Mw o := hF.s g1 (fun c _ => by show ¬ scr 79 c = true; unfold scr; simp) (by decide)
        obtain ⟨M1, c1, c2, c3, c4⟩ := save_m hS
        have mw1 := h'.mw.sc (c2.mono Zs_scr)
        have hS1 := mw1.1
        have hF1 : FV (G 0) m M1 o := hF'.s c2 (fun c _ => by unfold Zs; omega) (by unfold Zs; omega)
        have r7 : mI M1 (o + 100) k = nI (gN G 7 k) := ((c2.2.2.2.2 100 k (by unfold Zs; omega)).trans (h'.m l7 (a := 100) (i := k) rfl)).trans q7
        obtain ⟨M2, d1, d2, d3⟩ := goMinutes_m (n := gN G 7 k) mw1 hF1 (by omega) (by omega)
        have hS2 := d2.shp hS1
        obtain ⟨M3, e1, e2, e3, e4⟩ := then26_m hS2 k5 d3.1
        have sq3 : SQ M1 M3 o (fun a k => Zm a k ∨ Zl a k) := (d2.mono fun a k q => Or.inl q).trans (e2.mono fun a k q => Or.inr q)
        obtain ⟨M4, f2, f3⟩ := back_z hS c2 c3 c4 sq3 (fun k _ => by unfold Zm ZB Zl; omega) (by unfold Zm ZB Zl; omega)
        have hS3 := e2.shp hS2
        have cl : ∀ a k, (Zs a k ∨ ((Zm a k ∨ Zl a k) ∧ ¬ Zb a k)) → scr a k = true := by
          intro a k q
          rcases q with q | ⟨q | q, q2⟩
          · exact Zs_scr a k q
          · rcases Zm_b a k q with z | z
            · exact z
            · exact absurd z q2
          · rw [show a = 101 from q]; rfl
        have k101 : ∀ j, mI M4 (o + 101) j = mI M3 (o + 101) j := by
          intro j
          -- putBack leaves it alone
          obtain ⟨N1, p1, p2, p3, p4⟩ := putBack_m hS3
          rw [p1] at f2
          cases f2
          exact p2.2.2.2.2 101 j (by unfold Zb; omega)
        refine ⟨by omega, (nI (k + 1), M4), ?_, by omega, M4, rfl, g1.trans (f3.mono cl), fun i hi c hc => ?_⟩
        · simp only [lp_X9_layThen_2, sz, f1, c1, r7, d1, e1, f2, nI_1, mt_sI, mt_sJ, mt_sP, mt_rI, mt_rJ, ml_sI, ml_sJ, ml_sP, ml_rI, ml_rJ, mP_sI, mP_sJ, mP_rI, mP_rJ, SHP_sI, SHP_sJ, SHP_rI, SHP_rJ, mI_sI, mI_rI, mI_sJ, mI_rJ, mI_sP, mJ_sI, mJ_rI, mJ_sP, mJ_sJ, mJ_rJ, gI_e, pI_e, ck_e, bnd_s, nm_eq, pr2_e, cnul_0, cnul_1, drf_1, sm_1, sm_2, aI_e, aJ_e, wI_e, wJ_e, aL_e, cpI_e, cpJ_e, Nat.reduceLeDiff, Nat.reduceEqDiff, Nat.add_left_cancel_iff, ad0, ad1, false_and, and_false, true_and, and_true, reduceIte, if_true, if_false, zb0, zb1, Int32.reduceLT, Int32.reduceLE, i10, nw1, nw2, nt1, nt2, not_true_eq_false, not_false_eq_true, mt_78, mt_79, ml_79, mt_80, ml_80, mt_81, ml_81, mt_82, ml_82, mt_83, ml_83, mt_84, ml_84, mt_85, ml_85, mt_86, ml_86, mt_87, ml_87, mt_88, ml_88, mt_89, ml_89, mt_90, ml_90, mt_91, ml_91, mt_92, ml_92, mt_93, ml_93, mt_94, ml_94, mt_95, ml_95, mt_96, ml_96, mt_97, ml_97, mt_98, ml_98, mt_99, ml_99, mt_100, ml_100, mt_101, ml_101, mt_102, ml_102, mt_103, ml_103, mt_104, ml_104, mt_105, ml_105, mt_106, ml_106, mt_107, ml_107, mt_108, ml_108, mt_109, ml_109, mt_110, ml_110, mt_111, ml_111, mt_112, ml_112, mt_113, ml_113, mt_114, ml_114, mt_115, ml_115, mt_116, ml_116, mt_117, ml_117, mt_118, ml_118, mt_119, ml_119, mt_120, ml_120, mt_121, ml_121, mt_122, ml_122, mt_123, ml_123, gP_78_2, gP_78_3, gP_78_4, gP_78_5, gP_78_6, gP_78_12, gP_78_13, gP_78_14, gP_78_15, gP_78_16, gP_78_17, gP_78_18, gP_78_19, gP_78_23, gP_78_24, gP_78_26, gP_78_27, gP_78_28, gP_78_31, gP_78_32, gP_78_34, gP_78_35, gP_78_36, gP_78_37, gP_78_40, gP_78_41, gP_78_42, gP_78_43, gP_78_52, gP_78_53, gP_78_54, gP_78_55, gP_78_56, gP_78_57, gP_78_58, gP_78_59, gP_78_60, gP_78_61, gP_78_62, gP_78_63, gP_78_65, gP_78_66, gP_78_67, gP_78_68, gP_78_69, hS, hS1, hS2, hS3, k5]
        · rw [k101]
          by_cases q : i = k
          · subst q; exact e3 c hc
          · rw [e4 _ (by omega)]
            refine ((d2.2.2.2.2 101 _ (by unfold Zm ZB; omega)).trans (c2.2.2.2.2 101 _ (by unfold Zs; omega))).trans (g2 i (by omega) c hc)) (by decide)
  obtain ⟨r, h1, h2, h3⟩ := loop
  refine ⟨r, ?_, h2, ?_⟩
  · unfold fn_X9_layThen
    rw [bnd_e h1]
  · rw [n3]; exact h3
theorem seen22_m (hS : SHP M o) {k : Nat} (k5 : k < 5) (hT : ∀ c, c < 16 → mI M (o + 101) (16 * k + c) = T c) : ∃ M1, itr (fun s22 : Int32 × QM => lp_X9_isSeen_22 (o + 78) (nI k) s22.1 s22.2) FU (0, M) = some M1 ∧ SQ M M1 o Z79 ∧ ∀ c, c < 16 → mI M1 (o + 79) c = T c := by
  have loop := itr_J (f := fun s22 : Int32 × QM => lp_X9_isSeen_22 (o + 78) (nI k) s22.1 s22.2) (s0 := (0, M)) (fun c z => c ≤ 16 ∧ ∃ Mw, z = (nI c, Mw) ∧ SQ M Mw o Z79 ∧ ∀ i, i < c → mI Mw (o + 79) i = T i) (fun M1 => SQ M M1 o Z79 ∧ ∀ c, c < 16 → mI M1 (o + 79) c = T c) 16
    ⟨Nat.zero_le _, M, rfl, SQ.rfl, fun j hj => absurd hj (Nat.not_lt_zero _)⟩
    (fun c z hz => by
      obtain ⟨hc, Mw, rfl, g1, g2⟩ := hz
      have hS' := g1.shp hS
      show (∃ r, lp_X9_isSeen_22 (o + 78) (nI k) (nI c) Mw = some (.inr r) ∧ _) ∨ _ ∧ ∃ s', lp_X9_isSeen_22 (o + 78) (nI k) (nI c) Mw = some (.inl s') ∧ _
      by_cases e : c = 16
      · left
        subst e
        refine ⟨Mw, ?_, g1, g2⟩
        unfold lp_X9_isSeen_22
        rw [if_pos (by decide)]
      · right
        have hc' : c < 16 := by omega
        have f1 := n16 hc'
        have r1 : mI Mw (o + 101) (16 * k + c) = T c := (g1.2.2.2.2 101 _ (by unfold Z79; omega)).trans (hT c hc')
        have e1 : (16 : Int32) * nI k + nI c = nI (16 * k + c) := by rw [show (16 : Int32) * nI k = nI (16 * k) from nI_mul 16 k, nI_add]
        have i80 : 16 * k + c < 80 := by omega
        refine ⟨hc', (nI (c + 1), sI Mw (o + 79) c (T c)), ?_, by omega, _, rfl, g1.sI ⟨rfl, hc'⟩, fun j hj => ?_⟩
        · simp only [lp_X9_isSeen_22, f1, r1, e1, nI_1, mt_sI, mt_sJ, mt_sP, mt_rI, mt_rJ, ml_sI, ml_sJ, ml_sP, ml_rI, ml_rJ, mP_sI, mP_sJ, mP_rI, mP_rJ, SHP_sI, SHP_sJ, SHP_rI, SHP_rJ, mI_sI, mI_rI, mI_sJ, mI_rJ, mI_sP, mJ_sI, mJ_rI, mJ_sP, mJ_sJ, mJ_rJ, gI_e, pI_e, ck_e, bnd_s, nm_eq, pr2_e, cnul_0, cnul_1, drf_1, sm_1, sm_2, aI_e, aJ_e, wI_e, wJ_e, aL_e, cpI_e, cpJ_e, Nat.reduceLeDiff, Nat.reduceEqDiff, Nat.add_left_cancel_iff, ad0, ad1, false_and, and_false, true_and, and_true, reduceIte, if_true, if_false, zb0, zb1, Int32.reduceLT, Int32.reduceLE, i10, nw1, nw2, nt1, nt2, not_true_eq_false, not_false_eq_true, mt_78, mt_79, ml_79, mt_80, ml_80, mt_81, ml_81, mt_82, ml_82, mt_83, ml_83, mt_84, ml_84, mt_85, ml_85, mt_86, ml_86, mt_87, ml_87, mt_88, ml_88, mt_89, ml_89, mt_90, ml_90, mt_91, ml_91, mt_92, ml_92, mt_93, ml_93, mt_94, ml_94, mt_95, ml_95, mt_96, ml_96, mt_97, ml_97, mt_98, ml_98, mt_99, ml_99, mt_100, ml_100, mt_101, ml_101, mt_102, ml_102, mt_103, ml_103, mt_104, ml_104, mt_105, ml_105, mt_106, ml_106, mt_107, ml_107, mt_108, ml_108, mt_109, ml_109, mt_110, ml_110, mt_111, ml_111, mt_112, ml_112, mt_113, ml_113, mt_114, ml_114, mt_115, ml_115, mt_116, ml_116, mt_117, ml_117, mt_118, ml_118, mt_119, ml_119, mt_120, ml_120, mt_121, ml_121, mt_122, ml_122, mt_123, ml_123, gP_78_2, gP_78_3, gP_78_4, gP_78_5, gP_78_6, gP_78_12, gP_78_13, gP_78_14, gP_78_15, gP_78_16, gP_78_17, gP_78_18, gP_78_19, gP_78_23, gP_78_24, gP_78_26, gP_78_27, gP_78_28, gP_78_31, gP_78_32, gP_78_34, gP_78_35, gP_78_36, gP_78_37, gP_78_40, gP_78_41, gP_78_42, gP_78_43, gP_78_52, gP_78_53, gP_78_54, gP_78_55, gP_78_56, gP_78_57, gP_78_58, gP_78_59, gP_78_60, gP_78_61, gP_78_62, gP_78_63, gP_78_65, gP_78_66, gP_78_67, gP_78_68, gP_78_69, hS', hc', i80]
        · by_cases q : j = c
          · subst q; simp only [mt_sI, mt_sJ, mt_sP, mt_rI, mt_rJ, ml_sI, ml_sJ, ml_sP, ml_rI, ml_rJ, mP_sI, mP_sJ, mP_rI, mP_rJ, SHP_sI, SHP_sJ, SHP_rI, SHP_rJ, mI_sI, mI_rI, mI_sJ, mI_rJ, mI_sP, mJ_sI, mJ_rI, mJ_sP, mJ_sJ, mJ_rJ, gI_e, pI_e, ck_e, bnd_s, nm_eq, pr2_e, cnul_0, cnul_1, drf_1, sm_1, sm_2, aI_e, aJ_e, wI_e, wJ_e, aL_e, cpI_e, cpJ_e, Nat.reduceLeDiff, Nat.reduceEqDiff, Nat.add_left_cancel_iff, ad0, ad1, false_and, and_false, true_and, and_true, reduceIte, if_true, if_false, zb0, zb1, Int32.reduceLT, Int32.reduceLE, i10, nw1, nw2, nt1, nt2, not_true_eq_false, not_false_eq_true]
          · simp only [q, mt_sI, mt_sJ, mt_sP, mt_rI, mt_rJ, ml_sI, ml_sJ, ml_sP, ml_rI, ml_rJ, mP_sI, mP_sJ, mP_rI, mP_rJ, SHP_sI, SHP_sJ, SHP_rI, SHP_rJ, mI_sI, mI_rI, mI_sJ, mI_rJ, mI_sP, mJ_sI, mJ_rI, mJ_sP, mJ_sJ, mJ_rJ, gI_e, pI_e, ck_e, bnd_s, nm_eq, pr2_e, cnul_0, cnul_1, drf_1, sm_1, sm_2, aI_e, aJ_e, wI_e, wJ_e, aL_e, cpI_e, cpJ_e, Nat.reduceLeDiff, Nat.reduceEqDiff, Nat.add_left_cancel_iff, ad0, ad1, false_and, and_false, true_and, and_true, reduceIte, if_true, if_false, zb0, zb1, Int32.reduceLT, Int32.reduceLE, i10, nw1, nw2, nt1, nt2, not_true_eq_false, not_false_eq_true]; exact g2 j (by omega)) (by decide)
  obtain ⟨r, h1, h2⟩ := loop
  exact ⟨r, h1, h2⟩
def Ze : Nat → Nat → Prop := fun a k => ZB a k ∨ Zs a k
theorem Ze_scr (a k : Nat) (h : Ze a k) : scr a k = true := by
  rcases h with h | h
  · exact ZB_scr a k h
  · exact Zs_scr a k h
set_option maxHeartbeats 2000000 in
theorem isSeen_m (h : MW M o G1 w) (hm : mI M (o + 78) 1 = nI m) (m1 : m ≤ 20000) (h0 : mI M (o + 78) 25 = 0) {n : Nat} (n5 : n ≤ 5) (hn : mI M (o + 78) 33 = nI n) (hr : ∀ k, k < n → gN G 6 k < w ∧ mI M (o + 99) k = nI (gN G 6 k) ∧ mI M (o + 102) k = G 8 k ∧ (∀ c, c < 16 → mI M (o + 101) (16 * k + c) = seS G m k c) ∧ ∀ c, c < 16 → bd (seS G m k c) 99) : ∃ M1, fn_X9_isSeen M (o + 78) = some (lI (seA G G1 m n), M1) ∧ SQ M M1 o Ze := by
  have hS := h.1
  obtain ⟨M1, c1, c2, c3, c4⟩ := save_m hS
  have mw1 := h.sc (c2.mono Zs_scr)
  have loop := itr_J (f := fun s8 : Int32 × Int32 × QM => lp_X9_isSeen_8 (o + 78) s8.1 s8.2.1 s8.2.2) (s0 := (1, 0, M1)) (fun k z => k ≤ n ∧ ∃ Mw, z = (lI (seA G G1 m k), nI k, Mw) ∧ SQ M1 Mw o (fun a k => ZB a k ∨ Z79 a k)) (fun r => ∃ M2, r = (lI (seA G G1 m n), M2) ∧ SQ M1 M2 o (fun a k => ZB a k ∨ Z79 a k)) 5
    ⟨Nat.zero_le _, M1, rfl, SQ.rfl⟩
    (fun k z hz => by
      obtain ⟨hk, Mw, rfl, g1⟩ := hz
      have zz : ∀ a k, (ZB a k ∨ Z79 a k) → Zm a k := fun a k q => by rcases q with q | q; exact Or.inl q; exact Z79_Zm a k q
      have mw := mw1.zm g1 zz
      have hSw := mw.1
      have un : ∀ a k, ¬ ZB a k → ¬ Z79 a k → ¬ Zs a k → mI Mw (o + a) k = mI M (o + a) k := fun a k q1 q2 q3 => (g1.2.2.2.2 a k (fun z => by rcases z with z | z; exact q1 z; exact q2 z)).trans (c2.2.2.2.2 a k q3)
      have sz := (un 78 33 (by unfold ZB; omega) (by unfold Z79; omega) (by unfold Zs; omega)).trans hn
      show (∃ r, lp_X9_isSeen_8 (o + 78) (lI (seA G G1 m k)) (nI k) Mw = some (.inr r) ∧ _) ∨ _ ∧ ∃ s', lp_X9_isSeen_8 (o + 78) (lI (seA G G1 m k)) (nI k) Mw = some (.inl s') ∧ _
      by_cases e : k = n
      · left
        subst e
        have f1 : nI k ≤ nI k := nI_le (Nat.le_refl _) (by omega)
        exact ⟨(lI (seA G G1 m k), Mw), by simp only [lp_X9_isSeen_8, sz, f1, mt_sI, mt_sJ, mt_sP, mt_rI, mt_rJ, ml_sI, ml_sJ, ml_sP, ml_rI, ml_rJ, mP_sI, mP_sJ, mP_rI, mP_rJ, SHP_sI, SHP_sJ, SHP_rI, SHP_rJ, mI_sI, mI_rI, mI_sJ, mI_rJ, mI_sP, mJ_sI, mJ_rI, mJ_sP, mJ_sJ, mJ_rJ, gI_e, pI_e, ck_e, bnd_s, nm_eq, pr2_e, cnul_0, cnul_1, drf_1, sm_1, sm_2, aI_e, aJ_e, wI_e, wJ_e, aL_e, cpI_e, cpJ_e, Nat.reduceLeDiff, Nat.reduceEqDiff, Nat.add_left_cancel_iff, ad0, ad1, false_and, and_false, true_and, and_true, reduceIte, if_true, if_false, zb0, zb1, Int32.reduceLT, Int32.reduceLE, i10, nw1, nw2, nt1, nt2, not_true_eq_false, not_false_eq_true, mt_78, mt_79, ml_79, mt_80, ml_80, mt_81, ml_81, mt_82, ml_82, mt_83, ml_83, mt_84, ml_84, mt_85, ml_85, mt_86, ml_86, mt_87, ml_87, mt_88, ml_88, mt_89, ml_89, mt_90, ml_90, mt_91, ml_91, mt_92, ml_92, mt_93, ml_93, mt_94, ml_94, mt_95, ml_95, mt_96, ml_96, mt_97, ml_97, mt_98, ml_98, mt_99, ml_99, mt_100, ml_100, mt_101, ml_101, mt_102, ml_102, mt_103, ml_103, mt_104, ml_104, mt_105, ml_105, mt_106, ml_106, mt_107, ml_107, mt_108, ml_108, mt_109, ml_109, mt_110, ml_110, mt_111, ml_111, mt_112, ml_112, mt_113, ml_113, mt_114, ml_114, mt_115, ml_115, mt_116, ml_116, mt_117, ml_117, mt_118, ml_118, mt_119, ml_119, mt_120, ml_120, mt_121, ml_121, mt_122, ml_122, mt_123, ml_123, gP_78_2, gP_78_3, gP_78_4, gP_78_5, gP_78_6, gP_78_12, gP_78_13, gP_78_14, gP_78_15, gP_78_16, gP_78_17, gP_78_18, gP_78_19, gP_78_23, gP_78_24, gP_78_26, gP_78_27, gP_78_28, gP_78_31, gP_78_32, gP_78_34, gP_78_35, gP_78_36, gP_78_37, gP_78_40, gP_78_41, gP_78_42, gP_78_43, gP_78_52, gP_78_53, gP_78_54, gP_78_55, gP_78_56, gP_78_57, gP_78_58, gP_78_59, gP_78_60, gP_78_61, gP_78_62, gP_78_63, gP_78_65, gP_78_66, gP_78_67, gP_78_68, gP_78_69, hSw], Mw, rfl, g1⟩
      · have hk' : k < n := by omega
        have f1 : ¬ nI n ≤ nI k := by rw [nI_leI (by omega) (by omega)]; omega
        cases ea : seA G G1 m k with
        | false =>
          left
          have an : ∀ i, k ≤ i → seA G G1 m i = false := by
            intro i
            induction i with
            | zero => intro q; have : k = 0 := by omega
                      subst this; exact ea
            | succ i ih =>
              intro q
              by_cases z : k = i + 1
              · subst z; exact ea
              · show (seA G G1 m i && _) = false
                rw [ih (by omega)]; rfl
          exact ⟨(0, Mw), by simp only [lp_X9_isSeen_8, sz, f1, lI_f, mt_sI, mt_sJ, mt_sP, mt_rI, mt_rJ, ml_sI, ml_sJ, ml_sP, ml_rI, ml_rJ, mP_sI, mP_sJ, mP_rI, mP_rJ, SHP_sI, SHP_sJ, SHP_rI, SHP_rJ, mI_sI, mI_rI, mI_sJ, mI_rJ, mI_sP, mJ_sI, mJ_rI, mJ_sP, mJ_sJ, mJ_rJ, gI_e, pI_e, ck_e, bnd_s, nm_eq, pr2_e, cnul_0, cnul_1, drf_1, sm_1, sm_2, aI_e, aJ_e, wI_e, wJ_e, aL_e, cpI_e, cpJ_e, Nat.reduceLeDiff, Nat.reduceEqDiff, Nat.add_left_cancel_iff, ad0, ad1, false_and, and_false, true_and, and_true, reduceIte, if_true, if_false, zb0, zb1, Int32.reduceLT, Int32.reduceLE, i10, nw1, nw2, nt1, nt2, not_true_eq_false, not_false_eq_true, mt_78, mt_79, ml_79, mt_80, ml_80, mt_81, ml_81, mt_82, ml_82, mt_83, ml_83, mt_84, ml_84, mt_85, ml_85, mt_86, ml_86, mt_87, ml_87, mt_88, ml_88, mt_89, ml_89, mt_90, ml_90, mt_91, ml_91, mt_92, ml_92, mt_93, ml_93, mt_94, ml_94, mt_95, ml_95, mt_96, ml_96, mt_97, ml_97, mt_98, ml_98, mt_99, ml_99, mt_100, ml_100, mt_101, ml_101, mt_102, ml_102, mt_103, ml_103, mt_104, ml_104, mt_105, ml_105, mt_106, ml_106, mt_107, ml_107, mt_108, ml_108, mt_109, ml_109, mt_110, ml_110, mt_111, ml_111, mt_112, ml_112, mt_113, ml_113, mt_114, ml_114, mt_115, ml_115, mt_116, ml_116, mt_117, ml_117, mt_118, ml_118, mt_119, ml_119, mt_120, ml_120, mt_121, ml_121, mt_122, ml_122, mt_123, ml_123, gP_78_2, gP_78_3, gP_78_4, gP_78_5, gP_78_6, gP_78_12, gP_78_13, gP_78_14, gP_78_15, gP_78_16, gP_78_17, gP_78_18, gP_78_19, gP_78_23, gP_78_24, gP_78_26, gP_78_27, gP_78_28, gP_78_31, gP_78_32, gP_78_34, gP_78_35, gP_78_36, gP_78_37, gP_78_40, gP_78_41, gP_78_42, gP_78_43, gP_78_52, gP_78_53, gP_78_54, gP_78_55, gP_78_56, gP_78_57, gP_78_58, gP_78_59, gP_78_60, gP_78_61, gP_78_62, gP_78_63, gP_78_65, gP_78_66, gP_78_67, gP_78_68, gP_78_69, hSw], Mw, by rw [an n (by omega)]; rfl, g1⟩
        | true =>
          right
          obtain ⟨r1, r2, r3, r4, r5⟩ := hr k hk'
          have k5 : k < 5 := by omega
          obtain ⟨M2, d1, d2, d3⟩ := seen22_m hSw k5 (fun c hc => (un 101 _ (by unfold ZB; omega) (by unfold Z79; omega) (by unfold Zs; omega)).trans (r4 c hc))
          have mw2 := mw.zm d2 Z79_Zm
          have hS2 := mw2.1
          have sq2 : SQ M1 M2 o (fun a k => ZB a k ∨ Z79 a k) := g1.trans (d2.mono fun a k q => Or.inr q)
          have un2 : ∀ a k, ¬ ZB a k → ¬ Z79 a k → ¬ Zs a k → mI M2 (o + a) k = mI M (o + a) k := fun a k q1 q2 q3 => (sq2.2.2.2.2 a k (fun z => by rcases z with z | z; exact q1 z; exact q2 z)).trans (c2.2.2.2.2 a k q3)
          have hF2 : FV (seS G m k) m M2 o := ⟨d3, (un2 78 1 (by unfold ZB; omega) (by unfold Z79; omega) (by unfold Zs; omega)).trans hm, r5, m1⟩
          have w2 := (un2 99 k (by unfold ZB; omega) (by unfold Z79; omega) (by unfold Zs; omega)).trans r2
          obtain ⟨M3, e1, e2, e3⟩ := canCross_m mw2 hF2 ((un2 78 25 (by unfold ZB; omega) (by unfold Z79; omega) (by unfold Zs; omega)).trans h0) r1
          have mw3 := mw2.zm e3 ZB_Zm
          have hS3 := mw3.1
          have w3 : mI M3 (o + 102) k = G 8 k := (e3.2.2.2.2 102 k (by unfold ZB; omega)).trans ((un2 102 k (by unfold ZB; omega) (by unfold Z79; omega) (by unfold Zs; omega)).trans r3)
          have sq3 : SQ M1 M3 o (fun a k => ZB a k ∨ Z79 a k) := sq2.trans (e3.mono fun a k q => Or.inl q)
          have nx : seA G G1 m (k + 1) = seB G G1 m k := by show (seA G G1 m k && seB G G1 m k) = _; rw [ea]; rfl
          refine ⟨by omega, (lI (seA G G1 m (k + 1)), nI (k + 1), M3), ?_, by omega, M3, rfl, sq3⟩
          rw [nx]
          by_cases q : lI (crG G1 (seS G m k) (gN G 6 k)).isSome = G 8 k
          · have q2 : seB G G1 m k = true := decide_eq_true q
            rw [q2]
            simp only [lp_X9_isSeen_8, sz, f1, lI_t, d1, w2, e2, w3, q, nI_1, mt_sI, mt_sJ, mt_sP, mt_rI, mt_rJ, ml_sI, ml_sJ, ml_sP, ml_rI, ml_rJ, mP_sI, mP_sJ, mP_rI, mP_rJ, SHP_sI, SHP_sJ, SHP_rI, SHP_rJ, mI_sI, mI_rI, mI_sJ, mI_rJ, mI_sP, mJ_sI, mJ_rI, mJ_sP, mJ_sJ, mJ_rJ, gI_e, pI_e, ck_e, bnd_s, nm_eq, pr2_e, cnul_0, cnul_1, drf_1, sm_1, sm_2, aI_e, aJ_e, wI_e, wJ_e, aL_e, cpI_e, cpJ_e, Nat.reduceLeDiff, Nat.reduceEqDiff, Nat.add_left_cancel_iff, ad0, ad1, false_and, and_false, true_and, and_true, reduceIte, if_true, if_false, zb0, zb1, Int32.reduceLT, Int32.reduceLE, i10, nw1, nw2, nt1, nt2, not_true_eq_false, not_false_eq_true, mt_78, mt_79, ml_79, mt_80, ml_80, mt_81, ml_81, mt_82, ml_82, mt_83, ml_83, mt_84, ml_84, mt_85, ml_85, mt_86, ml_86, mt_87, ml_87, mt_88, ml_88, mt_89, ml_89, mt_90, ml_90, mt_91, ml_91, mt_92, ml_92, mt_93, ml_93, mt_94, ml_94, mt_95, ml_95, mt_96, ml_96, mt_97, ml_97, mt_98, ml_98, mt_99, ml_99, mt_100, ml_100, mt_101, ml_101, mt_102, ml_102, mt_103, ml_103, mt_104, ml_104, mt_105, ml_105, mt_106, ml_106, mt_107, ml_107, mt_108, ml_108, mt_109, ml_109, mt_110, ml_110, mt_111, ml_111, mt_112, ml_112, mt_113, ml_113, mt_114, ml_114, mt_115, ml_115, mt_116, ml_116, mt_117, ml_117, mt_118, ml_118, mt_119, ml_119, mt_120, ml_120, mt_121, ml_121, mt_122, ml_122, mt_123, ml_123, gP_78_2, gP_78_3, gP_78_4, gP_78_5, gP_78_6, gP_78_12, gP_78_13, gP_78_14, gP_78_15, gP_78_16, gP_78_17, gP_78_18, gP_78_19, gP_78_23, gP_78_24, gP_78_26, gP_78_27, gP_78_28, gP_78_31, gP_78_32, gP_78_34, gP_78_35, gP_78_36, gP_78_37, gP_78_40, gP_78_41, gP_78_42, gP_78_43, gP_78_52, gP_78_53, gP_78_54, gP_78_55, gP_78_56, gP_78_57, gP_78_58, gP_78_59, gP_78_60, gP_78_61, gP_78_62, gP_78_63, gP_78_65, gP_78_66, gP_78_67, gP_78_68, gP_78_69, hSw, hS2, hS3, k5]
          · have q2 : seB G G1 m k = false := decide_eq_false q
            rw [q2]
            simp only [lp_X9_isSeen_8, sz, f1, lI_t, lI_f, d1, w2, e2, w3, q, nI_1, mt_sI, mt_sJ, mt_sP, mt_rI, mt_rJ, ml_sI, ml_sJ, ml_sP, ml_rI, ml_rJ, mP_sI, mP_sJ, mP_rI, mP_rJ, SHP_sI, SHP_sJ, SHP_rI, SHP_rJ, mI_sI, mI_rI, mI_sJ, mI_rJ, mI_sP, mJ_sI, mJ_rI, mJ_sP, mJ_sJ, mJ_rJ, gI_e, pI_e, ck_e, bnd_s, nm_eq, pr2_e, cnul_0, cnul_1, drf_1, sm_1, sm_2, aI_e, aJ_e, wI_e, wJ_e, aL_e, cpI_e, cpJ_e, Nat.reduceLeDiff, Nat.reduceEqDiff, Nat.add_left_cancel_iff, ad0, ad1, false_and, and_false, true_and, and_true, reduceIte, if_true, if_false, zb0, zb1, Int32.reduceLT, Int32.reduceLE, i10, nw1, nw2, nt1, nt2, not_true_eq_false, not_false_eq_true, mt_78, mt_79, ml_79, mt_80, ml_80, mt_81, ml_81, mt_82, ml_82, mt_83, ml_83, mt_84, ml_84, mt_85, ml_85, mt_86, ml_86, mt_87, ml_87, mt_88, ml_88, mt_89, ml_89, mt_90, ml_90, mt_91, ml_91, mt_92, ml_92, mt_93, ml_93, mt_94, ml_94, mt_95, ml_95, mt_96, ml_96, mt_97, ml_97, mt_98, ml_98, mt_99, ml_99, mt_100, ml_100, mt_101, ml_101, mt_102, ml_102, mt_103, ml_103, mt_104, ml_104, mt_105, ml_105, mt_106, ml_106, mt_107, ml_107, mt_108, ml_108, mt_109, ml_109, mt_110, ml_110, mt_111, ml_111, mt_112, ml_112, mt_113, ml_113, mt_114, ml_114, mt_115, ml_115, mt_116, ml_116, mt_117, ml_117, mt_118, ml_118, mt_119, ml_119, mt_120, ml_120, mt_121, ml_121, mt_122, ml_122, mt_123, ml_123, gP_78_2, gP_78_3, gP_78_4, gP_78_5, gP_78_6, gP_78_12, gP_78_13, gP_78_14, gP_78_15, gP_78_16, gP_78_17, gP_78_18, gP_78_19, gP_78_23, gP_78_24, gP_78_26, gP_78_27, gP_78_28, gP_78_31, gP_78_32, gP_78_34, gP_78_35, gP_78_36, gP_78_37, gP_78_40, gP_78_41, gP_78_42, gP_78_43, gP_78_52, gP_78_53, gP_78_54, gP_78_55, gP_78_56, gP_78_57, gP_78_58, gP_78_59, gP_78_60, gP_78_61, gP_78_62, gP_78_63, gP_78_65, gP_78_66, gP_78_67, gP_78_68, gP_78_69, hSw, hS2, hS3, k5]) (by decide)
  obtain ⟨r, h1, M2, rfl, h2⟩ := loop
  obtain ⟨M3, b1, b2⟩ := back_z hS c2 c3 c4 h2 (fun k _ => by unfold ZB Z79; omega) (by unfold ZB Z79; omega)
  have hS2 := h2.shp mw1.1
  refine ⟨M3, ?_, b2.mono fun a k q => ?_⟩
  · simp only [fn_X9_isSeen, c1, h1, b1, lI_zb, mt_sI, mt_sJ, mt_sP, mt_rI, mt_rJ, ml_sI, ml_sJ, ml_sP, ml_rI, ml_rJ, mP_sI, mP_sJ, mP_rI, mP_rJ, SHP_sI, SHP_sJ, SHP_rI, SHP_rJ, mI_sI, mI_rI, mI_sJ, mI_rJ, mI_sP, mJ_sI, mJ_rI, mJ_sP, mJ_sJ, mJ_rJ, gI_e, pI_e, ck_e, bnd_s, nm_eq, pr2_e, cnul_0, cnul_1, drf_1, sm_1, sm_2, aI_e, aJ_e, wI_e, wJ_e, aL_e, cpI_e, cpJ_e, Nat.reduceLeDiff, Nat.reduceEqDiff, Nat.add_left_cancel_iff, ad0, ad1, false_and, and_false, true_and, and_true, reduceIte, if_true, if_false, zb0, zb1, Int32.reduceLT, Int32.reduceLE, i10, nw1, nw2, nt1, nt2, not_true_eq_false, not_false_eq_true, mt_78, mt_79, ml_79, mt_80, ml_80, mt_81, ml_81, mt_82, ml_82, mt_83, ml_83, mt_84, ml_84, mt_85, ml_85, mt_86, ml_86, mt_87, ml_87, mt_88, ml_88, mt_89, ml_89, mt_90, ml_90, mt_91, ml_91, mt_92, ml_92, mt_93, ml_93, mt_94, ml_94, mt_95, ml_95, mt_96, ml_96, mt_97, ml_97, mt_98, ml_98, mt_99, ml_99, mt_100, ml_100, mt_101, ml_101, mt_102, ml_102, mt_103, ml_103, mt_104, ml_104, mt_105, ml_105, mt_106, ml_106, mt_107, ml_107, mt_108, ml_108, mt_109, ml_109, mt_110, ml_110, mt_111, ml_111, mt_112, ml_112, mt_113, ml_113, mt_114, ml_114, mt_115, ml_115, mt_116, ml_116, mt_117, ml_117, mt_118, ml_118, mt_119, ml_119, mt_120, ml_120, mt_121, ml_121, mt_122, ml_122, mt_123, ml_123, gP_78_2, gP_78_3, gP_78_4, gP_78_5, gP_78_6, gP_78_12, gP_78_13, gP_78_14, gP_78_15, gP_78_16, gP_78_17, gP_78_18, gP_78_19, gP_78_23, gP_78_24, gP_78_26, gP_78_27, gP_78_28, gP_78_31, gP_78_32, gP_78_34, gP_78_35, gP_78_36, gP_78_37, gP_78_40, gP_78_41, gP_78_42, gP_78_43, gP_78_52, gP_78_53, gP_78_54, gP_78_55, gP_78_56, gP_78_57, gP_78_58, gP_78_59, gP_78_60, gP_78_61, gP_78_62, gP_78_63, gP_78_65, gP_78_66, gP_78_67, gP_78_68, gP_78_69, hS2]
  · rcases q with q | ⟨q | q, q2⟩
    · exact Or.inr q
    · exact Or.inl q
    · exact absurd (Or.inl q) q2
end SN1
