/-! ===== odds ===== -/
def odP (G : GG) (S : Nat → Int32) (p c : Nat) : Bool := (crG G (poS (gw G 1601) c S) p).isSome
section OD1
variable {M N Mw : QM} {o w m p c : Nat} {G : GG} {S : Nat → Int32}
theorem cnt_t {f : Nat → Bool} {n : Nat} (h : f n = true) : cnt f (n + 1) = cnt f n + 1 := by
  show cnt f n + (if f n then 1 else 0) = _
  rw [if_pos h]
theorem cnt_f {f : Nat → Bool} {n : Nat} (h : f n = false) : cnt f (n + 1) = cnt f n := by
  show cnt f n + (if f n then 1 else 0) = _
  rw [if_neg (by rw [h]; decide)]; rfl
set_option maxHeartbeats 2000000 in
theorem odds_c (h : CW M o G w) (hC : CP M o 2 S) (hm : mI M (o + 2) 1 = nI m) (hp : p < w) : ∃ M1, itr (fun s31 : Int32 × Int32 × QM => lp_X8_odds_31 o (o + (17 + 2 * p)) s31.1 s31.2.1 s31.2.2) FU (0, 0, M) = some (nI (cnt (odP G S p) 16), M1) ∧ SQ M M1 o (Zc 59) := by
  have hp5 : p < 5 := by have := h.2.1.2; omega
  have loop := itr_J (f := fun s31 : Int32 × Int32 × QM => lp_X8_odds_31 o (o + (17 + 2 * p)) s31.1 s31.2.1 s31.2.2) (s0 := (0, 0, M)) (fun n z => n ≤ 16 ∧ ∃ Mw, z = (nI (cnt (odP G S p) n), nI n, Mw) ∧ SQ M Mw o (Zc 59)) (fun r => ∃ M1, r = (nI (cnt (odP G S p) 16), M1) ∧ SQ M M1 o (Zc 59)) 16
    ⟨Nat.zero_le _, M, rfl, SQ.rfl⟩
    (fun n z hz => by
      obtain ⟨hn, Mw, rfl, g1⟩ := hz
      show (∃ r, lp_X8_odds_31 o (o + (17 + 2 * p)) (nI (cnt (odP G S p) n)) (nI n) Mw = some (.inr r) ∧ _) ∨ _ ∧ ∃ s', lp_X8_odds_31 o (o + (17 + 2 * p)) (nI (cnt (odP G S p) n)) (nI n) Mw = some (.inl s') ∧ _
      by_cases e : n = 16
      · left
        subst e
        refine ⟨_, ?_, Mw, rfl, g1⟩
        unfold lp_X8_odds_31
        rw [if_pos (by decide)]
      · right
        have hn' : n < 16 := by omega
        have h' := h.sc (g1.mono Zc59_scr)
        have hS' := h'.1
        obtain ⟨M1, a1, a2, a3, a4⟩ := become_c hS' (hC.fr g1 (fun k _ => by unfold Zc; omega)) ((g1.2.2.2.2 2 1 (by unfold Zc; omega)).trans hm)
        have h1 := h'.sc (a2.mono Zc59_scr)
        have hS1 := h1.1
        obtain ⟨M2, c1, c2, c3⟩ := pour_c (mk := gw G 1601) a3 hn'
        have zc : ∀ a k, (a = 59 + 1 ∧ k < 16) → Zc 59 a k := fun a k z => Or.inl z
        have h2 := h1.sc (c2.mono fun a k z => Zc59_scr a k (zc a k z))
        have hS2 := h2.1
        have cr := crossing_c (sp := gw G 1600) (h2.wk hp) c3
        obtain ⟨r, hr⟩ : ∃ r, r = crG G (poS (gw G 1601) n S) p := ⟨_, rfl⟩
        have cr2 : fn_X7_crossing M2 (o + (17 + 2 * p)) (o + 59) (gw G 1600) = some (iI r) := by rw [hr]; exact cr
        have lt : ∀ n', r = some n' → n' < 2 ^ 31 := fun n' e => by
          have : n' < 16 := crG_lt (G := G) (T := poS (gw G 1601) n S) (q := p) n' (by rw [← hr]; exact e)
          omega
        have sp : ∀ {α : Type} (f : Int32 → Option α), (gR M2 (o + 1) 5 7 fun r => gI M2 r 1 1 f) = f (gw G 1600) := fun f => h2.spn
        have mk : ∀ {α : Type} (f : Int32 → Option α), (gR M1 (o + 1) 5 7 fun r => gI M1 r 1 2 f) = f (gw G 1601) := fun f => h1.mkn
        have e1 : lp_X8_odds_31 o (o + (17 + 2 * p)) (nI (cnt (odP G S p) n)) (nI n) Mw = if iI r < 0 then some (.inl (nI (cnt (odP G S p) n), nI (n + 1), M2)) else some (.inl (nI (cnt (odP G S p) n + 1), nI (n + 1), M2)) := by
          unfold lp_X8_odds_31
          rw [if_neg (n16 hn'), gP_0_7 hS', gP_0_0 hS', gP_1_0 hS', ck_e (mt_59 hS'), bnd_e a1, gP_0_7 hS1, gP_0_0 hS1, mk, ck_e (mt_59 hS1), bnd_e c1, gP_0_7 hS2, gP_0_0 hS2, sp, ck_e (mtw_4 hS2 hp5), bnd_e cr2, nm_eq, nm_eq, nm_eq, nI_1, nI_1]
        have sq := (g1.trans a2).trans (c2.mono zc)
        by_cases q : r = none
        · rw [if_pos ((iI_neg lt).mpr q)] at e1
          have e2 : odP G S p n = false := by unfold odP; rw [← hr, q]; rfl
          exact ⟨hn', _, e1, by omega, M2, by rw [cnt_f e2], sq⟩
        · rw [if_neg (fun z => q ((iI_neg lt).mp z))] at e1
          have e2 : odP G S p n = true := by
            unfold odP; rw [← hr]
            cases e : r with
            | none => exact absurd e q
            | some _ => rfl
          exact ⟨hn', _, e1, by omega, M2, by rw [cnt_t e2], sq⟩) (by decide)
  obtain ⟨r, h1, M1, rfl, h2⟩ := loop
  exact ⟨M1, h1, h2⟩
set_option maxHeartbeats 2000000 in
theorem odds_m (h : MW M o G w) (hF : FV S m M o) (h0 : mI M (o + 78) 25 = 0) (hp : p < w) : ∃ M1, itr (fun s27 : Int32 × Int32 × QM => lp_X9_odds_27 (o + 78) (nI p) s27.1 s27.2.1 s27.2.2) FU (0, 0, M) = some (nI (cnt (odP G S p) 16), M1) ∧ SQ M M1 o Zm ∧ FV S m M1 o := by
  have loop := itr_J (f := fun s27 : Int32 × Int32 × QM => lp_X9_odds_27 (o + 78) (nI p) s27.1 s27.2.1 s27.2.2) (s0 := (0, 0, M)) (fun n z => n ≤ 16 ∧ ∃ Mw, z = (nI (cnt (odP G S p) n), nI n, Mw) ∧ SQ M Mw o Zm ∧ FV S m Mw o) (fun r => ∃ M1, r = (nI (cnt (odP G S p) 16), M1) ∧ SQ M M1 o Zm ∧ FV S m M1 o) 16
    ⟨Nat.zero_le _, M, rfl, SQ.rfl, hF⟩
    (fun n z hz => by
      obtain ⟨hn, Mw, rfl, g1, g2⟩ := hz
      show (∃ r, lp_X9_odds_27 (o + 78) (nI p) (nI (cnt (odP G S p) n)) (nI n) Mw = some (.inr r) ∧ _) ∨ _ ∧ ∃ s', lp_X9_odds_27 (o + 78) (nI p) (nI (cnt (odP G S p) n)) (nI n) Mw = some (.inl s') ∧ _
      by_cases e : n = 16
      · left
        subst e
        refine ⟨_, ?_, Mw, rfl, g1, g2⟩
        unfold lp_X9_odds_27
        rw [if_pos (by decide)]
      · right
        have hn' : n < 16 := by omega
        have f1 := n16 hn'
        have mw := h.zm g1 (fun _ _ q => q)
        have hS := mw.1
        have r1 := g2.1 n hn'
        have mo := milkOf_m hS mw.2.2.2 g2 hn'
        obtain ⟨v, hv⟩ : ∃ v, v = if 0 ≤ S n - gw G 1601 then S n - gw G 1601 else 0 := ⟨_, rfl⟩
        rw [← hv] at mo
        have s1 : SQ Mw (sI Mw (o + 79) n v) o Z79 := SQ.rfl.sI ⟨rfl, hn'⟩
        have mw1 := mw.zm s1 Z79_Zm
        have hF1 : FV (poS (gw G 1601) n S) m (sI Mw (o + 79) n v) o := by rw [hv]; exact pourFV g2 (milk_bd mw.2.2.2) hn'
        have hS1 := mw1.1
        obtain ⟨M1, c1, c2, c3⟩ := canCross_m mw1 hF1 (((s1.2.2.2.2 78 25 (by unfold Z79; omega)).trans (g1.2.2.2.2 78 25 (by unfold Zm ZB; omega))).trans h0) hp
        have mw2 := mw1.zm c3 ZB_Zm
        have hS2 := mw2.1
        have s2 : SQ Mw (sI M1 (o + 79) n (S n)) o Zm := ((s1.mono Z79_Zm).trans (c3.mono ZB_Zm)).sI (Z79_Zm 79 n ⟨rfl, hn'⟩)
        have hF2 : FV S m (sI M1 (o + 79) n (S n)) o := by
          have hF3 := hF1.zb c3
          refine ⟨fun j hj => ?_, ?_, g2.2.2⟩
          · rw [mI_sI]
            by_cases q : j = n
            · rw [if_pos ⟨rfl, q⟩, q]
            · rw [if_neg (fun z => q z.2), hF3.1 j hj]
              unfold poS
              rw [if_neg q]
          · rw [mI_sI, if_neg (by omega)]; exact hF3.2.1
        have c2 : fn_X9_canCross (sI Mw (o + 79) n v) (o + 78) (nI p) = some (lI (odP G S p n), M1) := c2
        have i1 : nI (cnt (odP G S p) n) + 0 = nI (cnt (odP G S p) n) := Int32.add_zero _
        cases e2 : odP G S p n with
        | false =>
          rw [e2] at c2
          refine ⟨hn', (nI (cnt (odP G S p) (n + 1)), nI (n + 1), sI M1 (o + 79) n (S n)), ?_, by omega, _, rfl, g1.trans s2, hF2⟩
          rw [cnt_f e2]
          simp only [lp_X9_odds_27, jn_X9_odds_70_27, f1, r1, mo, c2, lI_f, i1, nI_1, mt_sI, mt_sJ, mt_sP, mt_rI, mt_rJ, ml_sI, ml_sJ, ml_sP, ml_rI, ml_rJ, mP_sI, mP_sJ, mP_rI, mP_rJ, SHP_sI, SHP_sJ, SHP_rI, SHP_rJ, mI_sI, mI_rI, mI_sJ, mI_rJ, mI_sP, mJ_sI, mJ_rI, mJ_sP, mJ_sJ, mJ_rJ, gI_e, pI_e, ck_e, bnd_s, nm_eq, pr2_e, cnul_0, cnul_1, drf_1, sm_1, sm_2, aI_e, aJ_e, wI_e, wJ_e, aL_e, cpI_e, cpJ_e, Nat.reduceLeDiff, Nat.reduceEqDiff, Nat.add_left_cancel_iff, ad0, ad1, false_and, and_false, true_and, and_true, reduceIte, if_true, if_false, zb0, zb1, Int32.reduceLT, Int32.reduceLE, i10, nw1, nw2, nt1, nt2, not_true_eq_false, not_false_eq_true, mt_78, mt_79, ml_79, mt_80, ml_80, mt_81, ml_81, mt_82, ml_82, mt_83, ml_83, mt_84, ml_84, mt_85, ml_85, mt_86, ml_86, mt_87, ml_87, mt_88, ml_88, mt_89, ml_89, mt_90, ml_90, mt_91, ml_91, mt_92, ml_92, mt_93, ml_93, mt_94, ml_94, mt_95, ml_95, mt_96, ml_96, mt_97, ml_97, mt_98, ml_98, mt_99, ml_99, mt_100, ml_100, mt_101, ml_101, mt_102, ml_102, mt_103, ml_103, mt_104, ml_104, mt_105, ml_105, mt_106, ml_106, mt_107, ml_107, mt_108, ml_108, mt_109, ml_109, mt_110, ml_110, mt_111, ml_111, mt_112, ml_112, mt_113, ml_113, mt_114, ml_114, mt_115, ml_115, mt_116, ml_116, mt_117, ml_117, mt_118, ml_118, mt_119, ml_119, mt_120, ml_120, mt_121, ml_121, mt_122, ml_122, mt_123, ml_123, gP_78_2, gP_78_3, gP_78_4, gP_78_5, gP_78_6, gP_78_12, gP_78_13, gP_78_14, gP_78_15, gP_78_16, gP_78_17, gP_78_18, gP_78_19, gP_78_23, gP_78_24, gP_78_26, gP_78_27, gP_78_28, gP_78_31, gP_78_32, gP_78_34, gP_78_35, gP_78_36, gP_78_37, gP_78_40, gP_78_41, gP_78_42, gP_78_43, gP_78_52, gP_78_53, gP_78_54, gP_78_55, gP_78_56, gP_78_57, gP_78_58, gP_78_59, gP_78_60, gP_78_61, gP_78_62, gP_78_63, gP_78_65, gP_78_66, gP_78_67, gP_78_68, gP_78_69, hS, hS1, hS2, hn']
        | true =>
          rw [e2] at c2
          refine ⟨hn', (nI (cnt (odP G S p) (n + 1)), nI (n + 1), sI M1 (o + 79) n (S n)), ?_, by omega, _, rfl, g1.trans s2, hF2⟩
          rw [cnt_t e2]
          simp only [lp_X9_odds_27, jn_X9_odds_70_27, f1, r1, mo, c2, lI_t, nI_1, mt_sI, mt_sJ, mt_sP, mt_rI, mt_rJ, ml_sI, ml_sJ, ml_sP, ml_rI, ml_rJ, mP_sI, mP_sJ, mP_rI, mP_rJ, SHP_sI, SHP_sJ, SHP_rI, SHP_rJ, mI_sI, mI_rI, mI_sJ, mI_rJ, mI_sP, mJ_sI, mJ_rI, mJ_sP, mJ_sJ, mJ_rJ, gI_e, pI_e, ck_e, bnd_s, nm_eq, pr2_e, cnul_0, cnul_1, drf_1, sm_1, sm_2, aI_e, aJ_e, wI_e, wJ_e, aL_e, cpI_e, cpJ_e, Nat.reduceLeDiff, Nat.reduceEqDiff, Nat.add_left_cancel_iff, ad0, ad1, false_and, and_false, true_and, and_true, reduceIte, if_true, if_false, zb0, zb1, Int32.reduceLT, Int32.reduceLE, i10, nw1, nw2, nt1, nt2, not_true_eq_false, not_false_eq_true, mt_78, mt_79, ml_79, mt_80, ml_80, mt_81, ml_81, mt_82, ml_82, mt_83, ml_83, mt_84, ml_84, mt_85, ml_85, mt_86, ml_86, mt_87, ml_87, mt_88, ml_88, mt_89, ml_89, mt_90, ml_90, mt_91, ml_91, mt_92, ml_92, mt_93, ml_93, mt_94, ml_94, mt_95, ml_95, mt_96, ml_96, mt_97, ml_97, mt_98, ml_98, mt_99, ml_99, mt_100, ml_100, mt_101, ml_101, mt_102, ml_102, mt_103, ml_103, mt_104, ml_104, mt_105, ml_105, mt_106, ml_106, mt_107, ml_107, mt_108, ml_108, mt_109, ml_109, mt_110, ml_110, mt_111, ml_111, mt_112, ml_112, mt_113, ml_113, mt_114, ml_114, mt_115, ml_115, mt_116, ml_116, mt_117, ml_117, mt_118, ml_118, mt_119, ml_119, mt_120, ml_120, mt_121, ml_121, mt_122, ml_122, mt_123, ml_123, gP_78_2, gP_78_3, gP_78_4, gP_78_5, gP_78_6, gP_78_12, gP_78_13, gP_78_14, gP_78_15, gP_78_16, gP_78_17, gP_78_18, gP_78_19, gP_78_23, gP_78_24, gP_78_26, gP_78_27, gP_78_28, gP_78_31, gP_78_32, gP_78_34, gP_78_35, gP_78_36, gP_78_37, gP_78_40, gP_78_41, gP_78_42, gP_78_43, gP_78_52, gP_78_53, gP_78_54, gP_78_55, gP_78_56, gP_78_57, gP_78_58, gP_78_59, gP_78_60, gP_78_61, gP_78_62, gP_78_63, gP_78_65, gP_78_66, gP_78_67, gP_78_68, gP_78_69, hS, hS1, hS2, hn']) (by decide)
  obtain ⟨r, h1, M1, rfl, h2⟩ := loop
  exact ⟨M1, h1, h2⟩
end OD1
set_option maxHeartbeats 2000000 in
theorem op_odds {M : QM} {o : Nat} {G : GG} (h : RR M o G) (p1 p2 : Int32) : ∃ v M1 M2 G', fn_X8_odds M o p1 p2 = some (v, M1) ∧ fn_X9_odds M1 (o + 78) p1 p2 = some (v, M2) ∧ RR M2 o G' := by
  have hS := h.1.1
  obtain ⟨w, w1, w2, w3, w4, w5, w6⟩ := h.wk p1
  rcases w6 with ⟨c, hc, hc5, rfl, b1, b2⟩ | ⟨b1, b2⟩
  · rcases rng p2 2 2 1 rfl rfl (by decide) (by decide) with ⟨p, hp, rfl, d1, d2, d3⟩ | ⟨d1, d2, d3⟩
    · obtain ⟨m, m1, m2, m3, m4⟩ := h.fv
      have hcw : c < gN G 1 1 := by rw [w3]; exact hc
      obtain ⟨M1, s1, s2⟩ := odds_c h.cw h.cp m4 hcw
      have h1 := h.scr (s2.mono Zc59_scr)
      have hS1 := h1.1.1
      have w51 : mI M1 (o + 78) 0 = nI w := (s2.2.2.2.2 78 0 (by unfold Zc; omega)).trans w5
      have m31 : FV (G 0) m M1 o := m3.s s2 (fun c _ => by unfold Zc; omega) (by unfold Zc; omega)
      obtain ⟨M2, c1, c2, c3⟩ := odds_m h1.mw m31 h1.ct hcw
      have hS2 := c2.shp hS1
      have cl := cnt_le (odP G (G 0) c) 16
      obtain ⟨v, v1, v2⟩ := frac_e (n := cnt (odP G (G 0) c) 16) (p := p) (by omega) hp
      refine ⟨v, M1, M2, G, ?_, ?_, h1.scr (FV.back c2 m31 c3)⟩
      · simp only [fn_X8_odds, fn_X5_walkerAt, w4, b1, d1, s1, v1, mt_sI, mt_sJ, mt_sP, mt_rI, mt_rJ, ml_sI, ml_sJ, ml_sP, ml_rI, ml_rJ, mP_sI, mP_sJ, mP_rI, mP_rJ, SHP_sI, SHP_sJ, SHP_rI, SHP_rJ, mI_sI, mI_rI, mI_sJ, mI_rJ, mI_sP, mJ_sI, mJ_rI, mJ_sP, mJ_sJ, mJ_rJ, gI_e, pI_e, ck_e, bnd_s, nm_eq, pr2_e, cnul_0, cnul_1, drf_1, sm_1, sm_2, aI_e, aJ_e, wI_e, wJ_e, aL_e, cpI_e, cpJ_e, Nat.reduceLeDiff, Nat.reduceEqDiff, Nat.add_left_cancel_iff, ad0, ad1, false_and, and_false, true_and, and_true, reduceIte, if_true, if_false, zb0, zb1, Int32.reduceLT, Int32.reduceLE, i10, nw1, nw2, nt1, nt2, not_true_eq_false, not_false_eq_true, mt_0, mt_1, mt_2, mt_3, ml_3, mt_4, ml_4, mt_5, mt_6, ml_6, mt_7, ml_7, mt_8, ml_8, mt_9, mt_10, ml_10, mt_11, ml_11, mt_12, ml_12, mt_13, mt_14, ml_14, mt_15, ml_15, mt_16, ml_16, mt_17, mt_18, ml_18, mt_19, mt_20, ml_20, mt_21, mt_22, ml_22, mt_23, mt_24, ml_24, mt_25, mt_26, ml_26, mt_53, mt_54, ml_54, mt_55, ml_55, mt_56, mt_57, ml_57, mt_58, ml_58, mt_59, mt_60, ml_60, mt_61, mt_62, ml_62, mt_63, ml_63, mt_64, mt_65, ml_65, mt_66, mt_67, ml_67, mt_68, mt_69, ml_69, mt_70, mt_71, ml_71, mt_72, mt_73, ml_73, mt_74, mt_75, ml_75, mt_76, mt_77, ml_77, gP_0_0, gP_0_1, gP_0_4, gP_0_5, gP_0_6, gP_0_7, gP_0_8, gP_0_9, gP_1_0, gP_1_1, gP_1_4, gP_1_5, gP_1_6, gP_2_0, gP_5_1, gP_5_2, gP_5_3, gP_9_1, gP_9_2, gP_9_3, gP_13_1, gP_13_2, gP_13_3, gP_17_3, gP_19_3, gP_21_3, gP_23_3, gP_25_3, gP_53_0, gP_53_6, gP_56_0, gP_59_0, gP_61_3, gP_64_0, gP_66_2, gP_68_2, gP_70_2, gP_72_2, gP_74_2, gP_76_2, aP_4, mtw_4, mtl_4, mll_4, gPw_4, aP_58, mtw_58, mtl_58, mll_58, gPw_58, hS, hc5]
      · simp only [fn_X9_odds, fn_X9_isWalker, w51, b2, d2, c1, v2, mt_sI, mt_sJ, mt_sP, mt_rI, mt_rJ, ml_sI, ml_sJ, ml_sP, ml_rI, ml_rJ, mP_sI, mP_sJ, mP_rI, mP_rJ, SHP_sI, SHP_sJ, SHP_rI, SHP_rJ, mI_sI, mI_rI, mI_sJ, mI_rJ, mI_sP, mJ_sI, mJ_rI, mJ_sP, mJ_sJ, mJ_rJ, gI_e, pI_e, ck_e, bnd_s, nm_eq, pr2_e, cnul_0, cnul_1, drf_1, sm_1, sm_2, aI_e, aJ_e, wI_e, wJ_e, aL_e, cpI_e, cpJ_e, Nat.reduceLeDiff, Nat.reduceEqDiff, Nat.add_left_cancel_iff, ad0, ad1, false_and, and_false, true_and, and_true, reduceIte, if_true, if_false, zb0, zb1, Int32.reduceLT, Int32.reduceLE, i10, nw1, nw2, nt1, nt2, not_true_eq_false, not_false_eq_true, mt_78, mt_79, ml_79, mt_80, ml_80, mt_81, ml_81, mt_82, ml_82, mt_83, ml_83, mt_84, ml_84, mt_85, ml_85, mt_86, ml_86, mt_87, ml_87, mt_88, ml_88, mt_89, ml_89, mt_90, ml_90, mt_91, ml_91, mt_92, ml_92, mt_93, ml_93, mt_94, ml_94, mt_95, ml_95, mt_96, ml_96, mt_97, ml_97, mt_98, ml_98, mt_99, ml_99, mt_100, ml_100, mt_101, ml_101, mt_102, ml_102, mt_103, ml_103, mt_104, ml_104, mt_105, ml_105, mt_106, ml_106, mt_107, ml_107, mt_108, ml_108, mt_109, ml_109, mt_110, ml_110, mt_111, ml_111, mt_112, ml_112, mt_113, ml_113, mt_114, ml_114, mt_115, ml_115, mt_116, ml_116, mt_117, ml_117, mt_118, ml_118, mt_119, ml_119, mt_120, ml_120, mt_121, ml_121, mt_122, ml_122, mt_123, ml_123, gP_78_2, gP_78_3, gP_78_4, gP_78_5, gP_78_6, gP_78_12, gP_78_13, gP_78_14, gP_78_15, gP_78_16, gP_78_17, gP_78_18, gP_78_19, gP_78_23, gP_78_24, gP_78_26, gP_78_27, gP_78_28, gP_78_31, gP_78_32, gP_78_34, gP_78_35, gP_78_36, gP_78_37, gP_78_40, gP_78_41, gP_78_42, gP_78_43, gP_78_52, gP_78_53, gP_78_54, gP_78_55, gP_78_56, gP_78_57, gP_78_58, gP_78_59, gP_78_60, gP_78_61, gP_78_62, gP_78_63, gP_78_65, gP_78_66, gP_78_67, gP_78_68, gP_78_69, hS1, hS2]
    · refine ⟨-9223372036854775808, M, M, G, ?_, ?_, h⟩
      · simp only [fn_X8_odds, fn_X5_walkerAt, w4, b1, d1, mt_sI, mt_sJ, mt_sP, mt_rI, mt_rJ, ml_sI, ml_sJ, ml_sP, ml_rI, ml_rJ, mP_sI, mP_sJ, mP_rI, mP_rJ, SHP_sI, SHP_sJ, SHP_rI, SHP_rJ, mI_sI, mI_rI, mI_sJ, mI_rJ, mI_sP, mJ_sI, mJ_rI, mJ_sP, mJ_sJ, mJ_rJ, gI_e, pI_e, ck_e, bnd_s, nm_eq, pr2_e, cnul_0, cnul_1, drf_1, sm_1, sm_2, aI_e, aJ_e, wI_e, wJ_e, aL_e, cpI_e, cpJ_e, Nat.reduceLeDiff, Nat.reduceEqDiff, Nat.add_left_cancel_iff, ad0, ad1, false_and, and_false, true_and, and_true, reduceIte, if_true, if_false, zb0, zb1, Int32.reduceLT, Int32.reduceLE, i10, nw1, nw2, nt1, nt2, not_true_eq_false, not_false_eq_true, mt_0, mt_1, mt_2, mt_3, ml_3, mt_4, ml_4, mt_5, mt_6, ml_6, mt_7, ml_7, mt_8, ml_8, mt_9, mt_10, ml_10, mt_11, ml_11, mt_12, ml_12, mt_13, mt_14, ml_14, mt_15, ml_15, mt_16, ml_16, mt_17, mt_18, ml_18, mt_19, mt_20, ml_20, mt_21, mt_22, ml_22, mt_23, mt_24, ml_24, mt_25, mt_26, ml_26, mt_53, mt_54, ml_54, mt_55, ml_55, mt_56, mt_57, ml_57, mt_58, ml_58, mt_59, mt_60, ml_60, mt_61, mt_62, ml_62, mt_63, ml_63, mt_64, mt_65, ml_65, mt_66, mt_67, ml_67, mt_68, mt_69, ml_69, mt_70, mt_71, ml_71, mt_72, mt_73, ml_73, mt_74, mt_75, ml_75, mt_76, mt_77, ml_77, gP_0_0, gP_0_1, gP_0_4, gP_0_5, gP_0_6, gP_0_7, gP_0_8, gP_0_9, gP_1_0, gP_1_1, gP_1_4, gP_1_5, gP_1_6, gP_2_0, gP_5_1, gP_5_2, gP_5_3, gP_9_1, gP_9_2, gP_9_3, gP_13_1, gP_13_2, gP_13_3, gP_17_3, gP_19_3, gP_21_3, gP_23_3, gP_25_3, gP_53_0, gP_53_6, gP_56_0, gP_59_0, gP_61_3, gP_64_0, gP_66_2, gP_68_2, gP_70_2, gP_72_2, gP_74_2, gP_76_2, aP_4, mtw_4, mtl_4, mll_4, gPw_4, aP_58, mtw_58, mtl_58, mll_58, gPw_58, hS, hc5]
      · simp only [fn_X9_odds, fn_X9_isWalker, w5, b2, d2, mt_sI, mt_sJ, mt_sP, mt_rI, mt_rJ, ml_sI, ml_sJ, ml_sP, ml_rI, ml_rJ, mP_sI, mP_sJ, mP_rI, mP_rJ, SHP_sI, SHP_sJ, SHP_rI, SHP_rJ, mI_sI, mI_rI, mI_sJ, mI_rJ, mI_sP, mJ_sI, mJ_rI, mJ_sP, mJ_sJ, mJ_rJ, gI_e, pI_e, ck_e, bnd_s, nm_eq, pr2_e, cnul_0, cnul_1, drf_1, sm_1, sm_2, aI_e, aJ_e, wI_e, wJ_e, aL_e, cpI_e, cpJ_e, Nat.reduceLeDiff, Nat.reduceEqDiff, Nat.add_left_cancel_iff, ad0, ad1, false_and, and_false, true_and, and_true, reduceIte, if_true, if_false, zb0, zb1, Int32.reduceLT, Int32.reduceLE, i10, nw1, nw2, nt1, nt2, not_true_eq_false, not_false_eq_true, mt_78, mt_79, ml_79, mt_80, ml_80, mt_81, ml_81, mt_82, ml_82, mt_83, ml_83, mt_84, ml_84, mt_85, ml_85, mt_86, ml_86, mt_87, ml_87, mt_88, ml_88, mt_89, ml_89, mt_90, ml_90, mt_91, ml_91, mt_92, ml_92, mt_93, ml_93, mt_94, ml_94, mt_95, ml_95, mt_96, ml_96, mt_97, ml_97, mt_98, ml_98, mt_99, ml_99, mt_100, ml_100, mt_101, ml_101, mt_102, ml_102, mt_103, ml_103, mt_104, ml_104, mt_105, ml_105, mt_106, ml_106, mt_107, ml_107, mt_108, ml_108, mt_109, ml_109, mt_110, ml_110, mt_111, ml_111, mt_112, ml_112, mt_113, ml_113, mt_114, ml_114, mt_115, ml_115, mt_116, ml_116, mt_117, ml_117, mt_118, ml_118, mt_119, ml_119, mt_120, ml_120, mt_121, ml_121, mt_122, ml_122, mt_123, ml_123, gP_78_2, gP_78_3, gP_78_4, gP_78_5, gP_78_6, gP_78_12, gP_78_13, gP_78_14, gP_78_15, gP_78_16, gP_78_17, gP_78_18, gP_78_19, gP_78_23, gP_78_24, gP_78_26, gP_78_27, gP_78_28, gP_78_31, gP_78_32, gP_78_34, gP_78_35, gP_78_36, gP_78_37, gP_78_40, gP_78_41, gP_78_42, gP_78_43, gP_78_52, gP_78_53, gP_78_54, gP_78_55, gP_78_56, gP_78_57, gP_78_58, gP_78_59, gP_78_60, gP_78_61, gP_78_62, gP_78_63, gP_78_65, gP_78_66, gP_78_67, gP_78_68, gP_78_69, hS]
  · refine ⟨-9223372036854775808, M, M, G, ?_, ?_, h⟩
    · simp only [fn_X8_odds, fn_X5_walkerAt, w4, b1, mt_sI, mt_sJ, mt_sP, mt_rI, mt_rJ, ml_sI, ml_sJ, ml_sP, ml_rI, ml_rJ, mP_sI, mP_sJ, mP_rI, mP_rJ, SHP_sI, SHP_sJ, SHP_rI, SHP_rJ, mI_sI, mI_rI, mI_sJ, mI_rJ, mI_sP, mJ_sI, mJ_rI, mJ_sP, mJ_sJ, mJ_rJ, gI_e, pI_e, ck_e, bnd_s, nm_eq, pr2_e, cnul_0, cnul_1, drf_1, sm_1, sm_2, aI_e, aJ_e, wI_e, wJ_e, aL_e, cpI_e, cpJ_e, Nat.reduceLeDiff, Nat.reduceEqDiff, Nat.add_left_cancel_iff, ad0, ad1, false_and, and_false, true_and, and_true, reduceIte, if_true, if_false, zb0, zb1, Int32.reduceLT, Int32.reduceLE, i10, nw1, nw2, nt1, nt2, not_true_eq_false, not_false_eq_true, mt_0, mt_1, mt_2, mt_3, ml_3, mt_4, ml_4, mt_5, mt_6, ml_6, mt_7, ml_7, mt_8, ml_8, mt_9, mt_10, ml_10, mt_11, ml_11, mt_12, ml_12, mt_13, mt_14, ml_14, mt_15, ml_15, mt_16, ml_16, mt_17, mt_18, ml_18, mt_19, mt_20, ml_20, mt_21, mt_22, ml_22, mt_23, mt_24, ml_24, mt_25, mt_26, ml_26, mt_53, mt_54, ml_54, mt_55, ml_55, mt_56, mt_57, ml_57, mt_58, ml_58, mt_59, mt_60, ml_60, mt_61, mt_62, ml_62, mt_63, ml_63, mt_64, mt_65, ml_65, mt_66, mt_67, ml_67, mt_68, mt_69, ml_69, mt_70, mt_71, ml_71, mt_72, mt_73, ml_73, mt_74, mt_75, ml_75, mt_76, mt_77, ml_77, gP_0_0, gP_0_1, gP_0_4, gP_0_5, gP_0_6, gP_0_7, gP_0_8, gP_0_9, gP_1_0, gP_1_1, gP_1_4, gP_1_5, gP_1_6, gP_2_0, gP_5_1, gP_5_2, gP_5_3, gP_9_1, gP_9_2, gP_9_3, gP_13_1, gP_13_2, gP_13_3, gP_17_3, gP_19_3, gP_21_3, gP_23_3, gP_25_3, gP_53_0, gP_53_6, gP_56_0, gP_59_0, gP_61_3, gP_64_0, gP_66_2, gP_68_2, gP_70_2, gP_72_2, gP_74_2, gP_76_2, aP_4, mtw_4, mtl_4, mll_4, gPw_4, aP_58, mtw_58, mtl_58, mll_58, gPw_58, hS]
    · simp only [fn_X9_odds, fn_X9_isWalker, w5, b2, mt_sI, mt_sJ, mt_sP, mt_rI, mt_rJ, ml_sI, ml_sJ, ml_sP, ml_rI, ml_rJ, mP_sI, mP_sJ, mP_rI, mP_rJ, SHP_sI, SHP_sJ, SHP_rI, SHP_rJ, mI_sI, mI_rI, mI_sJ, mI_rJ, mI_sP, mJ_sI, mJ_rI, mJ_sP, mJ_sJ, mJ_rJ, gI_e, pI_e, ck_e, bnd_s, nm_eq, pr2_e, cnul_0, cnul_1, drf_1, sm_1, sm_2, aI_e, aJ_e, wI_e, wJ_e, aL_e, cpI_e, cpJ_e, Nat.reduceLeDiff, Nat.reduceEqDiff, Nat.add_left_cancel_iff, ad0, ad1, false_and, and_false, true_and, and_true, reduceIte, if_true, if_false, zb0, zb1, Int32.reduceLT, Int32.reduceLE, i10, nw1, nw2, nt1, nt2, not_true_eq_false, not_false_eq_true, mt_78, mt_79, ml_79, mt_80, ml_80, mt_81, ml_81, mt_82, ml_82, mt_83, ml_83, mt_84, ml_84, mt_85, ml_85, mt_86, ml_86, mt_87, ml_87, mt_88, ml_88, mt_89, ml_89, mt_90, ml_90, mt_91, ml_91, mt_92, ml_92, mt_93, ml_93, mt_94, ml_94, mt_95, ml_95, mt_96, ml_96, mt_97, ml_97, mt_98, ml_98, mt_99, ml_99, mt_100, ml_100, mt_101, ml_101, mt_102, ml_102, mt_103, ml_103, mt_104, ml_104, mt_105, ml_105, mt_106, ml_106, mt_107, ml_107, mt_108, ml_108, mt_109, ml_109, mt_110, ml_110, mt_111, ml_111, mt_112, ml_112, mt_113, ml_113, mt_114, ml_114, mt_115, ml_115, mt_116, ml_116, mt_117, ml_117, mt_118, ml_118, mt_119, ml_119, mt_120, ml_120, mt_121, ml_121, mt_122, ml_122, mt_123, ml_123, gP_78_2, gP_78_3, gP_78_4, gP_78_5, gP_78_6, gP_78_12, gP_78_13, gP_78_14, gP_78_15, gP_78_16, gP_78_17, gP_78_18, gP_78_19, gP_78_23, gP_78_24, gP_78_26, gP_78_27, gP_78_28, gP_78_31, gP_78_32, gP_78_34, gP_78_35, gP_78_36, gP_78_37, gP_78_40, gP_78_41, gP_78_42, gP_78_43, gP_78_52, gP_78_53, gP_78_54, gP_78_55, gP_78_56, gP_78_57, gP_78_58, gP_78_59, gP_78_60, gP_78_61, gP_78_62, gP_78_63, gP_78_65, gP_78_66, gP_78_67, gP_78_68, gP_78_69, hS]
/-! ===== ends ===== -/
/-- how all is behind the first k of the AFTERNOON -/
def afT (G : GG) (S : Nat → Int32) (m : Nat) : Nat → (Nat → Int32) × Nat
  | 0 => (S, m)
  | k + 1 => if G 9 k = 0 then (ripS (gw G) (afT G S m k).2 1 (afT G S m k).1, (afT G S m k).2 + 1) else if G 9 k = 1 then (poS (gw G 1601) (gN G 10 k) (afT G S m k).1, (afT G S m k).2) else if gN G 10 k % 4 < 3 then (swS (gN G 10 k) (gN G 10 k + 1) (afT G S m k).1, (afT G S m k).2) else afT G S m k
section EN1
variable {M N Mw : QM} {o w m k c : Nat} {G : GG} {S : Nat → Int32}
theorem afT_m (k : Nat) : m ≤ (afT G S m k).2 ∧ (afT G S m k).2 ≤ m + k := by
  induction k with
  | zero => exact ⟨Nat.le_refl _, Nat.le_refl _⟩
  | succ k ih =>
    unfold afT
    split
    · dsimp only; omega
    · split
      · dsimp only; omega
      · split
        · dsimp only; omega
        · omega
/-- one row of the AFTERNOON -/
theorem af_row {k : Nat} (h : RR M o G) (hk : k < gN G 1 4) : k < 10 ∧ Lv G 9 k ∧ (G 9 k = 0 ∨ ((G 9 k = 1 ∨ G 9 k = 2) ∧ Lv G 10 k ∧ gN G 10 k < 16 ∧ G 10 k = nI (gN G 10 k))) := by
  obtain ⟨n, n1, n2, n3⟩ := h.2.sc 4 (by decide)
  have n1' : n ≤ 10 := n1
  rw [n3] at hk
  have l9 : Lv G 9 k := Lv_s (i := 4) (by show k < 10; omega) (by decide) (by decide) n3 hk (by decide)
  refine ⟨by omega, l9, ?_⟩
  obtain ⟨x, x1, x2⟩ := h.2.1 9 k l9 (by decide)
  have x1' : x ≤ 2 := x1
  by_cases e : G 9 k = 0
  · exact Or.inl e
  · refine Or.inr ⟨?_, ?_⟩
    · rcases (by omega : x = 0 ∨ x = 1 ∨ x = 2) with rfl | rfl | rfl
      · exact absurd x2 e
      · exact Or.inl x2
      · exact Or.inr x2
    · have l10 : Lv G 10 k := ⟨by show k < 10; omega, by rw [szv_at (i := 4) (by decide) (by decide), n3]; exact hk, fun _ => e, fun q => absurd q (by decide)⟩
      obtain ⟨q1, q2⟩ := bd_e (show bd (G 10 k) 15 from h.2.1 10 k l10 (by decide)) (by decide)
      exact ⟨l10, by unfold gN; have : (G 10 k).toNatClampNeg ≤ 15 := q2; omega, q1⟩
theorem col3 : ∀ n, n < 16 → (((1 : Int32) <<< (nI n &&& 31)) &&& 34952 = 0 ↔ n % 4 < 3) := by decide +kernel
set_option maxHeartbeats 2000000 in
theorem ends_c (h : RR M o G) {M0 : QM} (m1 : m ≤ 9999) (a2 : SQ M M0 o (Zc 59)) (a3 : CP M0 o 59 (G 0)) (a4 : mI M0 (o + 59) 1 = nI m) : ∃ M1, itr (fun s26 : Int32 × QM => lp_X8_ends_26 o s26.1 s26.2) FU (0, M0) = some M1 ∧ SQ M M1 o (Zc 59) ∧ CP M1 o 59 (afT G (G 0) m (gN G 1 4)).1 := by
  obtain ⟨n, n1, n2, n3⟩ := h.2.sc 4 (by decide)
  have n1' : n ≤ 10 := n1
  have loop := itr_J (f := fun s26 : Int32 × QM => lp_X8_ends_26 o s26.1 s26.2) (s0 := (0, M0)) (fun k z => k ≤ n ∧ ∃ Mw, z = (nI k, Mw) ∧ SQ M Mw o (Zc 59) ∧ CP Mw o 59 (afT G (G 0) m k).1 ∧ mI Mw (o + 59) 1 = nI (afT G (G 0) m k).2 ∧ ∀ c, c < 16 → bd ((afT G (G 0) m k).1 c) 99) (fun r => SQ M r o (Zc 59) ∧ CP r o 59 (afT G (G 0) m n).1) 10
    ⟨Nat.zero_le _, M0, rfl, a2, a3, a4, h.bds⟩
    (fun k z hz => by
      obtain ⟨hk, Mw, rfl, g1, g2, g3, g4⟩ := hz
      have h' := h.scr (g1.mono Zc59_scr)
      have hS := h'.1.1
      have sz := (h'.c (Lv_1 (i := 4) (by decide)) (a := 9) (i := 4) rfl).trans n2
      show (∃ r, lp_X8_ends_26 o (nI k) Mw = some (.inr r) ∧ _) ∨ _ ∧ ∃ s', lp_X8_ends_26 o (nI k) Mw = some (.inl s') ∧ _
      by_cases e : k = n
      · left
        subst e
        have f1 : nI k ≤ nI k := nI_le (Nat.le_refl _) (by omega)
        refine ⟨Mw, ?_, g1, g2⟩
        unfold lp_X8_ends_26
        rw [gP_0_0 hS, gP_1_5 hS, gI_e (mt_9 hS), sz, if_pos f1]
      · right
        have hk' : k < n := by omega
        have f1 : ¬ nI n ≤ nI k := by rw [nI_leI (by omega) (by omega)]; omega
        obtain ⟨k10, l9, row⟩ := af_row (M := M) h (k := k) (by rw [n3]; exact hk')
        have r9 := h'.c l9 (a := 10) (i := k) rfl
        obtain ⟨x, hx⟩ : ∃ x, x = mI Mw (o + 11) k := ⟨_, rfl⟩
        have head : lp_X8_ends_26 o (nI k) Mw = if G 9 k = 0 then (bnd (fn_X2_ripen Mw (o + 59) 1 ((mP Mw (o + 1) 7).getD 0)) fun M80 => nm (nI k + 1) fun v2_143 => some (.inl (v2_143, M80))) else if G 9 k = 1 then (bnd (fn_X2_pour Mw (o + 59) x (gw G 1601)) fun M117 => nm (nI k + 1) fun v2_143 => some (.inl (v2_143, M117))) else if ((1 <<< (x &&& 31)) &&& 34952) = 0 then (bnd (fn_X2_swap Mw (o + 59) x (x + 1)) fun M140 => nm (nI k + 1) fun v2_143 => some (.inl (v2_143, M140))) else nm (nI k + 1) fun v2_143 => some (.inl (v2_143, Mw)) := by
          obtain ⟨a, ha⟩ := h'.cw.2.2.2.hb
          have pt : ∀ {α : Type} (f : Nat → Option α), gR Mw (o + 1) 5 7 f = f (o + a) := fun f => CW.ptr (w := 0) ha hS
          have mk : ∀ {α : Type} (f : Int32 → Option α), (gR Mw (o + 1) 5 7 fun r => gI Mw r 1 2 f) = f (gw G 1601) := fun f => h'.cw.mkn
          have pg : (mP Mw (o + 1) 7).getD 0 = o + a := by rw [ha.2.1.1]; rfl
          rw [pg]
          unfold lp_X8_ends_26
          rw [gP_0_0 hS, gP_1_5 hS, gI_e (mt_9 hS), sz, if_neg f1, gP_0_0 hS, gP_1_5 hS, gP_9_2 hS, aI_e (mt_11 hS) (by rw [ml_11 hS]; exact k10) (by rw [ml_11 hS]; decide), ← hx, gP_0_0 hS, gP_1_5 hS, gP_9_1 hS, aI_e (mt_10 hS) (by rw [ml_10 hS]; exact k10) (by rw [ml_10 hS]; decide), r9, gP_0_7 hS, gP_0_0 hS, pt, ck_e (mt_59 hS), gP_0_0 hS, gP_1_5 hS, gP_9_1 hS, aI_e (mt_10 hS) (by rw [ml_10 hS]; exact k10) (by rw [ml_10 hS]; decide), r9, gP_0_7 hS, gP_0_0 hS, mk, ck_e (mt_59 hS), gP_0_7 hS, ck_e (mt_59 hS)]
        have am := afT_m (G := G) (S := G 0) (m := m) k
        have zc : ∀ a k, (a = 59 + 1 ∧ k < 16) → Zc 59 a k := fun a k z => Or.inl z
        have st : ∀ M1, lp_X8_ends_26 o (nI k) Mw = some (.inl (nI (k + 1), M1)) → SQ Mw M1 o (Zc 59) → CP M1 o 59 (afT G (G 0) m (k + 1)).1 → mI M1 (o + 59) 1 = nI (afT G (G 0) m (k + 1)).2 → (∀ c, c < 16 → bd ((afT G (G 0) m (k + 1)).1 c) 99) → k < 10 ∧ ∃ s', lp_X8_ends_26 o (nI k) Mw = some (.inl s') ∧ k + 1 ≤ n ∧ ∃ Mw, s' = (nI (k + 1), Mw) ∧ SQ M Mw o (Zc 59) ∧ CP Mw o 59 (afT G (G 0) m (k + 1)).1 ∧ mI Mw (o + 59) 1 = nI (afT G (G 0) m (k + 1)).2 ∧ ∀ c, c < 16 → bd ((afT G (G 0) m (k + 1)).1 c) 99 := fun M1 y1 y2 y3 y4 y5 => ⟨by omega, _, y1, by omega, M1, rfl, g1.trans y2, y3, y4, y5⟩
        rcases row with e0 | ⟨e12, l10, x16, xe⟩
        · obtain ⟨a, ha⟩ := h'.cw.2.2.2.hb
          have pg : (mP Mw (o + 1) 7).getD 0 = o + a := by rw [ha.2.1.1]; rfl
          obtain ⟨M1, c1, c2, c3, c4⟩ := ripen_c (n := 1) (Or.inr rfl) g2 ha g4 (by omega) (by decide) g3
          have c1' : fn_X2_ripen Mw (o + 59) 1 (o + a) = some M1 := c1
          have af : afT G (G 0) m (k + 1) = (ripS (gw G) (afT G (G 0) m k).2 1 (afT G (G 0) m k).1, (afT G (G 0) m k).2 + 1) := by rw [afT, if_pos e0]
          refine st M1 ?_ c2 (by rw [af]; exact c3) (by rw [af]; exact c4) (by rw [af]; exact ripS_bd g4 1)
          rw [head, if_pos e0, pg, bnd_e c1', nm_eq, nI_1]
        · have r10 := (h'.c l10 (a := 11) (i := k) rfl).trans xe
          rw [← hx] at r10
          have n0 : ¬ G 9 k = 0 := by rcases e12 with e | e <;> (rw [e]; decide)
          rcases e12 with e1 | e2
          · have af : afT G (G 0) m (k + 1) = (poS (gw G 1601) (gN G 10 k) (afT G (G 0) m k).1, (afT G (G 0) m k).2) := by rw [afT, if_neg n0, if_pos e1]
            obtain ⟨M1, c1, c2, c3⟩ := pour_c (mk := gw G 1601) g2 x16
            refine st M1 ?_ (c2.mono zc) (by rw [af]; exact c3) (by rw [af]; exact (c2.2.2.2.2 59 1 (by omega)).trans g3) (by rw [af]; exact poS_bd g4 (milk_bd h'.cw.2.2.2) x16)
            rw [head, if_neg n0, if_pos e1, r10, bnd_e c1, nm_eq, nI_1]
          · have n1 : ¬ G 9 k = 1 := by rw [e2]; decide
            have c3' := col3 (gN G 10 k) x16
            by_cases q : gN G 10 k % 4 < 3
            · have af : afT G (G 0) m (k + 1) = (swS (gN G 10 k) (gN G 10 k + 1) (afT G (G 0) m k).1, (afT G (G 0) m k).2) := by rw [afT, if_neg n0, if_neg n1, if_pos q]
              obtain ⟨M1, c1, c2, c3⟩ := swap_c g2 x16 (by omega : gN G 10 k + 1 < 16) (by omega)
              refine st M1 ?_ (c2.mono zc) (by rw [af]; exact c3) (by rw [af]; exact (c2.2.2.2.2 59 1 (by omega)).trans g3) (by rw [af]; exact swS_bd g4 x16 (by omega))
              rw [head, if_neg n0, if_neg n1, r10, if_pos (c3'.mpr q), nI_1, bnd_e c1, nm_eq, nI_1]
            · have af : afT G (G 0) m (k + 1) = afT G (G 0) m k := by rw [afT, if_neg n0, if_neg n1, if_neg q]
              refine st Mw ?_ SQ.rfl (by rw [af]; exact g2) (by rw [af]; exact g3) (by rw [af]; exact g4)
              rw [head, if_neg n0, if_neg n1, r10, if_neg (fun z => q (c3'.mp z)), nm_eq, nI_1]) (by decide)
  obtain ⟨r, h1, h2, h3⟩ := loop
  rw [n3]
  exact ⟨r, h1, h2, h3⟩
theorem goAft_m (h : MW M o G w) (hF : FV S m M o) {k : Nat} (hm : m + 1 ≤ 20000) (x0 : G 9 k = 0 ∨ ((G 9 k = 1 ∨ G 9 k = 2) ∧ gN G 10 k < 16 ∧ G 10 k = nI (gN G 10 k))) {y : Int32} (hy : ¬ G 9 k = 0 → y = G 10 k) {T : Nat → Int32} {t : Nat} (hT : (T, t) = if G 9 k = 0 then (ripS (gw G) m 1 S, m + 1) else if G 9 k = 1 then (poS (gw G 1601) (gN G 10 k) S, m) else if gN G 10 k % 4 < 3 then (swS (gN G 10 k) (gN G 10 k + 1) S, m) else (S, m)) : ∃ M1, fn_X9_goAfternoon M (o + 78) (G 9 k) y = some M1 ∧ SQ M M1 o Zm ∧ FV T t M1 o := by
  have hS := h.1
  rcases x0 with e0 | ⟨e12, x16, xe⟩
  · rw [if_pos e0] at hT
    cases hT
    obtain ⟨M1, c1, c2, c3⟩ := goMinute_m h hF hm
    refine ⟨M1, ?_, c2, c3⟩
    have n1 : ¬ (0 : Int32) = 1 := by decide
    have n2 : ¬ (0 : Int32) = 2 := by decide
    unfold fn_X9_goAfternoon jn_X9_goAfternoon_8 jn_X9_goAfternoon_24
    rw [e0, if_pos rfl, bnd_e c1, if_neg n1, if_neg n2]
  · have n0 : ¬ G 9 k = 0 := by rcases e12 with e | e <;> (rw [e]; decide)
    have hy := (hy n0).trans xe
    rw [if_neg n0] at hT
    rcases e12 with e1 | e2
    · rw [if_pos e1] at hT
      cases hT
      have mo := milkOf_m hS h.2.2.2 hF x16
      have n2 : ¬ (1 : Int32) = 2 := by decide
      have n0' : ¬ (1 : Int32) = 0 := by decide
      refine ⟨_, ?_, (SQ.rfl.sI (Z79_Zm 79 (gN G 10 k) ⟨rfl, x16⟩)), pourFV hF (milk_bd h.2.2.2) x16⟩
      rw [e1, hy]
      simp only [fn_X9_goAfternoon, jn_X9_goAfternoon_8, jn_X9_goAfternoon_24, n0', n2, mo, mt_sI, mt_sJ, mt_sP, mt_rI, mt_rJ, ml_sI, ml_sJ, ml_sP, ml_rI, ml_rJ, mP_sI, mP_sJ, mP_rI, mP_rJ, SHP_sI, SHP_sJ, SHP_rI, SHP_rJ, mI_sI, mI_rI, mI_sJ, mI_rJ, mI_sP, mJ_sI, mJ_rI, mJ_sP, mJ_sJ, mJ_rJ, gI_e, pI_e, ck_e, bnd_s, nm_eq, pr2_e, cnul_0, cnul_1, drf_1, sm_1, sm_2, aI_e, aJ_e, wI_e, wJ_e, aL_e, cpI_e, cpJ_e, Nat.reduceLeDiff, Nat.reduceEqDiff, Nat.add_left_cancel_iff, ad0, ad1, false_and, and_false, true_and, and_true, reduceIte, if_true, if_false, zb0, zb1, Int32.reduceLT, Int32.reduceLE, i10, nw1, nw2, nt1, nt2, not_true_eq_false, not_false_eq_true, mt_78, mt_79, ml_79, mt_80, ml_80, mt_81, ml_81, mt_82, ml_82, mt_83, ml_83, mt_84, ml_84, mt_85, ml_85, mt_86, ml_86, mt_87, ml_87, mt_88, ml_88, mt_89, ml_89, mt_90, ml_90, mt_91, ml_91, mt_92, ml_92, mt_93, ml_93, mt_94, ml_94, mt_95, ml_95, mt_96, ml_96, mt_97, ml_97, mt_98, ml_98, mt_99, ml_99, mt_100, ml_100, mt_101, ml_101, mt_102, ml_102, mt_103, ml_103, mt_104, ml_104, mt_105, ml_105, mt_106, ml_106, mt_107, ml_107, mt_108, ml_108, mt_109, ml_109, mt_110, ml_110, mt_111, ml_111, mt_112, ml_112, mt_113, ml_113, mt_114, ml_114, mt_115, ml_115, mt_116, ml_116, mt_117, ml_117, mt_118, ml_118, mt_119, ml_119, mt_120, ml_120, mt_121, ml_121, mt_122, ml_122, mt_123, ml_123, gP_78_2, gP_78_3, gP_78_4, gP_78_5, gP_78_6, gP_78_12, gP_78_13, gP_78_14, gP_78_15, gP_78_16, gP_78_17, gP_78_18, gP_78_19, gP_78_23, gP_78_24, gP_78_26, gP_78_27, gP_78_28, gP_78_31, gP_78_32, gP_78_34, gP_78_35, gP_78_36, gP_78_37, gP_78_40, gP_78_41, gP_78_42, gP_78_43, gP_78_52, gP_78_53, gP_78_54, gP_78_55, gP_78_56, gP_78_57, gP_78_58, gP_78_59, gP_78_60, gP_78_61, gP_78_62, gP_78_63, gP_78_65, gP_78_66, gP_78_67, gP_78_68, gP_78_69, hS, x16]
    · have n1 : ¬ G 9 k = 1 := by rw [e2]; decide
      rw [if_neg n1] at hT
      have d4 : nI (gN G 10 k) / 4 = nI (gN G 10 k / 4) := nI_div (b := 4) (by omega) (by decide)
      have m4 : nI (gN G 10 k) - nI (gN G 10 k / 4) * 4 = nI (gN G 10 k % 4) := by rw [← d4]; exact nI_mod 4 (by omega) (by decide)
      have n0' : ¬ (2 : Int32) = 0 := by decide
      have n1' : ¬ (2 : Int32) = 1 := by decide
      by_cases q : gN G 10 k % 4 < 3
      · rw [if_pos q] at hT
        cases hT
        have f : ¬ 3 ≤ nI (gN G 10 k % 4) := by show ¬ nI 3 ≤ nI _; rw [nI_leI (by decide) (by omega)]; omega
        obtain ⟨M1, c1, c2, c3⟩ := stirs_m hS hF x16 (by omega : gN G 10 k + 1 < 16) (by omega)
        refine ⟨M1, ?_, c2.mono Z79_Zm, c3⟩
        rw [e2, hy]
        simp only [fn_X9_goAfternoon, jn_X9_goAfternoon_8, jn_X9_goAfternoon_24, n0', n1', d4, m4, f, c1, nI_1, mt_sI, mt_sJ, mt_sP, mt_rI, mt_rJ, ml_sI, ml_sJ, ml_sP, ml_rI, ml_rJ, mP_sI, mP_sJ, mP_rI, mP_rJ, SHP_sI, SHP_sJ, SHP_rI, SHP_rJ, mI_sI, mI_rI, mI_sJ, mI_rJ, mI_sP, mJ_sI, mJ_rI, mJ_sP, mJ_sJ, mJ_rJ, gI_e, pI_e, ck_e, bnd_s, nm_eq, pr2_e, cnul_0, cnul_1, drf_1, sm_1, sm_2, aI_e, aJ_e, wI_e, wJ_e, aL_e, cpI_e, cpJ_e, Nat.reduceLeDiff, Nat.reduceEqDiff, Nat.add_left_cancel_iff, ad0, ad1, false_and, and_false, true_and, and_true, reduceIte, if_true, if_false, zb0, zb1, Int32.reduceLT, Int32.reduceLE, i10, nw1, nw2, nt1, nt2, not_true_eq_false, not_false_eq_true, mt_78, mt_79, ml_79, mt_80, ml_80, mt_81, ml_81, mt_82, ml_82, mt_83, ml_83, mt_84, ml_84, mt_85, ml_85, mt_86, ml_86, mt_87, ml_87, mt_88, ml_88, mt_89, ml_89, mt_90, ml_90, mt_91, ml_91, mt_92, ml_92, mt_93, ml_93, mt_94, ml_94, mt_95, ml_95, mt_96, ml_96, mt_97, ml_97, mt_98, ml_98, mt_99, ml_99, mt_100, ml_100, mt_101, ml_101, mt_102, ml_102, mt_103, ml_103, mt_104, ml_104, mt_105, ml_105, mt_106, ml_106, mt_107, ml_107, mt_108, ml_108, mt_109, ml_109, mt_110, ml_110, mt_111, ml_111, mt_112, ml_112, mt_113, ml_113, mt_114, ml_114, mt_115, ml_115, mt_116, ml_116, mt_117, ml_117, mt_118, ml_118, mt_119, ml_119, mt_120, ml_120, mt_121, ml_121, mt_122, ml_122, mt_123, ml_123, gP_78_2, gP_78_3, gP_78_4, gP_78_5, gP_78_6, gP_78_12, gP_78_13, gP_78_14, gP_78_15, gP_78_16, gP_78_17, gP_78_18, gP_78_19, gP_78_23, gP_78_24, gP_78_26, gP_78_27, gP_78_28, gP_78_31, gP_78_32, gP_78_34, gP_78_35, gP_78_36, gP_78_37, gP_78_40, gP_78_41, gP_78_42, gP_78_43, gP_78_52, gP_78_53, gP_78_54, gP_78_55, gP_78_56, gP_78_57, gP_78_58, gP_78_59, gP_78_60, gP_78_61, gP_78_62, gP_78_63, gP_78_65, gP_78_66, gP_78_67, gP_78_68, gP_78_69, hS]
      · rw [if_neg q] at hT
        cases hT
        have f : 3 ≤ nI (gN G 10 k % 4) := nI_le (a := 3) (by omega) (by omega)
        refine ⟨M, ?_, SQ.rfl, hF⟩
        rw [e2, hy]
        simp only [fn_X9_goAfternoon, jn_X9_goAfternoon_8, jn_X9_goAfternoon_24, n0', n1', d4, m4, f, mt_sI, mt_sJ, mt_sP, mt_rI, mt_rJ, ml_sI, ml_sJ, ml_sP, ml_rI, ml_rJ, mP_sI, mP_sJ, mP_rI, mP_rJ, SHP_sI, SHP_sJ, SHP_rI, SHP_rJ, mI_sI, mI_rI, mI_sJ, mI_rJ, mI_sP, mJ_sI, mJ_rI, mJ_sP, mJ_sJ, mJ_rJ, gI_e, pI_e, ck_e, bnd_s, nm_eq, pr2_e, cnul_0, cnul_1, drf_1, sm_1, sm_2, aI_e, aJ_e, wI_e, wJ_e, aL_e, cpI_e, cpJ_e, Nat.reduceLeDiff, Nat.reduceEqDiff, Nat.add_left_cancel_iff, ad0, ad1, false_and, and_false, true_and, and_true, reduceIte, if_true, if_false, zb0, zb1, Int32.reduceLT, Int32.reduceLE, i10, nw1, nw2, nt1, nt2, not_true_eq_false, not_false_eq_true, mt_78, mt_79, ml_79, mt_80, ml_80, mt_81, ml_81, mt_82, ml_82, mt_83, ml_83, mt_84, ml_84, mt_85, ml_85, mt_86, ml_86, mt_87, ml_87, mt_88, ml_88, mt_89, ml_89, mt_90, ml_90, mt_91, ml_91, mt_92, ml_92, mt_93, ml_93, mt_94, ml_94, mt_95, ml_95, mt_96, ml_96, mt_97, ml_97, mt_98, ml_98, mt_99, ml_99, mt_100, ml_100, mt_101, ml_101, mt_102, ml_102, mt_103, ml_103, mt_104, ml_104, mt_105, ml_105, mt_106, ml_106, mt_107, ml_107, mt_108, ml_108, mt_109, ml_109, mt_110, ml_110, mt_111, ml_111, mt_112, ml_112, mt_113, ml_113, mt_114, ml_114, mt_115, ml_115, mt_116, ml_116, mt_117, ml_117, mt_118, ml_118, mt_119, ml_119, mt_120, ml_120, mt_121, ml_121, mt_122, ml_122, mt_123, ml_123, gP_78_2, gP_78_3, gP_78_4, gP_78_5, gP_78_6, gP_78_12, gP_78_13, gP_78_14, gP_78_15, gP_78_16, gP_78_17, gP_78_18, gP_78_19, gP_78_23, gP_78_24, gP_78_26, gP_78_27, gP_78_28, gP_78_31, gP_78_32, gP_78_34, gP_78_35, gP_78_36, gP_78_37, gP_78_40, gP_78_41, gP_78_42, gP_78_43, gP_78_52, gP_78_53, gP_78_54, gP_78_55, gP_78_56, gP_78_57, gP_78_58, gP_78_59, gP_78_60, gP_78_61, gP_78_62, gP_78_63, gP_78_65, gP_78_66, gP_78_67, gP_78_68, gP_78_69, hS]
set_option maxHeartbeats 2000000 in
theorem ends_m (h : RR M o G) {M0 : QM} (m1 : m ≤ 9999) (s : SQ M M0 o Zs) (hF : FV (G 0) m M0 o) : ∃ M1, itr (fun s18 : Int32 × QM => lp_X9_ends_18 (o + 78) s18.1 s18.2) FU (0, M0) = some M1 ∧ SQ M0 M1 o Zm ∧ FV (afT G (G 0) m (gN G 1 4)).1 (afT G (G 0) m (gN G 1 4)).2 M1 o := by
  obtain ⟨n, n1, n2, n3⟩ := h.2.sc 4 (by decide)
  have n1' : n ≤ 10 := n1
  have mw0 := h.mw.sc (s.mono Zs_scr)
  have loop := itr_J (f := fun s18 : Int32 × QM => lp_X9_ends_18 (o + 78) s18.1 s18.2) (s0 := (0, M0)) (fun k z => k ≤ n ∧ ∃ Mw, z = (nI k, Mw) ∧ SQ M0 Mw o Zm ∧ FV (afT G (G 0) m k).1 (afT G (G 0) m k).2 Mw o) (fun r => SQ M0 r o Zm ∧ FV (afT G (G 0) m n).1 (afT G (G 0) m n).2 r o) 10
    ⟨Nat.zero_le _, M0, rfl, SQ.rfl, hF⟩
    (fun k z hz => by
      obtain ⟨hk, Mw, rfl, g1, g2⟩ := hz
      have mw := mw0.zm g1 (fun _ _ q => q)
      have hS := mw.1
      have un : ∀ a k, (a = 78 ∧ k = 38) ∨ a = 103 ∨ a = 104 → mI Mw (o + a) k = mI M (o + a) k := fun a k q => (g1.2.2.2.2 a k (by unfold Zm ZB; omega)).trans (s.2.2.2.2 a k (by unfold Zs; omega))
      have sz := (un 78 38 (by omega)).trans ((h.m (Lv_1 (i := 4) (by decide)) (a := 78) (i := 38) rfl).trans n2)
      show (∃ r, lp_X9_ends_18 (o + 78) (nI k) Mw = some (.inr r) ∧ _) ∨ _ ∧ ∃ s', lp_X9_ends_18 (o + 78) (nI k) Mw = some (.inl s') ∧ _
      by_cases e : k = n
      · left
        subst e
        have f1 : nI k ≤ nI k := nI_le (Nat.le_refl _) (by omega)
        refine ⟨Mw, ?_, g1, g2⟩
        simp only [lp_X9_ends_18, sz, f1, mt_sI, mt_sJ, mt_sP, mt_rI, mt_rJ, ml_sI, ml_sJ, ml_sP, ml_rI, ml_rJ, mP_sI, mP_sJ, mP_rI, mP_rJ, SHP_sI, SHP_sJ, SHP_rI, SHP_rJ, mI_sI, mI_rI, mI_sJ, mI_rJ, mI_sP, mJ_sI, mJ_rI, mJ_sP, mJ_sJ, mJ_rJ, gI_e, pI_e, ck_e, bnd_s, nm_eq, pr2_e, cnul_0, cnul_1, drf_1, sm_1, sm_2, aI_e, aJ_e, wI_e, wJ_e, aL_e, cpI_e, cpJ_e, Nat.reduceLeDiff, Nat.reduceEqDiff, Nat.add_left_cancel_iff, ad0, ad1, false_and, and_false, true_and, and_true, reduceIte, if_true, if_false, zb0, zb1, Int32.reduceLT, Int32.reduceLE, i10, nw1, nw2, nt1, nt2, not_true_eq_false, not_false_eq_true, mt_78, mt_79, ml_79, mt_80, ml_80, mt_81, ml_81, mt_82, ml_82, mt_83, ml_83, mt_84, ml_84, mt_85, ml_85, mt_86, ml_86, mt_87, ml_87, mt_88, ml_88, mt_89, ml_89, mt_90, ml_90, mt_91, ml_91, mt_92, ml_92, mt_93, ml_93, mt_94, ml_94, mt_95, ml_95, mt_96, ml_96, mt_97, ml_97, mt_98, ml_98, mt_99, ml_99, mt_100, ml_100, mt_101, ml_101, mt_102, ml_102, mt_103, ml_103, mt_104, ml_104, mt_105, ml_105, mt_106, ml_106, mt_107, ml_107, mt_108, ml_108, mt_109, ml_109, mt_110, ml_110, mt_111, ml_111, mt_112, ml_112, mt_113, ml_113, mt_114, ml_114, mt_115, ml_115, mt_116, ml_116, mt_117, ml_117, mt_118, ml_118, mt_119, ml_119, mt_120, ml_120, mt_121, ml_121, mt_122, ml_122, mt_123, ml_123, gP_78_2, gP_78_3, gP_78_4, gP_78_5, gP_78_6, gP_78_12, gP_78_13, gP_78_14, gP_78_15, gP_78_16, gP_78_17, gP_78_18, gP_78_19, gP_78_23, gP_78_24, gP_78_26, gP_78_27, gP_78_28, gP_78_31, gP_78_32, gP_78_34, gP_78_35, gP_78_36, gP_78_37, gP_78_40, gP_78_41, gP_78_42, gP_78_43, gP_78_52, gP_78_53, gP_78_54, gP_78_55, gP_78_56, gP_78_57, gP_78_58, gP_78_59, gP_78_60, gP_78_61, gP_78_62, gP_78_63, gP_78_65, gP_78_66, gP_78_67, gP_78_68, gP_78_69, hS]
      · right
        have hk' : k < n := by omega
        have f1 : ¬ nI n ≤ nI k := by rw [nI_leI (by omega) (by omega)]; omega
        obtain ⟨k10, l9, row⟩ := af_row (M := M) h (k := k) (by rw [n3]; exact hk')
        have r9 := (un 103 k (by omega)).trans (h.m l9 (a := 103) (i := k) rfl)
        have am := afT_m (G := G) (S := G 0) (m := m) k
        obtain ⟨y, hy⟩ : ∃ y, y = mI Mw (o + 104) k := ⟨_, rfl⟩
        have hy2 : ¬ G 9 k = 0 → y = G 10 k := by
          intro q
          rcases row with row | ⟨-, l10, -, -⟩
          · exact absurd row q
          · rw [hy]; exact (un 104 k (by omega)).trans (h.m l10 (a := 104) (i := k) rfl)
        obtain ⟨M1, c1, c2, c3⟩ := goAft_m (k := k) (y := y) (T := (afT G (G 0) m (k + 1)).1) (t := (afT G (G 0) m (k + 1)).2) mw g2 (by omega) (by rcases row with row | ⟨a, -, b, c⟩; exact Or.inl row; exact Or.inr ⟨a, b, c⟩) hy2 rfl
        refine ⟨by omega, (nI (k + 1), M1), ?_, by omega, M1, rfl, g1.trans c2, c3⟩
        simp only [lp_X9_ends_18, sz, f1, r9, ← hy, c1, nI_1, mt_sI, mt_sJ, mt_sP, mt_rI, mt_rJ, ml_sI, ml_sJ, ml_sP, ml_rI, ml_rJ, mP_sI, mP_sJ, mP_rI, mP_rJ, SHP_sI, SHP_sJ, SHP_rI, SHP_rJ, mI_sI, mI_rI, mI_sJ, mI_rJ, mI_sP, mJ_sI, mJ_rI, mJ_sP, mJ_sJ, mJ_rJ, gI_e, pI_e, ck_e, bnd_s, nm_eq, pr2_e, cnul_0, cnul_1, drf_1, sm_1, sm_2, aI_e, aJ_e, wI_e, wJ_e, aL_e, cpI_e, cpJ_e, Nat.reduceLeDiff, Nat.reduceEqDiff, Nat.add_left_cancel_iff, ad0, ad1, false_and, and_false, true_and, and_true, reduceIte, if_true, if_false, zb0, zb1, Int32.reduceLT, Int32.reduceLE, i10, nw1, nw2, nt1, nt2, not_true_eq_false, not_false_eq_true, mt_78, mt_79, ml_79, mt_80, ml_80, mt_81, ml_81, mt_82, ml_82, mt_83, ml_83, mt_84, ml_84, mt_85, ml_85, mt_86, ml_86, mt_87, ml_87, mt_88, ml_88, mt_89, ml_89, mt_90, ml_90, mt_91, ml_91, mt_92, ml_92, mt_93, ml_93, mt_94, ml_94, mt_95, ml_95, mt_96, ml_96, mt_97, ml_97, mt_98, ml_98, mt_99, ml_99, mt_100, ml_100, mt_101, ml_101, mt_102, ml_102, mt_103, ml_103, mt_104, ml_104, mt_105, ml_105, mt_106, ml_106, mt_107, ml_107, mt_108, ml_108, mt_109, ml_109, mt_110, ml_110, mt_111, ml_111, mt_112, ml_112, mt_113, ml_113, mt_114, ml_114, mt_115, ml_115, mt_116, ml_116, mt_117, ml_117, mt_118, ml_118, mt_119, ml_119, mt_120, ml_120, mt_121, ml_121, mt_122, ml_122, mt_123, ml_123, gP_78_2, gP_78_3, gP_78_4, gP_78_5, gP_78_6, gP_78_12, gP_78_13, gP_78_14, gP_78_15, gP_78_16, gP_78_17, gP_78_18, gP_78_19, gP_78_23, gP_78_24, gP_78_26, gP_78_27, gP_78_28, gP_78_31, gP_78_32, gP_78_34, gP_78_35, gP_78_36, gP_78_37, gP_78_40, gP_78_41, gP_78_42, gP_78_43, gP_78_52, gP_78_53, gP_78_54, gP_78_55, gP_78_56, gP_78_57, gP_78_58, gP_78_59, gP_78_60, gP_78_61, gP_78_62, gP_78_63, gP_78_65, gP_78_66, gP_78_67, gP_78_68, gP_78_69, hS, k10]) (by decide)
  obtain ⟨r, h1, h2, h3⟩ := loop
  rw [n3]
  exact ⟨r, h1, h2, h3⟩
end EN1
set_option maxHeartbeats 2000000 in
theorem op_ends {M : QM} {o : Nat} {G : GG} (h : RR M o G) (p1 : Int32) : ∃ v M1 M2 G', fn_X8_ends M o p1 = some (v, M1) ∧ fn_X9_ends M1 (o + 78) p1 = some (v, M2) ∧ RR M2 o G' := by
  have hS := h.1.1
  rcases rng p1 2 2 1 rfl rfl (by decide) (by decide) with ⟨p, hp, rfl, d1, d2, d3⟩ | ⟨d1, d2, d3⟩
  · obtain ⟨m, m1, m2, m3, m4⟩ := h.fv
    obtain ⟨M0, a1, a2, a3, a4⟩ := become_c hS h.cp m4
    obtain ⟨M1, s1, s2, s3⟩ := ends_c h m1 a2 a3 a4
    have h1 := h.scr (s2.mono Zc59_scr)
    have hS1 := h1.1.1
    have m31 : FV (G 0) m M1 o := m3.s s2 (fun c _ => by unfold Zc; omega) (by unfold Zc; omega)
    obtain ⟨M2, c1, c2, c3, c4⟩ := save_m hS1
    have m32 : FV (G 0) m M2 o := m31.s c2 (fun c _ => by unfold Zs; omega) (by unfold Zs; omega)
    obtain ⟨M3, e1, e2, e3⟩ := ends_m h1 m1 c2 m32
    have mw3 := (h1.mw.sc (c2.mono Zs_scr)).zm e2 (fun _ _ q => q)
    have hS3 := mw3.1
    have hS0 := a2.shp hS
    rcases (by omega : p = 0 ∨ p = 1) with rfl | rfl
    · have cr := crossers_c h1.cw s3
      have ct : mI M3 (o + 78) 25 = 0 := ((e2.2.2.2.2 78 25 (by unfold Zm ZB; omega)).trans (c2.2.2.2.2 78 25 (by unfold Zs; omega))).trans h1.ct
      obtain ⟨M4, g1, g2⟩ := crossers_m mw3 e3 ct
      obtain ⟨M5, f1, f2⟩ := back_m hS1 c2 c3 c4 (e2.trans (g2.mono ZB_Zm)) Zm_b Zm_97 Zm_30
      have hS4 := g2.shp hS3
      have z0 : nI 0 = 0 := nI_0
      refine ⟨mkR (fun p => (crG G (afT G (G 0) m (gN G 1 4)).1 p).isSome) (gN G 1 1), M1, M5, G, ?_, ?_, h1.scr f2⟩
      · rw [z0] at d1
        simp only [fn_X8_ends, z0, d1, a1, s1, cr, mt_sI, mt_sJ, mt_sP, mt_rI, mt_rJ, ml_sI, ml_sJ, ml_sP, ml_rI, ml_rJ, mP_sI, mP_sJ, mP_rI, mP_rJ, SHP_sI, SHP_sJ, SHP_rI, SHP_rJ, mI_sI, mI_rI, mI_sJ, mI_rJ, mI_sP, mJ_sI, mJ_rI, mJ_sP, mJ_sJ, mJ_rJ, gI_e, pI_e, ck_e, bnd_s, nm_eq, pr2_e, cnul_0, cnul_1, drf_1, sm_1, sm_2, aI_e, aJ_e, wI_e, wJ_e, aL_e, cpI_e, cpJ_e, Nat.reduceLeDiff, Nat.reduceEqDiff, Nat.add_left_cancel_iff, ad0, ad1, false_and, and_false, true_and, and_true, reduceIte, if_true, if_false, zb0, zb1, Int32.reduceLT, Int32.reduceLE, i10, nw1, nw2, nt1, nt2, not_true_eq_false, not_false_eq_true, mt_0, mt_1, mt_2, mt_3, ml_3, mt_4, ml_4, mt_5, mt_6, ml_6, mt_7, ml_7, mt_8, ml_8, mt_9, mt_10, ml_10, mt_11, ml_11, mt_12, ml_12, mt_13, mt_14, ml_14, mt_15, ml_15, mt_16, ml_16, mt_17, mt_18, ml_18, mt_19, mt_20, ml_20, mt_21, mt_22, ml_22, mt_23, mt_24, ml_24, mt_25, mt_26, ml_26, mt_53, mt_54, ml_54, mt_55, ml_55, mt_56, mt_57, ml_57, mt_58, ml_58, mt_59, mt_60, ml_60, mt_61, mt_62, ml_62, mt_63, ml_63, mt_64, mt_65, ml_65, mt_66, mt_67, ml_67, mt_68, mt_69, ml_69, mt_70, mt_71, ml_71, mt_72, mt_73, ml_73, mt_74, mt_75, ml_75, mt_76, mt_77, ml_77, gP_0_0, gP_0_1, gP_0_4, gP_0_5, gP_0_6, gP_0_7, gP_0_8, gP_0_9, gP_1_0, gP_1_1, gP_1_4, gP_1_5, gP_1_6, gP_2_0, gP_5_1, gP_5_2, gP_5_3, gP_9_1, gP_9_2, gP_9_3, gP_13_1, gP_13_2, gP_13_3, gP_17_3, gP_19_3, gP_21_3, gP_23_3, gP_25_3, gP_53_0, gP_53_6, gP_56_0, gP_59_0, gP_61_3, gP_64_0, gP_66_2, gP_68_2, gP_70_2, gP_72_2, gP_74_2, gP_76_2, aP_4, mtw_4, mtl_4, mll_4, gPw_4, aP_58, mtw_58, mtl_58, mll_58, gPw_58, hS, hS0, hS1]
      · rw [z0] at d2
        simp only [fn_X9_ends, z0, d2, c1, e1, g1, f1, mt_sI, mt_sJ, mt_sP, mt_rI, mt_rJ, ml_sI, ml_sJ, ml_sP, ml_rI, ml_rJ, mP_sI, mP_sJ, mP_rI, mP_rJ, SHP_sI, SHP_sJ, SHP_rI, SHP_rJ, mI_sI, mI_rI, mI_sJ, mI_rJ, mI_sP, mJ_sI, mJ_rI, mJ_sP, mJ_sJ, mJ_rJ, gI_e, pI_e, ck_e, bnd_s, nm_eq, pr2_e, cnul_0, cnul_1, drf_1, sm_1, sm_2, aI_e, aJ_e, wI_e, wJ_e, aL_e, cpI_e, cpJ_e, Nat.reduceLeDiff, Nat.reduceEqDiff, Nat.add_left_cancel_iff, ad0, ad1, false_and, and_false, true_and, and_true, reduceIte, if_true, if_false, zb0, zb1, Int32.reduceLT, Int32.reduceLE, i10, nw1, nw2, nt1, nt2, not_true_eq_false, not_false_eq_true, mt_78, mt_79, ml_79, mt_80, ml_80, mt_81, ml_81, mt_82, ml_82, mt_83, ml_83, mt_84, ml_84, mt_85, ml_85, mt_86, ml_86, mt_87, ml_87, mt_88, ml_88, mt_89, ml_89, mt_90, ml_90, mt_91, ml_91, mt_92, ml_92, mt_93, ml_93, mt_94, ml_94, mt_95, ml_95, mt_96, ml_96, mt_97, ml_97, mt_98, ml_98, mt_99, ml_99, mt_100, ml_100, mt_101, ml_101, mt_102, ml_102, mt_103, ml_103, mt_104, ml_104, mt_105, ml_105, mt_106, ml_106, mt_107, ml_107, mt_108, ml_108, mt_109, ml_109, mt_110, ml_110, mt_111, ml_111, mt_112, ml_112, mt_113, ml_113, mt_114, ml_114, mt_115, ml_115, mt_116, ml_116, mt_117, ml_117, mt_118, ml_118, mt_119, ml_119, mt_120, ml_120, mt_121, ml_121, mt_122, ml_122, mt_123, ml_123, gP_78_2, gP_78_3, gP_78_4, gP_78_5, gP_78_6, gP_78_12, gP_78_13, gP_78_14, gP_78_15, gP_78_16, gP_78_17, gP_78_18, gP_78_19, gP_78_23, gP_78_24, gP_78_26, gP_78_27, gP_78_28, gP_78_31, gP_78_32, gP_78_34, gP_78_35, gP_78_36, gP_78_37, gP_78_40, gP_78_41, gP_78_42, gP_78_43, gP_78_52, gP_78_53, gP_78_54, gP_78_55, gP_78_56, gP_78_57, gP_78_58, gP_78_59, gP_78_60, gP_78_61, gP_78_62, gP_78_63, gP_78_65, gP_78_66, gP_78_67, gP_78_68, gP_78_69, hS1, hS3, hS4]
    · have cr := together_c s3
      have al := allStrong_m hS3 e3
      obtain ⟨M5, f1, f2⟩ := back_m hS1 c2 c3 c4 e2 Zm_b Zm_97 Zm_30
      have z1 : ¬ nI 1 = 0 := by decide
      refine ⟨sumI (afT G (G 0) m (gN G 1 4)).1 16, M1, M5, G, ?_, ?_, h1.scr f2⟩
      · simp only [fn_X8_ends, z1, d1, a1, s1, cr, mt_sI, mt_sJ, mt_sP, mt_rI, mt_rJ, ml_sI, ml_sJ, ml_sP, ml_rI, ml_rJ, mP_sI, mP_sJ, mP_rI, mP_rJ, SHP_sI, SHP_sJ, SHP_rI, SHP_rJ, mI_sI, mI_rI, mI_sJ, mI_rJ, mI_sP, mJ_sI, mJ_rI, mJ_sP, mJ_sJ, mJ_rJ, gI_e, pI_e, ck_e, bnd_s, nm_eq, pr2_e, cnul_0, cnul_1, drf_1, sm_1, sm_2, aI_e, aJ_e, wI_e, wJ_e, aL_e, cpI_e, cpJ_e, Nat.reduceLeDiff, Nat.reduceEqDiff, Nat.add_left_cancel_iff, ad0, ad1, false_and, and_false, true_and, and_true, reduceIte, if_true, if_false, zb0, zb1, Int32.reduceLT, Int32.reduceLE, i10, nw1, nw2, nt1, nt2, not_true_eq_false, not_false_eq_true, mt_0, mt_1, mt_2, mt_3, ml_3, mt_4, ml_4, mt_5, mt_6, ml_6, mt_7, ml_7, mt_8, ml_8, mt_9, mt_10, ml_10, mt_11, ml_11, mt_12, ml_12, mt_13, mt_14, ml_14, mt_15, ml_15, mt_16, ml_16, mt_17, mt_18, ml_18, mt_19, mt_20, ml_20, mt_21, mt_22, ml_22, mt_23, mt_24, ml_24, mt_25, mt_26, ml_26, mt_53, mt_54, ml_54, mt_55, ml_55, mt_56, mt_57, ml_57, mt_58, ml_58, mt_59, mt_60, ml_60, mt_61, mt_62, ml_62, mt_63, ml_63, mt_64, mt_65, ml_65, mt_66, mt_67, ml_67, mt_68, mt_69, ml_69, mt_70, mt_71, ml_71, mt_72, mt_73, ml_73, mt_74, mt_75, ml_75, mt_76, mt_77, ml_77, gP_0_0, gP_0_1, gP_0_4, gP_0_5, gP_0_6, gP_0_7, gP_0_8, gP_0_9, gP_1_0, gP_1_1, gP_1_4, gP_1_5, gP_1_6, gP_2_0, gP_5_1, gP_5_2, gP_5_3, gP_9_1, gP_9_2, gP_9_3, gP_13_1, gP_13_2, gP_13_3, gP_17_3, gP_19_3, gP_21_3, gP_23_3, gP_25_3, gP_53_0, gP_53_6, gP_56_0, gP_59_0, gP_61_3, gP_64_0, gP_66_2, gP_68_2, gP_70_2, gP_72_2, gP_74_2, gP_76_2, aP_4, mtw_4, mtl_4, mll_4, gPw_4, aP_58, mtw_58, mtl_58, mll_58, gPw_58, hS, hS0, hS1]
      · simp only [fn_X9_ends, z1, d2, c1, e1, al, f1, mt_sI, mt_sJ, mt_sP, mt_rI, mt_rJ, ml_sI, ml_sJ, ml_sP, ml_rI, ml_rJ, mP_sI, mP_sJ, mP_rI, mP_rJ, SHP_sI, SHP_sJ, SHP_rI, SHP_rJ, mI_sI, mI_rI, mI_sJ, mI_rJ, mI_sP, mJ_sI, mJ_rI, mJ_sP, mJ_sJ, mJ_rJ, gI_e, pI_e, ck_e, bnd_s, nm_eq, pr2_e, cnul_0, cnul_1, drf_1, sm_1, sm_2, aI_e, aJ_e, wI_e, wJ_e, aL_e, cpI_e, cpJ_e, Nat.reduceLeDiff, Nat.reduceEqDiff, Nat.add_left_cancel_iff, ad0, ad1, false_and, and_false, true_and, and_true, reduceIte, if_true, if_false, zb0, zb1, Int32.reduceLT, Int32.reduceLE, i10, nw1, nw2, nt1, nt2, not_true_eq_false, not_false_eq_true, mt_78, mt_79, ml_79, mt_80, ml_80, mt_81, ml_81, mt_82, ml_82, mt_83, ml_83, mt_84, ml_84, mt_85, ml_85, mt_86, ml_86, mt_87, ml_87, mt_88, ml_88, mt_89, ml_89, mt_90, ml_90, mt_91, ml_91, mt_92, ml_92, mt_93, ml_93, mt_94, ml_94, mt_95, ml_95, mt_96, ml_96, mt_97, ml_97, mt_98, ml_98, mt_99, ml_99, mt_100, ml_100, mt_101, ml_101, mt_102, ml_102, mt_103, ml_103, mt_104, ml_104, mt_105, ml_105, mt_106, ml_106, mt_107, ml_107, mt_108, ml_108, mt_109, ml_109, mt_110, ml_110, mt_111, ml_111, mt_112, ml_112, mt_113, ml_113, mt_114, ml_114, mt_115, ml_115, mt_116, ml_116, mt_117, ml_117, mt_118, ml_118, mt_119, ml_119, mt_120, ml_120, mt_121, ml_121, mt_122, ml_122, mt_123, ml_123, gP_78_2, gP_78_3, gP_78_4, gP_78_5, gP_78_6, gP_78_12, gP_78_13, gP_78_14, gP_78_15, gP_78_16, gP_78_17, gP_78_18, gP_78_19, gP_78_23, gP_78_24, gP_78_26, gP_78_27, gP_78_28, gP_78_31, gP_78_32, gP_78_34, gP_78_35, gP_78_36, gP_78_37, gP_78_40, gP_78_41, gP_78_42, gP_78_43, gP_78_52, gP_78_53, gP_78_54, gP_78_55, gP_78_56, gP_78_57, gP_78_58, gP_78_59, gP_78_60, gP_78_61, gP_78_62, gP_78_63, gP_78_65, gP_78_66, gP_78_67, gP_78_68, gP_78_69, hS1, hS3]
  · exact ⟨-1, M, M, G, by simp only [fn_X8_ends, d1, Nat.reduceLeDiff, Nat.reduceEqDiff, Nat.add_left_cancel_iff, ad0, ad1, false_and, and_false, true_and, and_true, reduceIte, if_true, if_false, zb0, zb1, Int32.reduceLT, Int32.reduceLE, i10, nw1, nw2, nt1, nt2, not_true_eq_false, not_false_eq_true], by simp only [fn_X9_ends, d2, Nat.reduceLeDiff, Nat.reduceEqDiff, Nat.add_left_cancel_iff, ad0, ad1, false_and, and_false, true_and, and_true, reduceIte, if_true, if_false, zb0, zb1, Int32.reduceLT, Int32.reduceLE, i10, nw1, nw2, nt1, nt2, not_true_eq_false, not_false_eq_true], h⟩
