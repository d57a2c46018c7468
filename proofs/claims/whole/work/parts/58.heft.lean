/-! ===== heft, can: printed by tools/heft.py ===== -/
theorem lnG_u {G : GG} {j p : Nat} {x : Int32} (hj : ¬ j = 5) {q : Nat} : lnG (Gu G j p x) q = lnG G q := by
  funext r
  unfold lnG
  rw [Gu_j (fun e => hj e.symm)]
theorem crG_4 {G : GG} {p : Nat} {x : Int32} {T : Nat → Int32} : crG (Gu G 4 p x) T p = crK (gw G 1600) (G 2 p) (G 3 p) x (lnG G p) T := by
  unfold crG
  rw [gw_u (by decide) (by decide), lnG_u (by decide), Gu_j (by decide), Gu_j (by decide), Gu_eq]
theorem crG_3 {G : GG} {p : Nat} {x : Int32} {T : Nat → Int32} : crG (Gu G 3 p x) T p = crK (gw G 1600) (G 2 p) x (G 4 p) (lnG G p) T := by
  unfold crG
  rw [gw_u (by decide) (by decide), lnG_u (by decide), Gu_j (by decide), Gu_j (j := 4) (by decide), Gu_eq]
theorem crG_o {G : GG} {j p q : Nat} {x : Int32} {T : Nat → Int32} (hj : j = 3 ∨ j = 4) (h : ¬ q = p) : crG (Gu G j p x) T q = crG G T q := by
  unfold crG
  rw [gw_u (by omega) (by omega), lnG_u (by omega), Gu_j (by omega), Gu_ne (by omega), Gu_ne (by omega)]
def Zi : Nat → Nat → Prop := fun a k => Zg a k ∨ a = 63
section HJ4
variable {M M1 N Mw : QM} {o w m p k : Nat} {G : GG}
def hePf (G : GG) (m p n i : Nat) : Bool := seA G (Gu G 4 p (nI i)) m n
set_option maxHeartbeats 2000000 in
theorem heft1_c (h : CW M o G w) (hC : CP M o 59 (seS G m k)) (hW : WK M o 61 (G 2 p) (G 3 p) (G 4 p) (lnG G p)) (hp : p < w) (k5 : k < 5) (hq : gN G 6 k < w) (h6 : mI M (o + 6) k = nI (gN G 6 k)) (h8 : mI M (o + 8) k = G 8 k) (hf : ∀ i, i < 100 → mI M (o + 63) i = lI (hePf G m p k i)) : ∃ M1, itr (fun s75 : Int32 × QM => lp_X8_heft_75 o (nI p) (nI k) s75.1 s75.2) FU (0, M) = some M1 ∧ SQ M M1 o Zh ∧ ∀ i, i < 100 → mI M1 (o + 63) i = lI (hePf G m p (k + 1) i) := by
  have hp5 : p < 5 := by have := h.2.1.2; omega
  have loop := itr_J (f := fun s75 : Int32 × QM => lp_X8_heft_75 o (nI p) (nI k) s75.1 s75.2) (s0 := (0, M)) (fun n z => n ≤ 100 ∧ ∃ Mw x, z = (nI n, Mw) ∧ SQ M Mw o Zi ∧ WK Mw o 61 (G 2 p) (G 3 p) x (lnG G p) ∧ ∀ i, i < 100 → mI Mw (o + 63) i = lI (if i < n then hePf G m p (k + 1) i else hePf G m p k i)) (fun r => SQ M r o Zi ∧ ∀ i, i < 100 → mI r (o + 63) i = lI (hePf G m p (k + 1) i)) 100
    ⟨Nat.zero_le _, M, _, rfl, SQ.rfl, hW, fun i hi => by rw [if_neg (Nat.not_lt_zero _)]; exact hf i hi⟩
    (fun n z hz => by
      obtain ⟨hn, Mw, x, rfl, g1, g2, g3⟩ := hz
      show (∃ r, lp_X8_heft_75 o (nI p) (nI k) (nI n) Mw = some (.inr r) ∧ _) ∨ _ ∧ ∃ s', lp_X8_heft_75 o (nI p) (nI k) (nI n) Mw = some (.inl s') ∧ _
      by_cases e : n = 100
      · left
        subst e
        refine ⟨Mw, ?_, g1, fun i hi => by rw [g3 i hi, if_pos hi]⟩
        unfold lp_X8_heft_75
        rw [if_pos (by decide)]
      · right
        have hn' : n < 100 := by omega
        have n100 : n < 100 := by omega
        have f1 : ¬ (100 : Int32) ≤ nI n := by show ¬ nI 100 ≤ nI n; rw [nI_leI (by decide) (by omega)]; omega
        have zi : ∀ a k, Zi a k → Zh a k := fun a k q => by rcases q with q | q; exact Or.inr (Or.inl q); exact Or.inr (Or.inr q)
        have s2 : SQ M (sI Mw (o + 61) 2 (nI n)) o Zi := g1.sI (Or.inl (Or.inl ⟨rfl, by decide⟩))
        have h2 := h.sc (s2.mono fun a k q => Zh_scr a k (zi a k q))
        have hS := g1.shp h.1
        have hS2 := h2.1
        have w2 : WK (sI Mw (o + 61) 2 (nI n)) o 61 (G 2 p) (G 3 p) (nI n) (lnG G p) := g2.put (j := 2) (by decide)
        have c2 : CP (sI Mw (o + 61) 2 (nI n)) o 59 (seS G m k) := hC.fr s2 (fun k _ => by unfold Zi Zg; omega)
        have so := seenSo_c (G1 := Gu G 4 p (nI n)) (p := p) h2 c2 w2 crG_4.symm (fun q hq => crG_o (by decide) hq) k5 hp5 hq ((s2.2.2.2.2 6 k (by unfold Zi Zg; omega)).trans h6) ((s2.2.2.2.2 8 k (by unfold Zi Zg; omega)).trans h8)
        have so : fn_X8_isSeenSo (sI Mw (o + 61) 2 (nI n)) o (nI k) (nI p) = some (lI (seB G (Gu G 4 p (nI n)) m k)) := so
        have r1 := g3 n hn'
        rw [if_neg (Nat.lt_irrefl _)] at r1
        have nx : hePf G m p (k + 1) n = (hePf G m p k n && seB G (Gu G 4 p (nI n)) m k) := rfl
        refine ⟨hn', (nI (n + 1), sI (sI Mw (o + 61) 2 (nI n)) (o + 63) n (lI (hePf G m p (k + 1) n))), ?_, by omega, _, nI n, rfl, s2.sI (Or.inr rfl), ?_, fun i hi => ?_⟩
        · rw [nx]
          cases e1 : hePf G m p k n with
          | false =>
            rw [e1] at r1
            simp only [lp_X8_heft_75, f1, r1, lI_f, Bool.false_and, nI_1, mt_sI, mt_sJ, mt_sP, mt_rI, mt_rJ, ml_sI, ml_sJ, ml_sP, ml_rI, ml_rJ, mP_sI, mP_sJ, mP_rI, mP_rJ, SHP_sI, SHP_sJ, SHP_rI, SHP_rJ, mI_sI, mI_rI, mI_sJ, mI_rJ, mI_sP, mJ_sI, mJ_rI, mJ_sP, mJ_sJ, mJ_rJ, gI_e, pI_e, ck_e, bnd_s, nm_eq, pr2_e, cnul_0, cnul_1, drf_1, sm_1, sm_2, aI_e, aJ_e, wI_e, wJ_e, aL_e, cpI_e, cpJ_e, Nat.reduceLeDiff, Nat.reduceEqDiff, Nat.add_left_cancel_iff, ad0, ad1, false_and, and_false, true_and, and_true, reduceIte, if_true, if_false, zb0, zb1, Int32.reduceLT, Int32.reduceLE, i10, nw1, nw2, nt1, nt2, not_true_eq_false, not_false_eq_true, mt_0, mt_1, mt_2, mt_3, ml_3, mt_4, ml_4, mt_5, mt_6, ml_6, mt_7, ml_7, mt_8, ml_8, mt_9, mt_10, ml_10, mt_11, ml_11, mt_12, ml_12, mt_13, mt_14, ml_14, mt_15, ml_15, mt_16, ml_16, mt_17, mt_18, ml_18, mt_19, mt_20, ml_20, mt_21, mt_22, ml_22, mt_23, mt_24, ml_24, mt_25, mt_26, ml_26, mt_53, mt_54, ml_54, mt_55, ml_55, mt_56, mt_57, ml_57, mt_58, ml_58, mt_59, mt_60, ml_60, mt_61, mt_62, ml_62, mt_63, ml_63, mt_64, mt_65, ml_65, mt_66, mt_67, ml_67, mt_68, mt_69, ml_69, mt_70, mt_71, ml_71, mt_72, mt_73, ml_73, mt_74, mt_75, ml_75, mt_76, mt_77, ml_77, gP_0_0, gP_0_1, gP_0_4, gP_0_5, gP_0_6, gP_0_7, gP_0_8, gP_0_9, gP_1_0, gP_1_1, gP_1_4, gP_1_5, gP_1_6, gP_2_0, gP_5_1, gP_5_2, gP_5_3, gP_9_1, gP_9_2, gP_9_3, gP_13_1, gP_13_2, gP_13_3, gP_17_3, gP_19_3, gP_21_3, gP_23_3, gP_25_3, gP_53_0, gP_53_6, gP_56_0, gP_59_0, gP_61_3, gP_64_0, gP_66_2, gP_68_2, gP_70_2, gP_72_2, gP_74_2, gP_76_2, aP_4, mtw_4, mtl_4, mll_4, gPw_4, aP_58, mtw_58, mtl_58, mll_58, gPw_58, hS, n100]
          | true =>
            rw [e1] at r1
            cases e2 : seB G (Gu G 4 p (nI n)) m k with
            | false =>
              rw [e2] at so
              simp only [lp_X8_heft_75, f1, r1, so, lI_f, lI_t, Bool.true_and, nI_1, mt_sI, mt_sJ, mt_sP, mt_rI, mt_rJ, ml_sI, ml_sJ, ml_sP, ml_rI, ml_rJ, mP_sI, mP_sJ, mP_rI, mP_rJ, SHP_sI, SHP_sJ, SHP_rI, SHP_rJ, mI_sI, mI_rI, mI_sJ, mI_rJ, mI_sP, mJ_sI, mJ_rI, mJ_sP, mJ_sJ, mJ_rJ, gI_e, pI_e, ck_e, bnd_s, nm_eq, pr2_e, cnul_0, cnul_1, drf_1, sm_1, sm_2, aI_e, aJ_e, wI_e, wJ_e, aL_e, cpI_e, cpJ_e, Nat.reduceLeDiff, Nat.reduceEqDiff, Nat.add_left_cancel_iff, ad0, ad1, false_and, and_false, true_and, and_true, reduceIte, if_true, if_false, zb0, zb1, Int32.reduceLT, Int32.reduceLE, i10, nw1, nw2, nt1, nt2, not_true_eq_false, not_false_eq_true, mt_0, mt_1, mt_2, mt_3, ml_3, mt_4, ml_4, mt_5, mt_6, ml_6, mt_7, ml_7, mt_8, ml_8, mt_9, mt_10, ml_10, mt_11, ml_11, mt_12, ml_12, mt_13, mt_14, ml_14, mt_15, ml_15, mt_16, ml_16, mt_17, mt_18, ml_18, mt_19, mt_20, ml_20, mt_21, mt_22, ml_22, mt_23, mt_24, ml_24, mt_25, mt_26, ml_26, mt_53, mt_54, ml_54, mt_55, ml_55, mt_56, mt_57, ml_57, mt_58, ml_58, mt_59, mt_60, ml_60, mt_61, mt_62, ml_62, mt_63, ml_63, mt_64, mt_65, ml_65, mt_66, mt_67, ml_67, mt_68, mt_69, ml_69, mt_70, mt_71, ml_71, mt_72, mt_73, ml_73, mt_74, mt_75, ml_75, mt_76, mt_77, ml_77, gP_0_0, gP_0_1, gP_0_4, gP_0_5, gP_0_6, gP_0_7, gP_0_8, gP_0_9, gP_1_0, gP_1_1, gP_1_4, gP_1_5, gP_1_6, gP_2_0, gP_5_1, gP_5_2, gP_5_3, gP_9_1, gP_9_2, gP_9_3, gP_13_1, gP_13_2, gP_13_3, gP_17_3, gP_19_3, gP_21_3, gP_23_3, gP_25_3, gP_53_0, gP_53_6, gP_56_0, gP_59_0, gP_61_3, gP_64_0, gP_66_2, gP_68_2, gP_70_2, gP_72_2, gP_74_2, gP_76_2, aP_4, mtw_4, mtl_4, mll_4, gPw_4, aP_58, mtw_58, mtl_58, mll_58, gPw_58, hS, n100]
            | true =>
              rw [e2] at so
              simp only [lp_X8_heft_75, f1, r1, so, lI_t, Bool.true_and, nI_1, mt_sI, mt_sJ, mt_sP, mt_rI, mt_rJ, ml_sI, ml_sJ, ml_sP, ml_rI, ml_rJ, mP_sI, mP_sJ, mP_rI, mP_rJ, SHP_sI, SHP_sJ, SHP_rI, SHP_rJ, mI_sI, mI_rI, mI_sJ, mI_rJ, mI_sP, mJ_sI, mJ_rI, mJ_sP, mJ_sJ, mJ_rJ, gI_e, pI_e, ck_e, bnd_s, nm_eq, pr2_e, cnul_0, cnul_1, drf_1, sm_1, sm_2, aI_e, aJ_e, wI_e, wJ_e, aL_e, cpI_e, cpJ_e, Nat.reduceLeDiff, Nat.reduceEqDiff, Nat.add_left_cancel_iff, ad0, ad1, false_and, and_false, true_and, and_true, reduceIte, if_true, if_false, zb0, zb1, Int32.reduceLT, Int32.reduceLE, i10, nw1, nw2, nt1, nt2, not_true_eq_false, not_false_eq_true, mt_0, mt_1, mt_2, mt_3, ml_3, mt_4, ml_4, mt_5, mt_6, ml_6, mt_7, ml_7, mt_8, ml_8, mt_9, mt_10, ml_10, mt_11, ml_11, mt_12, ml_12, mt_13, mt_14, ml_14, mt_15, ml_15, mt_16, ml_16, mt_17, mt_18, ml_18, mt_19, mt_20, ml_20, mt_21, mt_22, ml_22, mt_23, mt_24, ml_24, mt_25, mt_26, ml_26, mt_53, mt_54, ml_54, mt_55, ml_55, mt_56, mt_57, ml_57, mt_58, ml_58, mt_59, mt_60, ml_60, mt_61, mt_62, ml_62, mt_63, ml_63, mt_64, mt_65, ml_65, mt_66, mt_67, ml_67, mt_68, mt_69, ml_69, mt_70, mt_71, ml_71, mt_72, mt_73, ml_73, mt_74, mt_75, ml_75, mt_76, mt_77, ml_77, gP_0_0, gP_0_1, gP_0_4, gP_0_5, gP_0_6, gP_0_7, gP_0_8, gP_0_9, gP_1_0, gP_1_1, gP_1_4, gP_1_5, gP_1_6, gP_2_0, gP_5_1, gP_5_2, gP_5_3, gP_9_1, gP_9_2, gP_9_3, gP_13_1, gP_13_2, gP_13_3, gP_17_3, gP_19_3, gP_21_3, gP_23_3, gP_25_3, gP_53_0, gP_53_6, gP_56_0, gP_59_0, gP_61_3, gP_64_0, gP_66_2, gP_68_2, gP_70_2, gP_72_2, gP_74_2, gP_76_2, aP_4, mtw_4, mtl_4, mll_4, gPw_4, aP_58, mtw_58, mtl_58, mll_58, gPw_58, hS, n100]
        · obtain ⟨y0, y1, y2, y3, y4⟩ := w2
          exact ⟨y0, by rw [mI_sI, if_neg (by omega)]; exact y1, by rw [mI_sI, if_neg (by omega)]; exact y2, by rw [mI_sI, if_neg (by omega)]; exact y3, fun r hr => by rw [mI_sI, if_neg (by omega)]; exact y4 r hr⟩
        · rw [mI_sI]
          by_cases q : i = n
          · rw [if_pos ⟨rfl, q⟩, q, if_pos (Nat.lt_succ_self _)]
          · rw [if_neg (fun z => q z.2), mI_sI, if_neg (by omega), g3 i hi]
            by_cases q2 : i < n
            · rw [if_pos q2, if_pos (by omega)]
            · rw [if_neg q2, if_neg (by omega)]) (by decide)
  obtain ⟨r, h1, h2, h3⟩ := loop
  exact ⟨r, h1, h2.mono (fun a k q => by rcases q with q | q; exact Or.inr (Or.inl q); exact Or.inr (Or.inr q)), h3⟩
set_option maxHeartbeats 2000000 in
theorem heft2_c (h : RR M o G) (hm : mI M (o + 2) 1 = nI m) (m1 : m ≤ 9999) (hp : p < gN G 1 1) {M0 : QM} (s0 : SQ M M0 o Zh) (f0 : ∀ i, i < 100 → mI M0 (o + 63) i = lI true) : ∃ M1, itr (fun s32 : Int32 × QM => lp_X8_heft_32 o (nI p) (o + (17 + 2 * p)) s32.1 s32.2) FU (0, M0) = some M1 ∧ SQ M M1 o Zh ∧ ∀ i, i < 100 → mI M1 (o + 63) i = lI (hePf G m p (gN G 1 3) i) := by
  obtain ⟨n, n1, n2, n3⟩ := h.2.sc 3 (by decide)
  have n1' : n ≤ 5 := n1
  have hp5 : p < 5 := by have := h.w5.1; omega
  have loop := itr_J (f := fun s32 : Int32 × QM => lp_X8_heft_32 o (nI p) (o + (17 + 2 * p)) s32.1 s32.2) (s0 := (0, M0)) (fun k z => k ≤ n ∧ ∃ Mw, z = (nI k, Mw) ∧ SQ M Mw o Zh ∧ ∀ i, i < 100 → mI Mw (o + 63) i = lI (hePf G m p k i)) (fun r => SQ M r o Zh ∧ ∀ i, i < 100 → mI r (o + 63) i = lI (hePf G m p n i)) 5
    ⟨Nat.zero_le _, M0, rfl, s0, f0⟩
    (fun k z hz => by
      obtain ⟨hk, Mw, rfl, g1, g2⟩ := hz
      have h' := h.scr (g1.mono Zh_scr)
      have hS := h'.1.1
      have sz := (h'.c (Lv_1 (i := 3) (by decide)) (a := 5) (i := 4) rfl).trans n2
      show (∃ r, lp_X8_heft_32 o (nI p) (o + (17 + 2 * p)) (nI k) Mw = some (.inr r) ∧ _) ∨ _ ∧ ∃ s', lp_X8_heft_32 o (nI p) (o + (17 + 2 * p)) (nI k) Mw = some (.inl s') ∧ _
      by_cases e : k = n
      · left
        subst e
        have f1 : nI k ≤ nI k := nI_le (Nat.le_refl _) (by omega)
        refine ⟨Mw, ?_, g1, g2⟩
        simp only [lp_X8_heft_32, sz, f1, mt_sI, mt_sJ, mt_sP, mt_rI, mt_rJ, ml_sI, ml_sJ, ml_sP, ml_rI, ml_rJ, mP_sI, mP_sJ, mP_rI, mP_rJ, SHP_sI, SHP_sJ, SHP_rI, SHP_rJ, mI_sI, mI_rI, mI_sJ, mI_rJ, mI_sP, mJ_sI, mJ_rI, mJ_sP, mJ_sJ, mJ_rJ, gI_e, pI_e, ck_e, bnd_s, nm_eq, pr2_e, cnul_0, cnul_1, drf_1, sm_1, sm_2, aI_e, aJ_e, wI_e, wJ_e, aL_e, cpI_e, cpJ_e, Nat.reduceLeDiff, Nat.reduceEqDiff, Nat.add_left_cancel_iff, ad0, ad1, false_and, and_false, true_and, and_true, reduceIte, if_true, if_false, zb0, zb1, Int32.reduceLT, Int32.reduceLE, i10, nw1, nw2, nt1, nt2, not_true_eq_false, not_false_eq_true, mt_0, mt_1, mt_2, mt_3, ml_3, mt_4, ml_4, mt_5, mt_6, ml_6, mt_7, ml_7, mt_8, ml_8, mt_9, mt_10, ml_10, mt_11, ml_11, mt_12, ml_12, mt_13, mt_14, ml_14, mt_15, ml_15, mt_16, ml_16, mt_17, mt_18, ml_18, mt_19, mt_20, ml_20, mt_21, mt_22, ml_22, mt_23, mt_24, ml_24, mt_25, mt_26, ml_26, mt_53, mt_54, ml_54, mt_55, ml_55, mt_56, mt_57, ml_57, mt_58, ml_58, mt_59, mt_60, ml_60, mt_61, mt_62, ml_62, mt_63, ml_63, mt_64, mt_65, ml_65, mt_66, mt_67, ml_67, mt_68, mt_69, ml_69, mt_70, mt_71, ml_71, mt_72, mt_73, ml_73, mt_74, mt_75, ml_75, mt_76, mt_77, ml_77, gP_0_0, gP_0_1, gP_0_4, gP_0_5, gP_0_6, gP_0_7, gP_0_8, gP_0_9, gP_1_0, gP_1_1, gP_1_4, gP_1_5, gP_1_6, gP_2_0, gP_5_1, gP_5_2, gP_5_3, gP_9_1, gP_9_2, gP_9_3, gP_13_1, gP_13_2, gP_13_3, gP_17_3, gP_19_3, gP_21_3, gP_23_3, gP_25_3, gP_53_0, gP_53_6, gP_56_0, gP_59_0, gP_61_3, gP_64_0, gP_66_2, gP_68_2, gP_70_2, gP_72_2, gP_74_2, gP_76_2, aP_4, mtw_4, mtl_4, mll_4, gPw_4, aP_58, mtw_58, mtl_58, mll_58, gPw_58, hS]
      · right
        have hk' : k < n := by omega
        have f1 : ¬ nI n ≤ nI k := by rw [nI_leI (by omega) (by omega)]; omega
        obtain ⟨k5, l6, l7, l8, q6, q6', q7, q7', q8⟩ := se_row h (k := k) (by rw [n3]; exact hk')
        have r7 := (h'.c l7 (a := 7) (i := k) rfl).trans q7
        have mm : mI Mw (o + 2) 1 = nI m := (g1.2.2.2.2 2 1 (by unfold Zh Zc Zg; omega)).trans hm
        obtain ⟨M1, a1, a2, a3⟩ := askBehind_c (n := gN G 7 k) h'.cw h'.cp h'.bds mm (by omega) (by omega)
        have h1 := h'.scr (a2.mono Zc59_scr)
        have hS1 := h1.1.1
        obtain ⟨M2, b1, b2, b3⟩ := copy_c hS1 hp5 (h1.cw.wk hp)
        have h2 := h1.scr (b2.mono Zg_scr)
        have hS2 := h2.1.1
        have c2 : CP M2 o 59 (seS G m k) := a3.fr b2 (fun k _ => by unfold Zg; omega)
        obtain ⟨M3, d1, d2, d3⟩ := heft1_c h2.cw c2 b3 hp k5 q6' ((h2.c l6 (a := 6) (i := k) rfl).trans q6) (h2.c l8 (a := 8) (i := k) rfl) (fun i hi => ((b2.2.2.2.2 63 i (by unfold Zg; omega)).trans (a2.2.2.2.2 63 i (by unfold Zc; omega))).trans (g2 i hi))
        refine ⟨by omega, (nI (k + 1), M3), ?_, by omega, M3, rfl, ((g1.trans (a2.mono fun a k q => Or.inl q)).trans (b2.mono fun a k q => Or.inr (Or.inl q))).trans d2, d3⟩
        simp only [lp_X8_heft_32, sz, f1, r7, a1, b1, d1, nI_1, mt_sI, mt_sJ, mt_sP, mt_rI, mt_rJ, ml_sI, ml_sJ, ml_sP, ml_rI, ml_rJ, mP_sI, mP_sJ, mP_rI, mP_rJ, SHP_sI, SHP_sJ, SHP_rI, SHP_rJ, mI_sI, mI_rI, mI_sJ, mI_rJ, mI_sP, mJ_sI, mJ_rI, mJ_sP, mJ_sJ, mJ_rJ, gI_e, pI_e, ck_e, bnd_s, nm_eq, pr2_e, cnul_0, cnul_1, drf_1, sm_1, sm_2, aI_e, aJ_e, wI_e, wJ_e, aL_e, cpI_e, cpJ_e, Nat.reduceLeDiff, Nat.reduceEqDiff, Nat.add_left_cancel_iff, ad0, ad1, false_and, and_false, true_and, and_true, reduceIte, if_true, if_false, zb0, zb1, Int32.reduceLT, Int32.reduceLE, i10, nw1, nw2, nt1, nt2, not_true_eq_false, not_false_eq_true, mt_0, mt_1, mt_2, mt_3, ml_3, mt_4, ml_4, mt_5, mt_6, ml_6, mt_7, ml_7, mt_8, ml_8, mt_9, mt_10, ml_10, mt_11, ml_11, mt_12, ml_12, mt_13, mt_14, ml_14, mt_15, ml_15, mt_16, ml_16, mt_17, mt_18, ml_18, mt_19, mt_20, ml_20, mt_21, mt_22, ml_22, mt_23, mt_24, ml_24, mt_25, mt_26, ml_26, mt_53, mt_54, ml_54, mt_55, ml_55, mt_56, mt_57, ml_57, mt_58, ml_58, mt_59, mt_60, ml_60, mt_61, mt_62, ml_62, mt_63, ml_63, mt_64, mt_65, ml_65, mt_66, mt_67, ml_67, mt_68, mt_69, ml_69, mt_70, mt_71, ml_71, mt_72, mt_73, ml_73, mt_74, mt_75, ml_75, mt_76, mt_77, ml_77, gP_0_0, gP_0_1, gP_0_4, gP_0_5, gP_0_6, gP_0_7, gP_0_8, gP_0_9, gP_1_0, gP_1_1, gP_1_4, gP_1_5, gP_1_6, gP_2_0, gP_5_1, gP_5_2, gP_5_3, gP_9_1, gP_9_2, gP_9_3, gP_13_1, gP_13_2, gP_13_3, gP_17_3, gP_19_3, gP_21_3, gP_23_3, gP_25_3, gP_53_0, gP_53_6, gP_56_0, gP_59_0, gP_61_3, gP_64_0, gP_66_2, gP_68_2, gP_70_2, gP_72_2, gP_74_2, gP_76_2, aP_4, mtw_4, mtl_4, mll_4, gPw_4, aP_58, mtw_58, mtl_58, mll_58, gPw_58, hS, hS1, k5]) (by decide)
  obtain ⟨r, h1, h2, h3⟩ := loop
  rw [n3]
  exact ⟨r, h1, h2, h3⟩
set_option maxHeartbeats 2000000 in
theorem heft_m (h : RR M o G) (hF : FV (G 0) m M o) (m1 : m ≤ 9999) (hp : p < gN G 1 1) (hT : ∀ k, k < gN G 1 3 → ∀ c, c < 16 → mI M (o + 101) (16 * k + c) = seS G m k c) : ∃ M1, itr (fun s42 : Int32 × Int32 × Int32 × QM => lp_X9_heft_42 (o + 78) (nI p) s42.1 s42.2.1 s42.2.2.1 s42.2.2.2) FU (0, (-5), 99, M) = some ((cdV (hePf G m p (gN G 1 3)) 100 (0, -5)).1, (cdV (hePf G m p (gN G 1 3)) 100 (0, -5)).2, M1) ∧ SQ M M1 o (fun a k => Ze a k ∨ (a = 82 ∧ k = p)) := by
  obtain ⟨n, n1, n2, n3⟩ := h.2.sc 3 (by decide)
  have n1' : n ≤ 5 := n1
  have hp5 : p < 5 := by have := h.w5.1; omega
  rw [n3] at hT ⊢
  have loop := itr_J (f := fun s42 : Int32 × Int32 × Int32 × QM => lp_X9_heft_42 (o + 78) (nI p) s42.1 s42.2.1 s42.2.2.1 s42.2.2.2) (s0 := (0, (-5), 99, M)) (fun k z => ∃ i s Mw, i + k = 100 ∧ z = (s.1, s.2, dnI i, Mw) ∧ cdV (hePf G m p n) i s = cdV (hePf G m p n) 100 (0, -5) ∧ SQ M Mw o (fun a k => Ze a k ∨ (a = 82 ∧ k = p))) (fun r => ∃ M1, r = ((cdV (hePf G m p n) 100 (0, -5)).1, (cdV (hePf G m p n) 100 (0, -5)).2, M1) ∧ SQ M M1 o (fun a k => Ze a k ∨ (a = 82 ∧ k = p))) 100
    ⟨100, (0, -5), M, rfl, rfl, rfl, SQ.rfl⟩
    (fun k z hz => by
      obtain ⟨i, s, Mw, hi, rfl, hs, g1⟩ := hz
      show (∃ r, lp_X9_heft_42 (o + 78) (nI p) s.1 s.2 (dnI i) Mw = some (.inr r) ∧ _) ∨ _ ∧ ∃ s', lp_X9_heft_42 (o + 78) (nI p) s.1 s.2 (dnI i) Mw = some (.inl s') ∧ _
      cases i with
      | zero =>
        left
        have f1 : dnI 0 < 0 := by decide
        have hs : s = _ := hs
        exact ⟨(s.1, s.2, Mw), by unfold lp_X9_heft_42; rw [if_pos f1], Mw, by rw [← hs], g1⟩
      | succ i =>
        right
        have f1 : ¬ dnI (i + 1) < 0 := nI_pos (by omega)
        have dn : dnI (i + 1) = nI i := rfl
        have hs : cdV (hePf G m p n) i (if hePf G m p n i then (s.1 + 1, nI i) else s) = _ := hs
        have hS := g1.shp h.1.1
        have s1 : SQ M (sI Mw (o + 82) p (nI i)) o (fun a k => Ze a k ∨ (a = 82 ∧ k = p)) := g1.sI (Or.inr ⟨rfl, rfl⟩)
        have mw1 := h.mw.wtz (j := 4) (r := 82) (x := nI i) hp (by decide) s1 (fun a k q => by rcases q with q | q; exact Or.inl (Ze_scr a k q); exact Or.inr q) (by rw [mI_sI, if_pos ⟨rfl, rfl⟩])
        have un : ∀ a k, ¬ Ze a k → ¬ (a = 82 ∧ k = p) → mI (sI Mw (o + 82) p (nI i)) (o + a) k = mI M (o + a) k := fun a k q1 q2 => s1.2.2.2.2 a k fun z => by rcases z with z | z; exact q1 z; exact q2 z
        have hS1 := mw1.1
        obtain ⟨M1, c1, c2⟩ := isSeen_m (G := G) (m := m) (n := n) mw1 ((un 78 1 (by unfold Ze ZB Zs; omega) (by omega)).trans hF.2.1) hF.2.2.2 ((un 78 25 (by unfold Ze ZB Zs; omega) (by omega)).trans h.ct) n1' ((un 78 33 (by unfold Ze ZB Zs; omega) (by omega)).trans ((h.m (Lv_1 (i := 3) (by decide)) (a := 78) (i := 33) rfl).trans n2)) (fun k hk => by
          obtain ⟨k5, l6, l7, l8, q6, q6', q7, q7', q8⟩ := se_row h (k := k) (by rw [n3]; exact hk)
          exact ⟨q6', (un 99 k (by unfold Ze ZB Zs; omega) (by omega)).trans ((h.m l6 (a := 99) (i := k) rfl).trans q6), (un 102 k (by unfold Ze ZB Zs; omega) (by omega)).trans (h.m l8 (a := 102) (i := k) rfl), fun c hc => (un 101 _ (by unfold Ze ZB Zs; omega) (by omega)).trans (hT k hk c hc), ripS_bd h.bds _⟩)
        have c1 : fn_X9_isSeen (sI Mw (o + 82) p (nI i)) (o + 78) = some (lI (hePf G m p n i), M1) := c1
        have sq := s1.trans (c2.mono fun a k q => (Or.inl q : Ze a k ∨ (a = 82 ∧ k = p)))
        rw [dn] at f1 ⊢
        refine ⟨by omega, ?_⟩
        cases e : hePf G m p n i with
        | true =>
          rw [e] at c1
          rw [if_pos e] at hs
          refine ⟨(s.1 + 1, nI i, dnI i, M1), ?_, i, (s.1 + 1, nI i), M1, by omega, rfl, hs, sq⟩
          simp only [lp_X9_heft_42, f1, c1, lI_t, dnI_p, mt_sI, mt_sJ, mt_sP, mt_rI, mt_rJ, ml_sI, ml_sJ, ml_sP, ml_rI, ml_rJ, mP_sI, mP_sJ, mP_rI, mP_rJ, SHP_sI, SHP_sJ, SHP_rI, SHP_rJ, mI_sI, mI_rI, mI_sJ, mI_rJ, mI_sP, mJ_sI, mJ_rI, mJ_sP, mJ_sJ, mJ_rJ, gI_e, pI_e, ck_e, bnd_s, nm_eq, pr2_e, cnul_0, cnul_1, drf_1, sm_1, sm_2, aI_e, aJ_e, wI_e, wJ_e, aL_e, cpI_e, cpJ_e, Nat.reduceLeDiff, Nat.reduceEqDiff, Nat.add_left_cancel_iff, ad0, ad1, false_and, and_false, true_and, and_true, reduceIte, if_true, if_false, zb0, zb1, Int32.reduceLT, Int32.reduceLE, i10, nw1, nw2, nt1, nt2, not_true_eq_false, not_false_eq_true, mt_78, mt_79, ml_79, mt_80, ml_80, mt_81, ml_81, mt_82, ml_82, mt_83, ml_83, mt_84, ml_84, mt_85, ml_85, mt_86, ml_86, mt_87, ml_87, mt_88, ml_88, mt_89, ml_89, mt_90, ml_90, mt_91, ml_91, mt_92, ml_92, mt_93, ml_93, mt_94, ml_94, mt_95, ml_95, mt_96, ml_96, mt_97, ml_97, mt_98, ml_98, mt_99, ml_99, mt_100, ml_100, mt_101, ml_101, mt_102, ml_102, mt_103, ml_103, mt_104, ml_104, mt_105, ml_105, mt_106, ml_106, mt_107, ml_107, mt_108, ml_108, mt_109, ml_109, mt_110, ml_110, mt_111, ml_111, mt_112, ml_112, mt_113, ml_113, mt_114, ml_114, mt_115, ml_115, mt_116, ml_116, mt_117, ml_117, mt_118, ml_118, mt_119, ml_119, mt_120, ml_120, mt_121, ml_121, mt_122, ml_122, mt_123, ml_123, gP_78_2, gP_78_3, gP_78_4, gP_78_5, gP_78_6, gP_78_12, gP_78_13, gP_78_14, gP_78_15, gP_78_16, gP_78_17, gP_78_18, gP_78_19, gP_78_23, gP_78_24, gP_78_26, gP_78_27, gP_78_28, gP_78_31, gP_78_32, gP_78_34, gP_78_35, gP_78_36, gP_78_37, gP_78_40, gP_78_41, gP_78_42, gP_78_43, gP_78_52, gP_78_53, gP_78_54, gP_78_55, gP_78_56, gP_78_57, gP_78_58, gP_78_59, gP_78_60, gP_78_61, gP_78_62, gP_78_63, gP_78_65, gP_78_66, gP_78_67, gP_78_68, gP_78_69, hS, hp5]
        | false =>
          rw [e] at c1
          rw [e, if_neg Bool.false_ne_true] at hs
          refine ⟨(s.1, s.2, dnI i, M1), ?_, i, s, M1, by omega, rfl, hs, sq⟩
          simp only [lp_X9_heft_42, f1, c1, lI_f, dnI_p, mt_sI, mt_sJ, mt_sP, mt_rI, mt_rJ, ml_sI, ml_sJ, ml_sP, ml_rI, ml_rJ, mP_sI, mP_sJ, mP_rI, mP_rJ, SHP_sI, SHP_sJ, SHP_rI, SHP_rJ, mI_sI, mI_rI, mI_sJ, mI_rJ, mI_sP, mJ_sI, mJ_rI, mJ_sP, mJ_sJ, mJ_rJ, gI_e, pI_e, ck_e, bnd_s, nm_eq, pr2_e, cnul_0, cnul_1, drf_1, sm_1, sm_2, aI_e, aJ_e, wI_e, wJ_e, aL_e, cpI_e, cpJ_e, Nat.reduceLeDiff, Nat.reduceEqDiff, Nat.add_left_cancel_iff, ad0, ad1, false_and, and_false, true_and, and_true, reduceIte, if_true, if_false, zb0, zb1, Int32.reduceLT, Int32.reduceLE, i10, nw1, nw2, nt1, nt2, not_true_eq_false, not_false_eq_true, mt_78, mt_79, ml_79, mt_80, ml_80, mt_81, ml_81, mt_82, ml_82, mt_83, ml_83, mt_84, ml_84, mt_85, ml_85, mt_86, ml_86, mt_87, ml_87, mt_88, ml_88, mt_89, ml_89, mt_90, ml_90, mt_91, ml_91, mt_92, ml_92, mt_93, ml_93, mt_94, ml_94, mt_95, ml_95, mt_96, ml_96, mt_97, ml_97, mt_98, ml_98, mt_99, ml_99, mt_100, ml_100, mt_101, ml_101, mt_102, ml_102, mt_103, ml_103, mt_104, ml_104, mt_105, ml_105, mt_106, ml_106, mt_107, ml_107, mt_108, ml_108, mt_109, ml_109, mt_110, ml_110, mt_111, ml_111, mt_112, ml_112, mt_113, ml_113, mt_114, ml_114, mt_115, ml_115, mt_116, ml_116, mt_117, ml_117, mt_118, ml_118, mt_119, ml_119, mt_120, ml_120, mt_121, ml_121, mt_122, ml_122, mt_123, ml_123, gP_78_2, gP_78_3, gP_78_4, gP_78_5, gP_78_6, gP_78_12, gP_78_13, gP_78_14, gP_78_15, gP_78_16, gP_78_17, gP_78_18, gP_78_19, gP_78_23, gP_78_24, gP_78_26, gP_78_27, gP_78_28, gP_78_31, gP_78_32, gP_78_34, gP_78_35, gP_78_36, gP_78_37, gP_78_40, gP_78_41, gP_78_42, gP_78_43, gP_78_52, gP_78_53, gP_78_54, gP_78_55, gP_78_56, gP_78_57, gP_78_58, gP_78_59, gP_78_60, gP_78_61, gP_78_62, gP_78_63, gP_78_65, gP_78_66, gP_78_67, gP_78_68, gP_78_69, hS, hp5]) (by decide)
  obtain ⟨r, h1, M1, rfl, h2⟩ := loop
  exact ⟨M1, h1, h2⟩
end HJ4
set_option maxHeartbeats 2000000 in
theorem op_heft {M : QM} {o : Nat} {G : GG} (h : RR M o G) (p1 p2 : Int32) : ∃ v M1 M2 G', fn_X8_heft M o p1 p2 = some (v, M1) ∧ fn_X9_heft M1 (o + 78) p1 p2 = some (v, M2) ∧ RR M2 o G' := by
  have hS := h.1.1
  obtain ⟨w, w1, w2, w3, w4, w5, w6⟩ := h.wk p1
  rcases w6 with ⟨c, hc, hc5, rfl, b1, b2⟩ | ⟨b1, b2⟩
  · rcases rng p2 2 2 1 rfl rfl (by decide) (by decide) with ⟨p, hp, rfl, d1, d2, d3⟩ | ⟨d1, d2, d3⟩
    · obtain ⟨m, m1, m2, m3, m4⟩ := h.fv
      have hcw : c < gN G 1 1 := by rw [w3]; exact hc
      obtain ⟨M0, f1, f2, f3⟩ := fitAll_c (n := 100) hS (by decide)
      have hS0 := f2.shp hS
      have f1 : fn_X8_fitAll M o 100 = some M0 := f1
      obtain ⟨M1, a1, a2, a3⟩ := heft2_c h m4 m1 hcw f2 f3
      have h1 := h.scr (a2.mono Zh_scr)
      have hS1 := h1.1.1
      have ft := fitting_c (n := 100) (p := p) hS1 (by decide) (by decide) a3 hp
      have ft : fn_X8_fitting M1 o 100 (nI p) = _ := ft
      have w51 : mI M1 (o + 78) 0 = nI w := (a2.2.2.2.2 78 0 (by unfold Zh Zc Zg; omega)).trans w5
      have m31 : FV (G 0) m M1 o := m3.s a2 (fun c _ => by unfold Zh Zc Zg; omega) (by unfold Zh Zc Zg; omega)
      obtain ⟨M2, c1, c2, c3⟩ := layThen_m h1 m31 m1
      have h2 := h1.scr c2
      have hS2 := h2.1.1
      have m32 : FV (G 0) m M2 o := m31.s c2 (fun c _ => by show ¬ scr 79 c = true; unfold scr; simp) (by decide)
      obtain ⟨M3, e1, e2⟩ := heft_m h2 m32 m1 hcw c3
      have hS3 := e2.shp hS2
      have x1 := (h2.mw.2.2.1 c hcw).2.2.1
      have fin : SC M2 (sI M3 (o + 82) c (G 4 c)) o := by
        refine ⟨e2.1, e2.2.1, e2.2.2.1, e2.2.2.2.1, fun a k q => ?_⟩
        rw [mI_sI]
        by_cases z : a = 82 ∧ k = c
        · rw [if_pos ⟨by rw [z.1], z.2⟩, z.1, z.2, x1]
        · rw [if_neg (by omega)]
          exact e2.2.2.2.2 a k fun y => by
            rcases y with y | y
            · exact q (Ze_scr a k y)
            · exact z y
      refine ⟨if p = 0 then (cdV (hePf G m c (gN G 1 3)) 100 (0, -5)).1 else (cdV (hePf G m c (gN G 1 3)) 100 (0, -5)).2, M1, sI M3 (o + 82) c (G 4 c), G, ?_, ?_, h1.scr (c2.trans fin)⟩
      · simp only [fn_X8_heft, fn_X5_walkerAt, w4, b1, d1, f1, a1, ft, mt_sI, mt_sJ, mt_sP, mt_rI, mt_rJ, ml_sI, ml_sJ, ml_sP, ml_rI, ml_rJ, mP_sI, mP_sJ, mP_rI, mP_rJ, SHP_sI, SHP_sJ, SHP_rI, SHP_rJ, mI_sI, mI_rI, mI_sJ, mI_rJ, mI_sP, mJ_sI, mJ_rI, mJ_sP, mJ_sJ, mJ_rJ, gI_e, pI_e, ck_e, bnd_s, nm_eq, pr2_e, cnul_0, cnul_1, drf_1, sm_1, sm_2, aI_e, aJ_e, wI_e, wJ_e, aL_e, cpI_e, cpJ_e, Nat.reduceLeDiff, Nat.reduceEqDiff, Nat.add_left_cancel_iff, ad0, ad1, false_and, and_false, true_and, and_true, reduceIte, if_true, if_false, zb0, zb1, Int32.reduceLT, Int32.reduceLE, i10, nw1, nw2, nt1, nt2, not_true_eq_false, not_false_eq_true, mt_0, mt_1, mt_2, mt_3, ml_3, mt_4, ml_4, mt_5, mt_6, ml_6, mt_7, ml_7, mt_8, ml_8, mt_9, mt_10, ml_10, mt_11, ml_11, mt_12, ml_12, mt_13, mt_14, ml_14, mt_15, ml_15, mt_16, ml_16, mt_17, mt_18, ml_18, mt_19, mt_20, ml_20, mt_21, mt_22, ml_22, mt_23, mt_24, ml_24, mt_25, mt_26, ml_26, mt_53, mt_54, ml_54, mt_55, ml_55, mt_56, mt_57, ml_57, mt_58, ml_58, mt_59, mt_60, ml_60, mt_61, mt_62, ml_62, mt_63, ml_63, mt_64, mt_65, ml_65, mt_66, mt_67, ml_67, mt_68, mt_69, ml_69, mt_70, mt_71, ml_71, mt_72, mt_73, ml_73, mt_74, mt_75, ml_75, mt_76, mt_77, ml_77, gP_0_0, gP_0_1, gP_0_4, gP_0_5, gP_0_6, gP_0_7, gP_0_8, gP_0_9, gP_1_0, gP_1_1, gP_1_4, gP_1_5, gP_1_6, gP_2_0, gP_5_1, gP_5_2, gP_5_3, gP_9_1, gP_9_2, gP_9_3, gP_13_1, gP_13_2, gP_13_3, gP_17_3, gP_19_3, gP_21_3, gP_23_3, gP_25_3, gP_53_0, gP_53_6, gP_56_0, gP_59_0, gP_61_3, gP_64_0, gP_66_2, gP_68_2, gP_70_2, gP_72_2, gP_74_2, gP_76_2, aP_4, mtw_4, mtl_4, mll_4, gPw_4, aP_58, mtw_58, mtl_58, mll_58, gPw_58, hS, hS1, hc5]
      · rcases (by omega : p = 0 ∨ p = 1) with rfl | rfl
        · have z0 : nI 0 = 0 := nI_0
          rw [z0] at d2
          simp only [fn_X9_heft, fn_X9_isWalker, z0, w51, b2, d2, c1, x1, e1, pr3, mt_sI, mt_sJ, mt_sP, mt_rI, mt_rJ, ml_sI, ml_sJ, ml_sP, ml_rI, ml_rJ, mP_sI, mP_sJ, mP_rI, mP_rJ, SHP_sI, SHP_sJ, SHP_rI, SHP_rJ, mI_sI, mI_rI, mI_sJ, mI_rJ, mI_sP, mJ_sI, mJ_rI, mJ_sP, mJ_sJ, mJ_rJ, gI_e, pI_e, ck_e, bnd_s, nm_eq, pr2_e, cnul_0, cnul_1, drf_1, sm_1, sm_2, aI_e, aJ_e, wI_e, wJ_e, aL_e, cpI_e, cpJ_e, Nat.reduceLeDiff, Nat.reduceEqDiff, Nat.add_left_cancel_iff, ad0, ad1, false_and, and_false, true_and, and_true, reduceIte, if_true, if_false, zb0, zb1, Int32.reduceLT, Int32.reduceLE, i10, nw1, nw2, nt1, nt2, not_true_eq_false, not_false_eq_true, mt_78, mt_79, ml_79, mt_80, ml_80, mt_81, ml_81, mt_82, ml_82, mt_83, ml_83, mt_84, ml_84, mt_85, ml_85, mt_86, ml_86, mt_87, ml_87, mt_88, ml_88, mt_89, ml_89, mt_90, ml_90, mt_91, ml_91, mt_92, ml_92, mt_93, ml_93, mt_94, ml_94, mt_95, ml_95, mt_96, ml_96, mt_97, ml_97, mt_98, ml_98, mt_99, ml_99, mt_100, ml_100, mt_101, ml_101, mt_102, ml_102, mt_103, ml_103, mt_104, ml_104, mt_105, ml_105, mt_106, ml_106, mt_107, ml_107, mt_108, ml_108, mt_109, ml_109, mt_110, ml_110, mt_111, ml_111, mt_112, ml_112, mt_113, ml_113, mt_114, ml_114, mt_115, ml_115, mt_116, ml_116, mt_117, ml_117, mt_118, ml_118, mt_119, ml_119, mt_120, ml_120, mt_121, ml_121, mt_122, ml_122, mt_123, ml_123, gP_78_2, gP_78_3, gP_78_4, gP_78_5, gP_78_6, gP_78_12, gP_78_13, gP_78_14, gP_78_15, gP_78_16, gP_78_17, gP_78_18, gP_78_19, gP_78_23, gP_78_24, gP_78_26, gP_78_27, gP_78_28, gP_78_31, gP_78_32, gP_78_34, gP_78_35, gP_78_36, gP_78_37, gP_78_40, gP_78_41, gP_78_42, gP_78_43, gP_78_52, gP_78_53, gP_78_54, gP_78_55, gP_78_56, gP_78_57, gP_78_58, gP_78_59, gP_78_60, gP_78_61, gP_78_62, gP_78_63, gP_78_65, gP_78_66, gP_78_67, gP_78_68, gP_78_69, hS1, hS2, hS3, hc5]
        · have z1 : ¬ nI 1 = 0 := by decide
          have z2 : ¬ (1 : Nat) = 0 := by decide
          simp only [fn_X9_heft, fn_X9_isWalker, z1, z2, w51, b2, d2, c1, x1, e1, pr3, mt_sI, mt_sJ, mt_sP, mt_rI, mt_rJ, ml_sI, ml_sJ, ml_sP, ml_rI, ml_rJ, mP_sI, mP_sJ, mP_rI, mP_rJ, SHP_sI, SHP_sJ, SHP_rI, SHP_rJ, mI_sI, mI_rI, mI_sJ, mI_rJ, mI_sP, mJ_sI, mJ_rI, mJ_sP, mJ_sJ, mJ_rJ, gI_e, pI_e, ck_e, bnd_s, nm_eq, pr2_e, cnul_0, cnul_1, drf_1, sm_1, sm_2, aI_e, aJ_e, wI_e, wJ_e, aL_e, cpI_e, cpJ_e, Nat.reduceLeDiff, Nat.reduceEqDiff, Nat.add_left_cancel_iff, ad0, ad1, false_and, and_false, true_and, and_true, reduceIte, if_true, if_false, zb0, zb1, Int32.reduceLT, Int32.reduceLE, i10, nw1, nw2, nt1, nt2, not_true_eq_false, not_false_eq_true, mt_78, mt_79, ml_79, mt_80, ml_80, mt_81, ml_81, mt_82, ml_82, mt_83, ml_83, mt_84, ml_84, mt_85, ml_85, mt_86, ml_86, mt_87, ml_87, mt_88, ml_88, mt_89, ml_89, mt_90, ml_90, mt_91, ml_91, mt_92, ml_92, mt_93, ml_93, mt_94, ml_94, mt_95, ml_95, mt_96, ml_96, mt_97, ml_97, mt_98, ml_98, mt_99, ml_99, mt_100, ml_100, mt_101, ml_101, mt_102, ml_102, mt_103, ml_103, mt_104, ml_104, mt_105, ml_105, mt_106, ml_106, mt_107, ml_107, mt_108, ml_108, mt_109, ml_109, mt_110, ml_110, mt_111, ml_111, mt_112, ml_112, mt_113, ml_113, mt_114, ml_114, mt_115, ml_115, mt_116, ml_116, mt_117, ml_117, mt_118, ml_118, mt_119, ml_119, mt_120, ml_120, mt_121, ml_121, mt_122, ml_122, mt_123, ml_123, gP_78_2, gP_78_3, gP_78_4, gP_78_5, gP_78_6, gP_78_12, gP_78_13, gP_78_14, gP_78_15, gP_78_16, gP_78_17, gP_78_18, gP_78_19, gP_78_23, gP_78_24, gP_78_26, gP_78_27, gP_78_28, gP_78_31, gP_78_32, gP_78_34, gP_78_35, gP_78_36, gP_78_37, gP_78_40, gP_78_41, gP_78_42, gP_78_43, gP_78_52, gP_78_53, gP_78_54, gP_78_55, gP_78_56, gP_78_57, gP_78_58, gP_78_59, gP_78_60, gP_78_61, gP_78_62, gP_78_63, gP_78_65, gP_78_66, gP_78_67, gP_78_68, gP_78_69, hS1, hS2, hS3, hc5]
    · refine ⟨-1, M, M, G, ?_, ?_, h⟩
      · simp only [fn_X8_heft, fn_X5_walkerAt, w4, b1, d1, mt_sI, mt_sJ, mt_sP, mt_rI, mt_rJ, ml_sI, ml_sJ, ml_sP, ml_rI, ml_rJ, mP_sI, mP_sJ, mP_rI, mP_rJ, SHP_sI, SHP_sJ, SHP_rI, SHP_rJ, mI_sI, mI_rI, mI_sJ, mI_rJ, mI_sP, mJ_sI, mJ_rI, mJ_sP, mJ_sJ, mJ_rJ, gI_e, pI_e, ck_e, bnd_s, nm_eq, pr2_e, cnul_0, cnul_1, drf_1, sm_1, sm_2, aI_e, aJ_e, wI_e, wJ_e, aL_e, cpI_e, cpJ_e, Nat.reduceLeDiff, Nat.reduceEqDiff, Nat.add_left_cancel_iff, ad0, ad1, false_and, and_false, true_and, and_true, reduceIte, if_true, if_false, zb0, zb1, Int32.reduceLT, Int32.reduceLE, i10, nw1, nw2, nt1, nt2, not_true_eq_false, not_false_eq_true, mt_0, mt_1, mt_2, mt_3, ml_3, mt_4, ml_4, mt_5, mt_6, ml_6, mt_7, ml_7, mt_8, ml_8, mt_9, mt_10, ml_10, mt_11, ml_11, mt_12, ml_12, mt_13, mt_14, ml_14, mt_15, ml_15, mt_16, ml_16, mt_17, mt_18, ml_18, mt_19, mt_20, ml_20, mt_21, mt_22, ml_22, mt_23, mt_24, ml_24, mt_25, mt_26, ml_26, mt_53, mt_54, ml_54, mt_55, ml_55, mt_56, mt_57, ml_57, mt_58, ml_58, mt_59, mt_60, ml_60, mt_61, mt_62, ml_62, mt_63, ml_63, mt_64, mt_65, ml_65, mt_66, mt_67, ml_67, mt_68, mt_69, ml_69, mt_70, mt_71, ml_71, mt_72, mt_73, ml_73, mt_74, mt_75, ml_75, mt_76, mt_77, ml_77, gP_0_0, gP_0_1, gP_0_4, gP_0_5, gP_0_6, gP_0_7, gP_0_8, gP_0_9, gP_1_0, gP_1_1, gP_1_4, gP_1_5, gP_1_6, gP_2_0, gP_5_1, gP_5_2, gP_5_3, gP_9_1, gP_9_2, gP_9_3, gP_13_1, gP_13_2, gP_13_3, gP_17_3, gP_19_3, gP_21_3, gP_23_3, gP_25_3, gP_53_0, gP_53_6, gP_56_0, gP_59_0, gP_61_3, gP_64_0, gP_66_2, gP_68_2, gP_70_2, gP_72_2, gP_74_2, gP_76_2, aP_4, mtw_4, mtl_4, mll_4, gPw_4, aP_58, mtw_58, mtl_58, mll_58, gPw_58, hS, hc5]
      · simp only [fn_X9_heft, fn_X9_isWalker, w5, b2, d2, mt_sI, mt_sJ, mt_sP, mt_rI, mt_rJ, ml_sI, ml_sJ, ml_sP, ml_rI, ml_rJ, mP_sI, mP_sJ, mP_rI, mP_rJ, SHP_sI, SHP_sJ, SHP_rI, SHP_rJ, mI_sI, mI_rI, mI_sJ, mI_rJ, mI_sP, mJ_sI, mJ_rI, mJ_sP, mJ_sJ, mJ_rJ, gI_e, pI_e, ck_e, bnd_s, nm_eq, pr2_e, cnul_0, cnul_1, drf_1, sm_1, sm_2, aI_e, aJ_e, wI_e, wJ_e, aL_e, cpI_e, cpJ_e, Nat.reduceLeDiff, Nat.reduceEqDiff, Nat.add_left_cancel_iff, ad0, ad1, false_and, and_false, true_and, and_true, reduceIte, if_true, if_false, zb0, zb1, Int32.reduceLT, Int32.reduceLE, i10, nw1, nw2, nt1, nt2, not_true_eq_false, not_false_eq_true, mt_78, mt_79, ml_79, mt_80, ml_80, mt_81, ml_81, mt_82, ml_82, mt_83, ml_83, mt_84, ml_84, mt_85, ml_85, mt_86, ml_86, mt_87, ml_87, mt_88, ml_88, mt_89, ml_89, mt_90, ml_90, mt_91, ml_91, mt_92, ml_92, mt_93, ml_93, mt_94, ml_94, mt_95, ml_95, mt_96, ml_96, mt_97, ml_97, mt_98, ml_98, mt_99, ml_99, mt_100, ml_100, mt_101, ml_101, mt_102, ml_102, mt_103, ml_103, mt_104, ml_104, mt_105, ml_105, mt_106, ml_106, mt_107, ml_107, mt_108, ml_108, mt_109, ml_109, mt_110, ml_110, mt_111, ml_111, mt_112, ml_112, mt_113, ml_113, mt_114, ml_114, mt_115, ml_115, mt_116, ml_116, mt_117, ml_117, mt_118, ml_118, mt_119, ml_119, mt_120, ml_120, mt_121, ml_121, mt_122, ml_122, mt_123, ml_123, gP_78_2, gP_78_3, gP_78_4, gP_78_5, gP_78_6, gP_78_12, gP_78_13, gP_78_14, gP_78_15, gP_78_16, gP_78_17, gP_78_18, gP_78_19, gP_78_23, gP_78_24, gP_78_26, gP_78_27, gP_78_28, gP_78_31, gP_78_32, gP_78_34, gP_78_35, gP_78_36, gP_78_37, gP_78_40, gP_78_41, gP_78_42, gP_78_43, gP_78_52, gP_78_53, gP_78_54, gP_78_55, gP_78_56, gP_78_57, gP_78_58, gP_78_59, gP_78_60, gP_78_61, gP_78_62, gP_78_63, gP_78_65, gP_78_66, gP_78_67, gP_78_68, gP_78_69, hS]
  · refine ⟨-1, M, M, G, ?_, ?_, h⟩
    · simp only [fn_X8_heft, fn_X5_walkerAt, w4, b1, mt_sI, mt_sJ, mt_sP, mt_rI, mt_rJ, ml_sI, ml_sJ, ml_sP, ml_rI, ml_rJ, mP_sI, mP_sJ, mP_rI, mP_rJ, SHP_sI, SHP_sJ, SHP_rI, SHP_rJ, mI_sI, mI_rI, mI_sJ, mI_rJ, mI_sP, mJ_sI, mJ_rI, mJ_sP, mJ_sJ, mJ_rJ, gI_e, pI_e, ck_e, bnd_s, nm_eq, pr2_e, cnul_0, cnul_1, drf_1, sm_1, sm_2, aI_e, aJ_e, wI_e, wJ_e, aL_e, cpI_e, cpJ_e, Nat.reduceLeDiff, Nat.reduceEqDiff, Nat.add_left_cancel_iff, ad0, ad1, false_and, and_false, true_and, and_true, reduceIte, if_true, if_false, zb0, zb1, Int32.reduceLT, Int32.reduceLE, i10, nw1, nw2, nt1, nt2, not_true_eq_false, not_false_eq_true, mt_0, mt_1, mt_2, mt_3, ml_3, mt_4, ml_4, mt_5, mt_6, ml_6, mt_7, ml_7, mt_8, ml_8, mt_9, mt_10, ml_10, mt_11, ml_11, mt_12, ml_12, mt_13, mt_14, ml_14, mt_15, ml_15, mt_16, ml_16, mt_17, mt_18, ml_18, mt_19, mt_20, ml_20, mt_21, mt_22, ml_22, mt_23, mt_24, ml_24, mt_25, mt_26, ml_26, mt_53, mt_54, ml_54, mt_55, ml_55, mt_56, mt_57, ml_57, mt_58, ml_58, mt_59, mt_60, ml_60, mt_61, mt_62, ml_62, mt_63, ml_63, mt_64, mt_65, ml_65, mt_66, mt_67, ml_67, mt_68, mt_69, ml_69, mt_70, mt_71, ml_71, mt_72, mt_73, ml_73, mt_74, mt_75, ml_75, mt_76, mt_77, ml_77, gP_0_0, gP_0_1, gP_0_4, gP_0_5, gP_0_6, gP_0_7, gP_0_8, gP_0_9, gP_1_0, gP_1_1, gP_1_4, gP_1_5, gP_1_6, gP_2_0, gP_5_1, gP_5_2, gP_5_3, gP_9_1, gP_9_2, gP_9_3, gP_13_1, gP_13_2, gP_13_3, gP_17_3, gP_19_3, gP_21_3, gP_23_3, gP_25_3, gP_53_0, gP_53_6, gP_56_0, gP_59_0, gP_61_3, gP_64_0, gP_66_2, gP_68_2, gP_70_2, gP_72_2, gP_74_2, gP_76_2, aP_4, mtw_4, mtl_4, mll_4, gPw_4, aP_58, mtw_58, mtl_58, mll_58, gPw_58, hS]
    · simp only [fn_X9_heft, fn_X9_isWalker, w5, b2, mt_sI, mt_sJ, mt_sP, mt_rI, mt_rJ, ml_sI, ml_sJ, ml_sP, ml_rI, ml_rJ, mP_sI, mP_sJ, mP_rI, mP_rJ, SHP_sI, SHP_sJ, SHP_rI, SHP_rJ, mI_sI, mI_rI, mI_sJ, mI_rJ, mI_sP, mJ_sI, mJ_rI, mJ_sP, mJ_sJ, mJ_rJ, gI_e, pI_e, ck_e, bnd_s, nm_eq, pr2_e, cnul_0, cnul_1, drf_1, sm_1, sm_2, aI_e, aJ_e, wI_e, wJ_e, aL_e, cpI_e, cpJ_e, Nat.reduceLeDiff, Nat.reduceEqDiff, Nat.add_left_cancel_iff, ad0, ad1, false_and, and_false, true_and, and_true, reduceIte, if_true, if_false, zb0, zb1, Int32.reduceLT, Int32.reduceLE, i10, nw1, nw2, nt1, nt2, not_true_eq_false, not_false_eq_true, mt_78, mt_79, ml_79, mt_80, ml_80, mt_81, ml_81, mt_82, ml_82, mt_83, ml_83, mt_84, ml_84, mt_85, ml_85, mt_86, ml_86, mt_87, ml_87, mt_88, ml_88, mt_89, ml_89, mt_90, ml_90, mt_91, ml_91, mt_92, ml_92, mt_93, ml_93, mt_94, ml_94, mt_95, ml_95, mt_96, ml_96, mt_97, ml_97, mt_98, ml_98, mt_99, ml_99, mt_100, ml_100, mt_101, ml_101, mt_102, ml_102, mt_103, ml_103, mt_104, ml_104, mt_105, ml_105, mt_106, ml_106, mt_107, ml_107, mt_108, ml_108, mt_109, ml_109, mt_110, ml_110, mt_111, ml_111, mt_112, ml_112, mt_113, ml_113, mt_114, ml_114, mt_115, ml_115, mt_116, ml_116, mt_117, ml_117, mt_118, ml_118, mt_119, ml_119, mt_120, ml_120, mt_121, ml_121, mt_122, ml_122, mt_123, ml_123, gP_78_2, gP_78_3, gP_78_4, gP_78_5, gP_78_6, gP_78_12, gP_78_13, gP_78_14, gP_78_15, gP_78_16, gP_78_17, gP_78_18, gP_78_19, gP_78_23, gP_78_24, gP_78_26, gP_78_27, gP_78_28, gP_78_31, gP_78_32, gP_78_34, gP_78_35, gP_78_36, gP_78_37, gP_78_40, gP_78_41, gP_78_42, gP_78_43, gP_78_52, gP_78_53, gP_78_54, gP_78_55, gP_78_56, gP_78_57, gP_78_58, gP_78_59, gP_78_60, gP_78_61, gP_78_62, gP_78_63, gP_78_65, gP_78_66, gP_78_67, gP_78_68, gP_78_69, hS]
section HJ3
variable {M M1 N Mw : QM} {o w m p k : Nat} {G : GG}
def cnPf (G : GG) (m p n i : Nat) : Bool := seA G (Gu G 3 p (nI i)) m n
set_option maxHeartbeats 2000000 in
theorem can1_c (h : CW M o G w) (hC : CP M o 59 (seS G m k)) (hW : WK M o 61 (G 2 p) (G 3 p) (G 4 p) (lnG G p)) (hp : p < w) (k5 : k < 5) (hq : gN G 6 k < w) (h6 : mI M (o + 6) k = nI (gN G 6 k)) (h8 : mI M (o + 8) k = G 8 k) (hf : ∀ i, i < 10 → mI M (o + 63) i = lI (cnPf G m p k i)) : ∃ M1, itr (fun s75 : Int32 × QM => lp_X8_can_75 o (nI p) (nI k) s75.1 s75.2) FU (0, M) = some M1 ∧ SQ M M1 o Zh ∧ ∀ i, i < 10 → mI M1 (o + 63) i = lI (cnPf G m p (k + 1) i) := by
  have hp5 : p < 5 := by have := h.2.1.2; omega
  have loop := itr_J (f := fun s75 : Int32 × QM => lp_X8_can_75 o (nI p) (nI k) s75.1 s75.2) (s0 := (0, M)) (fun n z => n ≤ 10 ∧ ∃ Mw x, z = (nI n, Mw) ∧ SQ M Mw o Zi ∧ WK Mw o 61 (G 2 p) x (G 4 p) (lnG G p) ∧ ∀ i, i < 10 → mI Mw (o + 63) i = lI (if i < n then cnPf G m p (k + 1) i else cnPf G m p k i)) (fun r => SQ M r o Zi ∧ ∀ i, i < 10 → mI r (o + 63) i = lI (cnPf G m p (k + 1) i)) 10
    ⟨Nat.zero_le _, M, _, rfl, SQ.rfl, hW, fun i hi => by rw [if_neg (Nat.not_lt_zero _)]; exact hf i hi⟩
    (fun n z hz => by
      obtain ⟨hn, Mw, x, rfl, g1, g2, g3⟩ := hz
      show (∃ r, lp_X8_can_75 o (nI p) (nI k) (nI n) Mw = some (.inr r) ∧ _) ∨ _ ∧ ∃ s', lp_X8_can_75 o (nI p) (nI k) (nI n) Mw = some (.inl s') ∧ _
      by_cases e : n = 10
      · left
        subst e
        refine ⟨Mw, ?_, g1, fun i hi => by rw [g3 i hi, if_pos hi]⟩
        unfold lp_X8_can_75
        rw [if_pos (by decide)]
      · right
        have hn' : n < 10 := by omega
        have n100 : n < 100 := by omega
        have f1 : ¬ (10 : Int32) ≤ nI n := by show ¬ nI 10 ≤ nI n; rw [nI_leI (by decide) (by omega)]; omega
        have zi : ∀ a k, Zi a k → Zh a k := fun a k q => by rcases q with q | q; exact Or.inr (Or.inl q); exact Or.inr (Or.inr q)
        have s2 : SQ M (sI Mw (o + 61) 1 (nI n)) o Zi := g1.sI (Or.inl (Or.inl ⟨rfl, by decide⟩))
        have h2 := h.sc (s2.mono fun a k q => Zh_scr a k (zi a k q))
        have hS := g1.shp h.1
        have hS2 := h2.1
        have w2 : WK (sI Mw (o + 61) 1 (nI n)) o 61 (G 2 p) (nI n) (G 4 p) (lnG G p) := g2.put (j := 1) (by decide)
        have c2 : CP (sI Mw (o + 61) 1 (nI n)) o 59 (seS G m k) := hC.fr s2 (fun k _ => by unfold Zi Zg; omega)
        have so := seenSo_c (G1 := Gu G 3 p (nI n)) (p := p) h2 c2 w2 crG_3.symm (fun q hq => crG_o (by decide) hq) k5 hp5 hq ((s2.2.2.2.2 6 k (by unfold Zi Zg; omega)).trans h6) ((s2.2.2.2.2 8 k (by unfold Zi Zg; omega)).trans h8)
        have so : fn_X8_isSeenSo (sI Mw (o + 61) 1 (nI n)) o (nI k) (nI p) = some (lI (seB G (Gu G 3 p (nI n)) m k)) := so
        have r1 := g3 n hn'
        rw [if_neg (Nat.lt_irrefl _)] at r1
        have nx : cnPf G m p (k + 1) n = (cnPf G m p k n && seB G (Gu G 3 p (nI n)) m k) := rfl
        refine ⟨hn', (nI (n + 1), sI (sI Mw (o + 61) 1 (nI n)) (o + 63) n (lI (cnPf G m p (k + 1) n))), ?_, by omega, _, nI n, rfl, s2.sI (Or.inr rfl), ?_, fun i hi => ?_⟩
        · rw [nx]
          cases e1 : cnPf G m p k n with
          | false =>
            rw [e1] at r1
            simp only [lp_X8_can_75, f1, r1, lI_f, Bool.false_and, nI_1, mt_sI, mt_sJ, mt_sP, mt_rI, mt_rJ, ml_sI, ml_sJ, ml_sP, ml_rI, ml_rJ, mP_sI, mP_sJ, mP_rI, mP_rJ, SHP_sI, SHP_sJ, SHP_rI, SHP_rJ, mI_sI, mI_rI, mI_sJ, mI_rJ, mI_sP, mJ_sI, mJ_rI, mJ_sP, mJ_sJ, mJ_rJ, gI_e, pI_e, ck_e, bnd_s, nm_eq, pr2_e, cnul_0, cnul_1, drf_1, sm_1, sm_2, aI_e, aJ_e, wI_e, wJ_e, aL_e, cpI_e, cpJ_e, Nat.reduceLeDiff, Nat.reduceEqDiff, Nat.add_left_cancel_iff, ad0, ad1, false_and, and_false, true_and, and_true, reduceIte, if_true, if_false, zb0, zb1, Int32.reduceLT, Int32.reduceLE, i10, nw1, nw2, nt1, nt2, not_true_eq_false, not_false_eq_true, mt_0, mt_1, mt_2, mt_3, ml_3, mt_4, ml_4, mt_5, mt_6, ml_6, mt_7, ml_7, mt_8, ml_8, mt_9, mt_10, ml_10, mt_11, ml_11, mt_12, ml_12, mt_13, mt_14, ml_14, mt_15, ml_15, mt_16, ml_16, mt_17, mt_18, ml_18, mt_19, mt_20, ml_20, mt_21, mt_22, ml_22, mt_23, mt_24, ml_24, mt_25, mt_26, ml_26, mt_53, mt_54, ml_54, mt_55, ml_55, mt_56, mt_57, ml_57, mt_58, ml_58, mt_59, mt_60, ml_60, mt_61, mt_62, ml_62, mt_63, ml_63, mt_64, mt_65, ml_65, mt_66, mt_67, ml_67, mt_68, mt_69, ml_69, mt_70, mt_71, ml_71, mt_72, mt_73, ml_73, mt_74, mt_75, ml_75, mt_76, mt_77, ml_77, gP_0_0, gP_0_1, gP_0_4, gP_0_5, gP_0_6, gP_0_7, gP_0_8, gP_0_9, gP_1_0, gP_1_1, gP_1_4, gP_1_5, gP_1_6, gP_2_0, gP_5_1, gP_5_2, gP_5_3, gP_9_1, gP_9_2, gP_9_3, gP_13_1, gP_13_2, gP_13_3, gP_17_3, gP_19_3, gP_21_3, gP_23_3, gP_25_3, gP_53_0, gP_53_6, gP_56_0, gP_59_0, gP_61_3, gP_64_0, gP_66_2, gP_68_2, gP_70_2, gP_72_2, gP_74_2, gP_76_2, aP_4, mtw_4, mtl_4, mll_4, gPw_4, aP_58, mtw_58, mtl_58, mll_58, gPw_58, hS, n100]
          | true =>
            rw [e1] at r1
            cases e2 : seB G (Gu G 3 p (nI n)) m k with
            | false =>
              rw [e2] at so
              simp only [lp_X8_can_75, f1, r1, so, lI_f, lI_t, Bool.true_and, nI_1, mt_sI, mt_sJ, mt_sP, mt_rI, mt_rJ, ml_sI, ml_sJ, ml_sP, ml_rI, ml_rJ, mP_sI, mP_sJ, mP_rI, mP_rJ, SHP_sI, SHP_sJ, SHP_rI, SHP_rJ, mI_sI, mI_rI, mI_sJ, mI_rJ, mI_sP, mJ_sI, mJ_rI, mJ_sP, mJ_sJ, mJ_rJ, gI_e, pI_e, ck_e, bnd_s, nm_eq, pr2_e, cnul_0, cnul_1, drf_1, sm_1, sm_2, aI_e, aJ_e, wI_e, wJ_e, aL_e, cpI_e, cpJ_e, Nat.reduceLeDiff, Nat.reduceEqDiff, Nat.add_left_cancel_iff, ad0, ad1, false_and, and_false, true_and, and_true, reduceIte, if_true, if_false, zb0, zb1, Int32.reduceLT, Int32.reduceLE, i10, nw1, nw2, nt1, nt2, not_true_eq_false, not_false_eq_true, mt_0, mt_1, mt_2, mt_3, ml_3, mt_4, ml_4, mt_5, mt_6, ml_6, mt_7, ml_7, mt_8, ml_8, mt_9, mt_10, ml_10, mt_11, ml_11, mt_12, ml_12, mt_13, mt_14, ml_14, mt_15, ml_15, mt_16, ml_16, mt_17, mt_18, ml_18, mt_19, mt_20, ml_20, mt_21, mt_22, ml_22, mt_23, mt_24, ml_24, mt_25, mt_26, ml_26, mt_53, mt_54, ml_54, mt_55, ml_55, mt_56, mt_57, ml_57, mt_58, ml_58, mt_59, mt_60, ml_60, mt_61, mt_62, ml_62, mt_63, ml_63, mt_64, mt_65, ml_65, mt_66, mt_67, ml_67, mt_68, mt_69, ml_69, mt_70, mt_71, ml_71, mt_72, mt_73, ml_73, mt_74, mt_75, ml_75, mt_76, mt_77, ml_77, gP_0_0, gP_0_1, gP_0_4, gP_0_5, gP_0_6, gP_0_7, gP_0_8, gP_0_9, gP_1_0, gP_1_1, gP_1_4, gP_1_5, gP_1_6, gP_2_0, gP_5_1, gP_5_2, gP_5_3, gP_9_1, gP_9_2, gP_9_3, gP_13_1, gP_13_2, gP_13_3, gP_17_3, gP_19_3, gP_21_3, gP_23_3, gP_25_3, gP_53_0, gP_53_6, gP_56_0, gP_59_0, gP_61_3, gP_64_0, gP_66_2, gP_68_2, gP_70_2, gP_72_2, gP_74_2, gP_76_2, aP_4, mtw_4, mtl_4, mll_4, gPw_4, aP_58, mtw_58, mtl_58, mll_58, gPw_58, hS, n100]
            | true =>
              rw [e2] at so
              simp only [lp_X8_can_75, f1, r1, so, lI_t, Bool.true_and, nI_1, mt_sI, mt_sJ, mt_sP, mt_rI, mt_rJ, ml_sI, ml_sJ, ml_sP, ml_rI, ml_rJ, mP_sI, mP_sJ, mP_rI, mP_rJ, SHP_sI, SHP_sJ, SHP_rI, SHP_rJ, mI_sI, mI_rI, mI_sJ, mI_rJ, mI_sP, mJ_sI, mJ_rI, mJ_sP, mJ_sJ, mJ_rJ, gI_e, pI_e, ck_e, bnd_s, nm_eq, pr2_e, cnul_0, cnul_1, drf_1, sm_1, sm_2, aI_e, aJ_e, wI_e, wJ_e, aL_e, cpI_e, cpJ_e, Nat.reduceLeDiff, Nat.reduceEqDiff, Nat.add_left_cancel_iff, ad0, ad1, false_and, and_false, true_and, and_true, reduceIte, if_true, if_false, zb0, zb1, Int32.reduceLT, Int32.reduceLE, i10, nw1, nw2, nt1, nt2, not_true_eq_false, not_false_eq_true, mt_0, mt_1, mt_2, mt_3, ml_3, mt_4, ml_4, mt_5, mt_6, ml_6, mt_7, ml_7, mt_8, ml_8, mt_9, mt_10, ml_10, mt_11, ml_11, mt_12, ml_12, mt_13, mt_14, ml_14, mt_15, ml_15, mt_16, ml_16, mt_17, mt_18, ml_18, mt_19, mt_20, ml_20, mt_21, mt_22, ml_22, mt_23, mt_24, ml_24, mt_25, mt_26, ml_26, mt_53, mt_54, ml_54, mt_55, ml_55, mt_56, mt_57, ml_57, mt_58, ml_58, mt_59, mt_60, ml_60, mt_61, mt_62, ml_62, mt_63, ml_63, mt_64, mt_65, ml_65, mt_66, mt_67, ml_67, mt_68, mt_69, ml_69, mt_70, mt_71, ml_71, mt_72, mt_73, ml_73, mt_74, mt_75, ml_75, mt_76, mt_77, ml_77, gP_0_0, gP_0_1, gP_0_4, gP_0_5, gP_0_6, gP_0_7, gP_0_8, gP_0_9, gP_1_0, gP_1_1, gP_1_4, gP_1_5, gP_1_6, gP_2_0, gP_5_1, gP_5_2, gP_5_3, gP_9_1, gP_9_2, gP_9_3, gP_13_1, gP_13_2, gP_13_3, gP_17_3, gP_19_3, gP_21_3, gP_23_3, gP_25_3, gP_53_0, gP_53_6, gP_56_0, gP_59_0, gP_61_3, gP_64_0, gP_66_2, gP_68_2, gP_70_2, gP_72_2, gP_74_2, gP_76_2, aP_4, mtw_4, mtl_4, mll_4, gPw_4, aP_58, mtw_58, mtl_58, mll_58, gPw_58, hS, n100]
        · obtain ⟨y0, y1, y2, y3, y4⟩ := w2
          exact ⟨y0, by rw [mI_sI, if_neg (by omega)]; exact y1, by rw [mI_sI, if_neg (by omega)]; exact y2, by rw [mI_sI, if_neg (by omega)]; exact y3, fun r hr => by rw [mI_sI, if_neg (by omega)]; exact y4 r hr⟩
        · rw [mI_sI]
          by_cases q : i = n
          · rw [if_pos ⟨rfl, q⟩, q, if_pos (Nat.lt_succ_self _)]
          · rw [if_neg (fun z => q z.2), mI_sI, if_neg (by omega), g3 i hi]
            by_cases q2 : i < n
            · rw [if_pos q2, if_pos (by omega)]
            · rw [if_neg q2, if_neg (by omega)]) (by decide)
  obtain ⟨r, h1, h2, h3⟩ := loop
  exact ⟨r, h1, h2.mono (fun a k q => by rcases q with q | q; exact Or.inr (Or.inl q); exact Or.inr (Or.inr q)), h3⟩
set_option maxHeartbeats 2000000 in
theorem can2_c (h : RR M o G) (hm : mI M (o + 2) 1 = nI m) (m1 : m ≤ 9999) (hp : p < gN G 1 1) {M0 : QM} (s0 : SQ M M0 o Zh) (f0 : ∀ i, i < 10 → mI M0 (o + 63) i = lI true) : ∃ M1, itr (fun s32 : Int32 × QM => lp_X8_can_32 o (nI p) (o + (17 + 2 * p)) s32.1 s32.2) FU (0, M0) = some M1 ∧ SQ M M1 o Zh ∧ ∀ i, i < 10 → mI M1 (o + 63) i = lI (cnPf G m p (gN G 1 3) i) := by
  obtain ⟨n, n1, n2, n3⟩ := h.2.sc 3 (by decide)
  have n1' : n ≤ 5 := n1
  have hp5 : p < 5 := by have := h.w5.1; omega
  have loop := itr_J (f := fun s32 : Int32 × QM => lp_X8_can_32 o (nI p) (o + (17 + 2 * p)) s32.1 s32.2) (s0 := (0, M0)) (fun k z => k ≤ n ∧ ∃ Mw, z = (nI k, Mw) ∧ SQ M Mw o Zh ∧ ∀ i, i < 10 → mI Mw (o + 63) i = lI (cnPf G m p k i)) (fun r => SQ M r o Zh ∧ ∀ i, i < 10 → mI r (o + 63) i = lI (cnPf G m p n i)) 5
    ⟨Nat.zero_le _, M0, rfl, s0, f0⟩
    (fun k z hz => by
      obtain ⟨hk, Mw, rfl, g1, g2⟩ := hz
      have h' := h.scr (g1.mono Zh_scr)
      have hS := h'.1.1
      have sz := (h'.c (Lv_1 (i := 3) (by decide)) (a := 5) (i := 4) rfl).trans n2
      show (∃ r, lp_X8_can_32 o (nI p) (o + (17 + 2 * p)) (nI k) Mw = some (.inr r) ∧ _) ∨ _ ∧ ∃ s', lp_X8_can_32 o (nI p) (o + (17 + 2 * p)) (nI k) Mw = some (.inl s') ∧ _
      by_cases e : k = n
      · left
        subst e
        have f1 : nI k ≤ nI k := nI_le (Nat.le_refl _) (by omega)
        refine ⟨Mw, ?_, g1, g2⟩
        simp only [lp_X8_can_32, sz, f1, mt_sI, mt_sJ, mt_sP, mt_rI, mt_rJ, ml_sI, ml_sJ, ml_sP, ml_rI, ml_rJ, mP_sI, mP_sJ, mP_rI, mP_rJ, SHP_sI, SHP_sJ, SHP_rI, SHP_rJ, mI_sI, mI_rI, mI_sJ, mI_rJ, mI_sP, mJ_sI, mJ_rI, mJ_sP, mJ_sJ, mJ_rJ, gI_e, pI_e, ck_e, bnd_s, nm_eq, pr2_e, cnul_0, cnul_1, drf_1, sm_1, sm_2, aI_e, aJ_e, wI_e, wJ_e, aL_e, cpI_e, cpJ_e, Nat.reduceLeDiff, Nat.reduceEqDiff, Nat.add_left_cancel_iff, ad0, ad1, false_and, and_false, true_and, and_true, reduceIte, if_true, if_false, zb0, zb1, Int32.reduceLT, Int32.reduceLE, i10, nw1, nw2, nt1, nt2, not_true_eq_false, not_false_eq_true, mt_0, mt_1, mt_2, mt_3, ml_3, mt_4, ml_4, mt_5, mt_6, ml_6, mt_7, ml_7, mt_8, ml_8, mt_9, mt_10, ml_10, mt_11, ml_11, mt_12, ml_12, mt_13, mt_14, ml_14, mt_15, ml_15, mt_16, ml_16, mt_17, mt_18, ml_18, mt_19, mt_20, ml_20, mt_21, mt_22, ml_22, mt_23, mt_24, ml_24, mt_25, mt_26, ml_26, mt_53, mt_54, ml_54, mt_55, ml_55, mt_56, mt_57, ml_57, mt_58, ml_58, mt_59, mt_60, ml_60, mt_61, mt_62, ml_62, mt_63, ml_63, mt_64, mt_65, ml_65, mt_66, mt_67, ml_67, mt_68, mt_69, ml_69, mt_70, mt_71, ml_71, mt_72, mt_73, ml_73, mt_74, mt_75, ml_75, mt_76, mt_77, ml_77, gP_0_0, gP_0_1, gP_0_4, gP_0_5, gP_0_6, gP_0_7, gP_0_8, gP_0_9, gP_1_0, gP_1_1, gP_1_4, gP_1_5, gP_1_6, gP_2_0, gP_5_1, gP_5_2, gP_5_3, gP_9_1, gP_9_2, gP_9_3, gP_13_1, gP_13_2, gP_13_3, gP_17_3, gP_19_3, gP_21_3, gP_23_3, gP_25_3, gP_53_0, gP_53_6, gP_56_0, gP_59_0, gP_61_3, gP_64_0, gP_66_2, gP_68_2, gP_70_2, gP_72_2, gP_74_2, gP_76_2, aP_4, mtw_4, mtl_4, mll_4, gPw_4, aP_58, mtw_58, mtl_58, mll_58, gPw_58, hS]
      · right
        have hk' : k < n := by omega
        have f1 : ¬ nI n ≤ nI k := by rw [nI_leI (by omega) (by omega)]; omega
        obtain ⟨k5, l6, l7, l8, q6, q6', q7, q7', q8⟩ := se_row h (k := k) (by rw [n3]; exact hk')
        have r7 := (h'.c l7 (a := 7) (i := k) rfl).trans q7
        have mm : mI Mw (o + 2) 1 = nI m := (g1.2.2.2.2 2 1 (by unfold Zh Zc Zg; omega)).trans hm
        obtain ⟨M1, a1, a2, a3⟩ := askBehind_c (n := gN G 7 k) h'.cw h'.cp h'.bds mm (by omega) (by omega)
        have h1 := h'.scr (a2.mono Zc59_scr)
        have hS1 := h1.1.1
        obtain ⟨M2, b1, b2, b3⟩ := copy_c hS1 hp5 (h1.cw.wk hp)
        have h2 := h1.scr (b2.mono Zg_scr)
        have hS2 := h2.1.1
        have c2 : CP M2 o 59 (seS G m k) := a3.fr b2 (fun k _ => by unfold Zg; omega)
        obtain ⟨M3, d1, d2, d3⟩ := can1_c h2.cw c2 b3 hp k5 q6' ((h2.c l6 (a := 6) (i := k) rfl).trans q6) (h2.c l8 (a := 8) (i := k) rfl) (fun i hi => ((b2.2.2.2.2 63 i (by unfold Zg; omega)).trans (a2.2.2.2.2 63 i (by unfold Zc; omega))).trans (g2 i hi))
        refine ⟨by omega, (nI (k + 1), M3), ?_, by omega, M3, rfl, ((g1.trans (a2.mono fun a k q => Or.inl q)).trans (b2.mono fun a k q => Or.inr (Or.inl q))).trans d2, d3⟩
        simp only [lp_X8_can_32, sz, f1, r7, a1, b1, d1, nI_1, mt_sI, mt_sJ, mt_sP, mt_rI, mt_rJ, ml_sI, ml_sJ, ml_sP, ml_rI, ml_rJ, mP_sI, mP_sJ, mP_rI, mP_rJ, SHP_sI, SHP_sJ, SHP_rI, SHP_rJ, mI_sI, mI_rI, mI_sJ, mI_rJ, mI_sP, mJ_sI, mJ_rI, mJ_sP, mJ_sJ, mJ_rJ, gI_e, pI_e, ck_e, bnd_s, nm_eq, pr2_e, cnul_0, cnul_1, drf_1, sm_1, sm_2, aI_e, aJ_e, wI_e, wJ_e, aL_e, cpI_e, cpJ_e, Nat.reduceLeDiff, Nat.reduceEqDiff, Nat.add_left_cancel_iff, ad0, ad1, false_and, and_false, true_and, and_true, reduceIte, if_true, if_false, zb0, zb1, Int32.reduceLT, Int32.reduceLE, i10, nw1, nw2, nt1, nt2, not_true_eq_false, not_false_eq_true, mt_0, mt_1, mt_2, mt_3, ml_3, mt_4, ml_4, mt_5, mt_6, ml_6, mt_7, ml_7, mt_8, ml_8, mt_9, mt_10, ml_10, mt_11, ml_11, mt_12, ml_12, mt_13, mt_14, ml_14, mt_15, ml_15, mt_16, ml_16, mt_17, mt_18, ml_18, mt_19, mt_20, ml_20, mt_21, mt_22, ml_22, mt_23, mt_24, ml_24, mt_25, mt_26, ml_26, mt_53, mt_54, ml_54, mt_55, ml_55, mt_56, mt_57, ml_57, mt_58, ml_58, mt_59, mt_60, ml_60, mt_61, mt_62, ml_62, mt_63, ml_63, mt_64, mt_65, ml_65, mt_66, mt_67, ml_67, mt_68, mt_69, ml_69, mt_70, mt_71, ml_71, mt_72, mt_73, ml_73, mt_74, mt_75, ml_75, mt_76, mt_77, ml_77, gP_0_0, gP_0_1, gP_0_4, gP_0_5, gP_0_6, gP_0_7, gP_0_8, gP_0_9, gP_1_0, gP_1_1, gP_1_4, gP_1_5, gP_1_6, gP_2_0, gP_5_1, gP_5_2, gP_5_3, gP_9_1, gP_9_2, gP_9_3, gP_13_1, gP_13_2, gP_13_3, gP_17_3, gP_19_3, gP_21_3, gP_23_3, gP_25_3, gP_53_0, gP_53_6, gP_56_0, gP_59_0, gP_61_3, gP_64_0, gP_66_2, gP_68_2, gP_70_2, gP_72_2, gP_74_2, gP_76_2, aP_4, mtw_4, mtl_4, mll_4, gPw_4, aP_58, mtw_58, mtl_58, mll_58, gPw_58, hS, hS1, k5]) (by decide)
  obtain ⟨r, h1, h2, h3⟩ := loop
  rw [n3]
  exact ⟨r, h1, h2, h3⟩
set_option maxHeartbeats 2000000 in
theorem can_m (h : RR M o G) (hF : FV (G 0) m M o) (m1 : m ≤ 9999) (hp : p < gN G 1 1) (hT : ∀ k, k < gN G 1 3 → ∀ c, c < 16 → mI M (o + 101) (16 * k + c) = seS G m k c) : ∃ M1, itr (fun s42 : Int32 × Int32 × Int32 × QM => lp_X9_can_42 (o + 78) (nI p) s42.1 s42.2.1 s42.2.2.1 s42.2.2.2) FU (0, (-5), 9, M) = some ((cdV (cnPf G m p (gN G 1 3)) 10 (0, -5)).1, (cdV (cnPf G m p (gN G 1 3)) 10 (0, -5)).2, M1) ∧ SQ M M1 o (fun a k => Ze a k ∨ (a = 81 ∧ k = p)) := by
  obtain ⟨n, n1, n2, n3⟩ := h.2.sc 3 (by decide)
  have n1' : n ≤ 5 := n1
  have hp5 : p < 5 := by have := h.w5.1; omega
  rw [n3] at hT ⊢
  have loop := itr_J (f := fun s42 : Int32 × Int32 × Int32 × QM => lp_X9_can_42 (o + 78) (nI p) s42.1 s42.2.1 s42.2.2.1 s42.2.2.2) (s0 := (0, (-5), 9, M)) (fun k z => ∃ i s Mw, i + k = 10 ∧ z = (s.1, s.2, dnI i, Mw) ∧ cdV (cnPf G m p n) i s = cdV (cnPf G m p n) 10 (0, -5) ∧ SQ M Mw o (fun a k => Ze a k ∨ (a = 81 ∧ k = p))) (fun r => ∃ M1, r = ((cdV (cnPf G m p n) 10 (0, -5)).1, (cdV (cnPf G m p n) 10 (0, -5)).2, M1) ∧ SQ M M1 o (fun a k => Ze a k ∨ (a = 81 ∧ k = p))) 10
    ⟨10, (0, -5), M, rfl, rfl, rfl, SQ.rfl⟩
    (fun k z hz => by
      obtain ⟨i, s, Mw, hi, rfl, hs, g1⟩ := hz
      show (∃ r, lp_X9_can_42 (o + 78) (nI p) s.1 s.2 (dnI i) Mw = some (.inr r) ∧ _) ∨ _ ∧ ∃ s', lp_X9_can_42 (o + 78) (nI p) s.1 s.2 (dnI i) Mw = some (.inl s') ∧ _
      cases i with
      | zero =>
        left
        have f1 : dnI 0 < 0 := by decide
        have hs : s = _ := hs
        exact ⟨(s.1, s.2, Mw), by unfold lp_X9_can_42; rw [if_pos f1], Mw, by rw [← hs], g1⟩
      | succ i =>
        right
        have f1 : ¬ dnI (i + 1) < 0 := nI_pos (by omega)
        have dn : dnI (i + 1) = nI i := rfl
        have hs : cdV (cnPf G m p n) i (if cnPf G m p n i then (s.1 + 1, nI i) else s) = _ := hs
        have hS := g1.shp h.1.1
        have s1 : SQ M (sI Mw (o + 81) p (nI i)) o (fun a k => Ze a k ∨ (a = 81 ∧ k = p)) := g1.sI (Or.inr ⟨rfl, rfl⟩)
        have mw1 := h.mw.wtz (j := 3) (r := 81) (x := nI i) hp (by decide) s1 (fun a k q => by rcases q with q | q; exact Or.inl (Ze_scr a k q); exact Or.inr q) (by rw [mI_sI, if_pos ⟨rfl, rfl⟩])
        have un : ∀ a k, ¬ Ze a k → ¬ (a = 81 ∧ k = p) → mI (sI Mw (o + 81) p (nI i)) (o + a) k = mI M (o + a) k := fun a k q1 q2 => s1.2.2.2.2 a k fun z => by rcases z with z | z; exact q1 z; exact q2 z
        have hS1 := mw1.1
        obtain ⟨M1, c1, c2⟩ := isSeen_m (G := G) (m := m) (n := n) mw1 ((un 78 1 (by unfold Ze ZB Zs; omega) (by omega)).trans hF.2.1) hF.2.2.2 ((un 78 25 (by unfold Ze ZB Zs; omega) (by omega)).trans h.ct) n1' ((un 78 33 (by unfold Ze ZB Zs; omega) (by omega)).trans ((h.m (Lv_1 (i := 3) (by decide)) (a := 78) (i := 33) rfl).trans n2)) (fun k hk => by
          obtain ⟨k5, l6, l7, l8, q6, q6', q7, q7', q8⟩ := se_row h (k := k) (by rw [n3]; exact hk)
          exact ⟨q6', (un 99 k (by unfold Ze ZB Zs; omega) (by omega)).trans ((h.m l6 (a := 99) (i := k) rfl).trans q6), (un 102 k (by unfold Ze ZB Zs; omega) (by omega)).trans (h.m l8 (a := 102) (i := k) rfl), fun c hc => (un 101 _ (by unfold Ze ZB Zs; omega) (by omega)).trans (hT k hk c hc), ripS_bd h.bds _⟩)
        have c1 : fn_X9_isSeen (sI Mw (o + 81) p (nI i)) (o + 78) = some (lI (cnPf G m p n i), M1) := c1
        have sq := s1.trans (c2.mono fun a k q => (Or.inl q : Ze a k ∨ (a = 81 ∧ k = p)))
        rw [dn] at f1 ⊢
        refine ⟨by omega, ?_⟩
        cases e : cnPf G m p n i with
        | true =>
          rw [e] at c1
          rw [if_pos e] at hs
          refine ⟨(s.1 + 1, nI i, dnI i, M1), ?_, i, (s.1 + 1, nI i), M1, by omega, rfl, hs, sq⟩
          simp only [lp_X9_can_42, f1, c1, lI_t, dnI_p, mt_sI, mt_sJ, mt_sP, mt_rI, mt_rJ, ml_sI, ml_sJ, ml_sP, ml_rI, ml_rJ, mP_sI, mP_sJ, mP_rI, mP_rJ, SHP_sI, SHP_sJ, SHP_rI, SHP_rJ, mI_sI, mI_rI, mI_sJ, mI_rJ, mI_sP, mJ_sI, mJ_rI, mJ_sP, mJ_sJ, mJ_rJ, gI_e, pI_e, ck_e, bnd_s, nm_eq, pr2_e, cnul_0, cnul_1, drf_1, sm_1, sm_2, aI_e, aJ_e, wI_e, wJ_e, aL_e, cpI_e, cpJ_e, Nat.reduceLeDiff, Nat.reduceEqDiff, Nat.add_left_cancel_iff, ad0, ad1, false_and, and_false, true_and, and_true, reduceIte, if_true, if_false, zb0, zb1, Int32.reduceLT, Int32.reduceLE, i10, nw1, nw2, nt1, nt2, not_true_eq_false, not_false_eq_true, mt_78, mt_79, ml_79, mt_80, ml_80, mt_81, ml_81, mt_82, ml_82, mt_83, ml_83, mt_84, ml_84, mt_85, ml_85, mt_86, ml_86, mt_87, ml_87, mt_88, ml_88, mt_89, ml_89, mt_90, ml_90, mt_91, ml_91, mt_92, ml_92, mt_93, ml_93, mt_94, ml_94, mt_95, ml_95, mt_96, ml_96, mt_97, ml_97, mt_98, ml_98, mt_99, ml_99, mt_100, ml_100, mt_101, ml_101, mt_102, ml_102, mt_103, ml_103, mt_104, ml_104, mt_105, ml_105, mt_106, ml_106, mt_107, ml_107, mt_108, ml_108, mt_109, ml_109, mt_110, ml_110, mt_111, ml_111, mt_112, ml_112, mt_113, ml_113, mt_114, ml_114, mt_115, ml_115, mt_116, ml_116, mt_117, ml_117, mt_118, ml_118, mt_119, ml_119, mt_120, ml_120, mt_121, ml_121, mt_122, ml_122, mt_123, ml_123, gP_78_2, gP_78_3, gP_78_4, gP_78_5, gP_78_6, gP_78_12, gP_78_13, gP_78_14, gP_78_15, gP_78_16, gP_78_17, gP_78_18, gP_78_19, gP_78_23, gP_78_24, gP_78_26, gP_78_27, gP_78_28, gP_78_31, gP_78_32, gP_78_34, gP_78_35, gP_78_36, gP_78_37, gP_78_40, gP_78_41, gP_78_42, gP_78_43, gP_78_52, gP_78_53, gP_78_54, gP_78_55, gP_78_56, gP_78_57, gP_78_58, gP_78_59, gP_78_60, gP_78_61, gP_78_62, gP_78_63, gP_78_65, gP_78_66, gP_78_67, gP_78_68, gP_78_69, hS, hp5]
        | false =>
          rw [e] at c1
          rw [e, if_neg Bool.false_ne_true] at hs
          refine ⟨(s.1, s.2, dnI i, M1), ?_, i, s, M1, by omega, rfl, hs, sq⟩
          simp only [lp_X9_can_42, f1, c1, lI_f, dnI_p, mt_sI, mt_sJ, mt_sP, mt_rI, mt_rJ, ml_sI, ml_sJ, ml_sP, ml_rI, ml_rJ, mP_sI, mP_sJ, mP_rI, mP_rJ, SHP_sI, SHP_sJ, SHP_rI, SHP_rJ, mI_sI, mI_rI, mI_sJ, mI_rJ, mI_sP, mJ_sI, mJ_rI, mJ_sP, mJ_sJ, mJ_rJ, gI_e, pI_e, ck_e, bnd_s, nm_eq, pr2_e, cnul_0, cnul_1, drf_1, sm_1, sm_2, aI_e, aJ_e, wI_e, wJ_e, aL_e, cpI_e, cpJ_e, Nat.reduceLeDiff, Nat.reduceEqDiff, Nat.add_left_cancel_iff, ad0, ad1, false_and, and_false, true_and, and_true, reduceIte, if_true, if_false, zb0, zb1, Int32.reduceLT, Int32.reduceLE, i10, nw1, nw2, nt1, nt2, not_true_eq_false, not_false_eq_true, mt_78, mt_79, ml_79, mt_80, ml_80, mt_81, ml_81, mt_82, ml_82, mt_83, ml_83, mt_84, ml_84, mt_85, ml_85, mt_86, ml_86, mt_87, ml_87, mt_88, ml_88, mt_89, ml_89, mt_90, ml_90, mt_91, ml_91, mt_92, ml_92, mt_93, ml_93, mt_94, ml_94, mt_95, ml_95, mt_96, ml_96, mt_97, ml_97, mt_98, ml_98, mt_99, ml_99, mt_100, ml_100, mt_101, ml_101, mt_102, ml_102, mt_103, ml_103, mt_104, ml_104, mt_105, ml_105, mt_106, ml_106, mt_107, ml_107, mt_108, ml_108, mt_109, ml_109, mt_110, ml_110, mt_111, ml_111, mt_112, ml_112, mt_113, ml_113, mt_114, ml_114, mt_115, ml_115, mt_116, ml_116, mt_117, ml_117, mt_118, ml_118, mt_119, ml_119, mt_120, ml_120, mt_121, ml_121, mt_122, ml_122, mt_123, ml_123, gP_78_2, gP_78_3, gP_78_4, gP_78_5, gP_78_6, gP_78_12, gP_78_13, gP_78_14, gP_78_15, gP_78_16, gP_78_17, gP_78_18, gP_78_19, gP_78_23, gP_78_24, gP_78_26, gP_78_27, gP_78_28, gP_78_31, gP_78_32, gP_78_34, gP_78_35, gP_78_36, gP_78_37, gP_78_40, gP_78_41, gP_78_42, gP_78_43, gP_78_52, gP_78_53, gP_78_54, gP_78_55, gP_78_56, gP_78_57, gP_78_58, gP_78_59, gP_78_60, gP_78_61, gP_78_62, gP_78_63, gP_78_65, gP_78_66, gP_78_67, gP_78_68, gP_78_69, hS, hp5]) (by decide)
  obtain ⟨r, h1, M1, rfl, h2⟩ := loop
  exact ⟨M1, h1, h2⟩
end HJ3
set_option maxHeartbeats 2000000 in
theorem op_can {M : QM} {o : Nat} {G : GG} (h : RR M o G) (p1 p2 : Int32) : ∃ v M1 M2 G', fn_X8_can M o p1 p2 = some (v, M1) ∧ fn_X9_can M1 (o + 78) p1 p2 = some (v, M2) ∧ RR M2 o G' := by
  have hS := h.1.1
  obtain ⟨w, w1, w2, w3, w4, w5, w6⟩ := h.wk p1
  rcases w6 with ⟨c, hc, hc5, rfl, b1, b2⟩ | ⟨b1, b2⟩
  · rcases rng p2 2 2 1 rfl rfl (by decide) (by decide) with ⟨p, hp, rfl, d1, d2, d3⟩ | ⟨d1, d2, d3⟩
    · obtain ⟨m, m1, m2, m3, m4⟩ := h.fv
      have hcw : c < gN G 1 1 := by rw [w3]; exact hc
      obtain ⟨M0, f1, f2, f3⟩ := fitAll_c (n := 10) hS (by decide)
      have hS0 := f2.shp hS
      have f1 : fn_X8_fitAll M o 10 = some M0 := f1
      obtain ⟨M1, a1, a2, a3⟩ := can2_c h m4 m1 hcw f2 f3
      have h1 := h.scr (a2.mono Zh_scr)
      have hS1 := h1.1.1
      have ft := fitting_c (n := 10) (p := p) hS1 (by decide) (by decide) a3 hp
      have ft : fn_X8_fitting M1 o 10 (nI p) = _ := ft
      have w51 : mI M1 (o + 78) 0 = nI w := (a2.2.2.2.2 78 0 (by unfold Zh Zc Zg; omega)).trans w5
      have m31 : FV (G 0) m M1 o := m3.s a2 (fun c _ => by unfold Zh Zc Zg; omega) (by unfold Zh Zc Zg; omega)
      obtain ⟨M2, c1, c2, c3⟩ := layThen_m h1 m31 m1
      have h2 := h1.scr c2
      have hS2 := h2.1.1
      have m32 : FV (G 0) m M2 o := m31.s c2 (fun c _ => by show ¬ scr 79 c = true; unfold scr; simp) (by decide)
      obtain ⟨M3, e1, e2⟩ := can_m h2 m32 m1 hcw c3
      have hS3 := e2.shp hS2
      have x1 := (h2.mw.2.2.1 c hcw).2.1
      have fin : SC M2 (sI M3 (o + 81) c (G 3 c)) o := by
        refine ⟨e2.1, e2.2.1, e2.2.2.1, e2.2.2.2.1, fun a k q => ?_⟩
        rw [mI_sI]
        by_cases z : a = 81 ∧ k = c
        · rw [if_pos ⟨by rw [z.1], z.2⟩, z.1, z.2, x1]
        · rw [if_neg (by omega)]
          exact e2.2.2.2.2 a k fun y => by
            rcases y with y | y
            · exact q (Ze_scr a k y)
            · exact z y
      refine ⟨if p = 0 then (cdV (cnPf G m c (gN G 1 3)) 10 (0, -5)).1 else (cdV (cnPf G m c (gN G 1 3)) 10 (0, -5)).2, M1, sI M3 (o + 81) c (G 3 c), G, ?_, ?_, h1.scr (c2.trans fin)⟩
      · simp only [fn_X8_can, fn_X5_walkerAt, w4, b1, d1, f1, a1, ft, mt_sI, mt_sJ, mt_sP, mt_rI, mt_rJ, ml_sI, ml_sJ, ml_sP, ml_rI, ml_rJ, mP_sI, mP_sJ, mP_rI, mP_rJ, SHP_sI, SHP_sJ, SHP_rI, SHP_rJ, mI_sI, mI_rI, mI_sJ, mI_rJ, mI_sP, mJ_sI, mJ_rI, mJ_sP, mJ_sJ, mJ_rJ, gI_e, pI_e, ck_e, bnd_s, nm_eq, pr2_e, cnul_0, cnul_1, drf_1, sm_1, sm_2, aI_e, aJ_e, wI_e, wJ_e, aL_e, cpI_e, cpJ_e, Nat.reduceLeDiff, Nat.reduceEqDiff, Nat.add_left_cancel_iff, ad0, ad1, false_and, and_false, true_and, and_true, reduceIte, if_true, if_false, zb0, zb1, Int32.reduceLT, Int32.reduceLE, i10, nw1, nw2, nt1, nt2, not_true_eq_false, not_false_eq_true, mt_0, mt_1, mt_2, mt_3, ml_3, mt_4, ml_4, mt_5, mt_6, ml_6, mt_7, ml_7, mt_8, ml_8, mt_9, mt_10, ml_10, mt_11, ml_11, mt_12, ml_12, mt_13, mt_14, ml_14, mt_15, ml_15, mt_16, ml_16, mt_17, mt_18, ml_18, mt_19, mt_20, ml_20, mt_21, mt_22, ml_22, mt_23, mt_24, ml_24, mt_25, mt_26, ml_26, mt_53, mt_54, ml_54, mt_55, ml_55, mt_56, mt_57, ml_57, mt_58, ml_58, mt_59, mt_60, ml_60, mt_61, mt_62, ml_62, mt_63, ml_63, mt_64, mt_65, ml_65, mt_66, mt_67, ml_67, mt_68, mt_69, ml_69, mt_70, mt_71, ml_71, mt_72, mt_73, ml_73, mt_74, mt_75, ml_75, mt_76, mt_77, ml_77, gP_0_0, gP_0_1, gP_0_4, gP_0_5, gP_0_6, gP_0_7, gP_0_8, gP_0_9, gP_1_0, gP_1_1, gP_1_4, gP_1_5, gP_1_6, gP_2_0, gP_5_1, gP_5_2, gP_5_3, gP_9_1, gP_9_2, gP_9_3, gP_13_1, gP_13_2, gP_13_3, gP_17_3, gP_19_3, gP_21_3, gP_23_3, gP_25_3, gP_53_0, gP_53_6, gP_56_0, gP_59_0, gP_61_3, gP_64_0, gP_66_2, gP_68_2, gP_70_2, gP_72_2, gP_74_2, gP_76_2, aP_4, mtw_4, mtl_4, mll_4, gPw_4, aP_58, mtw_58, mtl_58, mll_58, gPw_58, hS, hS1, hc5]
      · rcases (by omega : p = 0 ∨ p = 1) with rfl | rfl
        · have z0 : nI 0 = 0 := nI_0
          rw [z0] at d2
          simp only [fn_X9_can, fn_X9_isWalker, z0, w51, b2, d2, c1, x1, e1, pr3, mt_sI, mt_sJ, mt_sP, mt_rI, mt_rJ, ml_sI, ml_sJ, ml_sP, ml_rI, ml_rJ, mP_sI, mP_sJ, mP_rI, mP_rJ, SHP_sI, SHP_sJ, SHP_rI, SHP_rJ, mI_sI, mI_rI, mI_sJ, mI_rJ, mI_sP, mJ_sI, mJ_rI, mJ_sP, mJ_sJ, mJ_rJ, gI_e, pI_e, ck_e, bnd_s, nm_eq, pr2_e, cnul_0, cnul_1, drf_1, sm_1, sm_2, aI_e, aJ_e, wI_e, wJ_e, aL_e, cpI_e, cpJ_e, Nat.reduceLeDiff, Nat.reduceEqDiff, Nat.add_left_cancel_iff, ad0, ad1, false_and, and_false, true_and, and_true, reduceIte, if_true, if_false, zb0, zb1, Int32.reduceLT, Int32.reduceLE, i10, nw1, nw2, nt1, nt2, not_true_eq_false, not_false_eq_true, mt_78, mt_79, ml_79, mt_80, ml_80, mt_81, ml_81, mt_82, ml_82, mt_83, ml_83, mt_84, ml_84, mt_85, ml_85, mt_86, ml_86, mt_87, ml_87, mt_88, ml_88, mt_89, ml_89, mt_90, ml_90, mt_91, ml_91, mt_92, ml_92, mt_93, ml_93, mt_94, ml_94, mt_95, ml_95, mt_96, ml_96, mt_97, ml_97, mt_98, ml_98, mt_99, ml_99, mt_100, ml_100, mt_101, ml_101, mt_102, ml_102, mt_103, ml_103, mt_104, ml_104, mt_105, ml_105, mt_106, ml_106, mt_107, ml_107, mt_108, ml_108, mt_109, ml_109, mt_110, ml_110, mt_111, ml_111, mt_112, ml_112, mt_113, ml_113, mt_114, ml_114, mt_115, ml_115, mt_116, ml_116, mt_117, ml_117, mt_118, ml_118, mt_119, ml_119, mt_120, ml_120, mt_121, ml_121, mt_122, ml_122, mt_123, ml_123, gP_78_2, gP_78_3, gP_78_4, gP_78_5, gP_78_6, gP_78_12, gP_78_13, gP_78_14, gP_78_15, gP_78_16, gP_78_17, gP_78_18, gP_78_19, gP_78_23, gP_78_24, gP_78_26, gP_78_27, gP_78_28, gP_78_31, gP_78_32, gP_78_34, gP_78_35, gP_78_36, gP_78_37, gP_78_40, gP_78_41, gP_78_42, gP_78_43, gP_78_52, gP_78_53, gP_78_54, gP_78_55, gP_78_56, gP_78_57, gP_78_58, gP_78_59, gP_78_60, gP_78_61, gP_78_62, gP_78_63, gP_78_65, gP_78_66, gP_78_67, gP_78_68, gP_78_69, hS1, hS2, hS3, hc5]
        · have z1 : ¬ nI 1 = 0 := by decide
          have z2 : ¬ (1 : Nat) = 0 := by decide
          simp only [fn_X9_can, fn_X9_isWalker, z1, z2, w51, b2, d2, c1, x1, e1, pr3, mt_sI, mt_sJ, mt_sP, mt_rI, mt_rJ, ml_sI, ml_sJ, ml_sP, ml_rI, ml_rJ, mP_sI, mP_sJ, mP_rI, mP_rJ, SHP_sI, SHP_sJ, SHP_rI, SHP_rJ, mI_sI, mI_rI, mI_sJ, mI_rJ, mI_sP, mJ_sI, mJ_rI, mJ_sP, mJ_sJ, mJ_rJ, gI_e, pI_e, ck_e, bnd_s, nm_eq, pr2_e, cnul_0, cnul_1, drf_1, sm_1, sm_2, aI_e, aJ_e, wI_e, wJ_e, aL_e, cpI_e, cpJ_e, Nat.reduceLeDiff, Nat.reduceEqDiff, Nat.add_left_cancel_iff, ad0, ad1, false_and, and_false, true_and, and_true, reduceIte, if_true, if_false, zb0, zb1, Int32.reduceLT, Int32.reduceLE, i10, nw1, nw2, nt1, nt2, not_true_eq_false, not_false_eq_true, mt_78, mt_79, ml_79, mt_80, ml_80, mt_81, ml_81, mt_82, ml_82, mt_83, ml_83, mt_84, ml_84, mt_85, ml_85, mt_86, ml_86, mt_87, ml_87, mt_88, ml_88, mt_89, ml_89, mt_90, ml_90, mt_91, ml_91, mt_92, ml_92, mt_93, ml_93, mt_94, ml_94, mt_95, ml_95, mt_96, ml_96, mt_97, ml_97, mt_98, ml_98, mt_99, ml_99, mt_100, ml_100, mt_101, ml_101, mt_102, ml_102, mt_103, ml_103, mt_104, ml_104, mt_105, ml_105, mt_106, ml_106, mt_107, ml_107, mt_108, ml_108, mt_109, ml_109, mt_110, ml_110, mt_111, ml_111, mt_112, ml_112, mt_113, ml_113, mt_114, ml_114, mt_115, ml_115, mt_116, ml_116, mt_117, ml_117, mt_118, ml_118, mt_119, ml_119, mt_120, ml_120, mt_121, ml_121, mt_122, ml_122, mt_123, ml_123, gP_78_2, gP_78_3, gP_78_4, gP_78_5, gP_78_6, gP_78_12, gP_78_13, gP_78_14, gP_78_15, gP_78_16, gP_78_17, gP_78_18, gP_78_19, gP_78_23, gP_78_24, gP_78_26, gP_78_27, gP_78_28, gP_78_31, gP_78_32, gP_78_34, gP_78_35, gP_78_36, gP_78_37, gP_78_40, gP_78_41, gP_78_42, gP_78_43, gP_78_52, gP_78_53, gP_78_54, gP_78_55, gP_78_56, gP_78_57, gP_78_58, gP_78_59, gP_78_60, gP_78_61, gP_78_62, gP_78_63, gP_78_65, gP_78_66, gP_78_67, gP_78_68, gP_78_69, hS1, hS2, hS3, hc5]
    · refine ⟨-1, M, M, G, ?_, ?_, h⟩
      · simp only [fn_X8_can, fn_X5_walkerAt, w4, b1, d1, mt_sI, mt_sJ, mt_sP, mt_rI, mt_rJ, ml_sI, ml_sJ, ml_sP, ml_rI, ml_rJ, mP_sI, mP_sJ, mP_rI, mP_rJ, SHP_sI, SHP_sJ, SHP_rI, SHP_rJ, mI_sI, mI_rI, mI_sJ, mI_rJ, mI_sP, mJ_sI, mJ_rI, mJ_sP, mJ_sJ, mJ_rJ, gI_e, pI_e, ck_e, bnd_s, nm_eq, pr2_e, cnul_0, cnul_1, drf_1, sm_1, sm_2, aI_e, aJ_e, wI_e, wJ_e, aL_e, cpI_e, cpJ_e, Nat.reduceLeDiff, Nat.reduceEqDiff, Nat.add_left_cancel_iff, ad0, ad1, false_and, and_false, true_and, and_true, reduceIte, if_true, if_false, zb0, zb1, Int32.reduceLT, Int32.reduceLE, i10, nw1, nw2, nt1, nt2, not_true_eq_false, not_false_eq_true, mt_0, mt_1, mt_2, mt_3, ml_3, mt_4, ml_4, mt_5, mt_6, ml_6, mt_7, ml_7, mt_8, ml_8, mt_9, mt_10, ml_10, mt_11, ml_11, mt_12, ml_12, mt_13, mt_14, ml_14, mt_15, ml_15, mt_16, ml_16, mt_17, mt_18, ml_18, mt_19, mt_20, ml_20, mt_21, mt_22, ml_22, mt_23, mt_24, ml_24, mt_25, mt_26, ml_26, mt_53, mt_54, ml_54, mt_55, ml_55, mt_56, mt_57, ml_57, mt_58, ml_58, mt_59, mt_60, ml_60, mt_61, mt_62, ml_62, mt_63, ml_63, mt_64, mt_65, ml_65, mt_66, mt_67, ml_67, mt_68, mt_69, ml_69, mt_70, mt_71, ml_71, mt_72, mt_73, ml_73, mt_74, mt_75, ml_75, mt_76, mt_77, ml_77, gP_0_0, gP_0_1, gP_0_4, gP_0_5, gP_0_6, gP_0_7, gP_0_8, gP_0_9, gP_1_0, gP_1_1, gP_1_4, gP_1_5, gP_1_6, gP_2_0, gP_5_1, gP_5_2, gP_5_3, gP_9_1, gP_9_2, gP_9_3, gP_13_1, gP_13_2, gP_13_3, gP_17_3, gP_19_3, gP_21_3, gP_23_3, gP_25_3, gP_53_0, gP_53_6, gP_56_0, gP_59_0, gP_61_3, gP_64_0, gP_66_2, gP_68_2, gP_70_2, gP_72_2, gP_74_2, gP_76_2, aP_4, mtw_4, mtl_4, mll_4, gPw_4, aP_58, mtw_58, mtl_58, mll_58, gPw_58, hS, hc5]
      · simp only [fn_X9_can, fn_X9_isWalker, w5, b2, d2, mt_sI, mt_sJ, mt_sP, mt_rI, mt_rJ, ml_sI, ml_sJ, ml_sP, ml_rI, ml_rJ, mP_sI, mP_sJ, mP_rI, mP_rJ, SHP_sI, SHP_sJ, SHP_rI, SHP_rJ, mI_sI, mI_rI, mI_sJ, mI_rJ, mI_sP, mJ_sI, mJ_rI, mJ_sP, mJ_sJ, mJ_rJ, gI_e, pI_e, ck_e, bnd_s, nm_eq, pr2_e, cnul_0, cnul_1, drf_1, sm_1, sm_2, aI_e, aJ_e, wI_e, wJ_e, aL_e, cpI_e, cpJ_e, Nat.reduceLeDiff, Nat.reduceEqDiff, Nat.add_left_cancel_iff, ad0, ad1, false_and, and_false, true_and, and_true, reduceIte, if_true, if_false, zb0, zb1, Int32.reduceLT, Int32.reduceLE, i10, nw1, nw2, nt1, nt2, not_true_eq_false, not_false_eq_true, mt_78, mt_79, ml_79, mt_80, ml_80, mt_81, ml_81, mt_82, ml_82, mt_83, ml_83, mt_84, ml_84, mt_85, ml_85, mt_86, ml_86, mt_87, ml_87, mt_88, ml_88, mt_89, ml_89, mt_90, ml_90, mt_91, ml_91, mt_92, ml_92, mt_93, ml_93, mt_94, ml_94, mt_95, ml_95, mt_96, ml_96, mt_97, ml_97, mt_98, ml_98, mt_99, ml_99, mt_100, ml_100, mt_101, ml_101, mt_102, ml_102, mt_103, ml_103, mt_104, ml_104, mt_105, ml_105, mt_106, ml_106, mt_107, ml_107, mt_108, ml_108, mt_109, ml_109, mt_110, ml_110, mt_111, ml_111, mt_112, ml_112, mt_113, ml_113, mt_114, ml_114, mt_115, ml_115, mt_116, ml_116, mt_117, ml_117, mt_118, ml_118, mt_119, ml_119, mt_120, ml_120, mt_121, ml_121, mt_122, ml_122, mt_123, ml_123, gP_78_2, gP_78_3, gP_78_4, gP_78_5, gP_78_6, gP_78_12, gP_78_13, gP_78_14, gP_78_15, gP_78_16, gP_78_17, gP_78_18, gP_78_19, gP_78_23, gP_78_24, gP_78_26, gP_78_27, gP_78_28, gP_78_31, gP_78_32, gP_78_34, gP_78_35, gP_78_36, gP_78_37, gP_78_40, gP_78_41, gP_78_42, gP_78_43, gP_78_52, gP_78_53, gP_78_54, gP_78_55, gP_78_56, gP_78_57, gP_78_58, gP_78_59, gP_78_60, gP_78_61, gP_78_62, gP_78_63, gP_78_65, gP_78_66, gP_78_67, gP_78_68, gP_78_69, hS]
  · refine ⟨-1, M, M, G, ?_, ?_, h⟩
    · simp only [fn_X8_can, fn_X5_walkerAt, w4, b1, mt_sI, mt_sJ, mt_sP, mt_rI, mt_rJ, ml_sI, ml_sJ, ml_sP, ml_rI, ml_rJ, mP_sI, mP_sJ, mP_rI, mP_rJ, SHP_sI, SHP_sJ, SHP_rI, SHP_rJ, mI_sI, mI_rI, mI_sJ, mI_rJ, mI_sP, mJ_sI, mJ_rI, mJ_sP, mJ_sJ, mJ_rJ, gI_e, pI_e, ck_e, bnd_s, nm_eq, pr2_e, cnul_0, cnul_1, drf_1, sm_1, sm_2, aI_e, aJ_e, wI_e, wJ_e, aL_e, cpI_e, cpJ_e, Nat.reduceLeDiff, Nat.reduceEqDiff, Nat.add_left_cancel_iff, ad0, ad1, false_and, and_false, true_and, and_true, reduceIte, if_true, if_false, zb0, zb1, Int32.reduceLT, Int32.reduceLE, i10, nw1, nw2, nt1, nt2, not_true_eq_false, not_false_eq_true, mt_0, mt_1, mt_2, mt_3, ml_3, mt_4, ml_4, mt_5, mt_6, ml_6, mt_7, ml_7, mt_8, ml_8, mt_9, mt_10, ml_10, mt_11, ml_11, mt_12, ml_12, mt_13, mt_14, ml_14, mt_15, ml_15, mt_16, ml_16, mt_17, mt_18, ml_18, mt_19, mt_20, ml_20, mt_21, mt_22, ml_22, mt_23, mt_24, ml_24, mt_25, mt_26, ml_26, mt_53, mt_54, ml_54, mt_55, ml_55, mt_56, mt_57, ml_57, mt_58, ml_58, mt_59, mt_60, ml_60, mt_61, mt_62, ml_62, mt_63, ml_63, mt_64, mt_65, ml_65, mt_66, mt_67, ml_67, mt_68, mt_69, ml_69, mt_70, mt_71, ml_71, mt_72, mt_73, ml_73, mt_74, mt_75, ml_75, mt_76, mt_77, ml_77, gP_0_0, gP_0_1, gP_0_4, gP_0_5, gP_0_6, gP_0_7, gP_0_8, gP_0_9, gP_1_0, gP_1_1, gP_1_4, gP_1_5, gP_1_6, gP_2_0, gP_5_1, gP_5_2, gP_5_3, gP_9_1, gP_9_2, gP_9_3, gP_13_1, gP_13_2, gP_13_3, gP_17_3, gP_19_3, gP_21_3, gP_23_3, gP_25_3, gP_53_0, gP_53_6, gP_56_0, gP_59_0, gP_61_3, gP_64_0, gP_66_2, gP_68_2, gP_70_2, gP_72_2, gP_74_2, gP_76_2, aP_4, mtw_4, mtl_4, mll_4, gPw_4, aP_58, mtw_58, mtl_58, mll_58, gPw_58, hS]
    · simp only [fn_X9_can, fn_X9_isWalker, w5, b2, mt_sI, mt_sJ, mt_sP, mt_rI, mt_rJ, ml_sI, ml_sJ, ml_sP, ml_rI, ml_rJ, mP_sI, mP_sJ, mP_rI, mP_rJ, SHP_sI, SHP_sJ, SHP_rI, SHP_rJ, mI_sI, mI_rI, mI_sJ, mI_rJ, mI_sP, mJ_sI, mJ_rI, mJ_sP, mJ_sJ, mJ_rJ, gI_e, pI_e, ck_e, bnd_s, nm_eq, pr2_e, cnul_0, cnul_1, drf_1, sm_1, sm_2, aI_e, aJ_e, wI_e, wJ_e, aL_e, cpI_e, cpJ_e, Nat.reduceLeDiff, Nat.reduceEqDiff, Nat.add_left_cancel_iff, ad0, ad1, false_and, and_false, true_and, and_true, reduceIte, if_true, if_false, zb0, zb1, Int32.reduceLT, Int32.reduceLE, i10, nw1, nw2, nt1, nt2, not_true_eq_false, not_false_eq_true, mt_78, mt_79, ml_79, mt_80, ml_80, mt_81, ml_81, mt_82, ml_82, mt_83, ml_83, mt_84, ml_84, mt_85, ml_85, mt_86, ml_86, mt_87, ml_87, mt_88, ml_88, mt_89, ml_89, mt_90, ml_90, mt_91, ml_91, mt_92, ml_92, mt_93, ml_93, mt_94, ml_94, mt_95, ml_95, mt_96, ml_96, mt_97, ml_97, mt_98, ml_98, mt_99, ml_99, mt_100, ml_100, mt_101, ml_101, mt_102, ml_102, mt_103, ml_103, mt_104, ml_104, mt_105, ml_105, mt_106, ml_106, mt_107, ml_107, mt_108, ml_108, mt_109, ml_109, mt_110, ml_110, mt_111, ml_111, mt_112, ml_112, mt_113, ml_113, mt_114, ml_114, mt_115, ml_115, mt_116, ml_116, mt_117, ml_117, mt_118, ml_118, mt_119, ml_119, mt_120, ml_120, mt_121, ml_121, mt_122, ml_122, mt_123, ml_123, gP_78_2, gP_78_3, gP_78_4, gP_78_5, gP_78_6, gP_78_12, gP_78_13, gP_78_14, gP_78_15, gP_78_16, gP_78_17, gP_78_18, gP_78_19, gP_78_23, gP_78_24, gP_78_26, gP_78_27, gP_78_28, gP_78_31, gP_78_32, gP_78_34, gP_78_35, gP_78_36, gP_78_37, gP_78_40, gP_78_41, gP_78_42, gP_78_43, gP_78_52, gP_78_53, gP_78_54, gP_78_55, gP_78_56, gP_78_57, gP_78_58, gP_78_59, gP_78_60, gP_78_61, gP_78_62, gP_78_63, gP_78_65, gP_78_66, gP_78_67, gP_78_68, gP_78_69, hS]
