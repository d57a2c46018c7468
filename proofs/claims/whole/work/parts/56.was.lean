/-! ===== how many numbers fit, the least: was ===== -/
def cdV (P : Nat → Bool) : Nat → Int32 × Int32 → Int32 × Int32
  | 0, s => s
  | i + 1, s => cdV P i (if P i then (s.1 + 1, nI i) else s)
section CD1
variable {M N Mw : QM} {o w m c : Nat} {G : GG} {S : Nat → Int32} {P : Nat → Bool}
theorem cdV_congr {Q : Nat → Bool} : ∀ {n : Nat} {s : Int32 × Int32}, (∀ i, i < n → P i = Q i) → cdV P n s = cdV Q n s
  | 0, _, _ => rfl
  | n + 1, s, h => by
    show cdV P n (if P n then (s.1 + 1, nI n) else s) = cdV Q n (if Q n then (s.1 + 1, nI n) else s)
    rw [h n (by omega)]
    exact cdV_congr (fun i hi => h i (by omega))
theorem dnI_p (i : Nat) : nI i + (-1) = dnI i := dnI_s i
set_option maxHeartbeats 1000000 in
theorem fitting_c (hS : SHP M o) {n p : Nat} (hn : n ≤ 100) (h0 : 0 < n) (hf : ∀ i, i < n → mI M (o + 63) i = lI (P i)) (hp : p < 2) : fn_X8_fitting M o (nI n) (nI p) = some (if p = 0 then (cdV P n (0, -5)).1 else (cdV P n (0, -5)).2) := by
  have loop := itr_J (f := fun s11 : Int32 × Int32 × Int32 => lp_X8_fitting_11 M o s11.1 s11.2.1 s11.2.2) (s0 := (0, (-5), dnI n)) (fun k z => ∃ i s, i + k = n ∧ z = (s.1, s.2, dnI i) ∧ cdV P i s = cdV P n (0, -5)) (fun r => r = cdV P n (0, -5)) 100
    ⟨n, (0, -5), rfl, rfl, rfl⟩
    (fun k z hz => by
      obtain ⟨i, s, hi, rfl, hs⟩ := hz
      show (∃ r, lp_X8_fitting_11 M o s.1 s.2 (dnI i) = some (.inr r) ∧ _) ∨ _ ∧ ∃ s', lp_X8_fitting_11 M o s.1 s.2 (dnI i) = some (.inl s') ∧ _
      cases i with
      | zero =>
        left
        have f1 : dnI 0 < 0 := by decide
        exact ⟨(s.1, s.2), by unfold lp_X8_fitting_11; rw [if_pos f1], hs⟩
      | succ i =>
        right
        have f1 : ¬ dnI (i + 1) < 0 := nI_pos (by omega)
        have i100 : i < 100 := by omega
        have r1 := hf i (by omega)
        have dn : dnI (i + 1) = nI i := rfl
        have hs : cdV P i (if P i then (s.1 + 1, nI i) else s) = cdV P n (0, -5) := hs
        rw [dn] at f1 ⊢
        refine ⟨by omega, ?_⟩
        cases e : P i with
        | false =>
          rw [e] at r1 hs
          refine ⟨(s.1, s.2, dnI i), ?_, i, s, by omega, rfl, hs⟩
          simp only [lp_X8_fitting_11, f1, r1, lI_f, dnI_p, mt_sI, mt_sJ, mt_sP, mt_rI, mt_rJ, ml_sI, ml_sJ, ml_sP, ml_rI, ml_rJ, mP_sI, mP_sJ, mP_rI, mP_rJ, SHP_sI, SHP_sJ, SHP_rI, SHP_rJ, mI_sI, mI_rI, mI_sJ, mI_rJ, mI_sP, mJ_sI, mJ_rI, mJ_sP, mJ_sJ, mJ_rJ, gI_e, pI_e, ck_e, bnd_s, nm_eq, pr2_e, cnul_0, cnul_1, drf_1, sm_1, sm_2, aI_e, aJ_e, wI_e, wJ_e, aL_e, cpI_e, cpJ_e, Nat.reduceLeDiff, Nat.reduceEqDiff, Nat.add_left_cancel_iff, ad0, ad1, false_and, and_false, true_and, and_true, reduceIte, if_true, if_false, zb0, zb1, Int32.reduceLT, Int32.reduceLE, i10, nw1, nw2, nt1, nt2, not_true_eq_false, not_false_eq_true, mt_0, mt_1, mt_2, mt_3, ml_3, mt_4, ml_4, mt_5, mt_6, ml_6, mt_7, ml_7, mt_8, ml_8, mt_9, mt_10, ml_10, mt_11, ml_11, mt_12, ml_12, mt_13, mt_14, ml_14, mt_15, ml_15, mt_16, ml_16, mt_17, mt_18, ml_18, mt_19, mt_20, ml_20, mt_21, mt_22, ml_22, mt_23, mt_24, ml_24, mt_25, mt_26, ml_26, mt_53, mt_54, ml_54, mt_55, ml_55, mt_56, mt_57, ml_57, mt_58, ml_58, mt_59, mt_60, ml_60, mt_61, mt_62, ml_62, mt_63, ml_63, mt_64, mt_65, ml_65, mt_66, mt_67, ml_67, mt_68, mt_69, ml_69, mt_70, mt_71, ml_71, mt_72, mt_73, ml_73, mt_74, mt_75, ml_75, mt_76, mt_77, ml_77, gP_0_0, gP_0_1, gP_0_4, gP_0_5, gP_0_6, gP_0_7, gP_0_8, gP_0_9, gP_1_0, gP_1_1, gP_1_4, gP_1_5, gP_1_6, gP_2_0, gP_5_1, gP_5_2, gP_5_3, gP_9_1, gP_9_2, gP_9_3, gP_13_1, gP_13_2, gP_13_3, gP_17_3, gP_19_3, gP_21_3, gP_23_3, gP_25_3, gP_53_0, gP_53_6, gP_56_0, gP_59_0, gP_61_3, gP_64_0, gP_66_2, gP_68_2, gP_70_2, gP_72_2, gP_74_2, gP_76_2, aP_4, mtw_4, mtl_4, mll_4, gPw_4, aP_58, mtw_58, mtl_58, mll_58, gPw_58, hS, i100]
        | true =>
          rw [e] at r1 hs
          refine ⟨(s.1 + 1, nI i, dnI i), ?_, i, (s.1 + 1, nI i), by omega, rfl, hs⟩
          simp only [lp_X8_fitting_11, f1, r1, lI_t, dnI_p, mt_sI, mt_sJ, mt_sP, mt_rI, mt_rJ, ml_sI, ml_sJ, ml_sP, ml_rI, ml_rJ, mP_sI, mP_sJ, mP_rI, mP_rJ, SHP_sI, SHP_sJ, SHP_rI, SHP_rJ, mI_sI, mI_rI, mI_sJ, mI_rJ, mI_sP, mJ_sI, mJ_rI, mJ_sP, mJ_sJ, mJ_rJ, gI_e, pI_e, ck_e, bnd_s, nm_eq, pr2_e, cnul_0, cnul_1, drf_1, sm_1, sm_2, aI_e, aJ_e, wI_e, wJ_e, aL_e, cpI_e, cpJ_e, Nat.reduceLeDiff, Nat.reduceEqDiff, Nat.add_left_cancel_iff, ad0, ad1, false_and, and_false, true_and, and_true, reduceIte, if_true, if_false, zb0, zb1, Int32.reduceLT, Int32.reduceLE, i10, nw1, nw2, nt1, nt2, not_true_eq_false, not_false_eq_true, mt_0, mt_1, mt_2, mt_3, ml_3, mt_4, ml_4, mt_5, mt_6, ml_6, mt_7, ml_7, mt_8, ml_8, mt_9, mt_10, ml_10, mt_11, ml_11, mt_12, ml_12, mt_13, mt_14, ml_14, mt_15, ml_15, mt_16, ml_16, mt_17, mt_18, ml_18, mt_19, mt_20, ml_20, mt_21, mt_22, ml_22, mt_23, mt_24, ml_24, mt_25, mt_26, ml_26, mt_53, mt_54, ml_54, mt_55, ml_55, mt_56, mt_57, ml_57, mt_58, ml_58, mt_59, mt_60, ml_60, mt_61, mt_62, ml_62, mt_63, ml_63, mt_64, mt_65, ml_65, mt_66, mt_67, ml_67, mt_68, mt_69, ml_69, mt_70, mt_71, ml_71, mt_72, mt_73, ml_73, mt_74, mt_75, ml_75, mt_76, mt_77, ml_77, gP_0_0, gP_0_1, gP_0_4, gP_0_5, gP_0_6, gP_0_7, gP_0_8, gP_0_9, gP_1_0, gP_1_1, gP_1_4, gP_1_5, gP_1_6, gP_2_0, gP_5_1, gP_5_2, gP_5_3, gP_9_1, gP_9_2, gP_9_3, gP_13_1, gP_13_2, gP_13_3, gP_17_3, gP_19_3, gP_21_3, gP_23_3, gP_25_3, gP_53_0, gP_53_6, gP_56_0, gP_59_0, gP_61_3, gP_64_0, gP_66_2, gP_68_2, gP_70_2, gP_72_2, gP_74_2, gP_76_2, aP_4, mtw_4, mtl_4, mll_4, gPw_4, aP_58, mtw_58, mtl_58, mll_58, gPw_58, hS, i100]) (by decide)
  obtain ⟨r, h1, rfl⟩ := loop
  obtain ⟨n', rfl⟩ : ∃ n', n = n' + 1 := ⟨n - 1, by omega⟩
  unfold fn_X8_fitting
  rw [nm_eq, nI_pred]
  have h1 : itr (fun s11 : Int32 × Int32 × Int32 => lp_X8_fitting_11 M o s11.1 s11.2.1 s11.2.2) FU (0, (-5), nI n') = some (cdV P (n' + 1) (0, -5)) := h1
  rw [bnd_e h1]
  show (if nI p = 0 then some (cdV P (n' + 1) (0, -5)).1 else some (cdV P (n' + 1) (0, -5)).2) = _
  rcases (by omega : p = 0 ∨ p = 1) with rfl | rfl
  · rfl
  · rw [if_neg (by decide), if_neg (by decide)]
def Zt : Nat → Nat → Prop := fun a _ => a = 63
theorem Zt_scr (a k : Nat) (h : Zt a k) : scr a k = true := by
  rw [show a = 63 from h]; rfl
/-- STRENGTH of one CELL, n MINUTES on -/
def waS (G : GG) (m c n x : Nat) : Int32 := ripS (gw G) m n (fun _ => nI x) c
theorem waS_bd {n x : Nat} (hx : x ≤ 99) (hc : c < 16) : bd (waS G m c n x) 99 := ripS_bd (fun _ _ => bd_nI hx) n c hc
set_option maxHeartbeats 1000000 in
theorem was1_c (h : CW M o G w) (hm : mI M (o + 2) 1 = nI m) (m1 : m ≤ 9999) (hc : c < 16) {n x : Nat} (hn : n ≤ 20) (hx : x ≤ 99) : itr (fun s58 : Int32 × Int32 => lp_X8_was_58 o (nI c) (nI n) M s58.1 s58.2) FU (nI x, 0) = some (waS G m c n x) := by
  have hS := h.1
  obtain ⟨a, ha⟩ := h.2.2.2.hb
  have pt : ∀ {α : Type} (f : Nat → Option α), gR M (o + 1) 5 7 f = f (o + a) := fun f => CW.ptr (w := 0) ha hS
  have t := ha.mt.1
  refine itr_k (fun i => (waS G m c i x, nI i)) n rfl (fun i hi => ?_) ?_ (by omega)
  · have f1 : ¬ nI n ≤ nI i := by rw [nI_leI (by omega) (by omega)]; omega
    have gr := grown_c ha hc (waS_bd (G := G) (m := m) (n := i) hx hc) (by omega : m + i ≤ 20000)
    have e : nI m + nI i = nI (m + i) := nI_add m i
    show lp_X8_was_58 o (nI c) (nI n) M (waS G m c i x) (nI i) = _
    simp only [lp_X8_was_58, f1, pt, t, hm, e, gr, nI_1, mt_sI, mt_sJ, mt_sP, mt_rI, mt_rJ, ml_sI, ml_sJ, ml_sP, ml_rI, ml_rJ, mP_sI, mP_sJ, mP_rI, mP_rJ, SHP_sI, SHP_sJ, SHP_rI, SHP_rJ, mI_sI, mI_rI, mI_sJ, mI_rJ, mI_sP, mJ_sI, mJ_rI, mJ_sP, mJ_sJ, mJ_rJ, gI_e, pI_e, ck_e, bnd_s, nm_eq, pr2_e, cnul_0, cnul_1, drf_1, sm_1, sm_2, aI_e, aJ_e, wI_e, wJ_e, aL_e, cpI_e, cpJ_e, Nat.reduceLeDiff, Nat.reduceEqDiff, Nat.add_left_cancel_iff, ad0, ad1, false_and, and_false, true_and, and_true, reduceIte, if_true, if_false, zb0, zb1, Int32.reduceLT, Int32.reduceLE, i10, nw1, nw2, nt1, nt2, not_true_eq_false, not_false_eq_true, mt_0, mt_1, mt_2, mt_3, ml_3, mt_4, ml_4, mt_5, mt_6, ml_6, mt_7, ml_7, mt_8, ml_8, mt_9, mt_10, ml_10, mt_11, ml_11, mt_12, ml_12, mt_13, mt_14, ml_14, mt_15, ml_15, mt_16, ml_16, mt_17, mt_18, ml_18, mt_19, mt_20, ml_20, mt_21, mt_22, ml_22, mt_23, mt_24, ml_24, mt_25, mt_26, ml_26, mt_53, mt_54, ml_54, mt_55, ml_55, mt_56, mt_57, ml_57, mt_58, ml_58, mt_59, mt_60, ml_60, mt_61, mt_62, ml_62, mt_63, ml_63, mt_64, mt_65, ml_65, mt_66, mt_67, ml_67, mt_68, mt_69, ml_69, mt_70, mt_71, ml_71, mt_72, mt_73, ml_73, mt_74, mt_75, ml_75, mt_76, mt_77, ml_77, gP_0_0, gP_0_1, gP_0_4, gP_0_5, gP_0_6, gP_0_7, gP_0_8, gP_0_9, gP_1_0, gP_1_1, gP_1_4, gP_1_5, gP_1_6, gP_2_0, gP_5_1, gP_5_2, gP_5_3, gP_9_1, gP_9_2, gP_9_3, gP_13_1, gP_13_2, gP_13_3, gP_17_3, gP_19_3, gP_21_3, gP_23_3, gP_25_3, gP_53_0, gP_53_6, gP_56_0, gP_59_0, gP_61_3, gP_64_0, gP_66_2, gP_68_2, gP_70_2, gP_72_2, gP_74_2, gP_76_2, aP_4, mtw_4, mtl_4, mll_4, gPw_4, aP_58, mtw_58, mtl_58, mll_58, gPw_58, hS]
    rfl
  · show lp_X8_was_58 o (nI c) (nI n) M _ (nI n) = _
    unfold lp_X8_was_58
    rw [if_pos (nI_le (Nat.le_refl _) (by omega))]
def waP (G : GG) (m c n : Nat) (y : Int32) (x : Nat) : Bool := decide (waS G m c n x = y)
set_option maxHeartbeats 1000000 in
theorem was_c (h : CW M o G w) (hm : mI M (o + 2) 1 = nI m) (m1 : m ≤ 9999) (hc : c < 16) {n : Nat} (hn : n ≤ 20) {y : Int32} : ∃ M1, itr (fun s44 : Int32 × QM => lp_X8_was_44 o (nI c) y (nI n) s44.1 s44.2) FU (0, M) = some M1 ∧ SQ M M1 o Zt ∧ ∀ i, i < 100 → mI M1 (o + 63) i = lI (waP G m c n y i) := by
  have loop := itr_J (f := fun s44 : Int32 × QM => lp_X8_was_44 o (nI c) y (nI n) s44.1 s44.2) (s0 := (0, M)) (fun x z => x ≤ 100 ∧ ∃ Mw, z = (nI x, Mw) ∧ SQ M Mw o Zt ∧ ∀ i, i < x → mI Mw (o + 63) i = lI (waP G m c n y i)) (fun r => SQ M r o Zt ∧ ∀ i, i < 100 → mI r (o + 63) i = lI (waP G m c n y i)) 100
    ⟨Nat.zero_le _, M, rfl, SQ.rfl, fun i hi => absurd hi (Nat.not_lt_zero _)⟩
    (fun x z hz => by
      obtain ⟨hx, Mw, rfl, g1, g2⟩ := hz
      show (∃ r, lp_X8_was_44 o (nI c) y (nI n) (nI x) Mw = some (.inr r) ∧ _) ∨ _ ∧ ∃ s', lp_X8_was_44 o (nI c) y (nI n) (nI x) Mw = some (.inl s') ∧ _
      by_cases e : x = 100
      · left
        subst e
        refine ⟨Mw, ?_, g1, g2⟩
        unfold lp_X8_was_44
        rw [if_pos (by decide)]
      · right
        have hx' : x < 100 := by omega
        have f1 : ¬ (100 : Int32) ≤ nI x := by show ¬ nI 100 ≤ nI x; rw [nI_leI (by decide) (by omega)]; omega
        have h' := h.sc (g1.mono Zt_scr)
        have hS := h'.1
        have w1 := was1_c h' ((g1.2.2.2.2 2 1 (by unfold Zt; omega)).trans hm) m1 hc hn (by omega : x ≤ 99)
        refine ⟨hx', (nI (x + 1), sI Mw (o + 63) x (lI (waP G m c n y x))), ?_, by omega, _, rfl, g1.sI rfl, fun i hi => ?_⟩
        · unfold waP
          by_cases q : waS G m c n x = y
          · rw [decide_eq_true q]
            simp only [lp_X8_was_44, f1, w1, q, lI_t, nI_1, mt_sI, mt_sJ, mt_sP, mt_rI, mt_rJ, ml_sI, ml_sJ, ml_sP, ml_rI, ml_rJ, mP_sI, mP_sJ, mP_rI, mP_rJ, SHP_sI, SHP_sJ, SHP_rI, SHP_rJ, mI_sI, mI_rI, mI_sJ, mI_rJ, mI_sP, mJ_sI, mJ_rI, mJ_sP, mJ_sJ, mJ_rJ, gI_e, pI_e, ck_e, bnd_s, nm_eq, pr2_e, cnul_0, cnul_1, drf_1, sm_1, sm_2, aI_e, aJ_e, wI_e, wJ_e, aL_e, cpI_e, cpJ_e, Nat.reduceLeDiff, Nat.reduceEqDiff, Nat.add_left_cancel_iff, ad0, ad1, false_and, and_false, true_and, and_true, reduceIte, if_true, if_false, zb0, zb1, Int32.reduceLT, Int32.reduceLE, i10, nw1, nw2, nt1, nt2, not_true_eq_false, not_false_eq_true, mt_0, mt_1, mt_2, mt_3, ml_3, mt_4, ml_4, mt_5, mt_6, ml_6, mt_7, ml_7, mt_8, ml_8, mt_9, mt_10, ml_10, mt_11, ml_11, mt_12, ml_12, mt_13, mt_14, ml_14, mt_15, ml_15, mt_16, ml_16, mt_17, mt_18, ml_18, mt_19, mt_20, ml_20, mt_21, mt_22, ml_22, mt_23, mt_24, ml_24, mt_25, mt_26, ml_26, mt_53, mt_54, ml_54, mt_55, ml_55, mt_56, mt_57, ml_57, mt_58, ml_58, mt_59, mt_60, ml_60, mt_61, mt_62, ml_62, mt_63, ml_63, mt_64, mt_65, ml_65, mt_66, mt_67, ml_67, mt_68, mt_69, ml_69, mt_70, mt_71, ml_71, mt_72, mt_73, ml_73, mt_74, mt_75, ml_75, mt_76, mt_77, ml_77, gP_0_0, gP_0_1, gP_0_4, gP_0_5, gP_0_6, gP_0_7, gP_0_8, gP_0_9, gP_1_0, gP_1_1, gP_1_4, gP_1_5, gP_1_6, gP_2_0, gP_5_1, gP_5_2, gP_5_3, gP_9_1, gP_9_2, gP_9_3, gP_13_1, gP_13_2, gP_13_3, gP_17_3, gP_19_3, gP_21_3, gP_23_3, gP_25_3, gP_53_0, gP_53_6, gP_56_0, gP_59_0, gP_61_3, gP_64_0, gP_66_2, gP_68_2, gP_70_2, gP_72_2, gP_74_2, gP_76_2, aP_4, mtw_4, mtl_4, mll_4, gPw_4, aP_58, mtw_58, mtl_58, mll_58, gPw_58, hS, hx']
          · rw [decide_eq_false q]
            simp only [lp_X8_was_44, f1, w1, q, lI_f, nI_1, mt_sI, mt_sJ, mt_sP, mt_rI, mt_rJ, ml_sI, ml_sJ, ml_sP, ml_rI, ml_rJ, mP_sI, mP_sJ, mP_rI, mP_rJ, SHP_sI, SHP_sJ, SHP_rI, SHP_rJ, mI_sI, mI_rI, mI_sJ, mI_rJ, mI_sP, mJ_sI, mJ_rI, mJ_sP, mJ_sJ, mJ_rJ, gI_e, pI_e, ck_e, bnd_s, nm_eq, pr2_e, cnul_0, cnul_1, drf_1, sm_1, sm_2, aI_e, aJ_e, wI_e, wJ_e, aL_e, cpI_e, cpJ_e, Nat.reduceLeDiff, Nat.reduceEqDiff, Nat.add_left_cancel_iff, ad0, ad1, false_and, and_false, true_and, and_true, reduceIte, if_true, if_false, zb0, zb1, Int32.reduceLT, Int32.reduceLE, i10, nw1, nw2, nt1, nt2, not_true_eq_false, not_false_eq_true, mt_0, mt_1, mt_2, mt_3, ml_3, mt_4, ml_4, mt_5, mt_6, ml_6, mt_7, ml_7, mt_8, ml_8, mt_9, mt_10, ml_10, mt_11, ml_11, mt_12, ml_12, mt_13, mt_14, ml_14, mt_15, ml_15, mt_16, ml_16, mt_17, mt_18, ml_18, mt_19, mt_20, ml_20, mt_21, mt_22, ml_22, mt_23, mt_24, ml_24, mt_25, mt_26, ml_26, mt_53, mt_54, ml_54, mt_55, ml_55, mt_56, mt_57, ml_57, mt_58, ml_58, mt_59, mt_60, ml_60, mt_61, mt_62, ml_62, mt_63, ml_63, mt_64, mt_65, ml_65, mt_66, mt_67, ml_67, mt_68, mt_69, ml_69, mt_70, mt_71, ml_71, mt_72, mt_73, ml_73, mt_74, mt_75, ml_75, mt_76, mt_77, ml_77, gP_0_0, gP_0_1, gP_0_4, gP_0_5, gP_0_6, gP_0_7, gP_0_8, gP_0_9, gP_1_0, gP_1_1, gP_1_4, gP_1_5, gP_1_6, gP_2_0, gP_5_1, gP_5_2, gP_5_3, gP_9_1, gP_9_2, gP_9_3, gP_13_1, gP_13_2, gP_13_3, gP_17_3, gP_19_3, gP_21_3, gP_23_3, gP_25_3, gP_53_0, gP_53_6, gP_56_0, gP_59_0, gP_61_3, gP_64_0, gP_66_2, gP_68_2, gP_70_2, gP_72_2, gP_74_2, gP_76_2, aP_4, mtw_4, mtl_4, mll_4, gPw_4, aP_58, mtw_58, mtl_58, mll_58, gPw_58, hS, hx']
        · by_cases q : i = x
          · subst q; simp only [mt_sI, mt_sJ, mt_sP, mt_rI, mt_rJ, ml_sI, ml_sJ, ml_sP, ml_rI, ml_rJ, mP_sI, mP_sJ, mP_rI, mP_rJ, SHP_sI, SHP_sJ, SHP_rI, SHP_rJ, mI_sI, mI_rI, mI_sJ, mI_rJ, mI_sP, mJ_sI, mJ_rI, mJ_sP, mJ_sJ, mJ_rJ, gI_e, pI_e, ck_e, bnd_s, nm_eq, pr2_e, cnul_0, cnul_1, drf_1, sm_1, sm_2, aI_e, aJ_e, wI_e, wJ_e, aL_e, cpI_e, cpJ_e, Nat.reduceLeDiff, Nat.reduceEqDiff, Nat.add_left_cancel_iff, ad0, ad1, false_and, and_false, true_and, and_true, reduceIte, if_true, if_false, zb0, zb1, Int32.reduceLT, Int32.reduceLE, i10, nw1, nw2, nt1, nt2, not_true_eq_false, not_false_eq_true]
          · simp only [q, mt_sI, mt_sJ, mt_sP, mt_rI, mt_rJ, ml_sI, ml_sJ, ml_sP, ml_rI, ml_rJ, mP_sI, mP_sJ, mP_rI, mP_rJ, SHP_sI, SHP_sJ, SHP_rI, SHP_rJ, mI_sI, mI_rI, mI_sJ, mI_rJ, mI_sP, mJ_sI, mJ_rI, mJ_sP, mJ_sJ, mJ_rJ, gI_e, pI_e, ck_e, bnd_s, nm_eq, pr2_e, cnul_0, cnul_1, drf_1, sm_1, sm_2, aI_e, aJ_e, wI_e, wJ_e, aL_e, cpI_e, cpJ_e, Nat.reduceLeDiff, Nat.reduceEqDiff, Nat.add_left_cancel_iff, ad0, ad1, false_and, and_false, true_and, and_true, reduceIte, if_true, if_false, zb0, zb1, Int32.reduceLT, Int32.reduceLE, i10, nw1, nw2, nt1, nt2, not_true_eq_false, not_false_eq_true]; exact g2 i (by omega)) (by decide)
  obtain ⟨r, h1, h2⟩ := loop
  exact ⟨r, h1, h2⟩
/-- the cell alone is otherwise -/
def otS (S : Nat → Int32) (c : Nat) (x : Int32) : Nat → Int32 := fun j => if j = c then x else S j
set_option maxHeartbeats 1000000 in
theorem then_m (h : MW M o G w) (hF : FV S m M o) (m1 : m ≤ 9999) (hc : c < 16) {n x : Nat} (hn : n ≤ 20) (hx : x ≤ 99) : ∃ M1, fn_X9_strongThen M (o + 78) (nI c) (nI x) (nI n) = some (waS G m c n x, M1) ∧ SQ M M1 o Zm ∧ FV (otS S c (waS G m c n x)) m M1 o := by
  have hS := h.1
  have z79 : Zm 79 c := Or.inr (Or.inr (Or.inl ⟨rfl, hc⟩))
  have s0 : SQ M (sI M (o + 79) c (nI x)) o Zm := SQ.rfl.sI z79
  have b0 : ∀ i, ∀ j, j < 16 → bd (otS S c (waS G m c i x) j) 99 := fun i j hj => by
    unfold otS
    split
    · exact waS_bd hx hc
    · exact hF.2.2.1 j hj
  have loop := itr_J (f := fun s10 : Int32 × QM => lp_X9_strongThen_10 (o + 78) (nI c) (nI n) s10.1 s10.2) (s0 := (0, sI M (o + 79) c (nI x))) (fun i z => i ≤ n ∧ ∃ Mw, z = (nI i, Mw) ∧ SQ M Mw o Zm ∧ FV (otS S c (waS G m c i x)) (m + i) Mw o) (fun r => SQ M r o Zm ∧ FV (otS S c (waS G m c n x)) (m + n) r o) 20
    ⟨Nat.zero_le _, _, rfl, s0, fun j hj => by
      unfold otS
      rw [mI_sI]
      by_cases q : j = c
      · rw [if_pos ⟨rfl, q⟩, if_pos q]; rfl
      · rw [if_neg (fun z => q z.2), if_neg q]; exact hF.1 j hj, by rw [mI_sI, if_neg (by omega)]; exact hF.2.1, b0 0, hF.2.2.2⟩
    (fun i z hz => by
      obtain ⟨hi, Mw, rfl, g1, g2⟩ := hz
      have mw := h.zm g1 (fun _ _ q => q)
      have hS' := mw.1
      show (∃ r, lp_X9_strongThen_10 (o + 78) (nI c) (nI n) (nI i) Mw = some (.inr r) ∧ _) ∨ _ ∧ ∃ s', lp_X9_strongThen_10 (o + 78) (nI c) (nI n) (nI i) Mw = some (.inl s') ∧ _
      by_cases e : i = n
      · left
        subst e
        refine ⟨Mw, ?_, g1, g2⟩
        unfold lp_X9_strongThen_10
        rw [if_pos (nI_le (Nat.le_refl _) (by omega))]
      · right
        have f1 : ¬ nI n ≤ nI i := by rw [nI_leI (by omega) (by omega)]; omega
        obtain ⟨M1, c1, c2, c3⟩ := goCell_m hS' mw.2.2.2 g2 hc
        have zk : ∀ a k, Zk a k → Zm a k := fun a k q => by unfold Zm; unfold Zk at q; rcases q with q | q; exact Or.inr (Or.inl q); exact Or.inr (Or.inr (Or.inl q))
        have hS1 := c2.shp hS'
        have r1 : mI M1 (o + 78) 1 = nI (m + i) := (c2.2.2.2.2 78 1 (by unfold Zk; omega)).trans g2.2.1
        refine ⟨by omega, (nI (i + 1), sI M1 (o + 78) 1 (nI (m + i + 1))), ?_, by omega, _, rfl, (g1.trans (c2.mono zk)).sI (Or.inr (Or.inr (Or.inr ⟨rfl, rfl⟩))), fun j hj => ?_, by rw [mI_sI, if_pos ⟨rfl, rfl⟩]; rfl, b0 (i + 1), by omega⟩
        · simp only [lp_X9_strongThen_10, f1, c1, r1, nI_1, mt_sI, mt_sJ, mt_sP, mt_rI, mt_rJ, ml_sI, ml_sJ, ml_sP, ml_rI, ml_rJ, mP_sI, mP_sJ, mP_rI, mP_rJ, SHP_sI, SHP_sJ, SHP_rI, SHP_rJ, mI_sI, mI_rI, mI_sJ, mI_rJ, mI_sP, mJ_sI, mJ_rI, mJ_sP, mJ_sJ, mJ_rJ, gI_e, pI_e, ck_e, bnd_s, nm_eq, pr2_e, cnul_0, cnul_1, drf_1, sm_1, sm_2, aI_e, aJ_e, wI_e, wJ_e, aL_e, cpI_e, cpJ_e, Nat.reduceLeDiff, Nat.reduceEqDiff, Nat.add_left_cancel_iff, ad0, ad1, false_and, and_false, true_and, and_true, reduceIte, if_true, if_false, zb0, zb1, Int32.reduceLT, Int32.reduceLE, i10, nw1, nw2, nt1, nt2, not_true_eq_false, not_false_eq_true, mt_78, mt_79, ml_79, mt_80, ml_80, mt_81, ml_81, mt_82, ml_82, mt_83, ml_83, mt_84, ml_84, mt_85, ml_85, mt_86, ml_86, mt_87, ml_87, mt_88, ml_88, mt_89, ml_89, mt_90, ml_90, mt_91, ml_91, mt_92, ml_92, mt_93, ml_93, mt_94, ml_94, mt_95, ml_95, mt_96, ml_96, mt_97, ml_97, mt_98, ml_98, mt_99, ml_99, mt_100, ml_100, mt_101, ml_101, mt_102, ml_102, mt_103, ml_103, mt_104, ml_104, mt_105, ml_105, mt_106, ml_106, mt_107, ml_107, mt_108, ml_108, mt_109, ml_109, mt_110, ml_110, mt_111, ml_111, mt_112, ml_112, mt_113, ml_113, mt_114, ml_114, mt_115, ml_115, mt_116, ml_116, mt_117, ml_117, mt_118, ml_118, mt_119, ml_119, mt_120, ml_120, mt_121, ml_121, mt_122, ml_122, mt_123, ml_123, gP_78_2, gP_78_3, gP_78_4, gP_78_5, gP_78_6, gP_78_12, gP_78_13, gP_78_14, gP_78_15, gP_78_16, gP_78_17, gP_78_18, gP_78_19, gP_78_23, gP_78_24, gP_78_26, gP_78_27, gP_78_28, gP_78_31, gP_78_32, gP_78_34, gP_78_35, gP_78_36, gP_78_37, gP_78_40, gP_78_41, gP_78_42, gP_78_43, gP_78_52, gP_78_53, gP_78_54, gP_78_55, gP_78_56, gP_78_57, gP_78_58, gP_78_59, gP_78_60, gP_78_61, gP_78_62, gP_78_63, gP_78_65, gP_78_66, gP_78_67, gP_78_68, gP_78_69, hS', hS1]
        · rw [mI_sI, if_neg (by omega), c3 j hj]
          unfold otS
          by_cases q : j = c
          · rw [if_pos q, if_pos q, if_pos rfl]
            rfl
          · rw [if_neg q, if_neg q, if_neg q]) (by decide)
  obtain ⟨r, h1, h2, h3⟩ := loop
  have hS1 := h2.shp hS
  have r1 := h3.2.1
  have e : nI (m + n) - nI n = nI m := by rw [nI_sub (by omega)]; congr 1; omega
  have r2 : mI r (o + 79) c = waS G m c n x := (h3.1 c hc).trans (if_pos rfl)
  refine ⟨sI r (o + 78) 1 (nI m), ?_, h2.sI (Or.inr (Or.inr (Or.inr ⟨rfl, rfl⟩))), fun j hj => ?_, by rw [mI_sI, if_pos ⟨rfl, rfl⟩], b0 n, hF.2.2.2⟩
  · simp only [fn_X9_strongThen, h1, r1, e, r2, mt_sI, mt_sJ, mt_sP, mt_rI, mt_rJ, ml_sI, ml_sJ, ml_sP, ml_rI, ml_rJ, mP_sI, mP_sJ, mP_rI, mP_rJ, SHP_sI, SHP_sJ, SHP_rI, SHP_rJ, mI_sI, mI_rI, mI_sJ, mI_rJ, mI_sP, mJ_sI, mJ_rI, mJ_sP, mJ_sJ, mJ_rJ, gI_e, pI_e, ck_e, bnd_s, nm_eq, pr2_e, cnul_0, cnul_1, drf_1, sm_1, sm_2, aI_e, aJ_e, wI_e, wJ_e, aL_e, cpI_e, cpJ_e, Nat.reduceLeDiff, Nat.reduceEqDiff, Nat.add_left_cancel_iff, ad0, ad1, false_and, and_false, true_and, and_true, reduceIte, if_true, if_false, zb0, zb1, Int32.reduceLT, Int32.reduceLE, i10, nw1, nw2, nt1, nt2, not_true_eq_false, not_false_eq_true, mt_78, mt_79, ml_79, mt_80, ml_80, mt_81, ml_81, mt_82, ml_82, mt_83, ml_83, mt_84, ml_84, mt_85, ml_85, mt_86, ml_86, mt_87, ml_87, mt_88, ml_88, mt_89, ml_89, mt_90, ml_90, mt_91, ml_91, mt_92, ml_92, mt_93, ml_93, mt_94, ml_94, mt_95, ml_95, mt_96, ml_96, mt_97, ml_97, mt_98, ml_98, mt_99, ml_99, mt_100, ml_100, mt_101, ml_101, mt_102, ml_102, mt_103, ml_103, mt_104, ml_104, mt_105, ml_105, mt_106, ml_106, mt_107, ml_107, mt_108, ml_108, mt_109, ml_109, mt_110, ml_110, mt_111, ml_111, mt_112, ml_112, mt_113, ml_113, mt_114, ml_114, mt_115, ml_115, mt_116, ml_116, mt_117, ml_117, mt_118, ml_118, mt_119, ml_119, mt_120, ml_120, mt_121, ml_121, mt_122, ml_122, mt_123, ml_123, gP_78_2, gP_78_3, gP_78_4, gP_78_5, gP_78_6, gP_78_12, gP_78_13, gP_78_14, gP_78_15, gP_78_16, gP_78_17, gP_78_18, gP_78_19, gP_78_23, gP_78_24, gP_78_26, gP_78_27, gP_78_28, gP_78_31, gP_78_32, gP_78_34, gP_78_35, gP_78_36, gP_78_37, gP_78_40, gP_78_41, gP_78_42, gP_78_43, gP_78_52, gP_78_53, gP_78_54, gP_78_55, gP_78_56, gP_78_57, gP_78_58, gP_78_59, gP_78_60, gP_78_61, gP_78_62, gP_78_63, gP_78_65, gP_78_66, gP_78_67, gP_78_68, gP_78_69, hS, hS1, hc]
  · rw [mI_sI, if_neg (by omega)]; exact h3.1 j hj
set_option maxHeartbeats 1000000 in
theorem was_m (h : MW M o G w) (hF : FV S m M o) (m1 : m ≤ 9999) (hc : c < 16) {n : Nat} (hn : n ≤ 20) {y : Int32} : ∃ M1, itr (fun s62 : Int32 × Int32 × Int32 × QM => lp_X9_was_62 (o + 78) (nI c) y (nI n) s62.1 s62.2.1 s62.2.2.1 s62.2.2.2) FU (0, (-5), 99, M) = some ((cdV (waP G m c n y) 100 (0, -5)).1, (cdV (waP G m c n y) 100 (0, -5)).2, M1) ∧ SQ M M1 o Zm ∧ ∃ v, FV (otS S c v) m M1 o := by
  have o0 : otS S c (S c) = S := by
    funext j
    unfold otS
    by_cases q : j = c
    · rw [if_pos q, q]
    · rw [if_neg q]
  have oo : ∀ x y, otS (otS S c x) c y = otS S c y := fun x y => by
    funext j
    unfold otS
    by_cases q : j = c
    · rw [if_pos q, if_pos q]
    · rw [if_neg q, if_neg q, if_neg q]
  have loop := itr_J (f := fun s62 : Int32 × Int32 × Int32 × QM => lp_X9_was_62 (o + 78) (nI c) y (nI n) s62.1 s62.2.1 s62.2.2.1 s62.2.2.2) (s0 := (0, (-5), 99, M)) (fun k z => ∃ i s Mw, i + k = 100 ∧ z = (s.1, s.2, dnI i, Mw) ∧ cdV (waP G m c n y) i s = cdV (waP G m c n y) 100 (0, -5) ∧ SQ M Mw o Zm ∧ ∃ v, FV (otS S c v) m Mw o) (fun r => ∃ M1, r = ((cdV (waP G m c n y) 100 (0, -5)).1, (cdV (waP G m c n y) 100 (0, -5)).2, M1) ∧ SQ M M1 o Zm ∧ ∃ v, FV (otS S c v) m M1 o) 100
    ⟨100, (0, -5), M, rfl, rfl, rfl, SQ.rfl, S c, by rw [o0]; exact hF⟩
    (fun k z hz => by
      obtain ⟨i, s, Mw, hi, rfl, hs, g1, v, g2⟩ := hz
      show (∃ r, lp_X9_was_62 (o + 78) (nI c) y (nI n) s.1 s.2 (dnI i) Mw = some (.inr r) ∧ _) ∨ _ ∧ ∃ s', lp_X9_was_62 (o + 78) (nI c) y (nI n) s.1 s.2 (dnI i) Mw = some (.inl s') ∧ _
      cases i with
      | zero =>
        left
        have f1 : dnI 0 < 0 := by decide
        have hs : s = _ := hs
        exact ⟨(s.1, s.2, Mw), by unfold lp_X9_was_62; rw [if_pos f1], Mw, by rw [← hs], g1, v, g2⟩
      | succ i =>
        right
        have f1 : ¬ dnI (i + 1) < 0 := nI_pos (by omega)
        have dn : dnI (i + 1) = nI i := rfl
        have hs : cdV (waP G m c n y) i (if waP G m c n y i then (s.1 + 1, nI i) else s) = _ := hs
        have mw := h.zm g1 (fun _ _ q => q)
        have hS' := mw.1
        obtain ⟨M1, c1, c2, c3⟩ := then_m mw g2 m1 hc hn (by omega : i ≤ 99)
        rw [oo] at c3
        rw [dn] at f1 ⊢
        refine ⟨by omega, ?_⟩
        by_cases q : waS G m c n i = y
        · have e : waP G m c n y i = true := decide_eq_true q
          rw [if_pos e] at hs
          rw [q] at c1
          refine ⟨(s.1 + 1, nI i, dnI i, M1), ?_, i, (s.1 + 1, nI i), M1, by omega, rfl, hs, g1.trans c2, _, c3⟩
          simp only [lp_X9_was_62, f1, c1, dnI_p, mt_sI, mt_sJ, mt_sP, mt_rI, mt_rJ, ml_sI, ml_sJ, ml_sP, ml_rI, ml_rJ, mP_sI, mP_sJ, mP_rI, mP_rJ, SHP_sI, SHP_sJ, SHP_rI, SHP_rJ, mI_sI, mI_rI, mI_sJ, mI_rJ, mI_sP, mJ_sI, mJ_rI, mJ_sP, mJ_sJ, mJ_rJ, gI_e, pI_e, ck_e, bnd_s, nm_eq, pr2_e, cnul_0, cnul_1, drf_1, sm_1, sm_2, aI_e, aJ_e, wI_e, wJ_e, aL_e, cpI_e, cpJ_e, Nat.reduceLeDiff, Nat.reduceEqDiff, Nat.add_left_cancel_iff, ad0, ad1, false_and, and_false, true_and, and_true, reduceIte, if_true, if_false, zb0, zb1, Int32.reduceLT, Int32.reduceLE, i10, nw1, nw2, nt1, nt2, not_true_eq_false, not_false_eq_true, mt_78, mt_79, ml_79, mt_80, ml_80, mt_81, ml_81, mt_82, ml_82, mt_83, ml_83, mt_84, ml_84, mt_85, ml_85, mt_86, ml_86, mt_87, ml_87, mt_88, ml_88, mt_89, ml_89, mt_90, ml_90, mt_91, ml_91, mt_92, ml_92, mt_93, ml_93, mt_94, ml_94, mt_95, ml_95, mt_96, ml_96, mt_97, ml_97, mt_98, ml_98, mt_99, ml_99, mt_100, ml_100, mt_101, ml_101, mt_102, ml_102, mt_103, ml_103, mt_104, ml_104, mt_105, ml_105, mt_106, ml_106, mt_107, ml_107, mt_108, ml_108, mt_109, ml_109, mt_110, ml_110, mt_111, ml_111, mt_112, ml_112, mt_113, ml_113, mt_114, ml_114, mt_115, ml_115, mt_116, ml_116, mt_117, ml_117, mt_118, ml_118, mt_119, ml_119, mt_120, ml_120, mt_121, ml_121, mt_122, ml_122, mt_123, ml_123, gP_78_2, gP_78_3, gP_78_4, gP_78_5, gP_78_6, gP_78_12, gP_78_13, gP_78_14, gP_78_15, gP_78_16, gP_78_17, gP_78_18, gP_78_19, gP_78_23, gP_78_24, gP_78_26, gP_78_27, gP_78_28, gP_78_31, gP_78_32, gP_78_34, gP_78_35, gP_78_36, gP_78_37, gP_78_40, gP_78_41, gP_78_42, gP_78_43, gP_78_52, gP_78_53, gP_78_54, gP_78_55, gP_78_56, gP_78_57, gP_78_58, gP_78_59, gP_78_60, gP_78_61, gP_78_62, gP_78_63, gP_78_65, gP_78_66, gP_78_67, gP_78_68, gP_78_69, hS']
        · have e : waP G m c n y i = false := decide_eq_false q
          rw [e, if_neg Bool.false_ne_true] at hs
          refine ⟨(s.1, s.2, dnI i, M1), ?_, i, s, M1, by omega, rfl, hs, g1.trans c2, _, c3⟩
          simp only [lp_X9_was_62, f1, c1, q, dnI_p, mt_sI, mt_sJ, mt_sP, mt_rI, mt_rJ, ml_sI, ml_sJ, ml_sP, ml_rI, ml_rJ, mP_sI, mP_sJ, mP_rI, mP_rJ, SHP_sI, SHP_sJ, SHP_rI, SHP_rJ, mI_sI, mI_rI, mI_sJ, mI_rJ, mI_sP, mJ_sI, mJ_rI, mJ_sP, mJ_sJ, mJ_rJ, gI_e, pI_e, ck_e, bnd_s, nm_eq, pr2_e, cnul_0, cnul_1, drf_1, sm_1, sm_2, aI_e, aJ_e, wI_e, wJ_e, aL_e, cpI_e, cpJ_e, Nat.reduceLeDiff, Nat.reduceEqDiff, Nat.add_left_cancel_iff, ad0, ad1, false_and, and_false, true_and, and_true, reduceIte, if_true, if_false, zb0, zb1, Int32.reduceLT, Int32.reduceLE, i10, nw1, nw2, nt1, nt2, not_true_eq_false, not_false_eq_true, mt_78, mt_79, ml_79, mt_80, ml_80, mt_81, ml_81, mt_82, ml_82, mt_83, ml_83, mt_84, ml_84, mt_85, ml_85, mt_86, ml_86, mt_87, ml_87, mt_88, ml_88, mt_89, ml_89, mt_90, ml_90, mt_91, ml_91, mt_92, ml_92, mt_93, ml_93, mt_94, ml_94, mt_95, ml_95, mt_96, ml_96, mt_97, ml_97, mt_98, ml_98, mt_99, ml_99, mt_100, ml_100, mt_101, ml_101, mt_102, ml_102, mt_103, ml_103, mt_104, ml_104, mt_105, ml_105, mt_106, ml_106, mt_107, ml_107, mt_108, ml_108, mt_109, ml_109, mt_110, ml_110, mt_111, ml_111, mt_112, ml_112, mt_113, ml_113, mt_114, ml_114, mt_115, ml_115, mt_116, ml_116, mt_117, ml_117, mt_118, ml_118, mt_119, ml_119, mt_120, ml_120, mt_121, ml_121, mt_122, ml_122, mt_123, ml_123, gP_78_2, gP_78_3, gP_78_4, gP_78_5, gP_78_6, gP_78_12, gP_78_13, gP_78_14, gP_78_15, gP_78_16, gP_78_17, gP_78_18, gP_78_19, gP_78_23, gP_78_24, gP_78_26, gP_78_27, gP_78_28, gP_78_31, gP_78_32, gP_78_34, gP_78_35, gP_78_36, gP_78_37, gP_78_40, gP_78_41, gP_78_42, gP_78_43, gP_78_52, gP_78_53, gP_78_54, gP_78_55, gP_78_56, gP_78_57, gP_78_58, gP_78_59, gP_78_60, gP_78_61, gP_78_62, gP_78_63, gP_78_65, gP_78_66, gP_78_67, gP_78_68, gP_78_69, hS']) (by decide)
  obtain ⟨r, h1, M1, rfl, h2, h3⟩ := loop
  exact ⟨M1, h1, h2, h3⟩
end CD1
set_option maxHeartbeats 2000000 in
theorem op_was {M : QM} {o : Nat} {G : GG} (h : RR M o G) (p1 p2 p3 p4 : Int32) : ∃ v M1 M2 G', fn_X8_was M o p1 p2 p3 p4 = some (v, M1) ∧ fn_X9_was M1 (o + 78) p1 p2 p3 p4 = some (v, M2) ∧ RR M2 o G' := by
  have hS := h.1.1
  rcases rng p1 16 16 15 rfl rfl (by decide) (by decide) with ⟨c, hc, rfl, b1, b2, b3⟩ | ⟨b1, b2, b3⟩
  · rcases rng p4 2 2 1 rfl rfl (by decide) (by decide) with ⟨p, hp, rfl, d1, d2, d3⟩ | ⟨d1, d2, d3⟩
    · rcases rng p2 100 100 99 rfl rfl (by decide) (by decide) with ⟨y, hy, rfl, e1, e2, e3⟩ | ⟨e1, e2, e3⟩
      · rcases rng p3 21 21 20 rfl rfl (by decide) (by decide) with ⟨n, hn, rfl, f1, f2, f3⟩ | ⟨f1, f2, f3⟩
        · obtain ⟨m, m1, m2, m3, m4⟩ := h.fv
          obtain ⟨M1, c1, c2, c3⟩ := was_c (n := n) (y := nI y) h.cw m4 m1 hc (by omega)
          have h1 := h.scr (c2.mono Zt_scr)
          have hS1 := h1.1.1
          have ft := fitting_c (n := 100) (p := p) hS1 (by decide) (by decide) c3 hp
          have ft : fn_X8_fitting M1 o 100 (nI p) = _ := ft
          have m31 : FV (G 0) m M1 o := m3.s c2 (fun c _ => by unfold Zt; omega) (by unfold Zt; omega)
          obtain ⟨M2, g1, g2, v, g3⟩ := was_m (n := n) (y := nI y) h1.mw m31 m1 hc (by omega)
          have hS2 := g2.shp hS1
          have x1 := m31.1 c hc
          have fin : FV (G 0) m (sI M2 (o + 79) c (G 0 c)) o := by
            refine ⟨fun j hj => ?_, ?_, h.bds, by omega⟩
            · rw [mI_sI]
              by_cases q : j = c
              · rw [if_pos ⟨rfl, q⟩, q]
              · rw [if_neg (fun z => q z.2), g3.1 j hj]
                unfold otS
                rw [if_neg q]
            · rw [mI_sI, if_neg (by omega)]; exact g3.2.1
          refine ⟨if p = 0 then (cdV (waP G m c n (nI y)) 100 (0, -5)).1 else (cdV (waP G m c n (nI y)) 100 (0, -5)).2, M1, sI M2 (o + 79) c (G 0 c), G, ?_, ?_, h1.scr (FV.back (g2.sI (Z79_Zm 79 c ⟨rfl, hc⟩)) m31 fin)⟩
          · simp only [fn_X8_was, b1, d1, e1, f3, c1, ft, mt_sI, mt_sJ, mt_sP, mt_rI, mt_rJ, ml_sI, ml_sJ, ml_sP, ml_rI, ml_rJ, mP_sI, mP_sJ, mP_rI, mP_rJ, SHP_sI, SHP_sJ, SHP_rI, SHP_rJ, mI_sI, mI_rI, mI_sJ, mI_rJ, mI_sP, mJ_sI, mJ_rI, mJ_sP, mJ_sJ, mJ_rJ, gI_e, pI_e, ck_e, bnd_s, nm_eq, pr2_e, cnul_0, cnul_1, drf_1, sm_1, sm_2, aI_e, aJ_e, wI_e, wJ_e, aL_e, cpI_e, cpJ_e, Nat.reduceLeDiff, Nat.reduceEqDiff, Nat.add_left_cancel_iff, ad0, ad1, false_and, and_false, true_and, and_true, reduceIte, if_true, if_false, zb0, zb1, Int32.reduceLT, Int32.reduceLE, i10, nw1, nw2, nt1, nt2, not_true_eq_false, not_false_eq_true, mt_0, mt_1, mt_2, mt_3, ml_3, mt_4, ml_4, mt_5, mt_6, ml_6, mt_7, ml_7, mt_8, ml_8, mt_9, mt_10, ml_10, mt_11, ml_11, mt_12, ml_12, mt_13, mt_14, ml_14, mt_15, ml_15, mt_16, ml_16, mt_17, mt_18, ml_18, mt_19, mt_20, ml_20, mt_21, mt_22, ml_22, mt_23, mt_24, ml_24, mt_25, mt_26, ml_26, mt_53, mt_54, ml_54, mt_55, ml_55, mt_56, mt_57, ml_57, mt_58, ml_58, mt_59, mt_60, ml_60, mt_61, mt_62, ml_62, mt_63, ml_63, mt_64, mt_65, ml_65, mt_66, mt_67, ml_67, mt_68, mt_69, ml_69, mt_70, mt_71, ml_71, mt_72, mt_73, ml_73, mt_74, mt_75, ml_75, mt_76, mt_77, ml_77, gP_0_0, gP_0_1, gP_0_4, gP_0_5, gP_0_6, gP_0_7, gP_0_8, gP_0_9, gP_1_0, gP_1_1, gP_1_4, gP_1_5, gP_1_6, gP_2_0, gP_5_1, gP_5_2, gP_5_3, gP_9_1, gP_9_2, gP_9_3, gP_13_1, gP_13_2, gP_13_3, gP_17_3, gP_19_3, gP_21_3, gP_23_3, gP_25_3, gP_53_0, gP_53_6, gP_56_0, gP_59_0, gP_61_3, gP_64_0, gP_66_2, gP_68_2, gP_70_2, gP_72_2, gP_74_2, gP_76_2, aP_4, mtw_4, mtl_4, mll_4, gPw_4, aP_58, mtw_58, mtl_58, mll_58, gPw_58, hS, hS1]
          · rcases (by omega : p = 0 ∨ p = 1) with rfl | rfl
            · have z0 : nI 0 = 0 := nI_0
              rw [z0] at d2
              simp only [fn_X9_was, fn_X9_isCell, fn_X9_isStrength, z0, b2, d2, e2, f2, x1, g1, pr3, mt_sI, mt_sJ, mt_sP, mt_rI, mt_rJ, ml_sI, ml_sJ, ml_sP, ml_rI, ml_rJ, mP_sI, mP_sJ, mP_rI, mP_rJ, SHP_sI, SHP_sJ, SHP_rI, SHP_rJ, mI_sI, mI_rI, mI_sJ, mI_rJ, mI_sP, mJ_sI, mJ_rI, mJ_sP, mJ_sJ, mJ_rJ, gI_e, pI_e, ck_e, bnd_s, nm_eq, pr2_e, cnul_0, cnul_1, drf_1, sm_1, sm_2, aI_e, aJ_e, wI_e, wJ_e, aL_e, cpI_e, cpJ_e, Nat.reduceLeDiff, Nat.reduceEqDiff, Nat.add_left_cancel_iff, ad0, ad1, false_and, and_false, true_and, and_true, reduceIte, if_true, if_false, zb0, zb1, Int32.reduceLT, Int32.reduceLE, i10, nw1, nw2, nt1, nt2, not_true_eq_false, not_false_eq_true, mt_78, mt_79, ml_79, mt_80, ml_80, mt_81, ml_81, mt_82, ml_82, mt_83, ml_83, mt_84, ml_84, mt_85, ml_85, mt_86, ml_86, mt_87, ml_87, mt_88, ml_88, mt_89, ml_89, mt_90, ml_90, mt_91, ml_91, mt_92, ml_92, mt_93, ml_93, mt_94, ml_94, mt_95, ml_95, mt_96, ml_96, mt_97, ml_97, mt_98, ml_98, mt_99, ml_99, mt_100, ml_100, mt_101, ml_101, mt_102, ml_102, mt_103, ml_103, mt_104, ml_104, mt_105, ml_105, mt_106, ml_106, mt_107, ml_107, mt_108, ml_108, mt_109, ml_109, mt_110, ml_110, mt_111, ml_111, mt_112, ml_112, mt_113, ml_113, mt_114, ml_114, mt_115, ml_115, mt_116, ml_116, mt_117, ml_117, mt_118, ml_118, mt_119, ml_119, mt_120, ml_120, mt_121, ml_121, mt_122, ml_122, mt_123, ml_123, gP_78_2, gP_78_3, gP_78_4, gP_78_5, gP_78_6, gP_78_12, gP_78_13, gP_78_14, gP_78_15, gP_78_16, gP_78_17, gP_78_18, gP_78_19, gP_78_23, gP_78_24, gP_78_26, gP_78_27, gP_78_28, gP_78_31, gP_78_32, gP_78_34, gP_78_35, gP_78_36, gP_78_37, gP_78_40, gP_78_41, gP_78_42, gP_78_43, gP_78_52, gP_78_53, gP_78_54, gP_78_55, gP_78_56, gP_78_57, gP_78_58, gP_78_59, gP_78_60, gP_78_61, gP_78_62, gP_78_63, gP_78_65, gP_78_66, gP_78_67, gP_78_68, gP_78_69, hS1, hS2, hc]
            · have z1 : ¬ nI 1 = 0 := by decide
              have z2 : ¬ (1 : Nat) = 0 := by decide
              simp only [fn_X9_was, fn_X9_isCell, fn_X9_isStrength, z1, z2, b2, d2, e2, f2, x1, g1, pr3, mt_sI, mt_sJ, mt_sP, mt_rI, mt_rJ, ml_sI, ml_sJ, ml_sP, ml_rI, ml_rJ, mP_sI, mP_sJ, mP_rI, mP_rJ, SHP_sI, SHP_sJ, SHP_rI, SHP_rJ, mI_sI, mI_rI, mI_sJ, mI_rJ, mI_sP, mJ_sI, mJ_rI, mJ_sP, mJ_sJ, mJ_rJ, gI_e, pI_e, ck_e, bnd_s, nm_eq, pr2_e, cnul_0, cnul_1, drf_1, sm_1, sm_2, aI_e, aJ_e, wI_e, wJ_e, aL_e, cpI_e, cpJ_e, Nat.reduceLeDiff, Nat.reduceEqDiff, Nat.add_left_cancel_iff, ad0, ad1, false_and, and_false, true_and, and_true, reduceIte, if_true, if_false, zb0, zb1, Int32.reduceLT, Int32.reduceLE, i10, nw1, nw2, nt1, nt2, not_true_eq_false, not_false_eq_true, mt_78, mt_79, ml_79, mt_80, ml_80, mt_81, ml_81, mt_82, ml_82, mt_83, ml_83, mt_84, ml_84, mt_85, ml_85, mt_86, ml_86, mt_87, ml_87, mt_88, ml_88, mt_89, ml_89, mt_90, ml_90, mt_91, ml_91, mt_92, ml_92, mt_93, ml_93, mt_94, ml_94, mt_95, ml_95, mt_96, ml_96, mt_97, ml_97, mt_98, ml_98, mt_99, ml_99, mt_100, ml_100, mt_101, ml_101, mt_102, ml_102, mt_103, ml_103, mt_104, ml_104, mt_105, ml_105, mt_106, ml_106, mt_107, ml_107, mt_108, ml_108, mt_109, ml_109, mt_110, ml_110, mt_111, ml_111, mt_112, ml_112, mt_113, ml_113, mt_114, ml_114, mt_115, ml_115, mt_116, ml_116, mt_117, ml_117, mt_118, ml_118, mt_119, ml_119, mt_120, ml_120, mt_121, ml_121, mt_122, ml_122, mt_123, ml_123, gP_78_2, gP_78_3, gP_78_4, gP_78_5, gP_78_6, gP_78_12, gP_78_13, gP_78_14, gP_78_15, gP_78_16, gP_78_17, gP_78_18, gP_78_19, gP_78_23, gP_78_24, gP_78_26, gP_78_27, gP_78_28, gP_78_31, gP_78_32, gP_78_34, gP_78_35, gP_78_36, gP_78_37, gP_78_40, gP_78_41, gP_78_42, gP_78_43, gP_78_52, gP_78_53, gP_78_54, gP_78_55, gP_78_56, gP_78_57, gP_78_58, gP_78_59, gP_78_60, gP_78_61, gP_78_62, gP_78_63, gP_78_65, gP_78_66, gP_78_67, gP_78_68, gP_78_69, hS1, hS2, hc]
        · exact ⟨-2, M, M, G, by simp only [fn_X8_was, b1, d1, e1, f3, Nat.reduceLeDiff, Nat.reduceEqDiff, Nat.add_left_cancel_iff, ad0, ad1, false_and, and_false, true_and, and_true, reduceIte, if_true, if_false, zb0, zb1, Int32.reduceLT, Int32.reduceLE, i10, nw1, nw2, nt1, nt2, not_true_eq_false, not_false_eq_true], by simp only [fn_X9_was, fn_X9_isCell, fn_X9_isStrength, b2, d2, e2, f2, Nat.reduceLeDiff, Nat.reduceEqDiff, Nat.add_left_cancel_iff, ad0, ad1, false_and, and_false, true_and, and_true, reduceIte, if_true, if_false, zb0, zb1, Int32.reduceLT, Int32.reduceLE, i10, nw1, nw2, nt1, nt2, not_true_eq_false, not_false_eq_true], h⟩
      · exact ⟨-2, M, M, G, by simp only [fn_X8_was, b1, d1, e1, Nat.reduceLeDiff, Nat.reduceEqDiff, Nat.add_left_cancel_iff, ad0, ad1, false_and, and_false, true_and, and_true, reduceIte, if_true, if_false, zb0, zb1, Int32.reduceLT, Int32.reduceLE, i10, nw1, nw2, nt1, nt2, not_true_eq_false, not_false_eq_true], by simp only [fn_X9_was, fn_X9_isCell, fn_X9_isStrength, b2, d2, e2, Nat.reduceLeDiff, Nat.reduceEqDiff, Nat.add_left_cancel_iff, ad0, ad1, false_and, and_false, true_and, and_true, reduceIte, if_true, if_false, zb0, zb1, Int32.reduceLT, Int32.reduceLE, i10, nw1, nw2, nt1, nt2, not_true_eq_false, not_false_eq_true], h⟩
    · exact ⟨-1, M, M, G, by simp only [fn_X8_was, b1, d1, Nat.reduceLeDiff, Nat.reduceEqDiff, Nat.add_left_cancel_iff, ad0, ad1, false_and, and_false, true_and, and_true, reduceIte, if_true, if_false, zb0, zb1, Int32.reduceLT, Int32.reduceLE, i10, nw1, nw2, nt1, nt2, not_true_eq_false, not_false_eq_true], by simp only [fn_X9_was, fn_X9_isCell, b2, d2, Nat.reduceLeDiff, Nat.reduceEqDiff, Nat.add_left_cancel_iff, ad0, ad1, false_and, and_false, true_and, and_true, reduceIte, if_true, if_false, zb0, zb1, Int32.reduceLT, Int32.reduceLE, i10, nw1, nw2, nt1, nt2, not_true_eq_false, not_false_eq_true], h⟩
  · exact ⟨-1, M, M, G, by simp only [fn_X8_was, b1, Nat.reduceLeDiff, Nat.reduceEqDiff, Nat.add_left_cancel_iff, ad0, ad1, false_and, and_false, true_and, and_true, reduceIte, if_true, if_false, zb0, zb1, Int32.reduceLT, Int32.reduceLE, i10, nw1, nw2, nt1, nt2, not_true_eq_false, not_false_eq_true], by simp only [fn_X9_was, fn_X9_isCell, b2, Nat.reduceLeDiff, Nat.reduceEqDiff, Nat.add_left_cancel_iff, ad0, ad1, false_and, and_false, true_and, and_true, reduceIte, if_true, if_false, zb0, zb1, Int32.reduceLT, Int32.reduceLE, i10, nw1, nw2, nt1, nt2, not_true_eq_false, not_false_eq_true], h⟩
