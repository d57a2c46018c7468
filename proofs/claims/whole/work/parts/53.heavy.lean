/-! ===== heaviest ===== -/
def dnI : Nat → Int32
  | 0 => -1
  | i + 1 => nI i
theorem dnI_s (i : Nat) : dnI (i + 1) + (-1) = dnI i := by
  cases i with
  | zero => show nI 0 + (-1) = -1; decide
  | succ i => exact nI_m1 i
/-- the greatest number below that P allows -/
def hvV (P : Nat → Bool) : Nat → Int32
  | 0 => -5
  | i + 1 => if P i then nI i else hvV P i
def Zg : Nat → Nat → Prop := fun a k => (a = 61 ∧ k < 3) ∨ (a = 62 ∧ k < 4)
/-- the reference's search, and one number of walker p in row r (81 v, 82 weight) -/
def Zw (r p : Nat) : Nat → Nat → Prop := fun a k => ZB a k ∨ (a = r ∧ k = p)
section HV1
variable {M N Mw : QM} {o w m p c : Nat} {G : GG} {S l : Nat → Int32} {k v wt : Int32}
theorem Zg_scr (a k : Nat) (h : Zg a k) : scr a k = true := by
  unfold Zg at h
  rcases h with ⟨rfl, h⟩ | ⟨rfl, h⟩
  · unfold scr; simp [h]
  · unfold scr; simp
theorem copy_c (hS : SHP M o) (hc : c < 5) (hw : WK M o (17 + 2 * c) k v wt l) : ∃ M1, fn_X7_copy M (o + 61) (o + (17 + 2 * c)) = some M1 ∧ SQ M M1 o Zg ∧ WK M1 o 61 k v wt l := by
  obtain ⟨⟨h1, h2, h3, h4⟩, g1, g2, g3, g4⟩ := hw
  obtain ⟨M3, hM3⟩ : ∃ M3, M3 = sI (sI (sI M (o + 61) 0 k) (o + 61) 1 v) (o + 61) 2 wt := ⟨_, rfl⟩
  have hS3 : SHP M3 o := by rw [hM3]; exact hS
  have q3 : SQ M M3 o Zg := by rw [hM3]; exact ((SQ.rfl.sI (Or.inl ⟨rfl, by decide⟩)).sI (Or.inl ⟨rfl, by decide⟩)).sI (Or.inl ⟨rfl, by decide⟩)
  have ne : ¬ o + (17 + 2 * c) = o + 61 := by omega
  have e18 : 17 + 2 * c + 1 = 18 + 2 * c := by omega
  have run : fn_X7_copy M (o + 61) (o + (17 + 2 * c)) = some (rI M3 (o + 62) (va_cpy (mI M3 (o + (18 + 2 * c))) (mI M3 (o + 62)) 0 0 4)) := by
    have cp := cpI_e (α := QM) (M := M3) (a := o + (18 + 2 * c)) (b := o + 62) (sp := 0) (dp := 0) (n := 4) (f := fun M35 => some M35) (mtl_4 hS3 hc) (mt_62 hS3) (by rw [mll_4 hS3 hc]; decide) (by rw [ml_62 hS3]; decide) (by rw [mll_4 hS3 hc]; decide) (by rw [ml_62 hS3]; decide)
    unfold fn_X7_copy
    rw [gI_e h1, g1, pI_e (mt_61 hS), gI_e (M := sI M (o + 61) 0 k) h1, mI_sI, if_neg (fun q => ne q.1), g2, pI_e (M := sI M (o + 61) 0 k) (mt_61 hS), gI_e (M := sI (sI M (o + 61) 0 k) (o + 61) 1 v) h1, mI_sI, if_neg (fun q => ne q.1), mI_sI, if_neg (fun q => ne q.1), g3, pI_e (M := sI (sI M (o + 61) 0 k) (o + 61) 1 v) (mt_61 hS), ← hM3, gPw_4 hS3 hc, gP_61_3 hS3]
    exact cp
  refine ⟨_, run, q3.rI fun j hj => ?_, ?_⟩
  · refine Or.inr ⟨rfl, ?_⟩
    by_cases q : j < 4
    · exact q
    · exact absurd (pk_cpy_out (Or.inr (by omega))) hj
  · refine ⟨⟨mt_61 hS3, hS3.2 (61, 3, 62) (by decide), mt_62 hS3, ml_62 hS3⟩, ?_, ?_, ?_, fun r hr => ?_⟩
    · rw [mI_rI, if_neg (by omega), hM3]; simp only [mt_sI, mt_sJ, mt_sP, mt_rI, mt_rJ, ml_sI, ml_sJ, ml_sP, ml_rI, ml_rJ, mP_sI, mP_sJ, mP_rI, mP_rJ, SHP_sI, SHP_sJ, SHP_rI, SHP_rJ, mI_sI, mI_rI, mI_sJ, mI_rJ, mI_sP, mJ_sI, mJ_rI, mJ_sP, mJ_sJ, mJ_rJ, gI_e, pI_e, ck_e, bnd_s, nm_eq, pr2_e, cnul_0, cnul_1, drf_1, sm_1, sm_2, aI_e, aJ_e, wI_e, wJ_e, aL_e, cpI_e, cpJ_e, Nat.reduceLeDiff, Nat.reduceEqDiff, Nat.add_left_cancel_iff, ad0, ad1, false_and, and_false, true_and, and_true, reduceIte, if_true, if_false, zb0, zb1, Int32.reduceLT, Int32.reduceLE, i10, nw1, nw2, nt1, nt2, not_true_eq_false, not_false_eq_true]
    · rw [mI_rI, if_neg (by omega), hM3]; simp only [mt_sI, mt_sJ, mt_sP, mt_rI, mt_rJ, ml_sI, ml_sJ, ml_sP, ml_rI, ml_rJ, mP_sI, mP_sJ, mP_rI, mP_rJ, SHP_sI, SHP_sJ, SHP_rI, SHP_rJ, mI_sI, mI_rI, mI_sJ, mI_rJ, mI_sP, mJ_sI, mJ_rI, mJ_sP, mJ_sJ, mJ_rJ, gI_e, pI_e, ck_e, bnd_s, nm_eq, pr2_e, cnul_0, cnul_1, drf_1, sm_1, sm_2, aI_e, aJ_e, wI_e, wJ_e, aL_e, cpI_e, cpJ_e, Nat.reduceLeDiff, Nat.reduceEqDiff, Nat.add_left_cancel_iff, ad0, ad1, false_and, and_false, true_and, and_true, reduceIte, if_true, if_false, zb0, zb1, Int32.reduceLT, Int32.reduceLE, i10, nw1, nw2, nt1, nt2, not_true_eq_false, not_false_eq_true]
    · rw [mI_rI, if_neg (by omega), hM3]; simp only [mt_sI, mt_sJ, mt_sP, mt_rI, mt_rJ, ml_sI, ml_sJ, ml_sP, ml_rI, ml_rJ, mP_sI, mP_sJ, mP_rI, mP_rJ, SHP_sI, SHP_sJ, SHP_rI, SHP_rJ, mI_sI, mI_rI, mI_sJ, mI_rJ, mI_sP, mJ_sI, mJ_rI, mJ_sP, mJ_sJ, mJ_rJ, gI_e, pI_e, ck_e, bnd_s, nm_eq, pr2_e, cnul_0, cnul_1, drf_1, sm_1, sm_2, aI_e, aJ_e, wI_e, wJ_e, aL_e, cpI_e, cpJ_e, Nat.reduceLeDiff, Nat.reduceEqDiff, Nat.add_left_cancel_iff, ad0, ad1, false_and, and_false, true_and, and_true, reduceIte, if_true, if_false, zb0, zb1, Int32.reduceLT, Int32.reduceLE, i10, nw1, nw2, nt1, nt2, not_true_eq_false, not_false_eq_true]
    · rw [mI_rI, if_pos rfl, pk_cpy_in (Nat.zero_le _) (by omega), Nat.sub_zero, Nat.zero_add, q3.2.2.2.2 (18 + 2 * c) r (by unfold Zg; omega)]
      have := g4 r hr
      rw [e18] at this
      exact this
theorem WK.put (hw : WK M o 61 k v wt l) {j : Nat} {x : Int32} (hj : j = 1 ∨ j = 2) : WK (sI M (o + 61) j x) o 61 k (if j = 1 then x else v) (if j = 2 then x else wt) l := by
  obtain ⟨h0, g1, g2, g3, g4⟩ := hw
  refine ⟨h0, ?_, ?_, ?_, fun r hr => ?_⟩
  · rw [mI_sI, if_neg (by omega)]; exact g1
  · rw [mI_sI]
    by_cases e : j = 1
    · rw [if_pos ⟨rfl, e.symm⟩, if_pos e]
    · rw [if_neg (by omega), if_neg e]; exact g2
  · rw [mI_sI]
    by_cases e : j = 2
    · rw [if_pos ⟨rfl, e.symm⟩, if_pos e]
    · rw [if_neg (by omega), if_neg e]; exact g3
  · rw [mI_sI, if_neg (by omega)]; exact g4 r hr
theorem gw_u {j0 k0 : Nat} {x : Int32} (h : j0 < 33) (h2 : ¬ j0 = 1) : gw (Gu G j0 k0 x) = gw G := by
  funext i
  unfold gw gN
  rw [Gu_j (by omega), Gu_j (by omega)]
theorem fx_zb {a k : Nat} (z : ZB a k) : fx a k = false := by
  unfold ZB at z
  rcases z with rfl | rfl | rfl <;> (unfold fx; simp)
/-- a walker's number is another for a while -/
theorem MW.wtn {j r : Nat} {x : Int32} (h : MW M o G w) (hp : p < w) (hj : (j = 3 ∧ r = 81) ∨ (j = 4 ∧ r = 82)) (hs : SQ M N o (Zw r p)) (hx : mI N (o + r) p = x) : MW N o (Gu G j p x) w := by
  obtain ⟨h1, ⟨h2, h2'⟩, h3, h4⟩ := h
  have e : ∀ a k, ¬ Zw r p a k → mI N (o + a) k = mI M (o + a) k := hs.2.2.2.2
  have zf : ∀ a k, fx a k = true → mI N (o + a) k = mI M (o + a) k := fun a k q => e a k fun z => by
    unfold Zw at z
    rcases z with z | ⟨rfl, rfl⟩
    · rw [fx_zb z] at q; cases q
    · rcases hj with ⟨_, rfl⟩ | ⟨_, rfl⟩ <;> (revert q; unfold fx; simp)
  have hp5 : p < dm j := by
    rcases hj with ⟨rfl, _⟩ | ⟨rfl, _⟩
    · show p < 5; omega
    · show p < 5; omega
  refine ⟨hs.shp h1, ⟨(e 78 0 (by unfold Zw ZB; omega)).trans h2, h2'⟩, fun q hq => ?_, h4.fr hs.1 hs.2.1 hs.2.2.1 zf (Gu_br (by omega) (by omega) hp5)⟩
  obtain ⟨g1, g2, g3, g4⟩ := h3 q hq
  refine ⟨?_, ?_, ?_, fun r' hr => ?_⟩
  · rw [Gu_j (by omega)]; exact (e 80 q (by unfold Zw ZB; omega)).trans g1
  · by_cases z : j = 3 ∧ q = p
    · obtain ⟨rfl, rfl⟩ := z
      rw [Gu_eq]
      rcases hj with ⟨_, rfl⟩ | ⟨z, _⟩
      · exact hx
      · omega
    · rw [Gu_ne (by omega)]; exact (e 81 q (by unfold Zw ZB; omega)).trans g2
  · by_cases z : j = 4 ∧ q = p
    · obtain ⟨rfl, rfl⟩ := z
      rw [Gu_eq]
      rcases hj with ⟨z, _⟩ | ⟨_, rfl⟩
      · omega
      · exact hx
    · rw [Gu_ne (by omega)]; exact (e 82 q (by unfold Zw ZB; omega)).trans g3
  · rw [Gu_j (by omega)]; exact (e 83 _ (by unfold Zw ZB; omega)).trans (g4 r' hr)
def hvP (G : GG) (S : Nat → Int32) (p n : Nat) : Bool := (crK (gw G 1600) (G 2 p) (G 3 p) (nI n) (lnG G p) S).isSome
theorem hvP_u {n : Nat} : (crG (Gu G 4 p (nI n)) S p).isSome = hvP G S p n := by
  unfold hvP crG
  rw [gw_u (by decide) (by decide), Gu_j (by decide), Gu_j (by decide), Gu_eq]
  rfl
set_option maxHeartbeats 1000000 in
theorem heavy_c (h : CW M o G w) (hC : CP M o 2 S) (hp : p < w) : ∃ M1, fn_X7_copy M (o + 61) (o + (17 + 2 * p)) = some M1 ∧ ∃ M2, itr (fun s26 : Int32 × QM => lp_X8_heaviest_26 o s26.1 s26.2) FU (99, M1) = some (hvV (hvP G S p) 100, M2) ∧ SQ M M2 o Zg := by
  have hw := h.2.1.2
  obtain ⟨M1, c1, c2, c3⟩ := copy_c h.1 (by omega : p < 5) (h.wk hp)
  refine ⟨M1, c1, ?_⟩
  have loop := itr_J (f := fun s26 : Int32 × QM => lp_X8_heaviest_26 o s26.1 s26.2) (s0 := (99, M1)) (fun k z => ∃ i Mw x, i + k = 100 ∧ z = (dnI i, Mw) ∧ SQ M Mw o Zg ∧ WK Mw o 61 (G 2 p) (G 3 p) x (lnG G p) ∧ hvV (hvP G S p) i = hvV (hvP G S p) 100) (fun r => ∃ M2, r = (hvV (hvP G S p) 100, M2) ∧ SQ M M2 o Zg) 100
    ⟨100, M1, _, rfl, rfl, c2, c3, rfl⟩
    (fun k z hz => by
      obtain ⟨i, Mw, x, hi, rfl, g1, g2, g3⟩ := hz
      have h' := h.sc (g1.mono Zg_scr)
      have hS' := h'.1
      show (∃ r, lp_X8_heaviest_26 o (dnI i) Mw = some (.inr r) ∧ _) ∨ _ ∧ ∃ s', lp_X8_heaviest_26 o (dnI i) Mw = some (.inl s') ∧ _
      cases i with
      | zero =>
        left
        have f1 : dnI 0 < 0 := by decide
        exact ⟨(-5, Mw), by unfold lp_X8_heaviest_26; rw [if_pos f1], Mw, by rw [← g3]; rfl, g1⟩
      | succ i =>
        have f1 : ¬ dnI (i + 1) < 0 := nI_pos (by omega)
        have w2 : WK (sI Mw (o + 61) 2 (nI i)) o 61 (G 2 p) (G 3 p) (nI i) (lnG G p) := g2.put (j := 2) (Or.inr rfl)
        have q1 : SQ M (sI Mw (o + 61) 2 (nI i)) o Zg := g1.sI (Or.inl ⟨rfl, by decide⟩)
        have h2 := h.sc (q1.mono Zg_scr)
        have hS2 := h2.1
        have hC2 : CP (sI Mw (o + 61) 2 (nI i)) o 2 S := hC.fr q1 (fun k _ => by unfold Zg; omega)
        have cr := crossing_c (sp := gw G 1600) w2 hC2
        have sp : ∀ {α : Type} (f : Int32 → Option α), (gR (sI Mw (o + 61) 2 (nI i)) (o + 1) 5 7 fun r => gI (sI Mw (o + 61) 2 (nI i)) r 1 1 f) = f (gw G 1600) := fun f => h2.spn
        have dn : dnI (i + 1) = nI i := rfl
        have run : lp_X8_heaviest_26 o (dnI (i + 1)) Mw = if iI (crK (gw G 1600) (G 2 p) (G 3 p) (nI i) (lnG G p) S) < 0 then some (.inl (dnI i, sI Mw (o + 61) 2 (nI i))) else some (.inr (nI i, sI Mw (o + 61) 2 (nI i))) := by
          unfold lp_X8_heaviest_26
          rw [if_neg f1, dn, gP_0_8 hS', pI_e (mt_61 hS'), gP_0_8 hS2, gP_0_0 hS2, gP_1_0 hS2, gP_0_0 hS2, sp, ck_e (M := sI Mw (o + 61) 2 (nI i)) (mt_61 hS'), bnd_e cr]
          rw [nm_eq, ← dn, dnI_s]
        have lt : ∀ n, crK (gw G 1600) (G 2 p) (G 3 p) (nI i) (lnG G p) S = some n → n < 2 ^ 31 := fun n e => by
          have : n < 16 := (lst_s e).1
          omega
        by_cases q : crK (gw G 1600) (G 2 p) (G 3 p) (nI i) (lnG G p) S = none
        · right
          rw [if_pos ((iI_neg lt).mpr q)] at run
          have e : hvP G S p i = false := by unfold hvP; rw [q]; rfl
          refine ⟨by omega, _, run, i, _, _, by omega, rfl, q1, w2, ?_⟩
          rw [← g3]
          show _ = if hvP G S p i = true then nI i else hvV (hvP G S p) i
          rw [if_neg (by rw [e]; decide)]
        · left
          rw [if_neg (fun z => q ((iI_neg lt).mp z))] at run
          have e : hvP G S p i = true := by
            unfold hvP
            cases e : crK (gw G 1600) (G 2 p) (G 3 p) (nI i) (lnG G p) S with
            | none => exact absurd e q
            | some _ => rfl
          refine ⟨_, run, _, ?_, q1⟩
          rw [← g3]
          show _ = ((if hvP G S p i = true then nI i else hvV (hvP G S p) i), _)
          rw [if_pos e]) (by decide)
  obtain ⟨r, h1, M2, rfl, h2⟩ := loop
  exact ⟨M2, h1, h2⟩
set_option maxHeartbeats 1000000 in
theorem heavy_m (h : MW M o G w) (hF : FV S m M o) (h0 : mI M (o + 78) 25 = 0) (hp : p < w) : ∃ M2, itr (fun s24 : Int32 × Int32 × QM => lp_X9_heaviest_24 (o + 78) (nI p) s24.1 s24.2.1 s24.2.2) FU ((-5), 99, M) = some (hvV (hvP G S p) 100, M2) ∧ SQ M M2 o (Zw 82 p) := by
  have hw := h.2.1.2
  have hp5 : p < 5 := by omega
  have loop := itr_J (f := fun s24 : Int32 × Int32 × QM => lp_X9_heaviest_24 (o + 78) (nI p) s24.1 s24.2.1 s24.2.2) (s0 := ((-5), 99, M)) (fun k z => ∃ i Mw f, i + k = 100 ∧ z = (f, dnI i, Mw) ∧ SQ M Mw o (Zw 82 p) ∧ ((f = -5 ∧ hvV (hvP G S p) i = hvV (hvP G S p) 100) ∨ (0 ≤ f ∧ f = hvV (hvP G S p) 100))) (fun r => ∃ M2, r = (hvV (hvP G S p) 100, M2) ∧ SQ M M2 o (Zw 82 p)) 100
    ⟨100, M, -5, rfl, rfl, SQ.rfl, Or.inl ⟨rfl, rfl⟩⟩
    (fun k z hz => by
      obtain ⟨i, Mw, f, hi, rfl, g1, g2⟩ := hz
      show (∃ r, lp_X9_heaviest_24 (o + 78) (nI p) f (dnI i) Mw = some (.inr r) ∧ _) ∨ _ ∧ ∃ s', lp_X9_heaviest_24 (o + 78) (nI p) f (dnI i) Mw = some (.inl s') ∧ _
      cases i with
      | zero =>
        left
        have f1 : dnI 0 < 0 := by decide
        refine ⟨(f, Mw), by unfold lp_X9_heaviest_24; rw [if_pos f1], Mw, ?_, g1⟩
        rcases g2 with ⟨q1, q2⟩ | ⟨q1, q2⟩
        · rw [q1, ← q2]; rfl
        · rw [q2]
      | succ i =>
        have f1 : ¬ dnI (i + 1) < 0 := nI_pos (by omega)
        rcases g2 with ⟨q1, q2⟩ | ⟨q1, q2⟩
        · right
          subst q1
          have f2 : ¬ (0 : Int32) ≤ -5 := by decide
          have hS' := g1.shp h.1
          have s1 : SQ M (sI Mw (o + 82) p (nI i)) o (Zw 82 p) := g1.sI (Or.inr ⟨rfl, rfl⟩)
          have mw1 := h.wtn hp (Or.inr ⟨rfl, rfl⟩) s1 (by rw [mI_sI, if_pos ⟨rfl, rfl⟩])
          have hF1 : FV S m (sI Mw (o + 82) p (nI i)) o := hF.s s1 (fun c _ => by unfold Zw ZB; omega) (by unfold Zw ZB; omega)
          obtain ⟨M1, c1, c2, c3⟩ := canCross_m mw1 hF1 ((s1.2.2.2.2 78 25 (by unfold Zw ZB; omega)).trans h0) hp
          rw [hvP_u] at c2
          have dn : dnI (i + 1) = nI i := rfl
          have ds := dnI_s i
          rw [dn] at ds
          have hS1 := mw1.1
          cases e : hvP G S p i with
          | false =>
            rw [e] at c2
            refine ⟨by omega, (-5, dnI i, M1), ?_, i, M1, -5, by omega, rfl, s1.trans (c3.mono fun a k q => Or.inl q), Or.inl ⟨rfl, ?_⟩⟩
            · rw [dn] at f1 ⊢
              simp only [lp_X9_heaviest_24, f1, f2, c2, lI_f, ds, mt_sI, mt_sJ, mt_sP, mt_rI, mt_rJ, ml_sI, ml_sJ, ml_sP, ml_rI, ml_rJ, mP_sI, mP_sJ, mP_rI, mP_rJ, SHP_sI, SHP_sJ, SHP_rI, SHP_rJ, mI_sI, mI_rI, mI_sJ, mI_rJ, mI_sP, mJ_sI, mJ_rI, mJ_sP, mJ_sJ, mJ_rJ, gI_e, pI_e, ck_e, bnd_s, nm_eq, pr2_e, cnul_0, cnul_1, drf_1, sm_1, sm_2, aI_e, aJ_e, wI_e, wJ_e, aL_e, cpI_e, cpJ_e, Nat.reduceLeDiff, Nat.reduceEqDiff, Nat.add_left_cancel_iff, ad0, ad1, false_and, and_false, true_and, and_true, reduceIte, if_true, if_false, zb0, zb1, Int32.reduceLT, Int32.reduceLE, i10, nw1, nw2, nt1, nt2, not_true_eq_false, not_false_eq_true, mt_78, mt_79, ml_79, mt_80, ml_80, mt_81, ml_81, mt_82, ml_82, mt_83, ml_83, mt_84, ml_84, mt_85, ml_85, mt_86, ml_86, mt_87, ml_87, mt_88, ml_88, mt_89, ml_89, mt_90, ml_90, mt_91, ml_91, mt_92, ml_92, mt_93, ml_93, mt_94, ml_94, mt_95, ml_95, mt_96, ml_96, mt_97, ml_97, mt_98, ml_98, mt_99, ml_99, mt_100, ml_100, mt_101, ml_101, mt_102, ml_102, mt_103, ml_103, mt_104, ml_104, mt_105, ml_105, mt_106, ml_106, mt_107, ml_107, mt_108, ml_108, mt_109, ml_109, mt_110, ml_110, mt_111, ml_111, mt_112, ml_112, mt_113, ml_113, mt_114, ml_114, mt_115, ml_115, mt_116, ml_116, mt_117, ml_117, mt_118, ml_118, mt_119, ml_119, mt_120, ml_120, mt_121, ml_121, mt_122, ml_122, mt_123, ml_123, gP_78_2, gP_78_3, gP_78_4, gP_78_5, gP_78_6, gP_78_12, gP_78_13, gP_78_14, gP_78_15, gP_78_16, gP_78_17, gP_78_18, gP_78_19, gP_78_23, gP_78_24, gP_78_26, gP_78_27, gP_78_28, gP_78_31, gP_78_32, gP_78_34, gP_78_35, gP_78_36, gP_78_37, gP_78_40, gP_78_41, gP_78_42, gP_78_43, gP_78_52, gP_78_53, gP_78_54, gP_78_55, gP_78_56, gP_78_57, gP_78_58, gP_78_59, gP_78_60, gP_78_61, gP_78_62, gP_78_63, gP_78_65, gP_78_66, gP_78_67, gP_78_68, gP_78_69, hS', hp5]
            · rw [← q2]
              show _ = if hvP G S p i = true then nI i else hvV (hvP G S p) i
              rw [if_neg (by rw [e]; decide)]
          | true =>
            rw [e] at c2
            refine ⟨by omega, (nI i, dnI i, M1), ?_, i, M1, nI i, by omega, rfl, s1.trans (c3.mono fun a k q => Or.inl q), Or.inr ⟨nI_pos' (by omega), ?_⟩⟩
            · rw [dn] at f1 ⊢
              simp only [lp_X9_heaviest_24, f1, f2, c2, lI_t, ds, mt_sI, mt_sJ, mt_sP, mt_rI, mt_rJ, ml_sI, ml_sJ, ml_sP, ml_rI, ml_rJ, mP_sI, mP_sJ, mP_rI, mP_rJ, SHP_sI, SHP_sJ, SHP_rI, SHP_rJ, mI_sI, mI_rI, mI_sJ, mI_rJ, mI_sP, mJ_sI, mJ_rI, mJ_sP, mJ_sJ, mJ_rJ, gI_e, pI_e, ck_e, bnd_s, nm_eq, pr2_e, cnul_0, cnul_1, drf_1, sm_1, sm_2, aI_e, aJ_e, wI_e, wJ_e, aL_e, cpI_e, cpJ_e, Nat.reduceLeDiff, Nat.reduceEqDiff, Nat.add_left_cancel_iff, ad0, ad1, false_and, and_false, true_and, and_true, reduceIte, if_true, if_false, zb0, zb1, Int32.reduceLT, Int32.reduceLE, i10, nw1, nw2, nt1, nt2, not_true_eq_false, not_false_eq_true, mt_78, mt_79, ml_79, mt_80, ml_80, mt_81, ml_81, mt_82, ml_82, mt_83, ml_83, mt_84, ml_84, mt_85, ml_85, mt_86, ml_86, mt_87, ml_87, mt_88, ml_88, mt_89, ml_89, mt_90, ml_90, mt_91, ml_91, mt_92, ml_92, mt_93, ml_93, mt_94, ml_94, mt_95, ml_95, mt_96, ml_96, mt_97, ml_97, mt_98, ml_98, mt_99, ml_99, mt_100, ml_100, mt_101, ml_101, mt_102, ml_102, mt_103, ml_103, mt_104, ml_104, mt_105, ml_105, mt_106, ml_106, mt_107, ml_107, mt_108, ml_108, mt_109, ml_109, mt_110, ml_110, mt_111, ml_111, mt_112, ml_112, mt_113, ml_113, mt_114, ml_114, mt_115, ml_115, mt_116, ml_116, mt_117, ml_117, mt_118, ml_118, mt_119, ml_119, mt_120, ml_120, mt_121, ml_121, mt_122, ml_122, mt_123, ml_123, gP_78_2, gP_78_3, gP_78_4, gP_78_5, gP_78_6, gP_78_12, gP_78_13, gP_78_14, gP_78_15, gP_78_16, gP_78_17, gP_78_18, gP_78_19, gP_78_23, gP_78_24, gP_78_26, gP_78_27, gP_78_28, gP_78_31, gP_78_32, gP_78_34, gP_78_35, gP_78_36, gP_78_37, gP_78_40, gP_78_41, gP_78_42, gP_78_43, gP_78_52, gP_78_53, gP_78_54, gP_78_55, gP_78_56, gP_78_57, gP_78_58, gP_78_59, gP_78_60, gP_78_61, gP_78_62, gP_78_63, gP_78_65, gP_78_66, gP_78_67, gP_78_68, gP_78_69, hS', hp5]
            · rw [← q2]
              show _ = if hvP G S p i = true then nI i else hvV (hvP G S p) i
              rw [if_pos e]
        · left
          refine ⟨(f, Mw), ?_, Mw, by rw [q2], g1⟩
          unfold lp_X9_heaviest_24
          rw [if_neg f1, if_pos q1]) (by decide)
  obtain ⟨r, h1, M2, rfl, h2⟩ := loop
  exact ⟨M2, h1, h2⟩
/-- the number is what it was -/
theorem Zw_back {r : Nat} {x : Int32} (hs : SQ M N o (Zw r p)) (hx : mI M (o + r) p = x) : SC M (sI N (o + r) p x) o := by
  refine ⟨hs.1, hs.2.1, hs.2.2.1, hs.2.2.2.1, fun a k q => ?_⟩
  rw [mI_sI]
  by_cases e : a = r ∧ k = p
  · rw [if_pos ⟨by rw [e.1], e.2⟩, e.1, e.2, hx]
  · rw [if_neg (by omega)]
    exact hs.2.2.2.2 a k fun z => by
      unfold Zw at z
      rcases z with z | z
      · exact q (ZB_scr a k z)
      · exact e z
end HV1
set_option maxHeartbeats 2000000 in
theorem op_heaviest {M : QM} {o : Nat} {G : GG} (h : RR M o G) (p1 : Int32) : ∃ v M1 M2 G', fn_X8_heaviest M o p1 = some (v, M1) ∧ fn_X9_heaviest M1 (o + 78) p1 = some (v, M2) ∧ RR M2 o G' := by
  have hS := h.1.1
  obtain ⟨w, w1, w2, w3, w4, w5, w6⟩ := h.wk p1
  rcases w6 with ⟨c, hc, hc5, rfl, b1, b2⟩ | ⟨b1, b2⟩
  · obtain ⟨m, m1, m2, m3, m4⟩ := h.fv
    have hcw : c < gN G 1 1 := by rw [w3]; exact hc
    obtain ⟨M0, a1, M1, s1, s2⟩ := heavy_c h.cw h.cp hcw
    have h1 := h.scr (s2.mono Zg_scr)
    have hS1 := h1.1.1
    have w51 : mI M1 (o + 78) 0 = nI w := (s2.2.2.2.2 78 0 (by unfold Zg; omega)).trans w5
    have m31 : FV (G 0) m M1 o := m3.s s2 (fun c _ => by unfold Zg; omega) (by unfold Zg; omega)
    obtain ⟨M2, c1, c2⟩ := heavy_m h1.mw m31 h1.ct hcw
    have hS2 := c2.shp hS1
    have x1 := (h1.mw.2.2.1 c hcw).2.2.1
    refine ⟨hvV (hvP G (G 0) c) 100, M1, sI M2 (o + 82) c (G 4 c), G, ?_, ?_, h1.scr (Zw_back c2 x1)⟩
    · simp only [fn_X8_heaviest, fn_X5_walkerAt, w4, b1, a1, s1, mt_sI, mt_sJ, mt_sP, mt_rI, mt_rJ, ml_sI, ml_sJ, ml_sP, ml_rI, ml_rJ, mP_sI, mP_sJ, mP_rI, mP_rJ, SHP_sI, SHP_sJ, SHP_rI, SHP_rJ, mI_sI, mI_rI, mI_sJ, mI_rJ, mI_sP, mJ_sI, mJ_rI, mJ_sP, mJ_sJ, mJ_rJ, gI_e, pI_e, ck_e, bnd_s, nm_eq, pr2_e, cnul_0, cnul_1, drf_1, sm_1, sm_2, aI_e, aJ_e, wI_e, wJ_e, aL_e, cpI_e, cpJ_e, Nat.reduceLeDiff, Nat.reduceEqDiff, Nat.add_left_cancel_iff, ad0, ad1, false_and, and_false, true_and, and_true, reduceIte, if_true, if_false, zb0, zb1, Int32.reduceLT, Int32.reduceLE, i10, nw1, nw2, nt1, nt2, not_true_eq_false, not_false_eq_true, mt_0, mt_1, mt_2, mt_3, ml_3, mt_4, ml_4, mt_5, mt_6, ml_6, mt_7, ml_7, mt_8, ml_8, mt_9, mt_10, ml_10, mt_11, ml_11, mt_12, ml_12, mt_13, mt_14, ml_14, mt_15, ml_15, mt_16, ml_16, mt_17, mt_18, ml_18, mt_19, mt_20, ml_20, mt_21, mt_22, ml_22, mt_23, mt_24, ml_24, mt_25, mt_26, ml_26, mt_53, mt_54, ml_54, mt_55, ml_55, mt_56, mt_57, ml_57, mt_58, ml_58, mt_59, mt_60, ml_60, mt_61, mt_62, ml_62, mt_63, ml_63, mt_64, mt_65, ml_65, mt_66, mt_67, ml_67, mt_68, mt_69, ml_69, mt_70, mt_71, ml_71, mt_72, mt_73, ml_73, mt_74, mt_75, ml_75, mt_76, mt_77, ml_77, gP_0_0, gP_0_1, gP_0_4, gP_0_5, gP_0_6, gP_0_7, gP_0_8, gP_0_9, gP_1_0, gP_1_1, gP_1_4, gP_1_5, gP_1_6, gP_2_0, gP_5_1, gP_5_2, gP_5_3, gP_9_1, gP_9_2, gP_9_3, gP_13_1, gP_13_2, gP_13_3, gP_17_3, gP_19_3, gP_21_3, gP_23_3, gP_25_3, gP_53_0, gP_53_6, gP_56_0, gP_59_0, gP_61_3, gP_64_0, gP_66_2, gP_68_2, gP_70_2, gP_72_2, gP_74_2, gP_76_2, aP_4, mtw_4, mtl_4, mll_4, gPw_4, aP_58, mtw_58, mtl_58, mll_58, gPw_58, hS, hc5]
    · simp only [fn_X9_heaviest, fn_X9_isWalker, w51, b2, x1, c1, mt_sI, mt_sJ, mt_sP, mt_rI, mt_rJ, ml_sI, ml_sJ, ml_sP, ml_rI, ml_rJ, mP_sI, mP_sJ, mP_rI, mP_rJ, SHP_sI, SHP_sJ, SHP_rI, SHP_rJ, mI_sI, mI_rI, mI_sJ, mI_rJ, mI_sP, mJ_sI, mJ_rI, mJ_sP, mJ_sJ, mJ_rJ, gI_e, pI_e, ck_e, bnd_s, nm_eq, pr2_e, cnul_0, cnul_1, drf_1, sm_1, sm_2, aI_e, aJ_e, wI_e, wJ_e, aL_e, cpI_e, cpJ_e, Nat.reduceLeDiff, Nat.reduceEqDiff, Nat.add_left_cancel_iff, ad0, ad1, false_and, and_false, true_and, and_true, reduceIte, if_true, if_false, zb0, zb1, Int32.reduceLT, Int32.reduceLE, i10, nw1, nw2, nt1, nt2, not_true_eq_false, not_false_eq_true, mt_78, mt_79, ml_79, mt_80, ml_80, mt_81, ml_81, mt_82, ml_82, mt_83, ml_83, mt_84, ml_84, mt_85, ml_85, mt_86, ml_86, mt_87, ml_87, mt_88, ml_88, mt_89, ml_89, mt_90, ml_90, mt_91, ml_91, mt_92, ml_92, mt_93, ml_93, mt_94, ml_94, mt_95, ml_95, mt_96, ml_96, mt_97, ml_97, mt_98, ml_98, mt_99, ml_99, mt_100, ml_100, mt_101, ml_101, mt_102, ml_102, mt_103, ml_103, mt_104, ml_104, mt_105, ml_105, mt_106, ml_106, mt_107, ml_107, mt_108, ml_108, mt_109, ml_109, mt_110, ml_110, mt_111, ml_111, mt_112, ml_112, mt_113, ml_113, mt_114, ml_114, mt_115, ml_115, mt_116, ml_116, mt_117, ml_117, mt_118, ml_118, mt_119, ml_119, mt_120, ml_120, mt_121, ml_121, mt_122, ml_122, mt_123, ml_123, gP_78_2, gP_78_3, gP_78_4, gP_78_5, gP_78_6, gP_78_12, gP_78_13, gP_78_14, gP_78_15, gP_78_16, gP_78_17, gP_78_18, gP_78_19, gP_78_23, gP_78_24, gP_78_26, gP_78_27, gP_78_28, gP_78_31, gP_78_32, gP_78_34, gP_78_35, gP_78_36, gP_78_37, gP_78_40, gP_78_41, gP_78_42, gP_78_43, gP_78_52, gP_78_53, gP_78_54, gP_78_55, gP_78_56, gP_78_57, gP_78_58, gP_78_59, gP_78_60, gP_78_61, gP_78_62, gP_78_63, gP_78_65, gP_78_66, gP_78_67, gP_78_68, gP_78_69, hS1, hS2, hc5]
  · refine ⟨-1, M, M, G, ?_, ?_, h⟩
    · simp only [fn_X8_heaviest, fn_X5_walkerAt, w4, b1, mt_sI, mt_sJ, mt_sP, mt_rI, mt_rJ, ml_sI, ml_sJ, ml_sP, ml_rI, ml_rJ, mP_sI, mP_sJ, mP_rI, mP_rJ, SHP_sI, SHP_sJ, SHP_rI, SHP_rJ, mI_sI, mI_rI, mI_sJ, mI_rJ, mI_sP, mJ_sI, mJ_rI, mJ_sP, mJ_sJ, mJ_rJ, gI_e, pI_e, ck_e, bnd_s, nm_eq, pr2_e, cnul_0, cnul_1, drf_1, sm_1, sm_2, aI_e, aJ_e, wI_e, wJ_e, aL_e, cpI_e, cpJ_e, Nat.reduceLeDiff, Nat.reduceEqDiff, Nat.add_left_cancel_iff, ad0, ad1, false_and, and_false, true_and, and_true, reduceIte, if_true, if_false, zb0, zb1, Int32.reduceLT, Int32.reduceLE, i10, nw1, nw2, nt1, nt2, not_true_eq_false, not_false_eq_true, mt_0, mt_1, mt_2, mt_3, ml_3, mt_4, ml_4, mt_5, mt_6, ml_6, mt_7, ml_7, mt_8, ml_8, mt_9, mt_10, ml_10, mt_11, ml_11, mt_12, ml_12, mt_13, mt_14, ml_14, mt_15, ml_15, mt_16, ml_16, mt_17, mt_18, ml_18, mt_19, mt_20, ml_20, mt_21, mt_22, ml_22, mt_23, mt_24, ml_24, mt_25, mt_26, ml_26, mt_53, mt_54, ml_54, mt_55, ml_55, mt_56, mt_57, ml_57, mt_58, ml_58, mt_59, mt_60, ml_60, mt_61, mt_62, ml_62, mt_63, ml_63, mt_64, mt_65, ml_65, mt_66, mt_67, ml_67, mt_68, mt_69, ml_69, mt_70, mt_71, ml_71, mt_72, mt_73, ml_73, mt_74, mt_75, ml_75, mt_76, mt_77, ml_77, gP_0_0, gP_0_1, gP_0_4, gP_0_5, gP_0_6, gP_0_7, gP_0_8, gP_0_9, gP_1_0, gP_1_1, gP_1_4, gP_1_5, gP_1_6, gP_2_0, gP_5_1, gP_5_2, gP_5_3, gP_9_1, gP_9_2, gP_9_3, gP_13_1, gP_13_2, gP_13_3, gP_17_3, gP_19_3, gP_21_3, gP_23_3, gP_25_3, gP_53_0, gP_53_6, gP_56_0, gP_59_0, gP_61_3, gP_64_0, gP_66_2, gP_68_2, gP_70_2, gP_72_2, gP_74_2, gP_76_2, aP_4, mtw_4, mtl_4, mll_4, gPw_4, aP_58, mtw_58, mtl_58, mll_58, gPw_58, hS]
    · simp only [fn_X9_heaviest, fn_X9_isWalker, w5, b2, mt_sI, mt_sJ, mt_sP, mt_rI, mt_rJ, ml_sI, ml_sJ, ml_sP, ml_rI, ml_rJ, mP_sI, mP_sJ, mP_rI, mP_rJ, SHP_sI, SHP_sJ, SHP_rI, SHP_rJ, mI_sI, mI_rI, mI_sJ, mI_rJ, mI_sP, mJ_sI, mJ_rI, mJ_sP, mJ_sJ, mJ_rJ, gI_e, pI_e, ck_e, bnd_s, nm_eq, pr2_e, cnul_0, cnul_1, drf_1, sm_1, sm_2, aI_e, aJ_e, wI_e, wJ_e, aL_e, cpI_e, cpJ_e, Nat.reduceLeDiff, Nat.reduceEqDiff, Nat.add_left_cancel_iff, ad0, ad1, false_and, and_false, true_and, and_true, reduceIte, if_true, if_false, zb0, zb1, Int32.reduceLT, Int32.reduceLE, i10, nw1, nw2, nt1, nt2, not_true_eq_false, not_false_eq_true, mt_78, mt_79, ml_79, mt_80, ml_80, mt_81, ml_81, mt_82, ml_82, mt_83, ml_83, mt_84, ml_84, mt_85, ml_85, mt_86, ml_86, mt_87, ml_87, mt_88, ml_88, mt_89, ml_89, mt_90, ml_90, mt_91, ml_91, mt_92, ml_92, mt_93, ml_93, mt_94, ml_94, mt_95, ml_95, mt_96, ml_96, mt_97, ml_97, mt_98, ml_98, mt_99, ml_99, mt_100, ml_100, mt_101, ml_101, mt_102, ml_102, mt_103, ml_103, mt_104, ml_104, mt_105, ml_105, mt_106, ml_106, mt_107, ml_107, mt_108, ml_108, mt_109, ml_109, mt_110, ml_110, mt_111, ml_111, mt_112, ml_112, mt_113, ml_113, mt_114, ml_114, mt_115, ml_115, mt_116, ml_116, mt_117, ml_117, mt_118, ml_118, mt_119, ml_119, mt_120, ml_120, mt_121, ml_121, mt_122, ml_122, mt_123, ml_123, gP_78_2, gP_78_3, gP_78_4, gP_78_5, gP_78_6, gP_78_12, gP_78_13, gP_78_14, gP_78_15, gP_78_16, gP_78_17, gP_78_18, gP_78_19, gP_78_23, gP_78_24, gP_78_26, gP_78_27, gP_78_28, gP_78_31, gP_78_32, gP_78_34, gP_78_35, gP_78_36, gP_78_37, gP_78_40, gP_78_41, gP_78_42, gP_78_43, gP_78_52, gP_78_53, gP_78_54, gP_78_55, gP_78_56, gP_78_57, gP_78_58, gP_78_59, gP_78_60, gP_78_61, gP_78_62, gP_78_63, gP_78_65, gP_78_66, gP_78_67, gP_78_68, gP_78_69, hS]
