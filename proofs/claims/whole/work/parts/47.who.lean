/-! ===== who crosses, whom all cells bear, strength together: on both sides ===== -/
theorem bt_sar {x : Int32} {c : Nat} (hc : c < 16) : bt (x >>> (nI c &&& 31)) 0 = bt x c := by
  unfold bt
  rw [Int32.toBitVec_shiftRight, BitVec.getLsbD_sshiftRight']
  have e : ((nI c &&& 31).toBitVec.smod 32).toNat = c := (by decide +kernel : ∀ c, c < 16 → ((nI c &&& 31).toBitVec.smod 32).toNat = c) c hc
  rw [e, Nat.add_zero, if_pos (by omega), decide_eq_false (by decide)]
  rfl
theorem bt_odd (x : Int32) : (x &&& 1 = 1) ↔ bt x 0 = true := by
  have one : ∀ i, i < 32 → bt 1 i = decide (i = 0) := by decide +kernel
  constructor
  · intro h
    have := bt_and x 1 0
    rw [h, one 0 (by decide)] at this
    simpa using this.symm
  · intro h
    apply bt_ext
    intro i hi
    rw [bt_and, one i hi]
    by_cases e : i = 0
    · rw [e, h]; rfl
    · rw [decide_eq_false e, Bool.and_false]
theorem has_bt {x : Int32} {c : Nat} (hc : c < 16) : fn_X9_has x (nI c) = lI (bt x c) := by
  unfold fn_X9_has
  cases e : bt x c with
  | true => rw [if_pos ((bt_odd _).mpr (by rw [bt_sar hc]; exact e))]; rfl
  | false => rw [if_neg (fun q => by have := (bt_odd _).mp q; rw [bt_sar hc, e] at this; cases this)]; rfl
theorem has_mkb {f : Nat → Bool} {c : Nat} (hc : c < 16) : fn_X9_has (mkb f) (nI c) = lI (f c) := by
  rw [has_bt hc, bt_mkb f (by omega), decide_eq_true hc, Bool.true_and]
theorem nI_mkb {n : Nat} (hn : n < 65536) : nI n = mkb (fun c => n.testBit c) := bt_ext fun i hi => by
  rw [bt_mkb _ hi]
  have : bt (nI n) i = n.testBit i := by
    show (BitVec.ofNat 32 n).getLsbD i = _
    rw [BitVec.getLsbD_ofNat, decide_eq_true hi, Bool.true_and]
  rw [this]
  by_cases e : i < 16
  · rw [decide_eq_true e, Bool.true_and]
  · rw [decide_eq_false e, Bool.false_and]
    exact Nat.testBit_lt_two_pow (Nat.lt_of_lt_of_le hn (Nat.pow_le_pow_right (n := 2) (by decide) (by omega : 16 ≤ i)))
/-- all of f that is below n lies in g -/
def alN (f g : Nat → Bool) (n : Nat) : Bool := !anyN (fun c => f c && !g c) n
theorem alN_s {f g : Nat → Bool} {n : Nat} : alN f g (n + 1) = (alN f g n && (!f n || g n)) := by
  show (!(anyN (fun c => f c && !g c) n || (f n && !g n))) = (!anyN (fun c => f c && !g c) n && (!f n || g n))
  cases anyN (fun c => f c && !g c) n <;> cases f n <;> cases g n <;> rfl
theorem alN_one {g : Nat → Bool} {c : Nat} (hc : c < 16) : alN (one c) g 16 = g c := by
  apply Bool_iff
  unfold alN
  rw [Bool.not_eq_true', anyN_false]
  constructor
  · intro h
    have := h c hc
    rw [one_self, Bool.true_and] at this
    cases e : g c with
    | true => rfl
    | false => rw [e] at this; cases this
  · intro h a _
    cases e : one c a with
    | false => rfl
    | true => rw [one_eq e, h]; rfl
def sumI (S : Nat → Int32) : Nat → Int32
  | 0 => 0
  | n + 1 => sumI S n + S n
section WH1
variable {M N Mw : QM} {o x y : Nat} {G : GG} {S l : Nat → Int32} {m w p c : Nat} {k v wt sp : Int32}
/-! the class -/
def CW (M : QM) (o : Nat) (G : GG) (w : Nat) : Prop := SHP M o ∧ (mI M (o + 1) 2 = nI w ∧ w ≤ 5) ∧ (∀ p, p < w → mI M (o + (17 + 2 * p)) 0 = G 2 p ∧ mI M (o + (17 + 2 * p)) 1 = G 3 p ∧ mI M (o + (17 + 2 * p)) 2 = G 4 p ∧ ∀ r, r < 4 → mI M (o + (18 + 2 * p)) r = G 5 (4 * p + r)) ∧ BRW M o G
/-- the brew that holds, in the class -/
def HB (M : QM) (o : Nat) (G : GG) (h : Nat) : Prop := (h = 64 ∨ 124 ≤ h) ∧ (mP M (o + 1) 7 = some (o + h) ∧ mP M (o + 27) 7 = mP M (o + 27) 7) ∧ M.2.1 (o + h) = (1, 0) ∧ M.2.1 (o + (h + 1)) = (20, 1600) ∧ mP M (o + h) 0 = some (o + (h + 1)) ∧ (∀ i, i < 1600 → mI M (o + (h + 1)) i = gw G i) ∧ mI M (o + h) 1 = gw G 1600 ∧ mI M (o + h) 2 = gw G 1601
theorem BRW.hb (h : BRW M o G) : ∃ a, HB M o G a := by
  obtain ⟨nb, e, e2, ⟨a1, a1', a1''⟩, ⟨a2, a2', a2''⟩, a3, ⟨a4, a4'⟩, ⟨a5, a5'⟩, a6⟩ := h
  obtain ⟨b1, b2, -⟩ := a6 e a1'
  have he : gN G 1 10 = e := by unfold gN; rw [a2', nI_clamp (by omega)]
  have hg : gw G = G (50 + e) := by unfold gw; rw [he]
  exact ⟨hA e, hA_ge e, ⟨a4, rfl⟩, b1.1, b1.2.1, b1.2.2, by rw [hg]; exact b2.1, by rw [hg]; exact b2.2.1, by rw [hg]; exact b2.2.2⟩
theorem HB.mt (h : HB M o G x) : mt M (o + x) = 1 ∧ mt M (o + (x + 1)) = 20 ∧ ml M (o + (x + 1)) = 1600 :=
  ⟨congrArg Prod.fst h.2.2.1, congrArg Prod.fst h.2.2.2.1, congrArg Prod.snd h.2.2.2.1⟩
theorem CW.wk (h : CW M o G w) (hp : p < w) : WK M o (17 + 2 * p) (G 2 p) (G 3 p) (G 4 p) (lnG G p) := by
  obtain ⟨hS, ⟨h2, h2'⟩, h3, h4⟩ := h
  obtain ⟨g1, g2, g3, g4⟩ := h3 p hp
  have hp5 : p < 5 := by omega
  have e : 17 + 2 * p + 1 = 18 + 2 * p := by omega
  refine ⟨⟨mtw_4 hS hp5, ?_, ?_, ?_⟩, g1, g2, g3, ?_⟩
  · rw [e]
    exact hS.2 (17 + 2 * p, 3, 18 + 2 * p) ((by decide : ∀ i, i < 5 → (17 + 2 * i, 3, 18 + 2 * i) ∈ ptT) p hp5)
  · rw [e]; exact mtl_4 hS hp5
  · rw [e]; exact mll_4 hS hp5
  · rw [e]; exact g4
theorem CW.fr (h : CW M o G w) {Z : Nat → Nat → Prop} (hs : SQ M N o Z) (hz : ∀ a k, Z a k → fx a k = false ∧ ¬ (a = 1 ∧ k = 2) ∧ (a < 17 ∨ 26 < a)) : CW N o G w := by
  obtain ⟨h1, ⟨h2, h2'⟩, h3, h4⟩ := h
  have e : ∀ a k, ¬ Z a k → mI N (o + a) k = mI M (o + a) k := hs.2.2.2.2
  refine ⟨hs.shp h1, ⟨(e 1 2 fun q => (hz _ _ q).2.1 ⟨rfl, rfl⟩).trans h2, h2'⟩, fun p hp => ?_, h4.fr hs.1 hs.2.1 hs.2.2.1 (fun a k q => e a k fun q2 => by rw [(hz _ _ q2).1] at q; cases q) ⟨rfl, rfl, rfl, fun _ _ => rfl⟩⟩
  have t : ∀ a k, 17 ≤ a → a ≤ 26 → mI N (o + a) k = mI M (o + a) k := fun a k h1 h2 => e a k fun q => by have := (hz _ _ q).2.2; omega
  obtain ⟨g1, g2, g3, g4⟩ := h3 p hp
  exact ⟨(t _ _ (by omega) (by omega)).trans g1, (t _ _ (by omega) (by omega)).trans g2, (t _ _ (by omega) (by omega)).trans g3, fun r hr => (t _ _ (by omega) (by omega)).trans (g4 r hr)⟩
theorem CW.sc (h : CW M o G w) (hs : SC M N o) : CW N o G w := by
  refine h.fr hs fun a k q => ⟨?_, ?_, ?_⟩
  · cases e : fx a k with
    | false => rfl
    | true => rw [fx_scr e] at q; cases q
  · intro e; rw [e.1, e.2] at q; revert q; decide
  · by_cases e : 17 ≤ a ∧ a ≤ 26
    · exfalso
      rcases (by omega : a = 17 ∨ a = 18 ∨ a = 19 ∨ a = 20 ∨ a = 21 ∨ a = 22 ∨ a = 23 ∨ a = 24 ∨ a = 25 ∨ a = 26) with rfl | rfl | rfl | rfl | rfl | rfl | rfl | rfl | rfl | rfl <;> (revert q; unfold scr; simp)
    · omega
theorem CW.spn (h : CW M o G w) {α : Type} {f : Int32 → Option α} : (gR M (o + 1) 5 7 fun r => gI M r 1 1 f) = f (gw G 1600) := by
  obtain ⟨a, ha⟩ := h.2.2.2.hb
  rw [gR_e (mt_1 h.1) ha.2.1.1, gI_e ha.mt.1, ha.2.2.2.2.2.2.1]
set_option maxHeartbeats 1000000 in
theorem crossers_c (h : CW M o G w) (hc : CP M o y S) : fn_X5_crossers M (o + 1) (o + y) = some (mkR (fun p => (crG G S p).isSome) w) := by
  have hS := h.1
  have hw := h.2.1
  have loop := itr_k (f := fun s4 : Int32 × Int32 => lp_X5_crossers_4 M (o + 1) (o + y) s4.1 s4.2) (r := mkR (fun p => (crG G S p).isSome) w) (fun p => (mkR (fun p => (crG G S p).isSome) p, nI p)) w (s0 := (0, 0)) rfl
    (fun p hp => by
      have f1 : ¬ nI w ≤ nI p := by rw [nI_leI (by omega) (by omega)]; omega
      have hp5 : p < 5 := by omega
      have cr := crossing_c (sp := gw G 1600) (h.wk hp) hc
      have sp := fun (f : Int32 → Option ((Int32 × Int32) ⊕ Int32)) => h.spn (f := f)
      show lp_X5_crossers_4 M (o + 1) (o + y) _ (nI p) = _
      simp only [lp_X5_crossers_4, hw.1, f1, sp, cr, mt_sI, mt_sJ, mt_sP, mt_rI, mt_rJ, ml_sI, ml_sJ, ml_sP, ml_rI, ml_rJ, mP_sI, mP_sJ, mP_rI, mP_rJ, SHP_sI, SHP_sJ, SHP_rI, SHP_rJ, mI_sI, mI_rI, mI_sJ, mI_rJ, mI_sP, mJ_sI, mJ_rI, mJ_sP, mJ_sJ, mJ_rJ, gI_e, pI_e, ck_e, bnd_s, nm_eq, pr2_e, cnul_0, cnul_1, drf_1, sm_1, sm_2, aI_e, aJ_e, wI_e, wJ_e, aL_e, cpI_e, cpJ_e, Nat.reduceLeDiff, Nat.reduceEqDiff, Nat.add_left_cancel_iff, ad0, ad1, false_and, and_false, true_and, and_true, reduceIte, if_true, if_false, zb0, zb1, Int32.reduceLT, Int32.reduceLE, i10, nw1, nw2, nt1, nt2, not_true_eq_false, not_false_eq_true, mt_0, mt_1, mt_2, mt_3, ml_3, mt_4, ml_4, mt_5, mt_6, ml_6, mt_7, ml_7, mt_8, ml_8, mt_9, mt_10, ml_10, mt_11, ml_11, mt_12, ml_12, mt_13, mt_14, ml_14, mt_15, ml_15, mt_16, ml_16, mt_17, mt_18, ml_18, mt_19, mt_20, ml_20, mt_21, mt_22, ml_22, mt_23, mt_24, ml_24, mt_25, mt_26, ml_26, mt_53, mt_54, ml_54, mt_55, ml_55, mt_56, mt_57, ml_57, mt_58, ml_58, mt_59, mt_60, ml_60, mt_61, mt_62, ml_62, mt_63, ml_63, mt_64, mt_65, ml_65, mt_66, mt_67, ml_67, mt_68, mt_69, ml_69, mt_70, mt_71, ml_71, mt_72, mt_73, ml_73, mt_74, mt_75, ml_75, mt_76, mt_77, ml_77, gP_0_0, gP_0_1, gP_0_4, gP_0_5, gP_0_6, gP_0_7, gP_0_8, gP_0_9, gP_1_0, gP_1_1, gP_1_4, gP_1_5, gP_1_6, gP_2_0, gP_5_1, gP_5_2, gP_5_3, gP_9_1, gP_9_2, gP_9_3, gP_13_1, gP_13_2, gP_13_3, gP_17_3, gP_19_3, gP_21_3, gP_23_3, gP_25_3, gP_53_0, gP_53_6, gP_56_0, gP_59_0, gP_61_3, gP_64_0, gP_66_2, gP_68_2, gP_70_2, gP_72_2, gP_74_2, gP_76_2, aP_4, mtw_4, mtl_4, mll_4, gPw_4, aP_58, mtw_58, mtl_58, mll_58, gPw_58, hS, hp5]
      have lt : ∀ n, crG G S p = some n → n < 2 ^ 31 := fun n e => by
        have : n < 16 := (lst_s e).1
        omega
      by_cases q : crG G S p = none
      · have q2 : iI (crK (gw G 1600) (G 2 p) (G 3 p) (G 4 p) (lnG G p) S) < 0 := (iI_neg lt).mpr q
        rw [if_pos q2, mkR_f (by show (crG G S p).isSome = false; rw [q]; rfl), nI_1]
      · have q2 : ¬ iI (crK (gw G 1600) (G 2 p) (G 3 p) (G 4 p) (lnG G p) S) < 0 := fun z => q ((iI_neg lt).mp z)
        rw [if_neg q2, mkR_t (by show (crG G S p).isSome = true; cases e : crG G S p with
          | none => exact absurd e q
          | some n => rfl), nI_1])
    (by
      have f1 : nI w ≤ nI w := nI_le (Nat.le_refl _) (by omega)
      show lp_X5_crossers_4 M (o + 1) (o + y) _ (nI w) = _
      simp only [lp_X5_crossers_4, hw.1, f1, mt_sI, mt_sJ, mt_sP, mt_rI, mt_rJ, ml_sI, ml_sJ, ml_sP, ml_rI, ml_rJ, mP_sI, mP_sJ, mP_rI, mP_rJ, SHP_sI, SHP_sJ, SHP_rI, SHP_rJ, mI_sI, mI_rI, mI_sJ, mI_rJ, mI_sP, mJ_sI, mJ_rI, mJ_sP, mJ_sJ, mJ_rJ, gI_e, pI_e, ck_e, bnd_s, nm_eq, pr2_e, cnul_0, cnul_1, drf_1, sm_1, sm_2, aI_e, aJ_e, wI_e, wJ_e, aL_e, cpI_e, cpJ_e, Nat.reduceLeDiff, Nat.reduceEqDiff, Nat.add_left_cancel_iff, ad0, ad1, false_and, and_false, true_and, and_true, reduceIte, if_true, if_false, zb0, zb1, Int32.reduceLT, Int32.reduceLE, i10, nw1, nw2, nt1, nt2, not_true_eq_false, not_false_eq_true, mt_0, mt_1, mt_2, mt_3, ml_3, mt_4, ml_4, mt_5, mt_6, ml_6, mt_7, ml_7, mt_8, ml_8, mt_9, mt_10, ml_10, mt_11, ml_11, mt_12, ml_12, mt_13, mt_14, ml_14, mt_15, ml_15, mt_16, ml_16, mt_17, mt_18, ml_18, mt_19, mt_20, ml_20, mt_21, mt_22, ml_22, mt_23, mt_24, ml_24, mt_25, mt_26, ml_26, mt_53, mt_54, ml_54, mt_55, ml_55, mt_56, mt_57, ml_57, mt_58, ml_58, mt_59, mt_60, ml_60, mt_61, mt_62, ml_62, mt_63, ml_63, mt_64, mt_65, ml_65, mt_66, mt_67, ml_67, mt_68, mt_69, ml_69, mt_70, mt_71, ml_71, mt_72, mt_73, ml_73, mt_74, mt_75, ml_75, mt_76, mt_77, ml_77, gP_0_0, gP_0_1, gP_0_4, gP_0_5, gP_0_6, gP_0_7, gP_0_8, gP_0_9, gP_1_0, gP_1_1, gP_1_4, gP_1_5, gP_1_6, gP_2_0, gP_5_1, gP_5_2, gP_5_3, gP_9_1, gP_9_2, gP_9_3, gP_13_1, gP_13_2, gP_13_3, gP_17_3, gP_19_3, gP_21_3, gP_23_3, gP_25_3, gP_53_0, gP_53_6, gP_56_0, gP_59_0, gP_61_3, gP_64_0, gP_66_2, gP_68_2, gP_70_2, gP_72_2, gP_74_2, gP_76_2, aP_4, mtw_4, mtl_4, mll_4, gPw_4, aP_58, mtw_58, mtl_58, mll_58, gPw_58, hS]) (by omega)
  unfold fn_X5_crossers
  rw [bnd_e loop]
set_option maxHeartbeats 1000000 in
theorem borne_c {f : Nat → Bool} (h : CW M o G w) (hc : CP M o 2 S) : fn_X5_borneOnAll M (o + 1) (mkb f) = some (mkR (fun p => alN f (brG G S p) 16) w) := by
  have hS := h.1
  have hw := h.2.1
  have loop := itr_k (f := fun s4 : Int32 × Int32 => lp_X5_borneOnAll_4 M (o + 1) (mkb f) s4.1 s4.2) (r := mkR (fun p => alN f (brG G S p) 16) w) (fun p => (mkR (fun p => alN f (brG G S p) 16) p, nI p)) w (s0 := (0, 0)) rfl
    (fun p hp => by
      have f1 : ¬ nI w ≤ nI p := by rw [nI_leI (by omega) (by omega)]; omega
      have hp5 : p < 5 := by omega
      have cr := bearers_c (sp := gw G 1600) (h.wk hp) hc
      have sp := fun (f : Int32 → Option ((Int32 × Int32) ⊕ Int32)) => h.spn (f := f)
      show lp_X5_borneOnAll_4 M (o + 1) (mkb f) _ (nI p) = _
      simp only [lp_X5_borneOnAll_4, hw.1, f1, sp, cr, mkb_andn, mt_sI, mt_sJ, mt_sP, mt_rI, mt_rJ, ml_sI, ml_sJ, ml_sP, ml_rI, ml_rJ, mP_sI, mP_sJ, mP_rI, mP_rJ, SHP_sI, SHP_sJ, SHP_rI, SHP_rJ, mI_sI, mI_rI, mI_sJ, mI_rJ, mI_sP, mJ_sI, mJ_rI, mJ_sP, mJ_sJ, mJ_rJ, gI_e, pI_e, ck_e, bnd_s, nm_eq, pr2_e, cnul_0, cnul_1, drf_1, sm_1, sm_2, aI_e, aJ_e, wI_e, wJ_e, aL_e, cpI_e, cpJ_e, Nat.reduceLeDiff, Nat.reduceEqDiff, Nat.add_left_cancel_iff, ad0, ad1, false_and, and_false, true_and, and_true, reduceIte, if_true, if_false, zb0, zb1, Int32.reduceLT, Int32.reduceLE, i10, nw1, nw2, nt1, nt2, not_true_eq_false, not_false_eq_true, mt_0, mt_1, mt_2, mt_3, ml_3, mt_4, ml_4, mt_5, mt_6, ml_6, mt_7, ml_7, mt_8, ml_8, mt_9, mt_10, ml_10, mt_11, ml_11, mt_12, ml_12, mt_13, mt_14, ml_14, mt_15, ml_15, mt_16, ml_16, mt_17, mt_18, ml_18, mt_19, mt_20, ml_20, mt_21, mt_22, ml_22, mt_23, mt_24, ml_24, mt_25, mt_26, ml_26, mt_53, mt_54, ml_54, mt_55, ml_55, mt_56, mt_57, ml_57, mt_58, ml_58, mt_59, mt_60, ml_60, mt_61, mt_62, ml_62, mt_63, ml_63, mt_64, mt_65, ml_65, mt_66, mt_67, ml_67, mt_68, mt_69, ml_69, mt_70, mt_71, ml_71, mt_72, mt_73, ml_73, mt_74, mt_75, ml_75, mt_76, mt_77, ml_77, gP_0_0, gP_0_1, gP_0_4, gP_0_5, gP_0_6, gP_0_7, gP_0_8, gP_0_9, gP_1_0, gP_1_1, gP_1_4, gP_1_5, gP_1_6, gP_2_0, gP_5_1, gP_5_2, gP_5_3, gP_9_1, gP_9_2, gP_9_3, gP_13_1, gP_13_2, gP_13_3, gP_17_3, gP_19_3, gP_21_3, gP_23_3, gP_25_3, gP_53_0, gP_53_6, gP_56_0, gP_59_0, gP_61_3, gP_64_0, gP_66_2, gP_68_2, gP_70_2, gP_72_2, gP_74_2, gP_76_2, aP_4, mtw_4, mtl_4, mll_4, gPw_4, aP_58, mtw_58, mtl_58, mll_58, gPw_58, hS, hp5]
      cases e : alN f (brG G S p) 16 with
      | true =>
        have q : mkb (fun c => f c && !brK (gw G 1600) (G 2 p) (G 3 p) (G 4 p) (lnG G p) S c) = 0 := by
          unfold alN at e
          rw [Bool.not_eq_true', anyN_false] at e
          exact mkb_0.mpr e
        rw [if_pos q, mkR_t (f := fun p => alN f (brG G S p) 16) e, nI_1]
      | false =>
        have q : ¬ mkb (fun c => f c && !brK (gw G 1600) (G 2 p) (G 3 p) (G 4 p) (lnG G p) S c) = 0 := by
          intro z
          have z : anyN (fun c => f c && !brG G S p c) 16 = false := anyN_false.mpr (mkb_0.mp z)
          unfold alN at e
          rw [z] at e
          cases e
        rw [if_neg q, mkR_f (f := fun p => alN f (brG G S p) 16) e, nI_1])
    (by
      have f1 : nI w ≤ nI w := nI_le (Nat.le_refl _) (by omega)
      show lp_X5_borneOnAll_4 M (o + 1) (mkb f) _ (nI w) = _
      simp only [lp_X5_borneOnAll_4, hw.1, f1, mt_sI, mt_sJ, mt_sP, mt_rI, mt_rJ, ml_sI, ml_sJ, ml_sP, ml_rI, ml_rJ, mP_sI, mP_sJ, mP_rI, mP_rJ, SHP_sI, SHP_sJ, SHP_rI, SHP_rJ, mI_sI, mI_rI, mI_sJ, mI_rJ, mI_sP, mJ_sI, mJ_rI, mJ_sP, mJ_sJ, mJ_rJ, gI_e, pI_e, ck_e, bnd_s, nm_eq, pr2_e, cnul_0, cnul_1, drf_1, sm_1, sm_2, aI_e, aJ_e, wI_e, wJ_e, aL_e, cpI_e, cpJ_e, Nat.reduceLeDiff, Nat.reduceEqDiff, Nat.add_left_cancel_iff, ad0, ad1, false_and, and_false, true_and, and_true, reduceIte, if_true, if_false, zb0, zb1, Int32.reduceLT, Int32.reduceLE, i10, nw1, nw2, nt1, nt2, not_true_eq_false, not_false_eq_true, mt_0, mt_1, mt_2, mt_3, ml_3, mt_4, ml_4, mt_5, mt_6, ml_6, mt_7, ml_7, mt_8, ml_8, mt_9, mt_10, ml_10, mt_11, ml_11, mt_12, ml_12, mt_13, mt_14, ml_14, mt_15, ml_15, mt_16, ml_16, mt_17, mt_18, ml_18, mt_19, mt_20, ml_20, mt_21, mt_22, ml_22, mt_23, mt_24, ml_24, mt_25, mt_26, ml_26, mt_53, mt_54, ml_54, mt_55, ml_55, mt_56, mt_57, ml_57, mt_58, ml_58, mt_59, mt_60, ml_60, mt_61, mt_62, ml_62, mt_63, ml_63, mt_64, mt_65, ml_65, mt_66, mt_67, ml_67, mt_68, mt_69, ml_69, mt_70, mt_71, ml_71, mt_72, mt_73, ml_73, mt_74, mt_75, ml_75, mt_76, mt_77, ml_77, gP_0_0, gP_0_1, gP_0_4, gP_0_5, gP_0_6, gP_0_7, gP_0_8, gP_0_9, gP_1_0, gP_1_1, gP_1_4, gP_1_5, gP_1_6, gP_2_0, gP_5_1, gP_5_2, gP_5_3, gP_9_1, gP_9_2, gP_9_3, gP_13_1, gP_13_2, gP_13_3, gP_17_3, gP_19_3, gP_21_3, gP_23_3, gP_25_3, gP_53_0, gP_53_6, gP_56_0, gP_59_0, gP_61_3, gP_64_0, gP_66_2, gP_68_2, gP_70_2, gP_72_2, gP_74_2, gP_76_2, aP_4, mtw_4, mtl_4, mll_4, gPw_4, aP_58, mtw_58, mtl_58, mll_58, gPw_58, hS]) (by omega)
  unfold fn_X5_borneOnAll
  rw [bnd_e loop]
theorem together_c (hc : CP M o y S) : fn_X2_together M (o + y) = some (sumI S 16) := by
  obtain ⟨⟨h1, h2, h3, h4⟩, g⟩ := hc
  have loop := itr_k (f := fun s4 : Int32 × Int32 => lp_X2_together_4 M (o + y) s4.1 s4.2) (r := sumI S 16) (fun c => (sumI S c, nI c)) 16 (s0 := (0, 0)) rfl
    (fun c hc => by
      show lp_X2_together_4 M (o + y) (sumI S c) (nI c) = _
      unfold lp_X2_together_4
      rw [if_neg (n16 hc), gR_e h1 h2, aI_e h3 (by rw [h4]; exact hc) (by rw [h4]; decide), g c hc, nm_eq, nm_eq, nI_1]
      rfl)
    (by
      show lp_X2_together_4 M (o + y) _ (nI 16) = _
      unfold lp_X2_together_4
      rw [if_pos (by decide)]) (by decide)
  unfold fn_X2_together
  rw [bnd_e loop]
/-! the reference -/
theorem ZB_scr (a k : Nat) (h : ZB a k) : scr a k = true := by
  unfold ZB at h
  rcases h with rfl | rfl | rfl <;> rfl
theorem canCross_m (h : MW M o G w) (hF : FV S m M o) (h0 : mI M (o + 78) 25 = 0) (hp : p < w) : ∃ M1, fn_X9_cross M (o + 78) (nI p) = some (iI (crG G S p), M1) ∧ fn_X9_canCross M (o + 78) (nI p) = some (lI (crG G S p).isSome, M1) ∧ SQ M M1 o ZB := by
  have hw := h.2.1
  obtain ⟨M1, h1, h2⟩ := cross_e (b := brG G S p) (kd := G 2 p) h.1 (by omega : p < 5) (h.2.2.1 p hp).1 (fun N hN c hc => bears_m (h.sc (hN.mono ZB_scr)) (hF.fr (fun c _ => hN.2.2.2.2 79 c (by unfold ZB; omega)) (hN.2.2.2.2 78 1 (by unfold ZB; omega))) ((hN.2.2.2.2 78 25 (by unfold ZB; omega)).trans h0) hp hc)
  refine ⟨M1, h1, ?_, h2⟩
  unfold fn_X9_canCross
  rw [bnd_e h1]
  show (if iI (crG G S p) < 0 then some (0, M1) else some (1, M1)) = _
  have lt : ∀ n, crG G S p = some n → n < 2 ^ 31 := fun n e => by
    have : n < 16 := (lst_s e).1
    omega
  by_cases q : crG G S p = none
  · rw [if_pos ((iI_neg lt).mpr q), q]; rfl
  · rw [if_neg (fun z => q ((iI_neg lt).mp z))]
    cases e : crG G S p with
    | none => exact absurd e q
    | some n => rfl
theorem FV.zb (hF : FV S m M o) (hN : SQ M N o ZB) : FV S m N o := hF.fr (fun c _ => hN.2.2.2.2 79 c (by unfold ZB; omega)) (hN.2.2.2.2 78 1 (by unfold ZB; omega))
set_option maxHeartbeats 1000000 in
theorem crossers_m (h : MW M o G w) (hF : FV S m M o) (h0 : mI M (o + 78) 25 = 0) : ∃ M1, fn_X9_crossers M (o + 78) = some (mkR (fun p => (crG G S p).isSome) w, M1) ∧ SQ M M1 o ZB := by
  have hw := h.2.1
  have loop := itr_J (f := fun s4 : Int32 × Int32 × QM => lp_X9_crossers_4 (o + 78) s4.1 s4.2.1 s4.2.2) (s0 := (0, 0, M)) (fun p z => p ≤ w ∧ ∃ Mw, z = (mkR (fun p => (crG G S p).isSome) p, nI p, Mw) ∧ SQ M Mw o ZB) (fun r => ∃ Mw, r = (mkR (fun p => (crG G S p).isSome) w, Mw) ∧ SQ M Mw o ZB) 5 ⟨Nat.zero_le _, M, rfl, SQ.rfl⟩
    (fun p z hz => by
      obtain ⟨hp, Mw, rfl, hq⟩ := hz
      have h' := h.sc (hq.mono ZB_scr)
      have hS' := h'.1
      have w' := h'.2.1.1
      show (∃ r, lp_X9_crossers_4 (o + 78) (mkR (fun p => (crG G S p).isSome) p) (nI p) Mw = some (.inr r) ∧ _) ∨ _ ∧ ∃ s', lp_X9_crossers_4 (o + 78) (mkR (fun p => (crG G S p).isSome) p) (nI p) Mw = some (.inl s') ∧ _
      by_cases e : p = w
      · left
        subst e
        have f1 : nI p ≤ nI p := nI_le (Nat.le_refl _) (by omega)
        exact ⟨_, by simp only [lp_X9_crossers_4, w', f1, mt_sI, mt_sJ, mt_sP, mt_rI, mt_rJ, ml_sI, ml_sJ, ml_sP, ml_rI, ml_rJ, mP_sI, mP_sJ, mP_rI, mP_rJ, SHP_sI, SHP_sJ, SHP_rI, SHP_rJ, mI_sI, mI_rI, mI_sJ, mI_rJ, mI_sP, mJ_sI, mJ_rI, mJ_sP, mJ_sJ, mJ_rJ, gI_e, pI_e, ck_e, bnd_s, nm_eq, pr2_e, cnul_0, cnul_1, drf_1, sm_1, sm_2, aI_e, aJ_e, wI_e, wJ_e, aL_e, cpI_e, cpJ_e, Nat.reduceLeDiff, Nat.reduceEqDiff, Nat.add_left_cancel_iff, ad0, ad1, false_and, and_false, true_and, and_true, reduceIte, if_true, if_false, zb0, zb1, Int32.reduceLT, Int32.reduceLE, i10, nw1, nw2, nt1, nt2, not_true_eq_false, not_false_eq_true, mt_78, mt_79, ml_79, mt_80, ml_80, mt_81, ml_81, mt_82, ml_82, mt_83, ml_83, mt_84, ml_84, mt_85, ml_85, mt_86, ml_86, mt_87, ml_87, mt_88, ml_88, mt_89, ml_89, mt_90, ml_90, mt_91, ml_91, mt_92, ml_92, mt_93, ml_93, mt_94, ml_94, mt_95, ml_95, mt_96, ml_96, mt_97, ml_97, mt_98, ml_98, mt_99, ml_99, mt_100, ml_100, mt_101, ml_101, mt_102, ml_102, mt_103, ml_103, mt_104, ml_104, mt_105, ml_105, mt_106, ml_106, mt_107, ml_107, mt_108, ml_108, mt_109, ml_109, mt_110, ml_110, mt_111, ml_111, mt_112, ml_112, mt_113, ml_113, mt_114, ml_114, mt_115, ml_115, mt_116, ml_116, mt_117, ml_117, mt_118, ml_118, mt_119, ml_119, mt_120, ml_120, mt_121, ml_121, mt_122, ml_122, mt_123, ml_123, gP_78_2, gP_78_3, gP_78_4, gP_78_5, gP_78_6, gP_78_12, gP_78_13, gP_78_14, gP_78_15, gP_78_16, gP_78_17, gP_78_18, gP_78_19, gP_78_23, gP_78_24, gP_78_26, gP_78_27, gP_78_28, gP_78_31, gP_78_32, gP_78_34, gP_78_35, gP_78_36, gP_78_37, gP_78_40, gP_78_41, gP_78_42, gP_78_43, gP_78_52, gP_78_53, gP_78_54, gP_78_55, gP_78_56, gP_78_57, gP_78_58, gP_78_59, gP_78_60, gP_78_61, gP_78_62, gP_78_63, gP_78_65, gP_78_66, gP_78_67, gP_78_68, gP_78_69, hS'], Mw, rfl, hq⟩
      · right
        have hp' : p < w := by omega
        have f1 : ¬ nI w ≤ nI p := by rw [nI_leI (by omega) (by omega)]; omega
        obtain ⟨M1, c1, c2, c3⟩ := canCross_m h' (hF.zb hq) ((hq.2.2.2.2 78 25 (by unfold ZB; omega)).trans h0) hp'
        refine ⟨by omega, (mkR (fun p => (crG G S p).isSome) (p + 1), nI (p + 1), M1), ?_, by omega, M1, rfl, hq.trans c3⟩
        cases e2 : (crG G S p).isSome with
        | false =>
          rw [e2] at c2
          rw [mkR_f e2]
          simp only [lp_X9_crossers_4, w', f1, c2, lI_f, or0, nI_1, mt_sI, mt_sJ, mt_sP, mt_rI, mt_rJ, ml_sI, ml_sJ, ml_sP, ml_rI, ml_rJ, mP_sI, mP_sJ, mP_rI, mP_rJ, SHP_sI, SHP_sJ, SHP_rI, SHP_rJ, mI_sI, mI_rI, mI_sJ, mI_rJ, mI_sP, mJ_sI, mJ_rI, mJ_sP, mJ_sJ, mJ_rJ, gI_e, pI_e, ck_e, bnd_s, nm_eq, pr2_e, cnul_0, cnul_1, drf_1, sm_1, sm_2, aI_e, aJ_e, wI_e, wJ_e, aL_e, cpI_e, cpJ_e, Nat.reduceLeDiff, Nat.reduceEqDiff, Nat.add_left_cancel_iff, ad0, ad1, false_and, and_false, true_and, and_true, reduceIte, if_true, if_false, zb0, zb1, Int32.reduceLT, Int32.reduceLE, i10, nw1, nw2, nt1, nt2, not_true_eq_false, not_false_eq_true, mt_78, mt_79, ml_79, mt_80, ml_80, mt_81, ml_81, mt_82, ml_82, mt_83, ml_83, mt_84, ml_84, mt_85, ml_85, mt_86, ml_86, mt_87, ml_87, mt_88, ml_88, mt_89, ml_89, mt_90, ml_90, mt_91, ml_91, mt_92, ml_92, mt_93, ml_93, mt_94, ml_94, mt_95, ml_95, mt_96, ml_96, mt_97, ml_97, mt_98, ml_98, mt_99, ml_99, mt_100, ml_100, mt_101, ml_101, mt_102, ml_102, mt_103, ml_103, mt_104, ml_104, mt_105, ml_105, mt_106, ml_106, mt_107, ml_107, mt_108, ml_108, mt_109, ml_109, mt_110, ml_110, mt_111, ml_111, mt_112, ml_112, mt_113, ml_113, mt_114, ml_114, mt_115, ml_115, mt_116, ml_116, mt_117, ml_117, mt_118, ml_118, mt_119, ml_119, mt_120, ml_120, mt_121, ml_121, mt_122, ml_122, mt_123, ml_123, gP_78_2, gP_78_3, gP_78_4, gP_78_5, gP_78_6, gP_78_12, gP_78_13, gP_78_14, gP_78_15, gP_78_16, gP_78_17, gP_78_18, gP_78_19, gP_78_23, gP_78_24, gP_78_26, gP_78_27, gP_78_28, gP_78_31, gP_78_32, gP_78_34, gP_78_35, gP_78_36, gP_78_37, gP_78_40, gP_78_41, gP_78_42, gP_78_43, gP_78_52, gP_78_53, gP_78_54, gP_78_55, gP_78_56, gP_78_57, gP_78_58, gP_78_59, gP_78_60, gP_78_61, gP_78_62, gP_78_63, gP_78_65, gP_78_66, gP_78_67, gP_78_68, gP_78_69, hS']
        | true =>
          rw [e2] at c2
          rw [mkR_t e2]
          simp only [lp_X9_crossers_4, w', f1, c2, lI_t, nI_1, mt_sI, mt_sJ, mt_sP, mt_rI, mt_rJ, ml_sI, ml_sJ, ml_sP, ml_rI, ml_rJ, mP_sI, mP_sJ, mP_rI, mP_rJ, SHP_sI, SHP_sJ, SHP_rI, SHP_rJ, mI_sI, mI_rI, mI_sJ, mI_rJ, mI_sP, mJ_sI, mJ_rI, mJ_sP, mJ_sJ, mJ_rJ, gI_e, pI_e, ck_e, bnd_s, nm_eq, pr2_e, cnul_0, cnul_1, drf_1, sm_1, sm_2, aI_e, aJ_e, wI_e, wJ_e, aL_e, cpI_e, cpJ_e, Nat.reduceLeDiff, Nat.reduceEqDiff, Nat.add_left_cancel_iff, ad0, ad1, false_and, and_false, true_and, and_true, reduceIte, if_true, if_false, zb0, zb1, Int32.reduceLT, Int32.reduceLE, i10, nw1, nw2, nt1, nt2, not_true_eq_false, not_false_eq_true, mt_78, mt_79, ml_79, mt_80, ml_80, mt_81, ml_81, mt_82, ml_82, mt_83, ml_83, mt_84, ml_84, mt_85, ml_85, mt_86, ml_86, mt_87, ml_87, mt_88, ml_88, mt_89, ml_89, mt_90, ml_90, mt_91, ml_91, mt_92, ml_92, mt_93, ml_93, mt_94, ml_94, mt_95, ml_95, mt_96, ml_96, mt_97, ml_97, mt_98, ml_98, mt_99, ml_99, mt_100, ml_100, mt_101, ml_101, mt_102, ml_102, mt_103, ml_103, mt_104, ml_104, mt_105, ml_105, mt_106, ml_106, mt_107, ml_107, mt_108, ml_108, mt_109, ml_109, mt_110, ml_110, mt_111, ml_111, mt_112, ml_112, mt_113, ml_113, mt_114, ml_114, mt_115, ml_115, mt_116, ml_116, mt_117, ml_117, mt_118, ml_118, mt_119, ml_119, mt_120, ml_120, mt_121, ml_121, mt_122, ml_122, mt_123, ml_123, gP_78_2, gP_78_3, gP_78_4, gP_78_5, gP_78_6, gP_78_12, gP_78_13, gP_78_14, gP_78_15, gP_78_16, gP_78_17, gP_78_18, gP_78_19, gP_78_23, gP_78_24, gP_78_26, gP_78_27, gP_78_28, gP_78_31, gP_78_32, gP_78_34, gP_78_35, gP_78_36, gP_78_37, gP_78_40, gP_78_41, gP_78_42, gP_78_43, gP_78_52, gP_78_53, gP_78_54, gP_78_55, gP_78_56, gP_78_57, gP_78_58, gP_78_59, gP_78_60, gP_78_61, gP_78_62, gP_78_63, gP_78_65, gP_78_66, gP_78_67, gP_78_68, gP_78_69, hS']) (by decide)
  obtain ⟨r, h1, Mw, rfl, h2⟩ := loop
  refine ⟨Mw, ?_, h2⟩
  unfold fn_X9_crossers
  rw [bnd_e h1]
  rfl
theorem allStrong_m (hS : SHP M o) (hF : FV S m M o) : fn_X9_allStrong M (o + 78) = some (sumI S 16) := by
  have loop := itr_k (f := fun s4 : Int32 × Int32 => lp_X9_allStrong_4 M (o + 78) s4.1 s4.2) (r := sumI S 16) (fun c => (sumI S c, nI c)) 16 (s0 := (0, 0)) rfl
    (fun c hc => by
      have f1 := n16 hc
      have g := hF.1 c hc
      show lp_X9_allStrong_4 M (o + 78) (sumI S c) (nI c) = _
      simp only [lp_X9_allStrong_4, f1, g, nI_1, mt_sI, mt_sJ, mt_sP, mt_rI, mt_rJ, ml_sI, ml_sJ, ml_sP, ml_rI, ml_rJ, mP_sI, mP_sJ, mP_rI, mP_rJ, SHP_sI, SHP_sJ, SHP_rI, SHP_rJ, mI_sI, mI_rI, mI_sJ, mI_rJ, mI_sP, mJ_sI, mJ_rI, mJ_sP, mJ_sJ, mJ_rJ, gI_e, pI_e, ck_e, bnd_s, nm_eq, pr2_e, cnul_0, cnul_1, drf_1, sm_1, sm_2, aI_e, aJ_e, wI_e, wJ_e, aL_e, cpI_e, cpJ_e, Nat.reduceLeDiff, Nat.reduceEqDiff, Nat.add_left_cancel_iff, ad0, ad1, false_and, and_false, true_and, and_true, reduceIte, if_true, if_false, zb0, zb1, Int32.reduceLT, Int32.reduceLE, i10, nw1, nw2, nt1, nt2, not_true_eq_false, not_false_eq_true, mt_78, mt_79, ml_79, mt_80, ml_80, mt_81, ml_81, mt_82, ml_82, mt_83, ml_83, mt_84, ml_84, mt_85, ml_85, mt_86, ml_86, mt_87, ml_87, mt_88, ml_88, mt_89, ml_89, mt_90, ml_90, mt_91, ml_91, mt_92, ml_92, mt_93, ml_93, mt_94, ml_94, mt_95, ml_95, mt_96, ml_96, mt_97, ml_97, mt_98, ml_98, mt_99, ml_99, mt_100, ml_100, mt_101, ml_101, mt_102, ml_102, mt_103, ml_103, mt_104, ml_104, mt_105, ml_105, mt_106, ml_106, mt_107, ml_107, mt_108, ml_108, mt_109, ml_109, mt_110, ml_110, mt_111, ml_111, mt_112, ml_112, mt_113, ml_113, mt_114, ml_114, mt_115, ml_115, mt_116, ml_116, mt_117, ml_117, mt_118, ml_118, mt_119, ml_119, mt_120, ml_120, mt_121, ml_121, mt_122, ml_122, mt_123, ml_123, gP_78_2, gP_78_3, gP_78_4, gP_78_5, gP_78_6, gP_78_12, gP_78_13, gP_78_14, gP_78_15, gP_78_16, gP_78_17, gP_78_18, gP_78_19, gP_78_23, gP_78_24, gP_78_26, gP_78_27, gP_78_28, gP_78_31, gP_78_32, gP_78_34, gP_78_35, gP_78_36, gP_78_37, gP_78_40, gP_78_41, gP_78_42, gP_78_43, gP_78_52, gP_78_53, gP_78_54, gP_78_55, gP_78_56, gP_78_57, gP_78_58, gP_78_59, gP_78_60, gP_78_61, gP_78_62, gP_78_63, gP_78_65, gP_78_66, gP_78_67, gP_78_68, gP_78_69, hS, hc]
      rfl)
    (by
      show lp_X9_allStrong_4 M (o + 78) _ (nI 16) = _
      unfold lp_X9_allStrong_4
      rw [if_pos (by decide)]) (by decide)
  unfold fn_X9_allStrong
  rw [bnd_e loop]
set_option maxHeartbeats 1000000 in
theorem whose_m {f : Nat → Bool} (h : MW M o G w) (hF : FV S m M o) (h0 : mI M (o + 78) 25 = 0) (hp : mI M (o + 78) 29 = mkb f) : fn_X9_whose M (o + 78) = some (mkR (fun p => alN f (brG G S p) 16) w) := by
  have hS := h.1
  have hw := h.2.1
  have loop := itr_k (f := fun s4 : Int32 × Int32 => lp_X9_whose_4 M (o + 78) s4.1 s4.2) (r := mkR (fun p => alN f (brG G S p) 16) w) (fun p => (mkR (fun p => alN f (brG G S p) 16) p, nI p)) w (s0 := (0, 0)) rfl
    (fun p hpw => by
      have f1 : ¬ nI w ≤ nI p := by rw [nI_leI (by omega) (by omega)]; omega
      have inner := itr_k (f := fun s17 : Int32 × Int32 => lp_X9_whose_17 M (o + 78) (nI p) s17.1 s17.2) (r := lI (alN f (brG G S p) 16)) (fun c => (lI (alN f (brG G S p) c), nI c)) 16 (s0 := (1, 0)) rfl
        (fun c hc => by
          have f2 := n16 hc
          have b := bears_m h hF h0 hpw hc
          have hh := has_mkb (f := f) hc
          show lp_X9_whose_17 M (o + 78) (nI p) (lI (alN f (brG G S p) c)) (nI c) = some (.inl (lI (alN f (brG G S p) (c + 1)), nI (c + 1)))
          rw [alN_s]
          cases e1 : alN f (brG G S p) c with
          | false => simp only [lp_X9_whose_17, f2, lI_f, Bool.false_and, nI_1, mt_sI, mt_sJ, mt_sP, mt_rI, mt_rJ, ml_sI, ml_sJ, ml_sP, ml_rI, ml_rJ, mP_sI, mP_sJ, mP_rI, mP_rJ, SHP_sI, SHP_sJ, SHP_rI, SHP_rJ, mI_sI, mI_rI, mI_sJ, mI_rJ, mI_sP, mJ_sI, mJ_rI, mJ_sP, mJ_sJ, mJ_rJ, gI_e, pI_e, ck_e, bnd_s, nm_eq, pr2_e, cnul_0, cnul_1, drf_1, sm_1, sm_2, aI_e, aJ_e, wI_e, wJ_e, aL_e, cpI_e, cpJ_e, Nat.reduceLeDiff, Nat.reduceEqDiff, Nat.add_left_cancel_iff, ad0, ad1, false_and, and_false, true_and, and_true, reduceIte, if_true, if_false, zb0, zb1, Int32.reduceLT, Int32.reduceLE, i10, nw1, nw2, nt1, nt2, not_true_eq_false, not_false_eq_true, mt_78, mt_79, ml_79, mt_80, ml_80, mt_81, ml_81, mt_82, ml_82, mt_83, ml_83, mt_84, ml_84, mt_85, ml_85, mt_86, ml_86, mt_87, ml_87, mt_88, ml_88, mt_89, ml_89, mt_90, ml_90, mt_91, ml_91, mt_92, ml_92, mt_93, ml_93, mt_94, ml_94, mt_95, ml_95, mt_96, ml_96, mt_97, ml_97, mt_98, ml_98, mt_99, ml_99, mt_100, ml_100, mt_101, ml_101, mt_102, ml_102, mt_103, ml_103, mt_104, ml_104, mt_105, ml_105, mt_106, ml_106, mt_107, ml_107, mt_108, ml_108, mt_109, ml_109, mt_110, ml_110, mt_111, ml_111, mt_112, ml_112, mt_113, ml_113, mt_114, ml_114, mt_115, ml_115, mt_116, ml_116, mt_117, ml_117, mt_118, ml_118, mt_119, ml_119, mt_120, ml_120, mt_121, ml_121, mt_122, ml_122, mt_123, ml_123, gP_78_2, gP_78_3, gP_78_4, gP_78_5, gP_78_6, gP_78_12, gP_78_13, gP_78_14, gP_78_15, gP_78_16, gP_78_17, gP_78_18, gP_78_19, gP_78_23, gP_78_24, gP_78_26, gP_78_27, gP_78_28, gP_78_31, gP_78_32, gP_78_34, gP_78_35, gP_78_36, gP_78_37, gP_78_40, gP_78_41, gP_78_42, gP_78_43, gP_78_52, gP_78_53, gP_78_54, gP_78_55, gP_78_56, gP_78_57, gP_78_58, gP_78_59, gP_78_60, gP_78_61, gP_78_62, gP_78_63, gP_78_65, gP_78_66, gP_78_67, gP_78_68, gP_78_69, hS]
          | true =>
            cases e2 : f c with
            | false =>
              rw [e2] at hh
              simp only [lp_X9_whose_17, f2, hp, hh, lI_t, lI_f, Bool.true_and, Bool.not_false, Bool.true_or, nI_1, mt_sI, mt_sJ, mt_sP, mt_rI, mt_rJ, ml_sI, ml_sJ, ml_sP, ml_rI, ml_rJ, mP_sI, mP_sJ, mP_rI, mP_rJ, SHP_sI, SHP_sJ, SHP_rI, SHP_rJ, mI_sI, mI_rI, mI_sJ, mI_rJ, mI_sP, mJ_sI, mJ_rI, mJ_sP, mJ_sJ, mJ_rJ, gI_e, pI_e, ck_e, bnd_s, nm_eq, pr2_e, cnul_0, cnul_1, drf_1, sm_1, sm_2, aI_e, aJ_e, wI_e, wJ_e, aL_e, cpI_e, cpJ_e, Nat.reduceLeDiff, Nat.reduceEqDiff, Nat.add_left_cancel_iff, ad0, ad1, false_and, and_false, true_and, and_true, reduceIte, if_true, if_false, zb0, zb1, Int32.reduceLT, Int32.reduceLE, i10, nw1, nw2, nt1, nt2, not_true_eq_false, not_false_eq_true, mt_78, mt_79, ml_79, mt_80, ml_80, mt_81, ml_81, mt_82, ml_82, mt_83, ml_83, mt_84, ml_84, mt_85, ml_85, mt_86, ml_86, mt_87, ml_87, mt_88, ml_88, mt_89, ml_89, mt_90, ml_90, mt_91, ml_91, mt_92, ml_92, mt_93, ml_93, mt_94, ml_94, mt_95, ml_95, mt_96, ml_96, mt_97, ml_97, mt_98, ml_98, mt_99, ml_99, mt_100, ml_100, mt_101, ml_101, mt_102, ml_102, mt_103, ml_103, mt_104, ml_104, mt_105, ml_105, mt_106, ml_106, mt_107, ml_107, mt_108, ml_108, mt_109, ml_109, mt_110, ml_110, mt_111, ml_111, mt_112, ml_112, mt_113, ml_113, mt_114, ml_114, mt_115, ml_115, mt_116, ml_116, mt_117, ml_117, mt_118, ml_118, mt_119, ml_119, mt_120, ml_120, mt_121, ml_121, mt_122, ml_122, mt_123, ml_123, gP_78_2, gP_78_3, gP_78_4, gP_78_5, gP_78_6, gP_78_12, gP_78_13, gP_78_14, gP_78_15, gP_78_16, gP_78_17, gP_78_18, gP_78_19, gP_78_23, gP_78_24, gP_78_26, gP_78_27, gP_78_28, gP_78_31, gP_78_32, gP_78_34, gP_78_35, gP_78_36, gP_78_37, gP_78_40, gP_78_41, gP_78_42, gP_78_43, gP_78_52, gP_78_53, gP_78_54, gP_78_55, gP_78_56, gP_78_57, gP_78_58, gP_78_59, gP_78_60, gP_78_61, gP_78_62, gP_78_63, gP_78_65, gP_78_66, gP_78_67, gP_78_68, gP_78_69, hS]
            | true =>
              rw [e2] at hh
              cases e3 : brG G S p c with
              | false =>
                rw [e3] at b
                simp only [lp_X9_whose_17, f2, hp, hh, b, lI_t, lI_f, Bool.true_and, Bool.not_true, Bool.false_or, nI_1, mt_sI, mt_sJ, mt_sP, mt_rI, mt_rJ, ml_sI, ml_sJ, ml_sP, ml_rI, ml_rJ, mP_sI, mP_sJ, mP_rI, mP_rJ, SHP_sI, SHP_sJ, SHP_rI, SHP_rJ, mI_sI, mI_rI, mI_sJ, mI_rJ, mI_sP, mJ_sI, mJ_rI, mJ_sP, mJ_sJ, mJ_rJ, gI_e, pI_e, ck_e, bnd_s, nm_eq, pr2_e, cnul_0, cnul_1, drf_1, sm_1, sm_2, aI_e, aJ_e, wI_e, wJ_e, aL_e, cpI_e, cpJ_e, Nat.reduceLeDiff, Nat.reduceEqDiff, Nat.add_left_cancel_iff, ad0, ad1, false_and, and_false, true_and, and_true, reduceIte, if_true, if_false, zb0, zb1, Int32.reduceLT, Int32.reduceLE, i10, nw1, nw2, nt1, nt2, not_true_eq_false, not_false_eq_true, mt_78, mt_79, ml_79, mt_80, ml_80, mt_81, ml_81, mt_82, ml_82, mt_83, ml_83, mt_84, ml_84, mt_85, ml_85, mt_86, ml_86, mt_87, ml_87, mt_88, ml_88, mt_89, ml_89, mt_90, ml_90, mt_91, ml_91, mt_92, ml_92, mt_93, ml_93, mt_94, ml_94, mt_95, ml_95, mt_96, ml_96, mt_97, ml_97, mt_98, ml_98, mt_99, ml_99, mt_100, ml_100, mt_101, ml_101, mt_102, ml_102, mt_103, ml_103, mt_104, ml_104, mt_105, ml_105, mt_106, ml_106, mt_107, ml_107, mt_108, ml_108, mt_109, ml_109, mt_110, ml_110, mt_111, ml_111, mt_112, ml_112, mt_113, ml_113, mt_114, ml_114, mt_115, ml_115, mt_116, ml_116, mt_117, ml_117, mt_118, ml_118, mt_119, ml_119, mt_120, ml_120, mt_121, ml_121, mt_122, ml_122, mt_123, ml_123, gP_78_2, gP_78_3, gP_78_4, gP_78_5, gP_78_6, gP_78_12, gP_78_13, gP_78_14, gP_78_15, gP_78_16, gP_78_17, gP_78_18, gP_78_19, gP_78_23, gP_78_24, gP_78_26, gP_78_27, gP_78_28, gP_78_31, gP_78_32, gP_78_34, gP_78_35, gP_78_36, gP_78_37, gP_78_40, gP_78_41, gP_78_42, gP_78_43, gP_78_52, gP_78_53, gP_78_54, gP_78_55, gP_78_56, gP_78_57, gP_78_58, gP_78_59, gP_78_60, gP_78_61, gP_78_62, gP_78_63, gP_78_65, gP_78_66, gP_78_67, gP_78_68, gP_78_69, hS]
              | true =>
                rw [e3] at b
                simp only [lp_X9_whose_17, f2, hp, hh, b, lI_t, Bool.true_and, Bool.not_true, Bool.false_or, nI_1, mt_sI, mt_sJ, mt_sP, mt_rI, mt_rJ, ml_sI, ml_sJ, ml_sP, ml_rI, ml_rJ, mP_sI, mP_sJ, mP_rI, mP_rJ, SHP_sI, SHP_sJ, SHP_rI, SHP_rJ, mI_sI, mI_rI, mI_sJ, mI_rJ, mI_sP, mJ_sI, mJ_rI, mJ_sP, mJ_sJ, mJ_rJ, gI_e, pI_e, ck_e, bnd_s, nm_eq, pr2_e, cnul_0, cnul_1, drf_1, sm_1, sm_2, aI_e, aJ_e, wI_e, wJ_e, aL_e, cpI_e, cpJ_e, Nat.reduceLeDiff, Nat.reduceEqDiff, Nat.add_left_cancel_iff, ad0, ad1, false_and, and_false, true_and, and_true, reduceIte, if_true, if_false, zb0, zb1, Int32.reduceLT, Int32.reduceLE, i10, nw1, nw2, nt1, nt2, not_true_eq_false, not_false_eq_true, mt_78, mt_79, ml_79, mt_80, ml_80, mt_81, ml_81, mt_82, ml_82, mt_83, ml_83, mt_84, ml_84, mt_85, ml_85, mt_86, ml_86, mt_87, ml_87, mt_88, ml_88, mt_89, ml_89, mt_90, ml_90, mt_91, ml_91, mt_92, ml_92, mt_93, ml_93, mt_94, ml_94, mt_95, ml_95, mt_96, ml_96, mt_97, ml_97, mt_98, ml_98, mt_99, ml_99, mt_100, ml_100, mt_101, ml_101, mt_102, ml_102, mt_103, ml_103, mt_104, ml_104, mt_105, ml_105, mt_106, ml_106, mt_107, ml_107, mt_108, ml_108, mt_109, ml_109, mt_110, ml_110, mt_111, ml_111, mt_112, ml_112, mt_113, ml_113, mt_114, ml_114, mt_115, ml_115, mt_116, ml_116, mt_117, ml_117, mt_118, ml_118, mt_119, ml_119, mt_120, ml_120, mt_121, ml_121, mt_122, ml_122, mt_123, ml_123, gP_78_2, gP_78_3, gP_78_4, gP_78_5, gP_78_6, gP_78_12, gP_78_13, gP_78_14, gP_78_15, gP_78_16, gP_78_17, gP_78_18, gP_78_19, gP_78_23, gP_78_24, gP_78_26, gP_78_27, gP_78_28, gP_78_31, gP_78_32, gP_78_34, gP_78_35, gP_78_36, gP_78_37, gP_78_40, gP_78_41, gP_78_42, gP_78_43, gP_78_52, gP_78_53, gP_78_54, gP_78_55, gP_78_56, gP_78_57, gP_78_58, gP_78_59, gP_78_60, gP_78_61, gP_78_62, gP_78_63, gP_78_65, gP_78_66, gP_78_67, gP_78_68, gP_78_69, hS])
        (by
          show lp_X9_whose_17 M (o + 78) (nI p) _ (nI 16) = _
          unfold lp_X9_whose_17
          rw [if_pos (by decide)]) (by decide)
      show lp_X9_whose_4 M (o + 78) (mkR (fun p => alN f (brG G S p) 16) p) (nI p) = _
      cases e : alN f (brG G S p) 16 with
      | false =>
        rw [e] at inner
        rw [mkR_f (f := fun p => alN f (brG G S p) 16) e]
        simp only [lp_X9_whose_4, hw.1, f1, inner, lI_f, or0, nI_1, mt_sI, mt_sJ, mt_sP, mt_rI, mt_rJ, ml_sI, ml_sJ, ml_sP, ml_rI, ml_rJ, mP_sI, mP_sJ, mP_rI, mP_rJ, SHP_sI, SHP_sJ, SHP_rI, SHP_rJ, mI_sI, mI_rI, mI_sJ, mI_rJ, mI_sP, mJ_sI, mJ_rI, mJ_sP, mJ_sJ, mJ_rJ, gI_e, pI_e, ck_e, bnd_s, nm_eq, pr2_e, cnul_0, cnul_1, drf_1, sm_1, sm_2, aI_e, aJ_e, wI_e, wJ_e, aL_e, cpI_e, cpJ_e, Nat.reduceLeDiff, Nat.reduceEqDiff, Nat.add_left_cancel_iff, ad0, ad1, false_and, and_false, true_and, and_true, reduceIte, if_true, if_false, zb0, zb1, Int32.reduceLT, Int32.reduceLE, i10, nw1, nw2, nt1, nt2, not_true_eq_false, not_false_eq_true, mt_78, mt_79, ml_79, mt_80, ml_80, mt_81, ml_81, mt_82, ml_82, mt_83, ml_83, mt_84, ml_84, mt_85, ml_85, mt_86, ml_86, mt_87, ml_87, mt_88, ml_88, mt_89, ml_89, mt_90, ml_90, mt_91, ml_91, mt_92, ml_92, mt_93, ml_93, mt_94, ml_94, mt_95, ml_95, mt_96, ml_96, mt_97, ml_97, mt_98, ml_98, mt_99, ml_99, mt_100, ml_100, mt_101, ml_101, mt_102, ml_102, mt_103, ml_103, mt_104, ml_104, mt_105, ml_105, mt_106, ml_106, mt_107, ml_107, mt_108, ml_108, mt_109, ml_109, mt_110, ml_110, mt_111, ml_111, mt_112, ml_112, mt_113, ml_113, mt_114, ml_114, mt_115, ml_115, mt_116, ml_116, mt_117, ml_117, mt_118, ml_118, mt_119, ml_119, mt_120, ml_120, mt_121, ml_121, mt_122, ml_122, mt_123, ml_123, gP_78_2, gP_78_3, gP_78_4, gP_78_5, gP_78_6, gP_78_12, gP_78_13, gP_78_14, gP_78_15, gP_78_16, gP_78_17, gP_78_18, gP_78_19, gP_78_23, gP_78_24, gP_78_26, gP_78_27, gP_78_28, gP_78_31, gP_78_32, gP_78_34, gP_78_35, gP_78_36, gP_78_37, gP_78_40, gP_78_41, gP_78_42, gP_78_43, gP_78_52, gP_78_53, gP_78_54, gP_78_55, gP_78_56, gP_78_57, gP_78_58, gP_78_59, gP_78_60, gP_78_61, gP_78_62, gP_78_63, gP_78_65, gP_78_66, gP_78_67, gP_78_68, gP_78_69, hS]
      | true =>
        rw [e] at inner
        rw [mkR_t (f := fun p => alN f (brG G S p) 16) e]
        simp only [lp_X9_whose_4, hw.1, f1, inner, lI_t, nI_1, mt_sI, mt_sJ, mt_sP, mt_rI, mt_rJ, ml_sI, ml_sJ, ml_sP, ml_rI, ml_rJ, mP_sI, mP_sJ, mP_rI, mP_rJ, SHP_sI, SHP_sJ, SHP_rI, SHP_rJ, mI_sI, mI_rI, mI_sJ, mI_rJ, mI_sP, mJ_sI, mJ_rI, mJ_sP, mJ_sJ, mJ_rJ, gI_e, pI_e, ck_e, bnd_s, nm_eq, pr2_e, cnul_0, cnul_1, drf_1, sm_1, sm_2, aI_e, aJ_e, wI_e, wJ_e, aL_e, cpI_e, cpJ_e, Nat.reduceLeDiff, Nat.reduceEqDiff, Nat.add_left_cancel_iff, ad0, ad1, false_and, and_false, true_and, and_true, reduceIte, if_true, if_false, zb0, zb1, Int32.reduceLT, Int32.reduceLE, i10, nw1, nw2, nt1, nt2, not_true_eq_false, not_false_eq_true, mt_78, mt_79, ml_79, mt_80, ml_80, mt_81, ml_81, mt_82, ml_82, mt_83, ml_83, mt_84, ml_84, mt_85, ml_85, mt_86, ml_86, mt_87, ml_87, mt_88, ml_88, mt_89, ml_89, mt_90, ml_90, mt_91, ml_91, mt_92, ml_92, mt_93, ml_93, mt_94, ml_94, mt_95, ml_95, mt_96, ml_96, mt_97, ml_97, mt_98, ml_98, mt_99, ml_99, mt_100, ml_100, mt_101, ml_101, mt_102, ml_102, mt_103, ml_103, mt_104, ml_104, mt_105, ml_105, mt_106, ml_106, mt_107, ml_107, mt_108, ml_108, mt_109, ml_109, mt_110, ml_110, mt_111, ml_111, mt_112, ml_112, mt_113, ml_113, mt_114, ml_114, mt_115, ml_115, mt_116, ml_116, mt_117, ml_117, mt_118, ml_118, mt_119, ml_119, mt_120, ml_120, mt_121, ml_121, mt_122, ml_122, mt_123, ml_123, gP_78_2, gP_78_3, gP_78_4, gP_78_5, gP_78_6, gP_78_12, gP_78_13, gP_78_14, gP_78_15, gP_78_16, gP_78_17, gP_78_18, gP_78_19, gP_78_23, gP_78_24, gP_78_26, gP_78_27, gP_78_28, gP_78_31, gP_78_32, gP_78_34, gP_78_35, gP_78_36, gP_78_37, gP_78_40, gP_78_41, gP_78_42, gP_78_43, gP_78_52, gP_78_53, gP_78_54, gP_78_55, gP_78_56, gP_78_57, gP_78_58, gP_78_59, gP_78_60, gP_78_61, gP_78_62, gP_78_63, gP_78_65, gP_78_66, gP_78_67, gP_78_68, gP_78_69, hS])
    (by
      have f1 : nI w ≤ nI w := nI_le (Nat.le_refl _) (by omega)
      show lp_X9_whose_4 M (o + 78) _ (nI w) = _
      simp only [lp_X9_whose_4, hw.1, f1, mt_sI, mt_sJ, mt_sP, mt_rI, mt_rJ, ml_sI, ml_sJ, ml_sP, ml_rI, ml_rJ, mP_sI, mP_sJ, mP_rI, mP_rJ, SHP_sI, SHP_sJ, SHP_rI, SHP_rJ, mI_sI, mI_rI, mI_sJ, mI_rJ, mI_sP, mJ_sI, mJ_rI, mJ_sP, mJ_sJ, mJ_rJ, gI_e, pI_e, ck_e, bnd_s, nm_eq, pr2_e, cnul_0, cnul_1, drf_1, sm_1, sm_2, aI_e, aJ_e, wI_e, wJ_e, aL_e, cpI_e, cpJ_e, Nat.reduceLeDiff, Nat.reduceEqDiff, Nat.add_left_cancel_iff, ad0, ad1, false_and, and_false, true_and, and_true, reduceIte, if_true, if_false, zb0, zb1, Int32.reduceLT, Int32.reduceLE, i10, nw1, nw2, nt1, nt2, not_true_eq_false, not_false_eq_true, mt_78, mt_79, ml_79, mt_80, ml_80, mt_81, ml_81, mt_82, ml_82, mt_83, ml_83, mt_84, ml_84, mt_85, ml_85, mt_86, ml_86, mt_87, ml_87, mt_88, ml_88, mt_89, ml_89, mt_90, ml_90, mt_91, ml_91, mt_92, ml_92, mt_93, ml_93, mt_94, ml_94, mt_95, ml_95, mt_96, ml_96, mt_97, ml_97, mt_98, ml_98, mt_99, ml_99, mt_100, ml_100, mt_101, ml_101, mt_102, ml_102, mt_103, ml_103, mt_104, ml_104, mt_105, ml_105, mt_106, ml_106, mt_107, ml_107, mt_108, ml_108, mt_109, ml_109, mt_110, ml_110, mt_111, ml_111, mt_112, ml_112, mt_113, ml_113, mt_114, ml_114, mt_115, ml_115, mt_116, ml_116, mt_117, ml_117, mt_118, ml_118, mt_119, ml_119, mt_120, ml_120, mt_121, ml_121, mt_122, ml_122, mt_123, ml_123, gP_78_2, gP_78_3, gP_78_4, gP_78_5, gP_78_6, gP_78_12, gP_78_13, gP_78_14, gP_78_15, gP_78_16, gP_78_17, gP_78_18, gP_78_19, gP_78_23, gP_78_24, gP_78_26, gP_78_27, gP_78_28, gP_78_31, gP_78_32, gP_78_34, gP_78_35, gP_78_36, gP_78_37, gP_78_40, gP_78_41, gP_78_42, gP_78_43, gP_78_52, gP_78_53, gP_78_54, gP_78_55, gP_78_56, gP_78_57, gP_78_58, gP_78_59, gP_78_60, gP_78_61, gP_78_62, gP_78_63, gP_78_65, gP_78_66, gP_78_67, gP_78_68, gP_78_69, hS]) (by omega)
  unfold fn_X9_whose
  rw [bnd_e loop]
set_option maxHeartbeats 1000000 in
theorem at2_m (h : MW M o G w) (hF : FV S m M o) (h0 : mI M (o + 78) 25 = 0) (hc : c < 16) : itr (fun s48 : Int32 × Int32 => lp_X9_at_48 M (o + 78) (nI c) s48.1 s48.2) FU (0, 0) = some (mkR (fun p => brG G S p c) w) := by
  have hS := h.1
  have hw := h.2.1
  refine itr_k (fun p => (mkR (fun p => brG G S p c) p, nI p)) w rfl (fun p hp => ?_) ?_ (by omega)
  · have f1 : ¬ nI w ≤ nI p := by rw [nI_leI (by omega) (by omega)]; omega
    have b := bears_m h hF h0 hp hc
    show lp_X9_at_48 M (o + 78) (nI c) (mkR (fun p => brG G S p c) p) (nI p) = _
    cases e : brG G S p c with
    | false =>
      rw [e] at b
      rw [mkR_f (f := fun p => brG G S p c) e]
      simp only [lp_X9_at_48, hw.1, f1, b, lI_f, or0, nI_1, mt_sI, mt_sJ, mt_sP, mt_rI, mt_rJ, ml_sI, ml_sJ, ml_sP, ml_rI, ml_rJ, mP_sI, mP_sJ, mP_rI, mP_rJ, SHP_sI, SHP_sJ, SHP_rI, SHP_rJ, mI_sI, mI_rI, mI_sJ, mI_rJ, mI_sP, mJ_sI, mJ_rI, mJ_sP, mJ_sJ, mJ_rJ, gI_e, pI_e, ck_e, bnd_s, nm_eq, pr2_e, cnul_0, cnul_1, drf_1, sm_1, sm_2, aI_e, aJ_e, wI_e, wJ_e, aL_e, cpI_e, cpJ_e, Nat.reduceLeDiff, Nat.reduceEqDiff, Nat.add_left_cancel_iff, ad0, ad1, false_and, and_false, true_and, and_true, reduceIte, if_true, if_false, zb0, zb1, Int32.reduceLT, Int32.reduceLE, i10, nw1, nw2, nt1, nt2, not_true_eq_false, not_false_eq_true, mt_78, mt_79, ml_79, mt_80, ml_80, mt_81, ml_81, mt_82, ml_82, mt_83, ml_83, mt_84, ml_84, mt_85, ml_85, mt_86, ml_86, mt_87, ml_87, mt_88, ml_88, mt_89, ml_89, mt_90, ml_90, mt_91, ml_91, mt_92, ml_92, mt_93, ml_93, mt_94, ml_94, mt_95, ml_95, mt_96, ml_96, mt_97, ml_97, mt_98, ml_98, mt_99, ml_99, mt_100, ml_100, mt_101, ml_101, mt_102, ml_102, mt_103, ml_103, mt_104, ml_104, mt_105, ml_105, mt_106, ml_106, mt_107, ml_107, mt_108, ml_108, mt_109, ml_109, mt_110, ml_110, mt_111, ml_111, mt_112, ml_112, mt_113, ml_113, mt_114, ml_114, mt_115, ml_115, mt_116, ml_116, mt_117, ml_117, mt_118, ml_118, mt_119, ml_119, mt_120, ml_120, mt_121, ml_121, mt_122, ml_122, mt_123, ml_123, gP_78_2, gP_78_3, gP_78_4, gP_78_5, gP_78_6, gP_78_12, gP_78_13, gP_78_14, gP_78_15, gP_78_16, gP_78_17, gP_78_18, gP_78_19, gP_78_23, gP_78_24, gP_78_26, gP_78_27, gP_78_28, gP_78_31, gP_78_32, gP_78_34, gP_78_35, gP_78_36, gP_78_37, gP_78_40, gP_78_41, gP_78_42, gP_78_43, gP_78_52, gP_78_53, gP_78_54, gP_78_55, gP_78_56, gP_78_57, gP_78_58, gP_78_59, gP_78_60, gP_78_61, gP_78_62, gP_78_63, gP_78_65, gP_78_66, gP_78_67, gP_78_68, gP_78_69, hS]
    | true =>
      rw [e] at b
      rw [mkR_t (f := fun p => brG G S p c) e]
      simp only [lp_X9_at_48, hw.1, f1, b, lI_t, nI_1, mt_sI, mt_sJ, mt_sP, mt_rI, mt_rJ, ml_sI, ml_sJ, ml_sP, ml_rI, ml_rJ, mP_sI, mP_sJ, mP_rI, mP_rJ, SHP_sI, SHP_sJ, SHP_rI, SHP_rJ, mI_sI, mI_rI, mI_sJ, mI_rJ, mI_sP, mJ_sI, mJ_rI, mJ_sP, mJ_sJ, mJ_rJ, gI_e, pI_e, ck_e, bnd_s, nm_eq, pr2_e, cnul_0, cnul_1, drf_1, sm_1, sm_2, aI_e, aJ_e, wI_e, wJ_e, aL_e, cpI_e, cpJ_e, Nat.reduceLeDiff, Nat.reduceEqDiff, Nat.add_left_cancel_iff, ad0, ad1, false_and, and_false, true_and, and_true, reduceIte, if_true, if_false, zb0, zb1, Int32.reduceLT, Int32.reduceLE, i10, nw1, nw2, nt1, nt2, not_true_eq_false, not_false_eq_true, mt_78, mt_79, ml_79, mt_80, ml_80, mt_81, ml_81, mt_82, ml_82, mt_83, ml_83, mt_84, ml_84, mt_85, ml_85, mt_86, ml_86, mt_87, ml_87, mt_88, ml_88, mt_89, ml_89, mt_90, ml_90, mt_91, ml_91, mt_92, ml_92, mt_93, ml_93, mt_94, ml_94, mt_95, ml_95, mt_96, ml_96, mt_97, ml_97, mt_98, ml_98, mt_99, ml_99, mt_100, ml_100, mt_101, ml_101, mt_102, ml_102, mt_103, ml_103, mt_104, ml_104, mt_105, ml_105, mt_106, ml_106, mt_107, ml_107, mt_108, ml_108, mt_109, ml_109, mt_110, ml_110, mt_111, ml_111, mt_112, ml_112, mt_113, ml_113, mt_114, ml_114, mt_115, ml_115, mt_116, ml_116, mt_117, ml_117, mt_118, ml_118, mt_119, ml_119, mt_120, ml_120, mt_121, ml_121, mt_122, ml_122, mt_123, ml_123, gP_78_2, gP_78_3, gP_78_4, gP_78_5, gP_78_6, gP_78_12, gP_78_13, gP_78_14, gP_78_15, gP_78_16, gP_78_17, gP_78_18, gP_78_19, gP_78_23, gP_78_24, gP_78_26, gP_78_27, gP_78_28, gP_78_31, gP_78_32, gP_78_34, gP_78_35, gP_78_36, gP_78_37, gP_78_40, gP_78_41, gP_78_42, gP_78_43, gP_78_52, gP_78_53, gP_78_54, gP_78_55, gP_78_56, gP_78_57, gP_78_58, gP_78_59, gP_78_60, gP_78_61, gP_78_62, gP_78_63, gP_78_65, gP_78_66, gP_78_67, gP_78_68, gP_78_69, hS]
  · have f1 : nI w ≤ nI w := nI_le (Nat.le_refl _) (by omega)
    show lp_X9_at_48 M (o + 78) (nI c) _ (nI w) = _
    simp only [lp_X9_at_48, hw.1, f1, mt_sI, mt_sJ, mt_sP, mt_rI, mt_rJ, ml_sI, ml_sJ, ml_sP, ml_rI, ml_rJ, mP_sI, mP_sJ, mP_rI, mP_rJ, SHP_sI, SHP_sJ, SHP_rI, SHP_rJ, mI_sI, mI_rI, mI_sJ, mI_rJ, mI_sP, mJ_sI, mJ_rI, mJ_sP, mJ_sJ, mJ_rJ, gI_e, pI_e, ck_e, bnd_s, nm_eq, pr2_e, cnul_0, cnul_1, drf_1, sm_1, sm_2, aI_e, aJ_e, wI_e, wJ_e, aL_e, cpI_e, cpJ_e, Nat.reduceLeDiff, Nat.reduceEqDiff, Nat.add_left_cancel_iff, ad0, ad1, false_and, and_false, true_and, and_true, reduceIte, if_true, if_false, zb0, zb1, Int32.reduceLT, Int32.reduceLE, i10, nw1, nw2, nt1, nt2, not_true_eq_false, not_false_eq_true, mt_78, mt_79, ml_79, mt_80, ml_80, mt_81, ml_81, mt_82, ml_82, mt_83, ml_83, mt_84, ml_84, mt_85, ml_85, mt_86, ml_86, mt_87, ml_87, mt_88, ml_88, mt_89, ml_89, mt_90, ml_90, mt_91, ml_91, mt_92, ml_92, mt_93, ml_93, mt_94, ml_94, mt_95, ml_95, mt_96, ml_96, mt_97, ml_97, mt_98, ml_98, mt_99, ml_99, mt_100, ml_100, mt_101, ml_101, mt_102, ml_102, mt_103, ml_103, mt_104, ml_104, mt_105, ml_105, mt_106, ml_106, mt_107, ml_107, mt_108, ml_108, mt_109, ml_109, mt_110, ml_110, mt_111, ml_111, mt_112, ml_112, mt_113, ml_113, mt_114, ml_114, mt_115, ml_115, mt_116, ml_116, mt_117, ml_117, mt_118, ml_118, mt_119, ml_119, mt_120, ml_120, mt_121, ml_121, mt_122, ml_122, mt_123, ml_123, gP_78_2, gP_78_3, gP_78_4, gP_78_5, gP_78_6, gP_78_12, gP_78_13, gP_78_14, gP_78_15, gP_78_16, gP_78_17, gP_78_18, gP_78_19, gP_78_23, gP_78_24, gP_78_26, gP_78_27, gP_78_28, gP_78_31, gP_78_32, gP_78_34, gP_78_35, gP_78_36, gP_78_37, gP_78_40, gP_78_41, gP_78_42, gP_78_43, gP_78_52, gP_78_53, gP_78_54, gP_78_55, gP_78_56, gP_78_57, gP_78_58, gP_78_59, gP_78_60, gP_78_61, gP_78_62, gP_78_63, gP_78_65, gP_78_66, gP_78_67, gP_78_68, gP_78_69, hS]
end WH1
