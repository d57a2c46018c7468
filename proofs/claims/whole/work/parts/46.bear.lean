/-! ===== who is BORNE, on both sides ===== -/
def ndK (k v w l : Int32) (c : Nat) : Int32 := if k = 2 then (if c < 4 then w / 2 else w) else if k = 3 then w + v else if k = 4 then (if 0 ≤ w - v then w - v else 0) else if k = 5 then (if c < 4 then w / 2 * 2 else w * 2) else if k = 6 then w + v + l else w
def brK (sp k v w : Int32) (l S : Nat → Int32) (c : Nat) : Bool := !decide (nI c = sp) && !decide (S c < ndK k v w (l (c / 4)) c)
def crK (sp k v w : Int32) (l S : Nat → Int32) : Option Nat := fw (brK sp k v w l S) (lpK k) nearB farB
theorem max0 (y : Int32) : imm_max 0 y = if 0 ≤ y then y else 0 := by
  unfold imm_max
  by_cases h : 0 < y
  · rw [if_pos h, if_pos (Int32.le_of_lt h)]
  · rw [if_neg h]
    by_cases h2 : 0 ≤ y
    · rw [if_pos h2]; exact Int32.le_antisymm h2 (Int32.not_lt.mp h)
    · rw [if_neg h2]
theorem ndK_row {k v w l : Int32} {c d : Nat} (h : c / 4 = d / 4) : ndK k v w l c = ndK k v w l d := by
  unfold ndK
  by_cases q : c < 4
  · have q2 : d < 4 := by omega
    simp only [q, q2]
  · have q2 : ¬ d < 4 := by omega
    simp only [q, q2]
/-- a walker of the class, at x -/
def WK (M : QM) (o x : Nat) (k v w : Int32) (l : Nat → Int32) : Prop := (mt M (o + x) = 7 ∧ mP M (o + x) 3 = some (o + (x + 1)) ∧ mt M (o + (x + 1)) = 20 ∧ ml M (o + (x + 1)) = 4) ∧ mI M (o + x) 0 = k ∧ mI M (o + x) 1 = v ∧ mI M (o + x) 2 = w ∧ ∀ r, r < 4 → mI M (o + (x + 1)) r = l r
/-- a cup of the class, at x -/
def CP (M : QM) (o x : Nat) (S : Nat → Int32) : Prop := (mt M (o + x) = 2 ∧ mP M (o + x) 0 = some (o + (x + 1)) ∧ mt M (o + (x + 1)) = 20 ∧ ml M (o + (x + 1)) = 16) ∧ ∀ c, c < 16 → mI M (o + (x + 1)) c = S c
section BE1
variable {M N Mw : QM} {o x y : Nat} {G : GG} {S l : Nat → Int32} {m w p c : Nat} {k v wt sp : Int32}
theorem rd_i {f : Int32 → Option Int32} {ty a : Nat} {i n : Nat} (h1 : mt M a = ty) (h2 : ml M a = n) (h3 : i < n) (h4 : n ≤ 2000) : aI M ty a (nI i) f = f (mI M a i) := aI_e h1 (by rw [h2]; exact h3) (by rw [h2]; exact h4)
set_option maxHeartbeats 1000000 in
theorem needs_c (h : WK M o x k v wt l) {r : Nat} (hr : r < 4) : fn_X7_needs M (o + x) (nI r) = some (ndK k v wt (l r) (4 * r)) := by
  obtain ⟨⟨h1, h2, h3, h4⟩, g1, g2, g3, g4⟩ := h
  have r0 : (nI r = 0) = (4 * r < 4) := propext ((nIeq0 (by omega)).trans (by omega))
  have gr := g4 r hr
  have ll : r < ml M (o + (x + 1)) := by rw [h4]; exact hr
  have ll2 : ml M (o + (x + 1)) ≤ 2000 := by rw [h4]; decide
  have e1 : ∀ k (f : Int32 → Option Int32), gI M (o + x) 7 k f = f (mI M (o + x) k) := fun k f => gI_e h1
  have e2 : ∀ (f : Nat → Option Int32), gR M (o + x) 7 3 f = f (o + (x + 1)) := fun f => gR_e h1 h2
  have e3 : ∀ (f : Int32 → Option Int32), aI M 20 (o + (x + 1)) (nI r) f = f (mI M (o + (x + 1)) r) := fun f => aI_e h3 ll ll2
  unfold fn_X7_needs ndK
  simp only [e1, e2, e3, g1, g2, g3, gr, max0, r0]
  by_cases k2 : k = 2
  · rw [if_pos k2, if_pos k2]; by_cases q : 4 * r < 4
    · rw [if_pos q, if_pos q]
    · rw [if_neg q, if_neg q]
  · rw [if_neg k2, if_neg k2]
    by_cases k3 : k = 3
    · rw [if_pos k3, if_pos k3]
    · rw [if_neg k3, if_neg k3]
      by_cases k4 : k = 4
      · rw [if_pos k4, if_pos k4]
      · rw [if_neg k4, if_neg k4]
        by_cases k5 : k = 5
        · rw [if_pos k5, if_pos k5]; by_cases q : 4 * r < 4
          · rw [if_pos q, if_pos q]
          · rw [if_neg q, if_neg q]
        · rw [if_neg k5, if_neg k5]
          by_cases k6 : k = 6
          · rw [if_pos k6, if_pos k6]
          · rw [if_neg k6, if_neg k6]
theorem or0 (a : Int32) : a ||| 0 = a := by
  apply bt_ext; intro i hi; rw [bt_or, bt_zero i hi, Bool.or_false]
theorem mkR_t {f : Nat → Bool} {n : Nat} (h : f n = true) : mkR f (n + 1) = mkR f n ||| ((1 : Int32) <<< (nI n &&& 31)) := by
  show mkR f n ||| (if f n = true then _ else _) = _
  rw [if_pos h]
theorem mkR_f {f : Nat → Bool} {n : Nat} (h : f n = false) : mkR f (n + 1) = mkR f n := by
  show mkR f n ||| (if f n = true then _ else _) = _
  rw [if_neg (by rw [h]; exact Bool.false_ne_true), or0]
set_option maxHeartbeats 1000000 in
theorem bear_step (hc : CP M o y S) {r j : Nat} (hr : r < 4) (hj : j < 4) : lp_X7_bearers_25 M (o + y) sp (ndK k v wt (l r) (4 * r)) (nI r) (mkR (brK sp k v wt l S) (4 * r + j)) (nI (4 * r + j)) = some (.inl (mkR (brK sp k v wt l S) (4 * r + (j + 1)), nI (4 * r + (j + 1)))) := by
  obtain ⟨⟨h1, h2, h3, h4⟩, g⟩ := hc
  have hc16 : 4 * r + j < 16 := by omega
  have e1 : (4 : Int32) * nI r + 4 = nI (4 * r + 4) := by rw [show (4 : Int32) * nI r = nI (4 * r) from nI_mul 4 r]; exact nI_add _ 4
  have f1 : ¬ nI (4 * r + 4) ≤ nI (4 * r + j) := by rw [nI_leI (by omega) (by omega)]; omega
  have ll : 4 * r + j < ml M (o + (y + 1)) := by rw [h4]; exact hc16
  have ll2 : ml M (o + (y + 1)) ≤ 2000 := by rw [h4]; decide
  have gj := g _ hc16
  have nd : ndK k v wt (l ((4 * r + j) / 4)) (4 * r + j) = ndK k v wt (l r) (4 * r) := by
    rw [show (4 * r + j) / 4 = r by omega]; exact ndK_row (by omega)
  have n1 : nI (4 * r + j) + 1 = nI (4 * r + (j + 1)) := nI_1 _
  unfold lp_X7_bearers_25
  rw [e1, if_neg f1]
  by_cases q : nI (4 * r + j) = sp
  · have hf : brK sp k v wt l S (4 * r + j) = false := by unfold brK; rw [decide_eq_true q]; rfl
    rw [if_pos q, nm_eq, n1, show 4 * r + (j + 1) = 4 * r + j + 1 from rfl, mkR_f hf]
  · rw [if_neg q, gR_e h1 h2, aI_e h3 ll ll2, gj]
    by_cases q2 : S (4 * r + j) < ndK k v wt (l r) (4 * r)
    · have hf : brK sp k v wt l S (4 * r + j) = false := by unfold brK; rw [nd, decide_eq_true q2, Bool.not_true, Bool.and_false]
      rw [if_pos q2, nm_eq, n1, show 4 * r + (j + 1) = 4 * r + j + 1 from rfl, mkR_f hf]
    · have hf : brK sp k v wt l S (4 * r + j) = true := by unfold brK; rw [nd, decide_eq_false q2, decide_eq_false q]; rfl
      rw [if_neg q2, nm_eq, nm_eq, n1, show 4 * r + (j + 1) = 4 * r + j + 1 from rfl, mkR_t hf]
theorem bearers_c (hw : WK M o x k v wt l) (hc : CP M o y S) : fn_X7_bearers M (o + x) (o + y) sp = some (mkb (brK sp k v wt l S)) := by
  have loop := itr_k (f := fun s5 : Int32 × Int32 => lp_X7_bearers_5 M (o + x) (o + y) sp s5.1 s5.2) (r := mkR (brK sp k v wt l S) 16) (fun r => (mkR (brK sp k v wt l S) (4 * r), nI r)) 4 (s0 := (0, 0)) rfl
    (fun r hr => by
      have f1 : ¬ (4 : Int32) ≤ nI r := by show ¬ nI 4 ≤ nI r; rw [nI_leI (by decide) (by omega)]; omega
      have inner := itr_k (f := fun s25 : Int32 × Int32 => lp_X7_bearers_25 M (o + y) sp (ndK k v wt (l r) (4 * r)) (nI r) s25.1 s25.2) (r := mkR (brK sp k v wt l S) (4 * (r + 1))) (fun j => (mkR (brK sp k v wt l S) (4 * r + j), nI (4 * r + j))) 4 (s0 := (mkR (brK sp k v wt l S) (4 * r), nI (4 * r))) rfl (fun j hj => bear_step hc hr hj)
        (by
          have e1 : (4 : Int32) * nI r + 4 = nI (4 * r + 4) := by rw [show (4 : Int32) * nI r = nI (4 * r) from nI_mul 4 r]; exact nI_add _ 4
          show lp_X7_bearers_25 M (o + y) sp _ (nI r) _ (nI (4 * r + 4)) = _
          unfold lp_X7_bearers_25
          rw [e1, if_pos (nI_le (Nat.le_refl _) (by omega))]
          rfl) (by decide)
      show lp_X7_bearers_5 M (o + x) (o + y) sp (mkR (brK sp k v wt l S) (4 * r)) (nI r) = _
      unfold lp_X7_bearers_5
      rw [if_neg f1, bnd_e (needs_c hw hr), nm_eq, show (4 : Int32) * nI r = nI (4 * r) from nI_mul 4 r, bnd_e inner, nm_eq, nI_1])
    (by
      show lp_X7_bearers_5 M (o + x) (o + y) sp _ (nI 4) = _
      unfold lp_X7_bearers_5
      rw [if_pos (by decide)]) (by decide)
  unfold fn_X7_bearers
  rw [bnd_e loop]
  rfl
theorem leaps_c (hw : WK M o x k v wt l) : fn_X7_leaps M (o + x) = some (lI (lpK k)) := by
  obtain ⟨⟨h1, h2, h3, h4⟩, g1, g2, g3, g4⟩ := hw
  unfold fn_X7_leaps lpK
  rw [gI_e h1, gI_e h1, g1]
  by_cases k1 : k = 1
  · rw [if_pos k1, decide_eq_true k1]; rfl
  · rw [if_neg k1, decide_eq_false k1]
    by_cases k4 : k = 4
    · rw [if_pos k4, decide_eq_true k4]; rfl
    · rw [if_neg k4, decide_eq_false k4]; rfl
theorem crossing_c (hw : WK M o x k v wt l) (hc : CP M o y S) : fn_X7_crossing M (o + x) (o + y) sp = some (iI (crK sp k v wt l S)) := by
  unfold fn_X7_crossing
  rw [bnd_e (bearers_c hw hc), bnd_e (leaps_c hw), mkb_near, mkb_far, bnd_e fewest_e]
  rfl
/-! the reference's walkers -/
def MW (M : QM) (o : Nat) (G : GG) (w : Nat) : Prop := SHP M o ∧ (mI M (o + 78) 0 = nI w ∧ w ≤ 5) ∧ (∀ p, p < w → mI M (o + 80) p = G 2 p ∧ mI M (o + 81) p = G 3 p ∧ mI M (o + 82) p = G 4 p ∧ ∀ r, r < 4 → mI M (o + 83) (4 * p + r) = G 5 (4 * p + r)) ∧ BRW M o G
def lnG (G : GG) (p : Nat) : Nat → Int32 := fun r => G 5 (4 * p + r)
def brG (G : GG) (S : Nat → Int32) (p c : Nat) : Bool := brK (gw G 1600) (G 2 p) (G 3 p) (G 4 p) (lnG G p) S c
def crG (G : GG) (S : Nat → Int32) (p : Nat) : Option Nat := crK (gw G 1600) (G 2 p) (G 3 p) (G 4 p) (lnG G p) S
theorem MW.fr (h : MW M o G w) {Z : Nat → Nat → Prop} (hs : SQ M N o Z) (hz : ∀ a k, Z a k → fx a k = false ∧ ¬ (a = 78 ∧ k = 0) ∧ (a < 80 ∨ 83 < a)) : MW N o G w := by
  obtain ⟨h1, ⟨h2, h2'⟩, h3, h4⟩ := h
  have e : ∀ a k, ¬ Z a k → mI N (o + a) k = mI M (o + a) k := hs.2.2.2.2
  refine ⟨hs.shp h1, ⟨(e 78 0 fun q => (hz _ _ q).2.1 ⟨rfl, rfl⟩).trans h2, h2'⟩, fun p hp => ?_, h4.fr hs.1 hs.2.1 hs.2.2.1 (fun a k q => e a k fun q2 => by rw [(hz _ _ q2).1] at q; cases q) ⟨rfl, rfl, rfl, fun _ _ => rfl⟩⟩
  have t : ∀ a k, 80 ≤ a → a ≤ 83 → mI N (o + a) k = mI M (o + a) k := fun a k h1 h2 => e a k fun q => by have := (hz _ _ q).2.2; omega
  obtain ⟨g1, g2, g3, g4⟩ := h3 p hp
  exact ⟨(t 80 p (by omega) (by omega)).trans g1, (t 81 p (by omega) (by omega)).trans g2, (t 82 p (by omega) (by omega)).trans g3, fun r hr => (t 83 _ (by omega) (by omega)).trans (g4 r hr)⟩
theorem MW.sc (h : MW M o G w) (hs : SC M N o) : MW N o G w := by
  refine h.fr hs fun a k q => ⟨?_, ?_, ?_⟩
  · cases e : fx a k with
    | false => rfl
    | true => rw [fx_scr e] at q; cases q
  · intro e; rw [e.1, e.2] at q; revert q; decide
  · by_cases e : 80 ≤ a ∧ a ≤ 83
    · exfalso
      rcases (by omega : a = 80 ∨ a = 81 ∨ a = 82 ∨ a = 83) with rfl | rfl | rfl | rfl <;> (revert q; unfold scr; simp)
    · omega
set_option maxHeartbeats 1000000 in
theorem needs_m (h : MW M o G w) (hp : p < w) (hc : c < 16) : fn_X9_needs M (o + 78) (nI p) (nI c) = some (ndK (G 2 p) (G 3 p) (G 4 p) (lnG G p (c / 4)) c) := by
  obtain ⟨hS, ⟨h2, h2'⟩, h3, h4⟩ := h
  obtain ⟨g1, g2, g3, g4⟩ := h3 p hp
  have hp5 : p < 5 := by omega
  have c4 : (4 ≤ nI c) = ¬ (c < 4) := propext (by show nI 4 ≤ nI c ↔ _; rw [nI_leI (by decide) (by omega)]; omega)
  have d4 : nI c / 4 = nI (c / 4) := nI_div (b := 4) (by omega) (by decide)
  have e1 : (4 : Int32) * nI p + nI (c / 4) = nI (4 * p + c / 4) := by rw [show (4 : Int32) * nI p = nI (4 * p) from nI_mul 4 p, nI_add]
  have g5 := g4 (c / 4) (by omega)
  have hq : 4 * p + c / 4 < 20 := by omega
  have mc : (2 : Int32) * G 4 p = G 4 p * 2 := Int32.mul_comm _ _
  unfold ndK lnG
  by_cases k2 : G 2 p = 2
  · by_cases q : c < 4
    · have c4' : ¬ 4 ≤ nI c := by rw [c4]; exact fun z => z q
      simp only [fn_X9_needs, g1, g3, k2, c4', q, mt_sI, mt_sJ, mt_sP, mt_rI, mt_rJ, ml_sI, ml_sJ, ml_sP, ml_rI, ml_rJ, mP_sI, mP_sJ, mP_rI, mP_rJ, SHP_sI, SHP_sJ, SHP_rI, SHP_rJ, mI_sI, mI_rI, mI_sJ, mI_rJ, mI_sP, mJ_sI, mJ_rI, mJ_sP, mJ_sJ, mJ_rJ, gI_e, pI_e, ck_e, bnd_s, nm_eq, pr2_e, cnul_0, cnul_1, drf_1, sm_1, sm_2, aI_e, aJ_e, wI_e, wJ_e, aL_e, cpI_e, cpJ_e, Nat.reduceLeDiff, Nat.reduceEqDiff, Nat.add_left_cancel_iff, ad0, ad1, false_and, and_false, true_and, and_true, reduceIte, if_true, if_false, zb0, zb1, Int32.reduceLT, Int32.reduceLE, i10, nw1, nw2, nt1, nt2, not_true_eq_false, not_false_eq_true, mt_78, mt_79, ml_79, mt_80, ml_80, mt_81, ml_81, mt_82, ml_82, mt_83, ml_83, mt_84, ml_84, mt_85, ml_85, mt_86, ml_86, mt_87, ml_87, mt_88, ml_88, mt_89, ml_89, mt_90, ml_90, mt_91, ml_91, mt_92, ml_92, mt_93, ml_93, mt_94, ml_94, mt_95, ml_95, mt_96, ml_96, mt_97, ml_97, mt_98, ml_98, mt_99, ml_99, mt_100, ml_100, mt_101, ml_101, mt_102, ml_102, mt_103, ml_103, mt_104, ml_104, mt_105, ml_105, mt_106, ml_106, mt_107, ml_107, mt_108, ml_108, mt_109, ml_109, mt_110, ml_110, mt_111, ml_111, mt_112, ml_112, mt_113, ml_113, mt_114, ml_114, mt_115, ml_115, mt_116, ml_116, mt_117, ml_117, mt_118, ml_118, mt_119, ml_119, mt_120, ml_120, mt_121, ml_121, mt_122, ml_122, mt_123, ml_123, gP_78_2, gP_78_3, gP_78_4, gP_78_5, gP_78_6, gP_78_12, gP_78_13, gP_78_14, gP_78_15, gP_78_16, gP_78_17, gP_78_18, gP_78_19, gP_78_23, gP_78_24, gP_78_26, gP_78_27, gP_78_28, gP_78_31, gP_78_32, gP_78_34, gP_78_35, gP_78_36, gP_78_37, gP_78_40, gP_78_41, gP_78_42, gP_78_43, gP_78_52, gP_78_53, gP_78_54, gP_78_55, gP_78_56, gP_78_57, gP_78_58, gP_78_59, gP_78_60, gP_78_61, gP_78_62, gP_78_63, gP_78_65, gP_78_66, gP_78_67, gP_78_68, gP_78_69, hS, hp5]
    · have c4' : 4 ≤ nI c := by rw [c4]; exact q
      simp only [fn_X9_needs, g1, g3, k2, c4', q, mt_sI, mt_sJ, mt_sP, mt_rI, mt_rJ, ml_sI, ml_sJ, ml_sP, ml_rI, ml_rJ, mP_sI, mP_sJ, mP_rI, mP_rJ, SHP_sI, SHP_sJ, SHP_rI, SHP_rJ, mI_sI, mI_rI, mI_sJ, mI_rJ, mI_sP, mJ_sI, mJ_rI, mJ_sP, mJ_sJ, mJ_rJ, gI_e, pI_e, ck_e, bnd_s, nm_eq, pr2_e, cnul_0, cnul_1, drf_1, sm_1, sm_2, aI_e, aJ_e, wI_e, wJ_e, aL_e, cpI_e, cpJ_e, Nat.reduceLeDiff, Nat.reduceEqDiff, Nat.add_left_cancel_iff, ad0, ad1, false_and, and_false, true_and, and_true, reduceIte, if_true, if_false, zb0, zb1, Int32.reduceLT, Int32.reduceLE, i10, nw1, nw2, nt1, nt2, not_true_eq_false, not_false_eq_true, mt_78, mt_79, ml_79, mt_80, ml_80, mt_81, ml_81, mt_82, ml_82, mt_83, ml_83, mt_84, ml_84, mt_85, ml_85, mt_86, ml_86, mt_87, ml_87, mt_88, ml_88, mt_89, ml_89, mt_90, ml_90, mt_91, ml_91, mt_92, ml_92, mt_93, ml_93, mt_94, ml_94, mt_95, ml_95, mt_96, ml_96, mt_97, ml_97, mt_98, ml_98, mt_99, ml_99, mt_100, ml_100, mt_101, ml_101, mt_102, ml_102, mt_103, ml_103, mt_104, ml_104, mt_105, ml_105, mt_106, ml_106, mt_107, ml_107, mt_108, ml_108, mt_109, ml_109, mt_110, ml_110, mt_111, ml_111, mt_112, ml_112, mt_113, ml_113, mt_114, ml_114, mt_115, ml_115, mt_116, ml_116, mt_117, ml_117, mt_118, ml_118, mt_119, ml_119, mt_120, ml_120, mt_121, ml_121, mt_122, ml_122, mt_123, ml_123, gP_78_2, gP_78_3, gP_78_4, gP_78_5, gP_78_6, gP_78_12, gP_78_13, gP_78_14, gP_78_15, gP_78_16, gP_78_17, gP_78_18, gP_78_19, gP_78_23, gP_78_24, gP_78_26, gP_78_27, gP_78_28, gP_78_31, gP_78_32, gP_78_34, gP_78_35, gP_78_36, gP_78_37, gP_78_40, gP_78_41, gP_78_42, gP_78_43, gP_78_52, gP_78_53, gP_78_54, gP_78_55, gP_78_56, gP_78_57, gP_78_58, gP_78_59, gP_78_60, gP_78_61, gP_78_62, gP_78_63, gP_78_65, gP_78_66, gP_78_67, gP_78_68, gP_78_69, hS, hp5]
  · by_cases k3 : G 2 p = 3
    · have n2 : ¬ (3 : Int32) = 2 := by decide
      simp only [fn_X9_needs, g1, g2, g3, k3, n2, mt_sI, mt_sJ, mt_sP, mt_rI, mt_rJ, ml_sI, ml_sJ, ml_sP, ml_rI, ml_rJ, mP_sI, mP_sJ, mP_rI, mP_rJ, SHP_sI, SHP_sJ, SHP_rI, SHP_rJ, mI_sI, mI_rI, mI_sJ, mI_rJ, mI_sP, mJ_sI, mJ_rI, mJ_sP, mJ_sJ, mJ_rJ, gI_e, pI_e, ck_e, bnd_s, nm_eq, pr2_e, cnul_0, cnul_1, drf_1, sm_1, sm_2, aI_e, aJ_e, wI_e, wJ_e, aL_e, cpI_e, cpJ_e, Nat.reduceLeDiff, Nat.reduceEqDiff, Nat.add_left_cancel_iff, ad0, ad1, false_and, and_false, true_and, and_true, reduceIte, if_true, if_false, zb0, zb1, Int32.reduceLT, Int32.reduceLE, i10, nw1, nw2, nt1, nt2, not_true_eq_false, not_false_eq_true, mt_78, mt_79, ml_79, mt_80, ml_80, mt_81, ml_81, mt_82, ml_82, mt_83, ml_83, mt_84, ml_84, mt_85, ml_85, mt_86, ml_86, mt_87, ml_87, mt_88, ml_88, mt_89, ml_89, mt_90, ml_90, mt_91, ml_91, mt_92, ml_92, mt_93, ml_93, mt_94, ml_94, mt_95, ml_95, mt_96, ml_96, mt_97, ml_97, mt_98, ml_98, mt_99, ml_99, mt_100, ml_100, mt_101, ml_101, mt_102, ml_102, mt_103, ml_103, mt_104, ml_104, mt_105, ml_105, mt_106, ml_106, mt_107, ml_107, mt_108, ml_108, mt_109, ml_109, mt_110, ml_110, mt_111, ml_111, mt_112, ml_112, mt_113, ml_113, mt_114, ml_114, mt_115, ml_115, mt_116, ml_116, mt_117, ml_117, mt_118, ml_118, mt_119, ml_119, mt_120, ml_120, mt_121, ml_121, mt_122, ml_122, mt_123, ml_123, gP_78_2, gP_78_3, gP_78_4, gP_78_5, gP_78_6, gP_78_12, gP_78_13, gP_78_14, gP_78_15, gP_78_16, gP_78_17, gP_78_18, gP_78_19, gP_78_23, gP_78_24, gP_78_26, gP_78_27, gP_78_28, gP_78_31, gP_78_32, gP_78_34, gP_78_35, gP_78_36, gP_78_37, gP_78_40, gP_78_41, gP_78_42, gP_78_43, gP_78_52, gP_78_53, gP_78_54, gP_78_55, gP_78_56, gP_78_57, gP_78_58, gP_78_59, gP_78_60, gP_78_61, gP_78_62, gP_78_63, gP_78_65, gP_78_66, gP_78_67, gP_78_68, gP_78_69, hS, hp5]
    · by_cases k4 : G 2 p = 4
      · have n2 : ¬ (4 : Int32) = 2 := by decide
        have n3 : ¬ (4 : Int32) = 3 := by decide
        simp only [fn_X9_needs, fn_X9_least0, g1, g2, g3, k4, n2, n3, mt_sI, mt_sJ, mt_sP, mt_rI, mt_rJ, ml_sI, ml_sJ, ml_sP, ml_rI, ml_rJ, mP_sI, mP_sJ, mP_rI, mP_rJ, SHP_sI, SHP_sJ, SHP_rI, SHP_rJ, mI_sI, mI_rI, mI_sJ, mI_rJ, mI_sP, mJ_sI, mJ_rI, mJ_sP, mJ_sJ, mJ_rJ, gI_e, pI_e, ck_e, bnd_s, nm_eq, pr2_e, cnul_0, cnul_1, drf_1, sm_1, sm_2, aI_e, aJ_e, wI_e, wJ_e, aL_e, cpI_e, cpJ_e, Nat.reduceLeDiff, Nat.reduceEqDiff, Nat.add_left_cancel_iff, ad0, ad1, false_and, and_false, true_and, and_true, reduceIte, if_true, if_false, zb0, zb1, Int32.reduceLT, Int32.reduceLE, i10, nw1, nw2, nt1, nt2, not_true_eq_false, not_false_eq_true, mt_78, mt_79, ml_79, mt_80, ml_80, mt_81, ml_81, mt_82, ml_82, mt_83, ml_83, mt_84, ml_84, mt_85, ml_85, mt_86, ml_86, mt_87, ml_87, mt_88, ml_88, mt_89, ml_89, mt_90, ml_90, mt_91, ml_91, mt_92, ml_92, mt_93, ml_93, mt_94, ml_94, mt_95, ml_95, mt_96, ml_96, mt_97, ml_97, mt_98, ml_98, mt_99, ml_99, mt_100, ml_100, mt_101, ml_101, mt_102, ml_102, mt_103, ml_103, mt_104, ml_104, mt_105, ml_105, mt_106, ml_106, mt_107, ml_107, mt_108, ml_108, mt_109, ml_109, mt_110, ml_110, mt_111, ml_111, mt_112, ml_112, mt_113, ml_113, mt_114, ml_114, mt_115, ml_115, mt_116, ml_116, mt_117, ml_117, mt_118, ml_118, mt_119, ml_119, mt_120, ml_120, mt_121, ml_121, mt_122, ml_122, mt_123, ml_123, gP_78_2, gP_78_3, gP_78_4, gP_78_5, gP_78_6, gP_78_12, gP_78_13, gP_78_14, gP_78_15, gP_78_16, gP_78_17, gP_78_18, gP_78_19, gP_78_23, gP_78_24, gP_78_26, gP_78_27, gP_78_28, gP_78_31, gP_78_32, gP_78_34, gP_78_35, gP_78_36, gP_78_37, gP_78_40, gP_78_41, gP_78_42, gP_78_43, gP_78_52, gP_78_53, gP_78_54, gP_78_55, gP_78_56, gP_78_57, gP_78_58, gP_78_59, gP_78_60, gP_78_61, gP_78_62, gP_78_63, gP_78_65, gP_78_66, gP_78_67, gP_78_68, gP_78_69, hS, hp5]
      · by_cases k5 : G 2 p = 5
        · have n2 : ¬ (5 : Int32) = 2 := by decide
          have n3 : ¬ (5 : Int32) = 3 := by decide
          have n4 : ¬ (5 : Int32) = 4 := by decide
          by_cases q : c < 4
          · have c4' : ¬ 4 ≤ nI c := by rw [c4]; exact fun z => z q
            simp only [fn_X9_needs, g1, g3, k5, n2, n3, n4, c4', q, mt_sI, mt_sJ, mt_sP, mt_rI, mt_rJ, ml_sI, ml_sJ, ml_sP, ml_rI, ml_rJ, mP_sI, mP_sJ, mP_rI, mP_rJ, SHP_sI, SHP_sJ, SHP_rI, SHP_rJ, mI_sI, mI_rI, mI_sJ, mI_rJ, mI_sP, mJ_sI, mJ_rI, mJ_sP, mJ_sJ, mJ_rJ, gI_e, pI_e, ck_e, bnd_s, nm_eq, pr2_e, cnul_0, cnul_1, drf_1, sm_1, sm_2, aI_e, aJ_e, wI_e, wJ_e, aL_e, cpI_e, cpJ_e, Nat.reduceLeDiff, Nat.reduceEqDiff, Nat.add_left_cancel_iff, ad0, ad1, false_and, and_false, true_and, and_true, reduceIte, if_true, if_false, zb0, zb1, Int32.reduceLT, Int32.reduceLE, i10, nw1, nw2, nt1, nt2, not_true_eq_false, not_false_eq_true, mt_78, mt_79, ml_79, mt_80, ml_80, mt_81, ml_81, mt_82, ml_82, mt_83, ml_83, mt_84, ml_84, mt_85, ml_85, mt_86, ml_86, mt_87, ml_87, mt_88, ml_88, mt_89, ml_89, mt_90, ml_90, mt_91, ml_91, mt_92, ml_92, mt_93, ml_93, mt_94, ml_94, mt_95, ml_95, mt_96, ml_96, mt_97, ml_97, mt_98, ml_98, mt_99, ml_99, mt_100, ml_100, mt_101, ml_101, mt_102, ml_102, mt_103, ml_103, mt_104, ml_104, mt_105, ml_105, mt_106, ml_106, mt_107, ml_107, mt_108, ml_108, mt_109, ml_109, mt_110, ml_110, mt_111, ml_111, mt_112, ml_112, mt_113, ml_113, mt_114, ml_114, mt_115, ml_115, mt_116, ml_116, mt_117, ml_117, mt_118, ml_118, mt_119, ml_119, mt_120, ml_120, mt_121, ml_121, mt_122, ml_122, mt_123, ml_123, gP_78_2, gP_78_3, gP_78_4, gP_78_5, gP_78_6, gP_78_12, gP_78_13, gP_78_14, gP_78_15, gP_78_16, gP_78_17, gP_78_18, gP_78_19, gP_78_23, gP_78_24, gP_78_26, gP_78_27, gP_78_28, gP_78_31, gP_78_32, gP_78_34, gP_78_35, gP_78_36, gP_78_37, gP_78_40, gP_78_41, gP_78_42, gP_78_43, gP_78_52, gP_78_53, gP_78_54, gP_78_55, gP_78_56, gP_78_57, gP_78_58, gP_78_59, gP_78_60, gP_78_61, gP_78_62, gP_78_63, gP_78_65, gP_78_66, gP_78_67, gP_78_68, gP_78_69, hS, hp5]
          · have c4' : 4 ≤ nI c := by rw [c4]; exact q
            simp only [fn_X9_needs, g1, g3, k5, n2, n3, n4, c4', q, mc, mt_sI, mt_sJ, mt_sP, mt_rI, mt_rJ, ml_sI, ml_sJ, ml_sP, ml_rI, ml_rJ, mP_sI, mP_sJ, mP_rI, mP_rJ, SHP_sI, SHP_sJ, SHP_rI, SHP_rJ, mI_sI, mI_rI, mI_sJ, mI_rJ, mI_sP, mJ_sI, mJ_rI, mJ_sP, mJ_sJ, mJ_rJ, gI_e, pI_e, ck_e, bnd_s, nm_eq, pr2_e, cnul_0, cnul_1, drf_1, sm_1, sm_2, aI_e, aJ_e, wI_e, wJ_e, aL_e, cpI_e, cpJ_e, Nat.reduceLeDiff, Nat.reduceEqDiff, Nat.add_left_cancel_iff, ad0, ad1, false_and, and_false, true_and, and_true, reduceIte, if_true, if_false, zb0, zb1, Int32.reduceLT, Int32.reduceLE, i10, nw1, nw2, nt1, nt2, not_true_eq_false, not_false_eq_true, mt_78, mt_79, ml_79, mt_80, ml_80, mt_81, ml_81, mt_82, ml_82, mt_83, ml_83, mt_84, ml_84, mt_85, ml_85, mt_86, ml_86, mt_87, ml_87, mt_88, ml_88, mt_89, ml_89, mt_90, ml_90, mt_91, ml_91, mt_92, ml_92, mt_93, ml_93, mt_94, ml_94, mt_95, ml_95, mt_96, ml_96, mt_97, ml_97, mt_98, ml_98, mt_99, ml_99, mt_100, ml_100, mt_101, ml_101, mt_102, ml_102, mt_103, ml_103, mt_104, ml_104, mt_105, ml_105, mt_106, ml_106, mt_107, ml_107, mt_108, ml_108, mt_109, ml_109, mt_110, ml_110, mt_111, ml_111, mt_112, ml_112, mt_113, ml_113, mt_114, ml_114, mt_115, ml_115, mt_116, ml_116, mt_117, ml_117, mt_118, ml_118, mt_119, ml_119, mt_120, ml_120, mt_121, ml_121, mt_122, ml_122, mt_123, ml_123, gP_78_2, gP_78_3, gP_78_4, gP_78_5, gP_78_6, gP_78_12, gP_78_13, gP_78_14, gP_78_15, gP_78_16, gP_78_17, gP_78_18, gP_78_19, gP_78_23, gP_78_24, gP_78_26, gP_78_27, gP_78_28, gP_78_31, gP_78_32, gP_78_34, gP_78_35, gP_78_36, gP_78_37, gP_78_40, gP_78_41, gP_78_42, gP_78_43, gP_78_52, gP_78_53, gP_78_54, gP_78_55, gP_78_56, gP_78_57, gP_78_58, gP_78_59, gP_78_60, gP_78_61, gP_78_62, gP_78_63, gP_78_65, gP_78_66, gP_78_67, gP_78_68, gP_78_69, hS, hp5]
        · by_cases k6 : G 2 p = 6
          · have n2 : ¬ (6 : Int32) = 2 := by decide
            have n3 : ¬ (6 : Int32) = 3 := by decide
            have n4 : ¬ (6 : Int32) = 4 := by decide
            have n5 : ¬ (6 : Int32) = 5 := by decide
            simp only [fn_X9_needs, g1, g2, g3, k6, n2, n3, n4, n5, d4, e1, g5, mt_sI, mt_sJ, mt_sP, mt_rI, mt_rJ, ml_sI, ml_sJ, ml_sP, ml_rI, ml_rJ, mP_sI, mP_sJ, mP_rI, mP_rJ, SHP_sI, SHP_sJ, SHP_rI, SHP_rJ, mI_sI, mI_rI, mI_sJ, mI_rJ, mI_sP, mJ_sI, mJ_rI, mJ_sP, mJ_sJ, mJ_rJ, gI_e, pI_e, ck_e, bnd_s, nm_eq, pr2_e, cnul_0, cnul_1, drf_1, sm_1, sm_2, aI_e, aJ_e, wI_e, wJ_e, aL_e, cpI_e, cpJ_e, Nat.reduceLeDiff, Nat.reduceEqDiff, Nat.add_left_cancel_iff, ad0, ad1, false_and, and_false, true_and, and_true, reduceIte, if_true, if_false, zb0, zb1, Int32.reduceLT, Int32.reduceLE, i10, nw1, nw2, nt1, nt2, not_true_eq_false, not_false_eq_true, mt_78, mt_79, ml_79, mt_80, ml_80, mt_81, ml_81, mt_82, ml_82, mt_83, ml_83, mt_84, ml_84, mt_85, ml_85, mt_86, ml_86, mt_87, ml_87, mt_88, ml_88, mt_89, ml_89, mt_90, ml_90, mt_91, ml_91, mt_92, ml_92, mt_93, ml_93, mt_94, ml_94, mt_95, ml_95, mt_96, ml_96, mt_97, ml_97, mt_98, ml_98, mt_99, ml_99, mt_100, ml_100, mt_101, ml_101, mt_102, ml_102, mt_103, ml_103, mt_104, ml_104, mt_105, ml_105, mt_106, ml_106, mt_107, ml_107, mt_108, ml_108, mt_109, ml_109, mt_110, ml_110, mt_111, ml_111, mt_112, ml_112, mt_113, ml_113, mt_114, ml_114, mt_115, ml_115, mt_116, ml_116, mt_117, ml_117, mt_118, ml_118, mt_119, ml_119, mt_120, ml_120, mt_121, ml_121, mt_122, ml_122, mt_123, ml_123, gP_78_2, gP_78_3, gP_78_4, gP_78_5, gP_78_6, gP_78_12, gP_78_13, gP_78_14, gP_78_15, gP_78_16, gP_78_17, gP_78_18, gP_78_19, gP_78_23, gP_78_24, gP_78_26, gP_78_27, gP_78_28, gP_78_31, gP_78_32, gP_78_34, gP_78_35, gP_78_36, gP_78_37, gP_78_40, gP_78_41, gP_78_42, gP_78_43, gP_78_52, gP_78_53, gP_78_54, gP_78_55, gP_78_56, gP_78_57, gP_78_58, gP_78_59, gP_78_60, gP_78_61, gP_78_62, gP_78_63, gP_78_65, gP_78_66, gP_78_67, gP_78_68, gP_78_69, hS, hp5, hq]
          · simp only [fn_X9_needs, g1, g3, k2, k3, k4, k5, k6, mt_sI, mt_sJ, mt_sP, mt_rI, mt_rJ, ml_sI, ml_sJ, ml_sP, ml_rI, ml_rJ, mP_sI, mP_sJ, mP_rI, mP_rJ, SHP_sI, SHP_sJ, SHP_rI, SHP_rJ, mI_sI, mI_rI, mI_sJ, mI_rJ, mI_sP, mJ_sI, mJ_rI, mJ_sP, mJ_sJ, mJ_rJ, gI_e, pI_e, ck_e, bnd_s, nm_eq, pr2_e, cnul_0, cnul_1, drf_1, sm_1, sm_2, aI_e, aJ_e, wI_e, wJ_e, aL_e, cpI_e, cpJ_e, Nat.reduceLeDiff, Nat.reduceEqDiff, Nat.add_left_cancel_iff, ad0, ad1, false_and, and_false, true_and, and_true, reduceIte, if_true, if_false, zb0, zb1, Int32.reduceLT, Int32.reduceLE, i10, nw1, nw2, nt1, nt2, not_true_eq_false, not_false_eq_true, mt_78, mt_79, ml_79, mt_80, ml_80, mt_81, ml_81, mt_82, ml_82, mt_83, ml_83, mt_84, ml_84, mt_85, ml_85, mt_86, ml_86, mt_87, ml_87, mt_88, ml_88, mt_89, ml_89, mt_90, ml_90, mt_91, ml_91, mt_92, ml_92, mt_93, ml_93, mt_94, ml_94, mt_95, ml_95, mt_96, ml_96, mt_97, ml_97, mt_98, ml_98, mt_99, ml_99, mt_100, ml_100, mt_101, ml_101, mt_102, ml_102, mt_103, ml_103, mt_104, ml_104, mt_105, ml_105, mt_106, ml_106, mt_107, ml_107, mt_108, ml_108, mt_109, ml_109, mt_110, ml_110, mt_111, ml_111, mt_112, ml_112, mt_113, ml_113, mt_114, ml_114, mt_115, ml_115, mt_116, ml_116, mt_117, ml_117, mt_118, ml_118, mt_119, ml_119, mt_120, ml_120, mt_121, ml_121, mt_122, ml_122, mt_123, ml_123, gP_78_2, gP_78_3, gP_78_4, gP_78_5, gP_78_6, gP_78_12, gP_78_13, gP_78_14, gP_78_15, gP_78_16, gP_78_17, gP_78_18, gP_78_19, gP_78_23, gP_78_24, gP_78_26, gP_78_27, gP_78_28, gP_78_31, gP_78_32, gP_78_34, gP_78_35, gP_78_36, gP_78_37, gP_78_40, gP_78_41, gP_78_42, gP_78_43, gP_78_52, gP_78_53, gP_78_54, gP_78_55, gP_78_56, gP_78_57, gP_78_58, gP_78_59, gP_78_60, gP_78_61, gP_78_62, gP_78_63, gP_78_65, gP_78_66, gP_78_67, gP_78_68, gP_78_69, hS, hp5]
set_option maxHeartbeats 1000000 in
theorem bears_m0 (h : MW M o G w) (hF : FV S m M o) {cm : Nat → Bool} (hcm : fn_X9_has (mI M (o + 78) 25) (nI c) = lI (cm c)) (hp : p < w) (hc : c < 16) : fn_X9_bears M (o + 78) (nI c) (nI p) = some (lI (brG G S p c && !cm c)) := by
  have nd := needs_m h hp hc
  have hS := h.1
  have sp := spoon_e h.1 h.2.2.2
  have sp2 : (nI c = (if 16 ≤ gw G 1600 then -5 else gw G 1600)) = (nI c = gw G 1600) := by
    refine propext ?_
    by_cases q : 16 ≤ gw G 1600
    · rw [if_pos q]
      constructor
      · intro e; exact absurd e (nIm (by omega) (by decide))
      · intro e; rw [← e] at q; exact absurd q (n16 hc)
    · rw [if_neg q]
  have g1 := hF.1 c hc
  unfold brG brK
  by_cases q : nI c = gw G 1600
  · have q' := q
    rw [← sp2] at q'
    rw [decide_eq_true q, Bool.not_true, Bool.false_and, Bool.false_and]
    unfold fn_X9_bears
    rw [bnd_e sp, if_pos q']
    rfl
  · have q' := q
    rw [← sp2] at q'
    rw [decide_eq_false q, Bool.not_false, Bool.true_and]
    unfold fn_X9_bears
    rw [bnd_e sp, if_neg q']
    cases e : cm c with
    | true =>
      rw [e] at hcm
      rw [Bool.not_true, Bool.and_false]
      simp only [hcm, lI_t, lI_f, mt_sI, mt_sJ, mt_sP, mt_rI, mt_rJ, ml_sI, ml_sJ, ml_sP, ml_rI, ml_rJ, mP_sI, mP_sJ, mP_rI, mP_rJ, SHP_sI, SHP_sJ, SHP_rI, SHP_rJ, mI_sI, mI_rI, mI_sJ, mI_rJ, mI_sP, mJ_sI, mJ_rI, mJ_sP, mJ_sJ, mJ_rJ, gI_e, pI_e, ck_e, bnd_s, nm_eq, pr2_e, cnul_0, cnul_1, drf_1, sm_1, sm_2, aI_e, aJ_e, wI_e, wJ_e, aL_e, cpI_e, cpJ_e, Nat.reduceLeDiff, Nat.reduceEqDiff, Nat.add_left_cancel_iff, ad0, ad1, false_and, and_false, true_and, and_true, reduceIte, if_true, if_false, zb0, zb1, Int32.reduceLT, Int32.reduceLE, i10, nw1, nw2, nt1, nt2, not_true_eq_false, not_false_eq_true, mt_78, mt_79, ml_79, mt_80, ml_80, mt_81, ml_81, mt_82, ml_82, mt_83, ml_83, mt_84, ml_84, mt_85, ml_85, mt_86, ml_86, mt_87, ml_87, mt_88, ml_88, mt_89, ml_89, mt_90, ml_90, mt_91, ml_91, mt_92, ml_92, mt_93, ml_93, mt_94, ml_94, mt_95, ml_95, mt_96, ml_96, mt_97, ml_97, mt_98, ml_98, mt_99, ml_99, mt_100, ml_100, mt_101, ml_101, mt_102, ml_102, mt_103, ml_103, mt_104, ml_104, mt_105, ml_105, mt_106, ml_106, mt_107, ml_107, mt_108, ml_108, mt_109, ml_109, mt_110, ml_110, mt_111, ml_111, mt_112, ml_112, mt_113, ml_113, mt_114, ml_114, mt_115, ml_115, mt_116, ml_116, mt_117, ml_117, mt_118, ml_118, mt_119, ml_119, mt_120, ml_120, mt_121, ml_121, mt_122, ml_122, mt_123, ml_123, gP_78_2, gP_78_3, gP_78_4, gP_78_5, gP_78_6, gP_78_12, gP_78_13, gP_78_14, gP_78_15, gP_78_16, gP_78_17, gP_78_18, gP_78_19, gP_78_23, gP_78_24, gP_78_26, gP_78_27, gP_78_28, gP_78_31, gP_78_32, gP_78_34, gP_78_35, gP_78_36, gP_78_37, gP_78_40, gP_78_41, gP_78_42, gP_78_43, gP_78_52, gP_78_53, gP_78_54, gP_78_55, gP_78_56, gP_78_57, gP_78_58, gP_78_59, gP_78_60, gP_78_61, gP_78_62, gP_78_63, gP_78_65, gP_78_66, gP_78_67, gP_78_68, gP_78_69, hS]
    | false =>
      rw [e] at hcm
      rw [Bool.not_false, Bool.and_true]
      by_cases q2 : S c < ndK (G 2 p) (G 3 p) (G 4 p) (lnG G p (c / 4)) c
      · rw [decide_eq_true q2]
        simp only [hcm, nd, g1, q2, lI_f, Bool.not_true, mt_sI, mt_sJ, mt_sP, mt_rI, mt_rJ, ml_sI, ml_sJ, ml_sP, ml_rI, ml_rJ, mP_sI, mP_sJ, mP_rI, mP_rJ, SHP_sI, SHP_sJ, SHP_rI, SHP_rJ, mI_sI, mI_rI, mI_sJ, mI_rJ, mI_sP, mJ_sI, mJ_rI, mJ_sP, mJ_sJ, mJ_rJ, gI_e, pI_e, ck_e, bnd_s, nm_eq, pr2_e, cnul_0, cnul_1, drf_1, sm_1, sm_2, aI_e, aJ_e, wI_e, wJ_e, aL_e, cpI_e, cpJ_e, Nat.reduceLeDiff, Nat.reduceEqDiff, Nat.add_left_cancel_iff, ad0, ad1, false_and, and_false, true_and, and_true, reduceIte, if_true, if_false, zb0, zb1, Int32.reduceLT, Int32.reduceLE, i10, nw1, nw2, nt1, nt2, not_true_eq_false, not_false_eq_true, mt_78, mt_79, ml_79, mt_80, ml_80, mt_81, ml_81, mt_82, ml_82, mt_83, ml_83, mt_84, ml_84, mt_85, ml_85, mt_86, ml_86, mt_87, ml_87, mt_88, ml_88, mt_89, ml_89, mt_90, ml_90, mt_91, ml_91, mt_92, ml_92, mt_93, ml_93, mt_94, ml_94, mt_95, ml_95, mt_96, ml_96, mt_97, ml_97, mt_98, ml_98, mt_99, ml_99, mt_100, ml_100, mt_101, ml_101, mt_102, ml_102, mt_103, ml_103, mt_104, ml_104, mt_105, ml_105, mt_106, ml_106, mt_107, ml_107, mt_108, ml_108, mt_109, ml_109, mt_110, ml_110, mt_111, ml_111, mt_112, ml_112, mt_113, ml_113, mt_114, ml_114, mt_115, ml_115, mt_116, ml_116, mt_117, ml_117, mt_118, ml_118, mt_119, ml_119, mt_120, ml_120, mt_121, ml_121, mt_122, ml_122, mt_123, ml_123, gP_78_2, gP_78_3, gP_78_4, gP_78_5, gP_78_6, gP_78_12, gP_78_13, gP_78_14, gP_78_15, gP_78_16, gP_78_17, gP_78_18, gP_78_19, gP_78_23, gP_78_24, gP_78_26, gP_78_27, gP_78_28, gP_78_31, gP_78_32, gP_78_34, gP_78_35, gP_78_36, gP_78_37, gP_78_40, gP_78_41, gP_78_42, gP_78_43, gP_78_52, gP_78_53, gP_78_54, gP_78_55, gP_78_56, gP_78_57, gP_78_58, gP_78_59, gP_78_60, gP_78_61, gP_78_62, gP_78_63, gP_78_65, gP_78_66, gP_78_67, gP_78_68, gP_78_69, hS, hc]
      · rw [decide_eq_false q2]
        simp only [hcm, nd, g1, q2, lI_f, lI_t, Bool.not_false, mt_sI, mt_sJ, mt_sP, mt_rI, mt_rJ, ml_sI, ml_sJ, ml_sP, ml_rI, ml_rJ, mP_sI, mP_sJ, mP_rI, mP_rJ, SHP_sI, SHP_sJ, SHP_rI, SHP_rJ, mI_sI, mI_rI, mI_sJ, mI_rJ, mI_sP, mJ_sI, mJ_rI, mJ_sP, mJ_sJ, mJ_rJ, gI_e, pI_e, ck_e, bnd_s, nm_eq, pr2_e, cnul_0, cnul_1, drf_1, sm_1, sm_2, aI_e, aJ_e, wI_e, wJ_e, aL_e, cpI_e, cpJ_e, Nat.reduceLeDiff, Nat.reduceEqDiff, Nat.add_left_cancel_iff, ad0, ad1, false_and, and_false, true_and, and_true, reduceIte, if_true, if_false, zb0, zb1, Int32.reduceLT, Int32.reduceLE, i10, nw1, nw2, nt1, nt2, not_true_eq_false, not_false_eq_true, mt_78, mt_79, ml_79, mt_80, ml_80, mt_81, ml_81, mt_82, ml_82, mt_83, ml_83, mt_84, ml_84, mt_85, ml_85, mt_86, ml_86, mt_87, ml_87, mt_88, ml_88, mt_89, ml_89, mt_90, ml_90, mt_91, ml_91, mt_92, ml_92, mt_93, ml_93, mt_94, ml_94, mt_95, ml_95, mt_96, ml_96, mt_97, ml_97, mt_98, ml_98, mt_99, ml_99, mt_100, ml_100, mt_101, ml_101, mt_102, ml_102, mt_103, ml_103, mt_104, ml_104, mt_105, ml_105, mt_106, ml_106, mt_107, ml_107, mt_108, ml_108, mt_109, ml_109, mt_110, ml_110, mt_111, ml_111, mt_112, ml_112, mt_113, ml_113, mt_114, ml_114, mt_115, ml_115, mt_116, ml_116, mt_117, ml_117, mt_118, ml_118, mt_119, ml_119, mt_120, ml_120, mt_121, ml_121, mt_122, ml_122, mt_123, ml_123, gP_78_2, gP_78_3, gP_78_4, gP_78_5, gP_78_6, gP_78_12, gP_78_13, gP_78_14, gP_78_15, gP_78_16, gP_78_17, gP_78_18, gP_78_19, gP_78_23, gP_78_24, gP_78_26, gP_78_27, gP_78_28, gP_78_31, gP_78_32, gP_78_34, gP_78_35, gP_78_36, gP_78_37, gP_78_40, gP_78_41, gP_78_42, gP_78_43, gP_78_52, gP_78_53, gP_78_54, gP_78_55, gP_78_56, gP_78_57, gP_78_58, gP_78_59, gP_78_60, gP_78_61, gP_78_62, gP_78_63, gP_78_65, gP_78_66, gP_78_67, gP_78_68, gP_78_69, hS, hc]
theorem bears_m (h : MW M o G w) (hF : FV S m M o) (h0 : mI M (o + 78) 25 = 0) (hp : p < w) (hc : c < 16) : fn_X9_bears M (o + 78) (nI c) (nI p) = some (lI (brG G S p c)) := by
  have := bears_m0 (cm := fun _ => false) h hF (by rw [h0]; exact (by decide +kernel : ∀ c, c < 16 → fn_X9_has 0 (nI c) = lI false) c hc) hp hc
  rw [Bool.not_false, Bool.and_true] at this
  exact this
end BE1
