/-! ===== the class's reader ===== -/
def PQ (i : Nat) : List Nat := ([[112, 111, 111, 110, 32], [105, 108, 107, 32], [116, 104, 105], [32], [99, 107, 32], [41], [99, 114, 120, 115, 98, 109], [60, 61, 62]] : List (List Nat)).getD i []
theorem PQ_len : ∀ i, i < 8 → fn_J0_length_8abf5 i = some (nI (PQ i).length) := by decide +kernel
theorem PQ_at : ∀ i, i < 8 → ∀ j, j < (PQ i).length → fn_J0_charAt_5068e i (nI j) = some (nI ((PQ i).getD j 0)) := by decide +kernel
theorem PQ_lt : ∀ i, i < 8 → (PQ i).length ≤ 6 ∧ ∀ c ∈ PQ i, c < 128 := by decide +kernel
theorem PQ_6 : ∀ c, c < 128 → fn_J0_indexOf_0f7a4 6 (nI c) = some (if fcl c = 6 then -1 else nI (fcl c)) := by decide +kernel
def rcl (c : Nat) : Nat := if 60 ≤ c ∧ c ≤ 62 then c - 60 else 3
theorem PQ_7 : ∀ c, c < 128 → fn_J0_indexOf_0f7a4 7 (nI c) = some (if rcl c = 3 then -1 else nI (rcl c)) := by decide +kernel
theorem sk8 {α : Type} {i : Nat} {f : Option α} (h : i < 8) : sk i f = f := if_pos h
theorem itr_3 {σ ρ : Type} {f : σ → Option (σ ⊕ ρ)} {s0 s1 s2 : σ} {r : ρ} (h0 : f s0 = some (.inl s1)) (h1 : f s1 = some (.inl s2)) (h2 : f s2 = some (.inr r)) : itr f FU s0 = some r :=
  (itr_go (n := 2047) h0).trans ((itr_go (n := 2046) h1).trans (itr_exit (n := 2045) h2))
/-- the class holds the text that P tells -/
def TC (M : QM) (o : Nat) (P : Nat → Nat) (L : Nat) : Prop := SHP M o ∧ PL P L ∧ mI M (o + 53) 1 = nI L ∧ ∀ i, i < L → mI M (o + 54) i = nI (P i)
def Zrd : Nat → Nat → Prop := fun a k => a = 53 ∧ (k = 2 ∨ k = 3)
def PLC (M N : QM) (o p : Nat) (b : Bool) : Prop := SQ M N o Zrd ∧ mI N (o + 53) 2 = nI p ∧ mI N (o + 53) 3 = lI b
/-- still reading at a place, or broken there -/
def SR (M N : QM) (o L : Nat) (x : Nat ⊕ Nat) : Prop := match x with | .inr p => PLC M N o p false ∧ p ≤ L | .inl q => PLC M N o q true ∧ q ≤ L
def bW (P : Nat → Nat) (w : List Nat) (x : Nat ⊕ Nat) : Nat ⊕ Nat := match x with | .inr p => pW P w p | .inl q => .inl q
def dSr {β : Type} (x : Nat ⊕ (Nat × β)) : Nat ⊕ Nat := match x with | .inl q => .inl q | .inr y => .inr y.1
def bSr {β : Type} (f : Nat → Nat ⊕ (Nat × β)) (x : Nat ⊕ Nat) : Nat ⊕ Nat := match x with | .inl q => .inl q | .inr p => dSr (f p)
section RE1
variable {M N : QM} {o L p q t m : Nat} {P : Nat → Nat} {x : Nat ⊕ Nat} {b : Bool}
theorem PLC.len (n : PLC M N o p b) (h : TC M o P L) : mI N (o + 53) 1 = nI L := (n.1.2.2.2.2 53 1 (by unfold Zrd; omega)).trans h.2.2.1
theorem PLC.at (n : PLC M N o p b) (h : TC M o P L) {i : Nat} (hi : i < L) : mI N (o + 54) i = nI (P i) := (n.1.2.2.2.2 54 i (by unfold Zrd; omega)).trans (h.2.2.2 i hi)
theorem PLC.go (n : PLC M N o p false) : PLC M (sI N (o + 53) 2 (nI q)) o q false :=
  ⟨n.1.sI (by unfold Zrd; omega), by simp only [mt_sI, mt_sJ, mt_sP, mt_rI, mt_rJ, ml_sI, ml_sJ, ml_sP, ml_rI, ml_rJ, mP_sI, mP_sJ, mP_rI, mP_rJ, SHP_sI, SHP_sJ, SHP_rI, SHP_rJ, mI_sI, mI_rI, mI_sJ, mI_rJ, mI_sP, mJ_sI, mJ_rI, mJ_sP, mJ_sJ, mJ_rJ, gI_e, pI_e, ck_e, bnd_s, nm_eq, pr2_e, cnul_0, cnul_1, drf_1, sm_1, sm_2, aI_e, aJ_e, wI_e, wJ_e, aL_e, cpI_e, cpJ_e, Nat.reduceLeDiff, Nat.reduceEqDiff, Nat.add_left_cancel_iff, ad0, ad1, false_and, and_false, true_and, and_true, reduceIte, if_true, if_false, zb0, zb1, Int32.reduceLT, Int32.reduceLE, i10, nw1, nw2, nt1, nt2, not_true_eq_false, not_false_eq_true], by
    have f0 : mI N (o + 53) 3 = 0 := n.2.2
    simp only [f0, lI_f, mt_sI, mt_sJ, mt_sP, mt_rI, mt_rJ, ml_sI, ml_sJ, ml_sP, ml_rI, ml_rJ, mP_sI, mP_sJ, mP_rI, mP_rJ, SHP_sI, SHP_sJ, SHP_rI, SHP_rJ, mI_sI, mI_rI, mI_sJ, mI_rJ, mI_sP, mJ_sI, mJ_rI, mJ_sP, mJ_sJ, mJ_rJ, gI_e, pI_e, ck_e, bnd_s, nm_eq, pr2_e, cnul_0, cnul_1, drf_1, sm_1, sm_2, aI_e, aJ_e, wI_e, wJ_e, aL_e, cpI_e, cpJ_e, Nat.reduceLeDiff, Nat.reduceEqDiff, Nat.add_left_cancel_iff, ad0, ad1, false_and, and_false, true_and, and_true, reduceIte, if_true, if_false, zb0, zb1, Int32.reduceLT, Int32.reduceLE, i10, nw1, nw2, nt1, nt2, not_true_eq_false, not_false_eq_true]⟩
theorem PLC.br (n : PLC M N o p b) : PLC M (sI N (o + 53) 3 1) o p true :=
  ⟨n.1.sI (by unfold Zrd; omega), by
    have f0 := n.2.1
    simp only [f0, mt_sI, mt_sJ, mt_sP, mt_rI, mt_rJ, ml_sI, ml_sJ, ml_sP, ml_rI, ml_rJ, mP_sI, mP_sJ, mP_rI, mP_rJ, SHP_sI, SHP_sJ, SHP_rI, SHP_rJ, mI_sI, mI_rI, mI_sJ, mI_rJ, mI_sP, mJ_sI, mJ_rI, mJ_sP, mJ_sJ, mJ_rJ, gI_e, pI_e, ck_e, bnd_s, nm_eq, pr2_e, cnul_0, cnul_1, drf_1, sm_1, sm_2, aI_e, aJ_e, wI_e, wJ_e, aL_e, cpI_e, cpJ_e, Nat.reduceLeDiff, Nat.reduceEqDiff, Nat.add_left_cancel_iff, ad0, ad1, false_and, and_false, true_and, and_true, reduceIte, if_true, if_false, zb0, zb1, Int32.reduceLT, Int32.reduceLE, i10, nw1, nw2, nt1, nt2, not_true_eq_false, not_false_eq_true], by simp only [lI_t, mt_sI, mt_sJ, mt_sP, mt_rI, mt_rJ, ml_sI, ml_sJ, ml_sP, ml_rI, ml_rJ, mP_sI, mP_sJ, mP_rI, mP_rJ, SHP_sI, SHP_sJ, SHP_rI, SHP_rJ, mI_sI, mI_rI, mI_sJ, mI_rJ, mI_sP, mJ_sI, mJ_rI, mJ_sP, mJ_sJ, mJ_rJ, gI_e, pI_e, ck_e, bnd_s, nm_eq, pr2_e, cnul_0, cnul_1, drf_1, sm_1, sm_2, aI_e, aJ_e, wI_e, wJ_e, aL_e, cpI_e, cpJ_e, Nat.reduceLeDiff, Nat.reduceEqDiff, Nat.add_left_cancel_iff, ad0, ad1, false_and, and_false, true_and, and_true, reduceIte, if_true, if_false, zb0, zb1, Int32.reduceLT, Int32.reduceLE, i10, nw1, nw2, nt1, nt2, not_true_eq_false, not_false_eq_true]⟩
theorem tk_y (h : TC M o P L) (n : PLC M N o p false) {c : Nat} (hc : c < 128) (e : P p = c) : fn_X3_takes N (o + 53) (nI c) = some (1, sI N (o + 53) 2 (nI (p + 1))) := by
  have hl : p < L := h.2.1.lt (by omega)
  have hL := h.2.1.1
  have hS := n.1.shp h.1
  have f0 : mI N (o + 53) 3 = 0 := n.2.2
  have f1 := n.len h
  have f2 := n.2.1
  have f3 : ¬ nI L ≤ nI p := by rw [nI_leI (by omega) (by omega)]; omega
  have f4 := n.at h hl
  have hl2 : p < 100 := by omega
  rw [e] at f4
  simp only [fn_X3_takes, f0, f1, f2, f3, f4, nI_1, mt_sI, mt_sJ, mt_sP, mt_rI, mt_rJ, ml_sI, ml_sJ, ml_sP, ml_rI, ml_rJ, mP_sI, mP_sJ, mP_rI, mP_rJ, SHP_sI, SHP_sJ, SHP_rI, SHP_rJ, mI_sI, mI_rI, mI_sJ, mI_rJ, mI_sP, mJ_sI, mJ_rI, mJ_sP, mJ_sJ, mJ_rJ, gI_e, pI_e, ck_e, bnd_s, nm_eq, pr2_e, cnul_0, cnul_1, drf_1, sm_1, sm_2, aI_e, aJ_e, wI_e, wJ_e, aL_e, cpI_e, cpJ_e, Nat.reduceLeDiff, Nat.reduceEqDiff, Nat.add_left_cancel_iff, ad0, ad1, false_and, and_false, true_and, and_true, reduceIte, if_true, if_false, zb0, zb1, Int32.reduceLT, Int32.reduceLE, i10, nw1, nw2, nt1, nt2, not_true_eq_false, not_false_eq_true, mt_0, mt_1, mt_2, mt_3, ml_3, mt_4, ml_4, mt_5, mt_6, ml_6, mt_7, ml_7, mt_8, ml_8, mt_9, mt_10, ml_10, mt_11, ml_11, mt_12, ml_12, mt_13, mt_14, ml_14, mt_15, ml_15, mt_16, ml_16, mt_17, mt_18, ml_18, mt_19, mt_20, ml_20, mt_21, mt_22, ml_22, mt_23, mt_24, ml_24, mt_25, mt_26, ml_26, mt_53, mt_54, ml_54, mt_55, ml_55, mt_56, mt_57, ml_57, mt_58, ml_58, mt_59, mt_60, ml_60, mt_61, mt_62, ml_62, mt_63, ml_63, mt_64, mt_65, ml_65, mt_66, mt_67, ml_67, mt_68, mt_69, ml_69, mt_70, mt_71, ml_71, mt_72, mt_73, ml_73, mt_74, mt_75, ml_75, mt_76, mt_77, ml_77, gP_0_0, gP_0_1, gP_0_4, gP_0_5, gP_0_6, gP_0_7, gP_0_8, gP_0_9, gP_1_0, gP_1_1, gP_1_4, gP_1_5, gP_1_6, gP_2_0, gP_5_1, gP_5_2, gP_5_3, gP_9_1, gP_9_2, gP_9_3, gP_13_1, gP_13_2, gP_13_3, gP_17_3, gP_19_3, gP_21_3, gP_23_3, gP_25_3, gP_53_0, gP_53_6, gP_56_0, gP_59_0, gP_61_3, gP_64_0, gP_66_2, gP_68_2, gP_70_2, gP_72_2, gP_74_2, gP_76_2, aP_4, mtw_4, mtl_4, mll_4, gPw_4, aP_58, mtw_58, mtl_58, mll_58, gPw_58, hS, hl2]
theorem tk_n (h : TC M o P L) (n : PLC M N o p false) (hp : p ≤ L) {c : Nat} (hc : c < 128) (e : ¬ P p = c) : fn_X3_takes N (o + 53) (nI c) = some (0, N) := by
  have hL := h.2.1.1
  have hS := n.1.shp h.1
  have f0 : mI N (o + 53) 3 = 0 := n.2.2
  have f1 := n.len h
  have f2 := n.2.1
  by_cases hl : p < L
  · have f3 : ¬ nI L ≤ nI p := by rw [nI_leI (by omega) (by omega)]; omega
    have f4 := n.at h hl
    have hl2 : p < 100 := by omega
    have f5 : ¬ nI (P p) = nI c := by
      have := h.2.1.2.1 p hl
      rw [nI_eq (by omega) (by omega)]; exact e
    simp only [fn_X3_takes, f0, f1, f2, f3, f4, f5, mt_sI, mt_sJ, mt_sP, mt_rI, mt_rJ, ml_sI, ml_sJ, ml_sP, ml_rI, ml_rJ, mP_sI, mP_sJ, mP_rI, mP_rJ, SHP_sI, SHP_sJ, SHP_rI, SHP_rJ, mI_sI, mI_rI, mI_sJ, mI_rJ, mI_sP, mJ_sI, mJ_rI, mJ_sP, mJ_sJ, mJ_rJ, gI_e, pI_e, ck_e, bnd_s, nm_eq, pr2_e, cnul_0, cnul_1, drf_1, sm_1, sm_2, aI_e, aJ_e, wI_e, wJ_e, aL_e, cpI_e, cpJ_e, Nat.reduceLeDiff, Nat.reduceEqDiff, Nat.add_left_cancel_iff, ad0, ad1, false_and, and_false, true_and, and_true, reduceIte, if_true, if_false, zb0, zb1, Int32.reduceLT, Int32.reduceLE, i10, nw1, nw2, nt1, nt2, not_true_eq_false, not_false_eq_true, mt_0, mt_1, mt_2, mt_3, ml_3, mt_4, ml_4, mt_5, mt_6, ml_6, mt_7, ml_7, mt_8, ml_8, mt_9, mt_10, ml_10, mt_11, ml_11, mt_12, ml_12, mt_13, mt_14, ml_14, mt_15, ml_15, mt_16, ml_16, mt_17, mt_18, ml_18, mt_19, mt_20, ml_20, mt_21, mt_22, ml_22, mt_23, mt_24, ml_24, mt_25, mt_26, ml_26, mt_53, mt_54, ml_54, mt_55, ml_55, mt_56, mt_57, ml_57, mt_58, ml_58, mt_59, mt_60, ml_60, mt_61, mt_62, ml_62, mt_63, ml_63, mt_64, mt_65, ml_65, mt_66, mt_67, ml_67, mt_68, mt_69, ml_69, mt_70, mt_71, ml_71, mt_72, mt_73, ml_73, mt_74, mt_75, ml_75, mt_76, mt_77, ml_77, gP_0_0, gP_0_1, gP_0_4, gP_0_5, gP_0_6, gP_0_7, gP_0_8, gP_0_9, gP_1_0, gP_1_1, gP_1_4, gP_1_5, gP_1_6, gP_2_0, gP_5_1, gP_5_2, gP_5_3, gP_9_1, gP_9_2, gP_9_3, gP_13_1, gP_13_2, gP_13_3, gP_17_3, gP_19_3, gP_21_3, gP_23_3, gP_25_3, gP_53_0, gP_53_6, gP_56_0, gP_59_0, gP_61_3, gP_64_0, gP_66_2, gP_68_2, gP_70_2, gP_72_2, gP_74_2, gP_76_2, aP_4, mtw_4, mtl_4, mll_4, gPw_4, aP_58, mtw_58, mtl_58, mll_58, gPw_58, hS, hl2]
  · have f3 : nI L ≤ nI p := nI_le (by omega) (by omega)
    simp only [fn_X3_takes, f0, f1, f2, f3, mt_sI, mt_sJ, mt_sP, mt_rI, mt_rJ, ml_sI, ml_sJ, ml_sP, ml_rI, ml_rJ, mP_sI, mP_sJ, mP_rI, mP_rJ, SHP_sI, SHP_sJ, SHP_rI, SHP_rJ, mI_sI, mI_rI, mI_sJ, mI_rJ, mI_sP, mJ_sI, mJ_rI, mJ_sP, mJ_sJ, mJ_rJ, gI_e, pI_e, ck_e, bnd_s, nm_eq, pr2_e, cnul_0, cnul_1, drf_1, sm_1, sm_2, aI_e, aJ_e, wI_e, wJ_e, aL_e, cpI_e, cpJ_e, Nat.reduceLeDiff, Nat.reduceEqDiff, Nat.add_left_cancel_iff, ad0, ad1, false_and, and_false, true_and, and_true, reduceIte, if_true, if_false, zb0, zb1, Int32.reduceLT, Int32.reduceLE, i10, nw1, nw2, nt1, nt2, not_true_eq_false, not_false_eq_true, mt_0, mt_1, mt_2, mt_3, ml_3, mt_4, ml_4, mt_5, mt_6, ml_6, mt_7, ml_7, mt_8, ml_8, mt_9, mt_10, ml_10, mt_11, ml_11, mt_12, ml_12, mt_13, mt_14, ml_14, mt_15, ml_15, mt_16, ml_16, mt_17, mt_18, ml_18, mt_19, mt_20, ml_20, mt_21, mt_22, ml_22, mt_23, mt_24, ml_24, mt_25, mt_26, ml_26, mt_53, mt_54, ml_54, mt_55, ml_55, mt_56, mt_57, ml_57, mt_58, ml_58, mt_59, mt_60, ml_60, mt_61, mt_62, ml_62, mt_63, ml_63, mt_64, mt_65, ml_65, mt_66, mt_67, ml_67, mt_68, mt_69, ml_69, mt_70, mt_71, ml_71, mt_72, mt_73, ml_73, mt_74, mt_75, ml_75, mt_76, mt_77, ml_77, gP_0_0, gP_0_1, gP_0_4, gP_0_5, gP_0_6, gP_0_7, gP_0_8, gP_0_9, gP_1_0, gP_1_1, gP_1_4, gP_1_5, gP_1_6, gP_2_0, gP_5_1, gP_5_2, gP_5_3, gP_9_1, gP_9_2, gP_9_3, gP_13_1, gP_13_2, gP_13_3, gP_17_3, gP_19_3, gP_21_3, gP_23_3, gP_25_3, gP_53_0, gP_53_6, gP_56_0, gP_59_0, gP_61_3, gP_64_0, gP_66_2, gP_68_2, gP_70_2, gP_72_2, gP_74_2, gP_76_2, aP_4, mtw_4, mtl_4, mll_4, gPw_4, aP_58, mtw_58, mtl_58, mll_58, gPw_58, hS]
theorem tk_b (h : TC M o P L) (n : PLC M N o p true) {c : Int32} : fn_X3_takes N (o + 53) c = some (0, N) := by
  have hS := n.1.shp h.1
  have f0 : mI N (o + 53) 3 = 1 := n.2.2
  simp only [fn_X3_takes, f0, mt_sI, mt_sJ, mt_sP, mt_rI, mt_rJ, ml_sI, ml_sJ, ml_sP, ml_rI, ml_rJ, mP_sI, mP_sJ, mP_rI, mP_rJ, SHP_sI, SHP_sJ, SHP_rI, SHP_rJ, mI_sI, mI_rI, mI_sJ, mI_rJ, mI_sP, mJ_sI, mJ_rI, mJ_sP, mJ_sJ, mJ_rJ, gI_e, pI_e, ck_e, bnd_s, nm_eq, pr2_e, cnul_0, cnul_1, drf_1, sm_1, sm_2, aI_e, aJ_e, wI_e, wJ_e, aL_e, cpI_e, cpJ_e, Nat.reduceLeDiff, Nat.reduceEqDiff, Nat.add_left_cancel_iff, ad0, ad1, false_and, and_false, true_and, and_true, reduceIte, if_true, if_false, zb0, zb1, Int32.reduceLT, Int32.reduceLE, i10, nw1, nw2, nt1, nt2, not_true_eq_false, not_false_eq_true, mt_0, mt_1, mt_2, mt_3, ml_3, mt_4, ml_4, mt_5, mt_6, ml_6, mt_7, ml_7, mt_8, ml_8, mt_9, mt_10, ml_10, mt_11, ml_11, mt_12, ml_12, mt_13, mt_14, ml_14, mt_15, ml_15, mt_16, ml_16, mt_17, mt_18, ml_18, mt_19, mt_20, ml_20, mt_21, mt_22, ml_22, mt_23, mt_24, ml_24, mt_25, mt_26, ml_26, mt_53, mt_54, ml_54, mt_55, ml_55, mt_56, mt_57, ml_57, mt_58, ml_58, mt_59, mt_60, ml_60, mt_61, mt_62, ml_62, mt_63, ml_63, mt_64, mt_65, ml_65, mt_66, mt_67, ml_67, mt_68, mt_69, ml_69, mt_70, mt_71, ml_71, mt_72, mt_73, ml_73, mt_74, mt_75, ml_75, mt_76, mt_77, ml_77, gP_0_0, gP_0_1, gP_0_4, gP_0_5, gP_0_6, gP_0_7, gP_0_8, gP_0_9, gP_1_0, gP_1_1, gP_1_4, gP_1_5, gP_1_6, gP_2_0, gP_5_1, gP_5_2, gP_5_3, gP_9_1, gP_9_2, gP_9_3, gP_13_1, gP_13_2, gP_13_3, gP_17_3, gP_19_3, gP_21_3, gP_23_3, gP_25_3, gP_53_0, gP_53_6, gP_56_0, gP_59_0, gP_61_3, gP_64_0, gP_66_2, gP_68_2, gP_70_2, gP_72_2, gP_74_2, gP_76_2, aP_4, mtw_4, mtl_4, mll_4, gPw_4, aP_58, mtw_58, mtl_58, mll_58, gPw_58, hS]
set_option maxHeartbeats 1000000 in
theorem ex_e (h : TC M o P L) {i : Nat} (hi : i < 8) (n : SR M N o L x) : ∃ N', fn_X3_expect N (o + 53) i = some N' ∧ SR M N' o L (bW P (PQ i) x) := by
  have hq := PQ_lt i hi
  have e1 := PQ_len i hi
  have loop := itr_J (f := fun s2 : Int32 × QM => lp_X3_expect_2 (o + 53) i s2.1 s2.2) (s0 := (0, N)) (fun k s => ∃ N1 y, s = (nI k, N1) ∧ k ≤ (PQ i).length ∧ SR M N1 o L y ∧ bW P ((PQ i).drop k) y = bW P (PQ i) x) (fun r => SR M r o L (bW P (PQ i) x)) 6
    ⟨N, x, rfl, Nat.zero_le _, n, by rw [List.drop_zero]⟩
    (fun k s hs => by
      obtain ⟨N1, y, rfl, hk, g, gy⟩ := hs
      show (∃ r, lp_X3_expect_2 (o + 53) i (nI k) N1 = some (.inr r) ∧ _) ∨ _ ∧ ∃ s', lp_X3_expect_2 (o + 53) i (nI k) N1 = some (.inl s') ∧ _
      by_cases e : k = (PQ i).length
      · left
        have f : nI (PQ i).length ≤ nI k := nI_le (by omega) (by omega)
        refine ⟨N1, ?_, ?_⟩
        · simp only [lp_X3_expect_2, sk8 hi, e1, f, mt_sI, mt_sJ, mt_sP, mt_rI, mt_rJ, ml_sI, ml_sJ, ml_sP, ml_rI, ml_rJ, mP_sI, mP_sJ, mP_rI, mP_rJ, SHP_sI, SHP_sJ, SHP_rI, SHP_rJ, mI_sI, mI_rI, mI_sJ, mI_rJ, mI_sP, mJ_sI, mJ_rI, mJ_sP, mJ_sJ, mJ_rJ, gI_e, pI_e, ck_e, bnd_s, nm_eq, pr2_e, cnul_0, cnul_1, drf_1, sm_1, sm_2, aI_e, aJ_e, wI_e, wJ_e, aL_e, cpI_e, cpJ_e, Nat.reduceLeDiff, Nat.reduceEqDiff, Nat.add_left_cancel_iff, ad0, ad1, false_and, and_false, true_and, and_true, reduceIte, if_true, if_false, zb0, zb1, Int32.reduceLT, Int32.reduceLE, i10, nw1, nw2, nt1, nt2, not_true_eq_false, not_false_eq_true]
        · rw [e, List.drop_length] at gy
          rw [← gy]
          cases y with
          | inl q => exact g
          | inr p => exact g
      · right
        have hk' : k < (PQ i).length := by omega
        have f : ¬ nI (PQ i).length ≤ nI k := by rw [nI_leI (by omega) (by omega)]; omega
        have e2 := PQ_at i hi k hk'
        have e3 : (PQ i)[k]? = some ((PQ i).getD k 0) := by rw [List.getD_eq_getElem?_getD, List.getElem?_eq_getElem hk']; rfl
        have hc : (PQ i).getD k 0 < 128 := hq.2 _ (List.mem_of_getElem? e3)
        rw [drop_c e3] at gy
        refine ⟨by omega, ?_⟩
        obtain ⟨c, hce⟩ : ∃ c, c = (PQ i).getD k 0 := ⟨_, rfl⟩
        rw [← hce] at e2 hc gy
        cases y with
        | inl q =>
          have hS := g.1.1.shp h.1
          have t := tk_b h g.1 (c := nI c)
          refine ⟨(nI (k + 1), sI N1 (o + 53) 3 1), ?_, _, .inl q, rfl, by omega, ⟨g.1.br, g.2⟩, gy⟩
          simp only [lp_X3_expect_2, sk8 hi, e1, f, e2, t, nI_1, mt_sI, mt_sJ, mt_sP, mt_rI, mt_rJ, ml_sI, ml_sJ, ml_sP, ml_rI, ml_rJ, mP_sI, mP_sJ, mP_rI, mP_rJ, SHP_sI, SHP_sJ, SHP_rI, SHP_rJ, mI_sI, mI_rI, mI_sJ, mI_rJ, mI_sP, mJ_sI, mJ_rI, mJ_sP, mJ_sJ, mJ_rJ, gI_e, pI_e, ck_e, bnd_s, nm_eq, pr2_e, cnul_0, cnul_1, drf_1, sm_1, sm_2, aI_e, aJ_e, wI_e, wJ_e, aL_e, cpI_e, cpJ_e, Nat.reduceLeDiff, Nat.reduceEqDiff, Nat.add_left_cancel_iff, ad0, ad1, false_and, and_false, true_and, and_true, reduceIte, if_true, if_false, zb0, zb1, Int32.reduceLT, Int32.reduceLE, i10, nw1, nw2, nt1, nt2, not_true_eq_false, not_false_eq_true, mt_0, mt_1, mt_2, mt_3, ml_3, mt_4, ml_4, mt_5, mt_6, ml_6, mt_7, ml_7, mt_8, ml_8, mt_9, mt_10, ml_10, mt_11, ml_11, mt_12, ml_12, mt_13, mt_14, ml_14, mt_15, ml_15, mt_16, ml_16, mt_17, mt_18, ml_18, mt_19, mt_20, ml_20, mt_21, mt_22, ml_22, mt_23, mt_24, ml_24, mt_25, mt_26, ml_26, mt_53, mt_54, ml_54, mt_55, ml_55, mt_56, mt_57, ml_57, mt_58, ml_58, mt_59, mt_60, ml_60, mt_61, mt_62, ml_62, mt_63, ml_63, mt_64, mt_65, ml_65, mt_66, mt_67, ml_67, mt_68, mt_69, ml_69, mt_70, mt_71, ml_71, mt_72, mt_73, ml_73, mt_74, mt_75, ml_75, mt_76, mt_77, ml_77, gP_0_0, gP_0_1, gP_0_4, gP_0_5, gP_0_6, gP_0_7, gP_0_8, gP_0_9, gP_1_0, gP_1_1, gP_1_4, gP_1_5, gP_1_6, gP_2_0, gP_5_1, gP_5_2, gP_5_3, gP_9_1, gP_9_2, gP_9_3, gP_13_1, gP_13_2, gP_13_3, gP_17_3, gP_19_3, gP_21_3, gP_23_3, gP_25_3, gP_53_0, gP_53_6, gP_56_0, gP_59_0, gP_61_3, gP_64_0, gP_66_2, gP_68_2, gP_70_2, gP_72_2, gP_74_2, gP_76_2, aP_4, mtw_4, mtl_4, mll_4, gPw_4, aP_58, mtw_58, mtl_58, mll_58, gPw_58, hS]
        | inr p =>
          have hS := g.1.1.shp h.1
          by_cases z : P p = c
          · have t := tk_y h g.1 hc z
            have hl : p < L := h.2.1.lt (by omega)
            refine ⟨(nI (k + 1), sI N1 (o + 53) 2 (nI (p + 1))), ?_, _, .inr (p + 1), rfl, by omega, ⟨g.1.go, hl⟩, ?_⟩
            · simp only [lp_X3_expect_2, sk8 hi, e1, f, e2, t, nI_1, mt_sI, mt_sJ, mt_sP, mt_rI, mt_rJ, ml_sI, ml_sJ, ml_sP, ml_rI, ml_rJ, mP_sI, mP_sJ, mP_rI, mP_rJ, SHP_sI, SHP_sJ, SHP_rI, SHP_rJ, mI_sI, mI_rI, mI_sJ, mI_rJ, mI_sP, mJ_sI, mJ_rI, mJ_sP, mJ_sJ, mJ_rJ, gI_e, pI_e, ck_e, bnd_s, nm_eq, pr2_e, cnul_0, cnul_1, drf_1, sm_1, sm_2, aI_e, aJ_e, wI_e, wJ_e, aL_e, cpI_e, cpJ_e, Nat.reduceLeDiff, Nat.reduceEqDiff, Nat.add_left_cancel_iff, ad0, ad1, false_and, and_false, true_and, and_true, reduceIte, if_true, if_false, zb0, zb1, Int32.reduceLT, Int32.reduceLE, i10, nw1, nw2, nt1, nt2, not_true_eq_false, not_false_eq_true, mt_0, mt_1, mt_2, mt_3, ml_3, mt_4, ml_4, mt_5, mt_6, ml_6, mt_7, ml_7, mt_8, ml_8, mt_9, mt_10, ml_10, mt_11, ml_11, mt_12, ml_12, mt_13, mt_14, ml_14, mt_15, ml_15, mt_16, ml_16, mt_17, mt_18, ml_18, mt_19, mt_20, ml_20, mt_21, mt_22, ml_22, mt_23, mt_24, ml_24, mt_25, mt_26, ml_26, mt_53, mt_54, ml_54, mt_55, ml_55, mt_56, mt_57, ml_57, mt_58, ml_58, mt_59, mt_60, ml_60, mt_61, mt_62, ml_62, mt_63, ml_63, mt_64, mt_65, ml_65, mt_66, mt_67, ml_67, mt_68, mt_69, ml_69, mt_70, mt_71, ml_71, mt_72, mt_73, ml_73, mt_74, mt_75, ml_75, mt_76, mt_77, ml_77, gP_0_0, gP_0_1, gP_0_4, gP_0_5, gP_0_6, gP_0_7, gP_0_8, gP_0_9, gP_1_0, gP_1_1, gP_1_4, gP_1_5, gP_1_6, gP_2_0, gP_5_1, gP_5_2, gP_5_3, gP_9_1, gP_9_2, gP_9_3, gP_13_1, gP_13_2, gP_13_3, gP_17_3, gP_19_3, gP_21_3, gP_23_3, gP_25_3, gP_53_0, gP_53_6, gP_56_0, gP_59_0, gP_61_3, gP_64_0, gP_66_2, gP_68_2, gP_70_2, gP_72_2, gP_74_2, gP_76_2, aP_4, mtw_4, mtl_4, mll_4, gPw_4, aP_58, mtw_58, mtl_58, mll_58, gPw_58, hS]
            · rw [← gy]
              show pW P _ (p + 1) = if P p = c then pW P _ (p + 1) else .inl p
              rw [if_pos z]
          · have t := tk_n h g.1 g.2 hc z
            refine ⟨(nI (k + 1), sI N1 (o + 53) 3 1), ?_, _, .inl p, rfl, by omega, ⟨g.1.br, g.2⟩, ?_⟩
            · simp only [lp_X3_expect_2, sk8 hi, e1, f, e2, t, nI_1, mt_sI, mt_sJ, mt_sP, mt_rI, mt_rJ, ml_sI, ml_sJ, ml_sP, ml_rI, ml_rJ, mP_sI, mP_sJ, mP_rI, mP_rJ, SHP_sI, SHP_sJ, SHP_rI, SHP_rJ, mI_sI, mI_rI, mI_sJ, mI_rJ, mI_sP, mJ_sI, mJ_rI, mJ_sP, mJ_sJ, mJ_rJ, gI_e, pI_e, ck_e, bnd_s, nm_eq, pr2_e, cnul_0, cnul_1, drf_1, sm_1, sm_2, aI_e, aJ_e, wI_e, wJ_e, aL_e, cpI_e, cpJ_e, Nat.reduceLeDiff, Nat.reduceEqDiff, Nat.add_left_cancel_iff, ad0, ad1, false_and, and_false, true_and, and_true, reduceIte, if_true, if_false, zb0, zb1, Int32.reduceLT, Int32.reduceLE, i10, nw1, nw2, nt1, nt2, not_true_eq_false, not_false_eq_true, mt_0, mt_1, mt_2, mt_3, ml_3, mt_4, ml_4, mt_5, mt_6, ml_6, mt_7, ml_7, mt_8, ml_8, mt_9, mt_10, ml_10, mt_11, ml_11, mt_12, ml_12, mt_13, mt_14, ml_14, mt_15, ml_15, mt_16, ml_16, mt_17, mt_18, ml_18, mt_19, mt_20, ml_20, mt_21, mt_22, ml_22, mt_23, mt_24, ml_24, mt_25, mt_26, ml_26, mt_53, mt_54, ml_54, mt_55, ml_55, mt_56, mt_57, ml_57, mt_58, ml_58, mt_59, mt_60, ml_60, mt_61, mt_62, ml_62, mt_63, ml_63, mt_64, mt_65, ml_65, mt_66, mt_67, ml_67, mt_68, mt_69, ml_69, mt_70, mt_71, ml_71, mt_72, mt_73, ml_73, mt_74, mt_75, ml_75, mt_76, mt_77, ml_77, gP_0_0, gP_0_1, gP_0_4, gP_0_5, gP_0_6, gP_0_7, gP_0_8, gP_0_9, gP_1_0, gP_1_1, gP_1_4, gP_1_5, gP_1_6, gP_2_0, gP_5_1, gP_5_2, gP_5_3, gP_9_1, gP_9_2, gP_9_3, gP_13_1, gP_13_2, gP_13_3, gP_17_3, gP_19_3, gP_21_3, gP_23_3, gP_25_3, gP_53_0, gP_53_6, gP_56_0, gP_59_0, gP_61_3, gP_64_0, gP_66_2, gP_68_2, gP_70_2, gP_72_2, gP_74_2, gP_76_2, aP_4, mtw_4, mtl_4, mll_4, gPw_4, aP_58, mtw_58, mtl_58, mll_58, gPw_58, hS]
            · rw [← gy]
              show Sum.inl p = if P p = c then pW P _ (p + 1) else .inl p
              rw [if_neg z])
    (by decide)
  obtain ⟨N', h1, h2⟩ := loop
  refine ⟨N', ?_, h2⟩
  unfold fn_X3_expect
  rw [h1]
  rfl
/-! a number -/
theorem nb_y (h : TC M o P L) (n : PLC M N o p false) (c : 48 ≤ P p ∧ P p ≤ 57) {a d i : Nat} (ha : a ≤ 9) (hi : i < 2) : lp_X3_number_6 (o + 53) (nI a) (nI d) (nI i) N = some (.inl (nI (10 * a + (P p - 48)), nI (d + 1), nI (i + 1), sI N (o + 53) 2 (nI (p + 1)))) := by
  have hl : p < L := h.2.1.lt (by omega)
  have hL := h.2.1.1
  have hS := n.1.shp h.1
  have f0 : mI N (o + 53) 3 = 0 := n.2.2
  have f1 := n.len h
  have f2 := n.2.1
  have f3 : ¬ nI L ≤ nI p := by rw [nI_leI (by omega) (by omega)]; omega
  have f4 := n.at h hl
  have hl2 : p < 100 := by omega
  have f5 : ¬ (2 : Int32) ≤ nI i := by
    have : ¬ nI 2 ≤ nI i := by rw [nI_leI (by omega) (by omega)]; omega
    exact this
  have f6 : ¬ nI (P p) < 48 := by
    have : ¬ nI (P p) < nI 48 := by rw [nI_ltI (by omega) (by omega)]; omega
    exact this
  have f7 : ¬ (57 : Int32) < nI (P p) := by
    have : ¬ nI 57 < nI (P p) := by rw [nI_ltI (by omega) (by omega)]; omega
    exact this
  have f8 : (10 : Int32) * nI a + nI (P p) - 48 = nI (10 * a + (P p - 48)) := by
    have e1 : (10 : Int32) * nI a = nI (10 * a) := nI_mul 10 a
    have e2 : nI (10 * a + P p) - nI 48 = nI (10 * a + P p - 48) := nI_sub (by omega)
    rw [e1, nI_add]
    exact e2.trans (congrArg nI (by omega))
  simp only [lp_X3_number_6, f0, f1, f2, f3, f4, f5, f6, f7, f8, nI_1, mt_sI, mt_sJ, mt_sP, mt_rI, mt_rJ, ml_sI, ml_sJ, ml_sP, ml_rI, ml_rJ, mP_sI, mP_sJ, mP_rI, mP_rJ, SHP_sI, SHP_sJ, SHP_rI, SHP_rJ, mI_sI, mI_rI, mI_sJ, mI_rJ, mI_sP, mJ_sI, mJ_rI, mJ_sP, mJ_sJ, mJ_rJ, gI_e, pI_e, ck_e, bnd_s, nm_eq, pr2_e, cnul_0, cnul_1, drf_1, sm_1, sm_2, aI_e, aJ_e, wI_e, wJ_e, aL_e, cpI_e, cpJ_e, Nat.reduceLeDiff, Nat.reduceEqDiff, Nat.add_left_cancel_iff, ad0, ad1, false_and, and_false, true_and, and_true, reduceIte, if_true, if_false, zb0, zb1, Int32.reduceLT, Int32.reduceLE, i10, nw1, nw2, nt1, nt2, not_true_eq_false, not_false_eq_true, mt_0, mt_1, mt_2, mt_3, ml_3, mt_4, ml_4, mt_5, mt_6, ml_6, mt_7, ml_7, mt_8, ml_8, mt_9, mt_10, ml_10, mt_11, ml_11, mt_12, ml_12, mt_13, mt_14, ml_14, mt_15, ml_15, mt_16, ml_16, mt_17, mt_18, ml_18, mt_19, mt_20, ml_20, mt_21, mt_22, ml_22, mt_23, mt_24, ml_24, mt_25, mt_26, ml_26, mt_53, mt_54, ml_54, mt_55, ml_55, mt_56, mt_57, ml_57, mt_58, ml_58, mt_59, mt_60, ml_60, mt_61, mt_62, ml_62, mt_63, ml_63, mt_64, mt_65, ml_65, mt_66, mt_67, ml_67, mt_68, mt_69, ml_69, mt_70, mt_71, ml_71, mt_72, mt_73, ml_73, mt_74, mt_75, ml_75, mt_76, mt_77, ml_77, gP_0_0, gP_0_1, gP_0_4, gP_0_5, gP_0_6, gP_0_7, gP_0_8, gP_0_9, gP_1_0, gP_1_1, gP_1_4, gP_1_5, gP_1_6, gP_2_0, gP_5_1, gP_5_2, gP_5_3, gP_9_1, gP_9_2, gP_9_3, gP_13_1, gP_13_2, gP_13_3, gP_17_3, gP_19_3, gP_21_3, gP_23_3, gP_25_3, gP_53_0, gP_53_6, gP_56_0, gP_59_0, gP_61_3, gP_64_0, gP_66_2, gP_68_2, gP_70_2, gP_72_2, gP_74_2, gP_76_2, aP_4, mtw_4, mtl_4, mll_4, gPw_4, aP_58, mtw_58, mtl_58, mll_58, gPw_58, hS, hl2]
theorem nb_n (h : TC M o P L) (n : PLC M N o p false) (hp : p ≤ L) (c : ¬ (48 ≤ P p ∧ P p ≤ 57)) {u v : Int32} {i : Nat} (hi : i < 2) : lp_X3_number_6 (o + 53) u v (nI i) N = some (.inl (u, v, nI (i + 1), N)) := by
  have hL := h.2.1.1
  have hS := n.1.shp h.1
  have f0 : mI N (o + 53) 3 = 0 := n.2.2
  have f1 := n.len h
  have f2 := n.2.1
  have f5 : ¬ (2 : Int32) ≤ nI i := by
    have : ¬ nI 2 ≤ nI i := by rw [nI_leI (by omega) (by omega)]; omega
    exact this
  by_cases hl : p < L
  · have f3 : ¬ nI L ≤ nI p := by rw [nI_leI (by omega) (by omega)]; omega
    have f4 := n.at h hl
    have hc := h.2.1.2.1 p hl
    have hl2 : p < 100 := by omega
    by_cases c1 : P p < 48
    · have f6 : nI (P p) < 48 := nI_lt (b := 48) c1 (by omega)
      simp only [lp_X3_number_6, f0, f1, f2, f3, f4, f5, f6, nI_1, mt_sI, mt_sJ, mt_sP, mt_rI, mt_rJ, ml_sI, ml_sJ, ml_sP, ml_rI, ml_rJ, mP_sI, mP_sJ, mP_rI, mP_rJ, SHP_sI, SHP_sJ, SHP_rI, SHP_rJ, mI_sI, mI_rI, mI_sJ, mI_rJ, mI_sP, mJ_sI, mJ_rI, mJ_sP, mJ_sJ, mJ_rJ, gI_e, pI_e, ck_e, bnd_s, nm_eq, pr2_e, cnul_0, cnul_1, drf_1, sm_1, sm_2, aI_e, aJ_e, wI_e, wJ_e, aL_e, cpI_e, cpJ_e, Nat.reduceLeDiff, Nat.reduceEqDiff, Nat.add_left_cancel_iff, ad0, ad1, false_and, and_false, true_and, and_true, reduceIte, if_true, if_false, zb0, zb1, Int32.reduceLT, Int32.reduceLE, i10, nw1, nw2, nt1, nt2, not_true_eq_false, not_false_eq_true, mt_0, mt_1, mt_2, mt_3, ml_3, mt_4, ml_4, mt_5, mt_6, ml_6, mt_7, ml_7, mt_8, ml_8, mt_9, mt_10, ml_10, mt_11, ml_11, mt_12, ml_12, mt_13, mt_14, ml_14, mt_15, ml_15, mt_16, ml_16, mt_17, mt_18, ml_18, mt_19, mt_20, ml_20, mt_21, mt_22, ml_22, mt_23, mt_24, ml_24, mt_25, mt_26, ml_26, mt_53, mt_54, ml_54, mt_55, ml_55, mt_56, mt_57, ml_57, mt_58, ml_58, mt_59, mt_60, ml_60, mt_61, mt_62, ml_62, mt_63, ml_63, mt_64, mt_65, ml_65, mt_66, mt_67, ml_67, mt_68, mt_69, ml_69, mt_70, mt_71, ml_71, mt_72, mt_73, ml_73, mt_74, mt_75, ml_75, mt_76, mt_77, ml_77, gP_0_0, gP_0_1, gP_0_4, gP_0_5, gP_0_6, gP_0_7, gP_0_8, gP_0_9, gP_1_0, gP_1_1, gP_1_4, gP_1_5, gP_1_6, gP_2_0, gP_5_1, gP_5_2, gP_5_3, gP_9_1, gP_9_2, gP_9_3, gP_13_1, gP_13_2, gP_13_3, gP_17_3, gP_19_3, gP_21_3, gP_23_3, gP_25_3, gP_53_0, gP_53_6, gP_56_0, gP_59_0, gP_61_3, gP_64_0, gP_66_2, gP_68_2, gP_70_2, gP_72_2, gP_74_2, gP_76_2, aP_4, mtw_4, mtl_4, mll_4, gPw_4, aP_58, mtw_58, mtl_58, mll_58, gPw_58, hS, hl2]
    · have f6 : ¬ nI (P p) < 48 := by
        have : ¬ nI (P p) < nI 48 := by rw [nI_ltI (by omega) (by omega)]; omega
        exact this
      have f7 : (57 : Int32) < nI (P p) := nI_lt (a := 57) (by omega) (by omega)
      simp only [lp_X3_number_6, f0, f1, f2, f3, f4, f5, f6, f7, nI_1, mt_sI, mt_sJ, mt_sP, mt_rI, mt_rJ, ml_sI, ml_sJ, ml_sP, ml_rI, ml_rJ, mP_sI, mP_sJ, mP_rI, mP_rJ, SHP_sI, SHP_sJ, SHP_rI, SHP_rJ, mI_sI, mI_rI, mI_sJ, mI_rJ, mI_sP, mJ_sI, mJ_rI, mJ_sP, mJ_sJ, mJ_rJ, gI_e, pI_e, ck_e, bnd_s, nm_eq, pr2_e, cnul_0, cnul_1, drf_1, sm_1, sm_2, aI_e, aJ_e, wI_e, wJ_e, aL_e, cpI_e, cpJ_e, Nat.reduceLeDiff, Nat.reduceEqDiff, Nat.add_left_cancel_iff, ad0, ad1, false_and, and_false, true_and, and_true, reduceIte, if_true, if_false, zb0, zb1, Int32.reduceLT, Int32.reduceLE, i10, nw1, nw2, nt1, nt2, not_true_eq_false, not_false_eq_true, mt_0, mt_1, mt_2, mt_3, ml_3, mt_4, ml_4, mt_5, mt_6, ml_6, mt_7, ml_7, mt_8, ml_8, mt_9, mt_10, ml_10, mt_11, ml_11, mt_12, ml_12, mt_13, mt_14, ml_14, mt_15, ml_15, mt_16, ml_16, mt_17, mt_18, ml_18, mt_19, mt_20, ml_20, mt_21, mt_22, ml_22, mt_23, mt_24, ml_24, mt_25, mt_26, ml_26, mt_53, mt_54, ml_54, mt_55, ml_55, mt_56, mt_57, ml_57, mt_58, ml_58, mt_59, mt_60, ml_60, mt_61, mt_62, ml_62, mt_63, ml_63, mt_64, mt_65, ml_65, mt_66, mt_67, ml_67, mt_68, mt_69, ml_69, mt_70, mt_71, ml_71, mt_72, mt_73, ml_73, mt_74, mt_75, ml_75, mt_76, mt_77, ml_77, gP_0_0, gP_0_1, gP_0_4, gP_0_5, gP_0_6, gP_0_7, gP_0_8, gP_0_9, gP_1_0, gP_1_1, gP_1_4, gP_1_5, gP_1_6, gP_2_0, gP_5_1, gP_5_2, gP_5_3, gP_9_1, gP_9_2, gP_9_3, gP_13_1, gP_13_2, gP_13_3, gP_17_3, gP_19_3, gP_21_3, gP_23_3, gP_25_3, gP_53_0, gP_53_6, gP_56_0, gP_59_0, gP_61_3, gP_64_0, gP_66_2, gP_68_2, gP_70_2, gP_72_2, gP_74_2, gP_76_2, aP_4, mtw_4, mtl_4, mll_4, gPw_4, aP_58, mtw_58, mtl_58, mll_58, gPw_58, hS, hl2]
  · have f3 : nI L ≤ nI p := nI_le (by omega) (by omega)
    simp only [lp_X3_number_6, f0, f1, f2, f3, f5, nI_1, mt_sI, mt_sJ, mt_sP, mt_rI, mt_rJ, ml_sI, ml_sJ, ml_sP, ml_rI, ml_rJ, mP_sI, mP_sJ, mP_rI, mP_rJ, SHP_sI, SHP_sJ, SHP_rI, SHP_rJ, mI_sI, mI_rI, mI_sJ, mI_rJ, mI_sP, mJ_sI, mJ_rI, mJ_sP, mJ_sJ, mJ_rJ, gI_e, pI_e, ck_e, bnd_s, nm_eq, pr2_e, cnul_0, cnul_1, drf_1, sm_1, sm_2, aI_e, aJ_e, wI_e, wJ_e, aL_e, cpI_e, cpJ_e, Nat.reduceLeDiff, Nat.reduceEqDiff, Nat.add_left_cancel_iff, ad0, ad1, false_and, and_false, true_and, and_true, reduceIte, if_true, if_false, zb0, zb1, Int32.reduceLT, Int32.reduceLE, i10, nw1, nw2, nt1, nt2, not_true_eq_false, not_false_eq_true, mt_0, mt_1, mt_2, mt_3, ml_3, mt_4, ml_4, mt_5, mt_6, ml_6, mt_7, ml_7, mt_8, ml_8, mt_9, mt_10, ml_10, mt_11, ml_11, mt_12, ml_12, mt_13, mt_14, ml_14, mt_15, ml_15, mt_16, ml_16, mt_17, mt_18, ml_18, mt_19, mt_20, ml_20, mt_21, mt_22, ml_22, mt_23, mt_24, ml_24, mt_25, mt_26, ml_26, mt_53, mt_54, ml_54, mt_55, ml_55, mt_56, mt_57, ml_57, mt_58, ml_58, mt_59, mt_60, ml_60, mt_61, mt_62, ml_62, mt_63, ml_63, mt_64, mt_65, ml_65, mt_66, mt_67, ml_67, mt_68, mt_69, ml_69, mt_70, mt_71, ml_71, mt_72, mt_73, ml_73, mt_74, mt_75, ml_75, mt_76, mt_77, ml_77, gP_0_0, gP_0_1, gP_0_4, gP_0_5, gP_0_6, gP_0_7, gP_0_8, gP_0_9, gP_1_0, gP_1_1, gP_1_4, gP_1_5, gP_1_6, gP_2_0, gP_5_1, gP_5_2, gP_5_3, gP_9_1, gP_9_2, gP_9_3, gP_13_1, gP_13_2, gP_13_3, gP_17_3, gP_19_3, gP_21_3, gP_23_3, gP_25_3, gP_53_0, gP_53_6, gP_56_0, gP_59_0, gP_61_3, gP_64_0, gP_66_2, gP_68_2, gP_70_2, gP_72_2, gP_74_2, gP_76_2, aP_4, mtw_4, mtl_4, mll_4, gPw_4, aP_58, mtw_58, mtl_58, mll_58, gPw_58, hS]
theorem nb_b (h : TC M o P L) (n : PLC M N o p true) {u v : Int32} {i : Nat} (hi : i < 2) : lp_X3_number_6 (o + 53) u v (nI i) N = some (.inl (u, v, nI (i + 1), N)) := by
  have hS := n.1.shp h.1
  have f0 : mI N (o + 53) 3 = 1 := n.2.2
  have f5 : ¬ (2 : Int32) ≤ nI i := by
    have : ¬ nI 2 ≤ nI i := by rw [nI_leI (by omega) (by omega)]; omega
    exact this
  simp only [lp_X3_number_6, f0, f5, nI_1, mt_sI, mt_sJ, mt_sP, mt_rI, mt_rJ, ml_sI, ml_sJ, ml_sP, ml_rI, ml_rJ, mP_sI, mP_sJ, mP_rI, mP_rJ, SHP_sI, SHP_sJ, SHP_rI, SHP_rJ, mI_sI, mI_rI, mI_sJ, mI_rJ, mI_sP, mJ_sI, mJ_rI, mJ_sP, mJ_sJ, mJ_rJ, gI_e, pI_e, ck_e, bnd_s, nm_eq, pr2_e, cnul_0, cnul_1, drf_1, sm_1, sm_2, aI_e, aJ_e, wI_e, wJ_e, aL_e, cpI_e, cpJ_e, Nat.reduceLeDiff, Nat.reduceEqDiff, Nat.add_left_cancel_iff, ad0, ad1, false_and, and_false, true_and, and_true, reduceIte, if_true, if_false, zb0, zb1, Int32.reduceLT, Int32.reduceLE, i10, nw1, nw2, nt1, nt2, not_true_eq_false, not_false_eq_true, mt_0, mt_1, mt_2, mt_3, ml_3, mt_4, ml_4, mt_5, mt_6, ml_6, mt_7, ml_7, mt_8, ml_8, mt_9, mt_10, ml_10, mt_11, ml_11, mt_12, ml_12, mt_13, mt_14, ml_14, mt_15, ml_15, mt_16, ml_16, mt_17, mt_18, ml_18, mt_19, mt_20, ml_20, mt_21, mt_22, ml_22, mt_23, mt_24, ml_24, mt_25, mt_26, ml_26, mt_53, mt_54, ml_54, mt_55, ml_55, mt_56, mt_57, ml_57, mt_58, ml_58, mt_59, mt_60, ml_60, mt_61, mt_62, ml_62, mt_63, ml_63, mt_64, mt_65, ml_65, mt_66, mt_67, ml_67, mt_68, mt_69, ml_69, mt_70, mt_71, ml_71, mt_72, mt_73, ml_73, mt_74, mt_75, ml_75, mt_76, mt_77, ml_77, gP_0_0, gP_0_1, gP_0_4, gP_0_5, gP_0_6, gP_0_7, gP_0_8, gP_0_9, gP_1_0, gP_1_1, gP_1_4, gP_1_5, gP_1_6, gP_2_0, gP_5_1, gP_5_2, gP_5_3, gP_9_1, gP_9_2, gP_9_3, gP_13_1, gP_13_2, gP_13_3, gP_17_3, gP_19_3, gP_21_3, gP_23_3, gP_25_3, gP_53_0, gP_53_6, gP_56_0, gP_59_0, gP_61_3, gP_64_0, gP_66_2, gP_68_2, gP_70_2, gP_72_2, gP_74_2, gP_76_2, aP_4, mtw_4, mtl_4, mll_4, gPw_4, aP_58, mtw_58, mtl_58, mll_58, gPw_58, hS]
theorem nb_x {u v : Int32} : lp_X3_number_6 (o + 53) u v (nI 2) N = some (.inr (u, v, N)) := by
  have f5 : (2 : Int32) ≤ nI 2 := by decide
  simp only [lp_X3_number_6, f5, mt_sI, mt_sJ, mt_sP, mt_rI, mt_rJ, ml_sI, ml_sJ, ml_sP, ml_rI, ml_rJ, mP_sI, mP_sJ, mP_rI, mP_rJ, SHP_sI, SHP_sJ, SHP_rI, SHP_rJ, mI_sI, mI_rI, mI_sJ, mI_rJ, mI_sP, mJ_sI, mJ_rI, mJ_sP, mJ_sJ, mJ_rJ, gI_e, pI_e, ck_e, bnd_s, nm_eq, pr2_e, cnul_0, cnul_1, drf_1, sm_1, sm_2, aI_e, aJ_e, wI_e, wJ_e, aL_e, cpI_e, cpJ_e, Nat.reduceLeDiff, Nat.reduceEqDiff, Nat.add_left_cancel_iff, ad0, ad1, false_and, and_false, true_and, and_true, reduceIte, if_true, if_false, zb0, zb1, Int32.reduceLT, Int32.reduceLE, i10, nw1, nw2, nt1, nt2, not_true_eq_false, not_false_eq_true]
theorem nu_b (h : TC M o P L) (n : PLC M N o p true) : fn_X3_number N (o + 53) = some (0, sI N (o + 53) 3 1) := by
  have hS := n.1.shp h.1
  have l := itr_3 (f := fun s6 : Int32 × Int32 × Int32 × QM => lp_X3_number_6 (o + 53) s6.1 s6.2.1 s6.2.2.1 s6.2.2.2) (s0 := (nI 0, nI 0, nI 0, N)) (nb_b h n (by decide)) (nb_b h n (by decide)) nb_x
  unfold fn_X3_number
  have l := (congrArg (fun z => bnd z fun r6 => pr3 r6 fun e1_6 e2_6 Me_6 => if e2_6 = 0 then pI Me_6 (o + 53) 3 3 1 fun M100 => some (e1_6, M100) else some (e1_6, Me_6)) l)
  refine l.trans ?_
  simp only [pr3, nI_0, mt_sI, mt_sJ, mt_sP, mt_rI, mt_rJ, ml_sI, ml_sJ, ml_sP, ml_rI, ml_rJ, mP_sI, mP_sJ, mP_rI, mP_rJ, SHP_sI, SHP_sJ, SHP_rI, SHP_rJ, mI_sI, mI_rI, mI_sJ, mI_rJ, mI_sP, mJ_sI, mJ_rI, mJ_sP, mJ_sJ, mJ_rJ, gI_e, pI_e, ck_e, bnd_s, nm_eq, pr2_e, cnul_0, cnul_1, drf_1, sm_1, sm_2, aI_e, aJ_e, wI_e, wJ_e, aL_e, cpI_e, cpJ_e, Nat.reduceLeDiff, Nat.reduceEqDiff, Nat.add_left_cancel_iff, ad0, ad1, false_and, and_false, true_and, and_true, reduceIte, if_true, if_false, zb0, zb1, Int32.reduceLT, Int32.reduceLE, i10, nw1, nw2, nt1, nt2, not_true_eq_false, not_false_eq_true, mt_0, mt_1, mt_2, mt_3, ml_3, mt_4, ml_4, mt_5, mt_6, ml_6, mt_7, ml_7, mt_8, ml_8, mt_9, mt_10, ml_10, mt_11, ml_11, mt_12, ml_12, mt_13, mt_14, ml_14, mt_15, ml_15, mt_16, ml_16, mt_17, mt_18, ml_18, mt_19, mt_20, ml_20, mt_21, mt_22, ml_22, mt_23, mt_24, ml_24, mt_25, mt_26, ml_26, mt_53, mt_54, ml_54, mt_55, ml_55, mt_56, mt_57, ml_57, mt_58, ml_58, mt_59, mt_60, ml_60, mt_61, mt_62, ml_62, mt_63, ml_63, mt_64, mt_65, ml_65, mt_66, mt_67, ml_67, mt_68, mt_69, ml_69, mt_70, mt_71, ml_71, mt_72, mt_73, ml_73, mt_74, mt_75, ml_75, mt_76, mt_77, ml_77, gP_0_0, gP_0_1, gP_0_4, gP_0_5, gP_0_6, gP_0_7, gP_0_8, gP_0_9, gP_1_0, gP_1_1, gP_1_4, gP_1_5, gP_1_6, gP_2_0, gP_5_1, gP_5_2, gP_5_3, gP_9_1, gP_9_2, gP_9_3, gP_13_1, gP_13_2, gP_13_3, gP_17_3, gP_19_3, gP_21_3, gP_23_3, gP_25_3, gP_53_0, gP_53_6, gP_56_0, gP_59_0, gP_61_3, gP_64_0, gP_66_2, gP_68_2, gP_70_2, gP_72_2, gP_74_2, gP_76_2, aP_4, mtw_4, mtl_4, mll_4, gPw_4, aP_58, mtw_58, mtl_58, mll_58, gPw_58, hS]
theorem nu_n (h : TC M o P L) (n : PLC M N o p false) (hp : p ≤ L) (c : ¬ (48 ≤ P p ∧ P p ≤ 57)) : fn_X3_number N (o + 53) = some (0, sI N (o + 53) 3 1) := by
  have hS := n.1.shp h.1
  have l := itr_3 (f := fun s6 : Int32 × Int32 × Int32 × QM => lp_X3_number_6 (o + 53) s6.1 s6.2.1 s6.2.2.1 s6.2.2.2) (s0 := (nI 0, nI 0, nI 0, N)) (nb_n h n hp c (by decide)) (nb_n h n hp c (by decide)) nb_x
  unfold fn_X3_number
  have l := (congrArg (fun z => bnd z fun r6 => pr3 r6 fun e1_6 e2_6 Me_6 => if e2_6 = 0 then pI Me_6 (o + 53) 3 3 1 fun M100 => some (e1_6, M100) else some (e1_6, Me_6)) l)
  refine l.trans ?_
  simp only [pr3, nI_0, mt_sI, mt_sJ, mt_sP, mt_rI, mt_rJ, ml_sI, ml_sJ, ml_sP, ml_rI, ml_rJ, mP_sI, mP_sJ, mP_rI, mP_rJ, SHP_sI, SHP_sJ, SHP_rI, SHP_rJ, mI_sI, mI_rI, mI_sJ, mI_rJ, mI_sP, mJ_sI, mJ_rI, mJ_sP, mJ_sJ, mJ_rJ, gI_e, pI_e, ck_e, bnd_s, nm_eq, pr2_e, cnul_0, cnul_1, drf_1, sm_1, sm_2, aI_e, aJ_e, wI_e, wJ_e, aL_e, cpI_e, cpJ_e, Nat.reduceLeDiff, Nat.reduceEqDiff, Nat.add_left_cancel_iff, ad0, ad1, false_and, and_false, true_and, and_true, reduceIte, if_true, if_false, zb0, zb1, Int32.reduceLT, Int32.reduceLE, i10, nw1, nw2, nt1, nt2, not_true_eq_false, not_false_eq_true, mt_0, mt_1, mt_2, mt_3, ml_3, mt_4, ml_4, mt_5, mt_6, ml_6, mt_7, ml_7, mt_8, ml_8, mt_9, mt_10, ml_10, mt_11, ml_11, mt_12, ml_12, mt_13, mt_14, ml_14, mt_15, ml_15, mt_16, ml_16, mt_17, mt_18, ml_18, mt_19, mt_20, ml_20, mt_21, mt_22, ml_22, mt_23, mt_24, ml_24, mt_25, mt_26, ml_26, mt_53, mt_54, ml_54, mt_55, ml_55, mt_56, mt_57, ml_57, mt_58, ml_58, mt_59, mt_60, ml_60, mt_61, mt_62, ml_62, mt_63, ml_63, mt_64, mt_65, ml_65, mt_66, mt_67, ml_67, mt_68, mt_69, ml_69, mt_70, mt_71, ml_71, mt_72, mt_73, ml_73, mt_74, mt_75, ml_75, mt_76, mt_77, ml_77, gP_0_0, gP_0_1, gP_0_4, gP_0_5, gP_0_6, gP_0_7, gP_0_8, gP_0_9, gP_1_0, gP_1_1, gP_1_4, gP_1_5, gP_1_6, gP_2_0, gP_5_1, gP_5_2, gP_5_3, gP_9_1, gP_9_2, gP_9_3, gP_13_1, gP_13_2, gP_13_3, gP_17_3, gP_19_3, gP_21_3, gP_23_3, gP_25_3, gP_53_0, gP_53_6, gP_56_0, gP_59_0, gP_61_3, gP_64_0, gP_66_2, gP_68_2, gP_70_2, gP_72_2, gP_74_2, gP_76_2, aP_4, mtw_4, mtl_4, mll_4, gPw_4, aP_58, mtw_58, mtl_58, mll_58, gPw_58, hS]
theorem nu_y (h : TC M o P L) (n : PLC M N o p false) (hp : p ≤ L) {k : Nat} (e : pN P p = .inr (q, k)) : ∃ N', fn_X3_number N (o + 53) = some (nI k, N') ∧ PLC M N' o q false := by
  unfold pN at e
  by_cases c : 48 ≤ P p ∧ P p ≤ 57
  · rw [if_pos c] at e
    have hl : p < L := h.2.1.lt (by omega)
    have s1 := nb_y h n c (a := 0) (d := 0) (i := 0) (by decide) (by decide)
    have z : ∀ j, j < 2 → ¬ nI (j + 1) = 0 := by decide
    by_cases c2 : 48 ≤ P (p + 1) ∧ P (p + 1) ≤ 57
    · rw [if_pos c2] at e
      cases e
      have s2 := nb_y h (n.go (q := p + 1)) c2 (a := 10 * 0 + (P p - 48)) (d := 0 + 1) (i := 0 + 1) (by omega) (by decide)
      have l := itr_3 (f := fun s6 : Int32 × Int32 × Int32 × QM => lp_X3_number_6 (o + 53) s6.1 s6.2.1 s6.2.2.1 s6.2.2.2) (s0 := (nI 0, nI 0, nI 0, N)) s1 s2 nb_x
      refine ⟨_, ?_, (n.go (q := p + 1)).go (q := p + 2)⟩
      have l := (congrArg (fun z => bnd z fun r6 => pr3 r6 fun e1_6 e2_6 Me_6 => if e2_6 = 0 then pI Me_6 (o + 53) 3 3 1 fun M100 => some (e1_6, M100) else some (e1_6, Me_6)) l)
      unfold fn_X3_number
      refine l.trans ?_
      simp only [pr3, z 1 (by decide), Nat.zero_add, Nat.mul_zero, mt_sI, mt_sJ, mt_sP, mt_rI, mt_rJ, ml_sI, ml_sJ, ml_sP, ml_rI, ml_rJ, mP_sI, mP_sJ, mP_rI, mP_rJ, SHP_sI, SHP_sJ, SHP_rI, SHP_rJ, mI_sI, mI_rI, mI_sJ, mI_rJ, mI_sP, mJ_sI, mJ_rI, mJ_sP, mJ_sJ, mJ_rJ, gI_e, pI_e, ck_e, bnd_s, nm_eq, pr2_e, cnul_0, cnul_1, drf_1, sm_1, sm_2, aI_e, aJ_e, wI_e, wJ_e, aL_e, cpI_e, cpJ_e, Nat.reduceLeDiff, Nat.reduceEqDiff, Nat.add_left_cancel_iff, ad0, ad1, false_and, and_false, true_and, and_true, reduceIte, if_true, if_false, zb0, zb1, Int32.reduceLT, Int32.reduceLE, i10, nw1, nw2, nt1, nt2, not_true_eq_false, not_false_eq_true]
    · rw [if_neg c2] at e
      cases e
      have s2 := nb_n h (n.go (q := p + 1)) hl c2 (u := nI (10 * 0 + (P p - 48))) (v := nI (0 + 1)) (i := 0 + 1) (by decide)
      have l := itr_3 (f := fun s6 : Int32 × Int32 × Int32 × QM => lp_X3_number_6 (o + 53) s6.1 s6.2.1 s6.2.2.1 s6.2.2.2) (s0 := (nI 0, nI 0, nI 0, N)) s1 s2 nb_x
      refine ⟨_, ?_, n.go (q := p + 1)⟩
      have l := (congrArg (fun z => bnd z fun r6 => pr3 r6 fun e1_6 e2_6 Me_6 => if e2_6 = 0 then pI Me_6 (o + 53) 3 3 1 fun M100 => some (e1_6, M100) else some (e1_6, Me_6)) l)
      unfold fn_X3_number
      refine l.trans ?_
      simp only [pr3, z 0 (by decide), Nat.zero_add, Nat.mul_zero, mt_sI, mt_sJ, mt_sP, mt_rI, mt_rJ, ml_sI, ml_sJ, ml_sP, ml_rI, ml_rJ, mP_sI, mP_sJ, mP_rI, mP_rJ, SHP_sI, SHP_sJ, SHP_rI, SHP_rJ, mI_sI, mI_rI, mI_sJ, mI_rJ, mI_sP, mJ_sI, mJ_rI, mJ_sP, mJ_sJ, mJ_rJ, gI_e, pI_e, ck_e, bnd_s, nm_eq, pr2_e, cnul_0, cnul_1, drf_1, sm_1, sm_2, aI_e, aJ_e, wI_e, wJ_e, aL_e, cpI_e, cpJ_e, Nat.reduceLeDiff, Nat.reduceEqDiff, Nat.add_left_cancel_iff, ad0, ad1, false_and, and_false, true_and, and_true, reduceIte, if_true, if_false, zb0, zb1, Int32.reduceLT, Int32.reduceLE, i10, nw1, nw2, nt1, nt2, not_true_eq_false, not_false_eq_true]
  · rw [if_neg c] at e; cases e
/-- a number, in whatever state -/
theorem nu_e (h : TC M o P L) (n : SR M N o L x) : ∃ v N', fn_X3_number N (o + 53) = some (v, N') ∧ SR M N' o L (bSr (pN P) x) ∧ ∀ p q k, x = .inr p → pN P p = .inr (q, k) → v = nI k := by
  cases x with
  | inl q => exact ⟨_, _, nu_b h n.1, ⟨n.1.br, n.2⟩, fun p q k e => by cases e⟩
  | inr p =>
    cases z : pN P p with
    | inl q =>
      have c : ¬ (48 ≤ P p ∧ P p ≤ 57) := by
        intro c
        unfold pN at z
        rw [if_pos c] at z
        by_cases c2 : 48 ≤ P (p + 1) ∧ P (p + 1) ≤ 57
        · rw [if_pos c2] at z; cases z
        · rw [if_neg c2] at z; cases z
      have := pN_l h.2.1 n.2 z
      subst this
      refine ⟨_, _, nu_n h n.1 n.2 c, ?_, fun p q2 k e e2 => by cases e; rw [z] at e2; cases e2⟩
      show SR M _ o L (dSr (pN P q))
      rw [z]
      exact ⟨n.1.br, n.2⟩
    | inr y =>
      obtain ⟨q, k⟩ := y
      obtain ⟨N', h1, h2⟩ := nu_y h n.1 n.2 z
      refine ⟨_, N', h1, ?_, fun p q2 k2 e e2 => ?_⟩
      · show SR M _ o L (dSr (pN P p))
        rw [z]
        exact ⟨h2, (pN_r h.2.1 z).2.1⟩
      · cases e
        rw [z] at e2
        cases e2
        rfl
end RE1
