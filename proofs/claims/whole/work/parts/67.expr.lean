/-! ===== the class's E, as a whole ===== -/
theorem evL_app {c t m : Nat} : ∀ (l1 l2 : List Nat) (st st1 : List Bool), evL c t m l1 st = some st1 → evL c t m (l1 ++ l2) st = evL c t m l2 st1 := by
  intro l1
  induction l1 with
  | nil => intro l2 st st1 h; cases h; rfl
  | cons s r ih =>
    intro l2 st st1 h
    have h : (match evT c t m st s with | some st' => evL c t m r st' | none => none) = some st1 := h
    show (match evT c t m st s with | some st' => evL c t m (r ++ l2) st' | none => none) = _
    cases z : evT c t m st s with
    | none => rw [z] at h; cases h
    | some st2 => rw [z] at h; exact ih l2 st2 st1 h
def stk (a b y x : Bool) (st : List Bool) : List Bool := (if a then [y] else []) ++ ((if b then [x] else []) ++ st)
theorem ev_A {c t m : Nat} {a y v : Bool} {st : List Bool} (hy : a = false → y = true) : evL c t m (eA a) (v :: ((if a then [y] else []) ++ st)) = some ((y && v) :: st) := by
  cases a with
  | true => rfl
  | false => rw [hy rfl, Bool.true_and]; rfl
theorem ev_O {c t m : Nat} {b x v : Bool} {st : List Bool} (hx : b = false → x = false) : evL c t m (eO b) (v :: ((if b then [x] else []) ++ st)) = some ((x || v) :: st) := by
  cases b with
  | true => rfl
  | false => rw [hx rfl, Bool.false_or]; rfl
theorem mkb_ff : (65535 : Int32) = mkb (fun _ => true) := by decide +kernel
theorem mkb_z0 : (0 : Int32) = mkb (fun _ => false) := by decide +kernel
abbrev lpE (n o d : Nat) : Int32 × Int32 × Int32 × Int32 × QM → Option ((Int32 × Int32 × Int32 × Int32 × QM) ⊕ (Int32 × QM)) := fun s11 => lp_X3_expression_11 (fn_ef n) (o + 53) (nI d) s11.1 s11.2.1 s11.2.2.1 s11.2.2.2.1 s11.2.2.2.2
/-- what the class's reader does of one reading -/
def KC (M : QM) (o L t m : Nat) (md : MD) (d p : Nat) (r : RP) : Prop :=
  match md with
  | none => d ≤ 4 → ∀ N n, SR M N o L (.inr p) → 9 ≤ n + 2 * d → ∃ v N', fn_ef n 1 N (o + 53) (nI d) = some (v, N') ∧ (match r with | .inl q => SR M N' o L (.inl q) | .inr y => SR M N' o L (.inr y.1) ∧ ∃ f : Nat → Bool, v = mkb f ∧ ∀ c st, c < 16 → evL c t m y.2 st = some (f c :: st))
  | some ab => d ≤ 4 → ∀ N n k j (x y : Nat → Bool), SR M N o L (.inr p) → 9 ≤ n + 2 * d → 2 * k ≤ p → 102 ≤ j + p → (ab.1 = false → y = fun _ => true) → (ab.2 = false → x = fun _ => false) → ∃ v N', itr (lpE n o d) j (mkb x, mkb y, 1, nI k, N) = some (v, N') ∧ (match r with | .inl q => SR M N' o L (.inl q) | .inr z => SR M N' o L (.inr z.1) ∧ ∃ f : Nat → Bool, v = mkb f ∧ ∀ c st, c < 16 → evL c t m z.2 (stk ab.1 ab.2 (y c) (x c) st) = some (f c :: st))
def ER (M N' : QM) (o L t m : Nat) (v : Int32) (r : RP) : Prop := match r with | .inl q => SR M N' o L (.inl q) | .inr y => SR M N' o L (.inr y.1) ∧ ∃ f : Nat → Bool, v = mkb f ∧ ∀ c st, c < 16 → evL c t m y.2 st = some (f c :: st)
section RE3
variable {M N N1 N2 N3 : QM} {o L p q t m d n k j : Nat} {P : Nat → Nat} {v : Int32} {x y f : Nat → Bool}
theorem not4 (hd : d < 4) : ¬ (4 : Int32) ≤ nI d := by
  have : ¬ nI 4 ≤ nI d := by rw [nI_leI (by omega) (by omega)]; omega
  exact this
theorem fa_not (h : TC M o P L) (g : PLC M N o p false) (hd : d < 4) (e : P p = 33) (hi : fn_ef n 1 (sI N (o + 53) 2 (nI (p + 1))) (o + 53) (nI (d + 1)) = some (v, N2)) : fn_ef (n + 1) 1 N (o + 53) (nI d) = some (65535 &&& (v ^^^ (-1)), N2) := by
  have hS := g.1.shp h.1
  have f1 := not4 hd
  have f2 : fn_X3_takes N (o + 53) 33 = _ := tk_y h g (c := 33) (by decide) e
  show bd_X3_factor (fn_ef n) N (o + 53) (nI d) = _
  simp only [bd_X3_factor, f1, f2, hi, nI_1, mt_sI, mt_sJ, mt_sP, mt_rI, mt_rJ, ml_sI, ml_sJ, ml_sP, ml_rI, ml_rJ, mP_sI, mP_sJ, mP_rI, mP_rJ, SHP_sI, SHP_sJ, SHP_rI, SHP_rJ, mI_sI, mI_rI, mI_sJ, mI_rJ, mI_sP, mJ_sI, mJ_rI, mJ_sP, mJ_sJ, mJ_rJ, gI_e, pI_e, ck_e, bnd_s, nm_eq, pr2_e, cnul_0, cnul_1, drf_1, sm_1, sm_2, aI_e, aJ_e, wI_e, wJ_e, aL_e, cpI_e, cpJ_e, Nat.reduceLeDiff, Nat.reduceEqDiff, Nat.add_left_cancel_iff, ad0, ad1, false_and, and_false, true_and, and_true, reduceIte, if_true, if_false, zb0, zb1, Int32.reduceLT, Int32.reduceLE, i10, nw1, nw2, nt1, nt2, not_true_eq_false, not_false_eq_true, mt_0, mt_1, mt_2, mt_3, ml_3, mt_4, ml_4, mt_5, mt_6, ml_6, mt_7, ml_7, mt_8, ml_8, mt_9, mt_10, ml_10, mt_11, ml_11, mt_12, ml_12, mt_13, mt_14, ml_14, mt_15, ml_15, mt_16, ml_16, mt_17, mt_18, ml_18, mt_19, mt_20, ml_20, mt_21, mt_22, ml_22, mt_23, mt_24, ml_24, mt_25, mt_26, ml_26, mt_53, mt_54, ml_54, mt_55, ml_55, mt_56, mt_57, ml_57, mt_58, ml_58, mt_59, mt_60, ml_60, mt_61, mt_62, ml_62, mt_63, ml_63, mt_64, mt_65, ml_65, mt_66, mt_67, ml_67, mt_68, mt_69, ml_69, mt_70, mt_71, ml_71, mt_72, mt_73, ml_73, mt_74, mt_75, ml_75, mt_76, mt_77, ml_77, gP_0_0, gP_0_1, gP_0_4, gP_0_5, gP_0_6, gP_0_7, gP_0_8, gP_0_9, gP_1_0, gP_1_1, gP_1_4, gP_1_5, gP_1_6, gP_2_0, gP_5_1, gP_5_2, gP_5_3, gP_9_1, gP_9_2, gP_9_3, gP_13_1, gP_13_2, gP_13_3, gP_17_3, gP_19_3, gP_21_3, gP_23_3, gP_25_3, gP_53_0, gP_53_6, gP_56_0, gP_59_0, gP_61_3, gP_64_0, gP_66_2, gP_68_2, gP_70_2, gP_72_2, gP_74_2, gP_76_2, aP_4, mtw_4, mtl_4, mll_4, gPw_4, aP_58, mtw_58, mtl_58, mll_58, gPw_58, hS]
theorem fa_par (h : TC M o P L) (g : PLC M N o p false) (hp : p ≤ L) (hd : d < 4) (e : P p = 40) (hi : fn_ef n 0 (sI N (o + 53) 2 (nI (p + 1))) (o + 53) (nI (d + 1)) = some (v, N2)) (s2 : SHP N2 o) (hx : fn_X3_expect N2 (o + 53) 5 = some N3) : fn_ef (n + 1) 1 N (o + 53) (nI d) = some (v, N3) := by
  have hS := g.1.shp h.1
  have f1 := not4 hd
  have f2 : fn_X3_takes N (o + 53) 33 = _ := tk_n h g hp (c := 33) (by decide) (by omega)
  have f3 : fn_X3_takes N (o + 53) 40 = _ := tk_y h g (c := 40) (by decide) e
  show bd_X3_factor (fn_ef n) N (o + 53) (nI d) = _
  simp only [bd_X3_factor, jn_X3_factor_27, f1, f2, f3, hi, hx, s2, nI_1, mt_sI, mt_sJ, mt_sP, mt_rI, mt_rJ, ml_sI, ml_sJ, ml_sP, ml_rI, ml_rJ, mP_sI, mP_sJ, mP_rI, mP_rJ, SHP_sI, SHP_sJ, SHP_rI, SHP_rJ, mI_sI, mI_rI, mI_sJ, mI_rJ, mI_sP, mJ_sI, mJ_rI, mJ_sP, mJ_sJ, mJ_rJ, gI_e, pI_e, ck_e, bnd_s, nm_eq, pr2_e, cnul_0, cnul_1, drf_1, sm_1, sm_2, aI_e, aJ_e, wI_e, wJ_e, aL_e, cpI_e, cpJ_e, Nat.reduceLeDiff, Nat.reduceEqDiff, Nat.add_left_cancel_iff, ad0, ad1, false_and, and_false, true_and, and_true, reduceIte, if_true, if_false, zb0, zb1, Int32.reduceLT, Int32.reduceLE, i10, nw1, nw2, nt1, nt2, not_true_eq_false, not_false_eq_true, mt_0, mt_1, mt_2, mt_3, ml_3, mt_4, ml_4, mt_5, mt_6, ml_6, mt_7, ml_7, mt_8, ml_8, mt_9, mt_10, ml_10, mt_11, ml_11, mt_12, ml_12, mt_13, mt_14, ml_14, mt_15, ml_15, mt_16, ml_16, mt_17, mt_18, ml_18, mt_19, mt_20, ml_20, mt_21, mt_22, ml_22, mt_23, mt_24, ml_24, mt_25, mt_26, ml_26, mt_53, mt_54, ml_54, mt_55, ml_55, mt_56, mt_57, ml_57, mt_58, ml_58, mt_59, mt_60, ml_60, mt_61, mt_62, ml_62, mt_63, ml_63, mt_64, mt_65, ml_65, mt_66, mt_67, ml_67, mt_68, mt_69, ml_69, mt_70, mt_71, ml_71, mt_72, mt_73, ml_73, mt_74, mt_75, ml_75, mt_76, mt_77, ml_77, gP_0_0, gP_0_1, gP_0_4, gP_0_5, gP_0_6, gP_0_7, gP_0_8, gP_0_9, gP_1_0, gP_1_1, gP_1_4, gP_1_5, gP_1_6, gP_2_0, gP_5_1, gP_5_2, gP_5_3, gP_9_1, gP_9_2, gP_9_3, gP_13_1, gP_13_2, gP_13_3, gP_17_3, gP_19_3, gP_21_3, gP_23_3, gP_25_3, gP_53_0, gP_53_6, gP_56_0, gP_59_0, gP_61_3, gP_64_0, gP_66_2, gP_68_2, gP_70_2, gP_72_2, gP_74_2, gP_76_2, aP_4, mtw_4, mtl_4, mll_4, gPw_4, aP_58, mtw_58, mtl_58, mll_58, gPw_58, hS]
theorem fa_test (h : TC M o P L) (g : PLC M N o p false) (hp : p ≤ L) (hd : d ≤ 4) (e : ¬ (d < 4 ∧ (P p = 33 ∨ P p = 40))) (hx : fn_X3_test N (o + 53) = some (v, N1)) : fn_ef (n + 1) 1 N (o + 53) (nI d) = some (v, N1) := by
  have hS := g.1.shp h.1
  show bd_X3_factor (fn_ef n) N (o + 53) (nI d) = _
  by_cases c : d < 4
  · have f1 := not4 c
    have f2 : fn_X3_takes N (o + 53) 33 = _ := tk_n h g hp (c := 33) (by decide) (fun z => e ⟨c, Or.inl z⟩)
    have f3 : fn_X3_takes N (o + 53) 40 = _ := tk_n h g hp (c := 40) (by decide) (fun z => e ⟨c, Or.inr z⟩)
    simp only [bd_X3_factor, jn_X3_factor_27, f1, f2, f3, hx, mt_sI, mt_sJ, mt_sP, mt_rI, mt_rJ, ml_sI, ml_sJ, ml_sP, ml_rI, ml_rJ, mP_sI, mP_sJ, mP_rI, mP_rJ, SHP_sI, SHP_sJ, SHP_rI, SHP_rJ, mI_sI, mI_rI, mI_sJ, mI_rJ, mI_sP, mJ_sI, mJ_rI, mJ_sP, mJ_sJ, mJ_rJ, gI_e, pI_e, ck_e, bnd_s, nm_eq, pr2_e, cnul_0, cnul_1, drf_1, sm_1, sm_2, aI_e, aJ_e, wI_e, wJ_e, aL_e, cpI_e, cpJ_e, Nat.reduceLeDiff, Nat.reduceEqDiff, Nat.add_left_cancel_iff, ad0, ad1, false_and, and_false, true_and, and_true, reduceIte, if_true, if_false, zb0, zb1, Int32.reduceLT, Int32.reduceLE, i10, nw1, nw2, nt1, nt2, not_true_eq_false, not_false_eq_true, mt_0, mt_1, mt_2, mt_3, ml_3, mt_4, ml_4, mt_5, mt_6, ml_6, mt_7, ml_7, mt_8, ml_8, mt_9, mt_10, ml_10, mt_11, ml_11, mt_12, ml_12, mt_13, mt_14, ml_14, mt_15, ml_15, mt_16, ml_16, mt_17, mt_18, ml_18, mt_19, mt_20, ml_20, mt_21, mt_22, ml_22, mt_23, mt_24, ml_24, mt_25, mt_26, ml_26, mt_53, mt_54, ml_54, mt_55, ml_55, mt_56, mt_57, ml_57, mt_58, ml_58, mt_59, mt_60, ml_60, mt_61, mt_62, ml_62, mt_63, ml_63, mt_64, mt_65, ml_65, mt_66, mt_67, ml_67, mt_68, mt_69, ml_69, mt_70, mt_71, ml_71, mt_72, mt_73, ml_73, mt_74, mt_75, ml_75, mt_76, mt_77, ml_77, gP_0_0, gP_0_1, gP_0_4, gP_0_5, gP_0_6, gP_0_7, gP_0_8, gP_0_9, gP_1_0, gP_1_1, gP_1_4, gP_1_5, gP_1_6, gP_2_0, gP_5_1, gP_5_2, gP_5_3, gP_9_1, gP_9_2, gP_9_3, gP_13_1, gP_13_2, gP_13_3, gP_17_3, gP_19_3, gP_21_3, gP_23_3, gP_25_3, gP_53_0, gP_53_6, gP_56_0, gP_59_0, gP_61_3, gP_64_0, gP_66_2, gP_68_2, gP_70_2, gP_72_2, gP_74_2, gP_76_2, aP_4, mtw_4, mtl_4, mll_4, gPw_4, aP_58, mtw_58, mtl_58, mll_58, gPw_58, hS]
  · have f1 : (4 : Int32) ≤ nI d := nI_le (a := 4) (by omega) (by omega)
    simp only [bd_X3_factor, jn_X3_factor_27, f1, hx, mt_sI, mt_sJ, mt_sP, mt_rI, mt_rJ, ml_sI, ml_sJ, ml_sP, ml_rI, ml_rJ, mP_sI, mP_sJ, mP_rI, mP_rJ, SHP_sI, SHP_sJ, SHP_rI, SHP_rJ, mI_sI, mI_rI, mI_sJ, mI_rJ, mI_sP, mJ_sI, mJ_rI, mJ_sP, mJ_sJ, mJ_rJ, gI_e, pI_e, ck_e, bnd_s, nm_eq, pr2_e, cnul_0, cnul_1, drf_1, sm_1, sm_2, aI_e, aJ_e, wI_e, wJ_e, aL_e, cpI_e, cpJ_e, Nat.reduceLeDiff, Nat.reduceEqDiff, Nat.add_left_cancel_iff, ad0, ad1, false_and, and_false, true_and, and_true, reduceIte, if_true, if_false, zb0, zb1, Int32.reduceLT, Int32.reduceLE, i10, nw1, nw2, nt1, nt2, not_true_eq_false, not_false_eq_true, mt_0, mt_1, mt_2, mt_3, ml_3, mt_4, ml_4, mt_5, mt_6, ml_6, mt_7, ml_7, mt_8, ml_8, mt_9, mt_10, ml_10, mt_11, ml_11, mt_12, ml_12, mt_13, mt_14, ml_14, mt_15, ml_15, mt_16, ml_16, mt_17, mt_18, ml_18, mt_19, mt_20, ml_20, mt_21, mt_22, ml_22, mt_23, mt_24, ml_24, mt_25, mt_26, ml_26, mt_53, mt_54, ml_54, mt_55, ml_55, mt_56, mt_57, ml_57, mt_58, ml_58, mt_59, mt_60, ml_60, mt_61, mt_62, ml_62, mt_63, ml_63, mt_64, mt_65, ml_65, mt_66, mt_67, ml_67, mt_68, mt_69, ml_69, mt_70, mt_71, ml_71, mt_72, mt_73, ml_73, mt_74, mt_75, ml_75, mt_76, mt_77, ml_77, gP_0_0, gP_0_1, gP_0_4, gP_0_5, gP_0_6, gP_0_7, gP_0_8, gP_0_9, gP_1_0, gP_1_1, gP_1_4, gP_1_5, gP_1_6, gP_2_0, gP_5_1, gP_5_2, gP_5_3, gP_9_1, gP_9_2, gP_9_3, gP_13_1, gP_13_2, gP_13_3, gP_17_3, gP_19_3, gP_21_3, gP_23_3, gP_25_3, gP_53_0, gP_53_6, gP_56_0, gP_59_0, gP_61_3, gP_64_0, gP_66_2, gP_68_2, gP_70_2, gP_72_2, gP_74_2, gP_76_2, aP_4, mtw_4, mtl_4, mll_4, gPw_4, aP_58, mtw_58, mtl_58, mll_58, gPw_58, hS]
theorem fa_dead (h : TC M o P L) (g : PLC M N o p true) {w : Int32} : ∃ v N', fn_ef (n + 1) 1 N (o + 53) w = some (v, N') ∧ PLC M N' o p true := by
  have hS := g.1.shp h.1
  obtain ⟨v, N', hx, g'⟩ := te_b h g
  refine ⟨v, N', ?_, g'⟩
  show bd_X3_factor (fn_ef n) N (o + 53) w = _
  have f2 := fun c => tk_b h g (c := c)
  by_cases c : 4 ≤ w
  · simp only [bd_X3_factor, jn_X3_factor_27, c, hx, mt_sI, mt_sJ, mt_sP, mt_rI, mt_rJ, ml_sI, ml_sJ, ml_sP, ml_rI, ml_rJ, mP_sI, mP_sJ, mP_rI, mP_rJ, SHP_sI, SHP_sJ, SHP_rI, SHP_rJ, mI_sI, mI_rI, mI_sJ, mI_rJ, mI_sP, mJ_sI, mJ_rI, mJ_sP, mJ_sJ, mJ_rJ, gI_e, pI_e, ck_e, bnd_s, nm_eq, pr2_e, cnul_0, cnul_1, drf_1, sm_1, sm_2, aI_e, aJ_e, wI_e, wJ_e, aL_e, cpI_e, cpJ_e, Nat.reduceLeDiff, Nat.reduceEqDiff, Nat.add_left_cancel_iff, ad0, ad1, false_and, and_false, true_and, and_true, reduceIte, if_true, if_false, zb0, zb1, Int32.reduceLT, Int32.reduceLE, i10, nw1, nw2, nt1, nt2, not_true_eq_false, not_false_eq_true, mt_0, mt_1, mt_2, mt_3, ml_3, mt_4, ml_4, mt_5, mt_6, ml_6, mt_7, ml_7, mt_8, ml_8, mt_9, mt_10, ml_10, mt_11, ml_11, mt_12, ml_12, mt_13, mt_14, ml_14, mt_15, ml_15, mt_16, ml_16, mt_17, mt_18, ml_18, mt_19, mt_20, ml_20, mt_21, mt_22, ml_22, mt_23, mt_24, ml_24, mt_25, mt_26, ml_26, mt_53, mt_54, ml_54, mt_55, ml_55, mt_56, mt_57, ml_57, mt_58, ml_58, mt_59, mt_60, ml_60, mt_61, mt_62, ml_62, mt_63, ml_63, mt_64, mt_65, ml_65, mt_66, mt_67, ml_67, mt_68, mt_69, ml_69, mt_70, mt_71, ml_71, mt_72, mt_73, ml_73, mt_74, mt_75, ml_75, mt_76, mt_77, ml_77, gP_0_0, gP_0_1, gP_0_4, gP_0_5, gP_0_6, gP_0_7, gP_0_8, gP_0_9, gP_1_0, gP_1_1, gP_1_4, gP_1_5, gP_1_6, gP_2_0, gP_5_1, gP_5_2, gP_5_3, gP_9_1, gP_9_2, gP_9_3, gP_13_1, gP_13_2, gP_13_3, gP_17_3, gP_19_3, gP_21_3, gP_23_3, gP_25_3, gP_53_0, gP_53_6, gP_56_0, gP_59_0, gP_61_3, gP_64_0, gP_66_2, gP_68_2, gP_70_2, gP_72_2, gP_74_2, gP_76_2, aP_4, mtw_4, mtl_4, mll_4, gPw_4, aP_58, mtw_58, mtl_58, mll_58, gPw_58, hS]
  · simp only [bd_X3_factor, jn_X3_factor_27, c, f2, hx, mt_sI, mt_sJ, mt_sP, mt_rI, mt_rJ, ml_sI, ml_sJ, ml_sP, ml_rI, ml_rJ, mP_sI, mP_sJ, mP_rI, mP_rJ, SHP_sI, SHP_sJ, SHP_rI, SHP_rJ, mI_sI, mI_rI, mI_sJ, mI_rJ, mI_sP, mJ_sI, mJ_rI, mJ_sP, mJ_sJ, mJ_rJ, gI_e, pI_e, ck_e, bnd_s, nm_eq, pr2_e, cnul_0, cnul_1, drf_1, sm_1, sm_2, aI_e, aJ_e, wI_e, wJ_e, aL_e, cpI_e, cpJ_e, Nat.reduceLeDiff, Nat.reduceEqDiff, Nat.add_left_cancel_iff, ad0, ad1, false_and, and_false, true_and, and_true, reduceIte, if_true, if_false, zb0, zb1, Int32.reduceLT, Int32.reduceLE, i10, nw1, nw2, nt1, nt2, not_true_eq_false, not_false_eq_true, mt_0, mt_1, mt_2, mt_3, ml_3, mt_4, ml_4, mt_5, mt_6, ml_6, mt_7, ml_7, mt_8, ml_8, mt_9, mt_10, ml_10, mt_11, ml_11, mt_12, ml_12, mt_13, mt_14, ml_14, mt_15, ml_15, mt_16, ml_16, mt_17, mt_18, ml_18, mt_19, mt_20, ml_20, mt_21, mt_22, ml_22, mt_23, mt_24, ml_24, mt_25, mt_26, ml_26, mt_53, mt_54, ml_54, mt_55, ml_55, mt_56, mt_57, ml_57, mt_58, ml_58, mt_59, mt_60, ml_60, mt_61, mt_62, ml_62, mt_63, ml_63, mt_64, mt_65, ml_65, mt_66, mt_67, ml_67, mt_68, mt_69, ml_69, mt_70, mt_71, ml_71, mt_72, mt_73, ml_73, mt_74, mt_75, ml_75, mt_76, mt_77, ml_77, gP_0_0, gP_0_1, gP_0_4, gP_0_5, gP_0_6, gP_0_7, gP_0_8, gP_0_9, gP_1_0, gP_1_1, gP_1_4, gP_1_5, gP_1_6, gP_2_0, gP_5_1, gP_5_2, gP_5_3, gP_9_1, gP_9_2, gP_9_3, gP_13_1, gP_13_2, gP_13_3, gP_17_3, gP_19_3, gP_21_3, gP_23_3, gP_25_3, gP_53_0, gP_53_6, gP_56_0, gP_59_0, gP_61_3, gP_64_0, gP_66_2, gP_68_2, gP_70_2, gP_72_2, gP_74_2, gP_76_2, aP_4, mtw_4, mtl_4, mll_4, gPw_4, aP_58, mtw_58, mtl_58, mll_58, gPw_58, hS]
theorem k100 (hk : k < 100) : ¬ (100 : Int32) ≤ nI k := by
  have : ¬ nI 100 ≤ nI k := by rw [nI_leI (by omega) (by omega)]; omega
  exact this
theorem xs_and (h : TC M o P L) (hS : SHP N o) (hk : k < 100) (hF : fn_ef n 1 N (o + 53) (nI d) = some (mkb f, N1)) (g : PLC M N1 o q false) (e : P q = 38) : lpE n o d (mkb x, mkb y, 1, nI k, N) = some (.inl (mkb x, mkb (fun c => y c && f c), 1, nI (k + 1), sI N1 (o + 53) 2 (nI (q + 1)))) := by
  have s1 := g.1.shp h.1
  have f1 := k100 hk
  have f2 : fn_X3_takes N1 (o + 53) 38 = _ := tk_y h g (c := 38) (by decide) e
  show lp_X3_expression_11 (fn_ef n) (o + 53) (nI d) (mkb x) (mkb y) 1 (nI k) N = _
  simp only [lp_X3_expression_11, f1, hF, f2, mkb_and, nI_1, mt_sI, mt_sJ, mt_sP, mt_rI, mt_rJ, ml_sI, ml_sJ, ml_sP, ml_rI, ml_rJ, mP_sI, mP_sJ, mP_rI, mP_rJ, SHP_sI, SHP_sJ, SHP_rI, SHP_rJ, mI_sI, mI_rI, mI_sJ, mI_rJ, mI_sP, mJ_sI, mJ_rI, mJ_sP, mJ_sJ, mJ_rJ, gI_e, pI_e, ck_e, bnd_s, nm_eq, pr2_e, cnul_0, cnul_1, drf_1, sm_1, sm_2, aI_e, aJ_e, wI_e, wJ_e, aL_e, cpI_e, cpJ_e, Nat.reduceLeDiff, Nat.reduceEqDiff, Nat.add_left_cancel_iff, ad0, ad1, false_and, and_false, true_and, and_true, reduceIte, if_true, if_false, zb0, zb1, Int32.reduceLT, Int32.reduceLE, i10, nw1, nw2, nt1, nt2, not_true_eq_false, not_false_eq_true, mt_0, mt_1, mt_2, mt_3, ml_3, mt_4, ml_4, mt_5, mt_6, ml_6, mt_7, ml_7, mt_8, ml_8, mt_9, mt_10, ml_10, mt_11, ml_11, mt_12, ml_12, mt_13, mt_14, ml_14, mt_15, ml_15, mt_16, ml_16, mt_17, mt_18, ml_18, mt_19, mt_20, ml_20, mt_21, mt_22, ml_22, mt_23, mt_24, ml_24, mt_25, mt_26, ml_26, mt_53, mt_54, ml_54, mt_55, ml_55, mt_56, mt_57, ml_57, mt_58, ml_58, mt_59, mt_60, ml_60, mt_61, mt_62, ml_62, mt_63, ml_63, mt_64, mt_65, ml_65, mt_66, mt_67, ml_67, mt_68, mt_69, ml_69, mt_70, mt_71, ml_71, mt_72, mt_73, ml_73, mt_74, mt_75, ml_75, mt_76, mt_77, ml_77, gP_0_0, gP_0_1, gP_0_4, gP_0_5, gP_0_6, gP_0_7, gP_0_8, gP_0_9, gP_1_0, gP_1_1, gP_1_4, gP_1_5, gP_1_6, gP_2_0, gP_5_1, gP_5_2, gP_5_3, gP_9_1, gP_9_2, gP_9_3, gP_13_1, gP_13_2, gP_13_3, gP_17_3, gP_19_3, gP_21_3, gP_23_3, gP_25_3, gP_53_0, gP_53_6, gP_56_0, gP_59_0, gP_61_3, gP_64_0, gP_66_2, gP_68_2, gP_70_2, gP_72_2, gP_74_2, gP_76_2, aP_4, mtw_4, mtl_4, mll_4, gPw_4, aP_58, mtw_58, mtl_58, mll_58, gPw_58, hS, s1]
theorem xs_or (h : TC M o P L) (hS : SHP N o) (hk : k < 100) (hF : fn_ef n 1 N (o + 53) (nI d) = some (mkb f, N1)) (g : PLC M N1 o q false) (e : P q = 124) : lpE n o d (mkb x, mkb y, 1, nI k, N) = some (.inl (mkb (fun c => x c || (y c && f c)), mkb (fun _ => true), 1, nI (k + 1), sI N1 (o + 53) 2 (nI (q + 1)))) := by
  have s1 := g.1.shp h.1
  have f1 := k100 hk
  have hq : q < L := h.2.1.lt (by omega)
  have f2 : fn_X3_takes N1 (o + 53) 38 = _ := tk_n h g (by omega) (c := 38) (by decide) (by omega)
  have f3 : fn_X3_takes N1 (o + 53) 124 = _ := tk_y h g (c := 124) (by decide) e
  show lp_X3_expression_11 (fn_ef n) (o + 53) (nI d) (mkb x) (mkb y) 1 (nI k) N = _
  simp only [lp_X3_expression_11, f1, hF, f2, f3, mkb_and, mkb_or, nI_1, mkb_ff, mt_sI, mt_sJ, mt_sP, mt_rI, mt_rJ, ml_sI, ml_sJ, ml_sP, ml_rI, ml_rJ, mP_sI, mP_sJ, mP_rI, mP_rJ, SHP_sI, SHP_sJ, SHP_rI, SHP_rJ, mI_sI, mI_rI, mI_sJ, mI_rJ, mI_sP, mJ_sI, mJ_rI, mJ_sP, mJ_sJ, mJ_rJ, gI_e, pI_e, ck_e, bnd_s, nm_eq, pr2_e, cnul_0, cnul_1, drf_1, sm_1, sm_2, aI_e, aJ_e, wI_e, wJ_e, aL_e, cpI_e, cpJ_e, Nat.reduceLeDiff, Nat.reduceEqDiff, Nat.add_left_cancel_iff, ad0, ad1, false_and, and_false, true_and, and_true, reduceIte, if_true, if_false, zb0, zb1, Int32.reduceLT, Int32.reduceLE, i10, nw1, nw2, nt1, nt2, not_true_eq_false, not_false_eq_true, mt_0, mt_1, mt_2, mt_3, ml_3, mt_4, ml_4, mt_5, mt_6, ml_6, mt_7, ml_7, mt_8, ml_8, mt_9, mt_10, ml_10, mt_11, ml_11, mt_12, ml_12, mt_13, mt_14, ml_14, mt_15, ml_15, mt_16, ml_16, mt_17, mt_18, ml_18, mt_19, mt_20, ml_20, mt_21, mt_22, ml_22, mt_23, mt_24, ml_24, mt_25, mt_26, ml_26, mt_53, mt_54, ml_54, mt_55, ml_55, mt_56, mt_57, ml_57, mt_58, ml_58, mt_59, mt_60, ml_60, mt_61, mt_62, ml_62, mt_63, ml_63, mt_64, mt_65, ml_65, mt_66, mt_67, ml_67, mt_68, mt_69, ml_69, mt_70, mt_71, ml_71, mt_72, mt_73, ml_73, mt_74, mt_75, ml_75, mt_76, mt_77, ml_77, gP_0_0, gP_0_1, gP_0_4, gP_0_5, gP_0_6, gP_0_7, gP_0_8, gP_0_9, gP_1_0, gP_1_1, gP_1_4, gP_1_5, gP_1_6, gP_2_0, gP_5_1, gP_5_2, gP_5_3, gP_9_1, gP_9_2, gP_9_3, gP_13_1, gP_13_2, gP_13_3, gP_17_3, gP_19_3, gP_21_3, gP_23_3, gP_25_3, gP_53_0, gP_53_6, gP_56_0, gP_59_0, gP_61_3, gP_64_0, gP_66_2, gP_68_2, gP_70_2, gP_72_2, gP_74_2, gP_76_2, aP_4, mtw_4, mtl_4, mll_4, gPw_4, aP_58, mtw_58, mtl_58, mll_58, gPw_58, hS, s1]
theorem xs_fin (h : TC M o P L) (hS : SHP N o) (hk : k < 100) (hF : fn_ef n 1 N (o + 53) (nI d) = some (mkb f, N1)) (g : PLC M N1 o q false) (hq : q ≤ L) (e : ¬ P q = 38) (e2 : ¬ P q = 124) : lpE n o d (mkb x, mkb y, 1, nI k, N) = some (.inl (mkb (fun c => x c || (y c && f c)), mkb (fun _ => true), 0, nI (k + 1), N1)) := by
  have s1 := g.1.shp h.1
  have f1 := k100 hk
  have f2 : fn_X3_takes N1 (o + 53) 38 = _ := tk_n h g hq (c := 38) (by decide) e
  have f3 : fn_X3_takes N1 (o + 53) 124 = _ := tk_n h g hq (c := 124) (by decide) e2
  show lp_X3_expression_11 (fn_ef n) (o + 53) (nI d) (mkb x) (mkb y) 1 (nI k) N = _
  simp only [lp_X3_expression_11, f1, hF, f2, f3, mkb_and, mkb_or, nI_1, mkb_ff, mt_sI, mt_sJ, mt_sP, mt_rI, mt_rJ, ml_sI, ml_sJ, ml_sP, ml_rI, ml_rJ, mP_sI, mP_sJ, mP_rI, mP_rJ, SHP_sI, SHP_sJ, SHP_rI, SHP_rJ, mI_sI, mI_rI, mI_sJ, mI_rJ, mI_sP, mJ_sI, mJ_rI, mJ_sP, mJ_sJ, mJ_rJ, gI_e, pI_e, ck_e, bnd_s, nm_eq, pr2_e, cnul_0, cnul_1, drf_1, sm_1, sm_2, aI_e, aJ_e, wI_e, wJ_e, aL_e, cpI_e, cpJ_e, Nat.reduceLeDiff, Nat.reduceEqDiff, Nat.add_left_cancel_iff, ad0, ad1, false_and, and_false, true_and, and_true, reduceIte, if_true, if_false, zb0, zb1, Int32.reduceLT, Int32.reduceLE, i10, nw1, nw2, nt1, nt2, not_true_eq_false, not_false_eq_true, mt_0, mt_1, mt_2, mt_3, ml_3, mt_4, ml_4, mt_5, mt_6, ml_6, mt_7, ml_7, mt_8, ml_8, mt_9, mt_10, ml_10, mt_11, ml_11, mt_12, ml_12, mt_13, mt_14, ml_14, mt_15, ml_15, mt_16, ml_16, mt_17, mt_18, ml_18, mt_19, mt_20, ml_20, mt_21, mt_22, ml_22, mt_23, mt_24, ml_24, mt_25, mt_26, ml_26, mt_53, mt_54, ml_54, mt_55, ml_55, mt_56, mt_57, ml_57, mt_58, ml_58, mt_59, mt_60, ml_60, mt_61, mt_62, ml_62, mt_63, ml_63, mt_64, mt_65, ml_65, mt_66, mt_67, ml_67, mt_68, mt_69, ml_69, mt_70, mt_71, ml_71, mt_72, mt_73, ml_73, mt_74, mt_75, ml_75, mt_76, mt_77, ml_77, gP_0_0, gP_0_1, gP_0_4, gP_0_5, gP_0_6, gP_0_7, gP_0_8, gP_0_9, gP_1_0, gP_1_1, gP_1_4, gP_1_5, gP_1_6, gP_2_0, gP_5_1, gP_5_2, gP_5_3, gP_9_1, gP_9_2, gP_9_3, gP_13_1, gP_13_2, gP_13_3, gP_17_3, gP_19_3, gP_21_3, gP_23_3, gP_25_3, gP_53_0, gP_53_6, gP_56_0, gP_59_0, gP_61_3, gP_64_0, gP_66_2, gP_68_2, gP_70_2, gP_72_2, gP_74_2, gP_76_2, aP_4, mtw_4, mtl_4, mll_4, gPw_4, aP_58, mtw_58, mtl_58, mll_58, gPw_58, hS, s1]
theorem xs_brk (h : TC M o P L) (hS : SHP N o) (hk : k < 100) (hF : fn_ef n 1 N (o + 53) (nI d) = some (v, N1)) (g : PLC M N1 o q true) {w2 w3 : Int32} : lpE n o d (w2, w3, 1, nI k, N) = some (.inl (w2 ||| (w3 &&& v), 65535, 0, nI (k + 1), N1)) := by
  have s1 := g.1.shp h.1
  have f1 := k100 hk
  have f2 := fun c => tk_b h g (c := c)
  show lp_X3_expression_11 (fn_ef n) (o + 53) (nI d) w2 w3 1 (nI k) N = _
  simp only [lp_X3_expression_11, f1, hF, f2, nI_1, mt_sI, mt_sJ, mt_sP, mt_rI, mt_rJ, ml_sI, ml_sJ, ml_sP, ml_rI, ml_rJ, mP_sI, mP_sJ, mP_rI, mP_rJ, SHP_sI, SHP_sJ, SHP_rI, SHP_rJ, mI_sI, mI_rI, mI_sJ, mI_rJ, mI_sP, mJ_sI, mJ_rI, mJ_sP, mJ_sJ, mJ_rJ, gI_e, pI_e, ck_e, bnd_s, nm_eq, pr2_e, cnul_0, cnul_1, drf_1, sm_1, sm_2, aI_e, aJ_e, wI_e, wJ_e, aL_e, cpI_e, cpJ_e, Nat.reduceLeDiff, Nat.reduceEqDiff, Nat.add_left_cancel_iff, ad0, ad1, false_and, and_false, true_and, and_true, reduceIte, if_true, if_false, zb0, zb1, Int32.reduceLT, Int32.reduceLE, i10, nw1, nw2, nt1, nt2, not_true_eq_false, not_false_eq_true, mt_0, mt_1, mt_2, mt_3, ml_3, mt_4, ml_4, mt_5, mt_6, ml_6, mt_7, ml_7, mt_8, ml_8, mt_9, mt_10, ml_10, mt_11, ml_11, mt_12, ml_12, mt_13, mt_14, ml_14, mt_15, ml_15, mt_16, ml_16, mt_17, mt_18, ml_18, mt_19, mt_20, ml_20, mt_21, mt_22, ml_22, mt_23, mt_24, ml_24, mt_25, mt_26, ml_26, mt_53, mt_54, ml_54, mt_55, ml_55, mt_56, mt_57, ml_57, mt_58, ml_58, mt_59, mt_60, ml_60, mt_61, mt_62, ml_62, mt_63, ml_63, mt_64, mt_65, ml_65, mt_66, mt_67, ml_67, mt_68, mt_69, ml_69, mt_70, mt_71, ml_71, mt_72, mt_73, ml_73, mt_74, mt_75, ml_75, mt_76, mt_77, ml_77, gP_0_0, gP_0_1, gP_0_4, gP_0_5, gP_0_6, gP_0_7, gP_0_8, gP_0_9, gP_1_0, gP_1_1, gP_1_4, gP_1_5, gP_1_6, gP_2_0, gP_5_1, gP_5_2, gP_5_3, gP_9_1, gP_9_2, gP_9_3, gP_13_1, gP_13_2, gP_13_3, gP_17_3, gP_19_3, gP_21_3, gP_23_3, gP_25_3, gP_53_0, gP_53_6, gP_56_0, gP_59_0, gP_61_3, gP_64_0, gP_66_2, gP_68_2, gP_70_2, gP_72_2, gP_74_2, gP_76_2, aP_4, mtw_4, mtl_4, mll_4, gPw_4, aP_58, mtw_58, mtl_58, mll_58, gPw_58, hS, s1]
theorem xs_x (hk : k ≤ 100) {w2 w3 : Int32} : lpE n o d (w2, w3, 0, nI k, N) = some (.inr (w2, N)) := by
  show lp_X3_expression_11 (fn_ef n) (o + 53) (nI d) w2 w3 0 (nI k) N = _
  by_cases c : k < 100
  · have f1 := k100 c
    simp only [lp_X3_expression_11, f1, mt_sI, mt_sJ, mt_sP, mt_rI, mt_rJ, ml_sI, ml_sJ, ml_sP, ml_rI, ml_rJ, mP_sI, mP_sJ, mP_rI, mP_rJ, SHP_sI, SHP_sJ, SHP_rI, SHP_rJ, mI_sI, mI_rI, mI_sJ, mI_rJ, mI_sP, mJ_sI, mJ_rI, mJ_sP, mJ_sJ, mJ_rJ, gI_e, pI_e, ck_e, bnd_s, nm_eq, pr2_e, cnul_0, cnul_1, drf_1, sm_1, sm_2, aI_e, aJ_e, wI_e, wJ_e, aL_e, cpI_e, cpJ_e, Nat.reduceLeDiff, Nat.reduceEqDiff, Nat.add_left_cancel_iff, ad0, ad1, false_and, and_false, true_and, and_true, reduceIte, if_true, if_false, zb0, zb1, Int32.reduceLT, Int32.reduceLE, i10, nw1, nw2, nt1, nt2, not_true_eq_false, not_false_eq_true]
  · have f1 : (100 : Int32) ≤ nI k := nI_le (a := 100) (by omega) (by omega)
    simp only [lp_X3_expression_11, f1, mt_sI, mt_sJ, mt_sP, mt_rI, mt_rJ, ml_sI, ml_sJ, ml_sP, ml_rI, ml_rJ, mP_sI, mP_sJ, mP_rI, mP_rJ, SHP_sI, SHP_sJ, SHP_rI, SHP_rJ, mI_sI, mI_rI, mI_sJ, mI_rJ, mI_sP, mJ_sI, mJ_rI, mJ_sP, mJ_sJ, mJ_rJ, gI_e, pI_e, ck_e, bnd_s, nm_eq, pr2_e, cnul_0, cnul_1, drf_1, sm_1, sm_2, aI_e, aJ_e, wI_e, wJ_e, aL_e, cpI_e, cpJ_e, Nat.reduceLeDiff, Nat.reduceEqDiff, Nat.add_left_cancel_iff, ad0, ad1, false_and, and_false, true_and, and_true, reduceIte, if_true, if_false, zb0, zb1, Int32.reduceLT, Int32.reduceLE, i10, nw1, nw2, nt1, nt2, not_true_eq_false, not_false_eq_true]
theorem ep_0 (e : itr (lpE n o d) FU (mkb (fun _ => false), mkb (fun _ => true), 1, nI 0, N) = some (v, N1)) : fn_ef (n + 1) 0 N (o + 53) (nI d) = some (v, N1) := by
  rw [← mkb_z0, ← mkb_ff] at e
  have e : itr (fun s11 : Int32 × Int32 × Int32 × Int32 × QM => lp_X3_expression_11 (fn_ef n) (o + 53) (nI d) s11.1 s11.2.1 s11.2.2.1 s11.2.2.2.1 s11.2.2.2.2) FU (0, 65535, 1, 0, N) = some (v, N1) := e
  show bd_X3_expression (fn_ef n) N (o + 53) (nI d) = _
  unfold bd_X3_expression
  rw [e]
  rfl
theorem ep_dead (h : TC M o P L) (g : PLC M N o p true) : ∃ v N', fn_ef (n + 2) 0 N (o + 53) (nI d) = some (v, N') ∧ PLC M N' o p true := by
  obtain ⟨v, N1, h1, g1⟩ := fa_dead (n := n) (w := nI d) h g
  have s1 := xs_brk h (g.1.shp h.1) (k := 0) (by decide) h1 g1 (w2 := mkb (fun _ => false)) (w3 := mkb (fun _ => true))
  exact ⟨_, N1, ep_0 ((itr_go (n := 2047) s1).trans (itr_exit (n := 2046) (xs_x (by decide)))), g1⟩
set_option maxHeartbeats 1000000 in
/-- the class's reader does as each way to read says -/
theorem KC_c (h : TC M o P L) (h4 : mI M (o + 53) 4 = nI t) (h5 : mI M (o + 53) 5 = nI m) (ht : t ≤ 9) (hm : m ≤ 9) : PXC P (fun md d p r => PXs L md d p r ∧ KC M o L t m md d p r) := by
  have PS := PXs_c h.2.1
  have hL := h.2.1.1
  refine ⟨?_, ?_, ?_, ?_, ?_, ?_, ?_, ?_, ?_, ?_, ?_, ?_, ?_⟩
  · intro d p q a b z
    refine ⟨PS.1 d p q a b z.1, fun hd N n g hn => ?_⟩
    have hl : p < L := h.2.1.lt (by omega)
    obtain ⟨n, rfl⟩ : ∃ n', n = n' + 1 := ⟨n - 1, by omega⟩
    obtain ⟨v, N', e, r⟩ := z.2 (by omega) _ n ⟨g.1.go, hl⟩ (by omega)
    exact ⟨_, N', fa_not h g.1 a b e, r⟩
  · intro d p q l a b z
    refine ⟨PS.2.1 d p q l a b z.1, fun hd N n g hn => ?_⟩
    have hl : p < L := h.2.1.lt (by omega)
    obtain ⟨n, rfl⟩ : ∃ n', n = n' + 1 := ⟨n - 1, by omega⟩
    obtain ⟨v, N', e, r, f, rfl, r2⟩ := z.2 (by omega) _ n ⟨g.1.go, hl⟩ (by omega)
    refine ⟨_, N', fa_not h g.1 a b e, r, fun c => !f c, ?_, fun c st hc => ?_⟩
    · rw [mkb_ff, mkb_andn]
      exact mkb_ext fun c _ => Bool.true_and _
    · rw [evL_app _ _ _ _ (r2 c st hc)]; rfl
  · intro d p q a b z
    refine ⟨PS.2.2.1 d p q a b z.1, fun hd N n g hn => ?_⟩
    have hl : p < L := h.2.1.lt (by omega)
    obtain ⟨n, rfl⟩ : ∃ n', n = n' + 2 := ⟨n - 2, by omega⟩
    obtain ⟨v, N', e, r⟩ := z.2 (by omega) _ n 0 FU (fun _ => false) (fun _ => true) ⟨g.1.go, hl⟩ (by omega) (by omega) (by show 102 ≤ 2048 + _; omega) (fun _ => rfl) (fun _ => rfl)
    obtain ⟨N3, e3, r3⟩ := ex_e h (i := 5) (by decide) (x := .inl q) r
    exact ⟨v, N3, fa_par h g.1 g.2 a b (ep_0 e) (r.1.1.shp h.1) e3, r3⟩
  · intro d p q l a b z e2
    refine ⟨PS.2.2.2.1 d p q l a b z.1 e2, fun hd N n g hn => ?_⟩
    have hl : p < L := h.2.1.lt (by omega)
    obtain ⟨n, rfl⟩ : ∃ n', n = n' + 2 := ⟨n - 2, by omega⟩
    obtain ⟨v, N', e, r, -⟩ := z.2 (by omega) _ n 0 FU (fun _ => false) (fun _ => true) ⟨g.1.go, hl⟩ (by omega) (by omega) (by show 102 ≤ 2048 + _; omega) (fun _ => rfl) (fun _ => rfl)
    obtain ⟨N3, e3, r3⟩ := ex_e h (i := 5) (by decide) (x := .inr q) r
    have : bW P (PQ 5) (.inr q) = .inl q := by show (if P q = 41 then _ else _) = _; rw [if_neg e2]
    rw [this] at r3
    exact ⟨v, N3, fa_par h g.1 g.2 a b (ep_0 e) (r.1.1.shp h.1) e3, r3⟩
  · intro d p q l a b z e2
    refine ⟨PS.2.2.2.2.1 d p q l a b z.1 e2, fun hd N n g hn => ?_⟩
    have hl : p < L := h.2.1.lt (by omega)
    obtain ⟨n, rfl⟩ : ∃ n', n = n' + 2 := ⟨n - 2, by omega⟩
    obtain ⟨v, N', e, r, f, rfl, r2⟩ := z.2 (by omega) _ n 0 FU (fun _ => false) (fun _ => true) ⟨g.1.go, hl⟩ (by omega) (by omega) (by show 102 ≤ 2048 + _; omega) (fun _ => rfl) (fun _ => rfl)
    obtain ⟨N3, e3, r3⟩ := ex_e h (i := 5) (by decide) (x := .inr q) r
    have : bW P (PQ 5) (.inr q) = .inr (q + 1) := by show (if P q = 41 then _ else _) = _; rw [if_pos e2]; rfl
    rw [this] at r3
    exact ⟨_, N3, fa_par h g.1 g.2 a b (ep_0 e) (r.1.1.shp h.1) e3, r3, f, rfl, r2⟩
  · intro d p q a b
    refine ⟨PS.2.2.2.2.2.1 d p q a b, fun hd N n g hn => ?_⟩
    obtain ⟨n, rfl⟩ : ∃ n', n = n' + 1 := ⟨n - 1, by omega⟩
    obtain ⟨v, N', e, r⟩ := te_n h g.1 g.2 b
    exact ⟨v, N', fa_test h g.1 g.2 hd a e, r, (pT_l h.2.1 g.2 b).2⟩
  · intro d p q k a b
    refine ⟨PS.2.2.2.2.2.2.1 d p q k a b, fun hd N n g hn => ?_⟩
    obtain ⟨n, rfl⟩ : ∃ n', n = n' + 1 := ⟨n - 1, by omega⟩
    obtain ⟨N', e, r⟩ := te_y h h4 h5 ht hm g.1 g.2 b
    obtain ⟨-, -, -, -, -, -, hq, -⟩ := pT_r h.2.1 b
    exact ⟨_, N', fa_test h g.1 g.2 hd a e, ⟨r, hq⟩, _, rfl, fun c st hc => rfl⟩
  · intro a b d p q z
    refine ⟨PS.2.2.2.2.2.2.2.1 a b d p q z.1, fun hd N n k j x y g hn hk hj hy hx => ?_⟩
    have hp := g.2
    obtain ⟨v, N', e, r⟩ := z.2 hd N n g hn
    obtain ⟨j, rfl⟩ : ∃ j', j = j' + 2 := ⟨j - 2, by omega⟩
    have s1 := xs_brk h (g.1.1.shp h.1) (k := k) (by omega) e r.1 (w2 := mkb x) (w3 := mkb y)
    exact ⟨_, N', (itr_go (n := j + 1) s1).trans (itr_exit (n := j) (xs_x (by omega))), r⟩
  · intro a b d p q l q2 z e z2
    refine ⟨PS.2.2.2.2.2.2.2.2.1 a b d p q l q2 z.1 e z2.1, fun hd N n k j x y g hn hk hj hy hx => ?_⟩
    have hp := g.2
    have hq : q < L := h.2.1.lt (by omega)
    have hpq : p < q ∧ q ≤ L := z.1 hp
    obtain ⟨v, N', e1, r, f, rfl, r2⟩ := z.2 hd N n g hn
    obtain ⟨j, rfl⟩ : ∃ j', j = j' + 1 := ⟨j - 1, by omega⟩
    have s1 := xs_and h (g.1.1.shp h.1) (k := k) (by omega) e1 r.1 e (x := x) (y := y)
    obtain ⟨v2, N2, e2, r3⟩ := z2.2 hd _ n (k + 1) j x (fun c => y c && f c) ⟨r.1.go, hq⟩ hn (by omega) (by omega) (fun w => by cases w) hx
    exact ⟨v2, N2, (itr_go s1).trans e2, r3⟩
  · intro a b d p q l q2 l2 z e z2
    refine ⟨PS.2.2.2.2.2.2.2.2.2.1 a b d p q l q2 l2 z.1 e z2.1, fun hd N n k j x y g hn hk hj hy hx => ?_⟩
    have hp := g.2
    have hq : q < L := h.2.1.lt (by omega)
    have hpq : p < q ∧ q ≤ L := z.1 hp
    obtain ⟨v, N', e1, r, f, rfl, r2⟩ := z.2 hd N n g hn
    obtain ⟨j, rfl⟩ : ∃ j', j = j' + 1 := ⟨j - 1, by omega⟩
    have s1 := xs_and h (g.1.1.shp h.1) (k := k) (by omega) e1 r.1 e (x := x) (y := y)
    obtain ⟨v2, N2, e2, r3, f2, rfl, r4⟩ := z2.2 hd _ n (k + 1) j x (fun c => y c && f c) ⟨r.1.go, hq⟩ hn (by omega) (by omega) (fun w => by cases w) hx
    refine ⟨_, N2, (itr_go s1).trans e2, r3, f2, rfl, fun c st hc => ?_⟩
    show evL c t m (l ++ (eA a ++ l2)) _ = _
    rw [evL_app _ _ _ _ (r2 c _ hc)]
    exact (evL_app _ _ _ _ (ev_A (fun w => by rw [hy w]))).trans (r4 c st hc)
  · intro a b d p q l q2 z e z2
    refine ⟨PS.2.2.2.2.2.2.2.2.2.2.1 a b d p q l q2 z.1 e z2.1, fun hd N n k j x y g hn hk hj hy hx => ?_⟩
    have hp := g.2
    have hq : q < L := h.2.1.lt (by omega)
    have hpq : p < q ∧ q ≤ L := z.1 hp
    obtain ⟨v, N', e1, r, f, rfl, r2⟩ := z.2 hd N n g hn
    obtain ⟨j, rfl⟩ : ∃ j', j = j' + 1 := ⟨j - 1, by omega⟩
    have s1 := xs_or h (g.1.1.shp h.1) (k := k) (by omega) e1 r.1 e (x := x) (y := y)
    obtain ⟨v2, N2, e2, r3⟩ := z2.2 hd _ n (k + 1) j (fun c => x c || (y c && f c)) (fun _ => true) ⟨r.1.go, hq⟩ hn (by omega) (by omega) (fun _ => rfl) (fun w => by cases w)
    exact ⟨v2, N2, (itr_go s1).trans e2, r3⟩
  · intro a b d p q l q2 l2 z e z2
    refine ⟨PS.2.2.2.2.2.2.2.2.2.2.2.1 a b d p q l q2 l2 z.1 e z2.1, fun hd N n k j x y g hn hk hj hy hx => ?_⟩
    have hp := g.2
    have hq : q < L := h.2.1.lt (by omega)
    have hpq : p < q ∧ q ≤ L := z.1 hp
    obtain ⟨v, N', e1, r, f, rfl, r2⟩ := z.2 hd N n g hn
    obtain ⟨j, rfl⟩ : ∃ j', j = j' + 1 := ⟨j - 1, by omega⟩
    have s1 := xs_or h (g.1.1.shp h.1) (k := k) (by omega) e1 r.1 e (x := x) (y := y)
    obtain ⟨v2, N2, e2, r3, f2, rfl, r4⟩ := z2.2 hd _ n (k + 1) j (fun c => x c || (y c && f c)) (fun _ => true) ⟨r.1.go, hq⟩ hn (by omega) (by omega) (fun _ => rfl) (fun w => by cases w)
    refine ⟨_, N2, (itr_go s1).trans e2, r3, f2, rfl, fun c st hc => ?_⟩
    show evL c t m (l ++ (eA a ++ (eO b ++ l2))) _ = _
    rw [evL_app _ _ _ _ (r2 c _ hc)]
    refine (evL_app _ _ _ _ (ev_A (fun w => by rw [hy w]))).trans ?_
    exact (evL_app _ _ _ _ (ev_O (fun w => by rw [hx w]))).trans (r4 c st hc)
  · intro a b d p q l z e e2
    refine ⟨PS.2.2.2.2.2.2.2.2.2.2.2.2 a b d p q l z.1 e e2, fun hd N n k j x y g hn hk hj hy hx => ?_⟩
    have hp := g.2
    have hpq : p < q ∧ q ≤ L := z.1 hp
    obtain ⟨v, N', e1, r, f, rfl, r2⟩ := z.2 hd N n g hn
    obtain ⟨j, rfl⟩ : ∃ j', j = j' + 2 := ⟨j - 2, by omega⟩
    have s1 := xs_fin h (g.1.1.shp h.1) (k := k) (by omega) e1 r.1 hpq.2 e e2 (x := x) (y := y)
    refine ⟨_, N', (itr_go (n := j + 1) s1).trans (itr_exit (n := j) (xs_x (by omega))), r, _, rfl, fun c st hc => ?_⟩
    show evL c t m (l ++ (eA a ++ eO b)) _ = _
    rw [evL_app _ _ _ _ (r2 c _ hc)]
    refine (evL_app _ _ _ _ (ev_A (fun w => by rw [hy w]))).trans ?_
    exact ev_O (fun w => by rw [hx w])
/-- an E from the outside -/
theorem ep_e (h : TC M o P L) (h4 : mI M (o + 53) 4 = nI t) (h5 : mI M (o + 53) 5 = nI m) (ht : t ≤ 9) (hm : m ≤ 9) (g : SR M N o L (.inr p)) {r : RP} (x : PX P (some (false, false)) 0 p r) : ∃ v N', fn_ef 64 0 N (o + 53) 0 = some (v, N') ∧ ER M N' o L t m v r := by
  have z := (x _ (KC_c h h4 h5 ht hm)).2
  obtain ⟨v, N', e, w⟩ := z (by decide) N 63 0 FU (fun _ => false) (fun _ => true) g (by decide) (by omega) (by show 102 ≤ 2048 + _; omega) (fun _ => rfl) (fun _ => rfl)
  refine ⟨v, N', ep_0 (n := 63) (d := 0) e, ?_⟩
  cases r with
  | inl q => exact w
  | inr y => exact w
end RE3
