/-! ===== act: the bodies that run ===== -/
def pnote (bs : List Int32) (b : Int32) (f : List Int32 → Option (Int32 × List Int32)) : Option (Int32 × List Int32) := if bs.length < 90 then f (bs ++ [b]) else none
def prR (F : Nat → Int32 → Int32 → Int32 → Int32 → List Int32 → Option (Int32 × List Int32)) (p1 p2 p3 p4 : Int32) (bs : List Int32) : Option (Int32 × List Int32) :=
  bnd (itr (fun s6 : Int32 × Int32 => lp_X0_run_6 p2 s6.1 s6.2) FU (p1, 0)) fun e =>
  if e < 0 then some (0, bs) else if p4 < 40 then sA tBO 21 ((e * 3) + p2) fun b => pnote bs b fun bs => sA tKA 7 e fun a => F 1 b a p3 (p4 + 1) bs else some (0, bs)
def prD (num kd v : Int32) (F : Nat → Int32 → Int32 → Int32 → Int32 → List Int32 → Option (Int32 × List Int32)) (p1 p2 p3 p4 : Int32) (bs : List Int32) : Option (Int32 × List Int32) :=
  if p1 = 10 then some (p3 + num, bs)
  else if p1 = 11 then bnd (F 0 kd 0 p3 p4 bs) fun y => some (y.1 - v, y.2)
  else if p1 = 12 then bnd (F 0 kd 1 p3 p4 bs) fun y => some (y.1 * 2, y.2)
  else if p1 = 20 then bnd (F 0 p2 1 p3 p4 bs) fun y => some (y.1 ^^^ 6, y.2)
  else if p1 = 30 then bnd (F 0 p2 0 (p3 * 3) p4 bs) fun y => some (y.1, y.2)
  else if p1 = 40 then bnd (F 0 p2 2 p3 p4 bs) fun y => bnd (F 0 kd 1 1 p4 y.2) fun z => some (y.1 + z.1, z.2)
  else if p1 = 50 then bnd (F 0 p2 0 p3 p4 bs) fun y => some (-y.1, y.2)
  else if p1 = 51 then bnd (F 0 p2 1 (p3 + 1) p4 bs) fun y => some (y.1, y.2)
  else if p1 = 60 then bnd (F 0 p2 2 (p3 - num) p4 bs) fun y => some (y.1, y.2)
  else if p1 = 70 then bnd (F 0 p2 1 p3 p4 bs) fun y => bnd (F 0 p2 0 2 p4 y.2) fun z => some (y.1 + z.1, z.2)
  else if p1 = 71 then bnd (F 0 p2 0 p3 p4 bs) fun y => some (y.1 ^^^ v, y.2)
  else some (0, bs)
def prd (num kd v : Int32) : Nat → Nat → Int32 → Int32 → Int32 → Int32 → List Int32 → Option (Int32 × List Int32)
  | 0, _, _, _, _, _, _ => none
  | n + 1, 0, p1, p2, p3, p4, bs => prR (prd num kd v n) p1 p2 p3 p4 bs
  | n + 1, _ + 1, p1, p2, p3, p4, bs => prD num kd v (prd num kd v n) p1 p2 p3 p4 bs
/-! the reference's bodies -/
def pmWW (i x : Int32) (bs : List Int32) : Int32 × List Int32 := (x + i, bs ++ [10])
def pmW (kd v i x : Int32) (bs : List Int32) : Int32 × List Int32 :=
  if kd = 2 then pmWW i (x * 3) (bs ++ [30]) else if kd = 4 then (-(pmWW i x (bs ++ [50])).1, (pmWW i x (bs ++ [50])).2) else if kd = 5 then pmWW i (x * 3) (bs ++ [30]) else if kd = 6 then ((pmWW i x (bs ++ [71])).1 ^^^ v, (pmWW i x (bs ++ [71])).2) else pmWW i x bs
def pmWS (kd v i x : Int32) (bs : List Int32) : Int32 × List Int32 := ((pmW kd v i x (bs ++ [11])).1 - v, (pmW kd v i x (bs ++ [11])).2)
def pmSS (kd v i x : Int32) (bs : List Int32) : Int32 × List Int32 := ((pmWS kd v i x (bs ++ [20])).1 ^^^ 6, (pmWS kd v i x (bs ++ [20])).2)
def pmS (kd v i x : Int32) (bs : List Int32) : Int32 × List Int32 :=
  if kd = 1 then pmSS kd v i x bs else if kd = 4 then pmSS kd v i (x + 1) (bs ++ [51]) else if kd = 6 then ((pmWS kd v i x (bs ++ [70])).1 + (pmWW i 2 (pmWS kd v i x (bs ++ [70])).2).1, (pmWW i 2 (pmWS kd v i x (bs ++ [70])).2).2) else pmWS kd v i x bs
def pmWT (kd v i x : Int32) (bs : List Int32) : Int32 × List Int32 := ((pmS kd v i x (bs ++ [12])).1 * 2, (pmS kd v i x (bs ++ [12])).2)
def pmT (kd v i x : Int32) (bs : List Int32) : Int32 × List Int32 :=
  if kd = 3 then ((pmWT kd v i x (bs ++ [40])).1 + (pmS kd v i 1 (pmWT kd v i x (bs ++ [40])).2).1, (pmS kd v i 1 (pmWT kd v i x (bs ++ [40])).2).2) else if kd = 5 then pmWT kd v i (x - i) (bs ++ [60]) else if kd = 6 then ((pmWT kd v i x (bs ++ [40])).1 + (pmS kd v i 1 (pmWT kd v i x (bs ++ [40])).2).1, (pmS kd v i 1 (pmWT kd v i x (bs ++ [40])).2).2) else pmWT kd v i x bs
def pmA (a : Nat) (kd v i x : Int32) : Int32 × List Int32 := if a = 0 then pmW kd v i x [] else if a = 1 then pmS kd v i x [] else pmT kd v i x []
set_option maxRecDepth 20000 in
set_option maxHeartbeats 4000000 in
theorem pr_pm (k a : Nat) (hk : k < 7) (ha : a < 3) (v i x : Int32) : prd i (nI k) v 64 0 (nI k) (nI a) x 0 [] = some (pmA a (nI k) v i x) := by
  rcases (by omega : a = 0 ∨ a = 1 ∨ a = 2) with rfl | rfl | rfl <;> rcases (by omega : k = 0 ∨ k = 1 ∨ k = 2 ∨ k = 3 ∨ k = 4 ∨ k = 5 ∨ k = 6) with rfl | rfl | rfl | rfl | rfl | rfl | rfl <;> rfl
set_option maxRecDepth 20000 in
theorem pm_b (k a : Nat) (hk : k < 7) (ha : a < 3) (v i x : Int32) : (pmA a (nI k) v i x).2.length ≤ 20 ∧ (pmA a (nI k) v i x).2.all (fun b => decide (0 ≤ b) && decide (b ≤ 99)) = true := by
  rcases (by omega : a = 0 ∨ a = 1 ∨ a = 2) with rfl | rfl | rfl <;> rcases (by omega : k = 0 ∨ k = 1 ∨ k = 2 ∨ k = 3 ∨ k = 4 ∨ k = 5 ∨ k = 6) with rfl | rfl | rfl | rfl | rfl | rfl | rfl <;> exact ⟨Nat.le_of_ble_eq_true rfl, rfl⟩
/-! the class -/
def Z57 : Nat → Nat → Prop := fun a k => (a = 57 ∧ k < 20) ∨ (a = 56 ∧ k = 1)
def TRc (M0 M : QM) (o : Nat) (bs : List Int32) (num kd v : Int32) : Prop := SQ M0 M o Z57 ∧ (∀ k, k < 20 → k < bs.length → mI M (o + 57) k = bs.getD k 0) ∧ mI M (o + 56) 1 = nI bs.length ∧ mI M (o + 56) 2 = num ∧ mI M (o + 56) 3 = kd ∧ mI M (o + 56) 4 = v
def Z119 : Nat → Nat → Prop := fun a k => (a = 119 ∧ k < 20) ∨ (a = 78 ∧ k = 64)
def TRm (M0 M : QM) (o : Nat) (bs : List Int32) : Prop := SQ M0 M o Z119 ∧ (∀ k, k < 20 → k < bs.length → mI M (o + 119) k = bs.getD k 0) ∧ mI M (o + 78) 64 = nI bs.length
section AC1
variable {M0 M : QM} {o : Nat} {bs : List Int32} {num kd v b : Int32}
theorem getD_l {k : Nat} (h : k < bs.length) : (bs ++ [b]).getD k 0 = bs.getD k 0 := by
  rw [List.getD_eq_getElem?_getD, List.getD_eq_getElem?_getD, List.getElem?_append_left h]
theorem getD_r : (bs ++ [b]).getD bs.length 0 = b := by
  rw [List.getD_eq_getElem?_getD, List.getElem?_append_right (Nat.le_refl _), Nat.sub_self]; rfl
theorem note_c (hS : SHP M0 o) (h : TRc M0 M o bs num kd v) (hl : bs.length < 90) : ∃ M1, fn_X0_note M (o + 56) b = some M1 ∧ TRc M0 M1 o (bs ++ [b]) num kd v := by
  obtain ⟨h1, h2, h3, h4, h5, h6⟩ := h
  have hS' := h1.shp hS
  by_cases q : 20 ≤ bs.length
  · have f1 : 20 ≤ nI bs.length := nI_le (a := 20) q (by omega)
    refine ⟨sI M (o + 56) 1 (nI (bs.length + 1)), ?_, h1.sI (Or.inr ⟨rfl, rfl⟩), fun k k1 k2 => ?_, ?_, ?_, ?_, ?_⟩
    · simp only [fn_X0_note, jn_X0_note_19, h3, f1, nI_1, mt_sI, mt_sJ, mt_sP, mt_rI, mt_rJ, ml_sI, ml_sJ, ml_sP, ml_rI, ml_rJ, mP_sI, mP_sJ, mP_rI, mP_rJ, SHP_sI, SHP_sJ, SHP_rI, SHP_rJ, mI_sI, mI_rI, mI_sJ, mI_rJ, mI_sP, mJ_sI, mJ_rI, mJ_sP, mJ_sJ, mJ_rJ, gI_e, pI_e, ck_e, bnd_s, nm_eq, pr2_e, cnul_0, cnul_1, drf_1, sm_1, sm_2, aI_e, aJ_e, wI_e, wJ_e, aL_e, cpI_e, cpJ_e, Nat.reduceLeDiff, Nat.reduceEqDiff, Nat.add_left_cancel_iff, ad0, ad1, false_and, and_false, true_and, and_true, reduceIte, if_true, if_false, zb0, zb1, Int32.reduceLT, Int32.reduceLE, i10, nw1, nw2, nt1, nt2, not_true_eq_false, not_false_eq_true, mt_0, mt_1, mt_2, mt_3, ml_3, mt_4, ml_4, mt_5, mt_6, ml_6, mt_7, ml_7, mt_8, ml_8, mt_9, mt_10, ml_10, mt_11, ml_11, mt_12, ml_12, mt_13, mt_14, ml_14, mt_15, ml_15, mt_16, ml_16, mt_17, mt_18, ml_18, mt_19, mt_20, ml_20, mt_21, mt_22, ml_22, mt_23, mt_24, ml_24, mt_25, mt_26, ml_26, mt_53, mt_54, ml_54, mt_55, ml_55, mt_56, mt_57, ml_57, mt_58, ml_58, mt_59, mt_60, ml_60, mt_61, mt_62, ml_62, mt_63, ml_63, mt_64, mt_65, ml_65, mt_66, mt_67, ml_67, mt_68, mt_69, ml_69, mt_70, mt_71, ml_71, mt_72, mt_73, ml_73, mt_74, mt_75, ml_75, mt_76, mt_77, ml_77, gP_0_0, gP_0_1, gP_0_4, gP_0_5, gP_0_6, gP_0_7, gP_0_8, gP_0_9, gP_1_0, gP_1_1, gP_1_4, gP_1_5, gP_1_6, gP_2_0, gP_5_1, gP_5_2, gP_5_3, gP_9_1, gP_9_2, gP_9_3, gP_13_1, gP_13_2, gP_13_3, gP_17_3, gP_19_3, gP_21_3, gP_23_3, gP_25_3, gP_53_0, gP_53_6, gP_56_0, gP_59_0, gP_61_3, gP_64_0, gP_66_2, gP_68_2, gP_70_2, gP_72_2, gP_74_2, gP_76_2, aP_4, mtw_4, mtl_4, mll_4, gPw_4, aP_58, mtw_58, mtl_58, mll_58, gPw_58, hS']
    · rw [mI_sI, if_neg (by omega), getD_l (by omega)]; exact h2 k k1 (by omega)
    · rw [mI_sI, if_pos ⟨rfl, rfl⟩, List.length_append]; rfl
    · rw [mI_sI, if_neg (by omega)]; exact h4
    · rw [mI_sI, if_neg (by omega)]; exact h5
    · rw [mI_sI, if_neg (by omega)]; exact h6
  · have f1 : ¬ 20 ≤ nI bs.length := by show ¬ nI 20 ≤ nI bs.length; rw [nI_leI (by decide) (by omega)]; exact q
    have l20 : bs.length < 20 := by omega
    refine ⟨sI (sI M (o + 57) bs.length b) (o + 56) 1 (nI (bs.length + 1)), ?_, (h1.sI (Or.inl ⟨rfl, l20⟩)).sI (Or.inr ⟨rfl, rfl⟩), fun k k1 k2 => ?_, ?_, ?_, ?_, ?_⟩
    · simp only [fn_X0_note, jn_X0_note_19, h3, f1, nI_1, mt_sI, mt_sJ, mt_sP, mt_rI, mt_rJ, ml_sI, ml_sJ, ml_sP, ml_rI, ml_rJ, mP_sI, mP_sJ, mP_rI, mP_rJ, SHP_sI, SHP_sJ, SHP_rI, SHP_rJ, mI_sI, mI_rI, mI_sJ, mI_rJ, mI_sP, mJ_sI, mJ_rI, mJ_sP, mJ_sJ, mJ_rJ, gI_e, pI_e, ck_e, bnd_s, nm_eq, pr2_e, cnul_0, cnul_1, drf_1, sm_1, sm_2, aI_e, aJ_e, wI_e, wJ_e, aL_e, cpI_e, cpJ_e, Nat.reduceLeDiff, Nat.reduceEqDiff, Nat.add_left_cancel_iff, ad0, ad1, false_and, and_false, true_and, and_true, reduceIte, if_true, if_false, zb0, zb1, Int32.reduceLT, Int32.reduceLE, i10, nw1, nw2, nt1, nt2, not_true_eq_false, not_false_eq_true, mt_0, mt_1, mt_2, mt_3, ml_3, mt_4, ml_4, mt_5, mt_6, ml_6, mt_7, ml_7, mt_8, ml_8, mt_9, mt_10, ml_10, mt_11, ml_11, mt_12, ml_12, mt_13, mt_14, ml_14, mt_15, ml_15, mt_16, ml_16, mt_17, mt_18, ml_18, mt_19, mt_20, ml_20, mt_21, mt_22, ml_22, mt_23, mt_24, ml_24, mt_25, mt_26, ml_26, mt_53, mt_54, ml_54, mt_55, ml_55, mt_56, mt_57, ml_57, mt_58, ml_58, mt_59, mt_60, ml_60, mt_61, mt_62, ml_62, mt_63, ml_63, mt_64, mt_65, ml_65, mt_66, mt_67, ml_67, mt_68, mt_69, ml_69, mt_70, mt_71, ml_71, mt_72, mt_73, ml_73, mt_74, mt_75, ml_75, mt_76, mt_77, ml_77, gP_0_0, gP_0_1, gP_0_4, gP_0_5, gP_0_6, gP_0_7, gP_0_8, gP_0_9, gP_1_0, gP_1_1, gP_1_4, gP_1_5, gP_1_6, gP_2_0, gP_5_1, gP_5_2, gP_5_3, gP_9_1, gP_9_2, gP_9_3, gP_13_1, gP_13_2, gP_13_3, gP_17_3, gP_19_3, gP_21_3, gP_23_3, gP_25_3, gP_53_0, gP_53_6, gP_56_0, gP_59_0, gP_61_3, gP_64_0, gP_66_2, gP_68_2, gP_70_2, gP_72_2, gP_74_2, gP_76_2, aP_4, mtw_4, mtl_4, mll_4, gPw_4, aP_58, mtw_58, mtl_58, mll_58, gPw_58, hS', l20]
    · rw [List.length_append, List.length_singleton] at k2
      rw [mI_sI, if_neg (by omega), mI_sI]
      by_cases e : k = bs.length
      · rw [if_pos ⟨rfl, e⟩, e, getD_r]
      · rw [if_neg (fun z => e z.2), getD_l (by omega)]; exact h2 k k1 (by omega)
    · rw [mI_sI, if_pos ⟨rfl, rfl⟩, List.length_append]; rfl
    · rw [mI_sI, if_neg (by omega), mI_sI, if_neg (by omega)]; exact h4
    · rw [mI_sI, if_neg (by omega), mI_sI, if_neg (by omega)]; exact h5
    · rw [mI_sI, if_neg (by omega), mI_sI, if_neg (by omega)]; exact h6
theorem sA_s {tab : List Int32} {N : Nat} {i : Int32} {α : Type} {f : Int32 → Option α} {z : α} (h : sA tab N i f = some z) : ∃ x, f x = some z ∧ ∀ (β : Type) (g : Int32 → Option β), sA tab N i g = g x := by
  unfold sA at h
  split at h
  · rename_i q
    exact ⟨_, h, fun β g => if_pos q⟩
  · cases h
theorem rd_c (hS : SHP M0 o) : ∀ n j p1 p2 p3 p4 (M : QM) (bs : List Int32) (r : Int32) (bs' : List Int32), prd num kd v n j p1 p2 p3 p4 bs = some (r, bs') → TRc M0 M o bs num kd v → ∃ M1, fn_rd n j M (o + 56) p1 p2 p3 p4 = some (r, M1) ∧ TRc M0 M1 o bs' num kd v := by
  intro n
  induction n with
  | zero => intro j p1 p2 p3 p4 M bs r bs' h; cases h
  | succ n ih =>
    intro j p1 p2 p3 p4 M bs r bs' h ht
    have t56 : ∀ {N : QM} {b}, TRc M0 N o b num kd v → mt N (o + 56) = 0 := fun hn => mt_56 (hn.1.shp hS)
    cases j with
    | zero =>
      have h : prR (prd num kd v n) p1 p2 p3 p4 bs = some (r, bs') := h
      show ∃ M1, bd_X0_run (fn_rd n) M (o + 56) p1 p2 p3 p4 = _ ∧ _
      unfold prR at h
      unfold bd_X0_run
      obtain ⟨e, e1, h⟩ := bnd_i h
      rw [bnd_e e1]
      by_cases q : e < 0
      · rw [if_pos q] at h ⊢
        cases h
        exact ⟨M, rfl, ht⟩
      · rw [if_neg q] at h ⊢
        by_cases q2 : p4 < 40
        · rw [if_pos q2] at h ⊢
          obtain ⟨b, h, hb⟩ := sA_s h
          rw [hb]
          unfold pnote at h
          by_cases q3 : bs.length < 90
          · rw [if_pos q3] at h
            obtain ⟨a, h, ha⟩ := sA_s h
            obtain ⟨M1, n1, n2⟩ := note_c (b := b) hS ht q3
            obtain ⟨M2, d1, d2⟩ := ih 1 b a p3 (p4 + 1) M1 (bs ++ [b]) r bs' h n2
            refine ⟨M2, ?_, d2⟩
            rw [bnd_e n1, ha, ck_e (t56 n2), bnd_e d1]
            rfl
          · rw [if_neg q3] at h; cases h
        · rw [if_neg q2] at h ⊢
          cases h
          exact ⟨M, rfl, ht⟩
    | succ j =>
      have h : prD num kd v (prd num kd v n) p1 p2 p3 p4 bs = some (r, bs') := h
      show ∃ M1, bd_X0_done (fn_rd n) M (o + 56) p1 p2 p3 p4 = _ ∧ _
      unfold prD at h
      unfold bd_X0_done
      have g2 : ∀ {N : QM} {b} {α : Type} (f : Int32 → Option α), TRc M0 N o b num kd v → gI N (o + 56) 0 2 f = f num := fun f hn => by rw [gI_e (t56 hn), hn.2.2.2.1]
      have g3 : ∀ {N : QM} {b} {α : Type} (f : Int32 → Option α), TRc M0 N o b num kd v → gI N (o + 56) 0 3 f = f kd := fun f hn => by rw [gI_e (t56 hn), hn.2.2.2.2.1]
      have g4 : ∀ {N : QM} {b} {α : Type} (f : Int32 → Option α), TRc M0 N o b num kd v → gI N (o + 56) 0 4 f = f v := fun f hn => by rw [gI_e (t56 hn), hn.2.2.2.2.2]
      by_cases c1 : p1 = 10
      · rw [if_pos c1] at h ⊢
        cases h
        exact ⟨M, g2 _ ht, ht⟩
      rw [if_neg c1] at h ⊢
      by_cases c2 : p1 = 11
      · rw [if_pos c2] at h ⊢
        obtain ⟨y, y1, h⟩ := bnd_i h
        cases h
        obtain ⟨M1, d1, d2⟩ := ih _ _ _ _ _ M bs y.1 y.2 y1 ht
        exact ⟨M1, by rw [g3 _ ht, bnd_e d1]; simp only [pr2]; exact g4 _ d2, d2⟩
      rw [if_neg c2] at h ⊢
      by_cases c3 : p1 = 12
      · rw [if_pos c3] at h ⊢
        obtain ⟨y, y1, h⟩ := bnd_i h
        cases h
        obtain ⟨M1, d1, d2⟩ := ih _ _ _ _ _ M bs y.1 y.2 y1 ht
        exact ⟨M1, by rw [g3 _ ht, bnd_e d1]; rfl, d2⟩
      rw [if_neg c3] at h ⊢
      by_cases c4 : p1 = 20
      · rw [if_pos c4] at h ⊢
        obtain ⟨y, y1, h⟩ := bnd_i h
        cases h
        obtain ⟨M1, d1, d2⟩ := ih _ _ _ _ _ M bs y.1 y.2 y1 ht
        exact ⟨M1, by rw [bnd_e d1]; rfl, d2⟩
      rw [if_neg c4] at h ⊢
      by_cases c5 : p1 = 30
      · rw [if_pos c5] at h ⊢
        obtain ⟨y, y1, h⟩ := bnd_i h
        cases h
        obtain ⟨M1, d1, d2⟩ := ih _ _ _ _ _ M bs y.1 y.2 y1 ht
        exact ⟨M1, by rw [bnd_e d1]; rfl, d2⟩
      rw [if_neg c5] at h ⊢
      by_cases c6 : p1 = 40
      · rw [if_pos c6] at h ⊢
        obtain ⟨y, y1, h⟩ := bnd_i h
        obtain ⟨z, z1, h⟩ := bnd_i h
        cases h
        obtain ⟨M1, d1, d2⟩ := ih _ _ _ _ _ M bs y.1 y.2 y1 ht
        obtain ⟨M2, e1, e2⟩ := ih _ _ _ _ _ M1 y.2 z.1 z.2 z1 d2
        refine ⟨M2, ?_, e2⟩
        rw [bnd_e d1]
        show (gI M1 (o + 56) 0 3 fun x176 => ck M1 (o + 56) 0 <| bnd (fn_rd n 0 M1 (o + 56) x176 1 1 p4) fun y183 => pr2 y183 fun c183 M183 => some ((y.1 + c183), M183)) = _
        rw [g3 _ d2, ck_e (t56 d2), bnd_e e1]
        rfl
      rw [if_neg c6] at h ⊢
      by_cases c7 : p1 = 50
      · rw [if_pos c7] at h ⊢
        obtain ⟨y, y1, h⟩ := bnd_i h
        cases h
        obtain ⟨M1, d1, d2⟩ := ih _ _ _ _ _ M bs y.1 y.2 y1 ht
        exact ⟨M1, by rw [bnd_e d1]; rfl, d2⟩
      rw [if_neg c7] at h ⊢
      by_cases c8 : p1 = 51
      · rw [if_pos c8] at h ⊢
        obtain ⟨y, y1, h⟩ := bnd_i h
        cases h
        obtain ⟨M1, d1, d2⟩ := ih _ _ _ _ _ M bs y.1 y.2 y1 ht
        exact ⟨M1, by rw [bnd_e d1]; rfl, d2⟩
      rw [if_neg c8] at h ⊢
      by_cases c9 : p1 = 60
      · rw [if_pos c9] at h ⊢
        obtain ⟨y, y1, h⟩ := bnd_i h
        cases h
        obtain ⟨M1, d1, d2⟩ := ih _ _ _ _ _ M bs y.1 y.2 y1 ht
        exact ⟨M1, by rw [g2 _ ht, bnd_e d1]; rfl, d2⟩
      rw [if_neg c9] at h ⊢
      by_cases c10 : p1 = 70
      · rw [if_pos c10] at h ⊢
        obtain ⟨y, y1, h⟩ := bnd_i h
        obtain ⟨z, z1, h⟩ := bnd_i h
        cases h
        obtain ⟨M1, d1, d2⟩ := ih _ _ _ _ _ M bs y.1 y.2 y1 ht
        obtain ⟨M2, e1, e2⟩ := ih _ _ _ _ _ M1 y.2 z.1 z.2 z1 d2
        refine ⟨M2, ?_, e2⟩
        rw [bnd_e d1]
        show (ck M1 (o + 56) 0 <| bnd (fn_rd n 0 M1 (o + 56) p2 0 2 p4) fun y241 => pr2 y241 fun c241 M241 => some ((y.1 + c241), M241)) = _
        rw [ck_e (t56 d2), bnd_e e1]
        rfl
      rw [if_neg c10] at h ⊢
      by_cases c11 : p1 = 71
      · rw [if_pos c11] at h ⊢
        obtain ⟨y, y1, h⟩ := bnd_i h
        cases h
        obtain ⟨M1, d1, d2⟩ := ih _ _ _ _ _ M bs y.1 y.2 y1 ht
        exact ⟨M1, by rw [bnd_e d1]; simp only [pr2]; exact g4 _ d2, d2⟩
      rw [if_neg c11] at h ⊢
      cases h
      exact ⟨M, rfl, ht⟩
/-! the reference -/
theorem body_m (hS : SHP M0 o) (h : TRm M0 M o bs) (hl : bs.length < 90) : ∃ M1, fn_X9_body M (o + 78) b = some M1 ∧ TRm M0 M1 o (bs ++ [b]) := by
  obtain ⟨h1, h2, h3⟩ := h
  have hS' := h1.shp hS
  by_cases q : 20 ≤ bs.length
  · have f1 : 20 ≤ nI bs.length := nI_le (a := 20) q (by omega)
    refine ⟨sI M (o + 78) 64 (nI (bs.length + 1)), ?_, h1.sI (Or.inr ⟨rfl, rfl⟩), fun k k1 k2 => ?_, ?_⟩
    · simp only [fn_X9_body, jn_X9_body_19, h3, f1, nI_1, mt_sI, mt_sJ, mt_sP, mt_rI, mt_rJ, ml_sI, ml_sJ, ml_sP, ml_rI, ml_rJ, mP_sI, mP_sJ, mP_rI, mP_rJ, SHP_sI, SHP_sJ, SHP_rI, SHP_rJ, mI_sI, mI_rI, mI_sJ, mI_rJ, mI_sP, mJ_sI, mJ_rI, mJ_sP, mJ_sJ, mJ_rJ, gI_e, pI_e, ck_e, bnd_s, nm_eq, pr2_e, cnul_0, cnul_1, drf_1, sm_1, sm_2, aI_e, aJ_e, wI_e, wJ_e, aL_e, cpI_e, cpJ_e, Nat.reduceLeDiff, Nat.reduceEqDiff, Nat.add_left_cancel_iff, ad0, ad1, false_and, and_false, true_and, and_true, reduceIte, if_true, if_false, zb0, zb1, Int32.reduceLT, Int32.reduceLE, i10, nw1, nw2, nt1, nt2, not_true_eq_false, not_false_eq_true, mt_78, mt_79, ml_79, mt_80, ml_80, mt_81, ml_81, mt_82, ml_82, mt_83, ml_83, mt_84, ml_84, mt_85, ml_85, mt_86, ml_86, mt_87, ml_87, mt_88, ml_88, mt_89, ml_89, mt_90, ml_90, mt_91, ml_91, mt_92, ml_92, mt_93, ml_93, mt_94, ml_94, mt_95, ml_95, mt_96, ml_96, mt_97, ml_97, mt_98, ml_98, mt_99, ml_99, mt_100, ml_100, mt_101, ml_101, mt_102, ml_102, mt_103, ml_103, mt_104, ml_104, mt_105, ml_105, mt_106, ml_106, mt_107, ml_107, mt_108, ml_108, mt_109, ml_109, mt_110, ml_110, mt_111, ml_111, mt_112, ml_112, mt_113, ml_113, mt_114, ml_114, mt_115, ml_115, mt_116, ml_116, mt_117, ml_117, mt_118, ml_118, mt_119, ml_119, mt_120, ml_120, mt_121, ml_121, mt_122, ml_122, mt_123, ml_123, gP_78_2, gP_78_3, gP_78_4, gP_78_5, gP_78_6, gP_78_12, gP_78_13, gP_78_14, gP_78_15, gP_78_16, gP_78_17, gP_78_18, gP_78_19, gP_78_23, gP_78_24, gP_78_26, gP_78_27, gP_78_28, gP_78_31, gP_78_32, gP_78_34, gP_78_35, gP_78_36, gP_78_37, gP_78_40, gP_78_41, gP_78_42, gP_78_43, gP_78_52, gP_78_53, gP_78_54, gP_78_55, gP_78_56, gP_78_57, gP_78_58, gP_78_59, gP_78_60, gP_78_61, gP_78_62, gP_78_63, gP_78_65, gP_78_66, gP_78_67, gP_78_68, gP_78_69, hS']
    · rw [mI_sI, if_neg (by omega), getD_l (by omega)]; exact h2 k k1 (by omega)
    · rw [mI_sI, if_pos ⟨rfl, rfl⟩, List.length_append]; rfl
  · have f1 : ¬ 20 ≤ nI bs.length := by show ¬ nI 20 ≤ nI bs.length; rw [nI_leI (by decide) (by omega)]; exact q
    have l20 : bs.length < 20 := by omega
    refine ⟨sI (sI M (o + 119) bs.length b) (o + 78) 64 (nI (bs.length + 1)), ?_, (h1.sI (Or.inl ⟨rfl, l20⟩)).sI (Or.inr ⟨rfl, rfl⟩), fun k k1 k2 => ?_, ?_⟩
    · simp only [fn_X9_body, jn_X9_body_19, h3, f1, nI_1, mt_sI, mt_sJ, mt_sP, mt_rI, mt_rJ, ml_sI, ml_sJ, ml_sP, ml_rI, ml_rJ, mP_sI, mP_sJ, mP_rI, mP_rJ, SHP_sI, SHP_sJ, SHP_rI, SHP_rJ, mI_sI, mI_rI, mI_sJ, mI_rJ, mI_sP, mJ_sI, mJ_rI, mJ_sP, mJ_sJ, mJ_rJ, gI_e, pI_e, ck_e, bnd_s, nm_eq, pr2_e, cnul_0, cnul_1, drf_1, sm_1, sm_2, aI_e, aJ_e, wI_e, wJ_e, aL_e, cpI_e, cpJ_e, Nat.reduceLeDiff, Nat.reduceEqDiff, Nat.add_left_cancel_iff, ad0, ad1, false_and, and_false, true_and, and_true, reduceIte, if_true, if_false, zb0, zb1, Int32.reduceLT, Int32.reduceLE, i10, nw1, nw2, nt1, nt2, not_true_eq_false, not_false_eq_true, mt_78, mt_79, ml_79, mt_80, ml_80, mt_81, ml_81, mt_82, ml_82, mt_83, ml_83, mt_84, ml_84, mt_85, ml_85, mt_86, ml_86, mt_87, ml_87, mt_88, ml_88, mt_89, ml_89, mt_90, ml_90, mt_91, ml_91, mt_92, ml_92, mt_93, ml_93, mt_94, ml_94, mt_95, ml_95, mt_96, ml_96, mt_97, ml_97, mt_98, ml_98, mt_99, ml_99, mt_100, ml_100, mt_101, ml_101, mt_102, ml_102, mt_103, ml_103, mt_104, ml_104, mt_105, ml_105, mt_106, ml_106, mt_107, ml_107, mt_108, ml_108, mt_109, ml_109, mt_110, ml_110, mt_111, ml_111, mt_112, ml_112, mt_113, ml_113, mt_114, ml_114, mt_115, ml_115, mt_116, ml_116, mt_117, ml_117, mt_118, ml_118, mt_119, ml_119, mt_120, ml_120, mt_121, ml_121, mt_122, ml_122, mt_123, ml_123, gP_78_2, gP_78_3, gP_78_4, gP_78_5, gP_78_6, gP_78_12, gP_78_13, gP_78_14, gP_78_15, gP_78_16, gP_78_17, gP_78_18, gP_78_19, gP_78_23, gP_78_24, gP_78_26, gP_78_27, gP_78_28, gP_78_31, gP_78_32, gP_78_34, gP_78_35, gP_78_36, gP_78_37, gP_78_40, gP_78_41, gP_78_42, gP_78_43, gP_78_52, gP_78_53, gP_78_54, gP_78_55, gP_78_56, gP_78_57, gP_78_58, gP_78_59, gP_78_60, gP_78_61, gP_78_62, gP_78_63, gP_78_65, gP_78_66, gP_78_67, gP_78_68, gP_78_69, hS', l20]
    · rw [List.length_append, List.length_singleton] at k2
      rw [mI_sI, if_neg (by omega), mI_sI]
      by_cases e : k = bs.length
      · rw [if_pos ⟨rfl, e⟩, e, getD_r]
      · rw [if_neg (fun z => e z.2), getD_l (by omega)]; exact h2 k k1 (by omega)
    · rw [mI_sI, if_pos ⟨rfl, rfl⟩, List.length_append]; rfl
end AC1
section AC2
variable {M0 M : QM} {o c : Nat} {bs : List Int32} {kd v x : Int32}
/-- what the reference reads of the walker -/
def WA (M0 : QM) (o c : Nat) (kd v : Int32) : Prop := SHP M0 o ∧ c < 5 ∧ mI M0 (o + 80) c = kd ∧ mI M0 (o + 81) c = v
theorem TRm.k (h : TRm M0 M o bs) (hW : WA M0 o c kd v) : SHP M o ∧ mI M (o + 80) c = kd ∧ mI M (o + 81) c = v :=
  ⟨h.1.shp hW.1, (h.1.2.2.2.2 80 c (by unfold Z119; omega)).trans hW.2.2.1, (h.1.2.2.2.2 81 c (by unfold Z119; omega)).trans hW.2.2.2⟩
theorem len_s {b : Int32} {n : Nat} (h : bs.length < n) : (bs ++ [b]).length < n + 1 := by rw [List.length_append, List.length_singleton]; omega
theorem WW_m (hW : WA M0 o c kd v) (h : TRm M0 M o bs) (hl : bs.length < 90) : ∃ M1, fn_X9_walkerWalks M (o + 78) (nI c) x = some ((pmWW (nI c) x bs).1, M1) ∧ TRm M0 M1 o (pmWW (nI c) x bs).2 := by
  obtain ⟨M1, n1, n2⟩ := body_m (b := 10) hW.1 h hl
  exact ⟨M1, by unfold fn_X9_walkerWalks; rw [bnd_e n1]; rfl, n2⟩
set_option maxHeartbeats 1000000 in
theorem W_m (hW : WA M0 o c kd v) (h : TRm M0 M o bs) (hl : bs.length < 85) : ∃ M1, fn_X9_walksAct M (o + 78) (nI c) x = some ((pmW kd v (nI c) x bs).1, M1) ∧ TRm M0 M1 o (pmW kd v (nI c) x bs).2 := by
  have hc := hW.2.1
  obtain ⟨hS, k1, k2⟩ := h.k hW
  unfold fn_X9_walksAct pmW
  rw [gP_78_3 hS, aI_e (mt_80 hS) (by rw [ml_80 hS]; exact hc) (by rw [ml_80 hS]; decide), k1]
  have one : ∀ (b y : Int32), ∃ M1 M2, fn_X9_body M (o + 78) b = some M1 ∧ mt M1 (o + 78) = 9 ∧ fn_X9_walkerWalks M1 (o + 78) (nI c) y = some ((pmWW (nI c) y (bs ++ [b])).1, M2) ∧ TRm M0 M2 o (pmWW (nI c) y (bs ++ [b])).2 := by
    intro b y
    obtain ⟨M1, n1, n2⟩ := body_m (b := b) hW.1 h (by omega)
    obtain ⟨M2, d1, d2⟩ := WW_m (x := y) hW n2 (by have := len_s (b := b) hl; omega)
    exact ⟨M1, M2, n1, mt_78 (n2.k hW).1, d1, d2⟩
  by_cases q2 : kd = 2
  · rw [if_pos q2, if_pos q2]
    obtain ⟨M1, M2, n1, n2, n3, n4⟩ := one 30 (x * 3)
    exact ⟨M2, by rw [bnd_e n1, ck_e n2, bnd_e n3]; rfl, n4⟩
  rw [if_neg q2, if_neg q2]
  by_cases q4 : kd = 4
  · rw [if_pos q4, if_pos q4]
    obtain ⟨M1, M2, n1, n2, n3, n4⟩ := one 50 x
    exact ⟨M2, by rw [bnd_e n1, ck_e n2, bnd_e n3]; rfl, n4⟩
  rw [if_neg q4, if_neg q4]
  by_cases q5 : kd = 5
  · rw [if_pos q5, if_pos q5]
    obtain ⟨M1, M2, n1, n2, n3, n4⟩ := one 30 (x * 3)
    exact ⟨M2, by rw [bnd_e n1, ck_e n2, bnd_e n3]; rfl, n4⟩
  rw [if_neg q5, if_neg q5]
  by_cases q6 : kd = 6
  · rw [if_pos q6, if_pos q6]
    obtain ⟨M1, M2, n1, n2, n3, n4⟩ := one 71 x
    obtain ⟨hS2, k3, k4⟩ := n4.k hW
    refine ⟨M2, ?_, n4⟩
    rw [bnd_e n1, ck_e n2, bnd_e n3]
    simp only [pr2]
    rw [gP_78_4 hS2, aI_e (mt_81 hS2) (by rw [ml_81 hS2]; exact hc) (by rw [ml_81 hS2]; decide), k4]
  rw [if_neg q6, if_neg q6]
  obtain ⟨M2, d1, d2⟩ := WW_m (x := x) hW h (by omega)
  exact ⟨M2, by rw [bnd_e d1]; rfl, d2⟩
theorem pmWW_l {i : Int32} {n : Nat} (h : bs.length < n) : (pmWW i x bs).2.length < n + 1 := len_s h
theorem pmW_l {i : Int32} {n : Nat} (h : bs.length < n) : (pmW kd v i x bs).2.length < n + 2 := by
  unfold pmW
  have one : ∀ (b y : Int32), (pmWW i y (bs ++ [b])).2.length < n + 2 := fun b y => pmWW_l (len_s h)
  by_cases q2 : kd = 2
  · rw [if_pos q2]; exact one _ _
  rw [if_neg q2]
  by_cases q4 : kd = 4
  · rw [if_pos q4]; exact one 50 x
  rw [if_neg q4]
  by_cases q5 : kd = 5
  · rw [if_pos q5]; exact one _ _
  rw [if_neg q5]
  by_cases q6 : kd = 6
  · rw [if_pos q6]; exact one 71 x
  rw [if_neg q6]
  have := pmWW_l (x := x) (i := i) h
  omega
theorem pmWS_l {i : Int32} {n : Nat} (h : bs.length < n) : (pmWS kd v i x bs).2.length < n + 3 := pmW_l (len_s h)
theorem pmSS_l {i : Int32} {n : Nat} (h : bs.length < n) : (pmSS kd v i x bs).2.length < n + 4 := pmWS_l (len_s h)
theorem pmS_l {i : Int32} {n : Nat} (h : bs.length < n) : (pmS kd v i x bs).2.length < n + 5 := by
  unfold pmS
  by_cases q1 : kd = 1
  · rw [if_pos q1]; have := pmSS_l (kd := kd) (v := v) (x := x) (i := i) h; omega
  rw [if_neg q1]
  by_cases q4 : kd = 4
  · rw [if_pos q4]; have := pmSS_l (kd := kd) (v := v) (x := x + 1) (i := i) (len_s (b := 51) h); omega
  rw [if_neg q4]
  by_cases q6 : kd = 6
  · rw [if_pos q6]; exact pmWW_l (pmWS_l (len_s h))
  rw [if_neg q6]
  have := pmWS_l (kd := kd) (v := v) (x := x) (i := i) h
  omega
theorem pmWT_l {i : Int32} {n : Nat} (h : bs.length < n) : (pmWT kd v i x bs).2.length < n + 6 := pmS_l (len_s h)
theorem WS_m (hW : WA M0 o c kd v) (h : TRm M0 M o bs) (hl : bs.length < 80) : ∃ M1, fn_X9_walkerSinks M (o + 78) (nI c) x = some ((pmWS kd v (nI c) x bs).1, M1) ∧ TRm M0 M1 o (pmWS kd v (nI c) x bs).2 := by
  have hc := hW.2.1
  obtain ⟨M1, n1, n2⟩ := body_m (b := 11) hW.1 h (by omega)
  obtain ⟨M2, d1, d2⟩ := W_m (x := x) hW n2 (by have := len_s (b := 11) hl; omega)
  obtain ⟨hS2, k3, k4⟩ := d2.k hW
  refine ⟨M2, ?_, d2⟩
  unfold fn_X9_walkerSinks
  rw [bnd_e n1, ck_e (mt_78 (n2.k hW).1), bnd_e d1]
  simp only [pr2]
  rw [gP_78_4 hS2, aI_e (mt_81 hS2) (by rw [ml_81 hS2]; exact hc) (by rw [ml_81 hS2]; decide), k4]
  rfl
theorem SS_m (hW : WA M0 o c kd v) (h : TRm M0 M o bs) (hl : bs.length < 78) : ∃ M1, fn_X9_shrewSinks M (o + 78) (nI c) x = some ((pmSS kd v (nI c) x bs).1, M1) ∧ TRm M0 M1 o (pmSS kd v (nI c) x bs).2 := by
  obtain ⟨M1, n1, n2⟩ := body_m (b := 20) hW.1 h (by omega)
  obtain ⟨M2, d1, d2⟩ := WS_m (x := x) hW n2 (by have := len_s (b := 20) hl; omega)
  refine ⟨M2, ?_, d2⟩
  unfold fn_X9_shrewSinks
  rw [bnd_e n1, ck_e (mt_78 (n2.k hW).1), bnd_e d1]
  rfl
set_option maxHeartbeats 1000000 in
theorem S_m (hW : WA M0 o c kd v) (h : TRm M0 M o bs) (hl : bs.length < 70) : ∃ M1, fn_X9_sinksAct M (o + 78) (nI c) x = some ((pmS kd v (nI c) x bs).1, M1) ∧ TRm M0 M1 o (pmS kd v (nI c) x bs).2 := by
  have hc := hW.2.1
  obtain ⟨hS, k1, k2⟩ := h.k hW
  unfold fn_X9_sinksAct pmS
  rw [gP_78_3 hS, aI_e (mt_80 hS) (by rw [ml_80 hS]; exact hc) (by rw [ml_80 hS]; decide), k1]
  by_cases q1 : kd = 1
  · rw [if_pos q1, if_pos q1]
    obtain ⟨M2, d1, d2⟩ := SS_m (x := x) hW h (by omega)
    exact ⟨M2, by rw [bnd_e d1]; rfl, d2⟩
  rw [if_neg q1, if_neg q1]
  by_cases q4 : kd = 4
  · rw [if_pos q4, if_pos q4]
    obtain ⟨M1, n1, n2⟩ := body_m (b := 51) hW.1 h (by omega)
    obtain ⟨M2, d1, d2⟩ := SS_m (x := x + 1) hW n2 (by have := len_s (b := 51) hl; omega)
    exact ⟨M2, by rw [bnd_e n1, ck_e (mt_78 (n2.k hW).1), bnd_e d1]; rfl, d2⟩
  rw [if_neg q4, if_neg q4]
  by_cases q6 : kd = 6
  · rw [if_pos q6, if_pos q6]
    obtain ⟨M1, n1, n2⟩ := body_m (b := 70) hW.1 h (by omega)
    obtain ⟨M2, d1, d2⟩ := WS_m (x := x) hW n2 (by have := len_s (b := 70) hl; omega)
    obtain ⟨M3, e1, e2⟩ := WW_m (x := 2) hW d2 (by have := pmWS_l (kd := kd) (v := v) (x := x) (i := nI c) (len_s (b := 70) hl); omega)
    refine ⟨M3, ?_, e2⟩
    rw [bnd_e n1, ck_e (mt_78 (n2.k hW).1), bnd_e d1]
    simp only [pr2]
    rw [ck_e (mt_78 (d2.k hW).1), bnd_e e1]
  rw [if_neg q6, if_neg q6]
  obtain ⟨M2, d1, d2⟩ := WS_m (x := x) hW h (by omega)
  exact ⟨M2, by rw [bnd_e d1]; rfl, d2⟩
theorem WT_m (hW : WA M0 o c kd v) (h : TRm M0 M o bs) (hl : bs.length < 60) : ∃ M1, fn_X9_walkerTells M (o + 78) (nI c) x = some ((pmWT kd v (nI c) x bs).1, M1) ∧ TRm M0 M1 o (pmWT kd v (nI c) x bs).2 := by
  obtain ⟨M1, n1, n2⟩ := body_m (b := 12) hW.1 h (by omega)
  obtain ⟨M2, d1, d2⟩ := S_m (x := x) hW n2 (by have := len_s (b := 12) hl; omega)
  refine ⟨M2, ?_, d2⟩
  unfold fn_X9_walkerTells
  rw [bnd_e n1, ck_e (mt_78 (n2.k hW).1), bnd_e d1]
  rfl
set_option maxHeartbeats 1000000 in
theorem T_m (hW : WA M0 o c kd v) (h : TRm M0 M o bs) (hl : bs.length < 50) : ∃ M1, fn_X9_tellsAct M (o + 78) (nI c) x = some ((pmT kd v (nI c) x bs).1, M1) ∧ TRm M0 M1 o (pmT kd v (nI c) x bs).2 := by
  have hc := hW.2.1
  obtain ⟨hS, k1, k2⟩ := h.k hW
  unfold fn_X9_tellsAct pmT
  rw [gP_78_3 hS, aI_e (mt_80 hS) (by rw [ml_80 hS]; exact hc) (by rw [ml_80 hS]; decide), k1]
  have two : ∃ M1 M2 M3, fn_X9_body M (o + 78) 40 = some M1 ∧ mt M1 (o + 78) = 9 ∧ fn_X9_walkerTells M1 (o + 78) (nI c) x = some ((pmWT kd v (nI c) x (bs ++ [40])).1, M2) ∧ mt M2 (o + 78) = 9 ∧ fn_X9_sinksAct M2 (o + 78) (nI c) 1 = some ((pmS kd v (nI c) 1 (pmWT kd v (nI c) x (bs ++ [40])).2).1, M3) ∧ TRm M0 M3 o (pmS kd v (nI c) 1 (pmWT kd v (nI c) x (bs ++ [40])).2).2 := by
    obtain ⟨M1, n1, n2⟩ := body_m (b := 40) hW.1 h (by omega)
    obtain ⟨M2, d1, d2⟩ := WT_m (x := x) hW n2 (by have := len_s (b := 40) hl; omega)
    obtain ⟨M3, e1, e2⟩ := S_m (x := 1) hW d2 (by have := pmWT_l (kd := kd) (v := v) (x := x) (i := nI c) (len_s (b := 40) hl); omega)
    exact ⟨M1, M2, M3, n1, mt_78 (n2.k hW).1, d1, mt_78 (d2.k hW).1, e1, e2⟩
  by_cases q3 : kd = 3
  · rw [if_pos q3, if_pos q3]
    obtain ⟨M1, M2, M3, n1, n2, d1, d2, e1, e2⟩ := two
    refine ⟨M3, ?_, e2⟩
    rw [bnd_e n1, ck_e n2, bnd_e d1]
    simp only [pr2]
    rw [ck_e d2, bnd_e e1]
  rw [if_neg q3, if_neg q3]
  by_cases q5 : kd = 5
  · rw [if_pos q5, if_pos q5]
    obtain ⟨M1, n1, n2⟩ := body_m (b := 60) hW.1 h (by omega)
    obtain ⟨M2, d1, d2⟩ := WT_m (x := x - nI c) hW n2 (by have := len_s (b := 60) hl; omega)
    exact ⟨M2, by rw [bnd_e n1, ck_e (mt_78 (n2.k hW).1), bnd_e d1]; rfl, d2⟩
  rw [if_neg q5, if_neg q5]
  by_cases q6 : kd = 6
  · rw [if_pos q6, if_pos q6]
    obtain ⟨M1, M2, M3, n1, n2, d1, d2, e1, e2⟩ := two
    refine ⟨M3, ?_, e2⟩
    rw [bnd_e n1, ck_e n2, bnd_e d1]
    simp only [pr2]
    rw [ck_e d2, bnd_e e1]
  rw [if_neg q6, if_neg q6]
  obtain ⟨M2, d1, d2⟩ := WT_m (x := x) hW h (by omega)
  exact ⟨M2, by rw [bnd_e d1]; rfl, d2⟩
end AC2
/-! THE TRACE anew -/
def Gt (G : GG) (bs : List Int32) : GG := fun j k => if j = 14 then bs.getD k 0 else if j = 1 ∧ k = 9 then nI bs.length else G j k
def ZT : Nat → Nat → Prop := fun a k => scr a k = true ∨ (a = 57 ∧ k < 20) ∨ (a = 56 ∧ k = 1) ∨ (a = 119 ∧ k < 20) ∨ (a = 78 ∧ k = 64)
section TR1
variable {M N : QM} {o : Nat} {G : GG} {bs : List Int32}
theorem Gt_ne {j k : Nat} (h : ¬ j = 14) (h2 : ¬ (j = 1 ∧ k = 9)) : Gt G bs j k = G j k := by
  unfold Gt; rw [if_neg h, if_neg h2]
theorem Gt_14 {k : Nat} : Gt G bs 14 k = bs.getD k 0 := rfl
theorem Gt_9 : Gt G bs 1 9 = nI bs.length := rfl
theorem Lv_t {j k : Nat} (hl : bs.length ≤ 100) (h : Lv (Gt G bs) j k) : (j = 14 ∧ k < 20 ∧ k < bs.length) ∨ (¬ j = 14 ∧ Lv G j k) := by
  have hj := dm_lt h.1
  obtain ⟨h1, h2, h3, h4⟩ := h
  by_cases e : j = 14
  · refine Or.inl ⟨e, ?_, ?_⟩
    · rw [e] at h1; exact h1
    · rw [e] at h2
      rw [szv_at (i := 9) (by decide) (by decide)] at h2
      unfold gN at h2
      rw [Gt_9, nI_clamp (by omega)] at h2
      exact h2
  · refine Or.inr ⟨e, h1, ?_, ?_, ?_⟩
    · have hs : szT.getD j 0 ≤ 16 ∧ ¬ szT.getD j 0 = 10 := (by decide : ∀ j, j < 33 → ¬ j = 14 → szT.getD j 0 ≤ 16 ∧ ¬ szT.getD j 0 = 10) j hj e
      have : szv (Gt G bs) j = szv G j := by
        unfold szv gN
        by_cases h0 : szT.getD j 0 = 0
        · rw [if_pos h0, if_pos h0]
        · rw [if_neg h0, if_neg h0, Gt_ne (j := 1) (by decide) (by omega), Gt_ne (j := 21) (by decide) (by omega)]
      rw [this] at h2
      exact h2
    · rw [Gt_ne (j := 9) (by decide) (by omega)] at h3; exact h3
    · rw [Gt_ne (j := 29) (by decide) (by omega)] at h4; exact h4
theorem ZT_fx (a k : Nat) (h : ZT a k) : fx a k = false := by
  unfold ZT at h
  rcases h with h | ⟨rfl, h⟩ | ⟨rfl, rfl⟩ | ⟨rfl, h⟩ | ⟨rfl, rfl⟩
  · cases e : fx a k with
    | false => rfl
    | true => rw [fx_scr e] at h; cases h
  · unfold fx; simp
  · rfl
  · unfold fx; simp
  · rfl
theorem ZT_c {j k : Nat} (hk : k < dm j) (h0 : ¬ j = 14) (h1 : ¬ (j = 1 ∧ k = 9)) : ¬ ZT (cL j k).1 (cL j k).2 := by
  intro h
  have ok := cL_ok j (dm_lt hk) k hk
  unfold ZT at h
  rcases h with h | ⟨e, h⟩ | ⟨e, h⟩ | ⟨e, h⟩ | ⟨e, h⟩
  · rw [cL_scr j (dm_lt hk) k hk] at h; cases h
  · exact h0 (cL_inj j (dm_lt hk) k hk 14 (by decide) (cL j k).2 h (Prod.ext e rfl)).1
  · exact h1 (cL_inj j (dm_lt hk) k hk 1 (by decide) 9 (by decide) (Prod.ext e h))
  · omega
  · omega
theorem ZT_m {j k : Nat} (hk : k < dm j) (h0 : ¬ j = 14) (h1 : ¬ (j = 1 ∧ k = 9)) : ¬ ZT (mL j k).1 (mL j k).2 := by
  intro h
  have ok := mL_ok j (dm_lt hk) k hk
  unfold ZT at h
  rcases h with h | ⟨e, h⟩ | ⟨e, h⟩ | ⟨e, h⟩ | ⟨e, h⟩
  · rw [mL_scr j (dm_lt hk) k hk] at h; cases h
  · omega
  · omega
  · exact h0 (mL_inj j (dm_lt hk) k hk 14 (by decide) (mL j k).2 h (Prod.ext e rfl)).1
  · exact h1 (mL_inj j (dm_lt hk) k hk 1 (by decide) 9 (by decide) (Prod.ext e h))
theorem RR.tr (h : RR M o G) (hs : SQ M N o ZT) (c1 : ∀ k, k < 20 → k < bs.length → mI N (o + 57) k = bs.getD k 0) (c2 : ∀ k, k < 20 → k < bs.length → mI N (o + 119) k = bs.getD k 0) (c3 : mI N (o + 56) 1 = nI bs.length) (c4 : mI N (o + 78) 64 = nI bs.length) (hb : ∀ k, k < bs.length → bd (bs.getD k 0) 99) (hl : bs.length ≤ 100) : RR N o (Gt G bs) := by
  have hf : ∀ a k, fx a k = true → mI N (o + a) k = mI M (o + a) k := fun a k q => hs.2.2.2.2 a k fun z => by rw [ZT_fx a k z] at q; cases q
  refine ⟨⟨hs.shp h.1.1, fun j k q => ?_, fun j k q => ?_, fun t k a b => ?_, h.1.2.2.2.2.1.fr hf, h.1.2.2.2.2.2.fr hs.1 hs.2.1 hs.2.2.1 hf ⟨Gt_ne (by decide) (by decide), Gt_ne (by decide) (by decide), Gt_ne (by decide) (by decide), fun x i => Gt_ne (by omega) (by omega)⟩⟩, fun j k q hj => ?_, ⟨fun k q => ?_, fun k q => ?_⟩, fun t ht => ?_⟩
  · rcases Lv_t hl q with ⟨rfl, q1, q2⟩ | ⟨q1, q2⟩
    · exact c1 k q1 q2
    · by_cases h1 : j = 1 ∧ k = 9
      · rw [h1.1, h1.2]; exact c3
      · rw [hs.2.2.2.2 _ _ (ZT_c q2.1 q1 h1), Gt_ne q1 h1]; exact h.1.2.1 j k q2
  · rcases Lv_t hl q with ⟨rfl, q1, q2⟩ | ⟨q1, q2⟩
    · exact c2 k q1 q2
    · by_cases h1 : j = 1 ∧ k = 9
      · rw [h1.1, h1.2]; exact c4
      · rw [hs.2.2.2.2 _ _ (ZT_m q2.1 q1 h1), Gt_ne q1 h1]; exact h.1.2.2.1 j k q2
  · rw [hs.2.2.2.1, hs.2.2.2.1]; exact h.1.2.2.2.1 t k a b
  · rcases Lv_t hl q with ⟨rfl, q1, q2⟩ | ⟨q1, q2⟩
    · exact hb k q2
    · by_cases h1 : j = 1 ∧ k = 9
      · rw [h1.1, h1.2]; exact bd_nI hl
      · rw [Gt_ne q1 h1]; exact h.2.1 j k q2 hj
  · unfold gN
    rw [Gt_ne (by decide) (by omega), Gt_ne (by decide) (by omega)]
    rcases Lv_t hl q with ⟨q1, -, -⟩ | ⟨-, q2⟩
    · exact absurd q1 (by decide)
    · exact h.2.2.1.1 k q2
  · unfold gN
    rw [Gt_ne (by decide) (by omega), Gt_ne (by decide) (by omega)]
    rcases Lv_t hl q with ⟨q1, -, -⟩ | ⟨-, q2⟩
    · exact absurd q1 (by decide)
    · exact h.2.2.1.2 k q2
  · rw [Gt_ne (by decide) (by omega), Gt_ne (by decide) (by omega)]; exact h.2.2.2 t ht
end TR1
set_option maxHeartbeats 2000000 in
theorem op_act {M : QM} {o : Nat} {G : GG} (h : RR M o G) (p1 p2 p3 : Int32) : ∃ v M1 M2 G', fn_X8_act M o p1 p2 p3 = some (v, M1) ∧ fn_X9_act M1 (o + 78) p1 p2 p3 = some (v, M2) ∧ RR M2 o G' := by
  have hS := h.1.1
  obtain ⟨w, w1, w2, w3, w4, w5, w6⟩ := h.wk p1
  have none : ∀ N, SQ M N o ZT → mI N (o + 56) 1 = 0 → mI N (o + 78) 64 = 0 → RR N o (Gt G []) := fun N s c3 c4 => h.tr s (fun k _ q => absurd q (Nat.not_lt_zero _)) (fun k _ q => absurd q (Nat.not_lt_zero _)) c3 c4 (fun k q => absurd q (Nat.not_lt_zero _)) (Nat.zero_le _)
  have z56 : ZT 56 1 := Or.inr (Or.inr (Or.inl ⟨rfl, rfl⟩))
  have z78 : ZT 78 64 := Or.inr (Or.inr (Or.inr (Or.inr ⟨rfl, rfl⟩)))
  have s0 : SQ M (sI (sI M (o + 56) 1 0) (o + 78) 64 0) o ZT := (SQ.rfl.sI z56).sI z78
  have r0 := none _ s0 (by simp only [mt_sI, mt_sJ, mt_sP, mt_rI, mt_rJ, ml_sI, ml_sJ, ml_sP, ml_rI, ml_rJ, mP_sI, mP_sJ, mP_rI, mP_rJ, SHP_sI, SHP_sJ, SHP_rI, SHP_rJ, mI_sI, mI_rI, mI_sJ, mI_rJ, mI_sP, mJ_sI, mJ_rI, mJ_sP, mJ_sJ, mJ_rJ, gI_e, pI_e, ck_e, bnd_s, nm_eq, pr2_e, cnul_0, cnul_1, drf_1, sm_1, sm_2, aI_e, aJ_e, wI_e, wJ_e, aL_e, cpI_e, cpJ_e, Nat.reduceLeDiff, Nat.reduceEqDiff, Nat.add_left_cancel_iff, ad0, ad1, false_and, and_false, true_and, and_true, reduceIte, if_true, if_false, zb0, zb1, Int32.reduceLT, Int32.reduceLE, i10, nw1, nw2, nt1, nt2, not_true_eq_false, not_false_eq_true]) (by simp only [mt_sI, mt_sJ, mt_sP, mt_rI, mt_rJ, ml_sI, ml_sJ, ml_sP, ml_rI, ml_rJ, mP_sI, mP_sJ, mP_rI, mP_rJ, SHP_sI, SHP_sJ, SHP_rI, SHP_rJ, mI_sI, mI_rI, mI_sJ, mI_rJ, mI_sP, mJ_sI, mJ_rI, mJ_sP, mJ_sJ, mJ_rJ, gI_e, pI_e, ck_e, bnd_s, nm_eq, pr2_e, cnul_0, cnul_1, drf_1, sm_1, sm_2, aI_e, aJ_e, wI_e, wJ_e, aL_e, cpI_e, cpJ_e, Nat.reduceLeDiff, Nat.reduceEqDiff, Nat.add_left_cancel_iff, ad0, ad1, false_and, and_false, true_and, and_true, reduceIte, if_true, if_false, zb0, zb1, Int32.reduceLT, Int32.reduceLE, i10, nw1, nw2, nt1, nt2, not_true_eq_false, not_false_eq_true])
  rcases w6 with ⟨c, hc, hc5, rfl, b1, b2⟩ | ⟨b1, b2⟩
  · rcases rng p2 3 3 2 rfl rfl (by decide) (by decide) with ⟨a, ha, rfl, d1, d2, d3⟩ | ⟨d1, d2, d3⟩
    · have l2 : Lv G 2 c := Lv_s (i := 1) hc5 (by decide) (by decide) w3 hc (by decide)
      have l3 : Lv G 3 c := Lv_s (i := 1) hc5 (by decide) (by decide) w3 hc (by decide)
      obtain ⟨k, hk, hk2⟩ := h.2.1 2 c l2 (by decide)
      have hk7 : k < 7 := by have : k ≤ 6 := hk; omega
      have kc := (h.c l2 (a := 17 + 2 * c) (i := 0) rfl).trans hk2
      have vc := h.c l3 (a := 17 + 2 * c) (i := 1) rfl
      have km := (h.m l2 (a := 80) (i := c) rfl).trans hk2
      have vm := h.m l3 (a := 81) (i := c) rfl
      obtain ⟨N, hN⟩ : ∃ N, N = sI (sI (sI (sI M (o + 56) 1 0) (o + 56) 2 (nI c)) (o + 56) 3 (nI k)) (o + 56) 4 (G 3 c) := ⟨_, rfl⟩
      have sN : SQ M N o ZT := by
        rw [hN]
        exact (((SQ.rfl.sI z56).sI (Or.inl rfl)).sI (Or.inl rfl)).sI (Or.inl rfl)
      have hSN := sN.shp hS
      have tc : TRc N N o [] (nI c) (nI k) (G 3 c) := ⟨SQ.rfl, fun k _ q => absurd q (Nat.not_lt_zero _), by rw [hN]; simp only [mt_sI, mt_sJ, mt_sP, mt_rI, mt_rJ, ml_sI, ml_sJ, ml_sP, ml_rI, ml_rJ, mP_sI, mP_sJ, mP_rI, mP_rJ, SHP_sI, SHP_sJ, SHP_rI, SHP_rJ, mI_sI, mI_rI, mI_sJ, mI_rJ, mI_sP, mJ_sI, mJ_rI, mJ_sP, mJ_sJ, mJ_rJ, gI_e, pI_e, ck_e, bnd_s, nm_eq, pr2_e, cnul_0, cnul_1, drf_1, sm_1, sm_2, aI_e, aJ_e, wI_e, wJ_e, aL_e, cpI_e, cpJ_e, Nat.reduceLeDiff, Nat.reduceEqDiff, Nat.add_left_cancel_iff, ad0, ad1, false_and, and_false, true_and, and_true, reduceIte, if_true, if_false, zb0, zb1, Int32.reduceLT, Int32.reduceLE, i10, nw1, nw2, nt1, nt2, not_true_eq_false, not_false_eq_true]; rfl, by rw [hN]; simp only [mt_sI, mt_sJ, mt_sP, mt_rI, mt_rJ, ml_sI, ml_sJ, ml_sP, ml_rI, ml_rJ, mP_sI, mP_sJ, mP_rI, mP_rJ, SHP_sI, SHP_sJ, SHP_rI, SHP_rJ, mI_sI, mI_rI, mI_sJ, mI_rJ, mI_sP, mJ_sI, mJ_rI, mJ_sP, mJ_sJ, mJ_rJ, gI_e, pI_e, ck_e, bnd_s, nm_eq, pr2_e, cnul_0, cnul_1, drf_1, sm_1, sm_2, aI_e, aJ_e, wI_e, wJ_e, aL_e, cpI_e, cpJ_e, Nat.reduceLeDiff, Nat.reduceEqDiff, Nat.add_left_cancel_iff, ad0, ad1, false_and, and_false, true_and, and_true, reduceIte, if_true, if_false, zb0, zb1, Int32.reduceLT, Int32.reduceLE, i10, nw1, nw2, nt1, nt2, not_true_eq_false, not_false_eq_true], by rw [hN]; simp only [mt_sI, mt_sJ, mt_sP, mt_rI, mt_rJ, ml_sI, ml_sJ, ml_sP, ml_rI, ml_rJ, mP_sI, mP_sJ, mP_rI, mP_rJ, SHP_sI, SHP_sJ, SHP_rI, SHP_rJ, mI_sI, mI_rI, mI_sJ, mI_rJ, mI_sP, mJ_sI, mJ_rI, mJ_sP, mJ_sJ, mJ_rJ, gI_e, pI_e, ck_e, bnd_s, nm_eq, pr2_e, cnul_0, cnul_1, drf_1, sm_1, sm_2, aI_e, aJ_e, wI_e, wJ_e, aL_e, cpI_e, cpJ_e, Nat.reduceLeDiff, Nat.reduceEqDiff, Nat.add_left_cancel_iff, ad0, ad1, false_and, and_false, true_and, and_true, reduceIte, if_true, if_false, zb0, zb1, Int32.reduceLT, Int32.reduceLE, i10, nw1, nw2, nt1, nt2, not_true_eq_false, not_false_eq_true], by rw [hN]; simp only [mt_sI, mt_sJ, mt_sP, mt_rI, mt_rJ, ml_sI, ml_sJ, ml_sP, ml_rI, ml_rJ, mP_sI, mP_sJ, mP_rI, mP_rJ, SHP_sI, SHP_sJ, SHP_rI, SHP_rJ, mI_sI, mI_rI, mI_sJ, mI_rJ, mI_sP, mJ_sI, mJ_rI, mJ_sP, mJ_sJ, mJ_rJ, gI_e, pI_e, ck_e, bnd_s, nm_eq, pr2_e, cnul_0, cnul_1, drf_1, sm_1, sm_2, aI_e, aJ_e, wI_e, wJ_e, aL_e, cpI_e, cpJ_e, Nat.reduceLeDiff, Nat.reduceEqDiff, Nat.add_left_cancel_iff, ad0, ad1, false_and, and_false, true_and, and_true, reduceIte, if_true, if_false, zb0, zb1, Int32.reduceLT, Int32.reduceLE, i10, nw1, nw2, nt1, nt2, not_true_eq_false, not_false_eq_true]⟩
      obtain ⟨M1, e1, e2⟩ := rd_c hSN 64 0 (nI k) (nI a) p3 0 N [] (pmA a (nI k) (G 3 c) (nI c) p3).1 (pmA a (nI k) (G 3 c) (nI c) p3).2 (pr_pm k a hk7 ha (G 3 c) (nI c) p3) tc
      have s1 : SQ M M1 o ZT := sN.trans (e2.1.mono fun a k q => by
        rcases q with q | q
        · exact Or.inr (Or.inl q)
        · exact Or.inr (Or.inr (Or.inl q)))
      have hS1 := s1.shp hS
      have n8 : ∀ a k, a = 80 ∨ a = 81 ∨ (a = 78 ∧ k = 0) → ¬ ZT a k := by
        intro a k q z
        unfold ZT at z
        rcases z with z | z | z | z | z
        · rcases q with rfl | rfl | ⟨rfl, rfl⟩
          · revert z; unfold scr; simp
          · revert z; unfold scr; simp
          · revert z; decide
        · omega
        · omega
        · omega
        · omega
      have w51 : mI M1 (o + 78) 0 = nI w := (s1.2.2.2.2 78 0 (n8 78 0 (by omega))).trans w5
      obtain ⟨N2, hN2⟩ : ∃ N2, N2 = sI M1 (o + 78) 64 0 := ⟨_, rfl⟩
      have s2 : SQ M N2 o ZT := by rw [hN2]; exact s1.sI z78
      have hSN2 := s2.shp hS
      have wa : WA N2 o c (nI k) (G 3 c) := ⟨hSN2, hc5, (s2.2.2.2.2 80 c (n8 80 c (by omega))).trans km, (s2.2.2.2.2 81 c (n8 81 c (by omega))).trans vm⟩
      have tm : TRm N2 N2 o [] := ⟨SQ.rfl, fun k _ q => absurd q (Nat.not_lt_zero _), by rw [hN2]; simp only [mt_sI, mt_sJ, mt_sP, mt_rI, mt_rJ, ml_sI, ml_sJ, ml_sP, ml_rI, ml_rJ, mP_sI, mP_sJ, mP_rI, mP_rJ, SHP_sI, SHP_sJ, SHP_rI, SHP_rJ, mI_sI, mI_rI, mI_sJ, mI_rJ, mI_sP, mJ_sI, mJ_rI, mJ_sP, mJ_sJ, mJ_rJ, gI_e, pI_e, ck_e, bnd_s, nm_eq, pr2_e, cnul_0, cnul_1, drf_1, sm_1, sm_2, aI_e, aJ_e, wI_e, wJ_e, aL_e, cpI_e, cpJ_e, Nat.reduceLeDiff, Nat.reduceEqDiff, Nat.add_left_cancel_iff, ad0, ad1, false_and, and_false, true_and, and_true, reduceIte, if_true, if_false, zb0, zb1, Int32.reduceLT, Int32.reduceLE, i10, nw1, nw2, nt1, nt2, not_true_eq_false, not_false_eq_true]; rfl⟩
      obtain ⟨pl, pb⟩ := pm_b k a hk7 ha (G 3 c) (nI c) p3
      have fin : ∀ M2, TRm N2 M2 o (pmA a (nI k) (G 3 c) (nI c) p3).2 → RR M2 o (Gt G (pmA a (nI k) (G 3 c) (nI c) p3).2) := by
        intro M2 t
        have s3 : SQ M M2 o ZT := s2.trans (t.1.mono fun a k q => by
          rcases q with q | q
          · exact Or.inr (Or.inr (Or.inr (Or.inl q)))
          · exact Or.inr (Or.inr (Or.inr (Or.inr q))))
        have u : ∀ a k, a = 57 ∨ a = 56 → mI M2 (o + a) k = mI M1 (o + a) k := by
          intro a k q
          rw [t.1.2.2.2.2 a k (by unfold Z119; omega), hN2, mI_sI, if_neg (by omega)]
        refine h.tr s3 (fun k k1 k2 => (u 57 k (by omega)).trans (e2.2.1 k k1 k2)) t.2.1 ((u 56 1 (by omega)).trans e2.2.2.1) t.2.2 (fun i q => ?_) (by omega)
        have := List.all_eq_true.mp pb ((pmA a (nI k) (G 3 c) (nI c) p3).2.getD i 0) (by
          rw [List.getD_eq_getElem?_getD, List.getElem?_eq_getElem q]
          exact List.getElem_mem q)
        rw [Bool.and_eq_true, decide_eq_true_eq, decide_eq_true_eq] at this
        obtain ⟨j, j1, j2⟩ := nI_of2 (n := 99) (M := 99) (by decide) (Int32.not_lt.mpr this.1) this.2
        exact ⟨j, j1, j2⟩
      have class1 : fn_X8_act M o (nI c) (nI a) p3 = some ((pmA a (nI k) (G 3 c) (nI c) p3).1, M1) := by
        rw [hN] at e1
        have n56 : ¬ 17 + 2 * c = 56 := by omega
        simp only [fn_X8_act, fn_X5_walkerAt, w4, b1, d1, kc, vc, e1, n56, mt_sI, mt_sJ, mt_sP, mt_rI, mt_rJ, ml_sI, ml_sJ, ml_sP, ml_rI, ml_rJ, mP_sI, mP_sJ, mP_rI, mP_rJ, SHP_sI, SHP_sJ, SHP_rI, SHP_rJ, mI_sI, mI_rI, mI_sJ, mI_rJ, mI_sP, mJ_sI, mJ_rI, mJ_sP, mJ_sJ, mJ_rJ, gI_e, pI_e, ck_e, bnd_s, nm_eq, pr2_e, cnul_0, cnul_1, drf_1, sm_1, sm_2, aI_e, aJ_e, wI_e, wJ_e, aL_e, cpI_e, cpJ_e, Nat.reduceLeDiff, Nat.reduceEqDiff, Nat.add_left_cancel_iff, ad0, ad1, false_and, and_false, true_and, and_true, reduceIte, if_true, if_false, zb0, zb1, Int32.reduceLT, Int32.reduceLE, i10, nw1, nw2, nt1, nt2, not_true_eq_false, not_false_eq_true, mt_0, mt_1, mt_2, mt_3, ml_3, mt_4, ml_4, mt_5, mt_6, ml_6, mt_7, ml_7, mt_8, ml_8, mt_9, mt_10, ml_10, mt_11, ml_11, mt_12, ml_12, mt_13, mt_14, ml_14, mt_15, ml_15, mt_16, ml_16, mt_17, mt_18, ml_18, mt_19, mt_20, ml_20, mt_21, mt_22, ml_22, mt_23, mt_24, ml_24, mt_25, mt_26, ml_26, mt_53, mt_54, ml_54, mt_55, ml_55, mt_56, mt_57, ml_57, mt_58, ml_58, mt_59, mt_60, ml_60, mt_61, mt_62, ml_62, mt_63, ml_63, mt_64, mt_65, ml_65, mt_66, mt_67, ml_67, mt_68, mt_69, ml_69, mt_70, mt_71, ml_71, mt_72, mt_73, ml_73, mt_74, mt_75, ml_75, mt_76, mt_77, ml_77, gP_0_0, gP_0_1, gP_0_4, gP_0_5, gP_0_6, gP_0_7, gP_0_8, gP_0_9, gP_1_0, gP_1_1, gP_1_4, gP_1_5, gP_1_6, gP_2_0, gP_5_1, gP_5_2, gP_5_3, gP_9_1, gP_9_2, gP_9_3, gP_13_1, gP_13_2, gP_13_3, gP_17_3, gP_19_3, gP_21_3, gP_23_3, gP_25_3, gP_53_0, gP_53_6, gP_56_0, gP_59_0, gP_61_3, gP_64_0, gP_66_2, gP_68_2, gP_70_2, gP_72_2, gP_74_2, gP_76_2, aP_4, mtw_4, mtl_4, mll_4, gPw_4, aP_58, mtw_58, mtl_58, mll_58, gPw_58, hS, hc5]
      rcases (by omega : a = 0 ∨ a = 1 ∨ a = 2) with rfl | rfl | rfl
      · obtain ⟨M2, f1, f2⟩ := W_m (x := p3) wa tm (by decide)
        refine ⟨_, M1, M2, _, class1, ?_, fin M2 f2⟩
        have z0 : nI 0 = 0 := nI_0
        rw [hN2] at f1
        rw [z0] at d2 ⊢
        simp only [fn_X9_act, fn_X9_isWalker, w51, b2, d2, f1, mt_sI, mt_sJ, mt_sP, mt_rI, mt_rJ, ml_sI, ml_sJ, ml_sP, ml_rI, ml_rJ, mP_sI, mP_sJ, mP_rI, mP_rJ, SHP_sI, SHP_sJ, SHP_rI, SHP_rJ, mI_sI, mI_rI, mI_sJ, mI_rJ, mI_sP, mJ_sI, mJ_rI, mJ_sP, mJ_sJ, mJ_rJ, gI_e, pI_e, ck_e, bnd_s, nm_eq, pr2_e, cnul_0, cnul_1, drf_1, sm_1, sm_2, aI_e, aJ_e, wI_e, wJ_e, aL_e, cpI_e, cpJ_e, Nat.reduceLeDiff, Nat.reduceEqDiff, Nat.add_left_cancel_iff, ad0, ad1, false_and, and_false, true_and, and_true, reduceIte, if_true, if_false, zb0, zb1, Int32.reduceLT, Int32.reduceLE, i10, nw1, nw2, nt1, nt2, not_true_eq_false, not_false_eq_true, mt_78, mt_79, ml_79, mt_80, ml_80, mt_81, ml_81, mt_82, ml_82, mt_83, ml_83, mt_84, ml_84, mt_85, ml_85, mt_86, ml_86, mt_87, ml_87, mt_88, ml_88, mt_89, ml_89, mt_90, ml_90, mt_91, ml_91, mt_92, ml_92, mt_93, ml_93, mt_94, ml_94, mt_95, ml_95, mt_96, ml_96, mt_97, ml_97, mt_98, ml_98, mt_99, ml_99, mt_100, ml_100, mt_101, ml_101, mt_102, ml_102, mt_103, ml_103, mt_104, ml_104, mt_105, ml_105, mt_106, ml_106, mt_107, ml_107, mt_108, ml_108, mt_109, ml_109, mt_110, ml_110, mt_111, ml_111, mt_112, ml_112, mt_113, ml_113, mt_114, ml_114, mt_115, ml_115, mt_116, ml_116, mt_117, ml_117, mt_118, ml_118, mt_119, ml_119, mt_120, ml_120, mt_121, ml_121, mt_122, ml_122, mt_123, ml_123, gP_78_2, gP_78_3, gP_78_4, gP_78_5, gP_78_6, gP_78_12, gP_78_13, gP_78_14, gP_78_15, gP_78_16, gP_78_17, gP_78_18, gP_78_19, gP_78_23, gP_78_24, gP_78_26, gP_78_27, gP_78_28, gP_78_31, gP_78_32, gP_78_34, gP_78_35, gP_78_36, gP_78_37, gP_78_40, gP_78_41, gP_78_42, gP_78_43, gP_78_52, gP_78_53, gP_78_54, gP_78_55, gP_78_56, gP_78_57, gP_78_58, gP_78_59, gP_78_60, gP_78_61, gP_78_62, gP_78_63, gP_78_65, gP_78_66, gP_78_67, gP_78_68, gP_78_69, hS1]
        rfl
      · obtain ⟨M2, f1, f2⟩ := S_m (x := p3) wa tm (by decide)
        refine ⟨_, M1, M2, _, class1, ?_, fin M2 f2⟩
        have z1 : nI 1 = 1 := by decide
        rw [hN2] at f1
        rw [z1] at d2 ⊢
        simp only [fn_X9_act, fn_X9_isWalker, w51, b2, d2, f1, mt_sI, mt_sJ, mt_sP, mt_rI, mt_rJ, ml_sI, ml_sJ, ml_sP, ml_rI, ml_rJ, mP_sI, mP_sJ, mP_rI, mP_rJ, SHP_sI, SHP_sJ, SHP_rI, SHP_rJ, mI_sI, mI_rI, mI_sJ, mI_rJ, mI_sP, mJ_sI, mJ_rI, mJ_sP, mJ_sJ, mJ_rJ, gI_e, pI_e, ck_e, bnd_s, nm_eq, pr2_e, cnul_0, cnul_1, drf_1, sm_1, sm_2, aI_e, aJ_e, wI_e, wJ_e, aL_e, cpI_e, cpJ_e, Nat.reduceLeDiff, Nat.reduceEqDiff, Nat.add_left_cancel_iff, ad0, ad1, false_and, and_false, true_and, and_true, reduceIte, if_true, if_false, zb0, zb1, Int32.reduceLT, Int32.reduceLE, i10, nw1, nw2, nt1, nt2, not_true_eq_false, not_false_eq_true, mt_78, mt_79, ml_79, mt_80, ml_80, mt_81, ml_81, mt_82, ml_82, mt_83, ml_83, mt_84, ml_84, mt_85, ml_85, mt_86, ml_86, mt_87, ml_87, mt_88, ml_88, mt_89, ml_89, mt_90, ml_90, mt_91, ml_91, mt_92, ml_92, mt_93, ml_93, mt_94, ml_94, mt_95, ml_95, mt_96, ml_96, mt_97, ml_97, mt_98, ml_98, mt_99, ml_99, mt_100, ml_100, mt_101, ml_101, mt_102, ml_102, mt_103, ml_103, mt_104, ml_104, mt_105, ml_105, mt_106, ml_106, mt_107, ml_107, mt_108, ml_108, mt_109, ml_109, mt_110, ml_110, mt_111, ml_111, mt_112, ml_112, mt_113, ml_113, mt_114, ml_114, mt_115, ml_115, mt_116, ml_116, mt_117, ml_117, mt_118, ml_118, mt_119, ml_119, mt_120, ml_120, mt_121, ml_121, mt_122, ml_122, mt_123, ml_123, gP_78_2, gP_78_3, gP_78_4, gP_78_5, gP_78_6, gP_78_12, gP_78_13, gP_78_14, gP_78_15, gP_78_16, gP_78_17, gP_78_18, gP_78_19, gP_78_23, gP_78_24, gP_78_26, gP_78_27, gP_78_28, gP_78_31, gP_78_32, gP_78_34, gP_78_35, gP_78_36, gP_78_37, gP_78_40, gP_78_41, gP_78_42, gP_78_43, gP_78_52, gP_78_53, gP_78_54, gP_78_55, gP_78_56, gP_78_57, gP_78_58, gP_78_59, gP_78_60, gP_78_61, gP_78_62, gP_78_63, gP_78_65, gP_78_66, gP_78_67, gP_78_68, gP_78_69, hS1]
        rfl
      · obtain ⟨M2, f1, f2⟩ := T_m (x := p3) wa tm (by decide)
        refine ⟨_, M1, M2, _, class1, ?_, fin M2 f2⟩
        have z1 : ¬ nI 2 = 0 := by decide
        have z2 : ¬ nI 2 = 1 := by decide
        rw [hN2] at f1
        simp only [fn_X9_act, fn_X9_isWalker, w51, b2, d2, f1, z1, z2, mt_sI, mt_sJ, mt_sP, mt_rI, mt_rJ, ml_sI, ml_sJ, ml_sP, ml_rI, ml_rJ, mP_sI, mP_sJ, mP_rI, mP_rJ, SHP_sI, SHP_sJ, SHP_rI, SHP_rJ, mI_sI, mI_rI, mI_sJ, mI_rJ, mI_sP, mJ_sI, mJ_rI, mJ_sP, mJ_sJ, mJ_rJ, gI_e, pI_e, ck_e, bnd_s, nm_eq, pr2_e, cnul_0, cnul_1, drf_1, sm_1, sm_2, aI_e, aJ_e, wI_e, wJ_e, aL_e, cpI_e, cpJ_e, Nat.reduceLeDiff, Nat.reduceEqDiff, Nat.add_left_cancel_iff, ad0, ad1, false_and, and_false, true_and, and_true, reduceIte, if_true, if_false, zb0, zb1, Int32.reduceLT, Int32.reduceLE, i10, nw1, nw2, nt1, nt2, not_true_eq_false, not_false_eq_true, mt_78, mt_79, ml_79, mt_80, ml_80, mt_81, ml_81, mt_82, ml_82, mt_83, ml_83, mt_84, ml_84, mt_85, ml_85, mt_86, ml_86, mt_87, ml_87, mt_88, ml_88, mt_89, ml_89, mt_90, ml_90, mt_91, ml_91, mt_92, ml_92, mt_93, ml_93, mt_94, ml_94, mt_95, ml_95, mt_96, ml_96, mt_97, ml_97, mt_98, ml_98, mt_99, ml_99, mt_100, ml_100, mt_101, ml_101, mt_102, ml_102, mt_103, ml_103, mt_104, ml_104, mt_105, ml_105, mt_106, ml_106, mt_107, ml_107, mt_108, ml_108, mt_109, ml_109, mt_110, ml_110, mt_111, ml_111, mt_112, ml_112, mt_113, ml_113, mt_114, ml_114, mt_115, ml_115, mt_116, ml_116, mt_117, ml_117, mt_118, ml_118, mt_119, ml_119, mt_120, ml_120, mt_121, ml_121, mt_122, ml_122, mt_123, ml_123, gP_78_2, gP_78_3, gP_78_4, gP_78_5, gP_78_6, gP_78_12, gP_78_13, gP_78_14, gP_78_15, gP_78_16, gP_78_17, gP_78_18, gP_78_19, gP_78_23, gP_78_24, gP_78_26, gP_78_27, gP_78_28, gP_78_31, gP_78_32, gP_78_34, gP_78_35, gP_78_36, gP_78_37, gP_78_40, gP_78_41, gP_78_42, gP_78_43, gP_78_52, gP_78_53, gP_78_54, gP_78_55, gP_78_56, gP_78_57, gP_78_58, gP_78_59, gP_78_60, gP_78_61, gP_78_62, gP_78_63, gP_78_65, gP_78_66, gP_78_67, gP_78_68, gP_78_69, hS1]
        rfl
    · refine ⟨0, sI M (o + 56) 1 0, sI (sI M (o + 56) 1 0) (o + 78) 64 0, _, ?_, ?_, r0⟩
      · simp only [fn_X8_act, fn_X5_walkerAt, w4, b1, d1, mt_sI, mt_sJ, mt_sP, mt_rI, mt_rJ, ml_sI, ml_sJ, ml_sP, ml_rI, ml_rJ, mP_sI, mP_sJ, mP_rI, mP_rJ, SHP_sI, SHP_sJ, SHP_rI, SHP_rJ, mI_sI, mI_rI, mI_sJ, mI_rJ, mI_sP, mJ_sI, mJ_rI, mJ_sP, mJ_sJ, mJ_rJ, gI_e, pI_e, ck_e, bnd_s, nm_eq, pr2_e, cnul_0, cnul_1, drf_1, sm_1, sm_2, aI_e, aJ_e, wI_e, wJ_e, aL_e, cpI_e, cpJ_e, Nat.reduceLeDiff, Nat.reduceEqDiff, Nat.add_left_cancel_iff, ad0, ad1, false_and, and_false, true_and, and_true, reduceIte, if_true, if_false, zb0, zb1, Int32.reduceLT, Int32.reduceLE, i10, nw1, nw2, nt1, nt2, not_true_eq_false, not_false_eq_true, mt_0, mt_1, mt_2, mt_3, ml_3, mt_4, ml_4, mt_5, mt_6, ml_6, mt_7, ml_7, mt_8, ml_8, mt_9, mt_10, ml_10, mt_11, ml_11, mt_12, ml_12, mt_13, mt_14, ml_14, mt_15, ml_15, mt_16, ml_16, mt_17, mt_18, ml_18, mt_19, mt_20, ml_20, mt_21, mt_22, ml_22, mt_23, mt_24, ml_24, mt_25, mt_26, ml_26, mt_53, mt_54, ml_54, mt_55, ml_55, mt_56, mt_57, ml_57, mt_58, ml_58, mt_59, mt_60, ml_60, mt_61, mt_62, ml_62, mt_63, ml_63, mt_64, mt_65, ml_65, mt_66, mt_67, ml_67, mt_68, mt_69, ml_69, mt_70, mt_71, ml_71, mt_72, mt_73, ml_73, mt_74, mt_75, ml_75, mt_76, mt_77, ml_77, gP_0_0, gP_0_1, gP_0_4, gP_0_5, gP_0_6, gP_0_7, gP_0_8, gP_0_9, gP_1_0, gP_1_1, gP_1_4, gP_1_5, gP_1_6, gP_2_0, gP_5_1, gP_5_2, gP_5_3, gP_9_1, gP_9_2, gP_9_3, gP_13_1, gP_13_2, gP_13_3, gP_17_3, gP_19_3, gP_21_3, gP_23_3, gP_25_3, gP_53_0, gP_53_6, gP_56_0, gP_59_0, gP_61_3, gP_64_0, gP_66_2, gP_68_2, gP_70_2, gP_72_2, gP_74_2, gP_76_2, aP_4, mtw_4, mtl_4, mll_4, gPw_4, aP_58, mtw_58, mtl_58, mll_58, gPw_58, hS, hc5]
      · simp only [fn_X9_act, fn_X9_isWalker, w5, b2, d2, mt_sI, mt_sJ, mt_sP, mt_rI, mt_rJ, ml_sI, ml_sJ, ml_sP, ml_rI, ml_rJ, mP_sI, mP_sJ, mP_rI, mP_rJ, SHP_sI, SHP_sJ, SHP_rI, SHP_rJ, mI_sI, mI_rI, mI_sJ, mI_rJ, mI_sP, mJ_sI, mJ_rI, mJ_sP, mJ_sJ, mJ_rJ, gI_e, pI_e, ck_e, bnd_s, nm_eq, pr2_e, cnul_0, cnul_1, drf_1, sm_1, sm_2, aI_e, aJ_e, wI_e, wJ_e, aL_e, cpI_e, cpJ_e, Nat.reduceLeDiff, Nat.reduceEqDiff, Nat.add_left_cancel_iff, ad0, ad1, false_and, and_false, true_and, and_true, reduceIte, if_true, if_false, zb0, zb1, Int32.reduceLT, Int32.reduceLE, i10, nw1, nw2, nt1, nt2, not_true_eq_false, not_false_eq_true, mt_78, mt_79, ml_79, mt_80, ml_80, mt_81, ml_81, mt_82, ml_82, mt_83, ml_83, mt_84, ml_84, mt_85, ml_85, mt_86, ml_86, mt_87, ml_87, mt_88, ml_88, mt_89, ml_89, mt_90, ml_90, mt_91, ml_91, mt_92, ml_92, mt_93, ml_93, mt_94, ml_94, mt_95, ml_95, mt_96, ml_96, mt_97, ml_97, mt_98, ml_98, mt_99, ml_99, mt_100, ml_100, mt_101, ml_101, mt_102, ml_102, mt_103, ml_103, mt_104, ml_104, mt_105, ml_105, mt_106, ml_106, mt_107, ml_107, mt_108, ml_108, mt_109, ml_109, mt_110, ml_110, mt_111, ml_111, mt_112, ml_112, mt_113, ml_113, mt_114, ml_114, mt_115, ml_115, mt_116, ml_116, mt_117, ml_117, mt_118, ml_118, mt_119, ml_119, mt_120, ml_120, mt_121, ml_121, mt_122, ml_122, mt_123, ml_123, gP_78_2, gP_78_3, gP_78_4, gP_78_5, gP_78_6, gP_78_12, gP_78_13, gP_78_14, gP_78_15, gP_78_16, gP_78_17, gP_78_18, gP_78_19, gP_78_23, gP_78_24, gP_78_26, gP_78_27, gP_78_28, gP_78_31, gP_78_32, gP_78_34, gP_78_35, gP_78_36, gP_78_37, gP_78_40, gP_78_41, gP_78_42, gP_78_43, gP_78_52, gP_78_53, gP_78_54, gP_78_55, gP_78_56, gP_78_57, gP_78_58, gP_78_59, gP_78_60, gP_78_61, gP_78_62, gP_78_63, gP_78_65, gP_78_66, gP_78_67, gP_78_68, gP_78_69, hS]
  · refine ⟨0, sI M (o + 56) 1 0, sI (sI M (o + 56) 1 0) (o + 78) 64 0, _, ?_, ?_, r0⟩
    · simp only [fn_X8_act, fn_X5_walkerAt, w4, b1, mt_sI, mt_sJ, mt_sP, mt_rI, mt_rJ, ml_sI, ml_sJ, ml_sP, ml_rI, ml_rJ, mP_sI, mP_sJ, mP_rI, mP_rJ, SHP_sI, SHP_sJ, SHP_rI, SHP_rJ, mI_sI, mI_rI, mI_sJ, mI_rJ, mI_sP, mJ_sI, mJ_rI, mJ_sP, mJ_sJ, mJ_rJ, gI_e, pI_e, ck_e, bnd_s, nm_eq, pr2_e, cnul_0, cnul_1, drf_1, sm_1, sm_2, aI_e, aJ_e, wI_e, wJ_e, aL_e, cpI_e, cpJ_e, Nat.reduceLeDiff, Nat.reduceEqDiff, Nat.add_left_cancel_iff, ad0, ad1, false_and, and_false, true_and, and_true, reduceIte, if_true, if_false, zb0, zb1, Int32.reduceLT, Int32.reduceLE, i10, nw1, nw2, nt1, nt2, not_true_eq_false, not_false_eq_true, mt_0, mt_1, mt_2, mt_3, ml_3, mt_4, ml_4, mt_5, mt_6, ml_6, mt_7, ml_7, mt_8, ml_8, mt_9, mt_10, ml_10, mt_11, ml_11, mt_12, ml_12, mt_13, mt_14, ml_14, mt_15, ml_15, mt_16, ml_16, mt_17, mt_18, ml_18, mt_19, mt_20, ml_20, mt_21, mt_22, ml_22, mt_23, mt_24, ml_24, mt_25, mt_26, ml_26, mt_53, mt_54, ml_54, mt_55, ml_55, mt_56, mt_57, ml_57, mt_58, ml_58, mt_59, mt_60, ml_60, mt_61, mt_62, ml_62, mt_63, ml_63, mt_64, mt_65, ml_65, mt_66, mt_67, ml_67, mt_68, mt_69, ml_69, mt_70, mt_71, ml_71, mt_72, mt_73, ml_73, mt_74, mt_75, ml_75, mt_76, mt_77, ml_77, gP_0_0, gP_0_1, gP_0_4, gP_0_5, gP_0_6, gP_0_7, gP_0_8, gP_0_9, gP_1_0, gP_1_1, gP_1_4, gP_1_5, gP_1_6, gP_2_0, gP_5_1, gP_5_2, gP_5_3, gP_9_1, gP_9_2, gP_9_3, gP_13_1, gP_13_2, gP_13_3, gP_17_3, gP_19_3, gP_21_3, gP_23_3, gP_25_3, gP_53_0, gP_53_6, gP_56_0, gP_59_0, gP_61_3, gP_64_0, gP_66_2, gP_68_2, gP_70_2, gP_72_2, gP_74_2, gP_76_2, aP_4, mtw_4, mtl_4, mll_4, gPw_4, aP_58, mtw_58, mtl_58, mll_58, gPw_58, hS]
    · simp only [fn_X9_act, fn_X9_isWalker, w5, b2, mt_sI, mt_sJ, mt_sP, mt_rI, mt_rJ, ml_sI, ml_sJ, ml_sP, ml_rI, ml_rJ, mP_sI, mP_sJ, mP_rI, mP_rJ, SHP_sI, SHP_sJ, SHP_rI, SHP_rJ, mI_sI, mI_rI, mI_sJ, mI_rJ, mI_sP, mJ_sI, mJ_rI, mJ_sP, mJ_sJ, mJ_rJ, gI_e, pI_e, ck_e, bnd_s, nm_eq, pr2_e, cnul_0, cnul_1, drf_1, sm_1, sm_2, aI_e, aJ_e, wI_e, wJ_e, aL_e, cpI_e, cpJ_e, Nat.reduceLeDiff, Nat.reduceEqDiff, Nat.add_left_cancel_iff, ad0, ad1, false_and, and_false, true_and, and_true, reduceIte, if_true, if_false, zb0, zb1, Int32.reduceLT, Int32.reduceLE, i10, nw1, nw2, nt1, nt2, not_true_eq_false, not_false_eq_true, mt_78, mt_79, ml_79, mt_80, ml_80, mt_81, ml_81, mt_82, ml_82, mt_83, ml_83, mt_84, ml_84, mt_85, ml_85, mt_86, ml_86, mt_87, ml_87, mt_88, ml_88, mt_89, ml_89, mt_90, ml_90, mt_91, ml_91, mt_92, ml_92, mt_93, ml_93, mt_94, ml_94, mt_95, ml_95, mt_96, ml_96, mt_97, ml_97, mt_98, ml_98, mt_99, ml_99, mt_100, ml_100, mt_101, ml_101, mt_102, ml_102, mt_103, ml_103, mt_104, ml_104, mt_105, ml_105, mt_106, ml_106, mt_107, ml_107, mt_108, ml_108, mt_109, ml_109, mt_110, ml_110, mt_111, ml_111, mt_112, ml_112, mt_113, ml_113, mt_114, ml_114, mt_115, ml_115, mt_116, ml_116, mt_117, ml_117, mt_118, ml_118, mt_119, ml_119, mt_120, ml_120, mt_121, ml_121, mt_122, ml_122, mt_123, ml_123, gP_78_2, gP_78_3, gP_78_4, gP_78_5, gP_78_6, gP_78_12, gP_78_13, gP_78_14, gP_78_15, gP_78_16, gP_78_17, gP_78_18, gP_78_19, gP_78_23, gP_78_24, gP_78_26, gP_78_27, gP_78_28, gP_78_31, gP_78_32, gP_78_34, gP_78_35, gP_78_36, gP_78_37, gP_78_40, gP_78_41, gP_78_42, gP_78_43, gP_78_52, gP_78_53, gP_78_54, gP_78_55, gP_78_56, gP_78_57, gP_78_58, gP_78_59, gP_78_60, gP_78_61, gP_78_62, gP_78_63, gP_78_65, gP_78_66, gP_78_67, gP_78_68, gP_78_69, hS]
