/-! ===== MINUTES, on both sides ===== -/
def cl99 (y : Int32) : Int32 := if 0 ≤ y then (if y ≤ 99 then y else 99) else 0
def grI (g : Nat → Int32) (m : Nat) (x : Int32) (c : Nat) : Int32 := cl99 (x + g ((m % 10 * 10 + x.toNatClampNeg / 10) * 16 + c))
/-- STRENGTH n MINUTES behind MINUTE m -/
def ripS (g : Nat → Int32) (m : Nat) : Nat → (Nat → Int32) → Nat → Int32
  | 0, S => S
  | n + 1, S => fun c => grI g (m + n) (ripS g m n S c) c
theorem cl99_bd (y : Int32) : bd (cl99 y) 99 := by
  unfold cl99
  by_cases h : 0 ≤ y
  · rw [if_pos h]
    by_cases h2 : y ≤ 99
    · rw [if_pos h2]
      obtain ⟨j, h3, h4⟩ := nI_of2 (n := 99) (M := 99) (by decide) (Int32.not_lt.mpr h) h2
      exact ⟨j, h3, h4⟩
    · rw [if_neg h2]; exact bd_nI (k := 99) (by decide)
  · rw [if_neg h]; exact bd_nI (k := 0) (by decide)
theorem cl99_c (y : Int32) : imm_max 0 (imm_min 99 y) = cl99 y := by
  rw [max0]
  unfold imm_min cl99
  by_cases h : y < 99
  · rw [if_pos h, if_pos (Int32.le_of_lt h)]
  · rw [if_neg h, if_pos (by decide : (0 : Int32) ≤ 99)]
    have h := Int32.not_lt.mp h
    rw [if_pos (Int32.le_trans (by decide : (0 : Int32) ≤ 99) h)]
    by_cases h2 : y ≤ 99
    · rw [if_pos h2]; exact Int32.le_antisymm h h2
    · rw [if_neg h2]
theorem ripS_bd {g : Nat → Int32} {m : Nat} {S : Nat → Int32} (h : ∀ c, c < 16 → bd (S c) 99) : ∀ n c, c < 16 → bd (ripS g m n S c) 99
  | 0, c, hc => h c hc
  | _ + 1, _, _ => cl99_bd _
theorem ripS_1 {g : Nat → Int32} {m n : Nat} {S : Nat → Int32} : ripS g m (n + 1) S = ripS g (m + n) 1 (ripS g m n S) := rfl
theorem ripS_congr {g : Nat → Int32} {m : Nat} {S T : Nat → Int32} {c : Nat} (h : S c = T c) : ∀ n, ripS g m n S c = ripS g m n T c
  | 0 => h
  | n + 1 => by show grI g (m + n) (ripS g m n S c) c = grI g (m + n) (ripS g m n T c) c; rw [ripS_congr h n]
def Zc (x : Nat) : Nat → Nat → Prop := fun a k => (a = x + 1 ∧ k < 16) ∨ (a = x ∧ k = 1)
def Zk : Nat → Nat → Prop := fun a k => a = 93 ∨ (a = 79 ∧ k < 16)
def Zm : Nat → Nat → Prop := fun a k => ZB a k ∨ a = 93 ∨ (a = 79 ∧ k < 16) ∨ (a = 78 ∧ k = 1)
section RI1
variable {M N Mw : QM} {o x y h : Nat} {G : GG} {S l : Nat → Int32} {m n w p c : Nat} {k v wt sp : Int32}
theorem HB.fr (hB : HB M o G h) {Z : Nat → Nat → Prop} (hs : SQ M N o Z) (hz : ∀ a k, Z a k → fx a k = false) : HB N o G h := by
  obtain ⟨h1, h2, h3, h4, h5, h6, h7, h8⟩ := hB
  have e : ∀ a k, fx a k = true → mI N (o + a) k = mI M (o + a) k := fun a k q => hs.2.2.2.2 a k fun q2 => by rw [hz a k q2] at q; cases q
  have f0 : ∀ k, fx h k = true := fun k => by
    unfold fx
    rcases h1 with h1 | h1
    · rw [h1]; simp
    · simp [h1]
  have f1 : ∀ k, fx (h + 1) k = true := fun k => by
    unfold fx
    rcases h1 with h1 | h1
    · rw [h1]; simp
    · have : 124 ≤ h + 1 := by omega
      simp [this]
  refine ⟨h1, ⟨by rw [hs.2.2.1]; exact h2.1, rfl⟩, by rw [hs.2.1]; exact h3, by rw [hs.2.1]; exact h4, by rw [hs.2.2.1]; exact h5, fun i hi => by rw [e _ _ (f1 i)]; exact h6 i hi, by rw [e _ _ (f0 1)]; exact h7, by rw [e _ _ (f0 2)]; exact h8⟩
/-! the class -/
theorem growthOf_c (hB : HB M o G h) (hc : c < 16) {x : Int32} (hx : bd x 99) (hm : m ≤ 20000) : fn_X1_growthOf M (o + h) (nI c) x (nI m) = some (gw G ((m % 10 * 10 + x.toNatClampNeg / 10) * 16 + c)) := by
  obtain ⟨q1, q2⟩ := bd_e hx (by decide)
  obtain ⟨s, hs⟩ : ∃ s, s = x.toNatClampNeg := ⟨_, rfl⟩
  rw [← hs] at q1 q2 ⊢
  have m10 : nI m - nI m / 10 * 10 = nI (m % 10) := nI_mod 10 (by omega) (by decide)
  have s10 : nI s / 10 = nI (s / 10) := nI_div (b := 10) (by omega) (by decide)
  have e1 : ((nI m - nI m / 10 * 10) * 10 + x / 10) * 16 + nI c = nI ((m % 10 * 10 + s / 10) * 16 + c) := by
    rw [m10, q1, s10, show nI (m % 10) * 10 = nI (m % 10 * 10) from nI_mul _ 10, nI_add, show nI (m % 10 * 10 + s / 10) * 16 = nI ((m % 10 * 10 + s / 10) * 16) from nI_mul _ 16, nI_add]
  have i16 : (m % 10 * 10 + s / 10) * 16 + c < 1600 := by omega
  unfold fn_X1_growthOf
  rw [gR_e hB.mt.1 hB.2.2.2.2.1, e1, aI_e hB.mt.2.1 (by rw [hB.mt.2.2]; exact i16) (by rw [hB.mt.2.2]; decide), hB.2.2.2.2.2.1 _ i16]
theorem grown_c (hB : HB M o G h) (hc : c < 16) {x : Int32} (hx : bd x 99) (hm : m ≤ 20000) : fn_X1_grown M (o + h) (nI c) x (nI m) = some (grI (gw G) m x c) := by
  unfold fn_X1_grown
  rw [bnd_e (growthOf_c hB hc hx hm), cl99_c]
  rfl
theorem CP.fr (hC : CP M o x S) {Z : Nat → Nat → Prop} (hs : SQ M N o Z) (hz : ∀ k, k < 16 → ¬ Z (x + 1) k) : CP N o x S := by
  obtain ⟨⟨h1, h2, h3, h4⟩, g⟩ := hC
  have ht : ∀ b, mt N b = mt M b := fun b => by unfold mt; rw [hs.2.1]
  have hl : ∀ b, ml N b = ml M b := fun b => by unfold ml; rw [hs.2.1]
  exact ⟨⟨by rw [ht]; exact h1, by rw [hs.2.2.1]; exact h2, by rw [ht]; exact h3, by rw [hl]; exact h4⟩, fun c hc => (hs.2.2.2.2 _ _ (hz c hc)).trans (g c hc)⟩
theorem SQ.cup (hC : CP M o x S) {Z : Nat → Nat → Prop} (hs : SQ M N o Z) {T : Nat → Int32} (g : ∀ c, c < 16 → mI N (o + (x + 1)) c = T c) : CP N o x T := by
  obtain ⟨⟨h1, h2, h3, h4⟩, -⟩ := hC
  have ht : ∀ b, mt N b = mt M b := fun b => by unfold mt; rw [hs.2.1]
  have hl : ∀ b, ml N b = ml M b := fun b => by unfold ml; rw [hs.2.1]
  exact ⟨⟨by rw [ht]; exact h1, by rw [hs.2.2.1]; exact h2, by rw [ht]; exact h3, by rw [hl]; exact h4⟩, g⟩
theorem Zc_fx {x : Nat} (hx : x = 2 ∨ x = 59) (a k : Nat) (h : Zc x a k) : fx a k = false := by
  unfold Zc at h
  rcases hx with rfl | rfl
  · rcases h with ⟨rfl, h⟩ | ⟨rfl, rfl⟩
    · unfold fx; simp
    · rfl
  · rcases h with ⟨rfl, h⟩ | ⟨rfl, rfl⟩
    · unfold fx; simp
    · rfl
theorem ripen1_c (hx : x = 2 ∨ x = 59) (hC : CP M o x S) (hB : HB M o G h) (hS : ∀ c, c < 16 → bd (S c) 99) (hm : m ≤ 20000) (h1 : mI M (o + x) 1 = nI m) : ∃ M1, itr (fun s10 : Int32 × QM => lp_X2_ripen_10 (o + x) (o + h) s10.1 s10.2) FU (0, M) = some M1 ∧ SQ M M1 o (fun a k => a = x + 1 ∧ k < 16) ∧ CP M1 o x (ripS (gw G) m 1 S) := by
  have loop := itr_J (f := fun s10 : Int32 × QM => lp_X2_ripen_10 (o + x) (o + h) s10.1 s10.2) (s0 := (0, M)) (fun c z => c ≤ 16 ∧ ∃ Mw, z = (nI c, Mw) ∧ SQ M Mw o (fun a k => a = x + 1 ∧ k < 16) ∧ ∀ j, j < 16 → mI Mw (o + (x + 1)) j = if j < c then grI (gw G) m (S j) j else S j) (fun r => SQ M r o (fun a k => a = x + 1 ∧ k < 16) ∧ CP r o x (ripS (gw G) m 1 S)) 16
    ⟨Nat.zero_le _, M, rfl, SQ.rfl, fun j hj => by rw [if_neg (Nat.not_lt_zero _)]; exact hC.2 j hj⟩
    (fun c z hz => by
      obtain ⟨hc, Mw, rfl, g1, g2⟩ := hz
      show (∃ r, lp_X2_ripen_10 (o + x) (o + h) (nI c) Mw = some (.inr r) ∧ _) ∨ _ ∧ ∃ s', lp_X2_ripen_10 (o + x) (o + h) (nI c) Mw = some (.inl s') ∧ _
      by_cases e : c = 16
      · left
        subst e
        refine ⟨Mw, ?_, g1, SQ.cup hC g1 fun j hj => by rw [g2 j hj, if_pos hj]; rfl⟩
        unfold lp_X2_ripen_10
        rw [if_pos (by decide)]
      · right
        have hc' : c < 16 := by omega
        have hC' : CP Mw o x (fun j => if j < c then grI (gw G) m (S j) j else S j) := SQ.cup hC g1 g2
        have hB' : HB Mw o G h := hB.fr g1 (fun a k q => Zc_fx hx a k (Or.inl q))
        obtain ⟨⟨t1, t2, t3, t4⟩, t5⟩ := hC'
        have r1 : mI Mw (o + (x + 1)) c = S c := by rw [g2 c hc', if_neg (Nat.lt_irrefl _)]
        have r2 : mI Mw (o + x) 1 = nI m := (g1.2.2.2.2 x 1 (by omega)).trans h1
        refine ⟨hc', (nI (c + 1), sI Mw (o + (x + 1)) c (grI (gw G) m (S c) c)), ?_, by omega, _, rfl, g1.sI ⟨rfl, hc'⟩, fun j hj => ?_⟩
        · unfold lp_X2_ripen_10
          rw [if_neg (n16 hc'), gR_e t1 t2, gR_e t1 t2, aI_e t3 (by rw [t4]; exact hc') (by rw [t4]; decide), r1, gI_e t1, r2, ck_e hB'.mt.1, bnd_e (grown_c hB' hc' (hS c hc') hm), wI_e t3 (by rw [t4]; exact hc') (by rw [t4]; decide), nm_eq, nI_1]
        · by_cases q : j = c
          · subst q
            rw [mI_sI, if_pos ⟨rfl, rfl⟩, if_pos (Nat.lt_succ_self _)]
          · rw [mI_sI, if_neg (fun z => q z.2), g2 j hj]
            by_cases q2 : j < c
            · rw [if_pos q2, if_pos (by omega)]
            · rw [if_neg q2, if_neg (by omega)]) (by decide)
  obtain ⟨r, h2, h3⟩ := loop
  exact ⟨r, h2, h3⟩
theorem ripen_c (hx : x = 2 ∨ x = 59) (hC : CP M o x S) (hB : HB M o G h) (hS : ∀ c, c < 16 → bd (S c) 99) (hm : m + n ≤ 20000) (hn : n ≤ 60) (h1 : mI M (o + x) 1 = nI m) : ∃ M1, fn_X2_ripen M (o + x) (nI n) (o + h) = some M1 ∧ SQ M M1 o (Zc x) ∧ CP M1 o x (ripS (gw G) m n S) ∧ mI M1 (o + x) 1 = nI (m + n) := by
  have loop := itr_J (f := fun s2 : Int32 × QM => lp_X2_ripen_2 (o + x) (nI n) (o + h) s2.1 s2.2) (s0 := (0, M)) (fun i z => i ≤ n ∧ ∃ Mw, z = (nI i, Mw) ∧ SQ M Mw o (Zc x) ∧ CP Mw o x (ripS (gw G) m i S) ∧ mI Mw (o + x) 1 = nI (m + i)) (fun r => SQ M r o (Zc x) ∧ CP r o x (ripS (gw G) m n S) ∧ mI r (o + x) 1 = nI (m + n)) 60
    ⟨Nat.zero_le _, M, rfl, SQ.rfl, hC, h1⟩
    (fun i z hz => by
      obtain ⟨hi, Mw, rfl, g1, g2, g3⟩ := hz
      show (∃ r, lp_X2_ripen_2 (o + x) (nI n) (o + h) (nI i) Mw = some (.inr r) ∧ _) ∨ _ ∧ ∃ s', lp_X2_ripen_2 (o + x) (nI n) (o + h) (nI i) Mw = some (.inl s') ∧ _
      by_cases e : i = n
      · left
        subst e
        refine ⟨Mw, ?_, g1, g2, g3⟩
        unfold lp_X2_ripen_2
        rw [if_pos (nI_le (Nat.le_refl _) (by omega))]
      · right
        have f1 : ¬ nI n ≤ nI i := by rw [nI_leI (by omega) (by omega)]; omega
        have hB' : HB Mw o G h := hB.fr g1 (Zc_fx hx)
        obtain ⟨M1, c1, c2, c3⟩ := ripen1_c hx g2 hB' (ripS_bd hS i) (by omega : m + i ≤ 20000) g3
        have hM1 : mI M1 (o + x) 1 = nI (m + i) := (c2.2.2.2.2 x 1 (by omega)).trans g3
        have c2' : SQ M M1 o (Zc x) := g1.trans (c2.mono fun a k q => Or.inl q)
        refine ⟨by omega, (nI (i + 1), sI M1 (o + x) 1 (nI (m + i + 1))), ?_, by omega, _, rfl, c2'.sI (Or.inr ⟨rfl, rfl⟩), ?_, by rw [mI_sI, if_pos ⟨rfl, rfl⟩]; rfl⟩
        · unfold lp_X2_ripen_2
          rw [if_neg f1, bnd_e c1, gI_e c3.1.1, hM1, pI_e c3.1.1, nI_1, nm_eq, nI_1]
        · exact c3.fr (Z := fun a k => a = x ∧ k = 1) (SQ.rfl.sI ⟨rfl, rfl⟩) (fun k _ => by omega)) (by decide)
  obtain ⟨r, h2, h3⟩ := loop
  refine ⟨r, ?_, h3⟩
  unfold fn_X2_ripen
  rw [bnd_e h2]
/-! the reference -/
theorem least0_e (y : Int32) : fn_X9_least0 y = if 0 ≤ y then y else 0 := rfl
theorem MW.zm (hW : MW M o G w) {Z : Nat → Nat → Prop} (hs : SQ M N o Z) (hz : ∀ a k, Z a k → Zm a k) : MW N o G w := by
  refine hW.fr hs fun a k q => ?_
  have q := hz a k q
  unfold Zm ZB at q
  rcases q with (rfl | rfl | rfl) | rfl | ⟨rfl, q⟩ | ⟨rfl, rfl⟩ <;> refine ⟨?_, by omega, by omega⟩ <;> first | rfl | (unfold fx; simp)
set_option maxHeartbeats 1000000 in
theorem goCell_m (hS : SHP M o) (hB : BRW M o G) (hF : FV S m M o) (hc : c < 16) : ∃ M1, fn_X9_goCell M (o + 78) (nI c) = some M1 ∧ SQ M M1 o Zk ∧ ∀ j, j < 16 → mI M1 (o + 79) j = if j = c then grI (gw G) m (S c) c else S j := by
  obtain ⟨M1, h1, h2⟩ := grows_e hS hB hF hc
  have hS' := h2.shp hS
  have g1 := hF.1 c hc
  obtain ⟨y, hy⟩ : ∃ y, y = S c + gw G ((m % 10 * 10 + sT S c) * 16 + c) := ⟨_, rfl⟩
  have hg : grI (gw G) m (S c) c = cl99 y := by rw [hy]; rfl
  have k : ∀ v, (∀ j, j < 16 → mI (sI M1 (o + 79) c v) (o + 79) j = if j = c then v else S j) := by
    intro v j hj
    rw [mI_sI]
    by_cases q : j = c
    · rw [if_pos ⟨rfl, q⟩, if_pos q]
    · rw [if_neg (fun z => q z.2), if_neg q, h2.2.2.2.2 79 j (by unfold Zp; omega)]
      exact hF.1 j hj
  have z : SQ M M1 o Zk := h2.mono fun a k q => Or.inl q
  rw [hg]
  by_cases q : 0 ≤ y
  · have e1 : fn_X9_least0 y = y := if_pos q
    by_cases q2 : y ≤ 99
    · refine ⟨sI M1 (o + 79) c y, ?_, z.sI (Or.inr ⟨rfl, hc⟩), fun j hj => by rw [k y j hj]; unfold cl99; rw [if_pos q, if_pos q2]⟩
      simp only [fn_X9_goCell, g1, h1, ← hy, e1, q2, mt_sI, mt_sJ, mt_sP, mt_rI, mt_rJ, ml_sI, ml_sJ, ml_sP, ml_rI, ml_rJ, mP_sI, mP_sJ, mP_rI, mP_rJ, SHP_sI, SHP_sJ, SHP_rI, SHP_rJ, mI_sI, mI_rI, mI_sJ, mI_rJ, mI_sP, mJ_sI, mJ_rI, mJ_sP, mJ_sJ, mJ_rJ, gI_e, pI_e, ck_e, bnd_s, nm_eq, pr2_e, cnul_0, cnul_1, drf_1, sm_1, sm_2, aI_e, aJ_e, wI_e, wJ_e, aL_e, cpI_e, cpJ_e, Nat.reduceLeDiff, Nat.reduceEqDiff, Nat.add_left_cancel_iff, ad0, ad1, false_and, and_false, true_and, and_true, reduceIte, if_true, if_false, zb0, zb1, Int32.reduceLT, Int32.reduceLE, i10, nw1, nw2, nt1, nt2, not_true_eq_false, not_false_eq_true, mt_78, mt_79, ml_79, mt_80, ml_80, mt_81, ml_81, mt_82, ml_82, mt_83, ml_83, mt_84, ml_84, mt_85, ml_85, mt_86, ml_86, mt_87, ml_87, mt_88, ml_88, mt_89, ml_89, mt_90, ml_90, mt_91, ml_91, mt_92, ml_92, mt_93, ml_93, mt_94, ml_94, mt_95, ml_95, mt_96, ml_96, mt_97, ml_97, mt_98, ml_98, mt_99, ml_99, mt_100, ml_100, mt_101, ml_101, mt_102, ml_102, mt_103, ml_103, mt_104, ml_104, mt_105, ml_105, mt_106, ml_106, mt_107, ml_107, mt_108, ml_108, mt_109, ml_109, mt_110, ml_110, mt_111, ml_111, mt_112, ml_112, mt_113, ml_113, mt_114, ml_114, mt_115, ml_115, mt_116, ml_116, mt_117, ml_117, mt_118, ml_118, mt_119, ml_119, mt_120, ml_120, mt_121, ml_121, mt_122, ml_122, mt_123, ml_123, gP_78_2, gP_78_3, gP_78_4, gP_78_5, gP_78_6, gP_78_12, gP_78_13, gP_78_14, gP_78_15, gP_78_16, gP_78_17, gP_78_18, gP_78_19, gP_78_23, gP_78_24, gP_78_26, gP_78_27, gP_78_28, gP_78_31, gP_78_32, gP_78_34, gP_78_35, gP_78_36, gP_78_37, gP_78_40, gP_78_41, gP_78_42, gP_78_43, gP_78_52, gP_78_53, gP_78_54, gP_78_55, gP_78_56, gP_78_57, gP_78_58, gP_78_59, gP_78_60, gP_78_61, gP_78_62, gP_78_63, gP_78_65, gP_78_66, gP_78_67, gP_78_68, gP_78_69, hS, hS', hc]
    · refine ⟨sI M1 (o + 79) c 99, ?_, z.sI (Or.inr ⟨rfl, hc⟩), fun j hj => by rw [k 99 j hj]; unfold cl99; rw [if_pos q, if_neg q2]⟩
      simp only [fn_X9_goCell, g1, h1, ← hy, e1, q2, mt_sI, mt_sJ, mt_sP, mt_rI, mt_rJ, ml_sI, ml_sJ, ml_sP, ml_rI, ml_rJ, mP_sI, mP_sJ, mP_rI, mP_rJ, SHP_sI, SHP_sJ, SHP_rI, SHP_rJ, mI_sI, mI_rI, mI_sJ, mI_rJ, mI_sP, mJ_sI, mJ_rI, mJ_sP, mJ_sJ, mJ_rJ, gI_e, pI_e, ck_e, bnd_s, nm_eq, pr2_e, cnul_0, cnul_1, drf_1, sm_1, sm_2, aI_e, aJ_e, wI_e, wJ_e, aL_e, cpI_e, cpJ_e, Nat.reduceLeDiff, Nat.reduceEqDiff, Nat.add_left_cancel_iff, ad0, ad1, false_and, and_false, true_and, and_true, reduceIte, if_true, if_false, zb0, zb1, Int32.reduceLT, Int32.reduceLE, i10, nw1, nw2, nt1, nt2, not_true_eq_false, not_false_eq_true, mt_78, mt_79, ml_79, mt_80, ml_80, mt_81, ml_81, mt_82, ml_82, mt_83, ml_83, mt_84, ml_84, mt_85, ml_85, mt_86, ml_86, mt_87, ml_87, mt_88, ml_88, mt_89, ml_89, mt_90, ml_90, mt_91, ml_91, mt_92, ml_92, mt_93, ml_93, mt_94, ml_94, mt_95, ml_95, mt_96, ml_96, mt_97, ml_97, mt_98, ml_98, mt_99, ml_99, mt_100, ml_100, mt_101, ml_101, mt_102, ml_102, mt_103, ml_103, mt_104, ml_104, mt_105, ml_105, mt_106, ml_106, mt_107, ml_107, mt_108, ml_108, mt_109, ml_109, mt_110, ml_110, mt_111, ml_111, mt_112, ml_112, mt_113, ml_113, mt_114, ml_114, mt_115, ml_115, mt_116, ml_116, mt_117, ml_117, mt_118, ml_118, mt_119, ml_119, mt_120, ml_120, mt_121, ml_121, mt_122, ml_122, mt_123, ml_123, gP_78_2, gP_78_3, gP_78_4, gP_78_5, gP_78_6, gP_78_12, gP_78_13, gP_78_14, gP_78_15, gP_78_16, gP_78_17, gP_78_18, gP_78_19, gP_78_23, gP_78_24, gP_78_26, gP_78_27, gP_78_28, gP_78_31, gP_78_32, gP_78_34, gP_78_35, gP_78_36, gP_78_37, gP_78_40, gP_78_41, gP_78_42, gP_78_43, gP_78_52, gP_78_53, gP_78_54, gP_78_55, gP_78_56, gP_78_57, gP_78_58, gP_78_59, gP_78_60, gP_78_61, gP_78_62, gP_78_63, gP_78_65, gP_78_66, gP_78_67, gP_78_68, gP_78_69, hS, hS', hc]
  · have e1 : fn_X9_least0 y = 0 := if_neg q
    refine ⟨sI M1 (o + 79) c 0, ?_, z.sI (Or.inr ⟨rfl, hc⟩), fun j hj => by rw [k 0 j hj]; unfold cl99; rw [if_neg q]⟩
    simp only [fn_X9_goCell, g1, h1, ← hy, e1, mt_sI, mt_sJ, mt_sP, mt_rI, mt_rJ, ml_sI, ml_sJ, ml_sP, ml_rI, ml_rJ, mP_sI, mP_sJ, mP_rI, mP_rJ, SHP_sI, SHP_sJ, SHP_rI, SHP_rJ, mI_sI, mI_rI, mI_sJ, mI_rJ, mI_sP, mJ_sI, mJ_rI, mJ_sP, mJ_sJ, mJ_rJ, gI_e, pI_e, ck_e, bnd_s, nm_eq, pr2_e, cnul_0, cnul_1, drf_1, sm_1, sm_2, aI_e, aJ_e, wI_e, wJ_e, aL_e, cpI_e, cpJ_e, Nat.reduceLeDiff, Nat.reduceEqDiff, Nat.add_left_cancel_iff, ad0, ad1, false_and, and_false, true_and, and_true, reduceIte, if_true, if_false, zb0, zb1, Int32.reduceLT, Int32.reduceLE, i10, nw1, nw2, nt1, nt2, not_true_eq_false, not_false_eq_true, mt_78, mt_79, ml_79, mt_80, ml_80, mt_81, ml_81, mt_82, ml_82, mt_83, ml_83, mt_84, ml_84, mt_85, ml_85, mt_86, ml_86, mt_87, ml_87, mt_88, ml_88, mt_89, ml_89, mt_90, ml_90, mt_91, ml_91, mt_92, ml_92, mt_93, ml_93, mt_94, ml_94, mt_95, ml_95, mt_96, ml_96, mt_97, ml_97, mt_98, ml_98, mt_99, ml_99, mt_100, ml_100, mt_101, ml_101, mt_102, ml_102, mt_103, ml_103, mt_104, ml_104, mt_105, ml_105, mt_106, ml_106, mt_107, ml_107, mt_108, ml_108, mt_109, ml_109, mt_110, ml_110, mt_111, ml_111, mt_112, ml_112, mt_113, ml_113, mt_114, ml_114, mt_115, ml_115, mt_116, ml_116, mt_117, ml_117, mt_118, ml_118, mt_119, ml_119, mt_120, ml_120, mt_121, ml_121, mt_122, ml_122, mt_123, ml_123, gP_78_2, gP_78_3, gP_78_4, gP_78_5, gP_78_6, gP_78_12, gP_78_13, gP_78_14, gP_78_15, gP_78_16, gP_78_17, gP_78_18, gP_78_19, gP_78_23, gP_78_24, gP_78_26, gP_78_27, gP_78_28, gP_78_31, gP_78_32, gP_78_34, gP_78_35, gP_78_36, gP_78_37, gP_78_40, gP_78_41, gP_78_42, gP_78_43, gP_78_52, gP_78_53, gP_78_54, gP_78_55, gP_78_56, gP_78_57, gP_78_58, gP_78_59, gP_78_60, gP_78_61, gP_78_62, gP_78_63, gP_78_65, gP_78_66, gP_78_67, gP_78_68, gP_78_69, hS, hS', hc]
theorem goMinute_m (hW : MW M o G w) (hF : FV S m M o) (hm : m + 1 ≤ 20000) : ∃ M1, fn_X9_goMinute M (o + 78) = some M1 ∧ SQ M M1 o Zm ∧ FV (ripS (gw G) m 1 S) (m + 1) M1 o := by
  have loop := itr_J (f := fun s2 : Int32 × QM => lp_X9_goMinute_2 (o + 78) s2.1 s2.2) (s0 := (0, M)) (fun c z => c ≤ 16 ∧ ∃ Mw, z = (nI c, Mw) ∧ SQ M Mw o Zk ∧ FV (fun j => if j < c then grI (gw G) m (S j) j else S j) m Mw o) (fun r => SQ M r o Zk ∧ FV (ripS (gw G) m 1 S) m r o) 16
    ⟨Nat.zero_le _, M, rfl, SQ.rfl, by simp only [Nat.not_lt_zero, if_false]; exact hF⟩
    (fun c z hz => by
      obtain ⟨hc, Mw, rfl, g1, g2⟩ := hz
      have hW' := hW.zm g1 (fun a k q => by unfold Zm; unfold Zk at q; rcases q with q | q; exact Or.inr (Or.inl q); exact Or.inr (Or.inr (Or.inl q)))
      have hS' := hW'.1
      show (∃ r, lp_X9_goMinute_2 (o + 78) (nI c) Mw = some (.inr r) ∧ _) ∨ _ ∧ ∃ s', lp_X9_goMinute_2 (o + 78) (nI c) Mw = some (.inl s') ∧ _
      by_cases e : c = 16
      · left
        subst e
        refine ⟨Mw, ?_, g1, ?_⟩
        · unfold lp_X9_goMinute_2
          rw [if_pos (by decide)]
        · refine ⟨fun j hj => by rw [g2.1 j hj]; show (if j < 16 then _ else _) = _; rw [if_pos hj]; rfl, g2.2.1, ripS_bd hF.2.2.1 1, by omega⟩
      · right
        have hc' : c < 16 := by omega
        have f1 := n16 hc'
        obtain ⟨M1, c1, c2, c3⟩ := goCell_m hS' hW'.2.2.2 g2 hc'
        refine ⟨hc', (nI (c + 1), M1), ?_, by omega, M1, rfl, g1.trans c2, ?_⟩
        · simp only [lp_X9_goMinute_2, f1, c1, nI_1, mt_sI, mt_sJ, mt_sP, mt_rI, mt_rJ, ml_sI, ml_sJ, ml_sP, ml_rI, ml_rJ, mP_sI, mP_sJ, mP_rI, mP_rJ, SHP_sI, SHP_sJ, SHP_rI, SHP_rJ, gI_e, pI_e, ck_e, bnd_s, nm_eq, pr2_e, cnul_0, cnul_1, drf_1, sm_1, sm_2, aI_e, aJ_e, wI_e, wJ_e, aL_e, cpI_e, cpJ_e, Nat.reduceLeDiff, Nat.reduceEqDiff, Nat.add_left_cancel_iff, ad0, ad1, false_and, and_false, true_and, and_true, reduceIte, if_true, if_false, zb0, zb1, Int32.reduceLT, Int32.reduceLE, i10, nw1, nw2, nt1, nt2, not_true_eq_false, not_false_eq_true, mt_78, mt_79, ml_79, mt_80, ml_80, mt_81, ml_81, mt_82, ml_82, mt_83, ml_83, mt_84, ml_84, mt_85, ml_85, mt_86, ml_86, mt_87, ml_87, mt_88, ml_88, mt_89, ml_89, mt_90, ml_90, mt_91, ml_91, mt_92, ml_92, mt_93, ml_93, mt_94, ml_94, mt_95, ml_95, mt_96, ml_96, mt_97, ml_97, mt_98, ml_98, mt_99, ml_99, mt_100, ml_100, mt_101, ml_101, mt_102, ml_102, mt_103, ml_103, mt_104, ml_104, mt_105, ml_105, mt_106, ml_106, mt_107, ml_107, mt_108, ml_108, mt_109, ml_109, mt_110, ml_110, mt_111, ml_111, mt_112, ml_112, mt_113, ml_113, mt_114, ml_114, mt_115, ml_115, mt_116, ml_116, mt_117, ml_117, mt_118, ml_118, mt_119, ml_119, mt_120, ml_120, mt_121, ml_121, mt_122, ml_122, mt_123, ml_123, gP_78_2, gP_78_3, gP_78_4, gP_78_5, gP_78_6, gP_78_12, gP_78_13, gP_78_14, gP_78_15, gP_78_16, gP_78_17, gP_78_18, gP_78_19, gP_78_23, gP_78_24, gP_78_26, gP_78_27, gP_78_28, gP_78_31, gP_78_32, gP_78_34, gP_78_35, gP_78_36, gP_78_37, gP_78_40, gP_78_41, gP_78_42, gP_78_43, gP_78_52, gP_78_53, gP_78_54, gP_78_55, gP_78_56, gP_78_57, gP_78_58, gP_78_59, gP_78_60, gP_78_61, gP_78_62, gP_78_63, gP_78_65, gP_78_66, gP_78_67, gP_78_68, gP_78_69, hS']
        · have v : ∀ j, j < 16 → mI M1 (o + 79) j = if j < c + 1 then grI (gw G) m (S j) j else S j := by
            intro j hj
            rw [c3 j hj]
            by_cases q : j = c
            · subst q
              rw [if_pos rfl, if_neg (Nat.lt_irrefl _), if_pos (Nat.lt_succ_self _)]
            · rw [if_neg q]
              by_cases q2 : j < c
              · rw [if_pos q2, if_pos (by omega)]
              · rw [if_neg q2, if_neg (by omega)]
          refine ⟨v, (c2.2.2.2.2 78 1 (by unfold Zk; omega)).trans g2.2.1, fun j hj => ?_, g2.2.2.2⟩
          dsimp only
          split
          · exact cl99_bd _
          · exact hF.2.2.1 j hj) (by decide)
  obtain ⟨r, h1, h2, h3⟩ := loop
  have hS' := h2.shp hW.1
  have h4 := h3.2.1
  refine ⟨sI r (o + 78) 1 (nI (m + 1)), ?_, (h2.mono fun a k q => by unfold Zm; unfold Zk at q; rcases q with q | q; exact Or.inr (Or.inl q); exact Or.inr (Or.inr (Or.inl q))).sI (Or.inr (Or.inr (Or.inr ⟨rfl, rfl⟩))), ?_⟩
  · simp only [fn_X9_goMinute, h1, h4, nI_1, mt_sI, mt_sJ, mt_sP, mt_rI, mt_rJ, ml_sI, ml_sJ, ml_sP, ml_rI, ml_rJ, mP_sI, mP_sJ, mP_rI, mP_rJ, SHP_sI, SHP_sJ, SHP_rI, SHP_rJ, gI_e, pI_e, ck_e, bnd_s, nm_eq, pr2_e, cnul_0, cnul_1, drf_1, sm_1, sm_2, aI_e, aJ_e, wI_e, wJ_e, aL_e, cpI_e, cpJ_e, Nat.reduceLeDiff, Nat.reduceEqDiff, Nat.add_left_cancel_iff, ad0, ad1, false_and, and_false, true_and, and_true, reduceIte, if_true, if_false, zb0, zb1, Int32.reduceLT, Int32.reduceLE, i10, nw1, nw2, nt1, nt2, not_true_eq_false, not_false_eq_true, mt_78, mt_79, ml_79, mt_80, ml_80, mt_81, ml_81, mt_82, ml_82, mt_83, ml_83, mt_84, ml_84, mt_85, ml_85, mt_86, ml_86, mt_87, ml_87, mt_88, ml_88, mt_89, ml_89, mt_90, ml_90, mt_91, ml_91, mt_92, ml_92, mt_93, ml_93, mt_94, ml_94, mt_95, ml_95, mt_96, ml_96, mt_97, ml_97, mt_98, ml_98, mt_99, ml_99, mt_100, ml_100, mt_101, ml_101, mt_102, ml_102, mt_103, ml_103, mt_104, ml_104, mt_105, ml_105, mt_106, ml_106, mt_107, ml_107, mt_108, ml_108, mt_109, ml_109, mt_110, ml_110, mt_111, ml_111, mt_112, ml_112, mt_113, ml_113, mt_114, ml_114, mt_115, ml_115, mt_116, ml_116, mt_117, ml_117, mt_118, ml_118, mt_119, ml_119, mt_120, ml_120, mt_121, ml_121, mt_122, ml_122, mt_123, ml_123, gP_78_2, gP_78_3, gP_78_4, gP_78_5, gP_78_6, gP_78_12, gP_78_13, gP_78_14, gP_78_15, gP_78_16, gP_78_17, gP_78_18, gP_78_19, gP_78_23, gP_78_24, gP_78_26, gP_78_27, gP_78_28, gP_78_31, gP_78_32, gP_78_34, gP_78_35, gP_78_36, gP_78_37, gP_78_40, gP_78_41, gP_78_42, gP_78_43, gP_78_52, gP_78_53, gP_78_54, gP_78_55, gP_78_56, gP_78_57, gP_78_58, gP_78_59, gP_78_60, gP_78_61, gP_78_62, gP_78_63, gP_78_65, gP_78_66, gP_78_67, gP_78_68, gP_78_69, hS']
  · refine ⟨fun c hc => ?_, by simp only [mt_sI, mt_sJ, mt_sP, mt_rI, mt_rJ, ml_sI, ml_sJ, ml_sP, ml_rI, ml_rJ, mP_sI, mP_sJ, mP_rI, mP_rJ, SHP_sI, SHP_sJ, SHP_rI, SHP_rJ, mI_sI, mI_rI, mI_sJ, mI_rJ, mI_sP, mJ_sI, mJ_rI, mJ_sP, mJ_sJ, mJ_rJ, gI_e, pI_e, ck_e, bnd_s, nm_eq, pr2_e, cnul_0, cnul_1, drf_1, sm_1, sm_2, aI_e, aJ_e, wI_e, wJ_e, aL_e, cpI_e, cpJ_e, Nat.reduceLeDiff, Nat.reduceEqDiff, Nat.add_left_cancel_iff, ad0, ad1, false_and, and_false, true_and, and_true, reduceIte, if_true, if_false, zb0, zb1, Int32.reduceLT, Int32.reduceLE, i10, nw1, nw2, nt1, nt2, not_true_eq_false, not_false_eq_true], h3.2.2.1, hm⟩
    simp only [mt_sI, mt_sJ, mt_sP, mt_rI, mt_rJ, ml_sI, ml_sJ, ml_sP, ml_rI, ml_rJ, mP_sI, mP_sJ, mP_rI, mP_rJ, SHP_sI, SHP_sJ, SHP_rI, SHP_rJ, mI_sI, mI_rI, mI_sJ, mI_rJ, mI_sP, mJ_sI, mJ_rI, mJ_sP, mJ_sJ, mJ_rJ, gI_e, pI_e, ck_e, bnd_s, nm_eq, pr2_e, cnul_0, cnul_1, drf_1, sm_1, sm_2, aI_e, aJ_e, wI_e, wJ_e, aL_e, cpI_e, cpJ_e, Nat.reduceLeDiff, Nat.reduceEqDiff, Nat.add_left_cancel_iff, ad0, ad1, false_and, and_false, true_and, and_true, reduceIte, if_true, if_false, zb0, zb1, Int32.reduceLT, Int32.reduceLE, i10, nw1, nw2, nt1, nt2, not_true_eq_false, not_false_eq_true]
    exact h3.1 c hc
theorem goMinutes_m (hW : MW M o G w) (hF : FV S m M o) (hm : m + n ≤ 20000) (hn : n ≤ 60) : ∃ M1, fn_X9_goMinutes M (o + 78) (nI n) = some M1 ∧ SQ M M1 o Zm ∧ FV (ripS (gw G) m n S) (m + n) M1 o := by
  have loop := itr_J (f := fun s2 : Int32 × QM => lp_X9_goMinutes_2 (o + 78) (nI n) s2.1 s2.2) (s0 := (0, M)) (fun i z => i ≤ n ∧ ∃ Mw, z = (nI i, Mw) ∧ SQ M Mw o Zm ∧ FV (ripS (gw G) m i S) (m + i) Mw o) (fun r => SQ M r o Zm ∧ FV (ripS (gw G) m n S) (m + n) r o) 60
    ⟨Nat.zero_le _, M, rfl, SQ.rfl, hF⟩
    (fun i z hz => by
      obtain ⟨hi, Mw, rfl, g1, g2⟩ := hz
      have hW' := hW.zm g1 (fun a k q => q)
      have hS' := hW'.1
      show (∃ r, lp_X9_goMinutes_2 (o + 78) (nI n) (nI i) Mw = some (.inr r) ∧ _) ∨ _ ∧ ∃ s', lp_X9_goMinutes_2 (o + 78) (nI n) (nI i) Mw = some (.inl s') ∧ _
      by_cases e : i = n
      · left
        subst e
        refine ⟨Mw, ?_, g1, g2⟩
        unfold lp_X9_goMinutes_2
        rw [if_pos (nI_le (Nat.le_refl _) (by omega))]
      · right
        have f1 : ¬ nI n ≤ nI i := by rw [nI_leI (by omega) (by omega)]; omega
        obtain ⟨M1, c1, c2, c3⟩ := goMinute_m hW' g2 (by omega)
        refine ⟨by omega, (nI (i + 1), M1), ?_, by omega, M1, rfl, g1.trans c2, c3⟩
        simp only [lp_X9_goMinutes_2, f1, c1, nI_1, mt_sI, mt_sJ, mt_sP, mt_rI, mt_rJ, ml_sI, ml_sJ, ml_sP, ml_rI, ml_rJ, mP_sI, mP_sJ, mP_rI, mP_rJ, SHP_sI, SHP_sJ, SHP_rI, SHP_rJ, gI_e, pI_e, ck_e, bnd_s, nm_eq, pr2_e, cnul_0, cnul_1, drf_1, sm_1, sm_2, aI_e, aJ_e, wI_e, wJ_e, aL_e, cpI_e, cpJ_e, Nat.reduceLeDiff, Nat.reduceEqDiff, Nat.add_left_cancel_iff, ad0, ad1, false_and, and_false, true_and, and_true, reduceIte, if_true, if_false, zb0, zb1, Int32.reduceLT, Int32.reduceLE, i10, nw1, nw2, nt1, nt2, not_true_eq_false, not_false_eq_true, mt_78, mt_79, ml_79, mt_80, ml_80, mt_81, ml_81, mt_82, ml_82, mt_83, ml_83, mt_84, ml_84, mt_85, ml_85, mt_86, ml_86, mt_87, ml_87, mt_88, ml_88, mt_89, ml_89, mt_90, ml_90, mt_91, ml_91, mt_92, ml_92, mt_93, ml_93, mt_94, ml_94, mt_95, ml_95, mt_96, ml_96, mt_97, ml_97, mt_98, ml_98, mt_99, ml_99, mt_100, ml_100, mt_101, ml_101, mt_102, ml_102, mt_103, ml_103, mt_104, ml_104, mt_105, ml_105, mt_106, ml_106, mt_107, ml_107, mt_108, ml_108, mt_109, ml_109, mt_110, ml_110, mt_111, ml_111, mt_112, ml_112, mt_113, ml_113, mt_114, ml_114, mt_115, ml_115, mt_116, ml_116, mt_117, ml_117, mt_118, ml_118, mt_119, ml_119, mt_120, ml_120, mt_121, ml_121, mt_122, ml_122, mt_123, ml_123, gP_78_2, gP_78_3, gP_78_4, gP_78_5, gP_78_6, gP_78_12, gP_78_13, gP_78_14, gP_78_15, gP_78_16, gP_78_17, gP_78_18, gP_78_19, gP_78_23, gP_78_24, gP_78_26, gP_78_27, gP_78_28, gP_78_31, gP_78_32, gP_78_34, gP_78_35, gP_78_36, gP_78_37, gP_78_40, gP_78_41, gP_78_42, gP_78_43, gP_78_52, gP_78_53, gP_78_54, gP_78_55, gP_78_56, gP_78_57, gP_78_58, gP_78_59, gP_78_60, gP_78_61, gP_78_62, gP_78_63, gP_78_65, gP_78_66, gP_78_67, gP_78_68, gP_78_69, hS']) (by decide)
  obtain ⟨r, h2, h3⟩ := loop
  refine ⟨r, ?_, h3⟩
  unfold fn_X9_goMinutes
  rw [bnd_e h2]
end RI1
