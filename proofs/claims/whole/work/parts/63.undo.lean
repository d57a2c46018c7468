/-! ===== image and undo keep what is held in common: printed by tools/image2.py ===== -/
theorem dm20 : ∀ i, i < 13 → ¬ i = 1 → dmT.getD (i + 20) 0 = dmT.getD i 0 ∧ ((szT.getD i 0 = 0 ∧ szT.getD (i + 20) 0 = 0) ∨ (2 ≤ szT.getD i 0 ∧ szT.getD i 0 ≤ 6 ∧ ¬ szT.getD i 0 = 3 ∧ szT.getD (i + 20) 0 = szT.getD i 0 + 10)) ∧ bT.getD (i + 20) 0 = bT.getD i 0 := by decide
theorem sz19 : ∀ j, j < 20 → szT.getD j 0 ≤ 10 ∧ ¬ szT.getD j 0 = 7 ∧ ¬ szT.getD j 0 = 1 := by decide
theorem sz13 : ∀ j, j < 20 → j < 13 ∨ (szT.getD j 0 = 0 ∨ 9 ≤ szT.getD j 0) ∧ szT.getD j 0 ≤ 10 := by decide
theorem sz33 : ∀ j, j < 33 → j < 20 ∨ szT.getD j 0 = 0 ∨ 11 ≤ szT.getD j 0 := by decide
theorem kk20 {i k : Nat} (hi : i < 13) : kk4 (i + 20) k = kk4 i k := by
  unfold kk4
  by_cases e : i = 5
  · rw [if_pos (by omega), if_pos (by omega)]
  · rw [if_neg (by omega), if_neg (by omega)]
theorem SHP.pt {M N : QM} {o : Nat} (h : SHP M o) (h1 : N.2.1 = M.2.1) (h2 : ∀ a k, ¬ ((a = 1 ∨ a = 27) ∧ k = 7) → mP N (o + a) k = mP M (o + a) k) : SHP N o :=
  ⟨fun i hi => by rw [h1]; exact h.1 i hi, fun q hq => by
    rw [h2 q.1 q.2.1 (by
      have := (by decide +kernel : ∀ q ∈ ptT, ¬ ((q.1 = 1 ∨ q.1 = 27) ∧ q.2.1 = 7)) q hq
      exact this)]
    exact h.2 q hq⟩
theorem BRW.pt {M N : QM} {o : Nat} {G G' : GG} (h : BRW M o G) (h1 : N.1 = M.1) (h2 : N.2.1 = M.2.1) (h3 : ∀ a k, ¬ ((a = 1 ∨ a = 27) ∧ k = 7) → mP N (o + a) k = mP M (o + a) k) (hf : ∀ a k, fx a k = true → ¬ (a = 78 ∧ (k = 8 ∨ k = 45)) → mI N (o + a) k = mI M (o + a) k) (hg : G' 1 7 = G 1 7 ∧ ∀ x i, G' (50 + x) i = G (50 + x) i)
    (hc : (mP N (o + 1) 7 = mP M (o + 1) 7 ∧ mP N (o + 27) 7 = mP M (o + 1) 7 ∧ mI N (o + 78) 8 = mI M (o + 78) 8 ∧ mI N (o + 78) 45 = mI M (o + 78) 8 ∧ G' 1 10 = G 1 10 ∧ G' 21 10 = G 1 10) ∨ (mP N (o + 1) 7 = mP M (o + 27) 7 ∧ mP N (o + 27) 7 = mP M (o + 27) 7 ∧ mI N (o + 78) 8 = mI M (o + 78) 45 ∧ mI N (o + 78) 45 = mI M (o + 78) 45 ∧ G' 1 10 = G 21 10 ∧ G' 21 10 = G 21 10)) : BRW N o G' := by
  obtain ⟨nb, e, e2, ⟨a1, a1', a1''⟩, ⟨a2, a2', a2''⟩, a3, ⟨a4, a4'⟩, ⟨a5, a5'⟩, a6⟩ := h
  have rest : ∀ x, x ≤ nb → (N.2.1 (o + hA x) = (1, 0) ∧ N.2.1 (o + (hA x + 1)) = (20, 1600) ∧ mP N (o + hA x) 0 = some (o + (hA x + 1))) ∧ ((∀ i, i < 1600 → mI N (o + (hA x + 1)) i = G' (50 + x) i) ∧ mI N (o + hA x) 1 = G' (50 + x) 1600 ∧ mI N (o + hA x) 2 = G' (50 + x) 1601) ∧ ∃ cl : List CLA, CLV cl (G' (50 + x)) ∧ (x = 0 → cl = []) ∧ ∀ b, x = b + 1 → CLR (mI N (o + 85)) (mI N (o + 86)) (mI N (o + 87)) (mI N (o + 88)) (mI N (o + 89)) (mI N (o + 90)) b cl := by
    intro x hx
    obtain ⟨b1, b2, cl, b3, b4, b5⟩ := a6 x hx
    have hh := hA_ge x
    refine ⟨?_, ?_, cl, ?_, b4, ?_⟩
    · rw [h2, h3 _ _ (by omega)]; exact b1
    · refine ⟨fun i hi => ?_, ?_, ?_⟩
      · rw [hf _ i (fx_hA1 x i) (by omega), hg.2]; exact b2.1 i hi
      · rw [hf _ _ (fx_hA x 1) (by omega), hg.2]; exact b2.2.1
      · rw [hf _ _ (fx_hA x 2) (by omega), hg.2]; exact b2.2.2
    · rw [show G' (50 + x) = G (50 + x) from funext fun i => hg.2 x i]; exact b3
    · intro b hb
      have e5 : ∀ r, 85 ≤ r → r ≤ 90 → mI N (o + r) = mI M (o + r) := fun r r1 r2 => funext fun k => hf r k (by unfold fx; simp [r1, r2]) (by omega)
      rw [e5 85 (by omega) (by omega), e5 86 (by omega) (by omega), e5 87 (by omega) (by omega), e5 88 (by omega) (by omega), e5 89 (by omega) (by omega), e5 90 (by omega) (by omega)]
      exact b5 b hb
  rcases hc with ⟨c1, c2, c3, c4, c5, c6⟩ | ⟨c1, c2, c3, c4, c5, c6⟩
  · exact ⟨nb, e, e, ⟨a1, a1', a1'⟩, ⟨by rw [hg.1]; exact a2, by rw [c5]; exact a2', by rw [c6]; exact a2'⟩, h1.trans a3, ⟨c1.trans a4, c2.trans a4⟩, ⟨c3.trans a5, c4.trans a5⟩, rest⟩
  · exact ⟨nb, e2, e2, ⟨a1, a1'', a1''⟩, ⟨by rw [hg.1]; exact a2, by rw [c5]; exact a2'', by rw [c6]; exact a2''⟩, h1.trans a3, ⟨c1.trans a4', c2.trans a4'⟩, ⟨c3.trans a5', c4.trans a5'⟩, rest⟩
theorem FIX.fr' {M N : QM} {o : Nat} (h : FIX M o) (hf : ∀ a k, fx a k = true → ¬ (a = 78 ∧ (k = 8 ∨ k = 45)) → mI N (o + a) k = mI M (o + a) k) : FIX N o :=
  ⟨(hf 78 25 rfl (by omega)).trans h.1, fun k hk => (hf 92 k rfl (by omega)).trans (h.2.1 k hk), ⟨(hf 5 0 rfl (by omega)).trans h.2.2.1.1, (hf 9 0 rfl (by omega)).trans h.2.2.1.2.1, (hf 13 0 rfl (by omega)).trans h.2.2.1.2.2⟩, (hf 31 0 rfl (by omega)).trans h.2.2.2.1, (hf 35 0 rfl (by omega)).trans h.2.2.2.2.1, (hf 39 0 rfl (by omega)).trans h.2.2.2.2.2⟩
def GI (G : GG) : GG := fun j k => if 20 ≤ j ∧ j < 33 then (if j = 21 then (if k < 6 then G 1 k else if k = 10 then G 1 10 else G 21 k) else G (j - 20) k) else if j = 1 ∧ k = 6 then 1 else G j k
section U_image
variable {M N : QM} {o : Nat} {G : GG}
theorem GI_o {j k : Nat} (h : ¬ (20 ≤ j ∧ j < 33)) (h2 : ¬ (j = 1 ∧ k = 6)) : GI G j k = G j k := by unfold GI; rw [if_neg h, if_neg h2]
theorem GI_d {i k : Nat} (hi : i < 13) (h : ¬ i = 1) : GI G (i + 20) k = G i k := by unfold GI; rw [if_pos (by omega), if_neg (by omega), Nat.add_sub_cancel]
theorem GI_1 {k : Nat} (h : k < 6) : GI G 21 k = G 1 k := by unfold GI; rw [if_pos (by decide), if_pos rfl, if_pos h]
theorem Lv_GI {j k : Nat} (h : Lv (GI G) j k) : (j < 20 ∧ Lv G j k) ∨ (j = 21 ∧ k < 6) ∨ ∃ i, i < 13 ∧ ¬ i = 1 ∧ j = i + 20 ∧ Lv G i k := by
  have hj := dm_lt h.1
  obtain ⟨h1, h2, h3, h4⟩ := h
  by_cases q : j < 20
  · refine Or.inl ⟨q, h1, ?_, fun e => ?_, fun e => by omega⟩
    · obtain ⟨s1, s2, s3⟩ := sz19 j q
      have : szv (GI G) j = szv G j := by
        unfold szv gN
        by_cases z : szT.getD j 0 = 0
        · rw [if_pos z, if_pos z]
        · rw [if_neg z, if_neg z, if_pos s1, if_pos s1, GI_o (by omega) (by omega)]
      rw [this] at h2; exact h2
    · have := h3 e
      rw [GI_o (by omega) (by omega)] at this; exact this
  · by_cases q1 : j = 21
    · refine Or.inr (Or.inl ⟨q1, ?_⟩)
      rw [q1] at h1; exact h1
    · obtain ⟨i, rfl⟩ : ∃ i, j = i + 20 := ⟨j - 20, by omega⟩
      have hi : i < 13 := by omega
      obtain ⟨d1, d2, d3⟩ := dm20 i hi (by omega)
      refine Or.inr (Or.inr ⟨i, hi, by omega, rfl, ?_, ?_, fun e => ?_, fun e => by omega⟩)
      · have h1 : k < dmT.getD (i + 20) 0 := h1
        rw [d1] at h1; exact h1
      · rw [kk20 hi] at h2
        have : szv (GI G) (i + 20) = szv G i := by
          unfold szv gN
          rcases d2 with ⟨z1, z2⟩ | ⟨z1, z2, z3, z4⟩
          · rw [if_pos z2, if_pos z1]
          · rw [if_neg (by omega), if_neg (by omega), if_neg (by omega), if_pos (by omega), GI_1 (by omega)]
            congr 2
            omega
        rw [this] at h2; exact h2
      · have := h4 (by omega)
        rw [show (29 : Nat) = 9 + 20 from rfl, GI_d (by decide) (by decide)] at this
        exact this
def ZZ_image : Nat → Nat → Prop := fun a k => ZD 27 a k ∨ (a = 0 ∧ k = 2) ∨ Z_image a k
def zB_image (q : Nat × Nat) : Bool := (decide (27 ≤ q.1) && decide (q.1 ≤ 52)) || (q.1 == 0 && q.2 == 2) || (q.1 == 78 && decide (44 ≤ q.2) && decide (q.2 ≤ 51)) || (decide (107 ≤ q.1) && decide (q.1 ≤ 118))
theorem ZZ_image_b {a k : Nat} (h : ZZ_image a k) : zB_image (a, k) = true := by
  unfold ZZ_image ZD Z_image at h
  unfold zB_image
  simp only [Bool.or_eq_true, Bool.and_eq_true, beq_iff_eq, decide_eq_true_eq]
  omega
theorem zB_image_c : ∀ j, j < 20 → ∀ k, k < dm j → (j = 1 ∧ k = 6) ∨ (zB_image (cL j k) = false ∧ zB_image (mL j k) = false) := by decide +kernel
theorem ZZ_image_fx {a k : Nat} (h : fx a k = true) (h2 : ¬ (a = 78 ∧ (k = 8 ∨ k = 45))) : ¬ ZZ_image a k := by
  intro z
  unfold fx at h
  simp only [Bool.or_eq_true, Bool.and_eq_true, beq_iff_eq, decide_eq_true_eq] at h
  unfold ZZ_image ZD Z_image at z
  omega
set_option maxHeartbeats 2000000 in
theorem RR.imaged (h : RR M o G) (e1 : N.1 = M.1) (e2 : N.2.1 = M.2.1) (e3 : ∀ a k, ¬ ((a = 1 ∨ a = 27) ∧ k = 7) → mP N (o + a) k = mP M (o + a) k) (e4 : ∀ a k, mJ N a k = mJ M a k) (e5 : ∀ a k, ¬ ZZ_image a k → mI N (o + a) k = mI M (o + a) k) (hp : mP N (o + 27) 7 = mP M (o + 1) 7) (hp2 : mP N (o + 1) 7 = mP M (o + 1) 7) (h8 : mI N (o + 78) 8 = mI M (o + 78) 8) (hI : mI N (o + 0) 2 = 1 ∧ mI N (o + 78) 44 = 1) (sv : SV M N o 1 27 (gN G 1 1) (gN G 1 3) (gN G 1 4) (gN G 1 5)) (vm : V_image M N o) : RR N o (GI G) := by
  have hf : ∀ a k, fx a k = true → ¬ (a = 78 ∧ (k = 8 ∨ k = 45)) → mI N (o + a) k = mI M (o + a) k := fun a k q z => e5 a k (ZZ_image_fx q z)
  obtain ⟨⟨c0, c1, c2, c3⟩, wk, ⟨z1, r1⟩, ⟨z2, r2⟩, ⟨z3, r3⟩⟩ := sv
  obtain ⟨⟨v45, v46, v47, v48, v49, v50, v51⟩, u0, u1, u2, u3, u4, u5, u6, u7, u8, u9, u10, u11⟩ := vm
  have sz : ∀ i, i < 6 → G 1 i = nI (gN G 1 i) := fun i hi => by
    obtain ⟨n, n1, n2, n3⟩ := h.2.sc i (by omega)
    rw [n3]; exact n2
  have cs : ∀ k, k < 6 → mI N (o + (cL 21 k).1) (cL 21 k).2 = G 1 k := fun k hk => by
    rcases (by omega : k = 0 ∨ k = 1 ∨ k = 2 ∨ k = 3 ∨ k = 4 ∨ k = 5) with rfl | rfl | rfl | rfl | rfl | rfl
    · exact (c1).trans (h.c (Lv_1 (i := 0) (by decide)) rfl)
    · exact (c2).trans (sz 1 (by decide)).symm
    · exact (c3).trans (h.c (Lv_1 (i := 2) (by decide)) rfl)
    · exact (z1).trans (sz 3 (by decide)).symm
    · exact (z2).trans (sz 4 (by decide)).symm
    · exact (z3).trans (sz 5 (by decide)).symm
  have ms : ∀ k, k < 6 → mI N (o + (mL 21 k).1) (mL 21 k).2 = G 1 k := fun k hk => by
    rcases (by omega : k = 0 ∨ k = 1 ∨ k = 2 ∨ k = 3 ∨ k = 4 ∨ k = 5) with rfl | rfl | rfl | rfl | rfl | rfl
    · exact (v47).trans (h.m (Lv_1 (i := 0) (by decide)) rfl)
    · exact (v46).trans (h.m (Lv_1 (i := 1) (by decide)) rfl)
    · exact (v48).trans (h.m (Lv_1 (i := 2) (by decide)) rfl)
    · exact (v49).trans (h.m (Lv_1 (i := 3) (by decide)) rfl)
    · exact (v50).trans (h.m (Lv_1 (i := 4) (by decide)) rfl)
    · exact (v51).trans (h.m (Lv_1 (i := 5) (by decide)) rfl)
  have cd : ∀ i k, i < 13 → ¬ i = 1 → Lv G (i + 0) k → mI N (o + (cL (i + 20) k).1) (cL (i + 20) k).2 = G (i + 0) k := fun i k hi hn l => by
    rcases (by omega : i = 0 ∨ i = 2 ∨ i = 3 ∨ i = 4 ∨ i = 5 ∨ i = 6 ∨ i = 7 ∨ i = 8 ∨ i = 9 ∨ i = 10 ∨ i = 11 ∨ i = 12) with rfl | rfl | rfl | rfl | rfl | rfl | rfl | rfl | rfl | rfl | rfl | rfl
    · exact (c0 k l.1).trans (h.c l rfl)
    · have q := l.2.1
      rw [szv_at (i := 1) (by decide) (by decide)] at q
      have q : k < gN G 1 1 := q
      exact ((wk k q).1 0 (by decide)).trans (h.c l rfl)
    · have q := l.2.1
      rw [szv_at (i := 1) (by decide) (by decide)] at q
      have q : k < gN G 1 1 := q
      exact ((wk k q).1 1 (by decide)).trans (h.c l rfl)
    · have q := l.2.1
      rw [szv_at (i := 1) (by decide) (by decide)] at q
      have q : k < gN G 1 1 := q
      exact ((wk k q).1 2 (by decide)).trans (h.c l rfl)
    · have q := l.2.1
      rw [szv_at (i := 1) (by decide) (by decide)] at q
      have q : k / 4 < gN G 1 1 := q
      exact ((wk (k / 4) q).2 (k % 4) (Nat.mod_lt _ (by decide))).trans (h.c l rfl)
    · have q := l.2.1
      rw [szv_at (i := 3) (by decide) (by decide)] at q
      have q : k < gN G 1 3 := q
      exact (r1 k q).1.trans (h.c l rfl)
    · have q := l.2.1
      rw [szv_at (i := 3) (by decide) (by decide)] at q
      have q : k < gN G 1 3 := q
      exact (r1 k q).2.1.trans (h.c l rfl)
    · have q := l.2.1
      rw [szv_at (i := 3) (by decide) (by decide)] at q
      have q : k < gN G 1 3 := q
      exact (r1 k q).2.2.trans (h.c l rfl)
    · have q := l.2.1
      rw [szv_at (i := 4) (by decide) (by decide)] at q
      have q : k < gN G 1 4 := q
      exact (r2 k q).1.trans (h.c l rfl)
    · have q := l.2.1
      rw [szv_at (i := 4) (by decide) (by decide)] at q
      have q : k < gN G 1 4 := q
      exact (r2 k q).2.trans (h.c l rfl)
    · have q := l.2.1
      rw [szv_at (i := 5) (by decide) (by decide)] at q
      have q : k < gN G 1 5 := q
      exact (r3 k q).1.trans (h.c l rfl)
    · have q := l.2.1
      rw [szv_at (i := 5) (by decide) (by decide)] at q
      have q : k < gN G 1 5 := q
      exact (r3 k q).2.trans (h.c l rfl)
  have md : ∀ i k, i < 13 → ¬ i = 1 → Lv G (i + 0) k → mI N (o + (mL (i + 20) k).1) (mL (i + 20) k).2 = G (i + 0) k := fun i k hi hn l => by
    rcases (by omega : i = 0 ∨ i = 2 ∨ i = 3 ∨ i = 4 ∨ i = 5 ∨ i = 6 ∨ i = 7 ∨ i = 8 ∨ i = 9 ∨ i = 10 ∨ i = 11 ∨ i = 12) with rfl | rfl | rfl | rfl | rfl | rfl | rfl | rfl | rfl | rfl | rfl | rfl
    · exact (u0 k l.1).trans (h.m l rfl)
    · exact (u1 k l.1).trans (h.m l rfl)
    · exact (u2 k l.1).trans (h.m l rfl)
    · exact (u3 k l.1).trans (h.m l rfl)
    · exact (u4 k l.1).trans (h.m l rfl)
    · exact (u5 k l.1).trans (h.m l rfl)
    · exact (u6 k l.1).trans (h.m l rfl)
    · obtain ⟨x, x1, x2⟩ := h.2.1 8 k l (by decide)
      have x1 : x ≤ 1 := x1
      have x3 : zb (G 8 k) = G 8 k := by
        rw [x2]
        rcases (by omega : x = 0 ∨ x = 1) with rfl | rfl <;> decide
      exact (u7 k l.1).trans ((congrArg zb (h.m l rfl)).trans x3)
    · exact (u8 k l.1).trans (h.m l rfl)
    · exact (u9 k l.1).trans (h.m l rfl)
    · exact (u10 k l.1).trans (h.m l rfl)
    · exact (u11 k l.1).trans (h.m l rfl)
  refine ⟨⟨h.1.1.pt e2 e3, fun j k q => ?_, fun j k q => ?_, fun t k a b => by rw [e4, e4]; exact h.1.2.2.2.1 t k a b, ?_, h.1.2.2.2.2.2.pt e1 e2 e3 hf ⟨GI_o (by decide) (by decide), fun x i => GI_o (by omega) (by omega)⟩ (Or.inl ⟨hp2, hp, h8, v45, GI_o (by decide) (by decide), rfl⟩)⟩, fun j k q hj => ?_, ⟨fun k q => ?_, fun k q => ?_⟩, fun t ht => ?_⟩
  · rcases Lv_GI q with ⟨q1, q2⟩ | ⟨rfl, q1⟩ | ⟨i, q1, q2, rfl, q3⟩
    · rcases zB_image_c j q1 k q2.1 with ⟨rfl, rfl⟩ | ⟨y, -⟩
      · exact hI.1
      · rw [e5 _ _ (fun z => by rw [ZZ_image_b z] at y; cases y), GI_o (by omega) (fun z => by obtain ⟨rfl, rfl⟩ := z; revert y; decide)]
        exact h.1.2.1 j k q2
    · rw [GI_1 q1]; exact cs k q1
    · rw [GI_d q1 q2]; exact cd i k q1 q2 q3
  · rcases Lv_GI q with ⟨q1, q2⟩ | ⟨rfl, q1⟩ | ⟨i, q1, q2, rfl, q3⟩
    · rcases zB_image_c j q1 k q2.1 with ⟨rfl, rfl⟩ | ⟨y0, y⟩
      · exact hI.2
      · rw [e5 _ _ (fun z => by rw [ZZ_image_b z] at y; cases y), GI_o (by omega) (fun z => by obtain ⟨rfl, rfl⟩ := z; revert y; decide)]
        exact h.1.2.2.1 j k q2
    · rw [GI_1 q1]; exact ms k q1
    · rw [GI_d q1 q2]; exact md i k q1 q2 q3
  · exact h.1.2.2.2.2.1.fr' hf
  · rcases Lv_GI q with ⟨q1, q2⟩ | ⟨rfl, q1⟩ | ⟨i, q1, q2, rfl, q3⟩
    · by_cases z : j = 1 ∧ k = 6
      · rw [z.1, z.2]; exact bd_nI (k := 1) (by decide)
      · rw [GI_o (by omega) z]; exact h.2.1 j k q2 hj
    · rw [GI_1 q1]; exact h.2.1 1 k (Lv_1 (by omega)) (by decide)
    · rw [GI_d q1 q2]
      have y := h.2.1 i k q3 (by omega)
      have eb : bo (i + 20) k = bo i k := by
        unfold bo
        rw [if_neg (by omega), if_neg (by omega), (dm20 i q1 q2).2.2]
      rw [eb]; exact y
  · rcases Lv_GI q with ⟨q1, q2⟩ | ⟨q0, q1⟩ | ⟨i, q1, q2, q0, q3⟩
    · unfold gN
      rw [GI_o (by decide) (by omega), GI_o (by decide) (by omega)]; exact h.2.2.1.1 k q2
    · omega
    · omega
  · rcases Lv_GI q with ⟨q1, q2⟩ | ⟨q0, q1⟩ | ⟨i, q1, q2, q0, q3⟩
    · omega
    · omega
    · have : i = 6 := by omega
      subst this
      unfold gN
      rw [show (26 : Nat) = 6 + 20 from rfl, GI_d (by decide) (by decide), GI_1 (by decide)]; exact h.2.2.1.1 k q3
  · rw [GI_o (by decide) (by omega), GI_o (by decide) (by omega)]; exact h.2.2.2 t ht
end U_image
def GV (G : GG) : GG := fun j k => if j < 13 then (if j = 1 then (if k < 6 then G 21 k else if k = 10 then G 21 10 else G 1 k) else G (j + 20) k) else G j k
section U_undo
variable {M N : QM} {o : Nat} {G : GG}
theorem GV_o {j k : Nat} (h : ¬ j < 13) : GV G j k = G j k := by unfold GV; rw [if_neg h]
theorem GV_d {i k : Nat} (hi : i < 13) (h : ¬ i = 1) : GV G i k = G (i + 20) k := by unfold GV; rw [if_pos hi, if_neg h]
theorem GV_1 {k : Nat} (h : k < 6) : GV G 1 k = G 21 k := by unfold GV; rw [if_pos (by decide), if_pos rfl, if_pos h]
theorem GV_s {k : Nat} (h : ¬ k < 6) (h2 : ¬ k = 10) : GV G 1 k = G 1 k := by unfold GV; rw [if_pos (by decide), if_pos rfl, if_neg h, if_neg h2]
theorem Lv_GV {j k : Nat} (h : Lv (GV G) j k) : (13 ≤ j ∧ Lv G j k) ∨ (j = 1 ∧ k < 10) ∨ (j < 13 ∧ ¬ j = 1 ∧ Lv G (j + 20) k) := by
  have hj := dm_lt h.1
  obtain ⟨h1, h2, h3, h4⟩ := h
  by_cases q : j < 13
  · by_cases q1 : j = 1
    · refine Or.inr (Or.inl ⟨q1, ?_⟩)
      rw [q1] at h1; exact h1
    · obtain ⟨d1, d2, d3⟩ := dm20 j q q1
      refine Or.inr (Or.inr ⟨q, q1, ?_, ?_, fun e => by omega, fun e => ?_⟩)
      · have h1 : k < dmT.getD j 0 := h1
        rw [← d1] at h1; exact h1
      · rw [kk20 q]
        have : szv (GV G) j = szv G (j + 20) := by
          unfold szv gN
          rcases d2 with ⟨z1, z2⟩ | ⟨z1, z2, z3, z4⟩
          · rw [if_pos z2, if_pos z1]
          · rw [if_neg (show ¬ szT.getD j 0 = 0 by omega), if_pos (show szT.getD j 0 ≤ 10 by omega), if_neg (show ¬ szT.getD (j + 20) 0 = 0 by omega), if_neg (show ¬ szT.getD (j + 20) 0 ≤ 10 by omega), GV_1 (by omega)]
            congr 2
            omega
        rw [this] at h2; exact h2
      · have := h3 (by omega)
        rw [GV_d (by decide) (by decide)] at this
        exact this
  · refine Or.inl ⟨by omega, h1, ?_, fun e => by omega, fun e => ?_⟩
    · have : szv (GV G) j = szv G j := by
        unfold szv gN
        by_cases z : szT.getD j 0 = 0
        · rw [if_pos z, if_pos z]
        · rw [if_neg z, if_neg z]
          by_cases z2 : szT.getD j 0 ≤ 10
          · have z3 : 9 ≤ szT.getD j 0 := by
              by_cases y : j < 20
              · have := sz13 j y; omega
              · have := sz33 j hj
                omega
            rw [if_pos z2, if_pos z2, GV_s (by omega) (by omega)]
          · rw [if_neg z2, if_neg z2, GV_o (by decide)]
      rw [this] at h2; exact h2
    · have := h4 e
      rw [GV_o (by decide)] at this; exact this
def ZZ_undo : Nat → Nat → Prop := fun a k => ZD 1 a k ∨ Z_undo a k
def zB_undo (q : Nat × Nat) : Bool := (decide (1 ≤ q.1) && decide (q.1 ≤ 26)) || (q.1 == 78 && (q.2 == 8 || q.2 == 0 || q.2 == 1 || q.2 == 29 || q.2 == 33 || q.2 == 38 || q.2 == 39)) || (decide (79 ≤ q.1) && decide (q.1 ≤ 83)) || q.1 == 99 || q.1 == 100 || (decide (102 ≤ q.1) && decide (q.1 ≤ 106))
theorem ZZ_undo_b {a k : Nat} (h : ZZ_undo a k) : zB_undo (a, k) = true := by
  unfold ZZ_undo ZD Z_undo at h
  unfold zB_undo
  simp only [Bool.or_eq_true, Bool.and_eq_true, beq_iff_eq, decide_eq_true_eq]
  omega
theorem zB_undo_c : ∀ j, j < 33 → ∀ k, k < dm j → (j < 13 ∧ ¬ j = 1) ∨ (j = 1 ∧ k < 6) ∨ (zB_undo (cL j k) = false ∧ zB_undo (mL j k) = false) := by decide +kernel
theorem ZZ_undo_fx {a k : Nat} (h : fx a k = true) (h2 : ¬ (a = 78 ∧ (k = 8 ∨ k = 45))) : ¬ ZZ_undo a k := by
  intro z
  unfold fx at h
  simp only [Bool.or_eq_true, Bool.and_eq_true, beq_iff_eq, decide_eq_true_eq] at h
  unfold ZZ_undo ZD Z_undo at z
  omega
set_option maxHeartbeats 2000000 in
theorem RR.undod (h : RR M o G) (e1 : N.1 = M.1) (e2 : N.2.1 = M.2.1) (e3 : ∀ a k, ¬ ((a = 1 ∨ a = 27) ∧ k = 7) → mP N (o + a) k = mP M (o + a) k) (e4 : ∀ a k, mJ N a k = mJ M a k) (e5 : ∀ a k, ¬ ZZ_undo a k → mI N (o + a) k = mI M (o + a) k) (hp : mP N (o + 1) 7 = mP M (o + 27) 7) (hp2 : mP N (o + 27) 7 = mP M (o + 27) 7) (h8 : mI N (o + 78) 45 = mI M (o + 78) 45) (sv : SV M N o 27 1 (gN G 21 1) (gN G 21 3) (gN G 21 4) (gN G 21 5)) (vm : V_undo M N o) : RR N o (GV G) := by
  have hf : ∀ a k, fx a k = true → ¬ (a = 78 ∧ (k = 8 ∨ k = 45)) → mI N (o + a) k = mI M (o + a) k := fun a k q z => e5 a k (ZZ_undo_fx q z)
  obtain ⟨⟨c0, c1, c2, c3⟩, wk, ⟨z1, r1⟩, ⟨z2, r2⟩, ⟨z3, r3⟩⟩ := sv
  obtain ⟨⟨v45, v46, v47, v48, v49, v50, v51⟩, u0, u1, u2, u3, u4, u5, u6, u7, u8, u9, u10, u11⟩ := vm
  have sz : ∀ i, i < 6 → G 21 i = nI (gN G 21 i) := fun i hi => by
    obtain ⟨n, n1, n2, n3⟩ := h.2.sk i (by omega)
    rw [n3]; exact n2
  have cs : ∀ k, k < 6 → mI N (o + (cL 1 k).1) (cL 1 k).2 = G 21 k := fun k hk => by
    rcases (by omega : k = 0 ∨ k = 1 ∨ k = 2 ∨ k = 3 ∨ k = 4 ∨ k = 5) with rfl | rfl | rfl | rfl | rfl | rfl
    · exact (c1).trans (h.c (Lv_21 (i := 0) (by decide)) rfl)
    · exact (c2).trans (sz 1 (by decide)).symm
    · exact (c3).trans (h.c (Lv_21 (i := 2) (by decide)) rfl)
    · exact (z1).trans (sz 3 (by decide)).symm
    · exact (z2).trans (sz 4 (by decide)).symm
    · exact (z3).trans (sz 5 (by decide)).symm
  have ms : ∀ k, k < 6 → mI N (o + (mL 1 k).1) (mL 1 k).2 = G 21 k := fun k hk => by
    rcases (by omega : k = 0 ∨ k = 1 ∨ k = 2 ∨ k = 3 ∨ k = 4 ∨ k = 5) with rfl | rfl | rfl | rfl | rfl | rfl
    · exact (v47).trans (h.m (Lv_21 (i := 0) (by decide)) rfl)
    · exact (v46).trans (h.m (Lv_21 (i := 1) (by decide)) rfl)
    · exact (v48).trans (h.m (Lv_21 (i := 2) (by decide)) rfl)
    · exact (v49).trans (h.m (Lv_21 (i := 3) (by decide)) rfl)
    · exact (v50).trans (h.m (Lv_21 (i := 4) (by decide)) rfl)
    · exact (v51).trans (h.m (Lv_21 (i := 5) (by decide)) rfl)
  have cd : ∀ i k, i < 13 → ¬ i = 1 → Lv G (i + 20) k → mI N (o + (cL (i + 0) k).1) (cL (i + 0) k).2 = G (i + 20) k := fun i k hi hn l => by
    rcases (by omega : i = 0 ∨ i = 2 ∨ i = 3 ∨ i = 4 ∨ i = 5 ∨ i = 6 ∨ i = 7 ∨ i = 8 ∨ i = 9 ∨ i = 10 ∨ i = 11 ∨ i = 12) with rfl | rfl | rfl | rfl | rfl | rfl | rfl | rfl | rfl | rfl | rfl | rfl
    · exact (c0 k l.1).trans (h.c l rfl)
    · have q := l.2.1
      rw [szv_at2 (i := 1) (by decide) (by decide)] at q
      have q : k < gN G 21 1 := q
      exact ((wk k q).1 0 (by decide)).trans (h.c l rfl)
    · have q := l.2.1
      rw [szv_at2 (i := 1) (by decide) (by decide)] at q
      have q : k < gN G 21 1 := q
      exact ((wk k q).1 1 (by decide)).trans (h.c l rfl)
    · have q := l.2.1
      rw [szv_at2 (i := 1) (by decide) (by decide)] at q
      have q : k < gN G 21 1 := q
      exact ((wk k q).1 2 (by decide)).trans (h.c l rfl)
    · have q := l.2.1
      rw [szv_at2 (i := 1) (by decide) (by decide)] at q
      have q : k / 4 < gN G 21 1 := q
      exact ((wk (k / 4) q).2 (k % 4) (Nat.mod_lt _ (by decide))).trans (h.c l rfl)
    · have q := l.2.1
      rw [szv_at2 (i := 3) (by decide) (by decide)] at q
      have q : k < gN G 21 3 := q
      exact (r1 k q).1.trans (h.c l rfl)
    · have q := l.2.1
      rw [szv_at2 (i := 3) (by decide) (by decide)] at q
      have q : k < gN G 21 3 := q
      exact (r1 k q).2.1.trans (h.c l rfl)
    · have q := l.2.1
      rw [szv_at2 (i := 3) (by decide) (by decide)] at q
      have q : k < gN G 21 3 := q
      exact (r1 k q).2.2.trans (h.c l rfl)
    · have q := l.2.1
      rw [szv_at2 (i := 4) (by decide) (by decide)] at q
      have q : k < gN G 21 4 := q
      exact (r2 k q).1.trans (h.c l rfl)
    · have q := l.2.1
      rw [szv_at2 (i := 4) (by decide) (by decide)] at q
      have q : k < gN G 21 4 := q
      exact (r2 k q).2.trans (h.c l rfl)
    · have q := l.2.1
      rw [szv_at2 (i := 5) (by decide) (by decide)] at q
      have q : k < gN G 21 5 := q
      exact (r3 k q).1.trans (h.c l rfl)
    · have q := l.2.1
      rw [szv_at2 (i := 5) (by decide) (by decide)] at q
      have q : k < gN G 21 5 := q
      exact (r3 k q).2.trans (h.c l rfl)
  have md : ∀ i k, i < 13 → ¬ i = 1 → Lv G (i + 20) k → mI N (o + (mL (i + 0) k).1) (mL (i + 0) k).2 = G (i + 20) k := fun i k hi hn l => by
    rcases (by omega : i = 0 ∨ i = 2 ∨ i = 3 ∨ i = 4 ∨ i = 5 ∨ i = 6 ∨ i = 7 ∨ i = 8 ∨ i = 9 ∨ i = 10 ∨ i = 11 ∨ i = 12) with rfl | rfl | rfl | rfl | rfl | rfl | rfl | rfl | rfl | rfl | rfl | rfl
    · exact (u0 k l.1).trans (h.m l rfl)
    · exact (u1 k l.1).trans (h.m l rfl)
    · exact (u2 k l.1).trans (h.m l rfl)
    · exact (u3 k l.1).trans (h.m l rfl)
    · exact (u4 k l.1).trans (h.m l rfl)
    · exact (u5 k l.1).trans (h.m l rfl)
    · exact (u6 k l.1).trans (h.m l rfl)
    · obtain ⟨x, x1, x2⟩ := h.2.1 28 k l (by decide)
      have x1 : x ≤ 1 := x1
      have x3 : zb (G 28 k) = G 28 k := by
        rw [x2]
        rcases (by omega : x = 0 ∨ x = 1) with rfl | rfl <;> decide
      exact (u7 k l.1).trans ((congrArg zb (h.m l rfl)).trans x3)
    · exact (u8 k l.1).trans (h.m l rfl)
    · exact (u9 k l.1).trans (h.m l rfl)
    · exact (u10 k l.1).trans (h.m l rfl)
    · exact (u11 k l.1).trans (h.m l rfl)
  refine ⟨⟨h.1.1.pt e2 e3, fun j k q => ?_, fun j k q => ?_, fun t k a b => by rw [e4, e4]; exact h.1.2.2.2.1 t k a b, ?_, h.1.2.2.2.2.2.pt e1 e2 e3 hf ⟨GV_s (by decide) (by decide), fun x i => GV_o (by omega)⟩ (Or.inr ⟨hp, hp2, v45, h8, rfl, GV_o (by decide)⟩)⟩, fun j k q hj => ?_, ⟨fun k q => ?_, fun k q => ?_⟩, fun t ht => ?_⟩
  · rcases Lv_GV q with ⟨q1, q2⟩ | ⟨rfl, q1⟩ | ⟨q1, q2, q3⟩
    · rcases zB_undo_c j (dm_lt q2.1) k q2.1 with y | y | ⟨y, -⟩
      · omega
      · omega
      · rw [e5 _ _ (fun z => by rw [ZZ_undo_b z] at y; cases y), GV_o (by omega)]
        exact h.1.2.1 j k q2
    · by_cases z : k < 6
      · rw [GV_1 z]; exact cs k z
      · rcases zB_undo_c 1 (by decide) k q1 with y | y | ⟨y, -⟩
        · omega
        · omega
        · rw [e5 _ _ (fun z => by rw [ZZ_undo_b z] at y; cases y), GV_s z (by omega)]
          exact h.1.2.1 1 k (Lv_1 q1)
    · rw [GV_d q1 q2]; exact cd j k q1 q2 q3
  · rcases Lv_GV q with ⟨q1, q2⟩ | ⟨rfl, q1⟩ | ⟨q1, q2, q3⟩
    · rcases zB_undo_c j (dm_lt q2.1) k q2.1 with y | y | ⟨-, y⟩
      · omega
      · omega
      · rw [e5 _ _ (fun z => by rw [ZZ_undo_b z] at y; cases y), GV_o (by omega)]
        exact h.1.2.2.1 j k q2
    · by_cases z : k < 6
      · rw [GV_1 z]; exact ms k z
      · rcases zB_undo_c 1 (by decide) k q1 with y | y | ⟨-, y⟩
        · omega
        · omega
        · rw [e5 _ _ (fun z => by rw [ZZ_undo_b z] at y; cases y), GV_s z (by omega)]
          exact h.1.2.2.1 1 k (Lv_1 q1)
    · rw [GV_d q1 q2]; exact md j k q1 q2 q3
  · exact h.1.2.2.2.2.1.fr' hf
  · rcases Lv_GV q with ⟨q1, q2⟩ | ⟨rfl, q1⟩ | ⟨q1, q2, q3⟩
    · rw [GV_o (by omega)]; exact h.2.1 j k q2 hj
    · by_cases z : k < 6
      · rw [GV_1 z]; exact h.2.1 21 k (Lv_21 z) (by decide)
      · rw [GV_s z (by omega)]; exact h.2.1 1 k (Lv_1 q1) (by decide)
    · rw [GV_d q1 q2]
      have y := h.2.1 (j + 20) k q3 (by omega)
      have eb : bo (j + 20) k = bo j k := by
        unfold bo
        rw [if_neg (by omega), if_neg (by omega), (dm20 j q1 q2).2.2]
      rw [← eb]; exact y
  · rcases Lv_GV q with ⟨q1, q2⟩ | ⟨q0, q1⟩ | ⟨q1, q2, q3⟩
    · omega
    · omega
    · unfold gN
      rw [GV_d (by decide) (by decide), GV_1 (by decide)]; exact h.2.2.1.2 k q3
  · rcases Lv_GV q with ⟨q1, q2⟩ | ⟨q0, q1⟩ | ⟨q1, q2, q3⟩
    · unfold gN
      rw [GV_o (by decide), GV_o (by decide)]; exact h.2.2.1.2 k q2
    · omega
    · omega
  · rw [GV_o (by omega), GV_o (by omega)]; exact h.2.2.2 t ht
end U_undo
set_option maxHeartbeats 2000000 in
theorem op_image {M : QM} {o : Nat} {G : GG} (h : RR M o G) : ∃ v M1 M2 G', fn_X8_image M o = some (v, M1) ∧ fn_X9_image M1 (o + 78) = some (v, M2) ∧ RR M2 o G' := by
  have hS := h.1.1
  obtain ⟨w5, w6⟩ := h.w5
  have sz : ∀ i, i < 6 → G 1 i = nI (gN G 1 i) ∧ gN G 1 i ≤ b1T.getD i 0 := fun i hi => by
    obtain ⟨n, n1, n2, n3⟩ := h.2.sc i (by omega)
    rw [n3]; exact ⟨n2, n1⟩
  have cw := h.cw
  have fxx := h.1.2.2.2.2.1
  obtain ⟨q, hq⟩ : ∃ q, mP M (o + 1) 7 = some q := by
    obtain ⟨a, ha⟩ := cw.2.2.2.hb
    exact ⟨_, ha.2.1.1⟩
  obtain ⟨M1, c1, c2, c3⟩ := scene_g (s := 1) (d := 27) hS.sc1 hS.sc27 (Or.inl ⟨rfl, rfl⟩) w5 cw.2.1.1 (sz 3 (by decide)).2 (sz 4 (by decide)).2 (sz 5 (by decide)).2 ((h.c (Lv_1 (i := 3) (by decide)) (a := 5) (i := 4) rfl).trans (sz 3 (by decide)).1) ((h.c (Lv_1 (i := 4) (by decide)) (a := 9) (i := 4) rfl).trans (sz 4 (by decide)).1) ((h.c (Lv_1 (i := 5) (by decide)) (a := 13) (i := 4) rfl).trans (sz 5 (by decide)).1) fxx.2.2.2.1 fxx.2.2.2.2.1 fxx.2.2.2.2.2 hq
  obtain ⟨A, hA⟩ : ∃ A, A = sI (sP M1 (o + 27) 7 (some q)) (o + 0) 2 1 := ⟨_, rfl⟩
  have pA : ∀ a k, mP A (o + a) k = if a = 27 ∧ k = 7 then some q else mP M (o + a) k := fun a k => by
    rw [hA, mP_sI, mP_sP]
    by_cases z : a = 27 ∧ k = 7
    · rw [if_pos ⟨by rw [z.1], z.2⟩, if_pos z]
    · rw [if_neg (by omega), if_neg z, c2.2.2.1]
  have iA : ∀ a k, ¬ (a = 0 ∧ k = 2) → mI A (o + a) k = mI M1 (o + a) k := fun a k z => by rw [hA, mI_sI, if_neg (by omega), mI_sP]
  have tA : A.2.1 = M.2.1 := by rw [hA]; exact c2.2.1
  have hSA : SHP A o := hS.pt tA fun a k z => by rw [pA, if_neg (by omega)]
  obtain ⟨M2, d1, d2, d3, d4⟩ := image_m hSA
  have nz : ∀ a k, (78 ≤ a) → ¬ ZD 27 a k := fun a k z y => by unfold ZD at y; omega
  have iAM : ∀ a k, 78 ≤ a → mI A (o + a) k = mI M (o + a) k := fun a k z => (iA a k (by omega)).trans (c2.2.2.2.2 a k (nz a k z))
  have lo : ∀ a k, a < 78 → mI M2 (o + a) k = mI A (o + a) k := fun a k z => d2.2.2.2.2 a k (by unfold Z_image; omega)
  have lo1 : ∀ a k, a < 78 → ¬ (a = 0 ∧ k = 2) → mI M2 (o + a) k = mI M1 (o + a) k := fun a k z y => (lo a k z).trans (iA a k y)
  have e2 : M2.2.1 = M.2.1 := d2.2.1.trans tA
  have e3 : ∀ a k, mP M2 (o + a) k = if a = 27 ∧ k = 7 then some q else mP M (o + a) k := fun a k => by rw [d2.2.2.1, pA]
  have sv : SV M M2 o 1 27 (gN G 1 1) (gN G 1 3) (gN G 1 4) (gN G 1 5) := by
    obtain ⟨⟨x1, x2, x3, x4⟩, x5, ⟨x6, x7⟩, ⟨x8, x9⟩, ⟨x10, x11⟩⟩ := c3
    refine ⟨⟨fun c hc => (lo1 _ _ (by omega) (by omega)).trans (x1 c hc), (lo1 _ _ (by omega) (by omega)).trans x2, (lo1 _ _ (by omega) (by omega)).trans x3, (lo1 _ _ (by omega) (by omega)).trans x4⟩, fun i hi => ⟨fun k hk => (lo1 _ _ (by omega) (by omega)).trans ((x5 i hi).1 k hk), fun r hr => (lo1 _ _ (by omega) (by omega)).trans ((x5 i hi).2 r hr)⟩, ⟨(lo1 _ _ (by omega) (by omega)).trans x6, fun k hk => ?_⟩, ⟨(lo1 _ _ (by omega) (by omega)).trans x8, fun k hk => ?_⟩, ⟨(lo1 _ _ (by omega) (by omega)).trans x10, fun k hk => ?_⟩⟩
    · exact ⟨(lo1 _ _ (by omega) (by omega)).trans (x7 k hk).1, (lo1 _ _ (by omega) (by omega)).trans (x7 k hk).2.1, (lo1 _ _ (by omega) (by omega)).trans (x7 k hk).2.2⟩
    · exact ⟨(lo1 _ _ (by omega) (by omega)).trans (x9 k hk).1, (lo1 _ _ (by omega) (by omega)).trans (x9 k hk).2⟩
    · exact ⟨(lo1 _ _ (by omega) (by omega)).trans (x11 k hk).1, (lo1 _ _ (by omega) (by omega)).trans (x11 k hk).2⟩
  have vm : V_image M M2 o := by
    have v := d4
    unfold V_image at v ⊢
    obtain ⟨⟨v1, v2, v3, v4, v5, v6, v7⟩, y0, y1, y2, y3, y4, y5, y6, y7, y8, y9, y10, y11⟩ := v
    refine ⟨⟨v1.trans (iAM _ _ (by omega)), v2.trans (iAM _ _ (by omega)), v3.trans (iAM _ _ (by omega)), v4.trans (iAM _ _ (by omega)), v5.trans (iAM _ _ (by omega)), v6.trans (iAM _ _ (by omega)), v7.trans (iAM _ _ (by omega))⟩, fun k hk => (y0 k hk).trans (iAM _ _ (by omega)), fun k hk => (y1 k hk).trans (iAM _ _ (by omega)), fun k hk => (y2 k hk).trans (iAM _ _ (by omega)), fun k hk => (y3 k hk).trans (iAM _ _ (by omega)), fun k hk => (y4 k hk).trans (iAM _ _ (by omega)), fun k hk => (y5 k hk).trans (iAM _ _ (by omega)), fun k hk => (y6 k hk).trans (iAM _ _ (by omega)), fun k hk => (y7 k hk).trans (congrArg zb (iAM _ _ (by omega))), fun k hk => (y8 k hk).trans (iAM _ _ (by omega)), fun k hk => (y9 k hk).trans (iAM _ _ (by omega)), fun k hk => (y10 k hk).trans (iAM _ _ (by omega)), fun k hk => (y11 k hk).trans (iAM _ _ (by omega))⟩
  have fin := h.imaged (N := M2) (d2.1.trans (by rw [hA]; exact c2.1)) e2 (fun a k z => by rw [e3, if_neg (by omega)]) (fun a k => by rw [d2.2.2.2.1, hA, mJ_sI, mJ_sP, c2.2.2.2.1]) (fun a k z => by
    unfold ZZ_image at z
    by_cases y : a < 78
    · rw [lo1 a k y (by omega)]
      exact c2.2.2.2.2 a k (fun x => z (Or.inl x))
    · rw [d2.2.2.2.2 a k (fun x => z (Or.inr (Or.inr x)))]
      exact iAM a k (by omega)) (by rw [e3, if_pos ⟨rfl, rfl⟩, hq]) (by rw [e3, if_neg (by omega)]) ((d2.2.2.2.2 78 8 (by unfold Z_image; omega)).trans (iAM 78 8 (by omega))) ⟨(lo 0 2 (by omega)).trans (by rw [hA, mI_sI, if_pos ⟨rfl, rfl⟩]), d3⟩ sv vm
  have w27 : mI (sI (sP M1 (o + 27) 7 (some q)) o 2 1) (o + 27) 2 = nI (gN G 1 1) := by
    have := c3.1.2.2.1
    rw [mI_sI, if_neg (by omega), mI_sP]
    exact this
  have w78 : mI A (o + 78) 0 = nI (gN G 1 1) := (iAM 78 0 (by omega)).trans h.mw.2.1.1
  have hSA2 : SHP (sI (sP M1 (o + 27) 7 (some q)) o 2 1) o := by
    have := hSA
    rw [hA, Nat.add_zero] at this
    exact this
  have hS1 : SHP (sP M1 (o + 27) 7 (some q)) o := hSA2
  refine ⟨nI (gN G 1 1), A, M2, _, ?_, ?_, fin⟩
  · rw [hA, Nat.add_zero]
    simp only [fn_X8_image, c1, w27, mt_sI, mt_sJ, mt_sP, mt_rI, mt_rJ, ml_sI, ml_sJ, ml_sP, ml_rI, ml_rJ, mP_sI, mP_sJ, mP_rI, mP_rJ, SHP_sI, SHP_sJ, SHP_rI, SHP_rJ, gI_e, pI_e, ck_e, bnd_s, nm_eq, pr2_e, cnul_0, cnul_1, drf_1, sm_1, sm_2, aI_e, aJ_e, wI_e, wJ_e, aL_e, cpI_e, cpJ_e, Nat.reduceLeDiff, Nat.reduceEqDiff, Nat.add_left_cancel_iff, ad0, ad1, false_and, and_false, true_and, and_true, reduceIte, if_true, if_false, zb0, zb1, Int32.reduceLT, Int32.reduceLE, i10, nw1, nw2, nt1, nt2, not_true_eq_false, not_false_eq_true, mt_0, mt_1, mt_2, mt_3, ml_3, mt_4, ml_4, mt_5, mt_6, ml_6, mt_7, ml_7, mt_8, ml_8, mt_9, mt_10, ml_10, mt_11, ml_11, mt_12, ml_12, mt_13, mt_14, ml_14, mt_15, ml_15, mt_16, ml_16, mt_17, mt_18, ml_18, mt_19, mt_20, ml_20, mt_21, mt_22, ml_22, mt_23, mt_24, ml_24, mt_25, mt_26, ml_26, mt_53, mt_54, ml_54, mt_55, ml_55, mt_56, mt_57, ml_57, mt_58, ml_58, mt_59, mt_60, ml_60, mt_61, mt_62, ml_62, mt_63, ml_63, mt_64, mt_65, ml_65, mt_66, mt_67, ml_67, mt_68, mt_69, ml_69, mt_70, mt_71, ml_71, mt_72, mt_73, ml_73, mt_74, mt_75, ml_75, mt_76, mt_77, ml_77, gP_0_0, gP_0_1, gP_0_4, gP_0_5, gP_0_6, gP_0_7, gP_0_8, gP_0_9, gP_1_0, gP_1_1, gP_1_4, gP_1_5, gP_1_6, gP_2_0, gP_5_1, gP_5_2, gP_5_3, gP_9_1, gP_9_2, gP_9_3, gP_13_1, gP_13_2, gP_13_3, gP_17_3, gP_19_3, gP_21_3, gP_23_3, gP_25_3, gP_53_0, gP_53_6, gP_56_0, gP_59_0, gP_61_3, gP_64_0, gP_66_2, gP_68_2, gP_70_2, gP_72_2, gP_74_2, gP_76_2, aP_4, mtw_4, mtl_4, mll_4, gPw_4, aP_58, mtw_58, mtl_58, mll_58, gPw_58, mt_27, mt_28, mt_29, ml_29, mt_30, ml_30, mt_31, mt_32, ml_32, mt_33, ml_33, mt_34, ml_34, mt_35, mt_36, ml_36, mt_37, ml_37, mt_38, ml_38, mt_39, mt_40, ml_40, mt_41, ml_41, mt_42, ml_42, mt_43, mt_44, ml_44, mt_45, mt_46, ml_46, mt_47, mt_48, ml_48, mt_49, mt_50, ml_50, mt_51, mt_52, ml_52, gP_27_0, gP_27_1, gP_27_4, gP_27_5, gP_27_6, gP_28_0, gP_31_1, gP_31_2, gP_31_3, gP_35_1, gP_35_2, gP_35_3, gP_39_1, gP_39_2, gP_39_3, gP_43_3, gP_45_3, gP_47_3, gP_49_3, gP_51_3, aP_30, mtw_30, mtl_30, mll_30, gPw_30, hS, hS1, hSA2]
    rfl
  · rw [d1, w78]
set_option maxHeartbeats 2000000 in
theorem op_undo {M : QM} {o : Nat} {G : GG} (h : RR M o G) : ∃ v M1 M2 G', fn_X8_undo M o = some (v, M1) ∧ fn_X9_undo M1 (o + 78) = some (v, M2) ∧ RR M2 o G' := by
  have hS := h.1.1
  have l6 : Lv G 1 6 := Lv_1 (by decide)
  have i1 := h.c l6 (a := 0) (i := 2) rfl
  have i2 := h.m l6 (a := 78) (i := 44) rfl
  rw [Nat.add_zero] at i1
  by_cases z6 : G 1 6 = 0
  · refine ⟨-3, M, M, G, ?_, ?_, h⟩
    · simp only [fn_X8_undo, i1, z6, mt_sI, mt_sJ, mt_sP, mt_rI, mt_rJ, ml_sI, ml_sJ, ml_sP, ml_rI, ml_rJ, mP_sI, mP_sJ, mP_rI, mP_rJ, SHP_sI, SHP_sJ, SHP_rI, SHP_rJ, gI_e, pI_e, ck_e, bnd_s, nm_eq, pr2_e, cnul_0, cnul_1, drf_1, sm_1, sm_2, aI_e, aJ_e, wI_e, wJ_e, aL_e, cpI_e, cpJ_e, Nat.reduceLeDiff, Nat.reduceEqDiff, Nat.add_left_cancel_iff, ad0, ad1, false_and, and_false, true_and, and_true, reduceIte, if_true, if_false, zb0, zb1, Int32.reduceLT, Int32.reduceLE, i10, nw1, nw2, nt1, nt2, not_true_eq_false, not_false_eq_true, mt_0, mt_1, mt_2, mt_3, ml_3, mt_4, ml_4, mt_5, mt_6, ml_6, mt_7, ml_7, mt_8, ml_8, mt_9, mt_10, ml_10, mt_11, ml_11, mt_12, ml_12, mt_13, mt_14, ml_14, mt_15, ml_15, mt_16, ml_16, mt_17, mt_18, ml_18, mt_19, mt_20, ml_20, mt_21, mt_22, ml_22, mt_23, mt_24, ml_24, mt_25, mt_26, ml_26, mt_53, mt_54, ml_54, mt_55, ml_55, mt_56, mt_57, ml_57, mt_58, ml_58, mt_59, mt_60, ml_60, mt_61, mt_62, ml_62, mt_63, ml_63, mt_64, mt_65, ml_65, mt_66, mt_67, ml_67, mt_68, mt_69, ml_69, mt_70, mt_71, ml_71, mt_72, mt_73, ml_73, mt_74, mt_75, ml_75, mt_76, mt_77, ml_77, gP_0_0, gP_0_1, gP_0_4, gP_0_5, gP_0_6, gP_0_7, gP_0_8, gP_0_9, gP_1_0, gP_1_1, gP_1_4, gP_1_5, gP_1_6, gP_2_0, gP_5_1, gP_5_2, gP_5_3, gP_9_1, gP_9_2, gP_9_3, gP_13_1, gP_13_2, gP_13_3, gP_17_3, gP_19_3, gP_21_3, gP_23_3, gP_25_3, gP_53_0, gP_53_6, gP_56_0, gP_59_0, gP_61_3, gP_64_0, gP_66_2, gP_68_2, gP_70_2, gP_72_2, gP_74_2, gP_76_2, aP_4, mtw_4, mtl_4, mll_4, gPw_4, aP_58, mtw_58, mtl_58, mll_58, gPw_58, hS]
    · simp only [fn_X9_undo, i2, z6, mt_sI, mt_sJ, mt_sP, mt_rI, mt_rJ, ml_sI, ml_sJ, ml_sP, ml_rI, ml_rJ, mP_sI, mP_sJ, mP_rI, mP_rJ, SHP_sI, SHP_sJ, SHP_rI, SHP_rJ, gI_e, pI_e, ck_e, bnd_s, nm_eq, pr2_e, cnul_0, cnul_1, drf_1, sm_1, sm_2, aI_e, aJ_e, wI_e, wJ_e, aL_e, cpI_e, cpJ_e, Nat.reduceLeDiff, Nat.reduceEqDiff, Nat.add_left_cancel_iff, ad0, ad1, false_and, and_false, true_and, and_true, reduceIte, if_true, if_false, zb0, zb1, Int32.reduceLT, Int32.reduceLE, i10, nw1, nw2, nt1, nt2, not_true_eq_false, not_false_eq_true, mt_78, mt_79, ml_79, mt_80, ml_80, mt_81, ml_81, mt_82, ml_82, mt_83, ml_83, mt_84, ml_84, mt_85, ml_85, mt_86, ml_86, mt_87, ml_87, mt_88, ml_88, mt_89, ml_89, mt_90, ml_90, mt_91, ml_91, mt_92, ml_92, mt_93, ml_93, mt_94, ml_94, mt_95, ml_95, mt_96, ml_96, mt_97, ml_97, mt_98, ml_98, mt_99, ml_99, mt_100, ml_100, mt_101, ml_101, mt_102, ml_102, mt_103, ml_103, mt_104, ml_104, mt_105, ml_105, mt_106, ml_106, mt_107, ml_107, mt_108, ml_108, mt_109, ml_109, mt_110, ml_110, mt_111, ml_111, mt_112, ml_112, mt_113, ml_113, mt_114, ml_114, mt_115, ml_115, mt_116, ml_116, mt_117, ml_117, mt_118, ml_118, mt_119, ml_119, mt_120, ml_120, mt_121, ml_121, mt_122, ml_122, mt_123, ml_123, gP_78_2, gP_78_3, gP_78_4, gP_78_5, gP_78_6, gP_78_12, gP_78_13, gP_78_14, gP_78_15, gP_78_16, gP_78_17, gP_78_18, gP_78_19, gP_78_23, gP_78_24, gP_78_26, gP_78_27, gP_78_28, gP_78_31, gP_78_32, gP_78_34, gP_78_35, gP_78_36, gP_78_37, gP_78_40, gP_78_41, gP_78_42, gP_78_43, gP_78_52, gP_78_53, gP_78_54, gP_78_55, gP_78_56, gP_78_57, gP_78_58, gP_78_59, gP_78_60, gP_78_61, gP_78_62, gP_78_63, gP_78_65, gP_78_66, gP_78_67, gP_78_68, gP_78_69, hS]
  · have sz : ∀ i, i < 6 → G 21 i = nI (gN G 21 i) ∧ gN G 21 i ≤ b1T.getD i 0 := fun i hi => by
      obtain ⟨n, n1, n2, n3⟩ := h.2.sk i (by omega)
      rw [n3]; exact ⟨n2, n1⟩
    have fxx := h.1.2.2.2.2.1
    obtain ⟨q, hq⟩ : ∃ q, mP M (o + 27) 7 = some q := by
      obtain ⟨nb, e, e2, a1, a2, a3, ⟨a4, a4'⟩, a5⟩ := h.1.2.2.2.2.2
      exact ⟨_, a4'⟩
    obtain ⟨M1, c1, c2, c3⟩ := scene_g (s := 27) (d := 1) hS.sc27 hS.sc1 (Or.inr ⟨rfl, rfl⟩) (sz 1 (by decide)).2 ((h.c (Lv_21 (i := 1) (by decide)) (a := 27) (i := 2) rfl).trans (sz 1 (by decide)).1) (sz 3 (by decide)).2 (sz 4 (by decide)).2 (sz 5 (by decide)).2 ((h.c (Lv_21 (i := 3) (by decide)) (a := 31) (i := 4) rfl).trans (sz 3 (by decide)).1) ((h.c (Lv_21 (i := 4) (by decide)) (a := 35) (i := 4) rfl).trans (sz 4 (by decide)).1) ((h.c (Lv_21 (i := 5) (by decide)) (a := 39) (i := 4) rfl).trans (sz 5 (by decide)).1) fxx.2.2.1.1 fxx.2.2.1.2.1 fxx.2.2.1.2.2 hq
    obtain ⟨A, hA⟩ : ∃ A, A = sP M1 (o + 1) 7 (some q) := ⟨_, rfl⟩
    have pA : ∀ a k, mP A (o + a) k = if a = 1 ∧ k = 7 then some q else mP M (o + a) k := fun a k => by
      rw [hA, mP_sP]
      by_cases z : a = 1 ∧ k = 7
      · rw [if_pos ⟨by rw [z.1], z.2⟩, if_pos z]
      · rw [if_neg (by omega), if_neg z, c2.2.2.1]
    have iA : ∀ a k, mI A (o + a) k = mI M1 (o + a) k := fun a k => by rw [hA, mI_sP]
    have tA : A.2.1 = M.2.1 := by rw [hA]; exact c2.2.1
    have hSA : SHP A o := hS.pt tA fun a k z => by rw [pA, if_neg (by omega)]
    have iAM : ∀ a k, 78 ≤ a → mI A (o + a) k = mI M (o + a) k := fun a k z => (iA a k).trans (c2.2.2.2.2 a k (fun y => by unfold ZD at y; omega))
    obtain ⟨M2, d1, d2, d4⟩ := undo_m hSA (by rw [iAM 78 44 (by omega), i2]; exact z6)
    have lo1 : ∀ a k, a < 78 → mI M2 (o + a) k = mI M1 (o + a) k := fun a k z => (d2.2.2.2.2 a k (by unfold Z_undo; omega)).trans (iA a k)
    have e2 : M2.2.1 = M.2.1 := d2.2.1.trans tA
    have e3 : ∀ a k, mP M2 (o + a) k = if a = 1 ∧ k = 7 then some q else mP M (o + a) k := fun a k => by rw [d2.2.2.1, pA]
    have sv : SV M M2 o 27 1 (gN G 21 1) (gN G 21 3) (gN G 21 4) (gN G 21 5) := by
      obtain ⟨⟨x1, x2, x3, x4⟩, x5, ⟨x6, x7⟩, ⟨x8, x9⟩, ⟨x10, x11⟩⟩ := c3
      have w5 : gN G 21 1 ≤ 5 := (sz 1 (by decide)).2
      refine ⟨⟨fun c hc => (lo1 _ _ (by omega)).trans (x1 c hc), (lo1 _ _ (by omega)).trans x2, (lo1 _ _ (by omega)).trans x3, (lo1 _ _ (by omega)).trans x4⟩, fun i hi => ⟨fun k hk => (lo1 _ _ (by omega)).trans ((x5 i hi).1 k hk), fun r hr => (lo1 _ _ (by omega)).trans ((x5 i hi).2 r hr)⟩, ⟨(lo1 _ _ (by omega)).trans x6, fun k hk => ?_⟩, ⟨(lo1 _ _ (by omega)).trans x8, fun k hk => ?_⟩, ⟨(lo1 _ _ (by omega)).trans x10, fun k hk => ?_⟩⟩
      · exact ⟨(lo1 _ _ (by omega)).trans (x7 k hk).1, (lo1 _ _ (by omega)).trans (x7 k hk).2.1, (lo1 _ _ (by omega)).trans (x7 k hk).2.2⟩
      · exact ⟨(lo1 _ _ (by omega)).trans (x9 k hk).1, (lo1 _ _ (by omega)).trans (x9 k hk).2⟩
      · exact ⟨(lo1 _ _ (by omega)).trans (x11 k hk).1, (lo1 _ _ (by omega)).trans (x11 k hk).2⟩
    have vm : V_undo M M2 o := by
      have v := d4
      unfold V_undo at v ⊢
      obtain ⟨⟨v1, v2, v3, v4, v5, v6, v7⟩, y0, y1, y2, y3, y4, y5, y6, y7, y8, y9, y10, y11⟩ := v
      refine ⟨⟨v1.trans (iAM _ _ (by omega)), v2.trans (iAM _ _ (by omega)), v3.trans (iAM _ _ (by omega)), v4.trans (iAM _ _ (by omega)), v5.trans (iAM _ _ (by omega)), v6.trans (iAM _ _ (by omega)), v7.trans (iAM _ _ (by omega))⟩, fun k hk => (y0 k hk).trans (iAM _ _ (by omega)), fun k hk => (y1 k hk).trans (iAM _ _ (by omega)), fun k hk => (y2 k hk).trans (iAM _ _ (by omega)), fun k hk => (y3 k hk).trans (iAM _ _ (by omega)), fun k hk => (y4 k hk).trans (iAM _ _ (by omega)), fun k hk => (y5 k hk).trans (iAM _ _ (by omega)), fun k hk => (y6 k hk).trans (iAM _ _ (by omega)), fun k hk => (y7 k hk).trans (congrArg zb (iAM _ _ (by omega))), fun k hk => (y8 k hk).trans (iAM _ _ (by omega)), fun k hk => (y9 k hk).trans (iAM _ _ (by omega)), fun k hk => (y10 k hk).trans (iAM _ _ (by omega)), fun k hk => (y11 k hk).trans (iAM _ _ (by omega))⟩
    have fin := h.undod (N := M2) (d2.1.trans (by rw [hA]; exact c2.1)) e2 (fun a k z => by rw [e3, if_neg (by omega)]) (fun a k => by rw [d2.2.2.2.1, hA, mJ_sP, c2.2.2.2.1]) (fun a k z => by
      unfold ZZ_undo at z
      by_cases y : a < 78
      · rw [lo1 a k y]
        exact c2.2.2.2.2 a k (fun x => z (Or.inl x))
      · rw [d2.2.2.2.2 a k (fun x => z (Or.inr x))]
        exact iAM a k (by omega)) (by rw [e3, if_pos ⟨rfl, rfl⟩, hq]) (by rw [e3, if_neg (by omega)]) ((d2.2.2.2.2 78 45 (by unfold Z_undo; omega)).trans (iAM 78 45 (by omega))) sv vm
    have w1 : mI A (o + 1) 2 = nI (gN G 21 1) := (iA 1 2).trans c3.1.2.2.1
    have w78 : mI A (o + 78) 46 = nI (gN G 21 1) := (iAM 78 46 (by omega)).trans ((h.m (Lv_21 (i := 1) (by decide)) (a := 78) (i := 46) rfl).trans (sz 1 (by decide)).1)
    refine ⟨nI (gN G 21 1), A, M2, _, ?_, ?_, fin⟩
    · have c1 : fn_X5_copy M (o + 1) (o + 27) = some A := by rw [hA]; exact c1
      simp only [fn_X8_undo, i1, z6, c1, w1, mt_sI, mt_sJ, mt_sP, mt_rI, mt_rJ, ml_sI, ml_sJ, ml_sP, ml_rI, ml_rJ, mP_sI, mP_sJ, mP_rI, mP_rJ, SHP_sI, SHP_sJ, SHP_rI, SHP_rJ, gI_e, pI_e, ck_e, bnd_s, nm_eq, pr2_e, cnul_0, cnul_1, drf_1, sm_1, sm_2, aI_e, aJ_e, wI_e, wJ_e, aL_e, cpI_e, cpJ_e, Nat.reduceLeDiff, Nat.reduceEqDiff, Nat.add_left_cancel_iff, ad0, ad1, false_and, and_false, true_and, and_true, reduceIte, if_true, if_false, zb0, zb1, Int32.reduceLT, Int32.reduceLE, i10, nw1, nw2, nt1, nt2, not_true_eq_false, not_false_eq_true, mt_0, mt_1, mt_2, mt_3, ml_3, mt_4, ml_4, mt_5, mt_6, ml_6, mt_7, ml_7, mt_8, ml_8, mt_9, mt_10, ml_10, mt_11, ml_11, mt_12, ml_12, mt_13, mt_14, ml_14, mt_15, ml_15, mt_16, ml_16, mt_17, mt_18, ml_18, mt_19, mt_20, ml_20, mt_21, mt_22, ml_22, mt_23, mt_24, ml_24, mt_25, mt_26, ml_26, mt_53, mt_54, ml_54, mt_55, ml_55, mt_56, mt_57, ml_57, mt_58, ml_58, mt_59, mt_60, ml_60, mt_61, mt_62, ml_62, mt_63, ml_63, mt_64, mt_65, ml_65, mt_66, mt_67, ml_67, mt_68, mt_69, ml_69, mt_70, mt_71, ml_71, mt_72, mt_73, ml_73, mt_74, mt_75, ml_75, mt_76, mt_77, ml_77, gP_0_0, gP_0_1, gP_0_4, gP_0_5, gP_0_6, gP_0_7, gP_0_8, gP_0_9, gP_1_0, gP_1_1, gP_1_4, gP_1_5, gP_1_6, gP_2_0, gP_5_1, gP_5_2, gP_5_3, gP_9_1, gP_9_2, gP_9_3, gP_13_1, gP_13_2, gP_13_3, gP_17_3, gP_19_3, gP_21_3, gP_23_3, gP_25_3, gP_53_0, gP_53_6, gP_56_0, gP_59_0, gP_61_3, gP_64_0, gP_66_2, gP_68_2, gP_70_2, gP_72_2, gP_74_2, gP_76_2, aP_4, mtw_4, mtl_4, mll_4, gPw_4, aP_58, mtw_58, mtl_58, mll_58, gPw_58, hS, hSA]
    · rw [d1, w78]
