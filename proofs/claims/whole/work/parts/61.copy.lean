/-! ===== one scene copied into the other: the class ===== -/
def CUt (M : QM) (o b : Nat) : Prop := mt M (o + b) = 2 ∧ mP M (o + b) 0 = some (o + (b + 1)) ∧ mt M (o + (b + 1)) = 20 ∧ ml M (o + (b + 1)) = 16
def WKt (M : QM) (o b : Nat) : Prop := mt M (o + b) = 7 ∧ mP M (o + b) 3 = some (o + (b + 1)) ∧ mt M (o + (b + 1)) = 20 ∧ ml M (o + (b + 1)) = 4
def RWt (M : QM) (o b L : Nat) : Prop := mt M (o + b) = 4 ∧ (mP M (o + b) 1 = some (o + (b + 1)) ∧ mP M (o + b) 2 = some (o + (b + 2)) ∧ mP M (o + b) 3 = some (o + (b + 3))) ∧ (mt M (o + (b + 1)) = 20 ∧ mt M (o + (b + 2)) = 20 ∧ mt M (o + (b + 3)) = 20) ∧ ml M (o + (b + 1)) = L ∧ ml M (o + (b + 2)) = L ∧ ml M (o + (b + 3)) = L
def SCt (M : QM) (o b : Nat) : Prop := (mt M (o + b) = 5 ∧ mP M (o + b) 0 = some (o + (b + 1)) ∧ mP M (o + b) 1 = some (o + (b + 3)) ∧ mP M (o + b) 4 = some (o + (b + 4)) ∧ mP M (o + b) 5 = some (o + (b + 8)) ∧ mP M (o + b) 6 = some (o + (b + 12))) ∧ (mt M (o + (b + 3)) = 26 ∧ ml M (o + (b + 3)) = 5 ∧ ∀ i, i < 5 → mP M (o + (b + 3)) i = some (o + (b + 16 + 2 * i))) ∧ CUt M o (b + 1) ∧ (∀ i, i < 5 → WKt M o (b + 16 + 2 * i)) ∧ RWt M o (b + 4) 5 ∧ RWt M o (b + 8) 10 ∧ RWt M o (b + 12) 8
section CY1
variable {M N M1 : QM} {o s d : Nat}
theorem SQ.t {Z : Nat → Nat → Prop} (h : SQ M N o Z) (a : Nat) : mt N a = mt M a ∧ ml N a = ml M a := ⟨by unfold mt; rw [h.2.1], by unfold ml; rw [h.2.1]⟩
theorem CUt.sq {Z : Nat → Nat → Prop} (h : SQ M N o Z) (c : CUt M o s) : CUt N o s := ⟨(h.t _).1.trans c.1, (h.2.2.1 _ _).trans c.2.1, (h.t _).1.trans c.2.2.1, (h.t _).2.trans c.2.2.2⟩
theorem WKt.sq {Z : Nat → Nat → Prop} (h : SQ M N o Z) (c : WKt M o s) : WKt N o s := ⟨(h.t _).1.trans c.1, (h.2.2.1 _ _).trans c.2.1, (h.t _).1.trans c.2.2.1, (h.t _).2.trans c.2.2.2⟩
theorem RWt.sq {L : Nat} {Z : Nat → Nat → Prop} (h : SQ M N o Z) (c : RWt M o s L) : RWt N o s L :=
  ⟨(h.t _).1.trans c.1, ⟨(h.2.2.1 _ _).trans c.2.1.1, (h.2.2.1 _ _).trans c.2.1.2.1, (h.2.2.1 _ _).trans c.2.1.2.2⟩, ⟨(h.t _).1.trans c.2.2.1.1, (h.t _).1.trans c.2.2.1.2.1, (h.t _).1.trans c.2.2.1.2.2⟩, (h.t _).2.trans c.2.2.2.1, (h.t _).2.trans c.2.2.2.2.1, (h.t _).2.trans c.2.2.2.2.2⟩
theorem SCt.sq {Z : Nat → Nat → Prop} (h : SQ M N o Z) (c : SCt M o s) : SCt N o s := by
  obtain ⟨⟨a1, a2, a3, a4, a5, a6⟩, ⟨b1, b2, b3⟩, c1, c2, c3, c4, c5⟩ := c
  exact ⟨⟨(h.t _).1.trans a1, (h.2.2.1 _ _).trans a2, (h.2.2.1 _ _).trans a3, (h.2.2.1 _ _).trans a4, (h.2.2.1 _ _).trans a5, (h.2.2.1 _ _).trans a6⟩, ⟨(h.t _).1.trans b1, (h.t _).2.trans b2, fun i hi => (h.2.2.1 _ _).trans (b3 i hi)⟩, c1.sq h, fun i hi => (c2 i hi).sq h, c3.sq h, c4.sq h, c5.sq h⟩
theorem SHP.sc1 (h : SHP M o) : SCt M o 1 := by
  refine ⟨⟨mt_1 h, h.2 (1, 0, 2) (by decide), h.2 (1, 1, 4) (by decide), h.2 (1, 4, 5) (by decide), h.2 (1, 5, 9) (by decide), h.2 (1, 6, 13) (by decide)⟩, ⟨mt_4 h, ml_4 h, fun i hi => h.2 (4, i, 17 + 2 * i) ((by decide : ∀ i, i < 5 → (4, i, 17 + 2 * i) ∈ ptT) i hi)⟩, ⟨mt_2 h, h.2 (2, 0, 3) (by decide), mt_3 h, ml_3 h⟩, fun i hi => ?_, ⟨mt_5 h, ⟨h.2 (5, 1, 6) (by decide), h.2 (5, 2, 7) (by decide), h.2 (5, 3, 8) (by decide)⟩, ⟨mt_6 h, mt_7 h, mt_8 h⟩, ml_6 h, ml_7 h, ml_8 h⟩, ⟨mt_9 h, ⟨h.2 (9, 1, 10) (by decide), h.2 (9, 2, 11) (by decide), h.2 (9, 3, 12) (by decide)⟩, ⟨mt_10 h, mt_11 h, mt_12 h⟩, ml_10 h, ml_11 h, ml_12 h⟩, ⟨mt_13 h, ⟨h.2 (13, 1, 14) (by decide), h.2 (13, 2, 15) (by decide), h.2 (13, 3, 16) (by decide)⟩, ⟨mt_14 h, mt_15 h, mt_16 h⟩, ml_14 h, ml_15 h, ml_16 h⟩⟩
  have e : 1 + 16 + 2 * i + 1 = 18 + 2 * i := by omega
  refine ⟨mtw_4 h hi, ?_, ?_, ?_⟩
  · rw [e]; exact h.2 (17 + 2 * i, 3, 18 + 2 * i) ((by decide : ∀ i, i < 5 → (17 + 2 * i, 3, 18 + 2 * i) ∈ ptT) i hi)
  · rw [e]; exact mtl_4 h hi
  · rw [e]; exact mll_4 h hi
theorem SHP.sc27 (h : SHP M o) : SCt M o 27 := by
  refine ⟨⟨mt_27 h, h.2 (27, 0, 28) (by decide), h.2 (27, 1, 30) (by decide), h.2 (27, 4, 31) (by decide), h.2 (27, 5, 35) (by decide), h.2 (27, 6, 39) (by decide)⟩, ⟨mt_30 h, ml_30 h, fun i hi => h.2 (30, i, 43 + 2 * i) ((by decide : ∀ i, i < 5 → (30, i, 43 + 2 * i) ∈ ptT) i hi)⟩, ⟨mt_28 h, h.2 (28, 0, 29) (by decide), mt_29 h, ml_29 h⟩, fun i hi => ?_, ⟨mt_31 h, ⟨h.2 (31, 1, 32) (by decide), h.2 (31, 2, 33) (by decide), h.2 (31, 3, 34) (by decide)⟩, ⟨mt_32 h, mt_33 h, mt_34 h⟩, ml_32 h, ml_33 h, ml_34 h⟩, ⟨mt_35 h, ⟨h.2 (35, 1, 36) (by decide), h.2 (35, 2, 37) (by decide), h.2 (35, 3, 38) (by decide)⟩, ⟨mt_36 h, mt_37 h, mt_38 h⟩, ml_36 h, ml_37 h, ml_38 h⟩, ⟨mt_39 h, ⟨h.2 (39, 1, 40) (by decide), h.2 (39, 2, 41) (by decide), h.2 (39, 3, 42) (by decide)⟩, ⟨mt_40 h, mt_41 h, mt_42 h⟩, ml_40 h, ml_41 h, ml_42 h⟩⟩
  have e : 27 + 16 + 2 * i + 1 = 44 + 2 * i := by omega
  refine ⟨mtw_30 h hi, ?_, ?_, ?_⟩
  · rw [e]; exact h.2 (43 + 2 * i, 3, 44 + 2 * i) ((by decide : ∀ i, i < 5 → (43 + 2 * i, 3, 44 + 2 * i) ∈ ptT) i hi)
  · rw [e]; exact mtl_30 h hi
  · rw [e]; exact mll_30 h hi
theorem cpy_g {a b n : Nat} {Z : Nat → Nat → Prop} (hz : ∀ k, k < n → Z b k) : SQ M (rI M (o + b) (va_cpy (mI M (o + a)) (mI M (o + b)) 0 0 n)) o Z := SQ.rfl.rI fun k hk => hz k (by
  by_cases q : k < n
  · exact q
  · exact absurd (pk_cpy_out (Or.inr (by omega))) hk)
theorem cpy_v {a b n k : Nat} (hk : k < n) : mI (rI M (o + b) (va_cpy (mI M (o + a)) (mI M (o + b)) 0 0 n)) (o + b) k = mI M (o + a) k := by
  rw [mI_rI, if_pos rfl, pk_cpy_in (Nat.zero_le _) (by omega), Nat.sub_zero, Nat.zero_add]
theorem become_g (hs : CUt M o s) (hd : CUt M o d) (h1 : ¬ s = d + 1) : ∃ M1, fn_X2_become M (o + d) (o + s) = some M1 ∧ SQ M M1 o (fun a k => (a = d + 1 ∧ k < 16) ∨ (a = d ∧ k = 1)) ∧ (∀ c, c < 16 → mI M1 (o + (d + 1)) c = mI M (o + (s + 1)) c) ∧ mI M1 (o + d) 1 = mI M (o + s) 1 := by
  obtain ⟨s1, s2, s3, s4⟩ := hs
  obtain ⟨d1, d2, d3, d4⟩ := hd
  obtain ⟨N, hN⟩ : ∃ N, N = rI M (o + (d + 1)) (va_cpy (mI M (o + (s + 1))) (mI M (o + (d + 1))) 0 0 16) := ⟨_, rfl⟩
  have q : SQ M N o (fun a k => (a = d + 1 ∧ k < 16) ∨ (a = d ∧ k = 1)) := by rw [hN]; exact cpy_g fun k hk => Or.inl ⟨rfl, hk⟩
  have t : ∀ a, mt N a = mt M a := fun a => (q.t a).1
  have c := cpI_e (α := QM) (M := M) (a := o + (s + 1)) (b := o + (d + 1)) (sp := 0) (dp := 0) (n := 16) (f := fun M12 => gI M12 (o + s) 2 1 fun x17 => pI M12 (o + d) 2 1 x17 fun M20 => some M20) s3 d3 (by rw [s4]; decide) (by rw [d4]; decide) (by rw [s4]; decide) (by rw [d4]; decide)
  refine ⟨sI N (o + d) 1 (mI M (o + s) 1), ?_, q.sI (Or.inr ⟨rfl, rfl⟩), fun c hc => ?_, by rw [mI_sI, if_pos ⟨rfl, rfl⟩]⟩
  · unfold fn_X2_become
    rw [gR_e s1 s2, gR_e d1 d2]
    show cpI M (o + (s + 1)) (o + (d + 1)) (nI 0) (nI 0) (nI 16) _ = _
    rw [c, ← hN, gI_e ((t _).trans s1), pI_e ((t _).trans d1), hN, mI_rI, if_neg (by omega)]
  · rw [mI_sI, if_neg (by omega), hN]
    exact cpy_v hc
theorem copyw_g {x y : Nat} (hs : WKt M o x) (hd : WKt M o y) (h0 : ¬ x = y ∧ ¬ x = y + 1 ∧ ¬ x + 1 = y) : ∃ M1, fn_X7_copy M (o + y) (o + x) = some M1 ∧ SQ M M1 o (fun a k => (a = y ∧ k < 3) ∨ (a = y + 1 ∧ k < 4)) ∧ (∀ k, k < 3 → mI M1 (o + y) k = mI M (o + x) k) ∧ ∀ r, r < 4 → mI M1 (o + (y + 1)) r = mI M (o + (x + 1)) r := by
  obtain ⟨s1, s2, s3, s4⟩ := hs
  obtain ⟨d1, d2, d3, d4⟩ := hd
  obtain ⟨A, hA⟩ : ∃ A, A = sI M (o + y) 0 (mI M (o + x) 0) := ⟨_, rfl⟩
  obtain ⟨B, hB⟩ : ∃ B, B = sI A (o + y) 1 (mI M (o + x) 1) := ⟨_, rfl⟩
  obtain ⟨C, hC⟩ : ∃ C, C = sI B (o + y) 2 (mI M (o + x) 2) := ⟨_, rfl⟩
  have qA : SQ M A o (fun a k => (a = y ∧ k < 3) ∨ (a = y + 1 ∧ k < 4)) := by rw [hA]; exact SQ.rfl.sI (Or.inl ⟨rfl, by decide⟩)
  have qB : SQ M B o (fun a k => (a = y ∧ k < 3) ∨ (a = y + 1 ∧ k < 4)) := by rw [hB]; exact qA.sI (Or.inl ⟨rfl, by decide⟩)
  have qC : SQ M C o (fun a k => (a = y ∧ k < 3) ∨ (a = y + 1 ∧ k < 4)) := by rw [hC]; exact qB.sI (Or.inl ⟨rfl, by decide⟩)
  have c := cpI_e (α := QM) (M := C) (a := o + (x + 1)) (b := o + (y + 1)) (sp := 0) (dp := 0) (n := 4) (f := fun M35 => some M35) ((qC.t _).1.trans s3) ((qC.t _).1.trans d3) (by rw [(qC.t _).2, s4]; decide) (by rw [(qC.t _).2, d4]; decide) (by rw [(qC.t _).2, s4]; decide) (by rw [(qC.t _).2, d4]; decide)
  refine ⟨rI C (o + (y + 1)) (va_cpy (mI C (o + (x + 1))) (mI C (o + (y + 1))) 0 0 4), ?_, qC.trans (cpy_g fun k hk => Or.inr ⟨rfl, hk⟩), fun k hk => ?_, fun r hr => ?_⟩
  · unfold fn_X7_copy
    rw [gI_e s1, pI_e d1, ← hA, gI_e ((qA.t _).1.trans s1), qA.2.2.2.2 x 1 (by omega), pI_e ((qA.t _).1.trans d1), ← hB, gI_e ((qB.t _).1.trans s1), qB.2.2.2.2 x 2 (by omega), pI_e ((qB.t _).1.trans d1), ← hC, gR_e ((qC.t _).1.trans s1) ((qC.2.2.1 _ _).trans s2), gR_e ((qC.t _).1.trans d1) ((qC.2.2.1 _ _).trans d2)]
    exact c
  · rw [mI_rI, if_neg (by omega), hC, mI_sI]
    rcases (by omega : k = 0 ∨ k = 1 ∨ k = 2) with rfl | rfl | rfl
    · rw [if_neg (by omega), hB, mI_sI, if_neg (by omega), hA, mI_sI, if_pos ⟨rfl, rfl⟩]
    · rw [if_neg (by omega), hB, mI_sI, if_pos ⟨rfl, rfl⟩]
    · rw [if_pos ⟨rfl, rfl⟩]
  · rw [cpy_v hr]
    exact qC.2.2.2.2 (x + 1) r (by omega)
theorem rows_g {L n : Nat} (hs : RWt M o s L) (hd : RWt M o d L) (hL : mI M (o + d) 0 = nI L) (hn : mI M (o + s) 4 = nI n) (nL : n ≤ L) (L100 : L ≤ 100) (h0 : d + 4 ≤ s ∨ s + 4 ≤ d) : ∃ M1, fn_X4_copy M (o + d) (o + s) = some M1 ∧ SQ M M1 o (fun a k => (a = d ∧ k = 4) ∨ ((a = d + 1 ∨ a = d + 2 ∨ a = d + 3) ∧ k < n)) ∧ mI M1 (o + d) 4 = nI n ∧ ∀ k, k < n → mI M1 (o + (d + 1)) k = mI M (o + (s + 1)) k ∧ mI M1 (o + (d + 2)) k = mI M (o + (s + 2)) k ∧ mI M1 (o + (d + 3)) k = mI M (o + (s + 3)) k := by
  obtain ⟨s0, ⟨s1, s2, s3⟩, ⟨s4, s5, s6⟩, s7, s8, s9⟩ := hs
  obtain ⟨d0, ⟨d1, d2, d3⟩, ⟨d4, d5, d6⟩, d7, d8, d9⟩ := hd
  have mn : imm_min (nI L) (nI n) = nI n := by
    unfold imm_min
    by_cases q : n < L
    · rw [if_pos (nI_lt q (by omega))]
    · have : n = L := by omega
      rw [this, if_neg Int32.lt_irrefl]
  obtain ⟨A, hA⟩ : ∃ A, A = sI M (o + d) 4 (nI n) := ⟨_, rfl⟩
  obtain ⟨B, hB⟩ : ∃ B, B = rI A (o + (d + 1)) (va_cpy (mI A (o + (s + 1))) (mI A (o + (d + 1))) 0 0 n) := ⟨_, rfl⟩
  obtain ⟨C, hC⟩ : ∃ C, C = rI B (o + (d + 2)) (va_cpy (mI B (o + (s + 2))) (mI B (o + (d + 2))) 0 0 n) := ⟨_, rfl⟩
  have qA : SQ M A o (fun a k => (a = d ∧ k = 4) ∨ ((a = d + 1 ∨ a = d + 2 ∨ a = d + 3) ∧ k < n)) := by rw [hA]; exact SQ.rfl.sI (Or.inl ⟨rfl, rfl⟩)
  have qB : SQ M B o (fun a k => (a = d ∧ k = 4) ∨ ((a = d + 1 ∨ a = d + 2 ∨ a = d + 3) ∧ k < n)) := by rw [hB]; exact qA.trans (cpy_g fun k hk => Or.inr ⟨Or.inl rfl, hk⟩)
  have qC : SQ M C o (fun a k => (a = d ∧ k = 4) ∨ ((a = d + 1 ∨ a = d + 2 ∨ a = d + 3) ∧ k < n)) := by rw [hC]; exact qB.trans (cpy_g fun k hk => Or.inr ⟨Or.inr (Or.inl rfl), hk⟩)
  have xA : mI A (o + d) 4 = nI n := by rw [hA, mI_sI, if_pos ⟨rfl, rfl⟩]
  have xB : mI B (o + d) 4 = nI n := by rw [hB, mI_rI, if_neg (by omega)]; exact xA
  have xC : mI C (o + d) 4 = nI n := by rw [hC, mI_rI, if_neg (by omega)]; exact xB
  have cc : ∀ (N : QM) {α : Type} (f : QM → Option α), SQ M N o (fun a k => (a = d ∧ k = 4) ∨ ((a = d + 1 ∨ a = d + 2 ∨ a = d + 3) ∧ k < n)) → ∀ i, i = 1 ∨ i = 2 ∨ i = 3 → cpI N (o + (s + i)) (o + (d + i)) 0 0 (nI n) f = f (rI N (o + (d + i)) (va_cpy (mI N (o + (s + i))) (mI N (o + (d + i))) 0 0 n)) := by
    intro N α f q i hi
    have ts : mt N (o + (s + i)) = 20 := by rw [(q.t _).1]; rcases hi with rfl | rfl | rfl; exact s4; exact s5; exact s6
    have td : mt N (o + (d + i)) = 20 := by rw [(q.t _).1]; rcases hi with rfl | rfl | rfl; exact d4; exact d5; exact d6
    have ls : ml N (o + (s + i)) = L := by rw [(q.t _).2]; rcases hi with rfl | rfl | rfl; exact s7; exact s8; exact s9
    have ld : ml N (o + (d + i)) = L := by rw [(q.t _).2]; rcases hi with rfl | rfl | rfl; exact d7; exact d8; exact d9
    exact cpI_e (sp := 0) (dp := 0) (n := n) ts td (by omega) (by omega) (by omega) (by omega)
  refine ⟨rI C (o + (d + 3)) (va_cpy (mI C (o + (s + 3))) (mI C (o + (d + 3))) 0 0 n), ?_, qC.trans (cpy_g fun k hk => Or.inr ⟨Or.inr (Or.inr rfl), hk⟩), by rw [mI_rI, if_neg (by omega)]; exact xC, fun k hk => ⟨?_, ?_, ?_⟩⟩
  · unfold fn_X4_copy
    rw [gI_e d0, hL, gI_e s0, hn, mn, pI_e d0, ← hA, gR_e ((qA.t _).1.trans s0) ((qA.2.2.1 _ _).trans s1), gR_e ((qA.t _).1.trans d0) ((qA.2.2.1 _ _).trans d1), gI_e ((qA.t _).1.trans d0), xA, cc A _ qA 1 (by omega), ← hB, gR_e ((qB.t _).1.trans s0) ((qB.2.2.1 _ _).trans s2), gR_e ((qB.t _).1.trans d0) ((qB.2.2.1 _ _).trans d2), gI_e ((qB.t _).1.trans d0), xB, cc B _ qB 2 (by omega), ← hC, gR_e ((qC.t _).1.trans s0) ((qC.2.2.1 _ _).trans s3), gR_e ((qC.t _).1.trans d0) ((qC.2.2.1 _ _).trans d3), gI_e ((qC.t _).1.trans d0), xC, cc C _ qC 3 (by omega)]
  · rw [mI_rI, if_neg (by omega), hC, mI_rI, if_neg (by omega), hB, cpy_v hk]
    exact qA.2.2.2.2 (s + 1) k (by omega)
  · rw [mI_rI, if_neg (by omega), hC, cpy_v hk]
    exact qB.2.2.2.2 (s + 2) k (by omega)
  · rw [cpy_v hk]
    exact qC.2.2.2.2 (s + 3) k (by omega)
/-- what one scene takes of the other -/
def ZD (d : Nat) : Nat → Nat → Prop := fun a k => d ≤ a ∧ a ≤ d + 25 ∧ ¬ (k = 0 ∧ (a = d + 4 ∨ a = d + 8 ∨ a = d + 12))
def SV (M N : QM) (o s d w n1 n2 n3 : Nat) : Prop := ((∀ c, c < 16 → mI N (o + (d + 2)) c = mI M (o + (s + 2)) c) ∧ mI N (o + (d + 1)) 1 = mI M (o + (s + 1)) 1 ∧ mI N (o + d) 2 = nI w ∧ mI N (o + d) 3 = mI M (o + s) 3) ∧ (∀ i, i < w → (∀ k, k < 3 → mI N (o + (d + 16 + 2 * i)) k = mI M (o + (s + 16 + 2 * i)) k) ∧ ∀ r, r < 4 → mI N (o + (d + 17 + 2 * i)) r = mI M (o + (s + 17 + 2 * i)) r) ∧ (mI N (o + (d + 4)) 4 = nI n1 ∧ ∀ k, k < n1 → mI N (o + (d + 5)) k = mI M (o + (s + 5)) k ∧ mI N (o + (d + 6)) k = mI M (o + (s + 6)) k ∧ mI N (o + (d + 7)) k = mI M (o + (s + 7)) k) ∧ (mI N (o + (d + 8)) 4 = nI n2 ∧ ∀ k, k < n2 → mI N (o + (d + 9)) k = mI M (o + (s + 9)) k ∧ mI N (o + (d + 10)) k = mI M (o + (s + 10)) k) ∧ (mI N (o + (d + 12)) 4 = nI n3 ∧ ∀ k, k < n3 → mI N (o + (d + 13)) k = mI M (o + (s + 13)) k ∧ mI N (o + (d + 14)) k = mI M (o + (s + 14)) k)
set_option maxHeartbeats 1000000 in
theorem walk_g {w : Nat} (hs : SCt M o s) (hd : SCt M o d) (hsd : (s = 1 ∧ d = 27) ∨ (s = 27 ∧ d = 1)) (hw : w ≤ 5) (h2 : mI M (o + d) 2 = nI w) : ∃ M1, itr (fun s21 : Int32 × QM => lp_X5_copy_21 (o + d) (o + s) s21.1 s21.2) FU (0, M) = some M1 ∧ SQ M M1 o (fun a _ => d + 16 ≤ a ∧ a ≤ d + 25) ∧ ∀ i, i < w → (∀ k, k < 3 → mI M1 (o + (d + 16 + 2 * i)) k = mI M (o + (s + 16 + 2 * i)) k) ∧ ∀ r, r < 4 → mI M1 (o + (d + 17 + 2 * i)) r = mI M (o + (s + 17 + 2 * i)) r := by
  have loop := itr_J (f := fun s21 : Int32 × QM => lp_X5_copy_21 (o + d) (o + s) s21.1 s21.2) (s0 := (0, M)) (fun i z => i ≤ w ∧ ∃ Mw, z = (nI i, Mw) ∧ SQ M Mw o (fun a _ => d + 16 ≤ a ∧ a ≤ d + 25) ∧ ∀ j, j < i → (∀ k, k < 3 → mI Mw (o + (d + 16 + 2 * j)) k = mI M (o + (s + 16 + 2 * j)) k) ∧ ∀ r, r < 4 → mI Mw (o + (d + 17 + 2 * j)) r = mI M (o + (s + 17 + 2 * j)) r) (fun r => SQ M r o (fun a _ => d + 16 ≤ a ∧ a ≤ d + 25) ∧ ∀ i, i < w → (∀ k, k < 3 → mI r (o + (d + 16 + 2 * i)) k = mI M (o + (s + 16 + 2 * i)) k) ∧ ∀ r', r' < 4 → mI r (o + (d + 17 + 2 * i)) r' = mI M (o + (s + 17 + 2 * i)) r') 5
    ⟨Nat.zero_le _, M, rfl, SQ.rfl, fun j hj => absurd hj (Nat.not_lt_zero _)⟩
    (fun i z hz => by
      obtain ⟨hi, Mw, rfl, g1, g2⟩ := hz
      have ts := hs.sq g1
      have td := hd.sq g1
      have w' := (g1.2.2.2.2 d 2 (by omega)).trans h2
      show (∃ r, lp_X5_copy_21 (o + d) (o + s) (nI i) Mw = some (.inr r) ∧ _) ∨ _ ∧ ∃ s', lp_X5_copy_21 (o + d) (o + s) (nI i) Mw = some (.inl s') ∧ _
      by_cases e : i = w
      · left
        subst e
        refine ⟨Mw, ?_, g1, g2⟩
        unfold lp_X5_copy_21
        rw [gI_e td.1.1, w', if_pos (nI_le (Nat.le_refl _) (by omega))]
      · right
        have hi' : i < w := by omega
        have i5 : i < 5 := by omega
        obtain ⟨M1, c1, c2, c3, c4⟩ := copyw_g (ts.2.2.2.1 i i5) (td.2.2.2.1 i i5) (by omega)
        refine ⟨by omega, (nI (i + 1), M1), ?_, by omega, M1, rfl, g1.trans (c2.mono fun a k q => by omega), fun j hj => ?_⟩
        · unfold lp_X5_copy_21
          rw [gI_e td.1.1, w', if_neg (by rw [nI_leI (by omega) (by omega)]; omega), gR_e td.1.1 td.1.2.2.1, aR_e td.2.1.1 (by rw [td.2.1.2.1]; exact i5) (by rw [td.2.1.2.1]; decide) (td.2.1.2.2 i i5), gR_e ts.1.1 ts.1.2.2.1, aR_e ts.2.1.1 (by rw [ts.2.1.2.1]; exact i5) (by rw [ts.2.1.2.1]; decide) (ts.2.1.2.2 i i5), ck_e (td.2.2.2.1 i i5).1, bnd_e c1, nm_eq, nI_1]
        · have ex : ∀ b j, b + 16 + 2 * j + 1 = b + 17 + 2 * j := fun b j => by omega
          by_cases q : j = i
          · subst q
            refine ⟨fun k hk => (c3 k hk).trans (g1.2.2.2.2 _ _ (by omega)), fun r hr => ?_⟩
            have := c4 r hr
            rw [ex, ex] at this
            exact this.trans (g1.2.2.2.2 _ _ (by omega))
          · obtain ⟨y1, y2⟩ := g2 j (by omega)
            exact ⟨fun k hk => (c2.2.2.2.2 _ _ (by omega)).trans (y1 k hk), fun r hr => (c2.2.2.2.2 _ _ (by omega)).trans (y2 r hr)⟩) (by decide)
  obtain ⟨r, h1, h2, h3⟩ := loop
  exact ⟨r, h1, h2, h3⟩
set_option maxHeartbeats 2000000 in
theorem scene_g {w n1 n2 n3 q : Nat} (hs : SCt M o s) (hd : SCt M o d) (hsd : (s = 1 ∧ d = 27) ∨ (s = 27 ∧ d = 1)) (hw : w ≤ 5) (h2 : mI M (o + s) 2 = nI w) (k1 : n1 ≤ 5) (k2 : n2 ≤ 10) (k3 : n3 ≤ 8) (l1 : mI M (o + (s + 4)) 4 = nI n1) (l2 : mI M (o + (s + 8)) 4 = nI n2) (l3 : mI M (o + (s + 12)) 4 = nI n3) (f1 : mI M (o + (d + 4)) 0 = 5) (f2 : mI M (o + (d + 8)) 0 = 10) (f3 : mI M (o + (d + 12)) 0 = 8) (hq : mP M (o + s) 7 = some q) : ∃ M1, fn_X5_copy M (o + d) (o + s) = some (sP M1 (o + d) 7 (some q)) ∧ SQ M M1 o (ZD d) ∧ SV M M1 o s d w n1 n2 n3 := by
  obtain ⟨A, a1, a2, a3, a4⟩ := become_g hs.2.2.1 hd.2.2.1 (by omega)
  have za : SQ M A o (ZD d) := a2.mono fun a k z => by unfold ZD; omega
  obtain ⟨B, hB⟩ : ∃ B, B = sI A (o + d) 2 (nI w) := ⟨_, rfl⟩
  have zb' : SQ M B o (ZD d) := by rw [hB]; exact za.sI ⟨by omega, by omega, by omega⟩
  have qB : ∀ a k, ¬ (a = d ∧ k = 2) → mI B (o + a) k = mI A (o + a) k := fun a k z => by rw [hB, mI_sI, if_neg (by omega)]
  obtain ⟨C, c1, c2, c3⟩ := walk_g (hs.sq zb') (hd.sq zb') hsd hw (by rw [hB, mI_sI, if_pos ⟨rfl, rfl⟩])
  have zc : SQ M C o (ZD d) := zb'.trans (c2.mono fun a k z => by unfold ZD; omega)
  obtain ⟨D, hD⟩ : ∃ D, D = sI C (o + d) 3 (mI M (o + s) 3) := ⟨_, rfl⟩
  have zd : SQ M D o (ZD d) := by rw [hD]; exact zc.sI ⟨by omega, by omega, by omega⟩
  have nd : ∀ a, d ≤ a → a ≤ d + 25 → ∀ k, ¬ ZD d s k := fun a _ _ k z => by unfold ZD at z; omega
  have sr : ∀ {N : QM}, SQ M N o (ZD d) → ∀ a k, s ≤ a → a ≤ s + 25 → mI N (o + a) k = mI M (o + a) k := fun h a k h1 h2 => h.2.2.2.2 a k fun z => by unfold ZD at z; omega
  have s0 : ∀ {N : QM}, SQ M N o (ZD d) → ∀ a, a = d + 4 ∨ a = d + 8 ∨ a = d + 12 → mI N (o + a) 0 = mI M (o + a) 0 := fun h a h1 => h.2.2.2.2 a 0 fun z => by unfold ZD at z; omega
  obtain ⟨E, e1, e2, e3, e4⟩ := rows_g (n := n1) (hs.sq zd).2.2.2.2.1 (hd.sq zd).2.2.2.2.1 ((s0 zd _ (by omega)).trans f1) ((sr zd _ _ (by omega) (by omega)).trans l1) k1 (by decide) (by omega)
  have ze : SQ M E o (ZD d) := zd.trans (e2.mono fun a k z => by unfold ZD; omega)
  obtain ⟨F, g1, g2, g3, g4⟩ := rows_g (n := n2) (hs.sq ze).2.2.2.2.2.1 (hd.sq ze).2.2.2.2.2.1 ((s0 ze _ (by omega)).trans f2) ((sr ze _ _ (by omega) (by omega)).trans l2) k2 (by decide) (by omega)
  have zf : SQ M F o (ZD d) := ze.trans (g2.mono fun a k z => by unfold ZD; omega)
  obtain ⟨H, i1, i2, i3, i4⟩ := rows_g (n := n3) (hs.sq zf).2.2.2.2.2.2 (hd.sq zf).2.2.2.2.2.2 ((s0 zf _ (by omega)).trans f3) ((sr zf _ _ (by omega) (by omega)).trans l3) k3 (by decide) (by omega)
  have zh : SQ M H o (ZD d) := zf.trans (i2.mono fun a k z => by unfold ZD; omega)
  have hF : ∀ a k, (a < d + 12 ∨ d + 15 < a) → mI H (o + a) k = mI F (o + a) k := fun a k z => i2.2.2.2.2 a k (by omega)
  have hE : ∀ a k, (a < d + 8 ∨ d + 11 < a) → mI F (o + a) k = mI E (o + a) k := fun a k z => g2.2.2.2.2 a k (by omega)
  have hDE : ∀ a k, (a < d + 4 ∨ d + 7 < a) → mI E (o + a) k = mI D (o + a) k := fun a k z => e2.2.2.2.2 a k (by omega)
  have hCD : ∀ a k, ¬ (a = d ∧ k = 3) → mI D (o + a) k = mI C (o + a) k := fun a k z => by rw [hD, mI_sI, if_neg (by omega)]
  have hBC : ∀ a k, (a < d + 16 ∨ d + 25 < a) → mI C (o + a) k = mI B (o + a) k := fun a k z => c2.2.2.2.2 a k (by omega)
  have far : ∀ a k, (a < d + 4 ∨ d + 15 < a) → ¬ (a = d ∧ k = 3) → mI H (o + a) k = mI C (o + a) k := fun a k z1 z2 => ((hF a k (by omega)).trans (hE a k (by omega))).trans ((hDE a k (by omega)).trans (hCD a k z2))
  refine ⟨H, ?_, zh, ⟨fun c hc => ?_, ?_, ?_, ?_⟩, fun i hi => ⟨fun k hk => ?_, fun r hr => ?_⟩, ⟨?_, fun k hk => ?_⟩, ⟨?_, fun k hk => ?_⟩, ⟨?_, fun k hk => ?_⟩⟩
  · unfold fn_X5_copy
    rw [gR_e hd.1.1 hd.1.2.1, gR_e hs.1.1 hs.1.2.1, ck_e hd.2.2.1.1, bnd_e a1, gI_e (hs.sq za).1.1, sr za s 2 (by omega) (by omega), h2, pI_e (hd.sq za).1.1, ← hB, bnd_e c1, gI_e (hs.sq zc).1.1, sr zc s 3 (by omega) (by omega), pI_e (hd.sq zc).1.1, ← hD, gR_e (hd.sq zd).1.1 (hd.sq zd).1.2.2.2.1, gR_e (hs.sq zd).1.1 (hs.sq zd).1.2.2.2.1, ck_e (hd.sq zd).2.2.2.2.1.1, bnd_e e1, gR_e (hd.sq ze).1.1 (hd.sq ze).1.2.2.2.2.1, gR_e (hs.sq ze).1.1 (hs.sq ze).1.2.2.2.2.1, ck_e (hd.sq ze).2.2.2.2.2.1.1, bnd_e g1, gR_e (hd.sq zf).1.1 (hd.sq zf).1.2.2.2.2.2, gR_e (hs.sq zf).1.1 (hs.sq zf).1.2.2.2.2.2, ck_e (hd.sq zf).2.2.2.2.2.2.1, bnd_e i1, gR_e (hs.sq zh).1.1 ((zh.2.2.1 _ _).trans hq), pR_e (hd.sq zh).1.1]
  · rw [far _ _ (by omega) (by omega), hBC _ _ (by omega), qB _ _ (by omega)]
    have := a3 c hc
    rw [show d + 1 + 1 = d + 2 by omega, show s + 1 + 1 = s + 2 by omega] at this
    exact this
  · rw [far _ _ (by omega) (by omega), hBC _ _ (by omega), qB _ _ (by omega)]; exact a4
  · rw [far _ _ (by omega) (by omega), hBC _ _ (by omega), hB, mI_sI, if_pos ⟨rfl, rfl⟩]
  · rw [hF _ _ (by omega), hE _ _ (by omega), hDE _ _ (by omega), hD, mI_sI, if_pos ⟨rfl, rfl⟩]
  · rw [far _ _ (by omega) (by omega), (c3 i hi).1 k hk]; exact sr zb' _ _ (by omega) (by omega)
  · rw [far _ _ (by omega) (by omega), (c3 i hi).2 r hr]; exact sr zb' _ _ (by omega) (by omega)
  · rw [hF _ _ (by omega), hE _ _ (by omega)]; exact e3
  · obtain ⟨y1, y2, y3⟩ := e4 k hk
    refine ⟨?_, ?_, ?_⟩
    · rw [hF _ _ (by omega), hE _ _ (by omega)]; exact y1.trans (sr zd _ _ (by omega) (by omega))
    · rw [hF _ _ (by omega), hE _ _ (by omega)]; exact y2.trans (sr zd _ _ (by omega) (by omega))
    · rw [hF _ _ (by omega), hE _ _ (by omega)]; exact y3.trans (sr zd _ _ (by omega) (by omega))
  · rw [hF _ _ (by omega)]; exact g3
  · obtain ⟨y1, y2, y3⟩ := g4 k hk
    refine ⟨?_, ?_⟩
    · rw [hF _ _ (by omega)]; exact y1.trans (sr ze _ _ (by omega) (by omega))
    · rw [hF _ _ (by omega)]; exact y2.trans (sr ze _ _ (by omega) (by omega))
  · exact i3
  · obtain ⟨y1, y2, y3⟩ := i4 k hk
    exact ⟨y1.trans (sr zf _ _ (by omega) (by omega)), y2.trans (sr zf _ _ (by omega) (by omega))⟩
end CY1
