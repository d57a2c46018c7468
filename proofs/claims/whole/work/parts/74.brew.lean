/-! ===== a BREW is made ===== -/
/-- the memory behind a new BREW's constructor -/
def bwI (M : QM) (o h : Nat) (p1 p2 : Int32) : QM := rI (sI (sI (sP (nw M 20 1600) (o + h) 0 (some (o + (h + 1)))) (o + h) 1 p1) (o + h) 2 p2) (o + (h + 1)) (fun i => if i < 1600 then 2 else 0)
section BW1
variable {M N N1 N2 : QM} {o h : Nat} {p1 p2 : Int32}
theorem x1_c (hz : mz M = o + (h + 1)) (ht : mt M (o + h) = 1) : fn_X1_init M (o + h) p1 p2 = some (bwI M o h p1 p2) := by
  obtain ⟨N, hN⟩ : ∃ N, N = sI (sI (sP (nw M 20 1600) (o + h) 0 (some (o + (h + 1)))) (o + h) 1 p1) (o + h) 2 p2 := ⟨_, rfl⟩
  have ne : ¬ o + h = o + (h + 1) := by omega
  have ne2 : ¬ o + (h + 1) = o + h := by omega
  have t0 : mt (nw M 20 1600) (o + h) = 1 := by rw [mt_nw, hz, if_neg ne]; exact ht
  have n1 : mt N (o + h) = 1 := by rw [hN]; exact t0
  have n2 : mt N (o + (h + 1)) = 20 := by
    rw [hN]
    show mt (nw M 20 1600) (o + (h + 1)) = 20
    rw [mt_nw, hz, if_pos rfl]
  have n3 : ml N (o + (h + 1)) = 1600 := by
    rw [hN]
    show ml (nw M 20 1600) (o + (h + 1)) = 1600
    rw [ml_nw, hz, if_pos rfl]
  have n4 : mP N (o + h) 0 = some (o + (h + 1)) := by
    rw [hN]
    show (if o + h = o + h ∧ 0 = 0 then some (o + (h + 1)) else _) = _
    rw [if_pos ⟨rfl, rfl⟩]
  have n5 : ∀ i, mI N (o + (h + 1)) i = 0 := fun i => by
    rw [hN, mI_sI, if_neg (fun q => ne2 q.1), mI_sI, if_neg (fun q => ne2 q.1), mI_sP, mI_nw, hz, if_pos rfl]
  have loop := itr_k (f := fun s25 : Int32 × QM => lp_X1_init_25 (o + h) s25.1 s25.2) (s0 := (0, N)) (r := rI N (o + (h + 1)) (fun i => if i < 1600 then 2 else 0)) (fun k => (nI k, rI N (o + (h + 1)) (fun i => if i < k then 2 else 0))) 1600 ?_ ?_ ?_ (by decide)
  · unfold fn_X1_init
    refine (nA_e (n := 1600) (Nat.le_refl _) (by decide)).trans ?_
    rw [hz]
    have t1 : mt (sP (nw M 20 1600) (o + h) 0 (some (o + (h + 1)))) (o + h) = 1 := t0
    have t2 : mt (sI (sP (nw M 20 1600) (o + h) 0 (some (o + (h + 1)))) (o + h) 1 p1) (o + h) = 1 := t0
    rw [pR_e t0, pI_e t1, pI_e t2]
    have e : sI (sI (sP (nw M 20 1600) (o + h) 0 (some (o + (h + 1)))) (o + h) 1 p1) (o + h) 2 p2 = N := hN.symm
    rw [e, loop]
    show some _ = some (rI (sI (sI (sP (nw M 20 1600) (o + h) 0 (some (o + (h + 1)))) (o + h) 1 p1) (o + h) 2 p2) (o + (h + 1)) _)
    rw [e]
  · have e : rI N (o + (h + 1)) (fun i => if i < 0 then 2 else 0) = N := by
      refine Eq.trans ?_ (rI_self (M := N) (a := o + (h + 1)))
      congr 1
      funext i
      rw [n5 i, if_neg (Nat.not_lt_zero i)]
    show (0, N) = (nI 0, rI N (o + (h + 1)) (fun i => if i < 0 then 2 else 0))
    rw [e]; rfl
  · intro k hk
    show lp_X1_init_25 (o + h) (nI k) (rI N (o + (h + 1)) (fun i => if i < k then 2 else 0)) = _
    have f1 : ¬ nI 1600 ≤ nI k := by rw [nI_leI (by omega) (by omega)]; omega
    have g1 : mP (rI N (o + (h + 1)) (fun i => if i < k then 2 else 0)) (o + h) 0 = some (o + (h + 1)) := n4
    have g2 : mt (rI N (o + (h + 1)) (fun i => if i < k then 2 else 0)) (o + h) = 1 := n1
    have g3 : mt (rI N (o + (h + 1)) (fun i => if i < k then 2 else 0)) (o + (h + 1)) = 20 := n2
    have g4 : ml (rI N (o + (h + 1)) (fun i => if i < k then 2 else 0)) (o + (h + 1)) = 1600 := n3
    unfold lp_X1_init_25
    rw [gR_e g2 g1, aL_e g3, g4, if_neg f1, gR_e g2 g1, wI_e g3 (by rw [g4]; exact hk) (by rw [g4]; decide), nm_eq, nI_1, sI_rI]
    have : (fun i => if i = k then (2 : Int32) else if i < k then 2 else 0) = (fun i => if i < k + 1 then 2 else 0) := funext fun i => by
      by_cases q1 : i = k
      · rw [if_pos q1, if_pos (by omega)]
      · rw [if_neg q1]
        by_cases q2 : i < k
        · rw [if_pos q2, if_pos (by omega)]
        · rw [if_neg q2, if_neg (by omega)]
    rw [this]
  · show lp_X1_init_25 (o + h) (nI 1600) (rI N (o + (h + 1)) (fun i => if i < 1600 then 2 else 0)) = _
    have f1 : nI 1600 ≤ nI 1600 := nI_le (Nat.le_refl _) (by decide)
    have g1 : mP (rI N (o + (h + 1)) (fun i => if i < 1600 then 2 else 0)) (o + h) 0 = some (o + (h + 1)) := n4
    have g2 : mt (rI N (o + (h + 1)) (fun i => if i < 1600 then 2 else 0)) (o + h) = 1 := n1
    have g3 : mt (rI N (o + (h + 1)) (fun i => if i < 1600 then 2 else 0)) (o + (h + 1)) = 20 := n2
    have g4 : ml (rI N (o + (h + 1)) (fun i => if i < 1600 then 2 else 0)) (o + (h + 1)) = 1600 := n3
    unfold lp_X1_init_25
    rw [gR_e g2 g1, aL_e g3, g4, if_pos f1]
/-- all below h stands as it was, but what Z names -/
def BQ (M M' : QM) (o h : Nat) (Z : Nat → Nat → Prop) : Prop := (∀ a, a < h → M'.2.1 (o + a) = M.2.1 (o + a)) ∧ (∀ a k, a < h → ¬ (a = 1 ∧ k = 7) → mP M' (o + a) k = mP M (o + a) k) ∧ (∀ a k, a < h → mJ M' (o + a) k = mJ M (o + a) k) ∧ ∀ a k, a < h → ¬ Z a k → mI M' (o + a) k = mI M (o + a) k
theorem SQ.bq {Z : Nat → Nat → Prop} (s : SQ M N o Z) : BQ M N o h Z := ⟨fun a _ => by rw [s.2.1], fun a k _ _ => s.2.2.1 _ k, fun a k _ => s.2.2.2.1 _ k, fun a k _ q => s.2.2.2.2 a k q⟩
theorem BQ.trans {Z : Nat → Nat → Prop} (s : BQ M N o h Z) (t : BQ N N1 o h Z) : BQ M N1 o h Z := ⟨fun a q => (t.1 a q).trans (s.1 a q), fun a k q w => (t.2.1 a k q w).trans (s.2.1 a k q w), fun a k q => (t.2.2.1 a k q).trans (s.2.2.1 a k q), fun a k q z => (t.2.2.2 a k q z).trans (s.2.2.2 a k q z)⟩
theorem BQ.mono {Z Z' : Nat → Nat → Prop} (s : BQ M N o h Z) (hz : ∀ a k, a < h → Z a k → Z' a k) : BQ M N o h Z' := ⟨s.1, s.2.1, s.2.2.1, fun a k q z => s.2.2.2 a k q fun w => z (hz a k q w)⟩
theorem ptT_lt : ∀ q ∈ ptT, q.1 < 124 ∧ ¬ (q.1 = 1 ∧ q.2.1 = 7) := by decide +kernel
theorem BQ.shp {Z : Nat → Nat → Prop} (s : BQ M N o h Z) (hh : 124 ≤ h) (hS : SHP M o) : SHP N o := ⟨fun i hi => (s.1 i (by omega)).trans (hS.1 i hi), fun q hq => (s.2.1 _ _ (by have := (ptT_lt q hq).1; omega) (ptT_lt q hq).2).trans (hS.2 q hq)⟩
/-- a new BREW, and what it changes -/
theorem bwI_q (hz : mz M = o + h) : BQ M (bwI (nw M 1 0) o h p1 p2) o h (fun _ _ => False) ∧ mz (bwI (nw M 1 0) o h p1 p2) = o + (h + 2) ∧ (bwI (nw M 1 0) o h p1 p2).2.1 (o + h) = (1, 0) ∧ (bwI (nw M 1 0) o h p1 p2).2.1 (o + (h + 1)) = (20, 1600) ∧ mP (bwI (nw M 1 0) o h p1 p2) (o + h) 0 = some (o + (h + 1)) ∧ mI (bwI (nw M 1 0) o h p1 p2) (o + h) 1 = p1 ∧ mI (bwI (nw M 1 0) o h p1 p2) (o + h) 2 = p2 := by
  have hz' : M.1 = o + h := hz
  have hz2 : (nw M 1 0).1 = o + h + 1 := by show M.1 + 1 = _; rw [hz']
  have tg : ∀ a, (bwI (nw M 1 0) o h p1 p2).2.1 a = if a = o + h + 1 then (20, 1600) else if a = o + h then (1, 0) else M.2.1 a := fun a => by
    show (if a = (nw M 1 0).1 then (20, 1600) else if a = M.1 then (1, 0) else M.2.1 a) = _
    rw [hz2, hz']
  refine ⟨⟨fun a ha => ?_, fun a k ha _ => ?_, fun a k ha => ?_, fun a k ha _ => ?_⟩, ?_, ?_, ?_, ?_, ?_, ?_⟩
  · rw [tg, if_neg (by omega), if_neg (by omega)]
  · show (if o + a = o + h ∧ k = 0 then some (o + (h + 1)) else if o + a = (nw M 1 0).1 then none else if o + a = M.1 then none else mP M (o + a) k) = _
    rw [if_neg (by omega), hz2, hz', if_neg (by omega), if_neg (by omega)]
  · show (if o + a = (nw M 1 0).1 then 0 else if o + a = M.1 then 0 else mJ M (o + a) k) = _
    rw [hz2, hz', if_neg (by omega), if_neg (by omega)]
  · show (if o + a = o + (h + 1) then (if k < 1600 then 2 else 0) else if o + a = o + h ∧ k = 2 then p2 else if o + a = o + h ∧ k = 1 then p1 else if o + a = (nw M 1 0).1 then 0 else if o + a = M.1 then 0 else mI M (o + a) k) = _
    rw [if_neg (by omega), if_neg (by omega), if_neg (by omega), hz2, hz', if_neg (by omega), if_neg (by omega)]
  · show M.1 + 1 + 1 = _
    rw [hz']; omega
  · rw [tg, if_neg (by omega), if_pos rfl]
  · rw [tg, if_pos (by omega)]
  · show (if o + h = o + h ∧ 0 = 0 then some (o + (h + 1)) else _) = _
    rw [if_pos ⟨rfl, rfl⟩]
  · show (if o + h = o + (h + 1) then (if 1 < 1600 then 2 else 0) else if o + h = o + h ∧ 1 = 2 then p2 else if o + h = o + h ∧ 1 = 1 then p1 else _) = _
    rw [if_neg (by omega), if_neg (by omega), if_pos ⟨rfl, rfl⟩]
  · show (if o + h = o + (h + 1) then (if 2 < 1600 then 2 else 0) else if o + h = o + h ∧ 2 = 2 then p2 else _) = _
    rw [if_neg (by omega), if_pos ⟨rfl, rfl⟩]
/-! the table is filled -/
def Zbt (h : Nat) : Nat → Nat → Prop := fun a k => Zff a k ∨ (a = h + 1 ∧ k < 1600)
def TBq (M N : QM) (o h : Nat) (cs : List CLA) (u : Nat) : Prop := SQ M N o (Zbt h) ∧ ∀ c t m, c < 16 → t < 10 → m < 10 → m * 10 + t < u → grV c t m cs 2 = some (mI N (o + (h + 1)) ((m * 10 + t) * 16 + c))
variable {L t m : Nat} {P : Nat → Nat} {cs : List CLA}
theorem tb_1 (hh : 124 ≤ h) (hC : TC M o P L) (h1 : mt M (o + h) = 1) (h2 : mt M (o + (h + 1)) = 20) (h3 : ml M (o + (h + 1)) = 1600) (h4 : mP M (o + h) 0 = some (o + (h + 1))) (x : PG P L 9 0 (.inr cs)) (ht : t < 10) (hm : m < 10) (g : TBq M N o h cs (m * 10 + t)) : ∃ N', lp_X8_brew_72 o (o + h) (nI m) (nI t) N = some (.inl (nI (t + 1), N')) ∧ TBq M N' o h cs (m * 10 + (t + 1)) := by
  have hS := g.1.shp hC.1
  have zt : ∀ a k, a < 124 → ¬ Zff a k → ¬ Zbt h a k := fun a k q1 q2 q => by
    rcases q with q | q
    · exact q2 q
    · omega
  have hC2 : TC N o P L := ⟨hS, hC.2.1, (g.1.2.2.2.2 53 1 (zt 53 1 (by omega) (by unfold Zff; omega))).trans hC.2.2.1, fun i hi => (g.1.2.2.2.2 54 i (zt 54 i (by omega) (by unfold Zff; omega))).trans (hC.2.2.2 i hi)⟩
  obtain ⟨v, N1, e1, s1, -, -, -, e2⟩ := ff_e hC2 (t := t) (m := m) (by omega) (by omega) x
  have hS1 := s1.shp hS
  have q1 : SQ M N1 o (Zbt h) := g.1.trans (s1.mono fun _ _ z => Or.inl z)
  have tq : ∀ b, mt N1 b = mt M b := fun b => by unfold mt; rw [q1.2.1]
  have lq : ∀ b, ml N1 b = ml M b := fun b => by unfold ml; rw [q1.2.1]
  have k1 : mt N1 (o + h) = 1 := (tq _).trans h1
  have k2 : mt N1 (o + (h + 1)) = 20 := (tq _).trans h2
  have k3 : ml N1 (o + (h + 1)) = 1600 := (lq _).trans h3
  have k4 : mP N1 (o + h) 0 = some (o + (h + 1)) := (q1.2.2.1 _ _).trans h4
  have i1 : (nI m * 10 + nI t) * 16 = nI ((m * 10 + t) * 16) := by
    have a1 : nI m * 10 = nI (m * 10) := nI_mul m 10
    have a2 : nI (m * 10 + t) * 16 = nI ((m * 10 + t) * 16) := nI_mul _ 16
    rw [a1, nI_add, a2]
  have f1 : ¬ (10 : Int32) ≤ nI t := by
    have : ¬ nI 10 ≤ nI t := by rw [nI_leI (by omega) (by omega)]; omega
    exact this
  have run : lp_X8_brew_72 o (o + h) (nI m) (nI t) N = some (.inl (nI (t + 1), rI N1 (o + (h + 1)) (va_cpy (mI N1 (o + 55)) (mI N1 (o + (h + 1))) 0 ((m * 10 + t) * 16) 16))) := by
    have lr : fn_X1_learn N1 (o + h) (nI t) (nI m) (o + 55) = some (rI N1 (o + (h + 1)) (va_cpy (mI N1 (o + 55)) (mI N1 (o + (h + 1))) 0 ((m * 10 + t) * 16) 16)) := by
      unfold fn_X1_learn
      rw [gR_e k1 k4, i1]
      exact cpI_e (sp := 0) (n := 16) (mt_55 hS1) k2 (by rw [ml_55 hS1]; decide) (by rw [k3]; omega) (by rw [ml_55 hS1]; decide) (by rw [k3]; decide)
    unfold lp_X8_brew_72
    rw [if_neg f1, gP_0_4 hS, ck_e (mt_53 hS), e1, bnd_s, pr2_e, gP_0_4 hS1, gP_53_6 hS1, ck_e k1, lr, bnd_s, nm_eq, nI_1]
  refine ⟨_, run, ?_, fun c t' m' hc ht' hm' hu => ?_⟩
  · refine q1.trans (SQ.rfl.rI fun k hk => Or.inr ⟨rfl, ?_⟩)
    by_cases z : k < 1600
    · exact z
    · exfalso
      refine hk ?_
      unfold va_cpy
      rw [if_neg (by omega)]
  · rw [mI_rI, if_pos rfl]
    unfold va_cpy
    by_cases z : m' * 10 + t' = m * 10 + t
    · have z1 : m' = m ∧ t' = t := by omega
      obtain ⟨rfl, rfl⟩ := z1
      rw [if_pos (by omega), show 0 + ((m' * 10 + t') * 16 + c - (m' * 10 + t') * 16) = c by omega]
      exact e2 c hc
    · rw [if_neg (by omega)]
      have : mI N1 (o + (h + 1)) ((m' * 10 + t') * 16 + c) = mI N (o + (h + 1)) ((m' * 10 + t') * 16 + c) := s1.2.2.2.2 (h + 1) _ (by unfold Zff; omega)
      rw [this]
      exact g.2 c t' m' hc ht' hm' (by omega)
theorem tb_2 (hh : 124 ≤ h) (hC : TC M o P L) (h1 : mt M (o + h) = 1) (h2 : mt M (o + (h + 1)) = 20) (h3 : ml M (o + (h + 1)) = 1600) (h4 : mP M (o + h) 0 = some (o + (h + 1))) (x : PG P L 9 0 (.inr cs)) (hm : m < 10) (g : TBq M N o h cs (m * 10)) : ∃ N', lp_X8_brew_63 o (o + h) (nI m) N = some (.inl (nI (m + 1), N')) ∧ TBq M N' o h cs ((m + 1) * 10) := by
  have loop := itr_J (f := fun s72 : Int32 × QM => lp_X8_brew_72 o (o + h) (nI m) s72.1 s72.2) (s0 := (0, N)) (fun k s => ∃ Mw, s = (nI k, Mw) ∧ k ≤ 10 ∧ TBq M Mw o h cs (m * 10 + k)) (fun r => TBq M r o h cs ((m + 1) * 10)) 10
    ⟨N, rfl, Nat.zero_le _, g⟩
    (fun k s hs => by
      obtain ⟨Mw, rfl, hk, g1⟩ := hs
      show (∃ r, lp_X8_brew_72 o (o + h) (nI m) (nI k) Mw = some (.inr r) ∧ _) ∨ _ ∧ ∃ s', lp_X8_brew_72 o (o + h) (nI m) (nI k) Mw = some (.inl s') ∧ _
      by_cases e : k = 10
      · left
        subst e
        have f : (10 : Int32) ≤ nI 10 := by decide
        refine ⟨Mw, ?_, ?_⟩
        · unfold lp_X8_brew_72
          rw [if_pos f]
        · rw [show (m + 1) * 10 = m * 10 + 10 by omega]; exact g1
      · right
        obtain ⟨N', r1, r2⟩ := tb_1 hh hC h1 h2 h3 h4 x (t := k) (by omega) hm g1
        exact ⟨by omega, _, r1, N', rfl, by omega, r2⟩)
    (by decide)
  obtain ⟨N', r1, r2⟩ := loop
  have f1 : ¬ (10 : Int32) ≤ nI m := by
    have : ¬ nI 10 ≤ nI m := by rw [nI_leI (by omega) (by omega)]; omega
    exact this
  refine ⟨N', ?_, r2⟩
  unfold lp_X8_brew_63
  rw [if_neg f1, r1, bnd_s, nm_eq, nI_1]
theorem tb_3 (hh : 124 ≤ h) (hC : TC M o P L) (h1 : mt M (o + h) = 1) (h2 : mt M (o + (h + 1)) = 20) (h3 : ml M (o + (h + 1)) = 1600) (h4 : mP M (o + h) 0 = some (o + (h + 1))) (x : PG P L 9 0 (.inr cs)) : ∃ N', itr (fun s63 : Int32 × QM => lp_X8_brew_63 o (o + h) s63.1 s63.2) FU (0, M) = some N' ∧ TBq M N' o h cs 100 := by
  have loop := itr_J (f := fun s63 : Int32 × QM => lp_X8_brew_63 o (o + h) s63.1 s63.2) (s0 := (0, M)) (fun k s => ∃ Mw, s = (nI k, Mw) ∧ k ≤ 10 ∧ TBq M Mw o h cs (k * 10)) (fun r => TBq M r o h cs 100) 10
    ⟨M, rfl, Nat.zero_le _, SQ.rfl, fun c t m _ _ _ q => by omega⟩
    (fun k s hs => by
      obtain ⟨Mw, rfl, hk, g1⟩ := hs
      show (∃ r, lp_X8_brew_63 o (o + h) (nI k) Mw = some (.inr r) ∧ _) ∨ _ ∧ ∃ s', lp_X8_brew_63 o (o + h) (nI k) Mw = some (.inl s') ∧ _
      by_cases e : k = 10
      · left
        subst e
        have f : (10 : Int32) ≤ nI 10 := by decide
        refine ⟨Mw, ?_, g1⟩
        unfold lp_X8_brew_63
        rw [if_pos f]
      · right
        obtain ⟨N', r1, r2⟩ := tb_2 hh hC h1 h2 h3 h4 x (m := k) (by omega) g1
        exact ⟨by omega, _, r1, N', rfl, by omega, r2⟩)
    (by decide)
  exact loop
end BW1
