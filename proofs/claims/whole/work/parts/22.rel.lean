/-! ===== what class and reference hold in common: G j k, component j at k ===== -/
abbrev GG : Type := Nat → Nat → Int32
def scT : List (Nat × Nat) := [(2, 1), (1, 2), (1, 3), (5, 4), (9, 4), (13, 4), (0, 2), (0, 3), (53, 1), (56, 1)]
def ksT : List (Nat × Nat) := [(28, 1), (27, 2), (27, 3), (31, 4), (35, 4), (39, 4)]
def smT : List Nat := [1, 0, 29, 33, 38, 39, 44, 7, 9, 64]
def kmT : List Nat := [47, 46, 48, 49, 50, 51]
/-- where the class holds it -/
def cL (j k : Nat) : Nat × Nat :=
  match j with
  | 0 => (3, k) | 1 => scT.getD k (0, 0) | 2 => (17 + 2 * k, 0) | 3 => (17 + 2 * k, 1) | 4 => (17 + 2 * k, 2) | 5 => (18 + 2 * (k / 4), k % 4)
  | 6 => (6, k) | 7 => (7, k) | 8 => (8, k) | 9 => (10, k) | 10 => (11, k) | 11 => (14, k) | 12 => (15, k) | 13 => (54, k) | 14 => (57, k) | 15 => (66 + 2 * k, 0) | 16 => (66 + 2 * k, 1)
  | 20 => (29, k) | 21 => ksT.getD k (0, 0) | 22 => (43 + 2 * k, 0) | 23 => (43 + 2 * k, 1) | 24 => (43 + 2 * k, 2) | 25 => (44 + 2 * (k / 4), k % 4)
  | 26 => (32, k) | 27 => (33, k) | 28 => (34, k) | 29 => (36, k) | 30 => (37, k) | 31 => (40, k) | 32 => (41, k)
  | _ => (0, 0)
/-- where the reference holds it -/
def mL (j k : Nat) : Nat × Nat :=
  match j with
  | 0 => (79, k) | 1 => (78, smT.getD k 0) | 2 => (80, k) | 3 => (81, k) | 4 => (82, k) | 5 => (83, k)
  | 6 => (99, k) | 7 => (100, k) | 8 => (102, k) | 9 => (103, k) | 10 => (104, k) | 11 => (105, k) | 12 => (106, k) | 13 => (84, k) | 14 => (119, k) | 15 => (120, k) | 16 => (121, k)
  | 20 => (107, k) | 21 => (78, kmT.getD k 0) | 22 => (108, k) | 23 => (109, k) | 24 => (110, k) | 25 => (111, k)
  | 26 => (112, k) | 27 => (113, k) | 28 => (118, k) | 29 => (114, k) | 30 => (115, k) | 31 => (116, k) | 32 => (117, k)
  | _ => (0, 0)
def dmT : List Nat := [16, 10, 5, 5, 5, 20, 5, 5, 5, 10, 10, 8, 8, 100, 20, 6, 6, 0, 0, 0, 16, 6, 5, 5, 5, 20, 5, 5, 5, 10, 10, 8, 8]
def dm (j : Nat) : Nat := dmT.getD j 0
def Dom (j k : Nat) : Prop := k < dm j
theorem dm_lt {j k : Nat} (h : k < dm j) : j < 33 := by
  by_cases h1 : j < 33
  · exact h1
  · exfalso
    have : dm j = 0 := by
      unfold dm
      rw [List.getD_eq_getElem?_getD, List.getElem?_eq_none (by show 33 ≤ j; omega)]
      rfl
    omega
def allJ : List (Nat × Nat) := (List.range 33).flatMap (fun j => (List.range (dm j)).map (fun k => (j, k)))
def cV (q : Nat × Nat) : Nat × Nat := (allJ.find? (fun p => cL p.1 p.2 == q)).getD (0, 0)
def mV (q : Nat × Nat) : Nat × Nat := (allJ.find? (fun p => mL p.1 p.2 == q)).getD (0, 0)
theorem cV_cL : ∀ j, j < 33 → ∀ k, k < dm j → cV (cL j k) = (j, k) := by decide +kernel
theorem mV_mL : ∀ j, j < 33 → ∀ k, k < dm j → mV (mL j k) = (j, k) := by decide +kernel
theorem cL_inj (j : Nat) (hj : j < 33) (k : Nat) (hk : k < dm j) (i : Nat) (hi : i < 33) (n : Nat) (hn : n < dm i) (h : cL j k = cL i n) : j = i ∧ k = n := by
  have := (cV_cL j hj k hk).symm.trans ((congrArg cV h).trans (cV_cL i hi n hn))
  exact ⟨congrArg Prod.fst this, congrArg Prod.snd this⟩
theorem mL_inj (j : Nat) (hj : j < 33) (k : Nat) (hk : k < dm j) (i : Nat) (hi : i < 33) (n : Nat) (hn : n < dm i) (h : mL j k = mL i n) : j = i ∧ k = n := by
  have := (mV_mL j hj k hk).symm.trans ((congrArg mV h).trans (mV_mL i hi n hn))
  exact ⟨congrArg Prod.fst this, congrArg Prod.snd this⟩
/-- cells that stand firm, or that the brews have -/
def fx (a k : Nat) : Bool := (a == 78 && (k == 25 || k == 8 || k == 45)) || a == 92 || (k == 0 && (a == 5 || a == 9 || a == 13 || a == 31 || a == 35 || a == 39)) || a == 64 || a == 65 || decide (124 ≤ a) || (decide (85 ≤ a) && decide (a ≤ 90))
theorem cL_ok : ∀ j, j < 33 → ∀ k, k < dm j → (cL j k).1 < 78 ∧ fx (cL j k).1 (cL j k).2 = false := by decide +kernel
theorem mL_ok : ∀ j, j < 33 → ∀ k, k < dm j → (78 ≤ (mL j k).1 ∧ (mL j k).1 < 124) ∧ fx (mL j k).1 (mL j k).2 = false := by decide +kernel
/-- scratch: what calls leave behind there is nobody's -/
def scr (a k : Nat) : Bool := a == 12 || a == 16 || a == 38 || a == 42 || (a == 59 && k == 1) || a == 60 || (a == 61 && decide (k < 3)) || a == 62 || a == 63 || (a == 53 && decide (2 ≤ k)) || a == 55 || (a == 56 && decide (2 ≤ k)) || (a == 78 && (k == 10 || k == 11 || k == 20 || k == 21 || k == 22 || k == 30)) || a == 91 || a == 93 || a == 94 || a == 95 || a == 96 || a == 97 || a == 98 || a == 101
theorem cL_scr : ∀ j, j < 33 → ∀ k, k < dm j → scr (cL j k).1 (cL j k).2 = false := by decide +kernel
theorem mL_scr : ∀ j, j < 33 → ∀ k, k < dm j → scr (mL j k).1 (mL j k).2 = false := by decide +kernel
theorem fx_scr {a k : Nat} (h : fx a k = true) : scr a k = false := by
  unfold fx at h; unfold scr
  simp only [Bool.or_eq_true, Bool.and_eq_true, beq_iff_eq, decide_eq_true_eq] at h
  simp only [Bool.or_eq_false_iff, Bool.and_eq_false_iff, beq_eq_false_iff_ne, decide_eq_false_iff_not]
  omega
/-! the components that are in use -/
def gN (G : GG) (j k : Nat) : Nat := (G j k).toNatClampNeg
def szT : List Nat := [0, 0, 2, 2, 2, 2, 4, 4, 4, 5, 5, 6, 6, 9, 10, 0, 0, 0, 0, 0, 0, 0, 12, 12, 12, 12, 14, 14, 14, 15, 15, 16, 16]
/-- how many of component j are in use -/
def szv (G : GG) (j : Nat) : Nat := if szT.getD j 0 = 0 then 1000 else if szT.getD j 0 ≤ 10 then gN G 1 (szT.getD j 0 - 1) else gN G 21 (szT.getD j 0 - 11)
def kk4 (j k : Nat) : Nat := if j = 5 ∨ j = 25 then k / 4 else k
def Lv (G : GG) (j k : Nat) : Prop := k < dm j ∧ kk4 j k < szv G j ∧ (j = 10 → ¬ G 9 k = 0) ∧ (j = 30 → ¬ G 29 k = 0)
/-- all that P names is held where L says -/
def RD (L : Nat → Nat → Nat × Nat) (M : QM) (o : Nat) (P : Nat → Nat → Prop) (G : GG) : Prop := ∀ j k, P j k → mI M (o + (L j k).1) (L j k).2 = G j k
def Pu (P : Nat → Nat → Prop) (j0 k0 : Nat) : Nat → Nat → Prop := fun j k => (j = j0 ∧ k = k0) ∨ P j k
def Gu (G : GG) (j0 k0 : Nat) (v : Int32) : GG := u2 G j0 k0 v
theorem RD_c {M : QM} {o : Nat} {P : Nat → Nat → Prop} {G : GG} {j0 k0 : Nat} {v : Int32} (hP : ∀ j k, P j k → k < dm j) (h0 : k0 < dm j0) (h : RD cL M o P G) : RD cL (sI M (o + (cL j0 k0).1) (cL j0 k0).2 v) o (Pu P j0 k0) (Gu G j0 k0 v) := by
  intro j k hp
  rw [mI_sI]
  unfold Gu u2
  by_cases hj : j = j0 ∧ k = k0
  · rw [hj.1, hj.2, if_pos ⟨rfl, rfl⟩, if_pos ⟨rfl, rfl⟩]
  · rw [if_neg hj]
    have hp' : P j k := by rcases hp with hp | hp; exact absurd hp hj; exact hp
    rw [if_neg, h j k hp']
    intro q
    have hq : cL j k = cL j0 k0 := Prod.ext (by have := q.1; omega) q.2
    exact hj (cL_inj j (dm_lt (hP j k hp')) k (hP j k hp') j0 (dm_lt h0) k0 h0 hq)
theorem RD_m {M : QM} {o : Nat} {P : Nat → Nat → Prop} {G : GG} {j0 k0 : Nat} {v : Int32} (hP : ∀ j k, P j k → k < dm j) (h0 : k0 < dm j0) (h : RD mL M o P G) : RD mL (sI M (o + (mL j0 k0).1) (mL j0 k0).2 v) o (Pu P j0 k0) (Gu G j0 k0 v) := by
  intro j k hp
  rw [mI_sI]
  unfold Gu u2
  by_cases hj : j = j0 ∧ k = k0
  · rw [hj.1, hj.2, if_pos ⟨rfl, rfl⟩, if_pos ⟨rfl, rfl⟩]
  · rw [if_neg hj]
    have hp' : P j k := by rcases hp with hp | hp; exact absurd hp hj; exact hp
    rw [if_neg, h j k hp']
    intro q
    have hq : mL j k = mL j0 k0 := Prod.ext (by have := q.1; omega) q.2
    exact hj (mL_inj j (dm_lt (hP j k hp')) k (hP j k hp') j0 (dm_lt h0) k0 h0 hq)
/-- writes that reach none of it -/
theorem RD_far {L : Nat → Nat → Nat × Nat} {M M' : QM} {o : Nat} {P : Nat → Nat → Prop} {G : GG} (h : RD L M o P G) (hk : ∀ j k, P j k → mI M' (o + (L j k).1) (L j k).2 = mI M (o + (L j k).1) (L j k).2) : RD L M' o P G := fun j k hp => (hk j k hp).trans (h j k hp)
/-! the brews -/
def enc : Nat → Int32
  | 0 => -33
  | 1 => -38
  | 2 => -124
  | k + 3 => nI k
def factV (f c t m : Nat) : Nat := match f with | 0 => c | 1 => c / 4 | 2 => c % 4 | 3 => t | 4 => (if c / 4 % 3 = 0 ∨ c % 4 % 3 = 0 then 1 else 0) | _ => m
def testV (k c t m : Nat) : Bool := if k / 100 % 10 = 0 then decide (factV (k / 1000) c t m < k % 100) else if k / 100 % 10 = 1 then decide (factV (k / 1000) c t m = k % 100) else decide (k % 100 < factV (k / 1000) c t m)
def evT (c t m : Nat) (st : List Bool) (s : Nat) : Option (List Bool) :=
  match s, st with
  | 0, b :: r => some ((!b) :: r)
  | 1, b :: a :: r => some ((a && b) :: r)
  | 2, b :: a :: r => some ((a || b) :: r)
  | k + 3, st => some (testV k c t m :: st)
  | _, _ => none
def evL (c t m : Nat) : List Nat → List Bool → Option (List Bool)
  | [], st => some st
  | s :: r, st => match evT c t m st s with | some st' => evL c t m r st' | none => none
/-- a clause: its word, its number, its test -/
abbrev CLA : Type := Nat × Nat × List Nat
def grV (c t m : Nat) : List CLA → Int32 → Option Int32
  | [], z => some z
  | q :: r, z => if 1 < q.1 then grV c t m r z else (match evL c t m q.2.2 [] with | some [b] => grV c t m r (if b then (if q.1 = 0 then z + nI q.2.1 else z + -nI q.2.1) else z) | _ => none)
def laV (w : Nat) : List CLA → Nat → Nat
  | [], z => z
  | q :: r, z => laV w r (if q.1 = w then q.2.1 else z)
/-- the reference's rows hold the clauses of its text b -/
def CLR (r85 r86 r87 r88 r89 r90 : Nat → Int32) (b : Nat) (cl : List CLA) : Prop := cl.length ≤ 10 ∧ r85 b = nI cl.length ∧ ∀ i q, cl[i]? = some q → q.1 ≤ 3 ∧ q.2.1 ≤ 99 ∧ r86 (10 * b + i) = nI q.1 ∧ r87 (10 * b + i) = nI q.2.1 ∧ (q.1 ≤ 1 → ∃ f, q.2.2.length ≤ 100 ∧ f + q.2.2.length ≤ 100 * (b + 1) ∧ r88 (10 * b + i) = nI f ∧ r89 (10 * b + i) = nI (f + q.2.2.length) ∧ ∀ k s, q.2.2[k]? = some s → (s ≤ 6002 ∧ r90 (f + k) = enc s))
/-- the class's table is what the clauses come to -/
def CLV (cl : List CLA) (g : Nat → Int32) : Prop := (∀ c t m, c < 16 → t < 10 → m < 10 → grV c t m cl 2 = some (g ((m * 10 + t) * 16 + c))) ∧ g 1600 = nI (laV 2 cl 99) ∧ g 1601 = nI (laV 3 cl 10)
def hA (x : Nat) : Nat := if x = 0 then 64 else 122 + 2 * x
def BRW (M : QM) (o : Nat) (G : GG) : Prop := ∃ nb e e2 : Nat, (nb ≤ 6 ∧ e ≤ nb ∧ e2 ≤ nb) ∧ (G 1 7 = nI nb ∧ G 1 10 = nI e ∧ G 21 10 = nI e2) ∧ mz M = o + (124 + 2 * nb) ∧ (mP M (o + 1) 7 = some (o + hA e) ∧ mP M (o + 27) 7 = some (o + hA e2)) ∧ (mI M (o + 78) 8 = nI e - 1 ∧ mI M (o + 78) 45 = nI e2 - 1) ∧
  ∀ x, x ≤ nb → (M.2.1 (o + hA x) = (1, 0) ∧ M.2.1 (o + (hA x + 1)) = (20, 1600) ∧ mP M (o + hA x) 0 = some (o + (hA x + 1))) ∧ ((∀ i, i < 1600 → mI M (o + (hA x + 1)) i = G (50 + x) i) ∧ mI M (o + hA x) 1 = G (50 + x) 1600 ∧ mI M (o + hA x) 2 = G (50 + x) 1601) ∧ ∃ cl : List CLA, CLV cl (G (50 + x)) ∧ (x = 0 → cl = []) ∧ ∀ b, x = b + 1 → CLR (mI M (o + 85)) (mI M (o + 86)) (mI M (o + 87)) (mI M (o + 88)) (mI M (o + 89)) (mI M (o + 90)) b cl
def letT : List Int32 := [116, 104, 105, 99, 107, 116, 104, 105, 110, 115, 112, 111, 111, 110, 109, 105, 108, 107]
def FIX (M : QM) (o : Nat) : Prop := mI M (o + 78) 25 = 0 ∧ (∀ k, k < 18 → mI M (o + 92) k = letT.getD k 0) ∧ (mI M (o + 5) 0 = 5 ∧ mI M (o + 9) 0 = 10 ∧ mI M (o + 13) 0 = 8) ∧ (mI M (o + 31) 0 = 5 ∧ mI M (o + 35) 0 = 10 ∧ mI M (o + 39) 0 = 8)
def TAP (M : QM) (o : Nat) : Prop := ∀ t k, t < 6 → k < 60 → mJ M (o + (67 + 2 * t)) k = mJ M (o + 122) (60 * t + k)
/-! bounds -/
def b1T : List Nat := [9999, 5, 65535, 5, 10, 8, 1, 6, 100, 100]
def bT : List Nat := [99, 0, 6, 9, 99, 9, 4, 20, 1, 2, 15, 15, 99, 127, 99, 0, 60, 0, 0, 0, 99, 0, 6, 9, 99, 9, 4, 20, 1, 2, 15, 15, 99]
def bo (j k : Nat) : Nat := if j = 1 ∨ j = 21 then b1T.getD k 0 else bT.getD j 0
def WF (G : GG) : Prop := (∀ j k, Lv G j k → ¬ j = 15 → bd (G j k) (bo j k)) ∧ ((∀ k, Lv G 6 k → gN G 6 k < gN G 1 1) ∧ (∀ k, Lv G 26 k → gN G 26 k < gN G 21 1)) ∧ ∀ t, t < 6 → (G 15 t = -1 ∨ bd (G 15 t) 4) ∧ (G 15 t = -1 → G 16 t = 0)
/-- all, without the bounds, for what P names -/
def RC (P : Nat → Nat → Prop) (M : QM) (o : Nat) (G : GG) : Prop := SHP M o ∧ RD cL M o P G ∧ RD mL M o P G ∧ TAP M o ∧ FIX M o ∧ BRW M o G
def RR (M : QM) (o : Nat) (G : GG) : Prop := RC (Lv G) M o G ∧ WF G
