/-! ===== the shape of the memory: printed by lay2.py ===== -/
def shT : List (Nat × Nat) := [(8, 0), (5, 0), (2, 0), (20, 16), (26, 5), (4, 0), (20, 5), (20, 5), (20, 5), (4, 0), (20, 10), (20, 10), (20, 10), (4, 0), (20, 8), (20, 8), (20, 8), (7, 0), (20, 4), (7, 0), (20, 4), (7, 0), (20, 4), (7, 0), (20, 4), (7, 0), (20, 4), (5, 0), (2, 0), (20, 16), (26, 5), (4, 0), (20, 5), (20, 5), (20, 5), (4, 0), (20, 10), (20, 10), (20, 10), (4, 0), (20, 8), (20, 8), (20, 8), (7, 0), (20, 4), (7, 0), (20, 4), (7, 0), (20, 4), (7, 0), (20, 4), (7, 0), (20, 4), (3, 0), (22, 100), (20, 16), (0, 0), (20, 20), (25, 6), (2, 0), (20, 16), (7, 0), (20, 4), (21, 100), (1, 0), (20, 1600), (6, 0), (24, 60), (6, 0), (24, 60), (6, 0), (24, 60), (6, 0), (24, 60), (6, 0), (24, 60), (6, 0), (24, 60), (9, 0), (20, 16), (20, 5), (20, 5), (20, 5), (20, 20), (20, 100), (20, 6), (20, 60), (20, 60), (20, 60), (20, 60), (20, 600), (20, 101), (20, 18), (21, 100), (20, 16), (20, 16), (21, 16), (20, 16), (20, 16), (20, 5), (20, 5), (20, 80), (21, 5), (20, 10), (20, 10), (20, 8), (20, 8), (20, 16), (20, 5), (20, 5), (20, 5), (20, 20), (20, 5), (20, 5), (20, 10), (20, 10), (20, 8), (20, 8), (21, 5), (20, 20), (20, 6), (20, 6), (24, 360), (24, 60)]
def ptT : List (Nat × Nat × Nat) := [(0, 0, 1), (0, 1, 27), (0, 4, 53), (0, 5, 56), (0, 6, 58), (0, 7, 59), (0, 8, 61), (0, 9, 63), (1, 0, 2), (1, 1, 4), (1, 4, 5), (1, 5, 9), (1, 6, 13), (2, 0, 3), (4, 0, 17), (4, 1, 19), (4, 2, 21), (4, 3, 23), (4, 4, 25), (5, 1, 6), (5, 2, 7), (5, 3, 8), (9, 1, 10), (9, 2, 11), (9, 3, 12), (13, 1, 14), (13, 2, 15), (13, 3, 16), (17, 3, 18), (19, 3, 20), (21, 3, 22), (23, 3, 24), (25, 3, 26), (27, 0, 28), (27, 1, 30), (27, 4, 31), (27, 5, 35), (27, 6, 39), (28, 0, 29), (30, 0, 43), (30, 1, 45), (30, 2, 47), (30, 3, 49), (30, 4, 51), (31, 1, 32), (31, 2, 33), (31, 3, 34), (35, 1, 36), (35, 2, 37), (35, 3, 38), (39, 1, 40), (39, 2, 41), (39, 3, 42), (43, 3, 44), (45, 3, 46), (47, 3, 48), (49, 3, 50), (51, 3, 52), (53, 0, 54), (53, 6, 55), (56, 0, 57), (58, 0, 66), (58, 1, 68), (58, 2, 70), (58, 3, 72), (58, 4, 74), (58, 5, 76), (59, 0, 60), (61, 3, 62), (64, 0, 65), (66, 2, 67), (68, 2, 69), (70, 2, 71), (72, 2, 73), (74, 2, 75), (76, 2, 77), (78, 2, 79), (78, 3, 80), (78, 4, 81), (78, 5, 82), (78, 6, 83), (78, 12, 84), (78, 13, 85), (78, 14, 86), (78, 15, 87), (78, 16, 88), (78, 17, 89), (78, 18, 90), (78, 19, 91), (78, 23, 92), (78, 24, 93), (78, 26, 94), (78, 27, 95), (78, 28, 96), (78, 31, 97), (78, 32, 98), (78, 34, 99), (78, 35, 100), (78, 36, 101), (78, 37, 102), (78, 40, 103), (78, 41, 104), (78, 42, 105), (78, 43, 106), (78, 52, 107), (78, 53, 108), (78, 54, 109), (78, 55, 110), (78, 56, 111), (78, 57, 112), (78, 58, 113), (78, 59, 114), (78, 60, 115), (78, 61, 116), (78, 62, 117), (78, 63, 118), (78, 65, 119), (78, 66, 120), (78, 67, 121), (78, 68, 122), (78, 69, 123)]
def SHP (M : QM) (o : Nat) : Prop := (∀ i, i < 124 → M.2.1 (o + i) = shT.getD i (99, 0)) ∧ ∀ q ∈ ptT, mP M (o + q.1) q.2.1 = some (o + q.2.2)
section SH1
variable {α : Type} {M : QM} {o a k b n i : Nat} {v : Int32} {w : Int64} {r : Nat → Int32} {s : Nat → Int64}
theorem SHP_sI : SHP (sI M a k v) o ↔ SHP M o := Iff.rfl
theorem SHP_sJ : SHP (sJ M a k w) o ↔ SHP M o := Iff.rfl
theorem SHP_rI : SHP (rI M a r) o ↔ SHP M o := Iff.rfl
theorem SHP_rJ : SHP (rJ M a s) o ↔ SHP M o := Iff.rfl
theorem SHP.eq {M' : QM} (h : SHP M o) (h1 : M'.2.1 = M.2.1) (h2 : ∀ a k, mP M' a k = mP M a k) : SHP M' o := ⟨fun i hi => by rw [h1]; exact h.1 i hi, fun q hq => by rw [h2]; exact h.2 q hq⟩
theorem SHP.mt (h : SHP M o) (a : Nat) {c n : Nat} (ha : a < 124) (e : shT.getD a (99, 0) = (c, n)) : mt M (o + a) = c := by
  show (M.2.1 (o + a)).1 = c
  rw [h.1 a ha, e]
theorem SHP.ml (h : SHP M o) (a : Nat) {c n : Nat} (ha : a < 124) (e : shT.getD a (99, 0) = (c, n)) : ml M (o + a) = n := by
  show (M.2.1 (o + a)).2 = n
  rw [h.1 a ha, e]
theorem SHP.gP {f : Nat → Option α} (h : SHP M o) (a k b : Nat) {c n : Nat} (ha : a < 124) (e : shT.getD a (99, 0) = (c, n)) (hp : (a, k, b) ∈ ptT) : gR M (o + a) c k f = f (o + b) := gR_e (h.mt a ha e) (h.2 _ hp)
theorem SHP.aP {f : Nat → Option α} (h : SHP M o) (a i b : Nat) {c n : Nat} (ha : a < 124) (e : shT.getD a (99, 0) = (c, n)) (hp : (a, i, b) ∈ ptT) (hi : i < n) (hn : n ≤ 2000) : aR M c (o + a) (nI i) f = f (o + b) := aR_e (h.mt a ha e) (by rw [h.ml a ha e]; exact hi) (by rw [h.ml a ha e]; exact hn) (h.2 _ hp)
theorem mt_0 (h : SHP M o) : mt M o = 8 := h.mt 0 (by decide) rfl
theorem mt_1 (h : SHP M o) : mt M (o + 1) = 5 := h.mt 1 (by decide) rfl
theorem mt_2 (h : SHP M o) : mt M (o + 2) = 2 := h.mt 2 (by decide) rfl
theorem mt_3 (h : SHP M o) : mt M (o + 3) = 20 := h.mt 3 (by decide) rfl
theorem ml_3 (h : SHP M o) : ml M (o + 3) = 16 := h.ml 3 (by decide) rfl
theorem mt_4 (h : SHP M o) : mt M (o + 4) = 26 := h.mt 4 (by decide) rfl
theorem ml_4 (h : SHP M o) : ml M (o + 4) = 5 := h.ml 4 (by decide) rfl
theorem mt_5 (h : SHP M o) : mt M (o + 5) = 4 := h.mt 5 (by decide) rfl
theorem mt_6 (h : SHP M o) : mt M (o + 6) = 20 := h.mt 6 (by decide) rfl
theorem ml_6 (h : SHP M o) : ml M (o + 6) = 5 := h.ml 6 (by decide) rfl
theorem mt_7 (h : SHP M o) : mt M (o + 7) = 20 := h.mt 7 (by decide) rfl
theorem ml_7 (h : SHP M o) : ml M (o + 7) = 5 := h.ml 7 (by decide) rfl
theorem mt_8 (h : SHP M o) : mt M (o + 8) = 20 := h.mt 8 (by decide) rfl
theorem ml_8 (h : SHP M o) : ml M (o + 8) = 5 := h.ml 8 (by decide) rfl
theorem mt_9 (h : SHP M o) : mt M (o + 9) = 4 := h.mt 9 (by decide) rfl
theorem mt_10 (h : SHP M o) : mt M (o + 10) = 20 := h.mt 10 (by decide) rfl
theorem ml_10 (h : SHP M o) : ml M (o + 10) = 10 := h.ml 10 (by decide) rfl
theorem mt_11 (h : SHP M o) : mt M (o + 11) = 20 := h.mt 11 (by decide) rfl
theorem ml_11 (h : SHP M o) : ml M (o + 11) = 10 := h.ml 11 (by decide) rfl
theorem mt_12 (h : SHP M o) : mt M (o + 12) = 20 := h.mt 12 (by decide) rfl
theorem ml_12 (h : SHP M o) : ml M (o + 12) = 10 := h.ml 12 (by decide) rfl
theorem mt_13 (h : SHP M o) : mt M (o + 13) = 4 := h.mt 13 (by decide) rfl
theorem mt_14 (h : SHP M o) : mt M (o + 14) = 20 := h.mt 14 (by decide) rfl
theorem ml_14 (h : SHP M o) : ml M (o + 14) = 8 := h.ml 14 (by decide) rfl
theorem mt_15 (h : SHP M o) : mt M (o + 15) = 20 := h.mt 15 (by decide) rfl
theorem ml_15 (h : SHP M o) : ml M (o + 15) = 8 := h.ml 15 (by decide) rfl
theorem mt_16 (h : SHP M o) : mt M (o + 16) = 20 := h.mt 16 (by decide) rfl
theorem ml_16 (h : SHP M o) : ml M (o + 16) = 8 := h.ml 16 (by decide) rfl
theorem mt_17 (h : SHP M o) : mt M (o + 17) = 7 := h.mt 17 (by decide) rfl
theorem mt_18 (h : SHP M o) : mt M (o + 18) = 20 := h.mt 18 (by decide) rfl
theorem ml_18 (h : SHP M o) : ml M (o + 18) = 4 := h.ml 18 (by decide) rfl
theorem mt_19 (h : SHP M o) : mt M (o + 19) = 7 := h.mt 19 (by decide) rfl
theorem mt_20 (h : SHP M o) : mt M (o + 20) = 20 := h.mt 20 (by decide) rfl
theorem ml_20 (h : SHP M o) : ml M (o + 20) = 4 := h.ml 20 (by decide) rfl
theorem mt_21 (h : SHP M o) : mt M (o + 21) = 7 := h.mt 21 (by decide) rfl
theorem mt_22 (h : SHP M o) : mt M (o + 22) = 20 := h.mt 22 (by decide) rfl
theorem ml_22 (h : SHP M o) : ml M (o + 22) = 4 := h.ml 22 (by decide) rfl
theorem mt_23 (h : SHP M o) : mt M (o + 23) = 7 := h.mt 23 (by decide) rfl
theorem mt_24 (h : SHP M o) : mt M (o + 24) = 20 := h.mt 24 (by decide) rfl
theorem ml_24 (h : SHP M o) : ml M (o + 24) = 4 := h.ml 24 (by decide) rfl
theorem mt_25 (h : SHP M o) : mt M (o + 25) = 7 := h.mt 25 (by decide) rfl
theorem mt_26 (h : SHP M o) : mt M (o + 26) = 20 := h.mt 26 (by decide) rfl
theorem ml_26 (h : SHP M o) : ml M (o + 26) = 4 := h.ml 26 (by decide) rfl
theorem mt_27 (h : SHP M o) : mt M (o + 27) = 5 := h.mt 27 (by decide) rfl
theorem mt_28 (h : SHP M o) : mt M (o + 28) = 2 := h.mt 28 (by decide) rfl
theorem mt_29 (h : SHP M o) : mt M (o + 29) = 20 := h.mt 29 (by decide) rfl
theorem ml_29 (h : SHP M o) : ml M (o + 29) = 16 := h.ml 29 (by decide) rfl
theorem mt_30 (h : SHP M o) : mt M (o + 30) = 26 := h.mt 30 (by decide) rfl
theorem ml_30 (h : SHP M o) : ml M (o + 30) = 5 := h.ml 30 (by decide) rfl
theorem mt_31 (h : SHP M o) : mt M (o + 31) = 4 := h.mt 31 (by decide) rfl
theorem mt_32 (h : SHP M o) : mt M (o + 32) = 20 := h.mt 32 (by decide) rfl
theorem ml_32 (h : SHP M o) : ml M (o + 32) = 5 := h.ml 32 (by decide) rfl
theorem mt_33 (h : SHP M o) : mt M (o + 33) = 20 := h.mt 33 (by decide) rfl
theorem ml_33 (h : SHP M o) : ml M (o + 33) = 5 := h.ml 33 (by decide) rfl
theorem mt_34 (h : SHP M o) : mt M (o + 34) = 20 := h.mt 34 (by decide) rfl
theorem ml_34 (h : SHP M o) : ml M (o + 34) = 5 := h.ml 34 (by decide) rfl
theorem mt_35 (h : SHP M o) : mt M (o + 35) = 4 := h.mt 35 (by decide) rfl
theorem mt_36 (h : SHP M o) : mt M (o + 36) = 20 := h.mt 36 (by decide) rfl
theorem ml_36 (h : SHP M o) : ml M (o + 36) = 10 := h.ml 36 (by decide) rfl
theorem mt_37 (h : SHP M o) : mt M (o + 37) = 20 := h.mt 37 (by decide) rfl
theorem ml_37 (h : SHP M o) : ml M (o + 37) = 10 := h.ml 37 (by decide) rfl
theorem mt_38 (h : SHP M o) : mt M (o + 38) = 20 := h.mt 38 (by decide) rfl
theorem ml_38 (h : SHP M o) : ml M (o + 38) = 10 := h.ml 38 (by decide) rfl
theorem mt_39 (h : SHP M o) : mt M (o + 39) = 4 := h.mt 39 (by decide) rfl
theorem mt_40 (h : SHP M o) : mt M (o + 40) = 20 := h.mt 40 (by decide) rfl
theorem ml_40 (h : SHP M o) : ml M (o + 40) = 8 := h.ml 40 (by decide) rfl
theorem mt_41 (h : SHP M o) : mt M (o + 41) = 20 := h.mt 41 (by decide) rfl
theorem ml_41 (h : SHP M o) : ml M (o + 41) = 8 := h.ml 41 (by decide) rfl
theorem mt_42 (h : SHP M o) : mt M (o + 42) = 20 := h.mt 42 (by decide) rfl
theorem ml_42 (h : SHP M o) : ml M (o + 42) = 8 := h.ml 42 (by decide) rfl
theorem mt_43 (h : SHP M o) : mt M (o + 43) = 7 := h.mt 43 (by decide) rfl
theorem mt_44 (h : SHP M o) : mt M (o + 44) = 20 := h.mt 44 (by decide) rfl
theorem ml_44 (h : SHP M o) : ml M (o + 44) = 4 := h.ml 44 (by decide) rfl
theorem mt_45 (h : SHP M o) : mt M (o + 45) = 7 := h.mt 45 (by decide) rfl
theorem mt_46 (h : SHP M o) : mt M (o + 46) = 20 := h.mt 46 (by decide) rfl
theorem ml_46 (h : SHP M o) : ml M (o + 46) = 4 := h.ml 46 (by decide) rfl
theorem mt_47 (h : SHP M o) : mt M (o + 47) = 7 := h.mt 47 (by decide) rfl
theorem mt_48 (h : SHP M o) : mt M (o + 48) = 20 := h.mt 48 (by decide) rfl
theorem ml_48 (h : SHP M o) : ml M (o + 48) = 4 := h.ml 48 (by decide) rfl
theorem mt_49 (h : SHP M o) : mt M (o + 49) = 7 := h.mt 49 (by decide) rfl
theorem mt_50 (h : SHP M o) : mt M (o + 50) = 20 := h.mt 50 (by decide) rfl
theorem ml_50 (h : SHP M o) : ml M (o + 50) = 4 := h.ml 50 (by decide) rfl
theorem mt_51 (h : SHP M o) : mt M (o + 51) = 7 := h.mt 51 (by decide) rfl
theorem mt_52 (h : SHP M o) : mt M (o + 52) = 20 := h.mt 52 (by decide) rfl
theorem ml_52 (h : SHP M o) : ml M (o + 52) = 4 := h.ml 52 (by decide) rfl
theorem mt_53 (h : SHP M o) : mt M (o + 53) = 3 := h.mt 53 (by decide) rfl
theorem mt_54 (h : SHP M o) : mt M (o + 54) = 22 := h.mt 54 (by decide) rfl
theorem ml_54 (h : SHP M o) : ml M (o + 54) = 100 := h.ml 54 (by decide) rfl
theorem mt_55 (h : SHP M o) : mt M (o + 55) = 20 := h.mt 55 (by decide) rfl
theorem ml_55 (h : SHP M o) : ml M (o + 55) = 16 := h.ml 55 (by decide) rfl
theorem mt_56 (h : SHP M o) : mt M (o + 56) = 0 := h.mt 56 (by decide) rfl
theorem mt_57 (h : SHP M o) : mt M (o + 57) = 20 := h.mt 57 (by decide) rfl
theorem ml_57 (h : SHP M o) : ml M (o + 57) = 20 := h.ml 57 (by decide) rfl
theorem mt_58 (h : SHP M o) : mt M (o + 58) = 25 := h.mt 58 (by decide) rfl
theorem ml_58 (h : SHP M o) : ml M (o + 58) = 6 := h.ml 58 (by decide) rfl
theorem mt_59 (h : SHP M o) : mt M (o + 59) = 2 := h.mt 59 (by decide) rfl
theorem mt_60 (h : SHP M o) : mt M (o + 60) = 20 := h.mt 60 (by decide) rfl
theorem ml_60 (h : SHP M o) : ml M (o + 60) = 16 := h.ml 60 (by decide) rfl
theorem mt_61 (h : SHP M o) : mt M (o + 61) = 7 := h.mt 61 (by decide) rfl
theorem mt_62 (h : SHP M o) : mt M (o + 62) = 20 := h.mt 62 (by decide) rfl
theorem ml_62 (h : SHP M o) : ml M (o + 62) = 4 := h.ml 62 (by decide) rfl
theorem mt_63 (h : SHP M o) : mt M (o + 63) = 21 := h.mt 63 (by decide) rfl
theorem ml_63 (h : SHP M o) : ml M (o + 63) = 100 := h.ml 63 (by decide) rfl
theorem mt_64 (h : SHP M o) : mt M (o + 64) = 1 := h.mt 64 (by decide) rfl
theorem mt_65 (h : SHP M o) : mt M (o + 65) = 20 := h.mt 65 (by decide) rfl
theorem ml_65 (h : SHP M o) : ml M (o + 65) = 1600 := h.ml 65 (by decide) rfl
theorem mt_66 (h : SHP M o) : mt M (o + 66) = 6 := h.mt 66 (by decide) rfl
theorem mt_67 (h : SHP M o) : mt M (o + 67) = 24 := h.mt 67 (by decide) rfl
theorem ml_67 (h : SHP M o) : ml M (o + 67) = 60 := h.ml 67 (by decide) rfl
theorem mt_68 (h : SHP M o) : mt M (o + 68) = 6 := h.mt 68 (by decide) rfl
theorem mt_69 (h : SHP M o) : mt M (o + 69) = 24 := h.mt 69 (by decide) rfl
theorem ml_69 (h : SHP M o) : ml M (o + 69) = 60 := h.ml 69 (by decide) rfl
theorem mt_70 (h : SHP M o) : mt M (o + 70) = 6 := h.mt 70 (by decide) rfl
theorem mt_71 (h : SHP M o) : mt M (o + 71) = 24 := h.mt 71 (by decide) rfl
theorem ml_71 (h : SHP M o) : ml M (o + 71) = 60 := h.ml 71 (by decide) rfl
theorem mt_72 (h : SHP M o) : mt M (o + 72) = 6 := h.mt 72 (by decide) rfl
theorem mt_73 (h : SHP M o) : mt M (o + 73) = 24 := h.mt 73 (by decide) rfl
theorem ml_73 (h : SHP M o) : ml M (o + 73) = 60 := h.ml 73 (by decide) rfl
theorem mt_74 (h : SHP M o) : mt M (o + 74) = 6 := h.mt 74 (by decide) rfl
theorem mt_75 (h : SHP M o) : mt M (o + 75) = 24 := h.mt 75 (by decide) rfl
theorem ml_75 (h : SHP M o) : ml M (o + 75) = 60 := h.ml 75 (by decide) rfl
theorem mt_76 (h : SHP M o) : mt M (o + 76) = 6 := h.mt 76 (by decide) rfl
theorem mt_77 (h : SHP M o) : mt M (o + 77) = 24 := h.mt 77 (by decide) rfl
theorem ml_77 (h : SHP M o) : ml M (o + 77) = 60 := h.ml 77 (by decide) rfl
theorem mt_78 (h : SHP M o) : mt M (o + 78) = 9 := h.mt 78 (by decide) rfl
theorem mt_79 (h : SHP M o) : mt M (o + 79) = 20 := h.mt 79 (by decide) rfl
theorem ml_79 (h : SHP M o) : ml M (o + 79) = 16 := h.ml 79 (by decide) rfl
theorem mt_80 (h : SHP M o) : mt M (o + 80) = 20 := h.mt 80 (by decide) rfl
theorem ml_80 (h : SHP M o) : ml M (o + 80) = 5 := h.ml 80 (by decide) rfl
theorem mt_81 (h : SHP M o) : mt M (o + 81) = 20 := h.mt 81 (by decide) rfl
theorem ml_81 (h : SHP M o) : ml M (o + 81) = 5 := h.ml 81 (by decide) rfl
theorem mt_82 (h : SHP M o) : mt M (o + 82) = 20 := h.mt 82 (by decide) rfl
theorem ml_82 (h : SHP M o) : ml M (o + 82) = 5 := h.ml 82 (by decide) rfl
theorem mt_83 (h : SHP M o) : mt M (o + 83) = 20 := h.mt 83 (by decide) rfl
theorem ml_83 (h : SHP M o) : ml M (o + 83) = 20 := h.ml 83 (by decide) rfl
theorem mt_84 (h : SHP M o) : mt M (o + 84) = 20 := h.mt 84 (by decide) rfl
theorem ml_84 (h : SHP M o) : ml M (o + 84) = 100 := h.ml 84 (by decide) rfl
theorem mt_85 (h : SHP M o) : mt M (o + 85) = 20 := h.mt 85 (by decide) rfl
theorem ml_85 (h : SHP M o) : ml M (o + 85) = 6 := h.ml 85 (by decide) rfl
theorem mt_86 (h : SHP M o) : mt M (o + 86) = 20 := h.mt 86 (by decide) rfl
theorem ml_86 (h : SHP M o) : ml M (o + 86) = 60 := h.ml 86 (by decide) rfl
theorem mt_87 (h : SHP M o) : mt M (o + 87) = 20 := h.mt 87 (by decide) rfl
theorem ml_87 (h : SHP M o) : ml M (o + 87) = 60 := h.ml 87 (by decide) rfl
theorem mt_88 (h : SHP M o) : mt M (o + 88) = 20 := h.mt 88 (by decide) rfl
theorem ml_88 (h : SHP M o) : ml M (o + 88) = 60 := h.ml 88 (by decide) rfl
theorem mt_89 (h : SHP M o) : mt M (o + 89) = 20 := h.mt 89 (by decide) rfl
theorem ml_89 (h : SHP M o) : ml M (o + 89) = 60 := h.ml 89 (by decide) rfl
theorem mt_90 (h : SHP M o) : mt M (o + 90) = 20 := h.mt 90 (by decide) rfl
theorem ml_90 (h : SHP M o) : ml M (o + 90) = 600 := h.ml 90 (by decide) rfl
theorem mt_91 (h : SHP M o) : mt M (o + 91) = 20 := h.mt 91 (by decide) rfl
theorem ml_91 (h : SHP M o) : ml M (o + 91) = 101 := h.ml 91 (by decide) rfl
theorem mt_92 (h : SHP M o) : mt M (o + 92) = 20 := h.mt 92 (by decide) rfl
theorem ml_92 (h : SHP M o) : ml M (o + 92) = 18 := h.ml 92 (by decide) rfl
theorem mt_93 (h : SHP M o) : mt M (o + 93) = 21 := h.mt 93 (by decide) rfl
theorem ml_93 (h : SHP M o) : ml M (o + 93) = 100 := h.ml 93 (by decide) rfl
theorem mt_94 (h : SHP M o) : mt M (o + 94) = 20 := h.mt 94 (by decide) rfl
theorem ml_94 (h : SHP M o) : ml M (o + 94) = 16 := h.ml 94 (by decide) rfl
theorem mt_95 (h : SHP M o) : mt M (o + 95) = 20 := h.mt 95 (by decide) rfl
theorem ml_95 (h : SHP M o) : ml M (o + 95) = 16 := h.ml 95 (by decide) rfl
theorem mt_96 (h : SHP M o) : mt M (o + 96) = 21 := h.mt 96 (by decide) rfl
theorem ml_96 (h : SHP M o) : ml M (o + 96) = 16 := h.ml 96 (by decide) rfl
theorem mt_97 (h : SHP M o) : mt M (o + 97) = 20 := h.mt 97 (by decide) rfl
theorem ml_97 (h : SHP M o) : ml M (o + 97) = 16 := h.ml 97 (by decide) rfl
theorem mt_98 (h : SHP M o) : mt M (o + 98) = 20 := h.mt 98 (by decide) rfl
theorem ml_98 (h : SHP M o) : ml M (o + 98) = 16 := h.ml 98 (by decide) rfl
theorem mt_99 (h : SHP M o) : mt M (o + 99) = 20 := h.mt 99 (by decide) rfl
theorem ml_99 (h : SHP M o) : ml M (o + 99) = 5 := h.ml 99 (by decide) rfl
theorem mt_100 (h : SHP M o) : mt M (o + 100) = 20 := h.mt 100 (by decide) rfl
theorem ml_100 (h : SHP M o) : ml M (o + 100) = 5 := h.ml 100 (by decide) rfl
theorem mt_101 (h : SHP M o) : mt M (o + 101) = 20 := h.mt 101 (by decide) rfl
theorem ml_101 (h : SHP M o) : ml M (o + 101) = 80 := h.ml 101 (by decide) rfl
theorem mt_102 (h : SHP M o) : mt M (o + 102) = 21 := h.mt 102 (by decide) rfl
theorem ml_102 (h : SHP M o) : ml M (o + 102) = 5 := h.ml 102 (by decide) rfl
theorem mt_103 (h : SHP M o) : mt M (o + 103) = 20 := h.mt 103 (by decide) rfl
theorem ml_103 (h : SHP M o) : ml M (o + 103) = 10 := h.ml 103 (by decide) rfl
theorem mt_104 (h : SHP M o) : mt M (o + 104) = 20 := h.mt 104 (by decide) rfl
theorem ml_104 (h : SHP M o) : ml M (o + 104) = 10 := h.ml 104 (by decide) rfl
theorem mt_105 (h : SHP M o) : mt M (o + 105) = 20 := h.mt 105 (by decide) rfl
theorem ml_105 (h : SHP M o) : ml M (o + 105) = 8 := h.ml 105 (by decide) rfl
theorem mt_106 (h : SHP M o) : mt M (o + 106) = 20 := h.mt 106 (by decide) rfl
theorem ml_106 (h : SHP M o) : ml M (o + 106) = 8 := h.ml 106 (by decide) rfl
theorem mt_107 (h : SHP M o) : mt M (o + 107) = 20 := h.mt 107 (by decide) rfl
theorem ml_107 (h : SHP M o) : ml M (o + 107) = 16 := h.ml 107 (by decide) rfl
theorem mt_108 (h : SHP M o) : mt M (o + 108) = 20 := h.mt 108 (by decide) rfl
theorem ml_108 (h : SHP M o) : ml M (o + 108) = 5 := h.ml 108 (by decide) rfl
theorem mt_109 (h : SHP M o) : mt M (o + 109) = 20 := h.mt 109 (by decide) rfl
theorem ml_109 (h : SHP M o) : ml M (o + 109) = 5 := h.ml 109 (by decide) rfl
theorem mt_110 (h : SHP M o) : mt M (o + 110) = 20 := h.mt 110 (by decide) rfl
theorem ml_110 (h : SHP M o) : ml M (o + 110) = 5 := h.ml 110 (by decide) rfl
theorem mt_111 (h : SHP M o) : mt M (o + 111) = 20 := h.mt 111 (by decide) rfl
theorem ml_111 (h : SHP M o) : ml M (o + 111) = 20 := h.ml 111 (by decide) rfl
theorem mt_112 (h : SHP M o) : mt M (o + 112) = 20 := h.mt 112 (by decide) rfl
theorem ml_112 (h : SHP M o) : ml M (o + 112) = 5 := h.ml 112 (by decide) rfl
theorem mt_113 (h : SHP M o) : mt M (o + 113) = 20 := h.mt 113 (by decide) rfl
theorem ml_113 (h : SHP M o) : ml M (o + 113) = 5 := h.ml 113 (by decide) rfl
theorem mt_114 (h : SHP M o) : mt M (o + 114) = 20 := h.mt 114 (by decide) rfl
theorem ml_114 (h : SHP M o) : ml M (o + 114) = 10 := h.ml 114 (by decide) rfl
theorem mt_115 (h : SHP M o) : mt M (o + 115) = 20 := h.mt 115 (by decide) rfl
theorem ml_115 (h : SHP M o) : ml M (o + 115) = 10 := h.ml 115 (by decide) rfl
theorem mt_116 (h : SHP M o) : mt M (o + 116) = 20 := h.mt 116 (by decide) rfl
theorem ml_116 (h : SHP M o) : ml M (o + 116) = 8 := h.ml 116 (by decide) rfl
theorem mt_117 (h : SHP M o) : mt M (o + 117) = 20 := h.mt 117 (by decide) rfl
theorem ml_117 (h : SHP M o) : ml M (o + 117) = 8 := h.ml 117 (by decide) rfl
theorem mt_118 (h : SHP M o) : mt M (o + 118) = 21 := h.mt 118 (by decide) rfl
theorem ml_118 (h : SHP M o) : ml M (o + 118) = 5 := h.ml 118 (by decide) rfl
theorem mt_119 (h : SHP M o) : mt M (o + 119) = 20 := h.mt 119 (by decide) rfl
theorem ml_119 (h : SHP M o) : ml M (o + 119) = 20 := h.ml 119 (by decide) rfl
theorem mt_120 (h : SHP M o) : mt M (o + 120) = 20 := h.mt 120 (by decide) rfl
theorem ml_120 (h : SHP M o) : ml M (o + 120) = 6 := h.ml 120 (by decide) rfl
theorem mt_121 (h : SHP M o) : mt M (o + 121) = 20 := h.mt 121 (by decide) rfl
theorem ml_121 (h : SHP M o) : ml M (o + 121) = 6 := h.ml 121 (by decide) rfl
theorem mt_122 (h : SHP M o) : mt M (o + 122) = 24 := h.mt 122 (by decide) rfl
theorem ml_122 (h : SHP M o) : ml M (o + 122) = 360 := h.ml 122 (by decide) rfl
theorem mt_123 (h : SHP M o) : mt M (o + 123) = 24 := h.mt 123 (by decide) rfl
theorem ml_123 (h : SHP M o) : ml M (o + 123) = 60 := h.ml 123 (by decide) rfl
theorem gP_0_0 {f : Nat → Option α} (h : SHP M o) : gR M o 8 0 f = f (o + 1) := h.gP 0 0 1 (by decide) rfl (by decide)
theorem gP_0_1 {f : Nat → Option α} (h : SHP M o) : gR M o 8 1 f = f (o + 27) := h.gP 0 1 27 (by decide) rfl (by decide)
theorem gP_0_4 {f : Nat → Option α} (h : SHP M o) : gR M o 8 4 f = f (o + 53) := h.gP 0 4 53 (by decide) rfl (by decide)
theorem gP_0_5 {f : Nat → Option α} (h : SHP M o) : gR M o 8 5 f = f (o + 56) := h.gP 0 5 56 (by decide) rfl (by decide)
theorem gP_0_6 {f : Nat → Option α} (h : SHP M o) : gR M o 8 6 f = f (o + 58) := h.gP 0 6 58 (by decide) rfl (by decide)
theorem gP_0_7 {f : Nat → Option α} (h : SHP M o) : gR M o 8 7 f = f (o + 59) := h.gP 0 7 59 (by decide) rfl (by decide)
theorem gP_0_8 {f : Nat → Option α} (h : SHP M o) : gR M o 8 8 f = f (o + 61) := h.gP 0 8 61 (by decide) rfl (by decide)
theorem gP_0_9 {f : Nat → Option α} (h : SHP M o) : gR M o 8 9 f = f (o + 63) := h.gP 0 9 63 (by decide) rfl (by decide)
theorem gP_1_0 {f : Nat → Option α} (h : SHP M o) : gR M (o + 1) 5 0 f = f (o + 2) := h.gP 1 0 2 (by decide) rfl (by decide)
theorem gP_1_1 {f : Nat → Option α} (h : SHP M o) : gR M (o + 1) 5 1 f = f (o + 4) := h.gP 1 1 4 (by decide) rfl (by decide)
theorem gP_1_4 {f : Nat → Option α} (h : SHP M o) : gR M (o + 1) 5 4 f = f (o + 5) := h.gP 1 4 5 (by decide) rfl (by decide)
theorem gP_1_5 {f : Nat → Option α} (h : SHP M o) : gR M (o + 1) 5 5 f = f (o + 9) := h.gP 1 5 9 (by decide) rfl (by decide)
theorem gP_1_6 {f : Nat → Option α} (h : SHP M o) : gR M (o + 1) 5 6 f = f (o + 13) := h.gP 1 6 13 (by decide) rfl (by decide)
theorem gP_2_0 {f : Nat → Option α} (h : SHP M o) : gR M (o + 2) 2 0 f = f (o + 3) := h.gP 2 0 3 (by decide) rfl (by decide)
theorem gP_5_1 {f : Nat → Option α} (h : SHP M o) : gR M (o + 5) 4 1 f = f (o + 6) := h.gP 5 1 6 (by decide) rfl (by decide)
theorem gP_5_2 {f : Nat → Option α} (h : SHP M o) : gR M (o + 5) 4 2 f = f (o + 7) := h.gP 5 2 7 (by decide) rfl (by decide)
theorem gP_5_3 {f : Nat → Option α} (h : SHP M o) : gR M (o + 5) 4 3 f = f (o + 8) := h.gP 5 3 8 (by decide) rfl (by decide)
theorem gP_9_1 {f : Nat → Option α} (h : SHP M o) : gR M (o + 9) 4 1 f = f (o + 10) := h.gP 9 1 10 (by decide) rfl (by decide)
theorem gP_9_2 {f : Nat → Option α} (h : SHP M o) : gR M (o + 9) 4 2 f = f (o + 11) := h.gP 9 2 11 (by decide) rfl (by decide)
theorem gP_9_3 {f : Nat → Option α} (h : SHP M o) : gR M (o + 9) 4 3 f = f (o + 12) := h.gP 9 3 12 (by decide) rfl (by decide)
theorem gP_13_1 {f : Nat → Option α} (h : SHP M o) : gR M (o + 13) 4 1 f = f (o + 14) := h.gP 13 1 14 (by decide) rfl (by decide)
theorem gP_13_2 {f : Nat → Option α} (h : SHP M o) : gR M (o + 13) 4 2 f = f (o + 15) := h.gP 13 2 15 (by decide) rfl (by decide)
theorem gP_13_3 {f : Nat → Option α} (h : SHP M o) : gR M (o + 13) 4 3 f = f (o + 16) := h.gP 13 3 16 (by decide) rfl (by decide)
theorem gP_17_3 {f : Nat → Option α} (h : SHP M o) : gR M (o + 17) 7 3 f = f (o + 18) := h.gP 17 3 18 (by decide) rfl (by decide)
theorem gP_19_3 {f : Nat → Option α} (h : SHP M o) : gR M (o + 19) 7 3 f = f (o + 20) := h.gP 19 3 20 (by decide) rfl (by decide)
theorem gP_21_3 {f : Nat → Option α} (h : SHP M o) : gR M (o + 21) 7 3 f = f (o + 22) := h.gP 21 3 22 (by decide) rfl (by decide)
theorem gP_23_3 {f : Nat → Option α} (h : SHP M o) : gR M (o + 23) 7 3 f = f (o + 24) := h.gP 23 3 24 (by decide) rfl (by decide)
theorem gP_25_3 {f : Nat → Option α} (h : SHP M o) : gR M (o + 25) 7 3 f = f (o + 26) := h.gP 25 3 26 (by decide) rfl (by decide)
theorem gP_27_0 {f : Nat → Option α} (h : SHP M o) : gR M (o + 27) 5 0 f = f (o + 28) := h.gP 27 0 28 (by decide) rfl (by decide)
theorem gP_27_1 {f : Nat → Option α} (h : SHP M o) : gR M (o + 27) 5 1 f = f (o + 30) := h.gP 27 1 30 (by decide) rfl (by decide)
theorem gP_27_4 {f : Nat → Option α} (h : SHP M o) : gR M (o + 27) 5 4 f = f (o + 31) := h.gP 27 4 31 (by decide) rfl (by decide)
theorem gP_27_5 {f : Nat → Option α} (h : SHP M o) : gR M (o + 27) 5 5 f = f (o + 35) := h.gP 27 5 35 (by decide) rfl (by decide)
theorem gP_27_6 {f : Nat → Option α} (h : SHP M o) : gR M (o + 27) 5 6 f = f (o + 39) := h.gP 27 6 39 (by decide) rfl (by decide)
theorem gP_28_0 {f : Nat → Option α} (h : SHP M o) : gR M (o + 28) 2 0 f = f (o + 29) := h.gP 28 0 29 (by decide) rfl (by decide)
theorem gP_31_1 {f : Nat → Option α} (h : SHP M o) : gR M (o + 31) 4 1 f = f (o + 32) := h.gP 31 1 32 (by decide) rfl (by decide)
theorem gP_31_2 {f : Nat → Option α} (h : SHP M o) : gR M (o + 31) 4 2 f = f (o + 33) := h.gP 31 2 33 (by decide) rfl (by decide)
theorem gP_31_3 {f : Nat → Option α} (h : SHP M o) : gR M (o + 31) 4 3 f = f (o + 34) := h.gP 31 3 34 (by decide) rfl (by decide)
theorem gP_35_1 {f : Nat → Option α} (h : SHP M o) : gR M (o + 35) 4 1 f = f (o + 36) := h.gP 35 1 36 (by decide) rfl (by decide)
theorem gP_35_2 {f : Nat → Option α} (h : SHP M o) : gR M (o + 35) 4 2 f = f (o + 37) := h.gP 35 2 37 (by decide) rfl (by decide)
theorem gP_35_3 {f : Nat → Option α} (h : SHP M o) : gR M (o + 35) 4 3 f = f (o + 38) := h.gP 35 3 38 (by decide) rfl (by decide)
theorem gP_39_1 {f : Nat → Option α} (h : SHP M o) : gR M (o + 39) 4 1 f = f (o + 40) := h.gP 39 1 40 (by decide) rfl (by decide)
theorem gP_39_2 {f : Nat → Option α} (h : SHP M o) : gR M (o + 39) 4 2 f = f (o + 41) := h.gP 39 2 41 (by decide) rfl (by decide)
theorem gP_39_3 {f : Nat → Option α} (h : SHP M o) : gR M (o + 39) 4 3 f = f (o + 42) := h.gP 39 3 42 (by decide) rfl (by decide)
theorem gP_43_3 {f : Nat → Option α} (h : SHP M o) : gR M (o + 43) 7 3 f = f (o + 44) := h.gP 43 3 44 (by decide) rfl (by decide)
theorem gP_45_3 {f : Nat → Option α} (h : SHP M o) : gR M (o + 45) 7 3 f = f (o + 46) := h.gP 45 3 46 (by decide) rfl (by decide)
theorem gP_47_3 {f : Nat → Option α} (h : SHP M o) : gR M (o + 47) 7 3 f = f (o + 48) := h.gP 47 3 48 (by decide) rfl (by decide)
theorem gP_49_3 {f : Nat → Option α} (h : SHP M o) : gR M (o + 49) 7 3 f = f (o + 50) := h.gP 49 3 50 (by decide) rfl (by decide)
theorem gP_51_3 {f : Nat → Option α} (h : SHP M o) : gR M (o + 51) 7 3 f = f (o + 52) := h.gP 51 3 52 (by decide) rfl (by decide)
theorem gP_53_0 {f : Nat → Option α} (h : SHP M o) : gR M (o + 53) 3 0 f = f (o + 54) := h.gP 53 0 54 (by decide) rfl (by decide)
theorem gP_53_6 {f : Nat → Option α} (h : SHP M o) : gR M (o + 53) 3 6 f = f (o + 55) := h.gP 53 6 55 (by decide) rfl (by decide)
theorem gP_56_0 {f : Nat → Option α} (h : SHP M o) : gR M (o + 56) 0 0 f = f (o + 57) := h.gP 56 0 57 (by decide) rfl (by decide)
theorem gP_59_0 {f : Nat → Option α} (h : SHP M o) : gR M (o + 59) 2 0 f = f (o + 60) := h.gP 59 0 60 (by decide) rfl (by decide)
theorem gP_61_3 {f : Nat → Option α} (h : SHP M o) : gR M (o + 61) 7 3 f = f (o + 62) := h.gP 61 3 62 (by decide) rfl (by decide)
theorem gP_64_0 {f : Nat → Option α} (h : SHP M o) : gR M (o + 64) 1 0 f = f (o + 65) := h.gP 64 0 65 (by decide) rfl (by decide)
theorem gP_66_2 {f : Nat → Option α} (h : SHP M o) : gR M (o + 66) 6 2 f = f (o + 67) := h.gP 66 2 67 (by decide) rfl (by decide)
theorem gP_68_2 {f : Nat → Option α} (h : SHP M o) : gR M (o + 68) 6 2 f = f (o + 69) := h.gP 68 2 69 (by decide) rfl (by decide)
theorem gP_70_2 {f : Nat → Option α} (h : SHP M o) : gR M (o + 70) 6 2 f = f (o + 71) := h.gP 70 2 71 (by decide) rfl (by decide)
theorem gP_72_2 {f : Nat → Option α} (h : SHP M o) : gR M (o + 72) 6 2 f = f (o + 73) := h.gP 72 2 73 (by decide) rfl (by decide)
theorem gP_74_2 {f : Nat → Option α} (h : SHP M o) : gR M (o + 74) 6 2 f = f (o + 75) := h.gP 74 2 75 (by decide) rfl (by decide)
theorem gP_76_2 {f : Nat → Option α} (h : SHP M o) : gR M (o + 76) 6 2 f = f (o + 77) := h.gP 76 2 77 (by decide) rfl (by decide)
theorem gP_78_2 {f : Nat → Option α} (h : SHP M o) : gR M (o + 78) 9 2 f = f (o + 79) := h.gP 78 2 79 (by decide) rfl (by decide)
theorem gP_78_3 {f : Nat → Option α} (h : SHP M o) : gR M (o + 78) 9 3 f = f (o + 80) := h.gP 78 3 80 (by decide) rfl (by decide)
theorem gP_78_4 {f : Nat → Option α} (h : SHP M o) : gR M (o + 78) 9 4 f = f (o + 81) := h.gP 78 4 81 (by decide) rfl (by decide)
theorem gP_78_5 {f : Nat → Option α} (h : SHP M o) : gR M (o + 78) 9 5 f = f (o + 82) := h.gP 78 5 82 (by decide) rfl (by decide)
theorem gP_78_6 {f : Nat → Option α} (h : SHP M o) : gR M (o + 78) 9 6 f = f (o + 83) := h.gP 78 6 83 (by decide) rfl (by decide)
theorem gP_78_12 {f : Nat → Option α} (h : SHP M o) : gR M (o + 78) 9 12 f = f (o + 84) := h.gP 78 12 84 (by decide) rfl (by decide)
theorem gP_78_13 {f : Nat → Option α} (h : SHP M o) : gR M (o + 78) 9 13 f = f (o + 85) := h.gP 78 13 85 (by decide) rfl (by decide)
theorem gP_78_14 {f : Nat → Option α} (h : SHP M o) : gR M (o + 78) 9 14 f = f (o + 86) := h.gP 78 14 86 (by decide) rfl (by decide)
theorem gP_78_15 {f : Nat → Option α} (h : SHP M o) : gR M (o + 78) 9 15 f = f (o + 87) := h.gP 78 15 87 (by decide) rfl (by decide)
theorem gP_78_16 {f : Nat → Option α} (h : SHP M o) : gR M (o + 78) 9 16 f = f (o + 88) := h.gP 78 16 88 (by decide) rfl (by decide)
theorem gP_78_17 {f : Nat → Option α} (h : SHP M o) : gR M (o + 78) 9 17 f = f (o + 89) := h.gP 78 17 89 (by decide) rfl (by decide)
theorem gP_78_18 {f : Nat → Option α} (h : SHP M o) : gR M (o + 78) 9 18 f = f (o + 90) := h.gP 78 18 90 (by decide) rfl (by decide)
theorem gP_78_19 {f : Nat → Option α} (h : SHP M o) : gR M (o + 78) 9 19 f = f (o + 91) := h.gP 78 19 91 (by decide) rfl (by decide)
theorem gP_78_23 {f : Nat → Option α} (h : SHP M o) : gR M (o + 78) 9 23 f = f (o + 92) := h.gP 78 23 92 (by decide) rfl (by decide)
theorem gP_78_24 {f : Nat → Option α} (h : SHP M o) : gR M (o + 78) 9 24 f = f (o + 93) := h.gP 78 24 93 (by decide) rfl (by decide)
theorem gP_78_26 {f : Nat → Option α} (h : SHP M o) : gR M (o + 78) 9 26 f = f (o + 94) := h.gP 78 26 94 (by decide) rfl (by decide)
theorem gP_78_27 {f : Nat → Option α} (h : SHP M o) : gR M (o + 78) 9 27 f = f (o + 95) := h.gP 78 27 95 (by decide) rfl (by decide)
theorem gP_78_28 {f : Nat → Option α} (h : SHP M o) : gR M (o + 78) 9 28 f = f (o + 96) := h.gP 78 28 96 (by decide) rfl (by decide)
theorem gP_78_31 {f : Nat → Option α} (h : SHP M o) : gR M (o + 78) 9 31 f = f (o + 97) := h.gP 78 31 97 (by decide) rfl (by decide)
theorem gP_78_32 {f : Nat → Option α} (h : SHP M o) : gR M (o + 78) 9 32 f = f (o + 98) := h.gP 78 32 98 (by decide) rfl (by decide)
theorem gP_78_34 {f : Nat → Option α} (h : SHP M o) : gR M (o + 78) 9 34 f = f (o + 99) := h.gP 78 34 99 (by decide) rfl (by decide)
theorem gP_78_35 {f : Nat → Option α} (h : SHP M o) : gR M (o + 78) 9 35 f = f (o + 100) := h.gP 78 35 100 (by decide) rfl (by decide)
theorem gP_78_36 {f : Nat → Option α} (h : SHP M o) : gR M (o + 78) 9 36 f = f (o + 101) := h.gP 78 36 101 (by decide) rfl (by decide)
theorem gP_78_37 {f : Nat → Option α} (h : SHP M o) : gR M (o + 78) 9 37 f = f (o + 102) := h.gP 78 37 102 (by decide) rfl (by decide)
theorem gP_78_40 {f : Nat → Option α} (h : SHP M o) : gR M (o + 78) 9 40 f = f (o + 103) := h.gP 78 40 103 (by decide) rfl (by decide)
theorem gP_78_41 {f : Nat → Option α} (h : SHP M o) : gR M (o + 78) 9 41 f = f (o + 104) := h.gP 78 41 104 (by decide) rfl (by decide)
theorem gP_78_42 {f : Nat → Option α} (h : SHP M o) : gR M (o + 78) 9 42 f = f (o + 105) := h.gP 78 42 105 (by decide) rfl (by decide)
theorem gP_78_43 {f : Nat → Option α} (h : SHP M o) : gR M (o + 78) 9 43 f = f (o + 106) := h.gP 78 43 106 (by decide) rfl (by decide)
theorem gP_78_52 {f : Nat → Option α} (h : SHP M o) : gR M (o + 78) 9 52 f = f (o + 107) := h.gP 78 52 107 (by decide) rfl (by decide)
theorem gP_78_53 {f : Nat → Option α} (h : SHP M o) : gR M (o + 78) 9 53 f = f (o + 108) := h.gP 78 53 108 (by decide) rfl (by decide)
theorem gP_78_54 {f : Nat → Option α} (h : SHP M o) : gR M (o + 78) 9 54 f = f (o + 109) := h.gP 78 54 109 (by decide) rfl (by decide)
theorem gP_78_55 {f : Nat → Option α} (h : SHP M o) : gR M (o + 78) 9 55 f = f (o + 110) := h.gP 78 55 110 (by decide) rfl (by decide)
theorem gP_78_56 {f : Nat → Option α} (h : SHP M o) : gR M (o + 78) 9 56 f = f (o + 111) := h.gP 78 56 111 (by decide) rfl (by decide)
theorem gP_78_57 {f : Nat → Option α} (h : SHP M o) : gR M (o + 78) 9 57 f = f (o + 112) := h.gP 78 57 112 (by decide) rfl (by decide)
theorem gP_78_58 {f : Nat → Option α} (h : SHP M o) : gR M (o + 78) 9 58 f = f (o + 113) := h.gP 78 58 113 (by decide) rfl (by decide)
theorem gP_78_59 {f : Nat → Option α} (h : SHP M o) : gR M (o + 78) 9 59 f = f (o + 114) := h.gP 78 59 114 (by decide) rfl (by decide)
theorem gP_78_60 {f : Nat → Option α} (h : SHP M o) : gR M (o + 78) 9 60 f = f (o + 115) := h.gP 78 60 115 (by decide) rfl (by decide)
theorem gP_78_61 {f : Nat → Option α} (h : SHP M o) : gR M (o + 78) 9 61 f = f (o + 116) := h.gP 78 61 116 (by decide) rfl (by decide)
theorem gP_78_62 {f : Nat → Option α} (h : SHP M o) : gR M (o + 78) 9 62 f = f (o + 117) := h.gP 78 62 117 (by decide) rfl (by decide)
theorem gP_78_63 {f : Nat → Option α} (h : SHP M o) : gR M (o + 78) 9 63 f = f (o + 118) := h.gP 78 63 118 (by decide) rfl (by decide)
theorem gP_78_65 {f : Nat → Option α} (h : SHP M o) : gR M (o + 78) 9 65 f = f (o + 119) := h.gP 78 65 119 (by decide) rfl (by decide)
theorem gP_78_66 {f : Nat → Option α} (h : SHP M o) : gR M (o + 78) 9 66 f = f (o + 120) := h.gP 78 66 120 (by decide) rfl (by decide)
theorem gP_78_67 {f : Nat → Option α} (h : SHP M o) : gR M (o + 78) 9 67 f = f (o + 121) := h.gP 78 67 121 (by decide) rfl (by decide)
theorem gP_78_68 {f : Nat → Option α} (h : SHP M o) : gR M (o + 78) 9 68 f = f (o + 122) := h.gP 78 68 122 (by decide) rfl (by decide)
theorem gP_78_69 {f : Nat → Option α} (h : SHP M o) : gR M (o + 78) 9 69 f = f (o + 123) := h.gP 78 69 123 (by decide) rfl (by decide)
theorem aP_4 {f : Nat → Option α} (h : SHP M o) (hi : i < 5) : aR M 26 (o + 4) (nI i) f = f (o + (17 + 2 * i)) := h.aP 4 i (17 + 2 * i) (by decide) rfl ((by decide : ∀ i, i < 5 → (4, i, 17 + 2 * i) ∈ ptT) i hi) hi (by decide)
theorem mtw_4 (h : SHP M o) (hi : i < 5) : mt M (o + (17 + 2 * i)) = 7 := h.mt (17 + 2 * i) (n := 0) (by omega) ((by decide : ∀ i, i < 5 → shT.getD (17 + 2 * i) (99, 0) = (7, 0)) i hi)
theorem mtl_4 (h : SHP M o) (hi : i < 5) : mt M (o + (18 + 2 * i)) = 20 := h.mt (18 + 2 * i) (n := 4) (by omega) ((by decide : ∀ i, i < 5 → shT.getD (18 + 2 * i) (99, 0) = (20, 4)) i hi)
theorem mll_4 (h : SHP M o) (hi : i < 5) : ml M (o + (18 + 2 * i)) = 4 := h.ml (18 + 2 * i) (c := 20) (by omega) ((by decide : ∀ i, i < 5 → shT.getD (18 + 2 * i) (99, 0) = (20, 4)) i hi)
theorem gPw_4 {f : Nat → Option α} (h : SHP M o) (hi : i < 5) : gR M (o + (17 + 2 * i)) 7 3 f = f (o + (18 + 2 * i)) := h.gP (17 + 2 * i) 3 (18 + 2 * i) (n := 0) (by omega) ((by decide : ∀ i, i < 5 → shT.getD (17 + 2 * i) (99, 0) = (7, 0)) i hi) ((by decide : ∀ i, i < 5 → (17 + 2 * i, 3, 18 + 2 * i) ∈ ptT) i hi)
theorem aP_30 {f : Nat → Option α} (h : SHP M o) (hi : i < 5) : aR M 26 (o + 30) (nI i) f = f (o + (43 + 2 * i)) := h.aP 30 i (43 + 2 * i) (by decide) rfl ((by decide : ∀ i, i < 5 → (30, i, 43 + 2 * i) ∈ ptT) i hi) hi (by decide)
theorem mtw_30 (h : SHP M o) (hi : i < 5) : mt M (o + (43 + 2 * i)) = 7 := h.mt (43 + 2 * i) (n := 0) (by omega) ((by decide : ∀ i, i < 5 → shT.getD (43 + 2 * i) (99, 0) = (7, 0)) i hi)
theorem mtl_30 (h : SHP M o) (hi : i < 5) : mt M (o + (44 + 2 * i)) = 20 := h.mt (44 + 2 * i) (n := 4) (by omega) ((by decide : ∀ i, i < 5 → shT.getD (44 + 2 * i) (99, 0) = (20, 4)) i hi)
theorem mll_30 (h : SHP M o) (hi : i < 5) : ml M (o + (44 + 2 * i)) = 4 := h.ml (44 + 2 * i) (c := 20) (by omega) ((by decide : ∀ i, i < 5 → shT.getD (44 + 2 * i) (99, 0) = (20, 4)) i hi)
theorem gPw_30 {f : Nat → Option α} (h : SHP M o) (hi : i < 5) : gR M (o + (43 + 2 * i)) 7 3 f = f (o + (44 + 2 * i)) := h.gP (43 + 2 * i) 3 (44 + 2 * i) (n := 0) (by omega) ((by decide : ∀ i, i < 5 → shT.getD (43 + 2 * i) (99, 0) = (7, 0)) i hi) ((by decide : ∀ i, i < 5 → (43 + 2 * i, 3, 44 + 2 * i) ∈ ptT) i hi)
theorem aP_58 {f : Nat → Option α} (h : SHP M o) (hi : i < 6) : aR M 25 (o + 58) (nI i) f = f (o + (66 + 2 * i)) := h.aP 58 i (66 + 2 * i) (by decide) rfl ((by decide : ∀ i, i < 6 → (58, i, 66 + 2 * i) ∈ ptT) i hi) hi (by decide)
theorem mtw_58 (h : SHP M o) (hi : i < 6) : mt M (o + (66 + 2 * i)) = 6 := h.mt (66 + 2 * i) (n := 0) (by omega) ((by decide : ∀ i, i < 6 → shT.getD (66 + 2 * i) (99, 0) = (6, 0)) i hi)
theorem mtl_58 (h : SHP M o) (hi : i < 6) : mt M (o + (67 + 2 * i)) = 24 := h.mt (67 + 2 * i) (n := 60) (by omega) ((by decide : ∀ i, i < 6 → shT.getD (67 + 2 * i) (99, 0) = (24, 60)) i hi)
theorem mll_58 (h : SHP M o) (hi : i < 6) : ml M (o + (67 + 2 * i)) = 60 := h.ml (67 + 2 * i) (c := 24) (by omega) ((by decide : ∀ i, i < 6 → shT.getD (67 + 2 * i) (99, 0) = (24, 60)) i hi)
theorem gPw_58 {f : Nat → Option α} (h : SHP M o) (hi : i < 6) : gR M (o + (66 + 2 * i)) 6 2 f = f (o + (67 + 2 * i)) := h.gP (66 + 2 * i) 2 (67 + 2 * i) (n := 0) (by omega) ((by decide : ∀ i, i < 6 → shT.getD (66 + 2 * i) (99, 0) = (6, 0)) i hi) ((by decide : ∀ i, i < 6 → (66 + 2 * i, 2, 67 + 2 * i) ∈ ptT) i hi)
end SH1
