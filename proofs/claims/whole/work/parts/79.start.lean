/-! ===== the constructors run it: printed by ctor.py ===== -/
section CI1
variable {o : Nat}
theorem ci_X2_init_3 : fn_X2_init (cSt o 3) (o + 2) = some (cSt o 5) := by
  unfold fn_X2_init
  rw [cSt_nA (i := 3) (n := 3) (t := 20) (ln := 16) (B := 16) (x := 16) rfl (by decide +kernel : kA 3 3 20 16 16 = true), cSt_pR (i := 4) (a := 2) (ci := 2) (k := 0) (b := 3) (by decide +kernel : kP 4 2 2 0 3 = true)]
theorem ci_X4_init_9 : fn_X4_init (cSt o 9) (o + 5) 5 = some (cSt o 16) := by
  unfold fn_X4_init
  rw [cSt_pI (i := 9) (a := 5) (ci := 4) (k := 0) (v := 5) (by decide +kernel : kI 9 5 4 0 5 = true), cSt_nA (i := 10) (n := 6) (t := 20) (ln := 5) (B := 16) (x := 5) rfl (by decide +kernel : kA 10 6 20 5 16 = true), cSt_pR (i := 11) (a := 5) (ci := 4) (k := 1) (b := 6) (by decide +kernel : kP 11 5 4 1 6 = true), cSt_nA (i := 12) (n := 7) (t := 20) (ln := 5) (B := 16) (x := 5) rfl (by decide +kernel : kA 12 7 20 5 16 = true), cSt_pR (i := 13) (a := 5) (ci := 4) (k := 2) (b := 7) (by decide +kernel : kP 13 5 4 2 7 = true), cSt_nA (i := 14) (n := 8) (t := 20) (ln := 5) (B := 16) (x := 5) rfl (by decide +kernel : kA 14 8 20 5 16 = true), cSt_pR (i := 15) (a := 5) (ci := 4) (k := 3) (b := 8) (by decide +kernel : kP 15 5 4 3 8 = true)]
theorem ci_X4_init_18 : fn_X4_init (cSt o 18) (o + 9) 10 = some (cSt o 25) := by
  unfold fn_X4_init
  rw [cSt_pI (i := 18) (a := 9) (ci := 4) (k := 0) (v := 10) (by decide +kernel : kI 18 9 4 0 10 = true), cSt_nA (i := 19) (n := 10) (t := 20) (ln := 10) (B := 16) (x := 10) rfl (by decide +kernel : kA 19 10 20 10 16 = true), cSt_pR (i := 20) (a := 9) (ci := 4) (k := 1) (b := 10) (by decide +kernel : kP 20 9 4 1 10 = true), cSt_nA (i := 21) (n := 11) (t := 20) (ln := 10) (B := 16) (x := 10) rfl (by decide +kernel : kA 21 11 20 10 16 = true), cSt_pR (i := 22) (a := 9) (ci := 4) (k := 2) (b := 11) (by decide +kernel : kP 22 9 4 2 11 = true), cSt_nA (i := 23) (n := 12) (t := 20) (ln := 10) (B := 16) (x := 10) rfl (by decide +kernel : kA 23 12 20 10 16 = true), cSt_pR (i := 24) (a := 9) (ci := 4) (k := 3) (b := 12) (by decide +kernel : kP 24 9 4 3 12 = true)]
theorem ci_X4_init_27 : fn_X4_init (cSt o 27) (o + 13) 8 = some (cSt o 34) := by
  unfold fn_X4_init
  rw [cSt_pI (i := 27) (a := 13) (ci := 4) (k := 0) (v := 8) (by decide +kernel : kI 27 13 4 0 8 = true), cSt_nA (i := 28) (n := 14) (t := 20) (ln := 8) (B := 16) (x := 8) rfl (by decide +kernel : kA 28 14 20 8 16 = true), cSt_pR (i := 29) (a := 13) (ci := 4) (k := 1) (b := 14) (by decide +kernel : kP 29 13 4 1 14 = true), cSt_nA (i := 30) (n := 15) (t := 20) (ln := 8) (B := 16) (x := 8) rfl (by decide +kernel : kA 30 15 20 8 16 = true), cSt_pR (i := 31) (a := 13) (ci := 4) (k := 2) (b := 15) (by decide +kernel : kP 31 13 4 2 15 = true), cSt_nA (i := 32) (n := 16) (t := 20) (ln := 8) (B := 16) (x := 8) rfl (by decide +kernel : kA 32 16 20 8 16 = true), cSt_pR (i := 33) (a := 13) (ci := 4) (k := 3) (b := 16) (by decide +kernel : kP 33 13 4 3 16 = true)]
theorem ci_X7_init_36 : fn_X7_init (cSt o 36) (o + 17) = some (cSt o 38) := by
  unfold fn_X7_init
  rw [cSt_nA (i := 36) (n := 18) (t := 20) (ln := 4) (B := 4) (x := 4) rfl (by decide +kernel : kA 36 18 20 4 4 = true), cSt_pR (i := 37) (a := 17) (ci := 7) (k := 3) (b := 18) (by decide +kernel : kP 37 17 7 3 18 = true)]
theorem ci_X5_init_63_35_0 : lp_X5_init_63 (o + 1) (nI 0) (cSt o 35) = some (.inl (nI 1, cSt o 39)) := by
  unfold lp_X5_init_63
  rw [if_neg (by decide), cSt_gR (i := 35) (a := 1) (ci := 5) (k := 1) (b := 4) (by decide +kernel : kG 35 1 5 1 4 = true), cSt_nO (i := 35) (n := 17) (ci := 7) (by decide +kernel : kO 35 17 7 = true), cSt_ck (i := 36) (a := 17) (ci := 7) (by decide +kernel : kC 36 17 7 = true), ci_X7_init_36, bnd_s, cSt_wR (i := 38) (t := 26) (a := 4) (k := 0) (x := nI 0) (ci := 7) (b := 17) rfl (by decide +kernel : kW 38 26 4 0 7 17 = true), nm_eq, nI_1]
theorem ci_X7_init_40 : fn_X7_init (cSt o 40) (o + 19) = some (cSt o 42) := by
  unfold fn_X7_init
  rw [cSt_nA (i := 40) (n := 20) (t := 20) (ln := 4) (B := 4) (x := 4) rfl (by decide +kernel : kA 40 20 20 4 4 = true), cSt_pR (i := 41) (a := 19) (ci := 7) (k := 3) (b := 20) (by decide +kernel : kP 41 19 7 3 20 = true)]
theorem ci_X5_init_63_35_1 : lp_X5_init_63 (o + 1) (nI 1) (cSt o 39) = some (.inl (nI 2, cSt o 43)) := by
  unfold lp_X5_init_63
  rw [if_neg (by decide), cSt_gR (i := 39) (a := 1) (ci := 5) (k := 1) (b := 4) (by decide +kernel : kG 39 1 5 1 4 = true), cSt_nO (i := 39) (n := 19) (ci := 7) (by decide +kernel : kO 39 19 7 = true), cSt_ck (i := 40) (a := 19) (ci := 7) (by decide +kernel : kC 40 19 7 = true), ci_X7_init_40, bnd_s, cSt_wR (i := 42) (t := 26) (a := 4) (k := 1) (x := nI 1) (ci := 7) (b := 19) rfl (by decide +kernel : kW 42 26 4 1 7 19 = true), nm_eq, nI_1]
theorem ci_X7_init_44 : fn_X7_init (cSt o 44) (o + 21) = some (cSt o 46) := by
  unfold fn_X7_init
  rw [cSt_nA (i := 44) (n := 22) (t := 20) (ln := 4) (B := 4) (x := 4) rfl (by decide +kernel : kA 44 22 20 4 4 = true), cSt_pR (i := 45) (a := 21) (ci := 7) (k := 3) (b := 22) (by decide +kernel : kP 45 21 7 3 22 = true)]
theorem ci_X5_init_63_35_2 : lp_X5_init_63 (o + 1) (nI 2) (cSt o 43) = some (.inl (nI 3, cSt o 47)) := by
  unfold lp_X5_init_63
  rw [if_neg (by decide), cSt_gR (i := 43) (a := 1) (ci := 5) (k := 1) (b := 4) (by decide +kernel : kG 43 1 5 1 4 = true), cSt_nO (i := 43) (n := 21) (ci := 7) (by decide +kernel : kO 43 21 7 = true), cSt_ck (i := 44) (a := 21) (ci := 7) (by decide +kernel : kC 44 21 7 = true), ci_X7_init_44, bnd_s, cSt_wR (i := 46) (t := 26) (a := 4) (k := 2) (x := nI 2) (ci := 7) (b := 21) rfl (by decide +kernel : kW 46 26 4 2 7 21 = true), nm_eq, nI_1]
theorem ci_X7_init_48 : fn_X7_init (cSt o 48) (o + 23) = some (cSt o 50) := by
  unfold fn_X7_init
  rw [cSt_nA (i := 48) (n := 24) (t := 20) (ln := 4) (B := 4) (x := 4) rfl (by decide +kernel : kA 48 24 20 4 4 = true), cSt_pR (i := 49) (a := 23) (ci := 7) (k := 3) (b := 24) (by decide +kernel : kP 49 23 7 3 24 = true)]
theorem ci_X5_init_63_35_3 : lp_X5_init_63 (o + 1) (nI 3) (cSt o 47) = some (.inl (nI 4, cSt o 51)) := by
  unfold lp_X5_init_63
  rw [if_neg (by decide), cSt_gR (i := 47) (a := 1) (ci := 5) (k := 1) (b := 4) (by decide +kernel : kG 47 1 5 1 4 = true), cSt_nO (i := 47) (n := 23) (ci := 7) (by decide +kernel : kO 47 23 7 = true), cSt_ck (i := 48) (a := 23) (ci := 7) (by decide +kernel : kC 48 23 7 = true), ci_X7_init_48, bnd_s, cSt_wR (i := 50) (t := 26) (a := 4) (k := 3) (x := nI 3) (ci := 7) (b := 23) rfl (by decide +kernel : kW 50 26 4 3 7 23 = true), nm_eq, nI_1]
theorem ci_X7_init_52 : fn_X7_init (cSt o 52) (o + 25) = some (cSt o 54) := by
  unfold fn_X7_init
  rw [cSt_nA (i := 52) (n := 26) (t := 20) (ln := 4) (B := 4) (x := 4) rfl (by decide +kernel : kA 52 26 20 4 4 = true), cSt_pR (i := 53) (a := 25) (ci := 7) (k := 3) (b := 26) (by decide +kernel : kP 53 25 7 3 26 = true)]
theorem ci_X5_init_63_35_4 : lp_X5_init_63 (o + 1) (nI 4) (cSt o 51) = some (.inl (nI 5, cSt o 55)) := by
  unfold lp_X5_init_63
  rw [if_neg (by decide), cSt_gR (i := 51) (a := 1) (ci := 5) (k := 1) (b := 4) (by decide +kernel : kG 51 1 5 1 4 = true), cSt_nO (i := 51) (n := 25) (ci := 7) (by decide +kernel : kO 51 25 7 = true), cSt_ck (i := 52) (a := 25) (ci := 7) (by decide +kernel : kC 52 25 7 = true), ci_X7_init_52, bnd_s, cSt_wR (i := 54) (t := 26) (a := 4) (k := 4) (x := nI 4) (ci := 7) (b := 25) rfl (by decide +kernel : kW 54 26 4 4 7 25 = true), nm_eq, nI_1]
theorem ci_X5_init_63_35 : itr (fun s : Int32 × QM => lp_X5_init_63 (o + 1) s.1 s.2) FU (0, cSt o 35) = some (cSt o 55) := by
  exact (itr_go (n := 2047) ci_X5_init_63_35_0).trans ((itr_go (n := 2046) ci_X5_init_63_35_1).trans ((itr_go (n := 2045) ci_X5_init_63_35_2).trans ((itr_go (n := 2044) ci_X5_init_63_35_3).trans ((itr_go (n := 2043) ci_X5_init_63_35_4).trans (itr_exit (n := 2042) (by show lp_X5_init_63 (o + 1) (nI 5) (cSt o 55) = _; unfold lp_X5_init_63; rw [if_pos (by decide)]))))))
theorem ci_X5_init_2 : fn_X5_init (cSt o 2) (o + 1) = some (cSt o 55) := by
  unfold fn_X5_init
  rw [cSt_nO (i := 2) (n := 2) (ci := 2) (by decide +kernel : kO 2 2 2 = true), cSt_ck (i := 3) (a := 2) (ci := 2) (by decide +kernel : kC 3 2 2 = true), ci_X2_init_3, bnd_s, cSt_pR (i := 5) (a := 1) (ci := 5) (k := 0) (b := 2) (by decide +kernel : kP 5 1 5 0 2 = true), cSt_nA (i := 6) (n := 4) (t := 26) (ln := 5) (B := 5) (x := 5) rfl (by decide +kernel : kA 6 4 26 5 5 = true), cSt_pR (i := 7) (a := 1) (ci := 5) (k := 1) (b := 4) (by decide +kernel : kP 7 1 5 1 4 = true), cSt_nO (i := 8) (n := 5) (ci := 4) (by decide +kernel : kO 8 5 4 = true), cSt_ck (i := 9) (a := 5) (ci := 4) (by decide +kernel : kC 9 5 4 = true), ci_X4_init_9, bnd_s, cSt_pR (i := 16) (a := 1) (ci := 5) (k := 4) (b := 5) (by decide +kernel : kP 16 1 5 4 5 = true), cSt_nO (i := 17) (n := 9) (ci := 4) (by decide +kernel : kO 17 9 4 = true), cSt_ck (i := 18) (a := 9) (ci := 4) (by decide +kernel : kC 18 9 4 = true), ci_X4_init_18, bnd_s, cSt_pR (i := 25) (a := 1) (ci := 5) (k := 5) (b := 9) (by decide +kernel : kP 25 1 5 5 9 = true), cSt_nO (i := 26) (n := 13) (ci := 4) (by decide +kernel : kO 26 13 4 = true), cSt_ck (i := 27) (a := 13) (ci := 4) (by decide +kernel : kC 27 13 4 = true), ci_X4_init_27, bnd_s, cSt_pR (i := 34) (a := 1) (ci := 5) (k := 6) (b := 13) (by decide +kernel : kP 34 1 5 6 13 = true), ci_X5_init_63_35, bnd_s]
theorem ci_X2_init_58 : fn_X2_init (cSt o 58) (o + 28) = some (cSt o 60) := by
  unfold fn_X2_init
  rw [cSt_nA (i := 58) (n := 29) (t := 20) (ln := 16) (B := 16) (x := 16) rfl (by decide +kernel : kA 58 29 20 16 16 = true), cSt_pR (i := 59) (a := 28) (ci := 2) (k := 0) (b := 29) (by decide +kernel : kP 59 28 2 0 29 = true)]
theorem ci_X4_init_64 : fn_X4_init (cSt o 64) (o + 31) 5 = some (cSt o 71) := by
  unfold fn_X4_init
  rw [cSt_pI (i := 64) (a := 31) (ci := 4) (k := 0) (v := 5) (by decide +kernel : kI 64 31 4 0 5 = true), cSt_nA (i := 65) (n := 32) (t := 20) (ln := 5) (B := 16) (x := 5) rfl (by decide +kernel : kA 65 32 20 5 16 = true), cSt_pR (i := 66) (a := 31) (ci := 4) (k := 1) (b := 32) (by decide +kernel : kP 66 31 4 1 32 = true), cSt_nA (i := 67) (n := 33) (t := 20) (ln := 5) (B := 16) (x := 5) rfl (by decide +kernel : kA 67 33 20 5 16 = true), cSt_pR (i := 68) (a := 31) (ci := 4) (k := 2) (b := 33) (by decide +kernel : kP 68 31 4 2 33 = true), cSt_nA (i := 69) (n := 34) (t := 20) (ln := 5) (B := 16) (x := 5) rfl (by decide +kernel : kA 69 34 20 5 16 = true), cSt_pR (i := 70) (a := 31) (ci := 4) (k := 3) (b := 34) (by decide +kernel : kP 70 31 4 3 34 = true)]
theorem ci_X4_init_73 : fn_X4_init (cSt o 73) (o + 35) 10 = some (cSt o 80) := by
  unfold fn_X4_init
  rw [cSt_pI (i := 73) (a := 35) (ci := 4) (k := 0) (v := 10) (by decide +kernel : kI 73 35 4 0 10 = true), cSt_nA (i := 74) (n := 36) (t := 20) (ln := 10) (B := 16) (x := 10) rfl (by decide +kernel : kA 74 36 20 10 16 = true), cSt_pR (i := 75) (a := 35) (ci := 4) (k := 1) (b := 36) (by decide +kernel : kP 75 35 4 1 36 = true), cSt_nA (i := 76) (n := 37) (t := 20) (ln := 10) (B := 16) (x := 10) rfl (by decide +kernel : kA 76 37 20 10 16 = true), cSt_pR (i := 77) (a := 35) (ci := 4) (k := 2) (b := 37) (by decide +kernel : kP 77 35 4 2 37 = true), cSt_nA (i := 78) (n := 38) (t := 20) (ln := 10) (B := 16) (x := 10) rfl (by decide +kernel : kA 78 38 20 10 16 = true), cSt_pR (i := 79) (a := 35) (ci := 4) (k := 3) (b := 38) (by decide +kernel : kP 79 35 4 3 38 = true)]
theorem ci_X4_init_82 : fn_X4_init (cSt o 82) (o + 39) 8 = some (cSt o 89) := by
  unfold fn_X4_init
  rw [cSt_pI (i := 82) (a := 39) (ci := 4) (k := 0) (v := 8) (by decide +kernel : kI 82 39 4 0 8 = true), cSt_nA (i := 83) (n := 40) (t := 20) (ln := 8) (B := 16) (x := 8) rfl (by decide +kernel : kA 83 40 20 8 16 = true), cSt_pR (i := 84) (a := 39) (ci := 4) (k := 1) (b := 40) (by decide +kernel : kP 84 39 4 1 40 = true), cSt_nA (i := 85) (n := 41) (t := 20) (ln := 8) (B := 16) (x := 8) rfl (by decide +kernel : kA 85 41 20 8 16 = true), cSt_pR (i := 86) (a := 39) (ci := 4) (k := 2) (b := 41) (by decide +kernel : kP 86 39 4 2 41 = true), cSt_nA (i := 87) (n := 42) (t := 20) (ln := 8) (B := 16) (x := 8) rfl (by decide +kernel : kA 87 42 20 8 16 = true), cSt_pR (i := 88) (a := 39) (ci := 4) (k := 3) (b := 42) (by decide +kernel : kP 88 39 4 3 42 = true)]
theorem ci_X7_init_91 : fn_X7_init (cSt o 91) (o + 43) = some (cSt o 93) := by
  unfold fn_X7_init
  rw [cSt_nA (i := 91) (n := 44) (t := 20) (ln := 4) (B := 4) (x := 4) rfl (by decide +kernel : kA 91 44 20 4 4 = true), cSt_pR (i := 92) (a := 43) (ci := 7) (k := 3) (b := 44) (by decide +kernel : kP 92 43 7 3 44 = true)]
theorem ci_X5_init_63_90_0 : lp_X5_init_63 (o + 27) (nI 0) (cSt o 90) = some (.inl (nI 1, cSt o 94)) := by
  unfold lp_X5_init_63
  rw [if_neg (by decide), cSt_gR (i := 90) (a := 27) (ci := 5) (k := 1) (b := 30) (by decide +kernel : kG 90 27 5 1 30 = true), cSt_nO (i := 90) (n := 43) (ci := 7) (by decide +kernel : kO 90 43 7 = true), cSt_ck (i := 91) (a := 43) (ci := 7) (by decide +kernel : kC 91 43 7 = true), ci_X7_init_91, bnd_s, cSt_wR (i := 93) (t := 26) (a := 30) (k := 0) (x := nI 0) (ci := 7) (b := 43) rfl (by decide +kernel : kW 93 26 30 0 7 43 = true), nm_eq, nI_1]
theorem ci_X7_init_95 : fn_X7_init (cSt o 95) (o + 45) = some (cSt o 97) := by
  unfold fn_X7_init
  rw [cSt_nA (i := 95) (n := 46) (t := 20) (ln := 4) (B := 4) (x := 4) rfl (by decide +kernel : kA 95 46 20 4 4 = true), cSt_pR (i := 96) (a := 45) (ci := 7) (k := 3) (b := 46) (by decide +kernel : kP 96 45 7 3 46 = true)]
theorem ci_X5_init_63_90_1 : lp_X5_init_63 (o + 27) (nI 1) (cSt o 94) = some (.inl (nI 2, cSt o 98)) := by
  unfold lp_X5_init_63
  rw [if_neg (by decide), cSt_gR (i := 94) (a := 27) (ci := 5) (k := 1) (b := 30) (by decide +kernel : kG 94 27 5 1 30 = true), cSt_nO (i := 94) (n := 45) (ci := 7) (by decide +kernel : kO 94 45 7 = true), cSt_ck (i := 95) (a := 45) (ci := 7) (by decide +kernel : kC 95 45 7 = true), ci_X7_init_95, bnd_s, cSt_wR (i := 97) (t := 26) (a := 30) (k := 1) (x := nI 1) (ci := 7) (b := 45) rfl (by decide +kernel : kW 97 26 30 1 7 45 = true), nm_eq, nI_1]
theorem ci_X7_init_99 : fn_X7_init (cSt o 99) (o + 47) = some (cSt o 101) := by
  unfold fn_X7_init
  rw [cSt_nA (i := 99) (n := 48) (t := 20) (ln := 4) (B := 4) (x := 4) rfl (by decide +kernel : kA 99 48 20 4 4 = true), cSt_pR (i := 100) (a := 47) (ci := 7) (k := 3) (b := 48) (by decide +kernel : kP 100 47 7 3 48 = true)]
theorem ci_X5_init_63_90_2 : lp_X5_init_63 (o + 27) (nI 2) (cSt o 98) = some (.inl (nI 3, cSt o 102)) := by
  unfold lp_X5_init_63
  rw [if_neg (by decide), cSt_gR (i := 98) (a := 27) (ci := 5) (k := 1) (b := 30) (by decide +kernel : kG 98 27 5 1 30 = true), cSt_nO (i := 98) (n := 47) (ci := 7) (by decide +kernel : kO 98 47 7 = true), cSt_ck (i := 99) (a := 47) (ci := 7) (by decide +kernel : kC 99 47 7 = true), ci_X7_init_99, bnd_s, cSt_wR (i := 101) (t := 26) (a := 30) (k := 2) (x := nI 2) (ci := 7) (b := 47) rfl (by decide +kernel : kW 101 26 30 2 7 47 = true), nm_eq, nI_1]
theorem ci_X7_init_103 : fn_X7_init (cSt o 103) (o + 49) = some (cSt o 105) := by
  unfold fn_X7_init
  rw [cSt_nA (i := 103) (n := 50) (t := 20) (ln := 4) (B := 4) (x := 4) rfl (by decide +kernel : kA 103 50 20 4 4 = true), cSt_pR (i := 104) (a := 49) (ci := 7) (k := 3) (b := 50) (by decide +kernel : kP 104 49 7 3 50 = true)]
theorem ci_X5_init_63_90_3 : lp_X5_init_63 (o + 27) (nI 3) (cSt o 102) = some (.inl (nI 4, cSt o 106)) := by
  unfold lp_X5_init_63
  rw [if_neg (by decide), cSt_gR (i := 102) (a := 27) (ci := 5) (k := 1) (b := 30) (by decide +kernel : kG 102 27 5 1 30 = true), cSt_nO (i := 102) (n := 49) (ci := 7) (by decide +kernel : kO 102 49 7 = true), cSt_ck (i := 103) (a := 49) (ci := 7) (by decide +kernel : kC 103 49 7 = true), ci_X7_init_103, bnd_s, cSt_wR (i := 105) (t := 26) (a := 30) (k := 3) (x := nI 3) (ci := 7) (b := 49) rfl (by decide +kernel : kW 105 26 30 3 7 49 = true), nm_eq, nI_1]
theorem ci_X7_init_107 : fn_X7_init (cSt o 107) (o + 51) = some (cSt o 109) := by
  unfold fn_X7_init
  rw [cSt_nA (i := 107) (n := 52) (t := 20) (ln := 4) (B := 4) (x := 4) rfl (by decide +kernel : kA 107 52 20 4 4 = true), cSt_pR (i := 108) (a := 51) (ci := 7) (k := 3) (b := 52) (by decide +kernel : kP 108 51 7 3 52 = true)]
theorem ci_X5_init_63_90_4 : lp_X5_init_63 (o + 27) (nI 4) (cSt o 106) = some (.inl (nI 5, cSt o 110)) := by
  unfold lp_X5_init_63
  rw [if_neg (by decide), cSt_gR (i := 106) (a := 27) (ci := 5) (k := 1) (b := 30) (by decide +kernel : kG 106 27 5 1 30 = true), cSt_nO (i := 106) (n := 51) (ci := 7) (by decide +kernel : kO 106 51 7 = true), cSt_ck (i := 107) (a := 51) (ci := 7) (by decide +kernel : kC 107 51 7 = true), ci_X7_init_107, bnd_s, cSt_wR (i := 109) (t := 26) (a := 30) (k := 4) (x := nI 4) (ci := 7) (b := 51) rfl (by decide +kernel : kW 109 26 30 4 7 51 = true), nm_eq, nI_1]
theorem ci_X5_init_63_90 : itr (fun s : Int32 × QM => lp_X5_init_63 (o + 27) s.1 s.2) FU (0, cSt o 90) = some (cSt o 110) := by
  exact (itr_go (n := 2047) ci_X5_init_63_90_0).trans ((itr_go (n := 2046) ci_X5_init_63_90_1).trans ((itr_go (n := 2045) ci_X5_init_63_90_2).trans ((itr_go (n := 2044) ci_X5_init_63_90_3).trans ((itr_go (n := 2043) ci_X5_init_63_90_4).trans (itr_exit (n := 2042) (by show lp_X5_init_63 (o + 27) (nI 5) (cSt o 110) = _; unfold lp_X5_init_63; rw [if_pos (by decide)]))))))
theorem ci_X5_init_57 : fn_X5_init (cSt o 57) (o + 27) = some (cSt o 110) := by
  unfold fn_X5_init
  rw [cSt_nO (i := 57) (n := 28) (ci := 2) (by decide +kernel : kO 57 28 2 = true), cSt_ck (i := 58) (a := 28) (ci := 2) (by decide +kernel : kC 58 28 2 = true), ci_X2_init_58, bnd_s, cSt_pR (i := 60) (a := 27) (ci := 5) (k := 0) (b := 28) (by decide +kernel : kP 60 27 5 0 28 = true), cSt_nA (i := 61) (n := 30) (t := 26) (ln := 5) (B := 5) (x := 5) rfl (by decide +kernel : kA 61 30 26 5 5 = true), cSt_pR (i := 62) (a := 27) (ci := 5) (k := 1) (b := 30) (by decide +kernel : kP 62 27 5 1 30 = true), cSt_nO (i := 63) (n := 31) (ci := 4) (by decide +kernel : kO 63 31 4 = true), cSt_ck (i := 64) (a := 31) (ci := 4) (by decide +kernel : kC 64 31 4 = true), ci_X4_init_64, bnd_s, cSt_pR (i := 71) (a := 27) (ci := 5) (k := 4) (b := 31) (by decide +kernel : kP 71 27 5 4 31 = true), cSt_nO (i := 72) (n := 35) (ci := 4) (by decide +kernel : kO 72 35 4 = true), cSt_ck (i := 73) (a := 35) (ci := 4) (by decide +kernel : kC 73 35 4 = true), ci_X4_init_73, bnd_s, cSt_pR (i := 80) (a := 27) (ci := 5) (k := 5) (b := 35) (by decide +kernel : kP 80 27 5 5 35 = true), cSt_nO (i := 81) (n := 39) (ci := 4) (by decide +kernel : kO 81 39 4 = true), cSt_ck (i := 82) (a := 39) (ci := 4) (by decide +kernel : kC 82 39 4 = true), ci_X4_init_82, bnd_s, cSt_pR (i := 89) (a := 27) (ci := 5) (k := 6) (b := 39) (by decide +kernel : kP 89 27 5 6 39 = true), ci_X5_init_63_90, bnd_s]
theorem ci_X3_init_112 : fn_X3_init (cSt o 112) (o + 53) = some (cSt o 116) := by
  unfold fn_X3_init
  rw [cSt_nA (i := 112) (n := 54) (t := 22) (ln := 100) (B := 100) (x := 100) rfl (by decide +kernel : kA 112 54 22 100 100 = true), cSt_pR (i := 113) (a := 53) (ci := 3) (k := 0) (b := 54) (by decide +kernel : kP 113 53 3 0 54 = true), cSt_nA (i := 114) (n := 55) (t := 20) (ln := 16) (B := 16) (x := 16) rfl (by decide +kernel : kA 114 55 20 16 16 = true), cSt_pR (i := 115) (a := 53) (ci := 3) (k := 6) (b := 55) (by decide +kernel : kP 115 53 3 6 55 = true)]
theorem ci_X0_init_118 : fn_X0_init (cSt o 118) (o + 56) = some (cSt o 120) := by
  unfold fn_X0_init
  rw [cSt_nA (i := 118) (n := 57) (t := 20) (ln := 20) (B := 20) (x := 20) rfl (by decide +kernel : kA 118 57 20 20 20 = true), cSt_pR (i := 119) (a := 56) (ci := 0) (k := 0) (b := 57) (by decide +kernel : kP 119 56 0 0 57 = true)]
theorem ci_X2_init_124 : fn_X2_init (cSt o 124) (o + 59) = some (cSt o 126) := by
  unfold fn_X2_init
  rw [cSt_nA (i := 124) (n := 60) (t := 20) (ln := 16) (B := 16) (x := 16) rfl (by decide +kernel : kA 124 60 20 16 16 = true), cSt_pR (i := 125) (a := 59) (ci := 2) (k := 0) (b := 60) (by decide +kernel : kP 125 59 2 0 60 = true)]
theorem ci_X7_init_128 : fn_X7_init (cSt o 128) (o + 61) = some (cSt o 130) := by
  unfold fn_X7_init
  rw [cSt_nA (i := 128) (n := 62) (t := 20) (ln := 4) (B := 4) (x := 4) rfl (by decide +kernel : kA 128 62 20 4 4 = true), cSt_pR (i := 129) (a := 61) (ci := 7) (k := 3) (b := 62) (by decide +kernel : kP 129 61 7 3 62 = true)]
theorem ci_X1_init_134 : fn_X1_init (cSt o 134) (o + 64) 99 10 = some (cSt o 139) := by
  have e := x1_c (M := cSt o 134) (o := o) (h := 64) (p1 := 99) (p2 := 10) (cSt_mz' (i := 134) (n := 65) (by decide +kernel)) (cSt_mt (i := 134) (a := 64) (ci := 1) (by decide +kernel))
  rw [cSt_bw] at e
  exact e
theorem ci_X6_init_142 : fn_X6_init (cSt o 142) (o + 66) = some (cSt o 145) := by
  unfold fn_X6_init
  rw [cSt_pI (i := 142) (a := 66) (ci := 6) (k := 0) (v := (-1)) (by decide +kernel : kI 142 66 6 0 (-1) = true), cSt_nA (i := 143) (n := 67) (t := 24) (ln := 60) (B := 60) (x := 60) rfl (by decide +kernel : kA 143 67 24 60 60 = true), cSt_pR (i := 144) (a := 66) (ci := 6) (k := 2) (b := 67) (by decide +kernel : kP 144 66 6 2 67 = true)]
theorem ci_X8_init_121_141_0 : lp_X8_init_121 (o + 0) (nI 0) (cSt o 141) = some (.inl (nI 1, cSt o 146)) := by
  unfold lp_X8_init_121
  rw [if_neg (by decide), cSt_gR (i := 141) (a := 0) (ci := 8) (k := 6) (b := 58) (by decide +kernel : kG 141 0 8 6 58 = true), cSt_nO (i := 141) (n := 66) (ci := 6) (by decide +kernel : kO 141 66 6 = true), cSt_ck (i := 142) (a := 66) (ci := 6) (by decide +kernel : kC 142 66 6 = true), ci_X6_init_142, bnd_s, cSt_wR (i := 145) (t := 25) (a := 58) (k := 0) (x := nI 0) (ci := 6) (b := 66) rfl (by decide +kernel : kW 145 25 58 0 6 66 = true), nm_eq, nI_1]
theorem ci_X6_init_147 : fn_X6_init (cSt o 147) (o + 68) = some (cSt o 150) := by
  unfold fn_X6_init
  rw [cSt_pI (i := 147) (a := 68) (ci := 6) (k := 0) (v := (-1)) (by decide +kernel : kI 147 68 6 0 (-1) = true), cSt_nA (i := 148) (n := 69) (t := 24) (ln := 60) (B := 60) (x := 60) rfl (by decide +kernel : kA 148 69 24 60 60 = true), cSt_pR (i := 149) (a := 68) (ci := 6) (k := 2) (b := 69) (by decide +kernel : kP 149 68 6 2 69 = true)]
theorem ci_X8_init_121_141_1 : lp_X8_init_121 (o + 0) (nI 1) (cSt o 146) = some (.inl (nI 2, cSt o 151)) := by
  unfold lp_X8_init_121
  rw [if_neg (by decide), cSt_gR (i := 146) (a := 0) (ci := 8) (k := 6) (b := 58) (by decide +kernel : kG 146 0 8 6 58 = true), cSt_nO (i := 146) (n := 68) (ci := 6) (by decide +kernel : kO 146 68 6 = true), cSt_ck (i := 147) (a := 68) (ci := 6) (by decide +kernel : kC 147 68 6 = true), ci_X6_init_147, bnd_s, cSt_wR (i := 150) (t := 25) (a := 58) (k := 1) (x := nI 1) (ci := 6) (b := 68) rfl (by decide +kernel : kW 150 25 58 1 6 68 = true), nm_eq, nI_1]
theorem ci_X6_init_152 : fn_X6_init (cSt o 152) (o + 70) = some (cSt o 155) := by
  unfold fn_X6_init
  rw [cSt_pI (i := 152) (a := 70) (ci := 6) (k := 0) (v := (-1)) (by decide +kernel : kI 152 70 6 0 (-1) = true), cSt_nA (i := 153) (n := 71) (t := 24) (ln := 60) (B := 60) (x := 60) rfl (by decide +kernel : kA 153 71 24 60 60 = true), cSt_pR (i := 154) (a := 70) (ci := 6) (k := 2) (b := 71) (by decide +kernel : kP 154 70 6 2 71 = true)]
theorem ci_X8_init_121_141_2 : lp_X8_init_121 (o + 0) (nI 2) (cSt o 151) = some (.inl (nI 3, cSt o 156)) := by
  unfold lp_X8_init_121
  rw [if_neg (by decide), cSt_gR (i := 151) (a := 0) (ci := 8) (k := 6) (b := 58) (by decide +kernel : kG 151 0 8 6 58 = true), cSt_nO (i := 151) (n := 70) (ci := 6) (by decide +kernel : kO 151 70 6 = true), cSt_ck (i := 152) (a := 70) (ci := 6) (by decide +kernel : kC 152 70 6 = true), ci_X6_init_152, bnd_s, cSt_wR (i := 155) (t := 25) (a := 58) (k := 2) (x := nI 2) (ci := 6) (b := 70) rfl (by decide +kernel : kW 155 25 58 2 6 70 = true), nm_eq, nI_1]
theorem ci_X6_init_157 : fn_X6_init (cSt o 157) (o + 72) = some (cSt o 160) := by
  unfold fn_X6_init
  rw [cSt_pI (i := 157) (a := 72) (ci := 6) (k := 0) (v := (-1)) (by decide +kernel : kI 157 72 6 0 (-1) = true), cSt_nA (i := 158) (n := 73) (t := 24) (ln := 60) (B := 60) (x := 60) rfl (by decide +kernel : kA 158 73 24 60 60 = true), cSt_pR (i := 159) (a := 72) (ci := 6) (k := 2) (b := 73) (by decide +kernel : kP 159 72 6 2 73 = true)]
theorem ci_X8_init_121_141_3 : lp_X8_init_121 (o + 0) (nI 3) (cSt o 156) = some (.inl (nI 4, cSt o 161)) := by
  unfold lp_X8_init_121
  rw [if_neg (by decide), cSt_gR (i := 156) (a := 0) (ci := 8) (k := 6) (b := 58) (by decide +kernel : kG 156 0 8 6 58 = true), cSt_nO (i := 156) (n := 72) (ci := 6) (by decide +kernel : kO 156 72 6 = true), cSt_ck (i := 157) (a := 72) (ci := 6) (by decide +kernel : kC 157 72 6 = true), ci_X6_init_157, bnd_s, cSt_wR (i := 160) (t := 25) (a := 58) (k := 3) (x := nI 3) (ci := 6) (b := 72) rfl (by decide +kernel : kW 160 25 58 3 6 72 = true), nm_eq, nI_1]
theorem ci_X6_init_162 : fn_X6_init (cSt o 162) (o + 74) = some (cSt o 165) := by
  unfold fn_X6_init
  rw [cSt_pI (i := 162) (a := 74) (ci := 6) (k := 0) (v := (-1)) (by decide +kernel : kI 162 74 6 0 (-1) = true), cSt_nA (i := 163) (n := 75) (t := 24) (ln := 60) (B := 60) (x := 60) rfl (by decide +kernel : kA 163 75 24 60 60 = true), cSt_pR (i := 164) (a := 74) (ci := 6) (k := 2) (b := 75) (by decide +kernel : kP 164 74 6 2 75 = true)]
theorem ci_X8_init_121_141_4 : lp_X8_init_121 (o + 0) (nI 4) (cSt o 161) = some (.inl (nI 5, cSt o 166)) := by
  unfold lp_X8_init_121
  rw [if_neg (by decide), cSt_gR (i := 161) (a := 0) (ci := 8) (k := 6) (b := 58) (by decide +kernel : kG 161 0 8 6 58 = true), cSt_nO (i := 161) (n := 74) (ci := 6) (by decide +kernel : kO 161 74 6 = true), cSt_ck (i := 162) (a := 74) (ci := 6) (by decide +kernel : kC 162 74 6 = true), ci_X6_init_162, bnd_s, cSt_wR (i := 165) (t := 25) (a := 58) (k := 4) (x := nI 4) (ci := 6) (b := 74) rfl (by decide +kernel : kW 165 25 58 4 6 74 = true), nm_eq, nI_1]
theorem ci_X6_init_167 : fn_X6_init (cSt o 167) (o + 76) = some (cSt o 170) := by
  unfold fn_X6_init
  rw [cSt_pI (i := 167) (a := 76) (ci := 6) (k := 0) (v := (-1)) (by decide +kernel : kI 167 76 6 0 (-1) = true), cSt_nA (i := 168) (n := 77) (t := 24) (ln := 60) (B := 60) (x := 60) rfl (by decide +kernel : kA 168 77 24 60 60 = true), cSt_pR (i := 169) (a := 76) (ci := 6) (k := 2) (b := 77) (by decide +kernel : kP 169 76 6 2 77 = true)]
theorem ci_X8_init_121_141_5 : lp_X8_init_121 (o + 0) (nI 5) (cSt o 166) = some (.inl (nI 6, cSt o 171)) := by
  unfold lp_X8_init_121
  rw [if_neg (by decide), cSt_gR (i := 166) (a := 0) (ci := 8) (k := 6) (b := 58) (by decide +kernel : kG 166 0 8 6 58 = true), cSt_nO (i := 166) (n := 76) (ci := 6) (by decide +kernel : kO 166 76 6 = true), cSt_ck (i := 167) (a := 76) (ci := 6) (by decide +kernel : kC 167 76 6 = true), ci_X6_init_167, bnd_s, cSt_wR (i := 170) (t := 25) (a := 58) (k := 5) (x := nI 5) (ci := 6) (b := 76) rfl (by decide +kernel : kW 170 25 58 5 6 76 = true), nm_eq, nI_1]
theorem ci_X8_init_121_141 : itr (fun s : Int32 × QM => lp_X8_init_121 (o + 0) s.1 s.2) FU (0, cSt o 141) = some (cSt o 171) := by
  exact (itr_go (n := 2047) ci_X8_init_121_141_0).trans ((itr_go (n := 2046) ci_X8_init_121_141_1).trans ((itr_go (n := 2045) ci_X8_init_121_141_2).trans ((itr_go (n := 2044) ci_X8_init_121_141_3).trans ((itr_go (n := 2043) ci_X8_init_121_141_4).trans ((itr_go (n := 2042) ci_X8_init_121_141_5).trans (itr_exit (n := 2041) (by show lp_X8_init_121 (o + 0) (nI 6) (cSt o 171) = _; unfold lp_X8_init_121; rw [if_pos (by decide)])))))))
theorem ci_X8_init : fn_X8_init (cSt o 1) (o + 0) = some (cSt o 171) := by
  unfold fn_X8_init
  rw [cSt_nO (i := 1) (n := 1) (ci := 5) (by decide +kernel : kO 1 1 5 = true), cSt_ck (i := 2) (a := 1) (ci := 5) (by decide +kernel : kC 2 1 5 = true), ci_X5_init_2, bnd_s, cSt_pR (i := 55) (a := 0) (ci := 8) (k := 0) (b := 1) (by decide +kernel : kP 55 0 8 0 1 = true), cSt_nO (i := 56) (n := 27) (ci := 5) (by decide +kernel : kO 56 27 5 = true), cSt_ck (i := 57) (a := 27) (ci := 5) (by decide +kernel : kC 57 27 5 = true), ci_X5_init_57, bnd_s, cSt_pR (i := 110) (a := 0) (ci := 8) (k := 1) (b := 27) (by decide +kernel : kP 110 0 8 1 27 = true), cSt_nO (i := 111) (n := 53) (ci := 3) (by decide +kernel : kO 111 53 3 = true), cSt_ck (i := 112) (a := 53) (ci := 3) (by decide +kernel : kC 112 53 3 = true), ci_X3_init_112, bnd_s, cSt_pR (i := 116) (a := 0) (ci := 8) (k := 4) (b := 53) (by decide +kernel : kP 116 0 8 4 53 = true), cSt_nO (i := 117) (n := 56) (ci := 0) (by decide +kernel : kO 117 56 0 = true), cSt_ck (i := 118) (a := 56) (ci := 0) (by decide +kernel : kC 118 56 0 = true), ci_X0_init_118, bnd_s, cSt_pR (i := 120) (a := 0) (ci := 8) (k := 5) (b := 56) (by decide +kernel : kP 120 0 8 5 56 = true), cSt_nA (i := 121) (n := 58) (t := 25) (ln := 6) (B := 6) (x := 6) rfl (by decide +kernel : kA 121 58 25 6 6 = true), cSt_pR (i := 122) (a := 0) (ci := 8) (k := 6) (b := 58) (by decide +kernel : kP 122 0 8 6 58 = true), cSt_nO (i := 123) (n := 59) (ci := 2) (by decide +kernel : kO 123 59 2 = true), cSt_ck (i := 124) (a := 59) (ci := 2) (by decide +kernel : kC 124 59 2 = true), ci_X2_init_124, bnd_s, cSt_pR (i := 126) (a := 0) (ci := 8) (k := 7) (b := 59) (by decide +kernel : kP 126 0 8 7 59 = true), cSt_nO (i := 127) (n := 61) (ci := 7) (by decide +kernel : kO 127 61 7 = true), cSt_ck (i := 128) (a := 61) (ci := 7) (by decide +kernel : kC 128 61 7 = true), ci_X7_init_128, bnd_s, cSt_pR (i := 130) (a := 0) (ci := 8) (k := 8) (b := 61) (by decide +kernel : kP 130 0 8 8 61 = true), cSt_nA (i := 131) (n := 63) (t := 21) (ln := 100) (B := 100) (x := 100) rfl (by decide +kernel : kA 131 63 21 100 100 = true), cSt_pR (i := 132) (a := 0) (ci := 8) (k := 9) (b := 63) (by decide +kernel : kP 132 0 8 9 63 = true), cSt_gR (i := 133) (a := 0) (ci := 8) (k := 0) (b := 1) (by decide +kernel : kG 133 0 8 0 1 = true), cSt_nO (i := 133) (n := 64) (ci := 1) (by decide +kernel : kO 133 64 1 = true), cSt_ck (i := 134) (a := 64) (ci := 1) (by decide +kernel : kC 134 64 1 = true), ci_X1_init_134, bnd_s, cSt_pR (i := 139) (a := 1) (ci := 5) (k := 7) (b := 64) (by decide +kernel : kP 139 1 5 7 64 = true), cSt_gR (i := 140) (a := 0) (ci := 8) (k := 1) (b := 27) (by decide +kernel : kG 140 0 8 1 27 = true), cSt_gR (i := 140) (a := 0) (ci := 8) (k := 0) (b := 1) (by decide +kernel : kG 140 0 8 0 1 = true), cSt_gR (i := 140) (a := 1) (ci := 5) (k := 7) (b := 64) (by decide +kernel : kG 140 1 5 7 64 = true), cSt_pR (i := 140) (a := 27) (ci := 5) (k := 7) (b := 64) (by decide +kernel : kP 140 27 5 7 64 = true), ci_X8_init_121_141, bnd_s]
theorem ci_X9_init : fn_X9_init (cSt o 172) (o + 78) = some (cSt o 311) := by
  unfold fn_X9_init
  rw [cSt_pI (i := 172) (a := 78) (ci := 9) (k := 0) (v := 0) (by decide +kernel : kI 172 78 9 0 0 = true), cSt_pI (i := 173) (a := 78) (ci := 9) (k := 1) (v := 0) (by decide +kernel : kI 173 78 9 1 0 = true), cSt_nA (i := 174) (n := 79) (t := 20) (ln := 16) (B := 16) (x := 16) rfl (by decide +kernel : kA 174 79 20 16 16 = true), cSt_pR (i := 175) (a := 78) (ci := 9) (k := 2) (b := 79) (by decide +kernel : kP 175 78 9 2 79 = true), cSt_nA (i := 176) (n := 80) (t := 20) (ln := 5) (B := 5) (x := 5) rfl (by decide +kernel : kA 176 80 20 5 5 = true), cSt_pR (i := 177) (a := 78) (ci := 9) (k := 3) (b := 80) (by decide +kernel : kP 177 78 9 3 80 = true), cSt_nA (i := 178) (n := 81) (t := 20) (ln := 5) (B := 5) (x := 5) rfl (by decide +kernel : kA 178 81 20 5 5 = true), cSt_pR (i := 179) (a := 78) (ci := 9) (k := 4) (b := 81) (by decide +kernel : kP 179 78 9 4 81 = true), cSt_nA (i := 180) (n := 82) (t := 20) (ln := 5) (B := 5) (x := 5) rfl (by decide +kernel : kA 180 82 20 5 5 = true), cSt_pR (i := 181) (a := 78) (ci := 9) (k := 5) (b := 82) (by decide +kernel : kP 181 78 9 5 82 = true), cSt_nA (i := 182) (n := 83) (t := 20) (ln := 20) (B := 20) (x := 20) rfl (by decide +kernel : kA 182 83 20 20 20 = true), cSt_pR (i := 183) (a := 78) (ci := 9) (k := 6) (b := 83) (by decide +kernel : kP 183 78 9 6 83 = true), cSt_pI (i := 184) (a := 78) (ci := 9) (k := 7) (v := 0) (by decide +kernel : kI 184 78 9 7 0 = true), cSt_pI (i := 185) (a := 78) (ci := 9) (k := 8) (v := (-1)) (by decide +kernel : kI 185 78 9 8 (-1) = true), cSt_pI (i := 186) (a := 78) (ci := 9) (k := 9) (v := 0) (by decide +kernel : kI 186 78 9 9 0 = true), cSt_pI (i := 187) (a := 78) (ci := 9) (k := 10) (v := 0) (by decide +kernel : kI 187 78 9 10 0 = true), cSt_pI (i := 188) (a := 78) (ci := 9) (k := 11) (v := 0) (by decide +kernel : kI 188 78 9 11 0 = true), cSt_nA (i := 189) (n := 84) (t := 20) (ln := 100) (B := 100) (x := 100) rfl (by decide +kernel : kA 189 84 20 100 100 = true), cSt_pR (i := 190) (a := 78) (ci := 9) (k := 12) (b := 84) (by decide +kernel : kP 190 78 9 12 84 = true), cSt_nA (i := 191) (n := 85) (t := 20) (ln := 6) (B := 6) (x := 6) rfl (by decide +kernel : kA 191 85 20 6 6 = true), cSt_pR (i := 192) (a := 78) (ci := 9) (k := 13) (b := 85) (by decide +kernel : kP 192 78 9 13 85 = true), cSt_nA (i := 193) (n := 86) (t := 20) (ln := 60) (B := 60) (x := 60) rfl (by decide +kernel : kA 193 86 20 60 60 = true), cSt_pR (i := 194) (a := 78) (ci := 9) (k := 14) (b := 86) (by decide +kernel : kP 194 78 9 14 86 = true), cSt_nA (i := 195) (n := 87) (t := 20) (ln := 60) (B := 60) (x := 60) rfl (by decide +kernel : kA 195 87 20 60 60 = true), cSt_pR (i := 196) (a := 78) (ci := 9) (k := 15) (b := 87) (by decide +kernel : kP 196 78 9 15 87 = true), cSt_nA (i := 197) (n := 88) (t := 20) (ln := 60) (B := 60) (x := 60) rfl (by decide +kernel : kA 197 88 20 60 60 = true), cSt_pR (i := 198) (a := 78) (ci := 9) (k := 16) (b := 88) (by decide +kernel : kP 198 78 9 16 88 = true), cSt_nA (i := 199) (n := 89) (t := 20) (ln := 60) (B := 60) (x := 60) rfl (by decide +kernel : kA 199 89 20 60 60 = true), cSt_pR (i := 200) (a := 78) (ci := 9) (k := 17) (b := 89) (by decide +kernel : kP 200 78 9 17 89 = true), cSt_nA (i := 201) (n := 90) (t := 20) (ln := 600) (B := 600) (x := 600) rfl (by decide +kernel : kA 201 90 20 600 600 = true), cSt_pR (i := 202) (a := 78) (ci := 9) (k := 18) (b := 90) (by decide +kernel : kP 202 78 9 18 90 = true), cSt_nA (i := 203) (n := 91) (t := 20) (ln := 101) (B := 101) (x := 101) rfl (by decide +kernel : kA 203 91 20 101 101 = true), cSt_pR (i := 204) (a := 78) (ci := 9) (k := 19) (b := 91) (by decide +kernel : kP 204 78 9 19 91 = true), cSt_pI (i := 205) (a := 78) (ci := 9) (k := 20) (v := 0) (by decide +kernel : kI 205 78 9 20 0 = true), cSt_pI (i := 206) (a := 78) (ci := 9) (k := 21) (v := 0) (by decide +kernel : kI 206 78 9 21 0 = true), cSt_pI (i := 207) (a := 78) (ci := 9) (k := 22) (v := 0) (by decide +kernel : kI 207 78 9 22 0 = true), cSt_nA (i := 208) (n := 92) (t := 20) (ln := 18) (B := 18) (x := 18) rfl (by decide +kernel : kA 208 92 20 18 18 = true), cSt_wI (i := 209) (t := 20) (a := 92) (k := 0) (x := 0) (v := 116) rfl (by decide +kernel : kJ 209 20 92 0 116 = true), cSt_wI (i := 210) (t := 20) (a := 92) (k := 1) (x := 1) (v := 104) rfl (by decide +kernel : kJ 210 20 92 1 104 = true), cSt_wI (i := 211) (t := 20) (a := 92) (k := 2) (x := 2) (v := 105) rfl (by decide +kernel : kJ 211 20 92 2 105 = true), cSt_wI (i := 212) (t := 20) (a := 92) (k := 3) (x := 3) (v := 99) rfl (by decide +kernel : kJ 212 20 92 3 99 = true), cSt_wI (i := 213) (t := 20) (a := 92) (k := 4) (x := 4) (v := 107) rfl (by decide +kernel : kJ 213 20 92 4 107 = true), cSt_wI (i := 214) (t := 20) (a := 92) (k := 5) (x := 5) (v := 116) rfl (by decide +kernel : kJ 214 20 92 5 116 = true), cSt_wI (i := 215) (t := 20) (a := 92) (k := 6) (x := 6) (v := 104) rfl (by decide +kernel : kJ 215 20 92 6 104 = true), cSt_wI (i := 216) (t := 20) (a := 92) (k := 7) (x := 7) (v := 105) rfl (by decide +kernel : kJ 216 20 92 7 105 = true), cSt_wI (i := 217) (t := 20) (a := 92) (k := 8) (x := 8) (v := 110) rfl (by decide +kernel : kJ 217 20 92 8 110 = true), cSt_wI (i := 218) (t := 20) (a := 92) (k := 9) (x := 9) (v := 115) rfl (by decide +kernel : kJ 218 20 92 9 115 = true), cSt_wI (i := 219) (t := 20) (a := 92) (k := 10) (x := 10) (v := 112) rfl (by decide +kernel : kJ 219 20 92 10 112 = true), cSt_wI (i := 220) (t := 20) (a := 92) (k := 11) (x := 11) (v := 111) rfl (by decide +kernel : kJ 220 20 92 11 111 = true), cSt_wI (i := 221) (t := 20) (a := 92) (k := 12) (x := 12) (v := 111) rfl (by decide +kernel : kJ 221 20 92 12 111 = true), cSt_wI (i := 222) (t := 20) (a := 92) (k := 13) (x := 13) (v := 110) rfl (by decide +kernel : kJ 222 20 92 13 110 = true), cSt_wI (i := 223) (t := 20) (a := 92) (k := 14) (x := 14) (v := 109) rfl (by decide +kernel : kJ 223 20 92 14 109 = true), cSt_wI (i := 224) (t := 20) (a := 92) (k := 15) (x := 15) (v := 105) rfl (by decide +kernel : kJ 224 20 92 15 105 = true), cSt_wI (i := 225) (t := 20) (a := 92) (k := 16) (x := 16) (v := 108) rfl (by decide +kernel : kJ 225 20 92 16 108 = true), cSt_wI (i := 226) (t := 20) (a := 92) (k := 17) (x := 17) (v := 107) rfl (by decide +kernel : kJ 226 20 92 17 107 = true), cSt_pR (i := 227) (a := 78) (ci := 9) (k := 23) (b := 92) (by decide +kernel : kP 227 78 9 23 92 = true), cSt_nA (i := 228) (n := 93) (t := 21) (ln := 100) (B := 100) (x := 100) rfl (by decide +kernel : kA 228 93 21 100 100 = true), cSt_pR (i := 229) (a := 78) (ci := 9) (k := 24) (b := 93) (by decide +kernel : kP 229 78 9 24 93 = true), cSt_pI (i := 230) (a := 78) (ci := 9) (k := 25) (v := 0) (by decide +kernel : kI 230 78 9 25 0 = true), cSt_nA (i := 231) (n := 94) (t := 20) (ln := 16) (B := 16) (x := 16) rfl (by decide +kernel : kA 231 94 20 16 16 = true), cSt_pR (i := 232) (a := 78) (ci := 9) (k := 26) (b := 94) (by decide +kernel : kP 232 78 9 26 94 = true), cSt_nA (i := 233) (n := 95) (t := 20) (ln := 16) (B := 16) (x := 16) rfl (by decide +kernel : kA 233 95 20 16 16 = true), cSt_pR (i := 234) (a := 78) (ci := 9) (k := 27) (b := 95) (by decide +kernel : kP 234 78 9 27 95 = true), cSt_nA (i := 235) (n := 96) (t := 21) (ln := 16) (B := 16) (x := 16) rfl (by decide +kernel : kA 235 96 21 16 16 = true), cSt_pR (i := 236) (a := 78) (ci := 9) (k := 28) (b := 96) (by decide +kernel : kP 236 78 9 28 96 = true), cSt_pI (i := 237) (a := 78) (ci := 9) (k := 29) (v := 0) (by decide +kernel : kI 237 78 9 29 0 = true), cSt_pI (i := 238) (a := 78) (ci := 9) (k := 30) (v := 0) (by decide +kernel : kI 238 78 9 30 0 = true), cSt_nA (i := 239) (n := 97) (t := 20) (ln := 16) (B := 16) (x := 16) rfl (by decide +kernel : kA 239 97 20 16 16 = true), cSt_pR (i := 240) (a := 78) (ci := 9) (k := 31) (b := 97) (by decide +kernel : kP 240 78 9 31 97 = true), cSt_nA (i := 241) (n := 98) (t := 20) (ln := 16) (B := 16) (x := 16) rfl (by decide +kernel : kA 241 98 20 16 16 = true), cSt_pR (i := 242) (a := 78) (ci := 9) (k := 32) (b := 98) (by decide +kernel : kP 242 78 9 32 98 = true), cSt_pI (i := 243) (a := 78) (ci := 9) (k := 33) (v := 0) (by decide +kernel : kI 243 78 9 33 0 = true), cSt_nA (i := 244) (n := 99) (t := 20) (ln := 5) (B := 5) (x := 5) rfl (by decide +kernel : kA 244 99 20 5 5 = true), cSt_pR (i := 245) (a := 78) (ci := 9) (k := 34) (b := 99) (by decide +kernel : kP 245 78 9 34 99 = true), cSt_nA (i := 246) (n := 100) (t := 20) (ln := 5) (B := 5) (x := 5) rfl (by decide +kernel : kA 246 100 20 5 5 = true), cSt_pR (i := 247) (a := 78) (ci := 9) (k := 35) (b := 100) (by decide +kernel : kP 247 78 9 35 100 = true), cSt_nA (i := 248) (n := 101) (t := 20) (ln := 80) (B := 80) (x := 80) rfl (by decide +kernel : kA 248 101 20 80 80 = true), cSt_pR (i := 249) (a := 78) (ci := 9) (k := 36) (b := 101) (by decide +kernel : kP 249 78 9 36 101 = true), cSt_nA (i := 250) (n := 102) (t := 21) (ln := 5) (B := 5) (x := 5) rfl (by decide +kernel : kA 250 102 21 5 5 = true), cSt_pR (i := 251) (a := 78) (ci := 9) (k := 37) (b := 102) (by decide +kernel : kP 251 78 9 37 102 = true), cSt_pI (i := 252) (a := 78) (ci := 9) (k := 38) (v := 0) (by decide +kernel : kI 252 78 9 38 0 = true), cSt_pI (i := 253) (a := 78) (ci := 9) (k := 39) (v := 0) (by decide +kernel : kI 253 78 9 39 0 = true), cSt_nA (i := 254) (n := 103) (t := 20) (ln := 10) (B := 10) (x := 10) rfl (by decide +kernel : kA 254 103 20 10 10 = true), cSt_pR (i := 255) (a := 78) (ci := 9) (k := 40) (b := 103) (by decide +kernel : kP 255 78 9 40 103 = true), cSt_nA (i := 256) (n := 104) (t := 20) (ln := 10) (B := 10) (x := 10) rfl (by decide +kernel : kA 256 104 20 10 10 = true), cSt_pR (i := 257) (a := 78) (ci := 9) (k := 41) (b := 104) (by decide +kernel : kP 257 78 9 41 104 = true), cSt_nA (i := 258) (n := 105) (t := 20) (ln := 8) (B := 8) (x := 8) rfl (by decide +kernel : kA 258 105 20 8 8 = true), cSt_pR (i := 259) (a := 78) (ci := 9) (k := 42) (b := 105) (by decide +kernel : kP 259 78 9 42 105 = true), cSt_nA (i := 260) (n := 106) (t := 20) (ln := 8) (B := 8) (x := 8) rfl (by decide +kernel : kA 260 106 20 8 8 = true), cSt_pR (i := 261) (a := 78) (ci := 9) (k := 43) (b := 106) (by decide +kernel : kP 261 78 9 43 106 = true), cSt_pI (i := 262) (a := 78) (ci := 9) (k := 44) (v := 0) (by decide +kernel : kI 262 78 9 44 0 = true), cSt_pI (i := 263) (a := 78) (ci := 9) (k := 45) (v := (-1)) (by decide +kernel : kI 263 78 9 45 (-1) = true), cSt_pI (i := 264) (a := 78) (ci := 9) (k := 46) (v := 0) (by decide +kernel : kI 264 78 9 46 0 = true), cSt_pI (i := 265) (a := 78) (ci := 9) (k := 47) (v := 0) (by decide +kernel : kI 265 78 9 47 0 = true), cSt_pI (i := 266) (a := 78) (ci := 9) (k := 48) (v := 0) (by decide +kernel : kI 266 78 9 48 0 = true), cSt_pI (i := 267) (a := 78) (ci := 9) (k := 49) (v := 0) (by decide +kernel : kI 267 78 9 49 0 = true), cSt_pI (i := 268) (a := 78) (ci := 9) (k := 50) (v := 0) (by decide +kernel : kI 268 78 9 50 0 = true), cSt_pI (i := 269) (a := 78) (ci := 9) (k := 51) (v := 0) (by decide +kernel : kI 269 78 9 51 0 = true), cSt_nA (i := 270) (n := 107) (t := 20) (ln := 16) (B := 16) (x := 16) rfl (by decide +kernel : kA 270 107 20 16 16 = true), cSt_pR (i := 271) (a := 78) (ci := 9) (k := 52) (b := 107) (by decide +kernel : kP 271 78 9 52 107 = true), cSt_nA (i := 272) (n := 108) (t := 20) (ln := 5) (B := 5) (x := 5) rfl (by decide +kernel : kA 272 108 20 5 5 = true), cSt_pR (i := 273) (a := 78) (ci := 9) (k := 53) (b := 108) (by decide +kernel : kP 273 78 9 53 108 = true), cSt_nA (i := 274) (n := 109) (t := 20) (ln := 5) (B := 5) (x := 5) rfl (by decide +kernel : kA 274 109 20 5 5 = true), cSt_pR (i := 275) (a := 78) (ci := 9) (k := 54) (b := 109) (by decide +kernel : kP 275 78 9 54 109 = true), cSt_nA (i := 276) (n := 110) (t := 20) (ln := 5) (B := 5) (x := 5) rfl (by decide +kernel : kA 276 110 20 5 5 = true), cSt_pR (i := 277) (a := 78) (ci := 9) (k := 55) (b := 110) (by decide +kernel : kP 277 78 9 55 110 = true), cSt_nA (i := 278) (n := 111) (t := 20) (ln := 20) (B := 20) (x := 20) rfl (by decide +kernel : kA 278 111 20 20 20 = true), cSt_pR (i := 279) (a := 78) (ci := 9) (k := 56) (b := 111) (by decide +kernel : kP 279 78 9 56 111 = true), cSt_nA (i := 280) (n := 112) (t := 20) (ln := 5) (B := 5) (x := 5) rfl (by decide +kernel : kA 280 112 20 5 5 = true), cSt_pR (i := 281) (a := 78) (ci := 9) (k := 57) (b := 112) (by decide +kernel : kP 281 78 9 57 112 = true), cSt_nA (i := 282) (n := 113) (t := 20) (ln := 5) (B := 5) (x := 5) rfl (by decide +kernel : kA 282 113 20 5 5 = true), cSt_pR (i := 283) (a := 78) (ci := 9) (k := 58) (b := 113) (by decide +kernel : kP 283 78 9 58 113 = true), cSt_nA (i := 284) (n := 114) (t := 20) (ln := 10) (B := 10) (x := 10) rfl (by decide +kernel : kA 284 114 20 10 10 = true), cSt_pR (i := 285) (a := 78) (ci := 9) (k := 59) (b := 114) (by decide +kernel : kP 285 78 9 59 114 = true), cSt_nA (i := 286) (n := 115) (t := 20) (ln := 10) (B := 10) (x := 10) rfl (by decide +kernel : kA 286 115 20 10 10 = true), cSt_pR (i := 287) (a := 78) (ci := 9) (k := 60) (b := 115) (by decide +kernel : kP 287 78 9 60 115 = true), cSt_nA (i := 288) (n := 116) (t := 20) (ln := 8) (B := 8) (x := 8) rfl (by decide +kernel : kA 288 116 20 8 8 = true), cSt_pR (i := 289) (a := 78) (ci := 9) (k := 61) (b := 116) (by decide +kernel : kP 289 78 9 61 116 = true), cSt_nA (i := 290) (n := 117) (t := 20) (ln := 8) (B := 8) (x := 8) rfl (by decide +kernel : kA 290 117 20 8 8 = true), cSt_pR (i := 291) (a := 78) (ci := 9) (k := 62) (b := 117) (by decide +kernel : kP 291 78 9 62 117 = true), cSt_nA (i := 292) (n := 118) (t := 21) (ln := 5) (B := 5) (x := 5) rfl (by decide +kernel : kA 292 118 21 5 5 = true), cSt_pR (i := 293) (a := 78) (ci := 9) (k := 63) (b := 118) (by decide +kernel : kP 293 78 9 63 118 = true), cSt_pI (i := 294) (a := 78) (ci := 9) (k := 64) (v := 0) (by decide +kernel : kI 294 78 9 64 0 = true), cSt_nA (i := 295) (n := 119) (t := 20) (ln := 20) (B := 20) (x := 20) rfl (by decide +kernel : kA 295 119 20 20 20 = true), cSt_pR (i := 296) (a := 78) (ci := 9) (k := 65) (b := 119) (by decide +kernel : kP 296 78 9 65 119 = true), cSt_nA (i := 297) (n := 120) (t := 20) (ln := 6) (B := 6) (x := 6) rfl (by decide +kernel : kA 297 120 20 6 6 = true), cSt_wI (i := 298) (t := 20) (a := 120) (k := 0) (x := 0) (v := (-1)) rfl (by decide +kernel : kJ 298 20 120 0 (-1) = true), cSt_wI (i := 299) (t := 20) (a := 120) (k := 1) (x := 1) (v := (-1)) rfl (by decide +kernel : kJ 299 20 120 1 (-1) = true), cSt_wI (i := 300) (t := 20) (a := 120) (k := 2) (x := 2) (v := (-1)) rfl (by decide +kernel : kJ 300 20 120 2 (-1) = true), cSt_wI (i := 301) (t := 20) (a := 120) (k := 3) (x := 3) (v := (-1)) rfl (by decide +kernel : kJ 301 20 120 3 (-1) = true), cSt_wI (i := 302) (t := 20) (a := 120) (k := 4) (x := 4) (v := (-1)) rfl (by decide +kernel : kJ 302 20 120 4 (-1) = true), cSt_wI (i := 303) (t := 20) (a := 120) (k := 5) (x := 5) (v := (-1)) rfl (by decide +kernel : kJ 303 20 120 5 (-1) = true), cSt_pR (i := 304) (a := 78) (ci := 9) (k := 66) (b := 120) (by decide +kernel : kP 304 78 9 66 120 = true), cSt_nA (i := 305) (n := 121) (t := 20) (ln := 6) (B := 6) (x := 6) rfl (by decide +kernel : kA 305 121 20 6 6 = true), cSt_pR (i := 306) (a := 78) (ci := 9) (k := 67) (b := 121) (by decide +kernel : kP 306 78 9 67 121 = true), cSt_nA (i := 307) (n := 122) (t := 24) (ln := 360) (B := 360) (x := 360) rfl (by decide +kernel : kA 307 122 24 360 360 = true), cSt_pR (i := 308) (a := 78) (ci := 9) (k := 68) (b := 122) (by decide +kernel : kP 308 78 9 68 122 = true), cSt_nA (i := 309) (n := 123) (t := 24) (ln := 60) (B := 60) (x := 60) rfl (by decide +kernel : kA 309 123 24 60 60 = true), cSt_pR (i := 310) (a := 78) (ci := 9) (k := 69) (b := 123) (by decide +kernel : kP 310 78 9 69 123 = true)]
end CI1
/-! ===== the start ===== -/
section CI2
variable {o : Nat}
theorem rdI_app {a k : Nat} : ∀ (p1 p2 : List OPQ) (n : Nat) (x : Int32), rdI a k (p1 ++ p2) n x = rdI a k p2 (n + nal p1) (rdI a k p1 n x)
  | [], _, _, _ => rfl
  | p :: p1, p2, n, x => by
    have e1 : ∀ q : List OPQ, rdI a k (p :: q) n x = if p.1 = 0 then rdI a k q (n + 1) (if a = n then 0 else x) else if p.1 = 1 then rdI a k q n x else if p.1 = 2 then rdI a k q n (if a = p.2.1 ∧ k = p.2.2.1 then p.2.2.2.2 else x) else rdI a k q n (if a = p.2.1 then (if k < p.2.2.1 then p.2.2.2.2 else 0) else x) := fun _ => rfl
    have e2 : nal (p :: p1) = (if p.1 = 0 then 1 else 0) + nal p1 := rfl
    show rdI a k (p :: (p1 ++ p2)) n x = _
    rw [e1, e1, e2]
    by_cases h0 : p.1 = 0
    · rw [if_pos h0, if_pos h0, if_pos h0, rdI_app, Nat.add_assoc]
    · rw [if_neg h0, if_neg h0, if_neg h0, Nat.zero_add]
      by_cases h1 : p.1 = 1
      · rw [if_pos h1, if_pos h1, rdI_app]
      · rw [if_neg h1, if_neg h1]
        by_cases h2 : p.1 = 2
        · rw [if_pos h2, if_pos h2, rdI_app]
        · rw [if_neg h2, if_neg h2, rdI_app]
theorem rdI_skip {a k : Nat} : ∀ (ps : List OPQ) (n : Nat) (x : Int32), a < n → (∀ p ∈ ps, p.1 ≤ 1 ∨ ¬ a = p.2.1) → rdI a k ps n x = x
  | [], _, _, _, _ => rfl
  | p :: ps, n, x, hn, h => by
    have hp := h p List.mem_cons_self
    have hs : ∀ q ∈ ps, q.1 ≤ 1 ∨ ¬ a = q.2.1 := fun q hq => h q (List.mem_cons_of_mem _ hq)
    show (if p.1 = 0 then rdI a k ps (n + 1) (if a = n then 0 else x) else if p.1 = 1 then rdI a k ps n x else if p.1 = 2 then rdI a k ps n (if a = p.2.1 ∧ k = p.2.2.1 then p.2.2.2.2 else x) else rdI a k ps n (if a = p.2.1 then (if k < p.2.2.1 then p.2.2.2.2 else 0) else x)) = x
    by_cases h0 : p.1 = 0
    · rw [if_pos h0, if_neg (by omega)]; exact rdI_skip ps (n + 1) x (by omega) hs
    · rw [if_neg h0]
      by_cases h1 : p.1 = 1
      · rw [if_pos h1]; exact rdI_skip ps n x hn hs
      · rw [if_neg h1]
        have ha : ¬ a = p.2.1 := by rcases hp with hp | hp; omega; exact hp
        by_cases h2 : p.1 = 2
        · rw [if_pos h2, if_neg (fun q => ha q.1)]; exact rdI_skip ps n x hn hs
        · rw [if_neg h2, if_neg ha]; exact rdI_skip ps n x hn hs
theorem rd65 : ∀ k, rdI 65 k (PRG.take 311) 0 0 = if k < 1600 then 2 else 0 := fun k => by
  have e : PRG.take 311 = PRG.take (139) ++ (PRG.take 311).drop (139) := by decide +kernel
  have e2 : PRG.take (139) = PRG.take 138 ++ [(3, 65, 1600, 0, 2)] := by decide +kernel
  rw [e, rdI_app, rdI_skip _ _ _ (by decide +kernel) (by decide +kernel), e2, rdI_app]
  rfl
theorem G00_sz (i : Nat) : gN G00 1 i = 0 ∧ gN G00 21 i = 0 := ⟨rfl, rfl⟩
theorem G00_Lv {j k : Nat} (h : Lv G00 j k) : j ∈ [0, 1, 15, 16, 20, 21] := by
  have hj := dm_lt h.1
  have hz : szT.getD j 0 = 0 := by
    by_cases z : szT.getD j 0 = 0
    · exact z
    · exfalso
      have := h.2.1
      unfold szv at this
      rw [if_neg z] at this
      by_cases z2 : szT.getD j 0 ≤ 10
      · rw [if_pos z2, (G00_sz _).1] at this; omega
      · rw [if_neg z2, (G00_sz _).2] at this; omega
  have hd := h.1
  exact (by decide : ∀ j, j < 33 → szT.getD j 0 = 0 → ¬ dm j = 0 → j ∈ [0, 1, 15, 16, 20, 21]) j hj hz (by omega)
theorem G00_0 {j k : Nat} (h : ¬ j = 15) (h2 : ¬ j = 50) : G00 j k = 0 := by
  unfold G00
  rw [if_neg h, if_neg h2]
theorem start_RR : RR (cSt o 311) o G00 := by
  obtain ⟨f1, f2, ⟨f3, f4, f5⟩, ⟨f6, f7, f8⟩, f9, ⟨f10, f11, f12⟩, ⟨f13, f14, f15⟩, f16, f17⟩ := cSt_fix
  have tg : ∀ a, a < 124 → (cSt o 311).2.1 (o + a) = shT.getD a (99, 0) := fun a ha => cSt_tg (by rw [f1]; exact ha)
  refine ⟨⟨⟨tg, fun q hq => ?_⟩, fun j k q => ?_, fun j k q => ?_, fun t k _ _ => ?_, ⟨?_, fun k hk => ?_, ⟨?_, ?_, ?_⟩, ?_, ?_, ?_⟩, ?_⟩, fun j k q hj => ?_, ⟨fun k q => ?_, fun k q => ?_⟩, fun t ht => ?_⟩
  · rw [cSt_P, f2 q hq]; rfl
  · rw [cSt_I]; exact (cSt_val j (G00_Lv q) k q.1).1
  · rw [cSt_I]; exact (cSt_val j (G00_Lv q) k q.1).2
  · rw [cSt_J, cSt_J]
  · rw [cSt_I]; exact f6
  · rw [cSt_I]; exact f9 k hk
  · rw [cSt_I]; exact f10
  · rw [cSt_I]; exact f11
  · rw [cSt_I]; exact f12
  · rw [cSt_I]; exact f13
  · rw [cSt_I]; exact f14
  · rw [cSt_I]; exact f15
  · refine ⟨0, 0, 0, ⟨by decide, by decide, by decide⟩, ⟨rfl, rfl, rfl⟩, ?_, ⟨?_, ?_⟩, ⟨?_, ?_⟩, fun x hx => ?_⟩
    · rw [cSt_mz, f1]
    · rw [cSt_P, f3]; rfl
    · rw [cSt_P, f4]; rfl
    · rw [cSt_I, f7]; decide
    · rw [cSt_I, f8]; decide
    · have : x = 0 := by omega
      subst this
      have G5 : G00 (50 + 0) = g50 := funext fun i => by unfold G00; rw [if_neg (by decide), if_pos (by decide)]
      rw [G5]
      have hA0 : hA 0 = 64 := rfl
      have t64 : (cSt o 311).2.1 (o + 64) = (1, 0) := (tg 64 (by decide)).trans (by decide +kernel)
      have t65 : (cSt o 311).2.1 (o + (64 + 1)) = (20, 1600) := (tg (64 + 1) (by decide)).trans (by decide +kernel)
      have q0 : g50 1600 = nI (laV 2 [] 99) := by decide +kernel
      have q1 : g50 1601 = nI (laV 3 [] 10) := by decide +kernel
      show BX (cSt o 311) o 0 g50
      unfold BX
      rw [hA0]
      refine ⟨⟨t64, t65, ?_⟩, ⟨fun i hi => ?_, ?_, ?_⟩, [], ⟨fun c t m hc ht hm => ?_, q0, q1⟩, fun _ => rfl, fun b hb => absurd hb (by omega)⟩
      · show mP (cSt o 311) (o + 64) 0 = some (o + 65)
        rw [cSt_P, f5]; rfl
      · show mI (cSt o 311) (o + 65) i = g50 i
        rw [cSt_I, rd65, if_pos hi]
        exact (if_pos hi).symm
      · show mI (cSt o 311) (o + 64) 1 = g50 1600
        have q0 : g50 1600 = 99 := by decide +kernel
        rw [cSt_I, q0]; exact f16
      · show mI (cSt o 311) (o + 64) 2 = g50 1601
        have q1 : g50 1601 = 10 := by decide +kernel
        rw [cSt_I, q1]; exact f17
      · show some 2 = some (g50 _)
        unfold g50
        rw [if_pos (by omega)]
  · rw [G00_0 hj (by have := dm_lt q.1; omega)]; exact bd_nI (k := 0) (Nat.zero_le _)
  · have := G00_Lv q
    exact absurd this (by decide)
  · have := G00_Lv q
    exact absurd this (by decide)
  · exact ⟨Or.inl rfl, fun _ => rfl⟩
/-- the whole law, with no machine -/
theorem law_pure (o NL : Nat) (xs : Nat → Int32) (hL : NL ≤ 3072) : ∃ M' : QM, fn_L_law (QM0 o) NL xs = some (1, M') := by
  obtain ⟨M', h⟩ := law_loop (NL := NL) (xs := xs) hL (start_RR (o := o))
  refine ⟨M', ?_⟩
  have a0 : cSt o 0 = QM0 o := rfl
  have a1 : ∀ {α : Type} (f : QM → Nat → Option α), nO (QM0 o) 8 f = f (cSt o 1) (o + 0) := fun f => by
    rw [← a0]; exact cSt_nO (i := 0) (n := 0) (ci := 8) (by decide +kernel)
  have a2 : ∀ {α : Type} (f : Option α), ck (cSt o 1) (o + 0) 8 f = f := fun f => cSt_ck (by decide +kernel)
  have a3 : ∀ {α : Type} (f : QM → Nat → Option α), nO (cSt o 171) 9 f = f (cSt o (172)) (o + 78) := fun f => cSt_nO (by decide +kernel)
  have a4 : ∀ {α : Type} (f : Option α), ck (cSt o (172)) (o + 78) 9 f = f := fun f => cSt_ck (by decide +kernel)
  have a5 : fn_X9_init (cSt o (172)) (o + 78) = some (cSt o 311) := ci_X9_init
  unfold fn_L_law
  rw [a1, a2, ci_X8_init, bnd_s, a3, a4, a5, bnd_s]
  have h : itr (fun s18 : Int32 × QM => lp_L_law_18 NL xs (o + 0) (o + 78) s18.1 s18.2) FU (0, cSt o 311) = some (1, M') := h
  rw [h]; rfl
end CI2
